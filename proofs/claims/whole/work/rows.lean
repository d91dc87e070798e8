section
-- ===== PART A: goes FIRST, ahead of the names: the tables' words, and 'selects' of the private methods out of them =====
/-- a private method of a class that the tables say can be made, by its rows of tables_1 -/
def lw_okq (q : MethodName × Nat) : Prop := (q.1.cls ≠ "java/lang/invoke/MethodHandle" ∧ q.1.cls ≠ "java/lang/invoke/VarHandle") ∧ Cond.instantiable q.1.cls q.2 ∈ tables_1 ∧ Cond.privateMethod q.1 ∈ tables_1 ∧ Cond.instanceMethod q.1 ∈ tables_1
theorem lw_p0 : lw_okq (⟨"TwoShapes", "newTrial", "()LTwoShapes$Table;"⟩, 5) := ⟨⟨by decide +kernel, by decide +kernel⟩, List.mem_of_getElem? (i := 12) (by decide +kernel), List.mem_of_getElem? (i := 173) (by decide +kernel), List.mem_of_getElem? (i := 174) (by decide +kernel)⟩
theorem lw_p1 : lw_okq (⟨"TwoShapes", "settle", "(I)I"⟩, 5) := ⟨⟨by decide +kernel, by decide +kernel⟩, List.mem_of_getElem? (i := 12) (by decide +kernel), List.mem_of_getElem? (i := 203) (by decide +kernel), List.mem_of_getElem? (i := 204) (by decide +kernel)⟩
theorem lw_p2 : lw_okq (⟨"TwoShapes$Table", "put", "(II)I"⟩, 11) := ⟨⟨by decide +kernel, by decide +kernel⟩, List.mem_of_getElem? (i := 21) (by decide +kernel), List.mem_of_getElem? (i := 272) (by decide +kernel), List.mem_of_getElem? (i := 273) (by decide +kernel)⟩
theorem lw_p3 : lw_okq (⟨"TwoShapes$Table", "newerOf", "(I)I"⟩, 11) := ⟨⟨by decide +kernel, by decide +kernel⟩, List.mem_of_getElem? (i := 21) (by decide +kernel), List.mem_of_getElem? (i := 371) (by decide +kernel), List.mem_of_getElem? (i := 372) (by decide +kernel)⟩
theorem lw_p4 : lw_okq (⟨"TwoShapes$Orders", "readOrder", "(I)I"⟩, 7) := ⟨⟨by decide +kernel, by decide +kernel⟩, List.mem_of_getElem? (i := 121) (by decide +kernel), List.mem_of_getElem? (i := 495) (by decide +kernel), List.mem_of_getElem? (i := 496) (by decide +kernel)⟩
theorem lw_p5 : lw_okq (⟨"TwoShapes$Orders", "signAt", "(I)I"⟩, 7) := ⟨⟨by decide +kernel, by decide +kernel⟩, List.mem_of_getElem? (i := 121) (by decide +kernel), List.mem_of_getElem? (i := 499) (by decide +kernel), List.mem_of_getElem? (i := 500) (by decide +kernel)⟩
theorem lw_p6 : lw_okq (⟨"TwoShapes$Orders", "digitsEnd", "(I)I"⟩, 7) := ⟨⟨by decide +kernel, by decide +kernel⟩, List.mem_of_getElem? (i := 121) (by decide +kernel), List.mem_of_getElem? (i := 507) (by decide +kernel), List.mem_of_getElem? (i := 508) (by decide +kernel)⟩
theorem lw_p7 : lw_okq (⟨"TwoShapes$Orders", "valueOf", "(II)I"⟩, 7) := ⟨⟨by decide +kernel, by decide +kernel⟩, List.mem_of_getElem? (i := 121) (by decide +kernel), List.mem_of_getElem? (i := 511) (by decide +kernel), List.mem_of_getElem? (i := 512) (by decide +kernel)⟩
theorem lw_p8 : lw_okq (⟨"TwoShapes$Orders", "give", "(LTwoShapes$Table;)I"⟩, 7) := ⟨⟨by decide +kernel, by decide +kernel⟩, List.mem_of_getElem? (i := 121) (by decide +kernel), List.mem_of_getElem? (i := 515) (by decide +kernel), List.mem_of_getElem? (i := 516) (by decide +kernel)⟩
theorem lw_p9 : lw_okq (⟨"TwoShapesModel", "keeps", "()V"⟩, 12) := ⟨⟨by decide +kernel, by decide +kernel⟩, List.mem_of_getElem? (i := 535) (by decide +kernel), List.mem_of_getElem? (i := 584) (by decide +kernel), List.mem_of_getElem? (i := 585) (by decide +kernel)⟩
theorem lw_p10 : lw_okq (⟨"TwoShapesModel", "clears", "(I)V"⟩, 12) := ⟨⟨by decide +kernel, by decide +kernel⟩, List.mem_of_getElem? (i := 535) (by decide +kernel), List.mem_of_getElem? (i := 588) (by decide +kernel), List.mem_of_getElem? (i := 589) (by decide +kernel)⟩
theorem lw_p11 : lw_okq (⟨"TwoShapesModel", "rows", "(I)I"⟩, 12) := ⟨⟨by decide +kernel, by decide +kernel⟩, List.mem_of_getElem? (i := 535) (by decide +kernel), List.mem_of_getElem? (i := 592) (by decide +kernel), List.mem_of_getElem? (i := 593) (by decide +kernel)⟩
theorem lw_p12 : lw_okq (⟨"TwoShapesModel", "of", "(III)I"⟩, 12) := ⟨⟨by decide +kernel, by decide +kernel⟩, List.mem_of_getElem? (i := 535) (by decide +kernel), List.mem_of_getElem? (i := 596) (by decide +kernel), List.mem_of_getElem? (i := 597) (by decide +kernel)⟩
theorem lw_p13 : lw_okq (⟨"TwoShapesModel", "acted", "(I)I"⟩, 12) := ⟨⟨by decide +kernel, by decide +kernel⟩, List.mem_of_getElem? (i := 535) (by decide +kernel), List.mem_of_getElem? (i := 603) (by decide +kernel), List.mem_of_getElem? (i := 604) (by decide +kernel)⟩
theorem lw_p14 : lw_okq (⟨"TwoShapesModel", "turns", "()I"⟩, 12) := ⟨⟨by decide +kernel, by decide +kernel⟩, List.mem_of_getElem? (i := 535) (by decide +kernel), List.mem_of_getElem? (i := 612) (by decide +kernel), List.mem_of_getElem? (i := 613) (by decide +kernel)⟩
theorem lw_p15 : lw_okq (⟨"TwoShapesModel", "isReady", "()Z"⟩, 12) := ⟨⟨by decide +kernel, by decide +kernel⟩, List.mem_of_getElem? (i := 535) (by decide +kernel), List.mem_of_getElem? (i := 616) (by decide +kernel), List.mem_of_getElem? (i := 617) (by decide +kernel)⟩
def lw_privs_1 : List (MethodName × Nat) := [(⟨"TwoShapes", "newTrial", "()LTwoShapes$Table;"⟩, 5), (⟨"TwoShapes", "settle", "(I)I"⟩, 5), (⟨"TwoShapes$Table", "put", "(II)I"⟩, 11), (⟨"TwoShapes$Table", "newerOf", "(I)I"⟩, 11), (⟨"TwoShapes$Orders", "readOrder", "(I)I"⟩, 7), (⟨"TwoShapes$Orders", "signAt", "(I)I"⟩, 7), (⟨"TwoShapes$Orders", "digitsEnd", "(I)I"⟩, 7), (⟨"TwoShapes$Orders", "valueOf", "(II)I"⟩, 7), (⟨"TwoShapes$Orders", "give", "(LTwoShapes$Table;)I"⟩, 7), (⟨"TwoShapesModel", "keeps", "()V"⟩, 12), (⟨"TwoShapesModel", "clears", "(I)V"⟩, 12), (⟨"TwoShapesModel", "rows", "(I)I"⟩, 12), (⟨"TwoShapesModel", "of", "(III)I"⟩, 12), (⟨"TwoShapesModel", "acted", "(I)I"⟩, 12), (⟨"TwoShapesModel", "turns", "()I"⟩, 12), (⟨"TwoShapesModel", "isReady", "()Z"⟩, 12)]
theorem lw_r1 : ∀ q ∈ lw_privs_1, lw_okq q := List.forall_mem_cons.mpr ⟨lw_p0, List.forall_mem_cons.mpr ⟨lw_p1, List.forall_mem_cons.mpr ⟨lw_p2, List.forall_mem_cons.mpr ⟨lw_p3, List.forall_mem_cons.mpr ⟨lw_p4, List.forall_mem_cons.mpr ⟨lw_p5, List.forall_mem_cons.mpr ⟨lw_p6, List.forall_mem_cons.mpr ⟨lw_p7, List.forall_mem_cons.mpr ⟨lw_p8, List.forall_mem_cons.mpr ⟨lw_p9, List.forall_mem_cons.mpr ⟨lw_p10, List.forall_mem_cons.mpr ⟨lw_p11, List.forall_mem_cons.mpr ⟨lw_p12, List.forall_mem_cons.mpr ⟨lw_p13, List.forall_mem_cons.mpr ⟨lw_p14, List.forall_mem_cons.mpr ⟨lw_p15, fun _ h => absurd h List.not_mem_nil⟩⟩⟩⟩⟩⟩⟩⟩⟩⟩⟩⟩⟩⟩⟩⟩
theorem lw_p16 : lw_okq (⟨"TwoShapesModel", "differing", "()I"⟩, 12) := ⟨⟨by decide +kernel, by decide +kernel⟩, List.mem_of_getElem? (i := 535) (by decide +kernel), List.mem_of_getElem? (i := 620) (by decide +kernel), List.mem_of_getElem? (i := 621) (by decide +kernel)⟩
theorem lw_p17 : lw_okq (⟨"TwoShapesModel", "differs", "(I)Z"⟩, 12) := ⟨⟨by decide +kernel, by decide +kernel⟩, List.mem_of_getElem? (i := 535) (by decide +kernel), List.mem_of_getElem? (i := 624) (by decide +kernel), List.mem_of_getElem? (i := 625) (by decide +kernel)⟩
theorem lw_p18 : lw_okq (⟨"TwoShapesModel", "takes", "(II)V"⟩, 12) := ⟨⟨by decide +kernel, by decide +kernel⟩, List.mem_of_getElem? (i := 535) (by decide +kernel), List.mem_of_getElem? (i := 628) (by decide +kernel), List.mem_of_getElem? (i := 629) (by decide +kernel)⟩
theorem lw_p19 : lw_okq (⟨"TwoShapesModel", "makes", "(II)V"⟩, 12) := ⟨⟨by decide +kernel, by decide +kernel⟩, List.mem_of_getElem? (i := 535) (by decide +kernel), List.mem_of_getElem? (i := 632) (by decide +kernel), List.mem_of_getElem? (i := 633) (by decide +kernel)⟩
theorem lw_p20 : lw_okq (⟨"TwoShapesModel", "turnsBack", "()I"⟩, 12) := ⟨⟨by decide +kernel, by decide +kernel⟩, List.mem_of_getElem? (i := 535) (by decide +kernel), List.mem_of_getElem? (i := 640) (by decide +kernel), List.mem_of_getElem? (i := 641) (by decide +kernel)⟩
theorem lw_p21 : lw_okq (⟨"TwoShapesModel", "areBoth", "()Z"⟩, 12) := ⟨⟨by decide +kernel, by decide +kernel⟩, List.mem_of_getElem? (i := 535) (by decide +kernel), List.mem_of_getElem? (i := 644) (by decide +kernel), List.mem_of_getElem? (i := 645) (by decide +kernel)⟩
theorem lw_p22 : lw_okq (⟨"TwoShapesModel", "strange", "()I"⟩, 12) := ⟨⟨by decide +kernel, by decide +kernel⟩, List.mem_of_getElem? (i := 535) (by decide +kernel), List.mem_of_getElem? (i := 652) (by decide +kernel), List.mem_of_getElem? (i := 653) (by decide +kernel)⟩
theorem lw_p23 : lw_okq (⟨"TwoShapesModel", "writesOld", "(IIII)I"⟩, 12) := ⟨⟨by decide +kernel, by decide +kernel⟩, List.mem_of_getElem? (i := 535) (by decide +kernel), List.mem_of_getElem? (i := 660) (by decide +kernel), List.mem_of_getElem? (i := 661) (by decide +kernel)⟩
theorem lw_p24 : lw_okq (⟨"TwoShapesModel", "writes", "(IIIII)I"⟩, 12) := ⟨⟨by decide +kernel, by decide +kernel⟩, List.mem_of_getElem? (i := 535) (by decide +kernel), List.mem_of_getElem? (i := 670) (by decide +kernel), List.mem_of_getElem? (i := 671) (by decide +kernel)⟩
theorem lw_p25 : lw_okq (⟨"TwoShapesModel", "comes", "(IIZ)I"⟩, 12) := ⟨⟨by decide +kernel, by decide +kernel⟩, List.mem_of_getElem? (i := 535) (by decide +kernel), List.mem_of_getElem? (i := 674) (by decide +kernel), List.mem_of_getElem? (i := 675) (by decide +kernel)⟩
theorem lw_p26 : lw_okq (⟨"TwoShapesModel", "first", "()I"⟩, 12) := ⟨⟨by decide +kernel, by decide +kernel⟩, List.mem_of_getElem? (i := 535) (by decide +kernel), List.mem_of_getElem? (i := 680) (by decide +kernel), List.mem_of_getElem? (i := 681) (by decide +kernel)⟩
theorem lw_p27 : lw_okq (⟨"TwoShapesModel", "lays", "(III)V"⟩, 12) := ⟨⟨by decide +kernel, by decide +kernel⟩, List.mem_of_getElem? (i := 535) (by decide +kernel), List.mem_of_getElem? (i := 684) (by decide +kernel), List.mem_of_getElem? (i := 685) (by decide +kernel)⟩
theorem lw_p28 : lw_okq (⟨"TwoShapesModel", "writesNew", "(III)I"⟩, 12) := ⟨⟨by decide +kernel, by decide +kernel⟩, List.mem_of_getElem? (i := 535) (by decide +kernel), List.mem_of_getElem? (i := 692) (by decide +kernel), List.mem_of_getElem? (i := 693) (by decide +kernel)⟩
theorem lw_p29 : lw_okq (⟨"TwoShapesModel", "removes", "(I)I"⟩, 12) := ⟨⟨by decide +kernel, by decide +kernel⟩, List.mem_of_getElem? (i := 535) (by decide +kernel), List.mem_of_getElem? (i := 700) (by decide +kernel), List.mem_of_getElem? (i := 701) (by decide +kernel)⟩
theorem lw_p30 : lw_okq (⟨"TwoShapesModel", "drains", "(I)I"⟩, 12) := ⟨⟨by decide +kernel, by decide +kernel⟩, List.mem_of_getElem? (i := 535) (by decide +kernel), List.mem_of_getElem? (i := 708) (by decide +kernel), List.mem_of_getElem? (i := 709) (by decide +kernel)⟩
theorem lw_p31 : lw_okq (⟨"TwoShapesModel", "drainsOne", "()V"⟩, 12) := ⟨⟨by decide +kernel, by decide +kernel⟩, List.mem_of_getElem? (i := 535) (by decide +kernel), List.mem_of_getElem? (i := 712) (by decide +kernel), List.mem_of_getElem? (i := 713) (by decide +kernel)⟩
def lw_privs_2 : List (MethodName × Nat) := [(⟨"TwoShapesModel", "differing", "()I"⟩, 12), (⟨"TwoShapesModel", "differs", "(I)Z"⟩, 12), (⟨"TwoShapesModel", "takes", "(II)V"⟩, 12), (⟨"TwoShapesModel", "makes", "(II)V"⟩, 12), (⟨"TwoShapesModel", "turnsBack", "()I"⟩, 12), (⟨"TwoShapesModel", "areBoth", "()Z"⟩, 12), (⟨"TwoShapesModel", "strange", "()I"⟩, 12), (⟨"TwoShapesModel", "writesOld", "(IIII)I"⟩, 12), (⟨"TwoShapesModel", "writes", "(IIIII)I"⟩, 12), (⟨"TwoShapesModel", "comes", "(IIZ)I"⟩, 12), (⟨"TwoShapesModel", "first", "()I"⟩, 12), (⟨"TwoShapesModel", "lays", "(III)V"⟩, 12), (⟨"TwoShapesModel", "writesNew", "(III)I"⟩, 12), (⟨"TwoShapesModel", "removes", "(I)I"⟩, 12), (⟨"TwoShapesModel", "drains", "(I)I"⟩, 12), (⟨"TwoShapesModel", "drainsOne", "()V"⟩, 12)]
theorem lw_r2 : ∀ q ∈ lw_privs_2, lw_okq q := List.forall_mem_cons.mpr ⟨lw_p16, List.forall_mem_cons.mpr ⟨lw_p17, List.forall_mem_cons.mpr ⟨lw_p18, List.forall_mem_cons.mpr ⟨lw_p19, List.forall_mem_cons.mpr ⟨lw_p20, List.forall_mem_cons.mpr ⟨lw_p21, List.forall_mem_cons.mpr ⟨lw_p22, List.forall_mem_cons.mpr ⟨lw_p23, List.forall_mem_cons.mpr ⟨lw_p24, List.forall_mem_cons.mpr ⟨lw_p25, List.forall_mem_cons.mpr ⟨lw_p26, List.forall_mem_cons.mpr ⟨lw_p27, List.forall_mem_cons.mpr ⟨lw_p28, List.forall_mem_cons.mpr ⟨lw_p29, List.forall_mem_cons.mpr ⟨lw_p30, List.forall_mem_cons.mpr ⟨lw_p31, fun _ h => absurd h List.not_mem_nil⟩⟩⟩⟩⟩⟩⟩⟩⟩⟩⟩⟩⟩⟩⟩⟩
theorem lw_p32 : lw_okq (⟨"TwoShapesModel", "backfills", "(I)I"⟩, 12) := ⟨⟨by decide +kernel, by decide +kernel⟩, List.mem_of_getElem? (i := 535) (by decide +kernel), List.mem_of_getElem? (i := 720) (by decide +kernel), List.mem_of_getElem? (i := 721) (by decide +kernel)⟩
theorem lw_p33 : lw_okq (⟨"TwoShapesModel", "gets", "(II)V"⟩, 12) := ⟨⟨by decide +kernel, by decide +kernel⟩, List.mem_of_getElem? (i := 535) (by decide +kernel), List.mem_of_getElem? (i := 724) (by decide +kernel), List.mem_of_getElem? (i := 725) (by decide +kernel)⟩
theorem lw_p34 : lw_okq (⟨"TwoShapesModel", "mends", "(I)I"⟩, 12) := ⟨⟨by decide +kernel, by decide +kernel⟩, List.mem_of_getElem? (i := 535) (by decide +kernel), List.mem_of_getElem? (i := 736) (by decide +kernel), List.mem_of_getElem? (i := 737) (by decide +kernel)⟩
theorem lw_p35 : lw_okq (⟨"TwoShapesModel", "latest", "(I)I"⟩, 12) := ⟨⟨by decide +kernel, by decide +kernel⟩, List.mem_of_getElem? (i := 535) (by decide +kernel), List.mem_of_getElem? (i := 740) (by decide +kernel), List.mem_of_getElem? (i := 741) (by decide +kernel)⟩
theorem lw_p36 : lw_okq (⟨"TwoShapesModel", "reads", "(II)Z"⟩, 12) := ⟨⟨by decide +kernel, by decide +kernel⟩, List.mem_of_getElem? (i := 535) (by decide +kernel), List.mem_of_getElem? (i := 748) (by decide +kernel), List.mem_of_getElem? (i := 749) (by decide +kernel)⟩
theorem lw_p37 : lw_okq (⟨"TwoShapesModel", "isThere", "(I)Z"⟩, 12) := ⟨⟨by decide +kernel, by decide +kernel⟩, List.mem_of_getElem? (i := 535) (by decide +kernel), List.mem_of_getElem? (i := 752) (by decide +kernel), List.mem_of_getElem? (i := 753) (by decide +kernel)⟩
theorem lw_p38 : lw_okq (⟨"TwoShapesModel", "readable", "(I)I"⟩, 12) := ⟨⟨by decide +kernel, by decide +kernel⟩, List.mem_of_getElem? (i := 535) (by decide +kernel), List.mem_of_getElem? (i := 769) (by decide +kernel), List.mem_of_getElem? (i := 770) (by decide +kernel)⟩
theorem lw_p39 : lw_okq (⟨"TwoShapesModel", "quarrels", "(I)Z"⟩, 12) := ⟨⟨by decide +kernel, by decide +kernel⟩, List.mem_of_getElem? (i := 535) (by decide +kernel), List.mem_of_getElem? (i := 781) (by decide +kernel), List.mem_of_getElem? (i := 782) (by decide +kernel)⟩
theorem lw_p40 : lw_okq (⟨"TwoShapesModel", "known", "()I"⟩, 12) := ⟨⟨by decide +kernel, by decide +kernel⟩, List.mem_of_getElem? (i := 535) (by decide +kernel), List.mem_of_getElem? (i := 804) (by decide +kernel), List.mem_of_getElem? (i := 805) (by decide +kernel)⟩
theorem lw_p41 : lw_okq (⟨"TwoShapesModel", "faulty", "()I"⟩, 12) := ⟨⟨by decide +kernel, by decide +kernel⟩, List.mem_of_getElem? (i := 535) (by decide +kernel), List.mem_of_getElem? (i := 824) (by decide +kernel), List.mem_of_getElem? (i := 825) (by decide +kernel)⟩
theorem lw_p42 : lw_okq (⟨"TwoShapesModel", "doesNext", "()I"⟩, 12) := ⟨⟨by decide +kernel, by decide +kernel⟩, List.mem_of_getElem? (i := 535) (by decide +kernel), List.mem_of_getElem? (i := 828) (by decide +kernel), List.mem_of_getElem? (i := 829) (by decide +kernel)⟩
theorem lw_p43 : lw_okq (⟨"TwoShapesModel", "readsForm", "(C)Z"⟩, 12) := ⟨⟨by decide +kernel, by decide +kernel⟩, List.mem_of_getElem? (i := 535) (by decide +kernel), List.mem_of_getElem? (i := 832) (by decide +kernel), List.mem_of_getElem? (i := 833) (by decide +kernel)⟩
theorem lw_p44 : lw_okq (⟨"TwoShapesModel", "has", "(C)Z"⟩, 12) := ⟨⟨by decide +kernel, by decide +kernel⟩, List.mem_of_getElem? (i := 535) (by decide +kernel), List.mem_of_getElem? (i := 836) (by decide +kernel), List.mem_of_getElem? (i := 837) (by decide +kernel)⟩
theorem lw_p45 : lw_okq (⟨"TwoShapesModel", "number", "(I)Z"⟩, 12) := ⟨⟨by decide +kernel, by decide +kernel⟩, List.mem_of_getElem? (i := 535) (by decide +kernel), List.mem_of_getElem? (i := 840) (by decide +kernel), List.mem_of_getElem? (i := 841) (by decide +kernel)⟩
theorem lw_p46 : lw_okq (⟨"TwoShapesModel", "does", "(C)I"⟩, 12) := ⟨⟨by decide +kernel, by decide +kernel⟩, List.mem_of_getElem? (i := 535) (by decide +kernel), List.mem_of_getElem? (i := 844) (by decide +kernel), List.mem_of_getElem? (i := 845) (by decide +kernel)⟩
theorem lw_p47 : lw_okq (⟨"TwoShapesModel", "restores", "()V"⟩, 12) := ⟨⟨by decide +kernel, by decide +kernel⟩, List.mem_of_getElem? (i := 535) (by decide +kernel), List.mem_of_getElem? (i := 848) (by decide +kernel), List.mem_of_getElem? (i := 849) (by decide +kernel)⟩
def lw_privs_3 : List (MethodName × Nat) := [(⟨"TwoShapesModel", "backfills", "(I)I"⟩, 12), (⟨"TwoShapesModel", "gets", "(II)V"⟩, 12), (⟨"TwoShapesModel", "mends", "(I)I"⟩, 12), (⟨"TwoShapesModel", "latest", "(I)I"⟩, 12), (⟨"TwoShapesModel", "reads", "(II)Z"⟩, 12), (⟨"TwoShapesModel", "isThere", "(I)Z"⟩, 12), (⟨"TwoShapesModel", "readable", "(I)I"⟩, 12), (⟨"TwoShapesModel", "quarrels", "(I)Z"⟩, 12), (⟨"TwoShapesModel", "known", "()I"⟩, 12), (⟨"TwoShapesModel", "faulty", "()I"⟩, 12), (⟨"TwoShapesModel", "doesNext", "()I"⟩, 12), (⟨"TwoShapesModel", "readsForm", "(C)Z"⟩, 12), (⟨"TwoShapesModel", "has", "(C)Z"⟩, 12), (⟨"TwoShapesModel", "number", "(I)Z"⟩, 12), (⟨"TwoShapesModel", "does", "(C)I"⟩, 12), (⟨"TwoShapesModel", "restores", "()V"⟩, 12)]
theorem lw_r3 : ∀ q ∈ lw_privs_3, lw_okq q := List.forall_mem_cons.mpr ⟨lw_p32, List.forall_mem_cons.mpr ⟨lw_p33, List.forall_mem_cons.mpr ⟨lw_p34, List.forall_mem_cons.mpr ⟨lw_p35, List.forall_mem_cons.mpr ⟨lw_p36, List.forall_mem_cons.mpr ⟨lw_p37, List.forall_mem_cons.mpr ⟨lw_p38, List.forall_mem_cons.mpr ⟨lw_p39, List.forall_mem_cons.mpr ⟨lw_p40, List.forall_mem_cons.mpr ⟨lw_p41, List.forall_mem_cons.mpr ⟨lw_p42, List.forall_mem_cons.mpr ⟨lw_p43, List.forall_mem_cons.mpr ⟨lw_p44, List.forall_mem_cons.mpr ⟨lw_p45, List.forall_mem_cons.mpr ⟨lw_p46, List.forall_mem_cons.mpr ⟨lw_p47, fun _ h => absurd h List.not_mem_nil⟩⟩⟩⟩⟩⟩⟩⟩⟩⟩⟩⟩⟩⟩⟩⟩
def lw_privs : List (MethodName × Nat) := lw_privs_1 ++ (lw_privs_2 ++ (lw_privs_3))
def lw_tbl : List Cond := k2_sels lw_privs ++ tables_1
theorem lw_privs_ok : ∀ q ∈ lw_privs, lw_okq q := by
  show ∀ q ∈ lw_privs_1 ++ (lw_privs_2 ++ (lw_privs_3)), lw_okq q
  exact List.forall_mem_append.mpr ⟨lw_r1, List.forall_mem_append.mpr ⟨lw_r2, lw_r3⟩⟩

/-! ===== BEGIN words of one list among another's, by their places ===== -/
/-! ===== END ===== -/

/-! ===== BEGIN printed: names, fields, word lists, decode rows ===== -/
def RX0 : String := "TwoShapes$Orders"
def TX0 : u_T := fun k => match k with
  | 0 => ("TwoShapes$Orders", "length", "I", false)
  | 1 => ("TwoShapes$Orders", "text", "[I", true)
  | 2 => ("TwoShapes$Orders", "given", "I", false)
  | 3 => ("TwoShapes$Orders", "place", "I", false)
  | 4 => ("TwoShapes$Orders", "reason", "I", false)
  | 5 => ("TwoShapes$Orders", "kind", "I", false)
  | _ => ("TwoShapes$Orders", "number", "[I", true)
def tyX0 : Nat → FieldType := fun k => match k with
  | 0 => .int
  | 1 => .array .int
  | 2 => .int
  | 3 => .int
  | 4 => .int
  | 5 => .int
  | _ => .array .int
abbrev wsX00 : List Cond := u_ws RX0 TX0 7
theorem nmX0 : ∀ a, a < 7 → ∀ b, b < 7 → a ≠ b → (TX0 a).2.1 ≠ (TX0 b).2.1 := by decide +kernel
theorem tyX0_ok : ∀ k, k < 7 → parseFieldDescriptor (TX0 k).2.2.1 = some (tyX0 k) := by decide +kernel
abbrev cX0_init : ByteArray := prog_2_method_1_code
def yX0_init : MethodName := ⟨RX0, "<init>", "()V"⟩
abbrev cX0_append : ByteArray := prog_2_method_2_code
def yX0_append : MethodName := ⟨RX0, "append", "(I)V"⟩
abbrev cX0_giveAll : ByteArray := prog_2_method_3_code
def yX0_giveAll : MethodName := ⟨RX0, "giveAll", "(LTwoShapes$Table;)V"⟩
abbrev cX0_reasonOf : ByteArray := prog_2_method_4_code
def yX0_reasonOf : MethodName := ⟨RX0, "reasonOf", "(I)I"⟩
abbrev cX0_give : ByteArray := prog_2_method_5_code
def yX0_give : MethodName := ⟨RX0, "give", "(LTwoShapes$Table;)I"⟩
abbrev cX0_numbersOf : ByteArray := prog_2_method_6_code
def yX0_numbersOf : MethodName := ⟨RX0, "numbersOf", "(I)I"⟩
abbrev cX0_readOrder : ByteArray := prog_2_method_7_code
def yX0_readOrder : MethodName := ⟨RX0, "readOrder", "(I)I"⟩
abbrev cX0_digitsEnd : ByteArray := prog_2_method_8_code
def yX0_digitsEnd : MethodName := ⟨RX0, "digitsEnd", "(I)I"⟩
abbrev cX0_valueOf : ByteArray := prog_2_method_9_code
def yX0_valueOf : MethodName := ⟨RX0, "valueOf", "(II)I"⟩
abbrev cX0_signAt : ByteArray := prog_2_method_10_code
def yX0_signAt : MethodName := ⟨RX0, "signAt", "(I)I"⟩
def RX1 : String := "TwoShapes$Queue"
def TX1 : u_T := fun k => match k with
  | 0 => ("TwoShapes$Queue", "length", "I", false)
  | 1 => ("TwoShapes$Queue", "key", "[I", true)
  | 2 => ("TwoShapes$Queue", "version", "[I", true)
  | _ => ("TwoShapes$Queue", "row", "[I", true)
def tyX1 : Nat → FieldType := fun k => match k with
  | 0 => .int
  | 1 => .array .int
  | 2 => .array .int
  | _ => .array .int
abbrev wsX10 : List Cond := u_ws RX1 TX1 4
theorem nmX1 : ∀ a, a < 4 → ∀ b, b < 4 → a ≠ b → (TX1 a).2.1 ≠ (TX1 b).2.1 := by decide +kernel
theorem tyX1_ok : ∀ k, k < 4 → parseFieldDescriptor (TX1 k).2.2.1 = some (tyX1 k) := by decide +kernel
abbrev cX1_init : ByteArray := prog_3_method_1_code
def yX1_init : MethodName := ⟨RX1, "<init>", "()V"⟩
abbrev cX1_copyFrom : ByteArray := prog_3_method_2_code
def yX1_copyFrom : MethodName := ⟨RX1, "copyFrom", "(LTwoShapes$Queue;)V"⟩
abbrev cX1_append : ByteArray := prog_3_method_3_code
def yX1_append : MethodName := ⟨RX1, "append", "(III)V"⟩
abbrev cX1_shorten : ByteArray := prog_3_method_4_code
def yX1_shorten : MethodName := ⟨RX1, "shorten", "(I)V"⟩
abbrev cX1_latestOf : ByteArray := prog_3_method_5_code
def yX1_latestOf : MethodName := ⟨RX1, "latestOf", "(I)I"⟩
def RX2 : String := "TwoShapes$Row"
def TX2 : u_T := fun k => match k with
  | _ => ("", "", "", false)
def tyX2 : Nat → FieldType := fun k => match k with
  | _ => .int
abbrev wsX20 : List Cond := u_ws RX2 TX2 0
theorem nmX2 : ∀ a, a < 0 → ∀ b, b < 0 → a ≠ b → (TX2 a).2.1 ≠ (TX2 b).2.1 := by decide +kernel
theorem tyX2_ok : ∀ k, k < 0 → parseFieldDescriptor (TX2 k).2.2.1 = some (tyX2 k) := by decide +kernel
abbrev cX2_ofOld : ByteArray := prog_4_method_2_code
def yX2_ofOld : MethodName := ⟨RX2, "ofOld", "(III)I"⟩
abbrev cX2_ofNew : ByteArray := prog_4_method_3_code
def yX2_ofNew : MethodName := ⟨RX2, "ofNew", "(II)I"⟩
abbrev cX2_isStrange : ByteArray := prog_4_method_4_code
def yX2_isStrange : MethodName := ⟨RX2, "isStrange", "(I)Z"⟩
abbrev cX2_madeOver : ByteArray := prog_4_method_5_code
def yX2_madeOver : MethodName := ⟨RX2, "madeOver", "(II)I"⟩
abbrev cX2_number : ByteArray := prog_4_method_6_code
def yX2_number : MethodName := ⟨RX2, "number", "(III)I"⟩
def RX3 : String := "TwoShapes$Shape"
def TX3 : u_T := fun k => match k with
  | 0 => ("TwoShapes$Shape", "number", "I", true)
  | 1 => ("TwoShapes$Shape", "version", "[I", true)
  | _ => ("TwoShapes$Shape", "row", "[I", true)
def tyX3 : Nat → FieldType := fun k => match k with
  | 0 => .int
  | 1 => .array .int
  | _ => .array .int
abbrev wsX30 : List Cond := u_ws RX3 TX3 3
theorem nmX3 : ∀ a, a < 3 → ∀ b, b < 3 → a ≠ b → (TX3 a).2.1 ≠ (TX3 b).2.1 := by decide +kernel
theorem tyX3_ok : ∀ k, k < 3 → parseFieldDescriptor (TX3 k).2.2.1 = some (tyX3 k) := by decide +kernel
abbrev cX3_init : ByteArray := prog_5_method_1_code
def yX3_init : MethodName := ⟨RX3, "<init>", "(I)V"⟩
abbrev cX3_clear : ByteArray := prog_5_method_2_code
def yX3_clear : MethodName := ⟨RX3, "clear", "()V"⟩
abbrev cX3_copyFrom : ByteArray := prog_5_method_3_code
def yX3_copyFrom : MethodName := ⟨RX3, "copyFrom", "(LTwoShapes$Shape;)V"⟩
abbrev cX3_take : ByteArray := prog_5_method_4_code
def yX3_take : MethodName := ⟨RX3, "take", "(III)V"⟩
abbrev cX3_takeFrom : ByteArray := prog_5_method_5_code
def yX3_takeFrom : MethodName := ⟨RX3, "takeFrom", "(LTwoShapes$Shape;I)V"⟩
abbrev cX3_rows : ByteArray := prog_5_method_6_code
def yX3_rows : MethodName := ⟨RX3, "rows", "()I"⟩
abbrev cX3_strangeRows : ByteArray := prog_5_method_7_code
def yX3_strangeRows : MethodName := ⟨RX3, "strangeRows", "()I"⟩
abbrev cX3_known : ByteArray := prog_5_method_8_code
def yX3_known : MethodName := ⟨RX3, "known", "()I"⟩
def RX4 : String := "TwoShapes$Table"
def TX4 : u_T := fun k => match k with
  | 0 => ("TwoShapes$Table", "phase", "I", false)
  | 1 => ("TwoShapes$Table", "latest", "I", false)
  | 2 => ("TwoShapes$Table", "pointer", "I", false)
  | 3 => ("TwoShapes$Table", "lost", "I", false)
  | 4 => ("TwoShapes$Table", "oldShape", "LTwoShapes$Shape;", true)
  | 5 => ("TwoShapes$Table", "newShape", "LTwoShapes$Shape;", true)
  | 6 => ("TwoShapes$Table", "queue", "LTwoShapes$Queue;", true)
  | 7 => ("TwoShapes$Table", "written", "[I", true)
  | 8 => ("TwoShapes$Table", "walks", "I", false)
  | 9 => ("TwoShapes$Table", "walkCostume", "[I", true)
  | _ => ("TwoShapes$Table", "walkKey", "[I", true)
def tyX4 : Nat → FieldType := fun k => match k with
  | 0 => .int
  | 1 => .int
  | 2 => .int
  | 3 => .int
  | 4 => .object "TwoShapes$Shape"
  | 5 => .object "TwoShapes$Shape"
  | 6 => .object "TwoShapes$Queue"
  | 7 => .array .int
  | 8 => .int
  | 9 => .array .int
  | _ => .array .int
abbrev wsX40 : List Cond := u_ws RX4 TX4 11
theorem nmX4 : ∀ a, a < 11 → ∀ b, b < 11 → a ≠ b → (TX4 a).2.1 ≠ (TX4 b).2.1 := by decide +kernel
theorem tyX4_ok : ∀ k, k < 11 → parseFieldDescriptor (TX4 k).2.2.1 = some (tyX4 k) := by decide +kernel
abbrev cX4_init : ByteArray := prog_6_method_1_code
def yX4_init : MethodName := ⟨RX4, "<init>", "()V"⟩
abbrev cX4_copyFrom : ByteArray := prog_6_method_2_code
def yX4_copyFrom : MethodName := ⟨RX4, "copyFrom", "(LTwoShapes$Table;)V"⟩
abbrev cX4_hasBoth : ByteArray := prog_6_method_3_code
def yX4_hasBoth : MethodName := ⟨RX4, "hasBoth", "()Z"⟩
abbrev cX4_isThere : ByteArray := prog_6_method_4_code
def yX4_isThere : MethodName := ⟨RX4, "isThere", "(I)Z"⟩
abbrev cX4_first : ByteArray := prog_6_method_5_code
def yX4_first : MethodName := ⟨RX4, "first", "()I"⟩
abbrev cX4_second : ByteArray := prog_6_method_6_code
def yX4_second : MethodName := ⟨RX4, "second", "()I"⟩
abbrev cX4_other : ByteArray := prog_6_method_7_code
def yX4_other : MethodName := ⟨RX4, "other", "(I)I"⟩
abbrev cX4_shape : ByteArray := prog_6_method_8_code
def yX4_shape : MethodName := ⟨RX4, "shape", "(I)LTwoShapes$Shape;"⟩
abbrev cX4_startChange : ByteArray := prog_6_method_9_code
def yX4_startChange : MethodName := ⟨RX4, "startChange", "()I"⟩
abbrev cX4_isReady : ByteArray := prog_6_method_10_code
def yX4_isReady : MethodName := ⟨RX4, "isReady", "()Z"⟩
abbrev cX4_turnOver : ByteArray := prog_6_method_11_code
def yX4_turnOver : MethodName := ⟨RX4, "turnOver", "()I"⟩
abbrev cX4_turnBack : ByteArray := prog_6_method_12_code
def yX4_turnBack : MethodName := ⟨RX4, "turnBack", "()I"⟩
abbrev cX4_dropOld : ByteArray := prog_6_method_13_code
def yX4_dropOld : MethodName := ⟨RX4, "dropOld", "()I"⟩
abbrev cX4_putOld : ByteArray := prog_6_method_14_code
def yX4_putOld : MethodName := ⟨RX4, "putOld", "(IIII)I"⟩
abbrev cX4_putNew : ByteArray := prog_6_method_15_code
def yX4_putNew : MethodName := ⟨RX4, "putNew", "(III)I"⟩
abbrev cX4_takeAway : ByteArray := prog_6_method_16_code
def yX4_takeAway : MethodName := ⟨RX4, "takeAway", "(I)I"⟩
abbrev cX4_put : ByteArray := prog_6_method_17_code
def yX4_put : MethodName := ⟨RX4, "put", "(II)I"⟩
abbrev cX4_drainQueue : ByteArray := prog_6_method_18_code
def yX4_drainQueue : MethodName := ⟨RX4, "drainQueue", "(I)I"⟩
abbrev cX4_fillKeys : ByteArray := prog_6_method_19_code
def yX4_fillKeys : MethodName := ⟨RX4, "fillKeys", "(I)I"⟩
abbrev cX4_loseQueue : ByteArray := prog_6_method_20_code
def yX4_loseQueue : MethodName := ⟨RX4, "loseQueue", "()I"⟩
abbrev cX4_mendKey : ByteArray := prog_6_method_21_code
def yX4_mendKey : MethodName := ⟨RX4, "mendKey", "(I)I"⟩
abbrev cX4_newerOf : ByteArray := prog_6_method_22_code
def yX4_newerOf : MethodName := ⟨RX4, "newerOf", "(I)I"⟩
abbrev cX4_rowRead : ByteArray := prog_6_method_23_code
def yX4_rowRead : MethodName := ⟨RX4, "rowRead", "(II)I"⟩
abbrev cX4_keysRead : ByteArray := prog_6_method_24_code
def yX4_keysRead : MethodName := ⟨RX4, "keysRead", "(I)I"⟩
abbrev cX4_quarrelling : ByteArray := prog_6_method_25_code
def yX4_quarrelling : MethodName := ⟨RX4, "quarrelling", "()I"⟩
abbrev cX4_differing : ByteArray := prog_6_method_26_code
def yX4_differing : MethodName := ⟨RX4, "differing", "()I"⟩
abbrev cX4_risky : ByteArray := prog_6_method_27_code
def yX4_risky : MethodName := ⟨RX4, "risky", "()I"⟩
abbrev cX4_startWalk : ByteArray := prog_6_method_28_code
def yX4_startWalk : MethodName := ⟨RX4, "startWalk", "(II)I"⟩
abbrev cX4_goOn : ByteArray := prog_6_method_29_code
def yX4_goOn : MethodName := ⟨RX4, "goOn", "(I)I"⟩
def RX5 : String := "TwoShapes"
def TX5 : u_T := fun k => match k with
  | 0 => ("TwoShapes", "history", "[LTwoShapes$Table;", true)
  | 1 => ("TwoShapes", "states", "I", false)
  | 2 => ("TwoShapes", "now", "LTwoShapes$Table;", false)
  | 3 => ("TwoShapes", "trial", "LTwoShapes$Table;", false)
  | _ => ("TwoShapes", "orders", "LTwoShapes$Orders;", true)
def tyX5 : Nat → FieldType := fun k => match k with
  | 0 => .array (.object "TwoShapes$Table")
  | 1 => .int
  | 2 => .object "TwoShapes$Table"
  | 3 => .object "TwoShapes$Table"
  | _ => .object "TwoShapes$Orders"
abbrev wsX50 : List Cond := u_ws RX5 TX5 5
theorem nmX5 : ∀ a, a < 5 → ∀ b, b < 5 → a ≠ b → (TX5 a).2.1 ≠ (TX5 b).2.1 := by decide +kernel
theorem tyX5_ok : ∀ k, k < 5 → parseFieldDescriptor (TX5 k).2.2.1 = some (tyX5 k) := by decide +kernel
abbrev cX5_init : ByteArray := prog_1_method_1_code
def yX5_init : MethodName := ⟨RX5, "<init>", "()V"⟩
abbrev cX5_begin : ByteArray := prog_1_method_2_code
def yX5_begin : MethodName := ⟨RX5, "begin", "()I"⟩
abbrev cX5_turn : ByteArray := prog_1_method_3_code
def yX5_turn : MethodName := ⟨RX5, "turn", "()I"⟩
abbrev cX5_back : ByteArray := prog_1_method_4_code
def yX5_back : MethodName := ⟨RX5, "back", "()I"⟩
abbrev cX5_drop : ByteArray := prog_1_method_5_code
def yX5_drop : MethodName := ⟨RX5, "drop", "()I"⟩
abbrev cX5_writeOld : ByteArray := prog_1_method_6_code
def yX5_writeOld : MethodName := ⟨RX5, "writeOld", "(IIII)I"⟩
abbrev cX5_writeNew : ByteArray := prog_1_method_7_code
def yX5_writeNew : MethodName := ⟨RX5, "writeNew", "(III)I"⟩
abbrev cX5_remove : ByteArray := prog_1_method_8_code
def yX5_remove : MethodName := ⟨RX5, "remove", "(I)I"⟩
abbrev cX5_drain : ByteArray := prog_1_method_9_code
def yX5_drain : MethodName := ⟨RX5, "drain", "(I)I"⟩
abbrev cX5_backfill : ByteArray := prog_1_method_10_code
def yX5_backfill : MethodName := ⟨RX5, "backfill", "(I)I"⟩
abbrev cX5_crash : ByteArray := prog_1_method_11_code
def yX5_crash : MethodName := ⟨RX5, "crash", "()I"⟩
abbrev cX5_mend : ByteArray := prog_1_method_12_code
def yX5_mend : MethodName := ⟨RX5, "mend", "(I)I"⟩
abbrev cX5_read : ByteArray := prog_1_method_13_code
def yX5_read : MethodName := ⟨RX5, "read", "(III)I"⟩
abbrev cX5_shapeOf : ByteArray := prog_1_method_14_code
def yX5_shapeOf : MethodName := ⟨RX5, "shapeOf", "(III)I"⟩
abbrev cX5_queued : ByteArray := prog_1_method_15_code
def yX5_queued : MethodName := ⟨RX5, "queued", "(II)I"⟩
abbrev cX5_keys : ByteArray := prog_1_method_16_code
def yX5_keys : MethodName := ⟨RX5, "keys", "(I)I"⟩
abbrev cX5_check : ByteArray := prog_1_method_17_code
def yX5_check : MethodName := ⟨RX5, "check", "()I"⟩
abbrev cX5_quarrel : ByteArray := prog_1_method_18_code
def yX5_quarrel : MethodName := ⟨RX5, "quarrel", "()I"⟩
abbrev cX5_atRisk : ByteArray := prog_1_method_19_code
def yX5_atRisk : MethodName := ⟨RX5, "atRisk", "()I"⟩
abbrev cX5_walk : ByteArray := prog_1_method_20_code
def yX5_walk : MethodName := ⟨RX5, "walk", "(II)I"⟩
abbrev cX5_step : ByteArray := prog_1_method_21_code
def yX5_step : MethodName := ⟨RX5, "step", "(I)I"⟩
abbrev cX5_count : ByteArray := prog_1_method_22_code
def yX5_count : MethodName := ⟨RX5, "count", "(I)I"⟩
abbrev cX5_undo : ByteArray := prog_1_method_23_code
def yX5_undo : MethodName := ⟨RX5, "undo", "()I"⟩
abbrev cX5_type : ByteArray := prog_1_method_24_code
def yX5_type : MethodName := ⟨RX5, "type", "(I)I"⟩
abbrev cX5_clearText : ByteArray := prog_1_method_25_code
def yX5_clearText : MethodName := ⟨RX5, "clearText", "()I"⟩
abbrev cX5_fault : ByteArray := prog_1_method_26_code
def yX5_fault : MethodName := ⟨RX5, "fault", "(I)I"⟩
abbrev cX5_play : ByteArray := prog_1_method_27_code
def yX5_play : MethodName := ⟨RX5, "play", "()I"⟩
abbrev cX5_newTrial : ByteArray := prog_1_method_28_code
def yX5_newTrial : MethodName := ⟨RX5, "newTrial", "()LTwoShapes$Table;"⟩
abbrev cX5_settle : ByteArray := prog_1_method_29_code
def yX5_settle : MethodName := ⟨RX5, "settle", "(I)I"⟩
abbrev cX5_isBelow : ByteArray := prog_1_method_30_code
def yX5_isBelow : MethodName := ⟨RX5, "isBelow", "(II)Z"⟩
def RX6 : String := "TwoShapesModel"
def TX6 : u_T := fun k => match k with
  | 0 => ("TwoShapesModel", "s", "[I", true)
  | 1 => ("TwoShapesModel", "was", "[I", true)
  | 2 => ("TwoShapesModel", "begun", "[I", true)
  | 3 => ("TwoShapesModel", "aside", "[I", true)
  | 4 => ("TwoShapesModel", "states", "I", false)
  | 5 => ("TwoShapesModel", "text", "[C", true)
  | 6 => ("TwoShapesModel", "typed", "I", false)
  | 7 => ("TwoShapesModel", "at", "I", false)
  | 8 => ("TwoShapesModel", "reason", "I", false)
  | 9 => ("TwoShapesModel", "got", "[I", true)
  | 10 => ("TwoShapesModel", "row", "[I", true)
  | _ => ("TwoShapesModel", "other", "[I", true)
def tyX6 : Nat → FieldType := fun k => match k with
  | 0 => .array .int
  | 1 => .array .int
  | 2 => .array .int
  | 3 => .array .int
  | 4 => .int
  | 5 => .array .char
  | 6 => .int
  | 7 => .int
  | 8 => .int
  | 9 => .array .int
  | 10 => .array .int
  | _ => .array .int
abbrev wsX60 : List Cond := u_ws RX6 TX6 12
theorem nmX6 : ∀ a, a < 12 → ∀ b, b < 12 → a ≠ b → (TX6 a).2.1 ≠ (TX6 b).2.1 := by decide +kernel
theorem tyX6_ok : ∀ k, k < 12 → parseFieldDescriptor (TX6 k).2.2.1 = some (tyX6 k) := by decide +kernel
abbrev cX6_init : ByteArray := prog_8_method_1_code
def yX6_init : MethodName := ⟨RX6, "<init>", "()V"⟩
abbrev cX6_in : ByteArray := prog_8_method_2_code
def yX6_in : MethodName := ⟨RX6, "in", "(III)Z"⟩
abbrev cX6_place : ByteArray := prog_8_method_3_code
def yX6_place : MethodName := ⟨RX6, "place", "(II)I"⟩
abbrev cX6_of : ByteArray := prog_8_method_4_code
def yX6_of : MethodName := ⟨RX6, "of", "(III)I"⟩
abbrev cX6_isThere : ByteArray := prog_8_method_5_code
def yX6_isThere : MethodName := ⟨RX6, "isThere", "(I)Z"⟩
abbrev cX6_areBoth : ByteArray := prog_8_method_6_code
def yX6_areBoth : MethodName := ⟨RX6, "areBoth", "()Z"⟩
abbrev cX6_first : ByteArray := prog_8_method_7_code
def yX6_first : MethodName := ⟨RX6, "first", "()I"⟩
abbrev cX6_keeps : ByteArray := prog_8_method_8_code
def yX6_keeps : MethodName := ⟨RX6, "keeps", "()V"⟩
abbrev cX6_acted : ByteArray := prog_8_method_9_code
def yX6_acted : MethodName := ⟨RX6, "acted", "(I)I"⟩
abbrev cX6_restores : ByteArray := prog_8_method_10_code
def yX6_restores : MethodName := ⟨RX6, "restores", "()V"⟩
abbrev cX6_makes : ByteArray := prog_8_method_11_code
def yX6_makes : MethodName := ⟨RX6, "makes", "(II)V"⟩
abbrev cX6_takes : ByteArray := prog_8_method_12_code
def yX6_takes : MethodName := ⟨RX6, "takes", "(II)V"⟩
abbrev cX6_lays : ByteArray := prog_8_method_13_code
def yX6_lays : MethodName := ⟨RX6, "lays", "(III)V"⟩
abbrev cX6_rows : ByteArray := prog_8_method_14_code
def yX6_rows : MethodName := ⟨RX6, "rows", "(I)I"⟩
abbrev cX6_clears : ByteArray := prog_8_method_15_code
def yX6_clears : MethodName := ⟨RX6, "clears", "(I)V"⟩
abbrev cX6_differs : ByteArray := prog_8_method_16_code
def yX6_differs : MethodName := ⟨RX6, "differs", "(I)Z"⟩
abbrev cX6_differing : ByteArray := prog_8_method_17_code
def yX6_differing : MethodName := ⟨RX6, "differing", "()I"⟩
abbrev cX6_isReady : ByteArray := prog_8_method_18_code
def yX6_isReady : MethodName := ⟨RX6, "isReady", "()Z"⟩
abbrev cX6_begin : ByteArray := prog_8_method_19_code
def yX6_begin : MethodName := ⟨RX6, "begin", "()I"⟩
abbrev cX6_turns : ByteArray := prog_8_method_20_code
def yX6_turns : MethodName := ⟨RX6, "turns", "()I"⟩
abbrev cX6_turn : ByteArray := prog_8_method_21_code
def yX6_turn : MethodName := ⟨RX6, "turn", "()I"⟩
abbrev cX6_turnsBack : ByteArray := prog_8_method_22_code
def yX6_turnsBack : MethodName := ⟨RX6, "turnsBack", "()I"⟩
abbrev cX6_back : ByteArray := prog_8_method_23_code
def yX6_back : MethodName := ⟨RX6, "back", "()I"⟩
abbrev cX6_strange : ByteArray := prog_8_method_24_code
def yX6_strange : MethodName := ⟨RX6, "strange", "()I"⟩
abbrev cX6_drop : ByteArray := prog_8_method_25_code
def yX6_drop : MethodName := ⟨RX6, "drop", "()I"⟩
abbrev cX6_comes : ByteArray := prog_8_method_26_code
def yX6_comes : MethodName := ⟨RX6, "comes", "(IIZ)I"⟩
abbrev cX6_writes : ByteArray := prog_8_method_27_code
def yX6_writes : MethodName := ⟨RX6, "writes", "(IIIII)I"⟩
abbrev cX6_isKey : ByteArray := prog_8_method_28_code
def yX6_isKey : MethodName := ⟨RX6, "isKey", "(I)Z"⟩
abbrev cX6_writesOld : ByteArray := prog_8_method_29_code
def yX6_writesOld : MethodName := ⟨RX6, "writesOld", "(IIII)I"⟩
abbrev cX6_writeOld : ByteArray := prog_8_method_30_code
def yX6_writeOld : MethodName := ⟨RX6, "writeOld", "(IIII)I"⟩
abbrev cX6_writesNew : ByteArray := prog_8_method_31_code
def yX6_writesNew : MethodName := ⟨RX6, "writesNew", "(III)I"⟩
abbrev cX6_writeNew : ByteArray := prog_8_method_32_code
def yX6_writeNew : MethodName := ⟨RX6, "writeNew", "(III)I"⟩
abbrev cX6_removes : ByteArray := prog_8_method_33_code
def yX6_removes : MethodName := ⟨RX6, "removes", "(I)I"⟩
abbrev cX6_remove : ByteArray := prog_8_method_34_code
def yX6_remove : MethodName := ⟨RX6, "remove", "(I)I"⟩
abbrev cX6_drainsOne : ByteArray := prog_8_method_35_code
def yX6_drainsOne : MethodName := ⟨RX6, "drainsOne", "()V"⟩
abbrev cX6_drains : ByteArray := prog_8_method_36_code
def yX6_drains : MethodName := ⟨RX6, "drains", "(I)I"⟩
abbrev cX6_drain : ByteArray := prog_8_method_37_code
def yX6_drain : MethodName := ⟨RX6, "drain", "(I)I"⟩
abbrev cX6_gets : ByteArray := prog_8_method_38_code
def yX6_gets : MethodName := ⟨RX6, "gets", "(II)V"⟩
abbrev cX6_backfills : ByteArray := prog_8_method_39_code
def yX6_backfills : MethodName := ⟨RX6, "backfills", "(I)I"⟩
abbrev cX6_backfill : ByteArray := prog_8_method_40_code
def yX6_backfill : MethodName := ⟨RX6, "backfill", "(I)I"⟩
abbrev cX6_crash : ByteArray := prog_8_method_41_code
def yX6_crash : MethodName := ⟨RX6, "crash", "()I"⟩
abbrev cX6_latest : ByteArray := prog_8_method_42_code
def yX6_latest : MethodName := ⟨RX6, "latest", "(I)I"⟩
abbrev cX6_mends : ByteArray := prog_8_method_43_code
def yX6_mends : MethodName := ⟨RX6, "mends", "(I)I"⟩
abbrev cX6_mend : ByteArray := prog_8_method_44_code
def yX6_mend : MethodName := ⟨RX6, "mend", "(I)I"⟩
abbrev cX6_reads : ByteArray := prog_8_method_45_code
def yX6_reads : MethodName := ⟨RX6, "reads", "(II)Z"⟩
abbrev cX6_read : ByteArray := prog_8_method_46_code
def yX6_read : MethodName := ⟨RX6, "read", "(III)I"⟩
abbrev cX6_shapeOf : ByteArray := prog_8_method_47_code
def yX6_shapeOf : MethodName := ⟨RX6, "shapeOf", "(III)I"⟩
abbrev cX6_queued : ByteArray := prog_8_method_48_code
def yX6_queued : MethodName := ⟨RX6, "queued", "(II)I"⟩
abbrev cX6_readable : ByteArray := prog_8_method_49_code
def yX6_readable : MethodName := ⟨RX6, "readable", "(I)I"⟩
abbrev cX6_keys : ByteArray := prog_8_method_50_code
def yX6_keys : MethodName := ⟨RX6, "keys", "(I)I"⟩
abbrev cX6_check : ByteArray := prog_8_method_51_code
def yX6_check : MethodName := ⟨RX6, "check", "()I"⟩
abbrev cX6_quarrels : ByteArray := prog_8_method_52_code
def yX6_quarrels : MethodName := ⟨RX6, "quarrels", "(I)Z"⟩
abbrev cX6_quarrel : ByteArray := prog_8_method_53_code
def yX6_quarrel : MethodName := ⟨RX6, "quarrel", "()I"⟩
abbrev cX6_atRisk : ByteArray := prog_8_method_54_code
def yX6_atRisk : MethodName := ⟨RX6, "atRisk", "()I"⟩
abbrev cX6_ones : ByteArray := prog_8_method_55_code
def yX6_ones : MethodName := ⟨RX6, "ones", "(I)I"⟩
abbrev cX6_walk : ByteArray := prog_8_method_56_code
def yX6_walk : MethodName := ⟨RX6, "walk", "(II)I"⟩
abbrev cX6_step : ByteArray := prog_8_method_57_code
def yX6_step : MethodName := ⟨RX6, "step", "(I)I"⟩
abbrev cX6_known : ByteArray := prog_8_method_58_code
def yX6_known : MethodName := ⟨RX6, "known", "()I"⟩
abbrev cX6_count : ByteArray := prog_8_method_59_code
def yX6_count : MethodName := ⟨RX6, "count", "(I)I"⟩
abbrev cX6_undo : ByteArray := prog_8_method_60_code
def yX6_undo : MethodName := ⟨RX6, "undo", "()I"⟩
abbrev cX6_type : ByteArray := prog_8_method_61_code
def yX6_type : MethodName := ⟨RX6, "type", "(I)I"⟩
abbrev cX6_clearText : ByteArray := prog_8_method_62_code
def yX6_clearText : MethodName := ⟨RX6, "clearText", "()I"⟩
abbrev cX6_has : ByteArray := prog_8_method_63_code
def yX6_has : MethodName := ⟨RX6, "has", "(C)Z"⟩
abbrev cX6_number : ByteArray := prog_8_method_64_code
def yX6_number : MethodName := ⟨RX6, "number", "(I)Z"⟩
abbrev cX6_readsForm : ByteArray := prog_8_method_65_code
def yX6_readsForm : MethodName := ⟨RX6, "readsForm", "(C)Z"⟩
abbrev cX6_does : ByteArray := prog_8_method_66_code
def yX6_does : MethodName := ⟨RX6, "does", "(C)I"⟩
abbrev cX6_doesNext : ByteArray := prog_8_method_67_code
def yX6_doesNext : MethodName := ⟨RX6, "doesNext", "()I"⟩
abbrev cX6_faulty : ByteArray := prog_8_method_68_code
def yX6_faulty : MethodName := ⟨RX6, "faulty", "()I"⟩
abbrev cX6_fault : ByteArray := prog_8_method_69_code
def yX6_fault : MethodName := ⟨RX6, "fault", "(I)I"⟩
abbrev cX6_play : ByteArray := prog_8_method_70_code
def yX6_play : MethodName := ⟨RX6, "play", "()I"⟩
def RJ6 : String := "java/lang/Integer"
def TJ6 : u_T := fun k => match k with
  | _ => ("", "", "", false)
def tyJ6 : Nat → FieldType := fun k => match k with
  | _ => .int
abbrev wsJ60 : List Cond := u_ws RJ6 TJ6 0
theorem nmJ6 : ∀ a, a < 0 → ∀ b, b < 0 → a ≠ b → (TJ6 a).2.1 ≠ (TJ6 b).2.1 := by decide +kernel
theorem tyJ6_ok : ∀ k, k < 0 → parseFieldDescriptor (TJ6 k).2.2.1 = some (tyJ6 k) := by decide +kernel
abbrev cJ6_bitCount_0f7a4 : ByteArray := prog_9_method_49_code
def yJ6_bitCount_0f7a4 : MethodName := ⟨RJ6, "bitCount", "(I)I"⟩
def RJ9 : String := "java/lang/Math"
def TJ9 : u_T := fun k => match k with
  | _ => ("", "", "", false)
def tyJ9 : Nat → FieldType := fun k => match k with
  | _ => .int
abbrev wsJ90 : List Cond := u_ws RJ9 TJ9 0
theorem nmJ9 : ∀ a, a < 0 → ∀ b, b < 0 → a ≠ b → (TJ9 a).2.1 ≠ (TJ9 b).2.1 := by decide +kernel
theorem tyJ9_ok : ∀ k, k < 0 → parseFieldDescriptor (TJ9 k).2.2.1 = some (tyJ9 k) := by decide +kernel
abbrev cJ9_max_7cf53 : ByteArray := prog_10_method_65_code
def yJ9_max_7cf53 : MethodName := ⟨RJ9, "max", "(II)I"⟩
abbrev cJ9_min_7cf53 : ByteArray := prog_10_method_69_code
def yJ9_min_7cf53 : MethodName := ⟨RJ9, "min", "(II)I"⟩
def RJ10 : String := "java/lang/System"
def TJ10 : u_T := fun k => match k with
  | _ => ("", "", "", false)
def tyJ10 : Nat → FieldType := fun k => match k with
  | _ => .int
abbrev wsJ100 : List Cond := u_ws RJ10 TJ10 0
theorem nmJ10 : ∀ a, a < 0 → ∀ b, b < 0 → a ≠ b → (TJ10 a).2.1 ≠ (TJ10 b).2.1 := by decide +kernel
theorem tyJ10_ok : ∀ k, k < 0 → parseFieldDescriptor (TJ10 k).2.2.1 = some (tyJ10 k) := by decide +kernel
def RL : String := "TwoShapesLaw"
abbrev cL_law : ByteArray := code
def yL_law : MethodName := ⟨RL, "law", "([I)Z"⟩

abbrev vwCl : List vw_C := [(RX0, TX0, 7), (RX1, TX1, 4), (RX3, TX3, 3), (RX4, TX4, 11), (RX5, TX5, 5), (RX6, TX6, 12)]
/-! the words that are handed on: all good ones of the tables, one list for every contract -/
def TB : List Cond := lw_tbl.filter goodWord
theorem TB_in : ∀ w ∈ TB, w ∈ lw_tbl := fun _ h => (List.mem_filter.mp h).1
theorem TB_good : ∀ w ∈ TB, (w.onTables && w.keeps) = true ∨ ∃ ty, w = .arrayClass ty := fun _ h => good_of_word (List.mem_filter.mp h).2
theorem TB_mem {w : Cond} (i : Nat) (h : lw_tbl[i]? = some w) (hg : goodWord w = true) : w ∈ TB := List.mem_filter.mpr ⟨List.mem_of_getElem? h, hg⟩
theorem TB_all {ws : List Cond} (h : ∀ w ∈ ws, w ∈ lw_tbl ∧ goodWord w = true) : ∀ w ∈ ws, w ∈ TB := fun w hw => List.mem_filter.mpr (h w hw)
theorem TB_sub {big ws : List Cond} (hb : ∀ w ∈ TB, w ∈ big) (h : ∀ w ∈ ws, w ∈ TB) : GoodIn big ws := fun w hw => ⟨hb w (h w hw), TB_good w (h w hw)⟩
theorem TB_V {big : List Cond} {own : String} {idx : Nat} {C : String} {y : MethodName} {cd : Cond} (hb : ∀ w ∈ TB, w ∈ big) (h1 : Cond.methodLink own idx y ∈ TB) (h2 : Cond.instanceMethod y ∈ TB) (h3 : Cond.selects C y y ∈ TB) (h4 : Cond.initialized C ∈ TB) (h5 : cd ∈ TB) : GoodIn big (wsV own idx C y (cd :: TB)) := TB_sub hb fun w hw => by
  rcases List.mem_append.mp hw with h | h
  · simp only [List.mem_cons, List.not_mem_nil, or_false] at h
    rcases h with rfl | rfl | rfl | rfl <;> assumption
  · rcases List.mem_cons.mp h with rfl | h
    · exact h5
    · exact h
theorem TB_S {big : List Cond} {own : String} {idx : Nat} {y : MethodName} {cd : Cond} (hb : ∀ w ∈ TB, w ∈ big) (h1 : Cond.methodLink own idx y ∈ TB) (h2 : Cond.static y ∈ TB) (h4 : Cond.initialized y.cls ∈ TB) (h5 : cd ∈ TB) : GoodIn big (va_wsS own idx y (cd :: TB)) := TB_sub hb fun w hw => by
  rcases List.mem_append.mp hw with h | h
  · simp only [List.mem_cons, List.not_mem_nil, or_false] at h
    rcases h with rfl | rfl | rfl <;> assumption
  · rcases List.mem_cons.mp h with rfl | h
    · exact h5
    · exact h
theorem TB_C {big : List Cond} {cd : Cond} (hb : ∀ w ∈ TB, w ∈ big) (h5 : cd ∈ TB) : GoodIn big (cd :: TB) := TB_sub hb fun w hw => by
  rcases List.mem_cons.mp hw with rfl | h
  · exact h5
  · exact h
theorem TB_id : ∀ w ∈ TB, w ∈ TB := fun _ h => h
theorem hX0 : ∀ w ∈ wsX00, w ∈ TB := TB_all (by decide +kernel)
theorem hX1 : ∀ w ∈ wsX10, w ∈ TB := TB_all (by decide +kernel)
theorem hX3 : ∀ w ∈ wsX30, w ∈ TB := TB_all (by decide +kernel)
theorem hX4 : ∀ w ∈ wsX40, w ∈ TB := TB_all (by decide +kernel)
theorem hX5 : ∀ w ∈ wsX50, w ∈ TB := TB_all (by decide +kernel)
theorem hX6 : ∀ w ∈ wsX60, w ∈ TB := TB_all (by decide +kernel)
theorem tw_0 : Cond.selects RX5 yX5_newTrial yX5_newTrial ∈ TB := TB_mem 0 (by decide +kernel) (by decide +kernel)
theorem tw_1 : Cond.selects RX5 yX5_settle yX5_settle ∈ TB := TB_mem 1 (by decide +kernel) (by decide +kernel)
theorem tw_2 : Cond.selects RX4 yX4_put yX4_put ∈ TB := TB_mem 2 (by decide +kernel) (by decide +kernel)
theorem tw_3 : Cond.selects RX4 yX4_newerOf yX4_newerOf ∈ TB := TB_mem 3 (by decide +kernel) (by decide +kernel)
theorem tw_4 : Cond.selects RX0 yX0_readOrder yX0_readOrder ∈ TB := TB_mem 4 (by decide +kernel) (by decide +kernel)
theorem tw_5 : Cond.selects RX0 yX0_signAt yX0_signAt ∈ TB := TB_mem 5 (by decide +kernel) (by decide +kernel)
theorem tw_6 : Cond.selects RX0 yX0_digitsEnd yX0_digitsEnd ∈ TB := TB_mem 6 (by decide +kernel) (by decide +kernel)
theorem tw_7 : Cond.selects RX0 yX0_valueOf yX0_valueOf ∈ TB := TB_mem 7 (by decide +kernel) (by decide +kernel)
theorem tw_8 : Cond.selects RX0 yX0_give yX0_give ∈ TB := TB_mem 8 (by decide +kernel) (by decide +kernel)
theorem tw_9 : Cond.selects RX6 yX6_keeps yX6_keeps ∈ TB := TB_mem 9 (by decide +kernel) (by decide +kernel)
theorem tw_10 : Cond.selects RX6 yX6_clears yX6_clears ∈ TB := TB_mem 10 (by decide +kernel) (by decide +kernel)
theorem tw_11 : Cond.selects RX6 yX6_rows yX6_rows ∈ TB := TB_mem 11 (by decide +kernel) (by decide +kernel)
theorem tw_12 : Cond.selects RX6 yX6_of yX6_of ∈ TB := TB_mem 12 (by decide +kernel) (by decide +kernel)
theorem tw_13 : Cond.selects RX6 yX6_acted yX6_acted ∈ TB := TB_mem 13 (by decide +kernel) (by decide +kernel)
theorem tw_14 : Cond.selects RX6 yX6_turns yX6_turns ∈ TB := TB_mem 14 (by decide +kernel) (by decide +kernel)
theorem tw_15 : Cond.selects RX6 yX6_isReady yX6_isReady ∈ TB := TB_mem 15 (by decide +kernel) (by decide +kernel)
theorem tw_16 : Cond.selects RX6 yX6_differing yX6_differing ∈ TB := TB_mem 16 (by decide +kernel) (by decide +kernel)
theorem tw_17 : Cond.selects RX6 yX6_differs yX6_differs ∈ TB := TB_mem 17 (by decide +kernel) (by decide +kernel)
theorem tw_18 : Cond.selects RX6 yX6_takes yX6_takes ∈ TB := TB_mem 18 (by decide +kernel) (by decide +kernel)
theorem tw_19 : Cond.selects RX6 yX6_makes yX6_makes ∈ TB := TB_mem 19 (by decide +kernel) (by decide +kernel)
theorem tw_20 : Cond.selects RX6 yX6_turnsBack yX6_turnsBack ∈ TB := TB_mem 20 (by decide +kernel) (by decide +kernel)
theorem tw_21 : Cond.selects RX6 yX6_areBoth yX6_areBoth ∈ TB := TB_mem 21 (by decide +kernel) (by decide +kernel)
theorem tw_22 : Cond.selects RX6 yX6_strange yX6_strange ∈ TB := TB_mem 22 (by decide +kernel) (by decide +kernel)
theorem tw_23 : Cond.selects RX6 yX6_writesOld yX6_writesOld ∈ TB := TB_mem 23 (by decide +kernel) (by decide +kernel)
theorem tw_24 : Cond.selects RX6 yX6_writes yX6_writes ∈ TB := TB_mem 24 (by decide +kernel) (by decide +kernel)
theorem tw_25 : Cond.selects RX6 yX6_comes yX6_comes ∈ TB := TB_mem 25 (by decide +kernel) (by decide +kernel)
theorem tw_26 : Cond.selects RX6 yX6_first yX6_first ∈ TB := TB_mem 26 (by decide +kernel) (by decide +kernel)
theorem tw_27 : Cond.selects RX6 yX6_lays yX6_lays ∈ TB := TB_mem 27 (by decide +kernel) (by decide +kernel)
theorem tw_28 : Cond.selects RX6 yX6_writesNew yX6_writesNew ∈ TB := TB_mem 28 (by decide +kernel) (by decide +kernel)
theorem tw_29 : Cond.selects RX6 yX6_removes yX6_removes ∈ TB := TB_mem 29 (by decide +kernel) (by decide +kernel)
theorem tw_30 : Cond.selects RX6 yX6_drains yX6_drains ∈ TB := TB_mem 30 (by decide +kernel) (by decide +kernel)
theorem tw_31 : Cond.selects RX6 yX6_drainsOne yX6_drainsOne ∈ TB := TB_mem 31 (by decide +kernel) (by decide +kernel)
theorem tw_32 : Cond.selects RX6 yX6_backfills yX6_backfills ∈ TB := TB_mem 32 (by decide +kernel) (by decide +kernel)
theorem tw_33 : Cond.selects RX6 yX6_gets yX6_gets ∈ TB := TB_mem 33 (by decide +kernel) (by decide +kernel)
theorem tw_34 : Cond.selects RX6 yX6_mends yX6_mends ∈ TB := TB_mem 34 (by decide +kernel) (by decide +kernel)
theorem tw_35 : Cond.selects RX6 yX6_latest yX6_latest ∈ TB := TB_mem 35 (by decide +kernel) (by decide +kernel)
theorem tw_36 : Cond.selects RX6 yX6_reads yX6_reads ∈ TB := TB_mem 36 (by decide +kernel) (by decide +kernel)
theorem tw_37 : Cond.selects RX6 yX6_isThere yX6_isThere ∈ TB := TB_mem 37 (by decide +kernel) (by decide +kernel)
theorem tw_38 : Cond.selects RX6 yX6_readable yX6_readable ∈ TB := TB_mem 38 (by decide +kernel) (by decide +kernel)
theorem tw_39 : Cond.selects RX6 yX6_quarrels yX6_quarrels ∈ TB := TB_mem 39 (by decide +kernel) (by decide +kernel)
theorem tw_40 : Cond.selects RX6 yX6_known yX6_known ∈ TB := TB_mem 40 (by decide +kernel) (by decide +kernel)
theorem tw_41 : Cond.selects RX6 yX6_faulty yX6_faulty ∈ TB := TB_mem 41 (by decide +kernel) (by decide +kernel)
theorem tw_42 : Cond.selects RX6 yX6_doesNext yX6_doesNext ∈ TB := TB_mem 42 (by decide +kernel) (by decide +kernel)
theorem tw_43 : Cond.selects RX6 yX6_readsForm yX6_readsForm ∈ TB := TB_mem 43 (by decide +kernel) (by decide +kernel)
theorem tw_44 : Cond.selects RX6 yX6_has yX6_has ∈ TB := TB_mem 44 (by decide +kernel) (by decide +kernel)
theorem tw_45 : Cond.selects RX6 yX6_number yX6_number ∈ TB := TB_mem 45 (by decide +kernel) (by decide +kernel)
theorem tw_46 : Cond.selects RX6 yX6_does yX6_does ∈ TB := TB_mem 46 (by decide +kernel) (by decide +kernel)
theorem tw_47 : Cond.selects RX6 yX6_restores yX6_restores ∈ TB := TB_mem 47 (by decide +kernel) (by decide +kernel)
theorem tw_48 : Cond.initialized RL ∈ TB := TB_mem 48 (by decide +kernel) (by decide +kernel)
theorem tw_49 : Cond.initialized RX5 ∈ TB := TB_mem 49 (by decide +kernel) (by decide +kernel)
theorem tw_50 : Cond.initialized RX4 ∈ TB := TB_mem 50 (by decide +kernel) (by decide +kernel)
theorem tw_51 : Cond.initialized RX3 ∈ TB := TB_mem 51 (by decide +kernel) (by decide +kernel)
theorem tw_52 : Cond.initialized RX1 ∈ TB := TB_mem 52 (by decide +kernel) (by decide +kernel)
theorem tw_53 : Cond.initialized RX0 ∈ TB := TB_mem 53 (by decide +kernel) (by decide +kernel)
theorem tw_54 : Cond.initialized RX6 ∈ TB := TB_mem 54 (by decide +kernel) (by decide +kernel)
theorem tw_55 : Cond.initialized "java/lang/System" ∈ TB := TB_mem 55 (by decide +kernel) (by decide +kernel)
theorem tw_56 : Cond.initialized RX2 ∈ TB := TB_mem 56 (by decide +kernel) (by decide +kernel)
theorem tw_57 : Cond.initialized "java/lang/Math" ∈ TB := TB_mem 57 (by decide +kernel) (by decide +kernel)
theorem tw_58 : Cond.initialized RJ6 ∈ TB := TB_mem 58 (by decide +kernel) (by decide +kernel)
theorem tw_59 : Cond.classLink RL 7 RX5 ∈ TB := TB_mem 59 (by decide +kernel) (by decide +kernel)
theorem tw_60 : Cond.instantiable RX5 5 ∈ TB := TB_mem 60 (by decide +kernel) (by decide +kernel)
theorem tw_61 : Cond.methodLink RL 9 yX5_init ∈ TB := TB_mem 61 (by decide +kernel) (by decide +kernel)
theorem tw_62 : Cond.instanceMethod yX5_init ∈ TB := TB_mem 62 (by decide +kernel) (by decide +kernel)
theorem tw_63 : Cond.code yX5_init cX5_init 2 none ∈ TB := TB_mem 63 (by decide +kernel) (by decide +kernel)
theorem tw_64 : Cond.methodLink RX5 1 objectInit ∈ TB := TB_mem 64 (by decide +kernel) (by decide +kernel)
theorem tw_65 : Cond.instanceMethod objectInit ∈ TB := TB_mem 65 (by decide +kernel) (by decide +kernel)
theorem tw_66 : Cond.code objectInit ⟨#[0xb1]⟩ 1 none ∈ TB := TB_mem 66 (by decide +kernel) (by decide +kernel)
theorem tw_67 : Cond.classLink RX5 9 RX4 ∈ TB := TB_mem 67 (by decide +kernel) (by decide +kernel)
theorem tw_69 : Cond.instantiable RX4 11 ∈ TB := TB_mem 69 (by decide +kernel) (by decide +kernel)
theorem tw_71 : Cond.instanceMethod yX4_init ∈ TB := TB_mem 71 (by decide +kernel) (by decide +kernel)
theorem tw_72 : Cond.code yX4_init cX4_init 1 none ∈ TB := TB_mem 72 (by decide +kernel) (by decide +kernel)
theorem tw_73 : Cond.methodLink RX4 3 objectInit ∈ TB := TB_mem 73 (by decide +kernel) (by decide +kernel)
theorem tw_74 : Cond.classLink RX4 9 RX3 ∈ TB := TB_mem 74 (by decide +kernel) (by decide +kernel)
theorem tw_75 : Cond.instantiable RX3 3 ∈ TB := TB_mem 75 (by decide +kernel) (by decide +kernel)
theorem tw_76 : Cond.methodLink RX4 11 yX3_init ∈ TB := TB_mem 76 (by decide +kernel) (by decide +kernel)
theorem tw_77 : Cond.instanceMethod yX3_init ∈ TB := TB_mem 77 (by decide +kernel) (by decide +kernel)
theorem tw_78 : Cond.code yX3_init cX3_init 2 none ∈ TB := TB_mem 78 (by decide +kernel) (by decide +kernel)
theorem tw_79 : Cond.methodLink RX3 3 objectInit ∈ TB := TB_mem 79 (by decide +kernel) (by decide +kernel)
theorem tw_80 : Cond.methodLink RX3 22 yX3_clear ∈ TB := TB_mem 80 (by decide +kernel) (by decide +kernel)
theorem tw_81 : Cond.instanceMethod yX3_clear ∈ TB := TB_mem 81 (by decide +kernel) (by decide +kernel)
theorem tw_82 : Cond.selects RX3 yX3_clear yX3_clear ∈ TB := TB_mem 82 (by decide +kernel) (by decide +kernel)
theorem tw_83 : Cond.code yX3_clear cX3_clear 2 none ∈ TB := TB_mem 83 (by decide +kernel) (by decide +kernel)
theorem tw_84 : Cond.fieldLink RX3 18 "TwoShapes$Shape" "number" "I" ∈ TB := TB_mem 84 (by decide +kernel) (by decide +kernel)
theorem tw_85 : Cond.fieldLink RX3 9 "TwoShapes$Shape" "version" "[I" ∈ TB := TB_mem 85 (by decide +kernel) (by decide +kernel)
theorem tw_86 : Cond.fieldLink RX5 104 "TwoShapes$Shape" "version" "[I" ∈ TB := TB_mem 86 (by decide +kernel) (by decide +kernel)
theorem tw_87 : Cond.fieldLink RX4 152 "TwoShapes$Shape" "version" "[I" ∈ TB := TB_mem 87 (by decide +kernel) (by decide +kernel)
theorem tw_88 : Cond.fieldLink RX3 15 "TwoShapes$Shape" "row" "[I" ∈ TB := TB_mem 88 (by decide +kernel) (by decide +kernel)
theorem tw_89 : Cond.fieldLink RX5 98 "TwoShapes$Shape" "row" "[I" ∈ TB := TB_mem 89 (by decide +kernel) (by decide +kernel)
theorem tw_90 : Cond.fieldLink RX4 122 "TwoShapes$Shape" "row" "[I" ∈ TB := TB_mem 90 (by decide +kernel) (by decide +kernel)
theorem tw_98 : Cond.arrayClass .int ∈ TB := TB_mem 98 (by decide +kernel) (by decide +kernel)
theorem tw_99 : Cond.classLink RX4 23 RX1 ∈ TB := TB_mem 99 (by decide +kernel) (by decide +kernel)
theorem tw_100 : Cond.instantiable RX1 4 ∈ TB := TB_mem 100 (by decide +kernel) (by decide +kernel)
theorem tw_102 : Cond.instanceMethod yX1_init ∈ TB := TB_mem 102 (by decide +kernel) (by decide +kernel)
theorem tw_103 : Cond.code yX1_init cX1_init 1 none ∈ TB := TB_mem 103 (by decide +kernel) (by decide +kernel)
theorem tw_104 : Cond.methodLink RX1 3 objectInit ∈ TB := TB_mem 104 (by decide +kernel) (by decide +kernel)
theorem tw_105 : Cond.fieldLink RX1 21 "TwoShapes$Queue" "length" "I" ∈ TB := TB_mem 105 (by decide +kernel) (by decide +kernel)
theorem tw_106 : Cond.fieldLink RX4 81 "TwoShapes$Queue" "length" "I" ∈ TB := TB_mem 106 (by decide +kernel) (by decide +kernel)
theorem tw_107 : Cond.fieldLink RX5 111 "TwoShapes$Queue" "length" "I" ∈ TB := TB_mem 107 (by decide +kernel) (by decide +kernel)
theorem tw_108 : Cond.fieldLink RX1 9 "TwoShapes$Queue" "key" "[I" ∈ TB := TB_mem 108 (by decide +kernel) (by decide +kernel)
theorem tw_109 : Cond.fieldLink RX5 117 "TwoShapes$Queue" "key" "[I" ∈ TB := TB_mem 109 (by decide +kernel) (by decide +kernel)
theorem tw_110 : Cond.fieldLink RX4 142 "TwoShapes$Queue" "key" "[I" ∈ TB := TB_mem 110 (by decide +kernel) (by decide +kernel)
theorem tw_111 : Cond.fieldLink RX1 15 "TwoShapes$Queue" "version" "[I" ∈ TB := TB_mem 111 (by decide +kernel) (by decide +kernel)
theorem tw_112 : Cond.fieldLink RX5 120 "TwoShapes$Queue" "version" "[I" ∈ TB := TB_mem 112 (by decide +kernel) (by decide +kernel)
theorem tw_113 : Cond.fieldLink RX4 145 "TwoShapes$Queue" "version" "[I" ∈ TB := TB_mem 113 (by decide +kernel) (by decide +kernel)
theorem tw_114 : Cond.fieldLink RX1 18 "TwoShapes$Queue" "row" "[I" ∈ TB := TB_mem 114 (by decide +kernel) (by decide +kernel)
theorem tw_115 : Cond.fieldLink RX5 124 "TwoShapes$Queue" "row" "[I" ∈ TB := TB_mem 115 (by decide +kernel) (by decide +kernel)
theorem tw_116 : Cond.fieldLink RX4 148 "TwoShapes$Queue" "row" "[I" ∈ TB := TB_mem 116 (by decide +kernel) (by decide +kernel)
theorem tw_126 : Cond.fieldLink RX4 40 "TwoShapes$Table" "phase" "I" ∈ TB := TB_mem 126 (by decide +kernel) (by decide +kernel)
theorem tw_127 : Cond.fieldLink RX5 147 "TwoShapes$Table" "phase" "I" ∈ TB := TB_mem 127 (by decide +kernel) (by decide +kernel)
theorem tw_128 : Cond.fieldLink RX4 44 "TwoShapes$Table" "latest" "I" ∈ TB := TB_mem 128 (by decide +kernel) (by decide +kernel)
theorem tw_129 : Cond.fieldLink RX5 150 "TwoShapes$Table" "latest" "I" ∈ TB := TB_mem 129 (by decide +kernel) (by decide +kernel)
theorem tw_130 : Cond.fieldLink RX4 47 "TwoShapes$Table" "pointer" "I" ∈ TB := TB_mem 130 (by decide +kernel) (by decide +kernel)
theorem tw_131 : Cond.fieldLink RX5 153 "TwoShapes$Table" "pointer" "I" ∈ TB := TB_mem 131 (by decide +kernel) (by decide +kernel)
theorem tw_132 : Cond.fieldLink RX4 50 "TwoShapes$Table" "lost" "I" ∈ TB := TB_mem 132 (by decide +kernel) (by decide +kernel)
theorem tw_133 : Cond.fieldLink RX5 175 "TwoShapes$Table" "lost" "I" ∈ TB := TB_mem 133 (by decide +kernel) (by decide +kernel)
theorem tw_134 : Cond.fieldLink RX4 14 "TwoShapes$Table" "oldShape" "LTwoShapes$Shape;" ∈ TB := TB_mem 134 (by decide +kernel) (by decide +kernel)
theorem tw_135 : Cond.fieldLink RX5 156 "TwoShapes$Table" "oldShape" "LTwoShapes$Shape;" ∈ TB := TB_mem 135 (by decide +kernel) (by decide +kernel)
theorem tw_136 : Cond.fieldLink RX4 20 "TwoShapes$Table" "newShape" "LTwoShapes$Shape;" ∈ TB := TB_mem 136 (by decide +kernel) (by decide +kernel)
theorem tw_137 : Cond.fieldLink RX5 163 "TwoShapes$Table" "newShape" "LTwoShapes$Shape;" ∈ TB := TB_mem 137 (by decide +kernel) (by decide +kernel)
theorem tw_138 : Cond.fieldLink RX4 26 "TwoShapes$Table" "queue" "LTwoShapes$Queue;" ∈ TB := TB_mem 138 (by decide +kernel) (by decide +kernel)
theorem tw_139 : Cond.fieldLink RX5 107 "TwoShapes$Table" "queue" "LTwoShapes$Queue;" ∈ TB := TB_mem 139 (by decide +kernel) (by decide +kernel)
theorem tw_140 : Cond.fieldLink RX4 30 "TwoShapes$Table" "written" "[I" ∈ TB := TB_mem 140 (by decide +kernel) (by decide +kernel)
theorem tw_141 : Cond.fieldLink RX4 66 "TwoShapes$Table" "walks" "I" ∈ TB := TB_mem 141 (by decide +kernel) (by decide +kernel)
theorem tw_142 : Cond.fieldLink RX5 178 "TwoShapes$Table" "walks" "I" ∈ TB := TB_mem 142 (by decide +kernel) (by decide +kernel)
theorem tw_143 : Cond.fieldLink RX4 34 "TwoShapes$Table" "walkCostume" "[I" ∈ TB := TB_mem 143 (by decide +kernel) (by decide +kernel)
theorem tw_144 : Cond.fieldLink RX4 37 "TwoShapes$Table" "walkKey" "[I" ∈ TB := TB_mem 144 (by decide +kernel) (by decide +kernel)
theorem tw_168 : Cond.classLink RX5 23 RX0 ∈ TB := TB_mem 168 (by decide +kernel) (by decide +kernel)
theorem tw_169 : Cond.instantiable RX0 7 ∈ TB := TB_mem 169 (by decide +kernel) (by decide +kernel)
theorem tw_171 : Cond.instanceMethod yX0_init ∈ TB := TB_mem 171 (by decide +kernel) (by decide +kernel)
theorem tw_172 : Cond.code yX0_init cX0_init 1 none ∈ TB := TB_mem 172 (by decide +kernel) (by decide +kernel)
theorem tw_173 : Cond.methodLink RX0 3 objectInit ∈ TB := TB_mem 173 (by decide +kernel) (by decide +kernel)
theorem tw_174 : Cond.fieldLink RX0 18 "TwoShapes$Orders" "length" "I" ∈ TB := TB_mem 174 (by decide +kernel) (by decide +kernel)
theorem tw_175 : Cond.fieldLink RX5 184 "TwoShapes$Orders" "length" "I" ∈ TB := TB_mem 175 (by decide +kernel) (by decide +kernel)
theorem tw_176 : Cond.fieldLink RX0 9 "TwoShapes$Orders" "text" "[I" ∈ TB := TB_mem 176 (by decide +kernel) (by decide +kernel)
theorem tw_177 : Cond.fieldLink RX0 22 "TwoShapes$Orders" "given" "I" ∈ TB := TB_mem 177 (by decide +kernel) (by decide +kernel)
theorem tw_178 : Cond.fieldLink RX5 200 "TwoShapes$Orders" "given" "I" ∈ TB := TB_mem 178 (by decide +kernel) (by decide +kernel)
theorem tw_179 : Cond.fieldLink RX0 25 "TwoShapes$Orders" "place" "I" ∈ TB := TB_mem 179 (by decide +kernel) (by decide +kernel)
theorem tw_180 : Cond.fieldLink RX5 197 "TwoShapes$Orders" "place" "I" ∈ TB := TB_mem 180 (by decide +kernel) (by decide +kernel)
theorem tw_181 : Cond.fieldLink RX0 28 "TwoShapes$Orders" "reason" "I" ∈ TB := TB_mem 181 (by decide +kernel) (by decide +kernel)
theorem tw_182 : Cond.fieldLink RX5 194 "TwoShapes$Orders" "reason" "I" ∈ TB := TB_mem 182 (by decide +kernel) (by decide +kernel)
theorem tw_183 : Cond.fieldLink RX0 43 "TwoShapes$Orders" "kind" "I" ∈ TB := TB_mem 183 (by decide +kernel) (by decide +kernel)
theorem tw_184 : Cond.fieldLink RX0 15 "TwoShapes$Orders" "number" "[I" ∈ TB := TB_mem 184 (by decide +kernel) (by decide +kernel)
theorem tw_200 : Cond.fieldLink RX5 11 "TwoShapes" "history" "[LTwoShapes$Table;" ∈ TB := TB_mem 200 (by decide +kernel) (by decide +kernel)
theorem tw_201 : Cond.fieldLink RX5 181 "TwoShapes" "states" "I" ∈ TB := TB_mem 201 (by decide +kernel) (by decide +kernel)
theorem tw_202 : Cond.fieldLink RX5 16 "TwoShapes" "now" "LTwoShapes$Table;" ∈ TB := TB_mem 202 (by decide +kernel) (by decide +kernel)
theorem tw_203 : Cond.fieldLink RX5 20 "TwoShapes" "trial" "LTwoShapes$Table;" ∈ TB := TB_mem 203 (by decide +kernel) (by decide +kernel)
theorem tw_204 : Cond.fieldLink RX5 26 "TwoShapes" "orders" "LTwoShapes$Orders;" ∈ TB := TB_mem 204 (by decide +kernel) (by decide +kernel)
theorem tw_216 : Cond.methodLink RL 13 yX5_begin ∈ TB := TB_mem 216 (by decide +kernel) (by decide +kernel)
theorem tw_217 : Cond.instanceMethod yX5_begin ∈ TB := TB_mem 217 (by decide +kernel) (by decide +kernel)
theorem tw_218 : Cond.selects RX5 yX5_begin yX5_begin ∈ TB := TB_mem 218 (by decide +kernel) (by decide +kernel)
theorem tw_219 : Cond.code yX5_begin cX5_begin 1 (some .int) ∈ TB := TB_mem 219 (by decide +kernel) (by decide +kernel)
theorem tw_220 : Cond.methodLink RX5 30 yX5_newTrial ∈ TB := TB_mem 220 (by decide +kernel) (by decide +kernel)
theorem tw_222 : Cond.instanceMethod yX5_newTrial ∈ TB := TB_mem 222 (by decide +kernel) (by decide +kernel)
theorem tw_223 : Cond.code yX5_newTrial cX5_newTrial 1 (some (.object "TwoShapes$Table")) ∈ TB := TB_mem 223 (by decide +kernel) (by decide +kernel)
theorem tw_224 : Cond.methodLink RX5 203 yX4_copyFrom ∈ TB := TB_mem 224 (by decide +kernel) (by decide +kernel)
theorem tw_225 : Cond.instanceMethod yX4_copyFrom ∈ TB := TB_mem 225 (by decide +kernel) (by decide +kernel)
theorem tw_226 : Cond.selects RX4 yX4_copyFrom yX4_copyFrom ∈ TB := TB_mem 226 (by decide +kernel) (by decide +kernel)
theorem tw_227 : Cond.code yX4_copyFrom cX4_copyFrom 2 none ∈ TB := TB_mem 227 (by decide +kernel) (by decide +kernel)
theorem tw_228 : Cond.methodLink RX4 53 yX3_copyFrom ∈ TB := TB_mem 228 (by decide +kernel) (by decide +kernel)
theorem tw_229 : Cond.instanceMethod yX3_copyFrom ∈ TB := TB_mem 229 (by decide +kernel) (by decide +kernel)
theorem tw_230 : Cond.selects RX3 yX3_copyFrom yX3_copyFrom ∈ TB := TB_mem 230 (by decide +kernel) (by decide +kernel)
theorem tw_231 : Cond.code yX3_copyFrom cX3_copyFrom 2 none ∈ TB := TB_mem 231 (by decide +kernel) (by decide +kernel)
theorem tw_232 : Cond.methodLink RX3 25 arraycopyName ∈ TB := TB_mem 232 (by decide +kernel) (by decide +kernel)
theorem tw_233 : Cond.static arraycopyName ∈ TB := TB_mem 233 (by decide +kernel) (by decide +kernel)
theorem tw_234 : Cond.native arraycopyName ∈ TB := TB_mem 234 (by decide +kernel) (by decide +kernel)
theorem tw_235 : Cond.methodLink RX4 57 yX1_copyFrom ∈ TB := TB_mem 235 (by decide +kernel) (by decide +kernel)
theorem tw_236 : Cond.instanceMethod yX1_copyFrom ∈ TB := TB_mem 236 (by decide +kernel) (by decide +kernel)
theorem tw_237 : Cond.selects RX1 yX1_copyFrom yX1_copyFrom ∈ TB := TB_mem 237 (by decide +kernel) (by decide +kernel)
theorem tw_238 : Cond.code yX1_copyFrom cX1_copyFrom 2 none ∈ TB := TB_mem 238 (by decide +kernel) (by decide +kernel)
theorem tw_239 : Cond.methodLink RX1 25 arraycopyName ∈ TB := TB_mem 239 (by decide +kernel) (by decide +kernel)
theorem tw_240 : Cond.methodLink RX4 60 arraycopyName ∈ TB := TB_mem 240 (by decide +kernel) (by decide +kernel)
theorem tw_241 : Cond.methodLink RX5 34 yX4_startChange ∈ TB := TB_mem 241 (by decide +kernel) (by decide +kernel)
theorem tw_242 : Cond.instanceMethod yX4_startChange ∈ TB := TB_mem 242 (by decide +kernel) (by decide +kernel)
theorem tw_243 : Cond.selects RX4 yX4_startChange yX4_startChange ∈ TB := TB_mem 243 (by decide +kernel) (by decide +kernel)
theorem tw_244 : Cond.code yX4_startChange cX4_startChange 1 (some .int) ∈ TB := TB_mem 244 (by decide +kernel) (by decide +kernel)
theorem tw_245 : Cond.constant RX4 77 (-1000002) ∈ TB := TB_mem 245 (by decide +kernel) (by decide +kernel)
theorem tw_246 : Cond.methodLink RX4 78 yX3_rows ∈ TB := TB_mem 246 (by decide +kernel) (by decide +kernel)
theorem tw_247 : Cond.instanceMethod yX3_rows ∈ TB := TB_mem 247 (by decide +kernel) (by decide +kernel)
theorem tw_248 : Cond.selects RX3 yX3_rows yX3_rows ∈ TB := TB_mem 248 (by decide +kernel) (by decide +kernel)
theorem tw_249 : Cond.code yX3_rows cX3_rows 3 (some .int) ∈ TB := TB_mem 249 (by decide +kernel) (by decide +kernel)
theorem tw_250 : Cond.methodLink RX5 38 yX5_settle ∈ TB := TB_mem 250 (by decide +kernel) (by decide +kernel)
theorem tw_252 : Cond.instanceMethod yX5_settle ∈ TB := TB_mem 252 (by decide +kernel) (by decide +kernel)
theorem tw_253 : Cond.code yX5_settle cX5_settle 4 (some .int) ∈ TB := TB_mem 253 (by decide +kernel) (by decide +kernel)
theorem tw_254 : Cond.methodLink RL 18 yX5_turn ∈ TB := TB_mem 254 (by decide +kernel) (by decide +kernel)
theorem tw_255 : Cond.instanceMethod yX5_turn ∈ TB := TB_mem 255 (by decide +kernel) (by decide +kernel)
theorem tw_256 : Cond.selects RX5 yX5_turn yX5_turn ∈ TB := TB_mem 256 (by decide +kernel) (by decide +kernel)
theorem tw_257 : Cond.code yX5_turn cX5_turn 1 (some .int) ∈ TB := TB_mem 257 (by decide +kernel) (by decide +kernel)
theorem tw_258 : Cond.methodLink RX5 42 yX4_turnOver ∈ TB := TB_mem 258 (by decide +kernel) (by decide +kernel)
theorem tw_259 : Cond.instanceMethod yX4_turnOver ∈ TB := TB_mem 259 (by decide +kernel) (by decide +kernel)
theorem tw_260 : Cond.selects RX4 yX4_turnOver yX4_turnOver ∈ TB := TB_mem 260 (by decide +kernel) (by decide +kernel)
theorem tw_261 : Cond.code yX4_turnOver cX4_turnOver 1 (some .int) ∈ TB := TB_mem 261 (by decide +kernel) (by decide +kernel)
theorem tw_262 : Cond.methodLink RX4 87 yX4_isReady ∈ TB := TB_mem 262 (by decide +kernel) (by decide +kernel)
theorem tw_263 : Cond.instanceMethod yX4_isReady ∈ TB := TB_mem 263 (by decide +kernel) (by decide +kernel)
theorem tw_264 : Cond.selects RX4 yX4_isReady yX4_isReady ∈ TB := TB_mem 264 (by decide +kernel) (by decide +kernel)
theorem tw_265 : Cond.code yX4_isReady cX4_isReady 1 (some .boolean) ∈ TB := TB_mem 265 (by decide +kernel) (by decide +kernel)
theorem tw_266 : Cond.methodLink RX4 84 yX4_differing ∈ TB := TB_mem 266 (by decide +kernel) (by decide +kernel)
theorem tw_267 : Cond.instanceMethod yX4_differing ∈ TB := TB_mem 267 (by decide +kernel) (by decide +kernel)
theorem tw_268 : Cond.selects RX4 yX4_differing yX4_differing ∈ TB := TB_mem 268 (by decide +kernel) (by decide +kernel)
theorem tw_269 : Cond.code yX4_differing cX4_differing 4 (some .int) ∈ TB := TB_mem 269 (by decide +kernel) (by decide +kernel)
theorem tw_270 : Cond.methodLink RX4 163 yX2_madeOver ∈ TB := TB_mem 270 (by decide +kernel) (by decide +kernel)
theorem tw_271 : Cond.static yX2_madeOver ∈ TB := TB_mem 271 (by decide +kernel) (by decide +kernel)
theorem tw_272 : Cond.code yX2_madeOver cX2_madeOver 3 (some .int) ∈ TB := TB_mem 272 (by decide +kernel) (by decide +kernel)
theorem tw_273 : Cond.methodLink RL 22 yX5_back ∈ TB := TB_mem 273 (by decide +kernel) (by decide +kernel)
theorem tw_274 : Cond.instanceMethod yX5_back ∈ TB := TB_mem 274 (by decide +kernel) (by decide +kernel)
theorem tw_275 : Cond.selects RX5 yX5_back yX5_back ∈ TB := TB_mem 275 (by decide +kernel) (by decide +kernel)
theorem tw_276 : Cond.code yX5_back cX5_back 1 (some .int) ∈ TB := TB_mem 276 (by decide +kernel) (by decide +kernel)
theorem tw_277 : Cond.methodLink RX5 45 yX4_turnBack ∈ TB := TB_mem 277 (by decide +kernel) (by decide +kernel)
theorem tw_278 : Cond.instanceMethod yX4_turnBack ∈ TB := TB_mem 278 (by decide +kernel) (by decide +kernel)
theorem tw_279 : Cond.selects RX4 yX4_turnBack yX4_turnBack ∈ TB := TB_mem 279 (by decide +kernel) (by decide +kernel)
theorem tw_280 : Cond.code yX4_turnBack cX4_turnBack 1 (some .int) ∈ TB := TB_mem 280 (by decide +kernel) (by decide +kernel)
theorem tw_281 : Cond.methodLink RX4 91 yX4_hasBoth ∈ TB := TB_mem 281 (by decide +kernel) (by decide +kernel)
theorem tw_282 : Cond.instanceMethod yX4_hasBoth ∈ TB := TB_mem 282 (by decide +kernel) (by decide +kernel)
theorem tw_283 : Cond.selects RX4 yX4_hasBoth yX4_hasBoth ∈ TB := TB_mem 283 (by decide +kernel) (by decide +kernel)
theorem tw_284 : Cond.code yX4_hasBoth cX4_hasBoth 1 (some .boolean) ∈ TB := TB_mem 284 (by decide +kernel) (by decide +kernel)
theorem tw_285 : Cond.methodLink RX4 94 yX3_clear ∈ TB := TB_mem 285 (by decide +kernel) (by decide +kernel)
theorem tw_286 : Cond.methodLink RL 26 yX5_drop ∈ TB := TB_mem 286 (by decide +kernel) (by decide +kernel)
theorem tw_287 : Cond.instanceMethod yX5_drop ∈ TB := TB_mem 287 (by decide +kernel) (by decide +kernel)
theorem tw_288 : Cond.selects RX5 yX5_drop yX5_drop ∈ TB := TB_mem 288 (by decide +kernel) (by decide +kernel)
theorem tw_289 : Cond.code yX5_drop cX5_drop 1 (some .int) ∈ TB := TB_mem 289 (by decide +kernel) (by decide +kernel)
theorem tw_290 : Cond.methodLink RX5 48 yX4_dropOld ∈ TB := TB_mem 290 (by decide +kernel) (by decide +kernel)
theorem tw_291 : Cond.instanceMethod yX4_dropOld ∈ TB := TB_mem 291 (by decide +kernel) (by decide +kernel)
theorem tw_292 : Cond.selects RX4 yX4_dropOld yX4_dropOld ∈ TB := TB_mem 292 (by decide +kernel) (by decide +kernel)
theorem tw_293 : Cond.code yX4_dropOld cX4_dropOld 1 (some .int) ∈ TB := TB_mem 293 (by decide +kernel) (by decide +kernel)
theorem tw_294 : Cond.methodLink RX4 97 yX3_strangeRows ∈ TB := TB_mem 294 (by decide +kernel) (by decide +kernel)
theorem tw_295 : Cond.instanceMethod yX3_strangeRows ∈ TB := TB_mem 295 (by decide +kernel) (by decide +kernel)
theorem tw_296 : Cond.selects RX3 yX3_strangeRows yX3_strangeRows ∈ TB := TB_mem 296 (by decide +kernel) (by decide +kernel)
theorem tw_297 : Cond.code yX3_strangeRows cX3_strangeRows 3 (some .int) ∈ TB := TB_mem 297 (by decide +kernel) (by decide +kernel)
theorem tw_298 : Cond.methodLink RX3 41 yX2_isStrange ∈ TB := TB_mem 298 (by decide +kernel) (by decide +kernel)
theorem tw_299 : Cond.static yX2_isStrange ∈ TB := TB_mem 299 (by decide +kernel) (by decide +kernel)
theorem tw_300 : Cond.code yX2_isStrange cX2_isStrange 1 (some .boolean) ∈ TB := TB_mem 300 (by decide +kernel) (by decide +kernel)
theorem tw_301 : Cond.methodLink RL 30 yX5_writeOld ∈ TB := TB_mem 301 (by decide +kernel) (by decide +kernel)
theorem tw_302 : Cond.instanceMethod yX5_writeOld ∈ TB := TB_mem 302 (by decide +kernel) (by decide +kernel)
theorem tw_303 : Cond.selects RX5 yX5_writeOld yX5_writeOld ∈ TB := TB_mem 303 (by decide +kernel) (by decide +kernel)
theorem tw_304 : Cond.code yX5_writeOld cX5_writeOld 5 (some .int) ∈ TB := TB_mem 304 (by decide +kernel) (by decide +kernel)
theorem tw_305 : Cond.methodLink RX5 51 yX4_putOld ∈ TB := TB_mem 305 (by decide +kernel) (by decide +kernel)
theorem tw_306 : Cond.instanceMethod yX4_putOld ∈ TB := TB_mem 306 (by decide +kernel) (by decide +kernel)
theorem tw_307 : Cond.selects RX4 yX4_putOld yX4_putOld ∈ TB := TB_mem 307 (by decide +kernel) (by decide +kernel)
theorem tw_308 : Cond.code yX4_putOld cX4_putOld 5 (some .int) ∈ TB := TB_mem 308 (by decide +kernel) (by decide +kernel)
theorem tw_310 : Cond.static yX5_isBelow ∈ TB := TB_mem 310 (by decide +kernel) (by decide +kernel)
theorem tw_311 : Cond.code yX5_isBelow cX5_isBelow 2 (some .boolean) ∈ TB := TB_mem 311 (by decide +kernel) (by decide +kernel)
theorem tw_312 : Cond.constant RX4 106 (-1000001) ∈ TB := TB_mem 312 (by decide +kernel) (by decide +kernel)
theorem tw_313 : Cond.methodLink RX4 107 yX2_ofOld ∈ TB := TB_mem 313 (by decide +kernel) (by decide +kernel)
theorem tw_314 : Cond.static yX2_ofOld ∈ TB := TB_mem 314 (by decide +kernel) (by decide +kernel)
theorem tw_315 : Cond.code yX2_ofOld cX2_ofOld 3 (some .int) ∈ TB := TB_mem 315 (by decide +kernel) (by decide +kernel)
theorem tw_316 : Cond.methodLink RX2 11 yX2_ofNew ∈ TB := TB_mem 316 (by decide +kernel) (by decide +kernel)
theorem tw_317 : Cond.static yX2_ofNew ∈ TB := TB_mem 317 (by decide +kernel) (by decide +kernel)
theorem tw_318 : Cond.code yX2_ofNew cX2_ofNew 2 (some .int) ∈ TB := TB_mem 318 (by decide +kernel) (by decide +kernel)
theorem tw_319 : Cond.methodLink RX4 111 yX4_put ∈ TB := TB_mem 319 (by decide +kernel) (by decide +kernel)
theorem tw_321 : Cond.instanceMethod yX4_put ∈ TB := TB_mem 321 (by decide +kernel) (by decide +kernel)
theorem tw_322 : Cond.code yX4_put cX4_put 4 (some .int) ∈ TB := TB_mem 322 (by decide +kernel) (by decide +kernel)
theorem tw_323 : Cond.constant RX4 125 (100000) ∈ TB := TB_mem 323 (by decide +kernel) (by decide +kernel)
theorem tw_324 : Cond.constant RX4 126 (-1000003) ∈ TB := TB_mem 324 (by decide +kernel) (by decide +kernel)
theorem tw_325 : Cond.methodLink RX4 69 yX4_first ∈ TB := TB_mem 325 (by decide +kernel) (by decide +kernel)
theorem tw_326 : Cond.instanceMethod yX4_first ∈ TB := TB_mem 326 (by decide +kernel) (by decide +kernel)
theorem tw_327 : Cond.selects RX4 yX4_first yX4_first ∈ TB := TB_mem 327 (by decide +kernel) (by decide +kernel)
theorem tw_328 : Cond.code yX4_first cX4_first 1 (some .int) ∈ TB := TB_mem 328 (by decide +kernel) (by decide +kernel)
theorem tw_329 : Cond.methodLink RX4 118 yX4_shape ∈ TB := TB_mem 329 (by decide +kernel) (by decide +kernel)
theorem tw_330 : Cond.instanceMethod yX4_shape ∈ TB := TB_mem 330 (by decide +kernel) (by decide +kernel)
theorem tw_331 : Cond.selects RX4 yX4_shape yX4_shape ∈ TB := TB_mem 331 (by decide +kernel) (by decide +kernel)
theorem tw_332 : Cond.code yX4_shape cX4_shape 2 (some (.object "TwoShapes$Shape")) ∈ TB := TB_mem 332 (by decide +kernel) (by decide +kernel)
theorem tw_333 : Cond.methodLink RX4 127 yX3_take ∈ TB := TB_mem 333 (by decide +kernel) (by decide +kernel)
theorem tw_334 : Cond.instanceMethod yX3_take ∈ TB := TB_mem 334 (by decide +kernel) (by decide +kernel)
theorem tw_335 : Cond.selects RX3 yX3_take yX3_take ∈ TB := TB_mem 335 (by decide +kernel) (by decide +kernel)
theorem tw_336 : Cond.code yX3_take cX3_take 4 none ∈ TB := TB_mem 336 (by decide +kernel) (by decide +kernel)
theorem tw_337 : Cond.methodLink RX3 31 yX2_madeOver ∈ TB := TB_mem 337 (by decide +kernel) (by decide +kernel)
theorem tw_338 : Cond.methodLink RX4 131 yX1_append ∈ TB := TB_mem 338 (by decide +kernel) (by decide +kernel)
theorem tw_339 : Cond.instanceMethod yX1_append ∈ TB := TB_mem 339 (by decide +kernel) (by decide +kernel)
theorem tw_340 : Cond.selects RX1 yX1_append yX1_append ∈ TB := TB_mem 340 (by decide +kernel) (by decide +kernel)
theorem tw_341 : Cond.code yX1_append cX1_append 4 none ∈ TB := TB_mem 341 (by decide +kernel) (by decide +kernel)
theorem tw_342 : Cond.methodLink RL 35 yX5_writeNew ∈ TB := TB_mem 342 (by decide +kernel) (by decide +kernel)
theorem tw_343 : Cond.instanceMethod yX5_writeNew ∈ TB := TB_mem 343 (by decide +kernel) (by decide +kernel)
theorem tw_344 : Cond.selects RX5 yX5_writeNew yX5_writeNew ∈ TB := TB_mem 344 (by decide +kernel) (by decide +kernel)
theorem tw_345 : Cond.code yX5_writeNew cX5_writeNew 4 (some .int) ∈ TB := TB_mem 345 (by decide +kernel) (by decide +kernel)
theorem tw_346 : Cond.methodLink RX5 55 yX4_putNew ∈ TB := TB_mem 346 (by decide +kernel) (by decide +kernel)
theorem tw_347 : Cond.instanceMethod yX4_putNew ∈ TB := TB_mem 347 (by decide +kernel) (by decide +kernel)
theorem tw_348 : Cond.selects RX4 yX4_putNew yX4_putNew ∈ TB := TB_mem 348 (by decide +kernel) (by decide +kernel)
theorem tw_349 : Cond.code yX4_putNew cX4_putNew 4 (some .int) ∈ TB := TB_mem 349 (by decide +kernel) (by decide +kernel)
theorem tw_350 : Cond.methodLink RX4 115 yX2_ofNew ∈ TB := TB_mem 350 (by decide +kernel) (by decide +kernel)
theorem tw_351 : Cond.methodLink RL 40 yX5_remove ∈ TB := TB_mem 351 (by decide +kernel) (by decide +kernel)
theorem tw_352 : Cond.instanceMethod yX5_remove ∈ TB := TB_mem 352 (by decide +kernel) (by decide +kernel)
theorem tw_353 : Cond.selects RX5 yX5_remove yX5_remove ∈ TB := TB_mem 353 (by decide +kernel) (by decide +kernel)
theorem tw_354 : Cond.code yX5_remove cX5_remove 2 (some .int) ∈ TB := TB_mem 354 (by decide +kernel) (by decide +kernel)
theorem tw_355 : Cond.methodLink RX5 59 yX4_takeAway ∈ TB := TB_mem 355 (by decide +kernel) (by decide +kernel)
theorem tw_356 : Cond.instanceMethod yX4_takeAway ∈ TB := TB_mem 356 (by decide +kernel) (by decide +kernel)
theorem tw_357 : Cond.selects RX4 yX4_takeAway yX4_takeAway ∈ TB := TB_mem 357 (by decide +kernel) (by decide +kernel)
theorem tw_358 : Cond.code yX4_takeAway cX4_takeAway 2 (some .int) ∈ TB := TB_mem 358 (by decide +kernel) (by decide +kernel)
theorem tw_359 : Cond.methodLink RL 45 yX5_drain ∈ TB := TB_mem 359 (by decide +kernel) (by decide +kernel)
theorem tw_360 : Cond.instanceMethod yX5_drain ∈ TB := TB_mem 360 (by decide +kernel) (by decide +kernel)
theorem tw_361 : Cond.selects RX5 yX5_drain yX5_drain ∈ TB := TB_mem 361 (by decide +kernel) (by decide +kernel)
theorem tw_362 : Cond.code yX5_drain cX5_drain 2 (some .int) ∈ TB := TB_mem 362 (by decide +kernel) (by decide +kernel)
theorem tw_363 : Cond.methodLink RX5 62 yX4_drainQueue ∈ TB := TB_mem 363 (by decide +kernel) (by decide +kernel)
theorem tw_364 : Cond.instanceMethod yX4_drainQueue ∈ TB := TB_mem 364 (by decide +kernel) (by decide +kernel)
theorem tw_365 : Cond.selects RX4 yX4_drainQueue yX4_drainQueue ∈ TB := TB_mem 365 (by decide +kernel) (by decide +kernel)
theorem tw_366 : Cond.code yX4_drainQueue cX4_drainQueue 5 (some .int) ∈ TB := TB_mem 366 (by decide +kernel) (by decide +kernel)
theorem tw_367 : Cond.methodLink RX4 134 Lib.Math.min.name ∈ TB := TB_mem 367 (by decide +kernel) (by decide +kernel)
theorem tw_368 : Cond.static Lib.Math.min.name ∈ TB := TB_mem 368 (by decide +kernel) (by decide +kernel)
theorem tw_369 : Cond.code Lib.Math.min.name Lib.Math.min.code 2 (some .int) ∈ TB := TB_mem 369 (by decide +kernel) (by decide +kernel)
theorem tw_370 : Cond.methodLink RX4 139 yX4_second ∈ TB := TB_mem 370 (by decide +kernel) (by decide +kernel)
theorem tw_371 : Cond.instanceMethod yX4_second ∈ TB := TB_mem 371 (by decide +kernel) (by decide +kernel)
theorem tw_372 : Cond.selects RX4 yX4_second yX4_second ∈ TB := TB_mem 372 (by decide +kernel) (by decide +kernel)
theorem tw_373 : Cond.code yX4_second cX4_second 1 (some .int) ∈ TB := TB_mem 373 (by decide +kernel) (by decide +kernel)
theorem tw_374 : Cond.methodLink RX4 73 yX4_other ∈ TB := TB_mem 374 (by decide +kernel) (by decide +kernel)
theorem tw_375 : Cond.instanceMethod yX4_other ∈ TB := TB_mem 375 (by decide +kernel) (by decide +kernel)
theorem tw_376 : Cond.selects RX4 yX4_other yX4_other ∈ TB := TB_mem 376 (by decide +kernel) (by decide +kernel)
theorem tw_377 : Cond.code yX4_other cX4_other 2 (some .int) ∈ TB := TB_mem 377 (by decide +kernel) (by decide +kernel)
theorem tw_378 : Cond.methodLink RX4 149 yX1_shorten ∈ TB := TB_mem 378 (by decide +kernel) (by decide +kernel)
theorem tw_379 : Cond.instanceMethod yX1_shorten ∈ TB := TB_mem 379 (by decide +kernel) (by decide +kernel)
theorem tw_380 : Cond.selects RX1 yX1_shorten yX1_shorten ∈ TB := TB_mem 380 (by decide +kernel) (by decide +kernel)
theorem tw_381 : Cond.code yX1_shorten cX1_shorten 4 none ∈ TB := TB_mem 381 (by decide +kernel) (by decide +kernel)
theorem tw_382 : Cond.methodLink RX1 31 Lib.Math.max.name ∈ TB := TB_mem 382 (by decide +kernel) (by decide +kernel)
theorem tw_383 : Cond.static Lib.Math.max.name ∈ TB := TB_mem 383 (by decide +kernel) (by decide +kernel)
theorem tw_384 : Cond.code Lib.Math.max.name Lib.Math.max.code 2 (some .int) ∈ TB := TB_mem 384 (by decide +kernel) (by decide +kernel)
theorem tw_385 : Cond.methodLink RL 49 yX5_backfill ∈ TB := TB_mem 385 (by decide +kernel) (by decide +kernel)
theorem tw_386 : Cond.instanceMethod yX5_backfill ∈ TB := TB_mem 386 (by decide +kernel) (by decide +kernel)
theorem tw_387 : Cond.selects RX5 yX5_backfill yX5_backfill ∈ TB := TB_mem 387 (by decide +kernel) (by decide +kernel)
theorem tw_388 : Cond.code yX5_backfill cX5_backfill 2 (some .int) ∈ TB := TB_mem 388 (by decide +kernel) (by decide +kernel)
theorem tw_389 : Cond.methodLink RX5 65 yX4_fillKeys ∈ TB := TB_mem 389 (by decide +kernel) (by decide +kernel)
theorem tw_390 : Cond.instanceMethod yX4_fillKeys ∈ TB := TB_mem 390 (by decide +kernel) (by decide +kernel)
theorem tw_391 : Cond.selects RX4 yX4_fillKeys yX4_fillKeys ∈ TB := TB_mem 391 (by decide +kernel) (by decide +kernel)
theorem tw_392 : Cond.code yX4_fillKeys cX4_fillKeys 5 (some .int) ∈ TB := TB_mem 392 (by decide +kernel) (by decide +kernel)
theorem tw_393 : Cond.methodLink RX4 153 yX3_takeFrom ∈ TB := TB_mem 393 (by decide +kernel) (by decide +kernel)
theorem tw_394 : Cond.instanceMethod yX3_takeFrom ∈ TB := TB_mem 394 (by decide +kernel) (by decide +kernel)
theorem tw_395 : Cond.selects RX3 yX3_takeFrom yX3_takeFrom ∈ TB := TB_mem 395 (by decide +kernel) (by decide +kernel)
theorem tw_396 : Cond.code yX3_takeFrom cX3_takeFrom 3 none ∈ TB := TB_mem 396 (by decide +kernel) (by decide +kernel)
theorem tw_397 : Cond.methodLink RX3 37 yX3_take ∈ TB := TB_mem 397 (by decide +kernel) (by decide +kernel)
theorem tw_398 : Cond.methodLink RL 53 yX5_crash ∈ TB := TB_mem 398 (by decide +kernel) (by decide +kernel)
theorem tw_399 : Cond.instanceMethod yX5_crash ∈ TB := TB_mem 399 (by decide +kernel) (by decide +kernel)
theorem tw_400 : Cond.selects RX5 yX5_crash yX5_crash ∈ TB := TB_mem 400 (by decide +kernel) (by decide +kernel)
theorem tw_401 : Cond.code yX5_crash cX5_crash 1 (some .int) ∈ TB := TB_mem 401 (by decide +kernel) (by decide +kernel)
theorem tw_402 : Cond.methodLink RX5 68 yX4_loseQueue ∈ TB := TB_mem 402 (by decide +kernel) (by decide +kernel)
theorem tw_403 : Cond.instanceMethod yX4_loseQueue ∈ TB := TB_mem 403 (by decide +kernel) (by decide +kernel)
theorem tw_404 : Cond.selects RX4 yX4_loseQueue yX4_loseQueue ∈ TB := TB_mem 404 (by decide +kernel) (by decide +kernel)
theorem tw_405 : Cond.code yX4_loseQueue cX4_loseQueue 2 (some .int) ∈ TB := TB_mem 405 (by decide +kernel) (by decide +kernel)
theorem tw_406 : Cond.methodLink RL 57 yX5_mend ∈ TB := TB_mem 406 (by decide +kernel) (by decide +kernel)
theorem tw_407 : Cond.instanceMethod yX5_mend ∈ TB := TB_mem 407 (by decide +kernel) (by decide +kernel)
theorem tw_408 : Cond.selects RX5 yX5_mend yX5_mend ∈ TB := TB_mem 408 (by decide +kernel) (by decide +kernel)
theorem tw_409 : Cond.code yX5_mend cX5_mend 2 (some .int) ∈ TB := TB_mem 409 (by decide +kernel) (by decide +kernel)
theorem tw_410 : Cond.methodLink RX5 71 yX4_mendKey ∈ TB := TB_mem 410 (by decide +kernel) (by decide +kernel)
theorem tw_411 : Cond.instanceMethod yX4_mendKey ∈ TB := TB_mem 411 (by decide +kernel) (by decide +kernel)
theorem tw_412 : Cond.selects RX4 yX4_mendKey yX4_mendKey ∈ TB := TB_mem 412 (by decide +kernel) (by decide +kernel)
theorem tw_413 : Cond.code yX4_mendKey cX4_mendKey 3 (some .int) ∈ TB := TB_mem 413 (by decide +kernel) (by decide +kernel)
theorem tw_414 : Cond.methodLink RX4 157 yX1_latestOf ∈ TB := TB_mem 414 (by decide +kernel) (by decide +kernel)
theorem tw_415 : Cond.instanceMethod yX1_latestOf ∈ TB := TB_mem 415 (by decide +kernel) (by decide +kernel)
theorem tw_416 : Cond.selects RX1 yX1_latestOf yX1_latestOf ∈ TB := TB_mem 416 (by decide +kernel) (by decide +kernel)
theorem tw_417 : Cond.code yX1_latestOf cX1_latestOf 3 (some .int) ∈ TB := TB_mem 417 (by decide +kernel) (by decide +kernel)
theorem tw_418 : Cond.methodLink RX4 160 yX4_newerOf ∈ TB := TB_mem 418 (by decide +kernel) (by decide +kernel)
theorem tw_420 : Cond.instanceMethod yX4_newerOf ∈ TB := TB_mem 420 (by decide +kernel) (by decide +kernel)
theorem tw_421 : Cond.code yX4_newerOf cX4_newerOf 4 (some .int) ∈ TB := TB_mem 421 (by decide +kernel) (by decide +kernel)
theorem tw_422 : Cond.methodLink RL 61 yX5_read ∈ TB := TB_mem 422 (by decide +kernel) (by decide +kernel)
theorem tw_423 : Cond.instanceMethod yX5_read ∈ TB := TB_mem 423 (by decide +kernel) (by decide +kernel)
theorem tw_424 : Cond.selects RX5 yX5_read yX5_read ∈ TB := TB_mem 424 (by decide +kernel) (by decide +kernel)
theorem tw_425 : Cond.code yX5_read cX5_read 6 (some .int) ∈ TB := TB_mem 425 (by decide +kernel) (by decide +kernel)
theorem tw_426 : Cond.methodLink RX5 74 yX5_isBelow ∈ TB := TB_mem 426 (by decide +kernel) (by decide +kernel)
theorem tw_427 : Cond.constant RX5 78 (-1000001) ∈ TB := TB_mem 427 (by decide +kernel) (by decide +kernel)
theorem tw_428 : Cond.methodLink RX5 79 yX4_rowRead ∈ TB := TB_mem 428 (by decide +kernel) (by decide +kernel)
theorem tw_429 : Cond.instanceMethod yX4_rowRead ∈ TB := TB_mem 429 (by decide +kernel) (by decide +kernel)
theorem tw_430 : Cond.selects RX4 yX4_rowRead yX4_rowRead ∈ TB := TB_mem 430 (by decide +kernel) (by decide +kernel)
theorem tw_431 : Cond.code yX4_rowRead cX4_rowRead 6 (some .int) ∈ TB := TB_mem 431 (by decide +kernel) (by decide +kernel)
theorem tw_432 : Cond.methodLink RX4 166 yX4_isThere ∈ TB := TB_mem 432 (by decide +kernel) (by decide +kernel)
theorem tw_433 : Cond.instanceMethod yX4_isThere ∈ TB := TB_mem 433 (by decide +kernel) (by decide +kernel)
theorem tw_434 : Cond.selects RX4 yX4_isThere yX4_isThere ∈ TB := TB_mem 434 (by decide +kernel) (by decide +kernel)
theorem tw_435 : Cond.code yX4_isThere cX4_isThere 2 (some .boolean) ∈ TB := TB_mem 435 (by decide +kernel) (by decide +kernel)
theorem tw_436 : Cond.constant RX5 83 (-1000004) ∈ TB := TB_mem 436 (by decide +kernel) (by decide +kernel)
theorem tw_437 : Cond.methodLink RX5 84 yX2_number ∈ TB := TB_mem 437 (by decide +kernel) (by decide +kernel)
theorem tw_438 : Cond.static yX2_number ∈ TB := TB_mem 438 (by decide +kernel) (by decide +kernel)
theorem tw_439 : Cond.code yX2_number cX2_number 5 (some .int) ∈ TB := TB_mem 439 (by decide +kernel) (by decide +kernel)
theorem tw_440 : Cond.methodLink RL 65 yX5_shapeOf ∈ TB := TB_mem 440 (by decide +kernel) (by decide +kernel)
theorem tw_441 : Cond.instanceMethod yX5_shapeOf ∈ TB := TB_mem 441 (by decide +kernel) (by decide +kernel)
theorem tw_442 : Cond.selects RX5 yX5_shapeOf yX5_shapeOf ∈ TB := TB_mem 442 (by decide +kernel) (by decide +kernel)
theorem tw_443 : Cond.code yX5_shapeOf cX5_shapeOf 6 (some .int) ∈ TB := TB_mem 443 (by decide +kernel) (by decide +kernel)
theorem tw_444 : Cond.methodLink RX5 89 yX4_isThere ∈ TB := TB_mem 444 (by decide +kernel) (by decide +kernel)
theorem tw_445 : Cond.constant RX5 93 (-1000002) ∈ TB := TB_mem 445 (by decide +kernel) (by decide +kernel)
theorem tw_446 : Cond.methodLink RX5 94 yX4_shape ∈ TB := TB_mem 446 (by decide +kernel) (by decide +kernel)
theorem tw_447 : Cond.methodLink RL 69 yX5_queued ∈ TB := TB_mem 447 (by decide +kernel) (by decide +kernel)
theorem tw_448 : Cond.instanceMethod yX5_queued ∈ TB := TB_mem 448 (by decide +kernel) (by decide +kernel)
theorem tw_449 : Cond.selects RX5 yX5_queued yX5_queued ∈ TB := TB_mem 449 (by decide +kernel) (by decide +kernel)
theorem tw_450 : Cond.code yX5_queued cX5_queued 3 (some .int) ∈ TB := TB_mem 450 (by decide +kernel) (by decide +kernel)
theorem tw_451 : Cond.methodLink RX5 121 yX4_second ∈ TB := TB_mem 451 (by decide +kernel) (by decide +kernel)
theorem tw_452 : Cond.methodLink RL 74 yX5_keys ∈ TB := TB_mem 452 (by decide +kernel) (by decide +kernel)
theorem tw_453 : Cond.instanceMethod yX5_keys ∈ TB := TB_mem 453 (by decide +kernel) (by decide +kernel)
theorem tw_454 : Cond.selects RX5 yX5_keys yX5_keys ∈ TB := TB_mem 454 (by decide +kernel) (by decide +kernel)
theorem tw_455 : Cond.code yX5_keys cX5_keys 2 (some .int) ∈ TB := TB_mem 455 (by decide +kernel) (by decide +kernel)
theorem tw_456 : Cond.methodLink RX5 125 yX4_keysRead ∈ TB := TB_mem 456 (by decide +kernel) (by decide +kernel)
theorem tw_457 : Cond.instanceMethod yX4_keysRead ∈ TB := TB_mem 457 (by decide +kernel) (by decide +kernel)
theorem tw_458 : Cond.selects RX4 yX4_keysRead yX4_keysRead ∈ TB := TB_mem 458 (by decide +kernel) (by decide +kernel)
theorem tw_459 : Cond.code yX4_keysRead cX4_keysRead 4 (some .int) ∈ TB := TB_mem 459 (by decide +kernel) (by decide +kernel)
theorem tw_460 : Cond.methodLink RX4 170 yX4_rowRead ∈ TB := TB_mem 460 (by decide +kernel) (by decide +kernel)
theorem tw_461 : Cond.methodLink RL 78 yX5_check ∈ TB := TB_mem 461 (by decide +kernel) (by decide +kernel)
theorem tw_462 : Cond.instanceMethod yX5_check ∈ TB := TB_mem 462 (by decide +kernel) (by decide +kernel)
theorem tw_463 : Cond.selects RX5 yX5_check yX5_check ∈ TB := TB_mem 463 (by decide +kernel) (by decide +kernel)
theorem tw_464 : Cond.code yX5_check cX5_check 1 (some .int) ∈ TB := TB_mem 464 (by decide +kernel) (by decide +kernel)
theorem tw_465 : Cond.methodLink RX5 128 yX4_hasBoth ∈ TB := TB_mem 465 (by decide +kernel) (by decide +kernel)
theorem tw_466 : Cond.methodLink RX5 132 yX4_differing ∈ TB := TB_mem 466 (by decide +kernel) (by decide +kernel)
theorem tw_467 : Cond.methodLink RL 82 yX5_quarrel ∈ TB := TB_mem 467 (by decide +kernel) (by decide +kernel)
theorem tw_468 : Cond.instanceMethod yX5_quarrel ∈ TB := TB_mem 468 (by decide +kernel) (by decide +kernel)
theorem tw_469 : Cond.selects RX5 yX5_quarrel yX5_quarrel ∈ TB := TB_mem 469 (by decide +kernel) (by decide +kernel)
theorem tw_470 : Cond.code yX5_quarrel cX5_quarrel 1 (some .int) ∈ TB := TB_mem 470 (by decide +kernel) (by decide +kernel)
theorem tw_471 : Cond.methodLink RX5 135 yX4_quarrelling ∈ TB := TB_mem 471 (by decide +kernel) (by decide +kernel)
theorem tw_472 : Cond.instanceMethod yX4_quarrelling ∈ TB := TB_mem 472 (by decide +kernel) (by decide +kernel)
theorem tw_473 : Cond.selects RX4 yX4_quarrelling yX4_quarrelling ∈ TB := TB_mem 473 (by decide +kernel) (by decide +kernel)
theorem tw_474 : Cond.code yX4_quarrelling cX4_quarrelling 3 (some .int) ∈ TB := TB_mem 474 (by decide +kernel) (by decide +kernel)
theorem tw_475 : Cond.methodLink RL 86 yX5_atRisk ∈ TB := TB_mem 475 (by decide +kernel) (by decide +kernel)
theorem tw_476 : Cond.instanceMethod yX5_atRisk ∈ TB := TB_mem 476 (by decide +kernel) (by decide +kernel)
theorem tw_477 : Cond.selects RX5 yX5_atRisk yX5_atRisk ∈ TB := TB_mem 477 (by decide +kernel) (by decide +kernel)
theorem tw_478 : Cond.code yX5_atRisk cX5_atRisk 1 (some .int) ∈ TB := TB_mem 478 (by decide +kernel) (by decide +kernel)
theorem tw_479 : Cond.methodLink RX5 138 yX4_risky ∈ TB := TB_mem 479 (by decide +kernel) (by decide +kernel)
theorem tw_480 : Cond.instanceMethod yX4_risky ∈ TB := TB_mem 480 (by decide +kernel) (by decide +kernel)
theorem tw_481 : Cond.selects RX4 yX4_risky yX4_risky ∈ TB := TB_mem 481 (by decide +kernel) (by decide +kernel)
theorem tw_482 : Cond.code yX4_risky cX4_risky 3 (some .int) ∈ TB := TB_mem 482 (by decide +kernel) (by decide +kernel)
theorem tw_483 : Cond.methodLink RL 90 yX5_walk ∈ TB := TB_mem 483 (by decide +kernel) (by decide +kernel)
theorem tw_484 : Cond.instanceMethod yX5_walk ∈ TB := TB_mem 484 (by decide +kernel) (by decide +kernel)
theorem tw_485 : Cond.selects RX5 yX5_walk yX5_walk ∈ TB := TB_mem 485 (by decide +kernel) (by decide +kernel)
theorem tw_486 : Cond.code yX5_walk cX5_walk 3 (some .int) ∈ TB := TB_mem 486 (by decide +kernel) (by decide +kernel)
theorem tw_487 : Cond.methodLink RX5 141 yX4_startWalk ∈ TB := TB_mem 487 (by decide +kernel) (by decide +kernel)
theorem tw_488 : Cond.instanceMethod yX4_startWalk ∈ TB := TB_mem 488 (by decide +kernel) (by decide +kernel)
theorem tw_489 : Cond.selects RX4 yX4_startWalk yX4_startWalk ∈ TB := TB_mem 489 (by decide +kernel) (by decide +kernel)
theorem tw_490 : Cond.code yX4_startWalk cX4_startWalk 3 (some .int) ∈ TB := TB_mem 490 (by decide +kernel) (by decide +kernel)
theorem tw_491 : Cond.methodLink RX4 173 yX4_keysRead ∈ TB := TB_mem 491 (by decide +kernel) (by decide +kernel)
theorem tw_492 : Cond.methodLink RX4 176 yJ6_bitCount_0f7a4 ∈ TB := TB_mem 492 (by decide +kernel) (by decide +kernel)
theorem tw_493 : Cond.static yJ6_bitCount_0f7a4 ∈ TB := TB_mem 493 (by decide +kernel) (by decide +kernel)
theorem tw_494 : Cond.code yJ6_bitCount_0f7a4 cJ6_bitCount_0f7a4 1 (some .int) ∈ TB := TB_mem 494 (by decide +kernel) (by decide +kernel)
theorem tw_495 : Cond.constant RJ6 265 (1431655765) ∈ TB := TB_mem 495 (by decide +kernel) (by decide +kernel)
theorem tw_496 : Cond.constant RJ6 266 (858993459) ∈ TB := TB_mem 496 (by decide +kernel) (by decide +kernel)
theorem tw_497 : Cond.constant RJ6 267 (252645135) ∈ TB := TB_mem 497 (by decide +kernel) (by decide +kernel)
theorem tw_498 : Cond.methodLink RL 94 yX5_step ∈ TB := TB_mem 498 (by decide +kernel) (by decide +kernel)
theorem tw_499 : Cond.instanceMethod yX5_step ∈ TB := TB_mem 499 (by decide +kernel) (by decide +kernel)
theorem tw_500 : Cond.selects RX5 yX5_step yX5_step ∈ TB := TB_mem 500 (by decide +kernel) (by decide +kernel)
theorem tw_501 : Cond.code yX5_step cX5_step 2 (some .int) ∈ TB := TB_mem 501 (by decide +kernel) (by decide +kernel)
theorem tw_502 : Cond.methodLink RX5 144 yX4_goOn ∈ TB := TB_mem 502 (by decide +kernel) (by decide +kernel)
theorem tw_503 : Cond.instanceMethod yX4_goOn ∈ TB := TB_mem 503 (by decide +kernel) (by decide +kernel)
theorem tw_504 : Cond.selects RX4 yX4_goOn yX4_goOn ∈ TB := TB_mem 504 (by decide +kernel) (by decide +kernel)
theorem tw_505 : Cond.code yX4_goOn cX4_goOn 3 (some .int) ∈ TB := TB_mem 505 (by decide +kernel) (by decide +kernel)
theorem tw_506 : Cond.methodLink RL 98 yX5_count ∈ TB := TB_mem 506 (by decide +kernel) (by decide +kernel)
theorem tw_507 : Cond.instanceMethod yX5_count ∈ TB := TB_mem 507 (by decide +kernel) (by decide +kernel)
theorem tw_508 : Cond.selects RX5 yX5_count yX5_count ∈ TB := TB_mem 508 (by decide +kernel) (by decide +kernel)
theorem tw_509 : Cond.code yX5_count cX5_count 2 (some .int) ∈ TB := TB_mem 509 (by decide +kernel) (by decide +kernel)
theorem tw_510 : Cond.methodLink RX5 160 yX3_rows ∈ TB := TB_mem 510 (by decide +kernel) (by decide +kernel)
theorem tw_511 : Cond.methodLink RX5 166 yX3_strangeRows ∈ TB := TB_mem 511 (by decide +kernel) (by decide +kernel)
theorem tw_512 : Cond.methodLink RX5 169 yX3_known ∈ TB := TB_mem 512 (by decide +kernel) (by decide +kernel)
theorem tw_513 : Cond.instanceMethod yX3_known ∈ TB := TB_mem 513 (by decide +kernel) (by decide +kernel)
theorem tw_514 : Cond.selects RX3 yX3_known yX3_known ∈ TB := TB_mem 514 (by decide +kernel) (by decide +kernel)
theorem tw_515 : Cond.code yX3_known cX3_known 3 (some .int) ∈ TB := TB_mem 515 (by decide +kernel) (by decide +kernel)
theorem tw_516 : Cond.methodLink RX5 172 yX4_isReady ∈ TB := TB_mem 516 (by decide +kernel) (by decide +kernel)
theorem tw_517 : Cond.methodLink RL 102 yX5_undo ∈ TB := TB_mem 517 (by decide +kernel) (by decide +kernel)
theorem tw_518 : Cond.instanceMethod yX5_undo ∈ TB := TB_mem 518 (by decide +kernel) (by decide +kernel)
theorem tw_519 : Cond.selects RX5 yX5_undo yX5_undo ∈ TB := TB_mem 519 (by decide +kernel) (by decide +kernel)
theorem tw_520 : Cond.code yX5_undo cX5_undo 2 (some .int) ∈ TB := TB_mem 520 (by decide +kernel) (by decide +kernel)
theorem tw_521 : Cond.methodLink RL 106 yX5_type ∈ TB := TB_mem 521 (by decide +kernel) (by decide +kernel)
theorem tw_522 : Cond.instanceMethod yX5_type ∈ TB := TB_mem 522 (by decide +kernel) (by decide +kernel)
theorem tw_523 : Cond.selects RX5 yX5_type yX5_type ∈ TB := TB_mem 523 (by decide +kernel) (by decide +kernel)
theorem tw_524 : Cond.code yX5_type cX5_type 2 (some .int) ∈ TB := TB_mem 524 (by decide +kernel) (by decide +kernel)
theorem tw_525 : Cond.constant RX5 185 (-1000003) ∈ TB := TB_mem 525 (by decide +kernel) (by decide +kernel)
theorem tw_526 : Cond.methodLink RX5 186 yX0_append ∈ TB := TB_mem 526 (by decide +kernel) (by decide +kernel)
theorem tw_527 : Cond.instanceMethod yX0_append ∈ TB := TB_mem 527 (by decide +kernel) (by decide +kernel)
theorem tw_528 : Cond.selects RX0 yX0_append yX0_append ∈ TB := TB_mem 528 (by decide +kernel) (by decide +kernel)
theorem tw_529 : Cond.code yX0_append cX0_append 2 none ∈ TB := TB_mem 529 (by decide +kernel) (by decide +kernel)
theorem tw_530 : Cond.methodLink RL 110 yX5_clearText ∈ TB := TB_mem 530 (by decide +kernel) (by decide +kernel)
theorem tw_531 : Cond.instanceMethod yX5_clearText ∈ TB := TB_mem 531 (by decide +kernel) (by decide +kernel)
theorem tw_532 : Cond.selects RX5 yX5_clearText yX5_clearText ∈ TB := TB_mem 532 (by decide +kernel) (by decide +kernel)
theorem tw_533 : Cond.code yX5_clearText cX5_clearText 2 (some .int) ∈ TB := TB_mem 533 (by decide +kernel) (by decide +kernel)
theorem tw_534 : Cond.methodLink RL 114 yX5_fault ∈ TB := TB_mem 534 (by decide +kernel) (by decide +kernel)
theorem tw_535 : Cond.instanceMethod yX5_fault ∈ TB := TB_mem 535 (by decide +kernel) (by decide +kernel)
theorem tw_536 : Cond.selects RX5 yX5_fault yX5_fault ∈ TB := TB_mem 536 (by decide +kernel) (by decide +kernel)
theorem tw_537 : Cond.code yX5_fault cX5_fault 2 (some .int) ∈ TB := TB_mem 537 (by decide +kernel) (by decide +kernel)
theorem tw_538 : Cond.methodLink RX5 190 yX0_giveAll ∈ TB := TB_mem 538 (by decide +kernel) (by decide +kernel)
theorem tw_539 : Cond.instanceMethod yX0_giveAll ∈ TB := TB_mem 539 (by decide +kernel) (by decide +kernel)
theorem tw_540 : Cond.selects RX0 yX0_giveAll yX0_giveAll ∈ TB := TB_mem 540 (by decide +kernel) (by decide +kernel)
theorem tw_541 : Cond.code yX0_giveAll cX0_giveAll 3 none ∈ TB := TB_mem 541 (by decide +kernel) (by decide +kernel)
theorem tw_542 : Cond.methodLink RX0 31 yX0_readOrder ∈ TB := TB_mem 542 (by decide +kernel) (by decide +kernel)
theorem tw_544 : Cond.instanceMethod yX0_readOrder ∈ TB := TB_mem 544 (by decide +kernel) (by decide +kernel)
theorem tw_545 : Cond.code yX0_readOrder cX0_readOrder 6 (some .int) ∈ TB := TB_mem 545 (by decide +kernel) (by decide +kernel)
theorem tw_546 : Cond.methodLink RX0 75 yX0_signAt ∈ TB := TB_mem 546 (by decide +kernel) (by decide +kernel)
theorem tw_548 : Cond.instanceMethod yX0_signAt ∈ TB := TB_mem 548 (by decide +kernel) (by decide +kernel)
theorem tw_549 : Cond.code yX0_signAt cX0_signAt 2 (some .int) ∈ TB := TB_mem 549 (by decide +kernel) (by decide +kernel)
theorem tw_551 : Cond.methodLink RX0 78 yX0_numbersOf ∈ TB := TB_mem 551 (by decide +kernel) (by decide +kernel)
theorem tw_552 : Cond.static yX0_numbersOf ∈ TB := TB_mem 552 (by decide +kernel) (by decide +kernel)
theorem tw_553 : Cond.code yX0_numbersOf cX0_numbersOf 1 (some .int) ∈ TB := TB_mem 553 (by decide +kernel) (by decide +kernel)
theorem tw_554 : Cond.methodLink RX0 81 yX0_digitsEnd ∈ TB := TB_mem 554 (by decide +kernel) (by decide +kernel)
theorem tw_556 : Cond.instanceMethod yX0_digitsEnd ∈ TB := TB_mem 556 (by decide +kernel) (by decide +kernel)
theorem tw_557 : Cond.code yX0_digitsEnd cX0_digitsEnd 3 (some .int) ∈ TB := TB_mem 557 (by decide +kernel) (by decide +kernel)
theorem tw_558 : Cond.methodLink RX0 84 yX0_valueOf ∈ TB := TB_mem 558 (by decide +kernel) (by decide +kernel)
theorem tw_560 : Cond.instanceMethod yX0_valueOf ∈ TB := TB_mem 560 (by decide +kernel) (by decide +kernel)
theorem tw_561 : Cond.code yX0_valueOf cX0_valueOf 5 (some .int) ∈ TB := TB_mem 561 (by decide +kernel) (by decide +kernel)
theorem tw_562 : Cond.methodLink RX0 35 yX0_give ∈ TB := TB_mem 562 (by decide +kernel) (by decide +kernel)
theorem tw_564 : Cond.instanceMethod yX0_give ∈ TB := TB_mem 564 (by decide +kernel) (by decide +kernel)
theorem tw_565 : Cond.code yX0_give cX0_give 2 (some .int) ∈ TB := TB_mem 565 (by decide +kernel) (by decide +kernel)
theorem tw_566 : Cond.methodLink RX0 46 yX4_putOld ∈ TB := TB_mem 566 (by decide +kernel) (by decide +kernel)
theorem tw_567 : Cond.methodLink RX0 52 yX4_putNew ∈ TB := TB_mem 567 (by decide +kernel) (by decide +kernel)
theorem tw_568 : Cond.methodLink RX0 56 yX4_takeAway ∈ TB := TB_mem 568 (by decide +kernel) (by decide +kernel)
theorem tw_569 : Cond.methodLink RX0 59 yX4_drainQueue ∈ TB := TB_mem 569 (by decide +kernel) (by decide +kernel)
theorem tw_570 : Cond.methodLink RX0 62 yX4_fillKeys ∈ TB := TB_mem 570 (by decide +kernel) (by decide +kernel)
theorem tw_571 : Cond.methodLink RX0 65 yX4_mendKey ∈ TB := TB_mem 571 (by decide +kernel) (by decide +kernel)
theorem tw_572 : Cond.methodLink RX0 68 yX4_turnOver ∈ TB := TB_mem 572 (by decide +kernel) (by decide +kernel)
theorem tw_573 : Cond.methodLink RX0 72 yX4_turnBack ∈ TB := TB_mem 573 (by decide +kernel) (by decide +kernel)
theorem tw_574 : Cond.methodLink RX0 39 yX0_reasonOf ∈ TB := TB_mem 574 (by decide +kernel) (by decide +kernel)
theorem tw_575 : Cond.static yX0_reasonOf ∈ TB := TB_mem 575 (by decide +kernel) (by decide +kernel)
theorem tw_576 : Cond.code yX0_reasonOf cX0_reasonOf 1 (some .int) ∈ TB := TB_mem 576 (by decide +kernel) (by decide +kernel)
theorem tw_577 : Cond.constant RX0 42 (-1000001) ∈ TB := TB_mem 577 (by decide +kernel) (by decide +kernel)
theorem tw_578 : Cond.methodLink RL 118 yX5_play ∈ TB := TB_mem 578 (by decide +kernel) (by decide +kernel)
theorem tw_579 : Cond.instanceMethod yX5_play ∈ TB := TB_mem 579 (by decide +kernel) (by decide +kernel)
theorem tw_580 : Cond.selects RX5 yX5_play yX5_play ∈ TB := TB_mem 580 (by decide +kernel) (by decide +kernel)
theorem tw_581 : Cond.code yX5_play cX5_play 1 (some .int) ∈ TB := TB_mem 581 (by decide +kernel) (by decide +kernel)
theorem tw_582 : Cond.classLink RL 10 RX6 ∈ TB := TB_mem 582 (by decide +kernel) (by decide +kernel)
theorem tw_583 : Cond.instantiable RX6 12 ∈ TB := TB_mem 583 (by decide +kernel) (by decide +kernel)
theorem tw_584 : Cond.methodLink RL 12 yX6_init ∈ TB := TB_mem 584 (by decide +kernel) (by decide +kernel)
theorem tw_585 : Cond.instanceMethod yX6_init ∈ TB := TB_mem 585 (by decide +kernel) (by decide +kernel)
theorem tw_586 : Cond.code yX6_init cX6_init 1 none ∈ TB := TB_mem 586 (by decide +kernel) (by decide +kernel)
theorem tw_587 : Cond.methodLink RX6 1 objectInit ∈ TB := TB_mem 587 (by decide +kernel) (by decide +kernel)
theorem tw_588 : Cond.fieldLink RX6 7 "TwoShapesModel" "s" "[I" ∈ TB := TB_mem 588 (by decide +kernel) (by decide +kernel)
theorem tw_589 : Cond.fieldLink RX6 13 "TwoShapesModel" "was" "[I" ∈ TB := TB_mem 589 (by decide +kernel) (by decide +kernel)
theorem tw_590 : Cond.fieldLink RX6 16 "TwoShapesModel" "begun" "[I" ∈ TB := TB_mem 590 (by decide +kernel) (by decide +kernel)
theorem tw_591 : Cond.fieldLink RX6 19 "TwoShapesModel" "aside" "[I" ∈ TB := TB_mem 591 (by decide +kernel) (by decide +kernel)
theorem tw_592 : Cond.fieldLink RX6 40 "TwoShapesModel" "states" "I" ∈ TB := TB_mem 592 (by decide +kernel) (by decide +kernel)
theorem tw_593 : Cond.fieldLink RX6 22 "TwoShapesModel" "text" "[C" ∈ TB := TB_mem 593 (by decide +kernel) (by decide +kernel)
theorem tw_594 : Cond.fieldLink RX6 166 "TwoShapesModel" "typed" "I" ∈ TB := TB_mem 594 (by decide +kernel) (by decide +kernel)
theorem tw_595 : Cond.fieldLink RX6 169 "TwoShapesModel" "at" "I" ∈ TB := TB_mem 595 (by decide +kernel) (by decide +kernel)
theorem tw_596 : Cond.fieldLink RX6 189 "TwoShapesModel" "reason" "I" ∈ TB := TB_mem 596 (by decide +kernel) (by decide +kernel)
theorem tw_597 : Cond.fieldLink RX6 26 "TwoShapesModel" "got" "[I" ∈ TB := TB_mem 597 (by decide +kernel) (by decide +kernel)
theorem tw_598 : Cond.fieldLink RX6 29 "TwoShapesModel" "row" "[I" ∈ TB := TB_mem 598 (by decide +kernel) (by decide +kernel)
theorem tw_599 : Cond.fieldLink RX6 32 "TwoShapesModel" "other" "[I" ∈ TB := TB_mem 599 (by decide +kernel) (by decide +kernel)
theorem tw_625 : Cond.arrayClass .char ∈ TB := TB_mem 625 (by decide +kernel) (by decide +kernel)
theorem tw_626 : Cond.methodLink RL 17 yX6_begin ∈ TB := TB_mem 626 (by decide +kernel) (by decide +kernel)
theorem tw_627 : Cond.instanceMethod yX6_begin ∈ TB := TB_mem 627 (by decide +kernel) (by decide +kernel)
theorem tw_628 : Cond.selects RX6 yX6_begin yX6_begin ∈ TB := TB_mem 628 (by decide +kernel) (by decide +kernel)
theorem tw_629 : Cond.code yX6_begin cX6_begin 1 (some .int) ∈ TB := TB_mem 629 (by decide +kernel) (by decide +kernel)
theorem tw_630 : Cond.constant RX6 63 (-1000002) ∈ TB := TB_mem 630 (by decide +kernel) (by decide +kernel)
theorem tw_631 : Cond.methodLink RX6 64 yX6_keeps ∈ TB := TB_mem 631 (by decide +kernel) (by decide +kernel)
theorem tw_633 : Cond.instanceMethod yX6_keeps ∈ TB := TB_mem 633 (by decide +kernel) (by decide +kernel)
theorem tw_634 : Cond.code yX6_keeps cX6_keeps 2 none ∈ TB := TB_mem 634 (by decide +kernel) (by decide +kernel)
theorem tw_635 : Cond.methodLink RX6 67 yX6_clears ∈ TB := TB_mem 635 (by decide +kernel) (by decide +kernel)
theorem tw_637 : Cond.instanceMethod yX6_clears ∈ TB := TB_mem 637 (by decide +kernel) (by decide +kernel)
theorem tw_638 : Cond.code yX6_clears cX6_clears 3 none ∈ TB := TB_mem 638 (by decide +kernel) (by decide +kernel)
theorem tw_639 : Cond.methodLink RX6 71 yX6_rows ∈ TB := TB_mem 639 (by decide +kernel) (by decide +kernel)
theorem tw_641 : Cond.instanceMethod yX6_rows ∈ TB := TB_mem 641 (by decide +kernel) (by decide +kernel)
theorem tw_642 : Cond.code yX6_rows cX6_rows 4 (some .int) ∈ TB := TB_mem 642 (by decide +kernel) (by decide +kernel)
theorem tw_643 : Cond.methodLink RX6 44 yX6_of ∈ TB := TB_mem 643 (by decide +kernel) (by decide +kernel)
theorem tw_645 : Cond.instanceMethod yX6_of ∈ TB := TB_mem 645 (by decide +kernel) (by decide +kernel)
theorem tw_646 : Cond.code yX6_of cX6_of 4 (some .int) ∈ TB := TB_mem 646 (by decide +kernel) (by decide +kernel)
theorem tw_647 : Cond.methodLink RX6 35 yX6_place ∈ TB := TB_mem 647 (by decide +kernel) (by decide +kernel)
theorem tw_648 : Cond.static yX6_place ∈ TB := TB_mem 648 (by decide +kernel) (by decide +kernel)
theorem tw_649 : Cond.code yX6_place cX6_place 2 (some .int) ∈ TB := TB_mem 649 (by decide +kernel) (by decide +kernel)
theorem tw_650 : Cond.methodLink RX6 75 yX6_acted ∈ TB := TB_mem 650 (by decide +kernel) (by decide +kernel)
theorem tw_652 : Cond.instanceMethod yX6_acted ∈ TB := TB_mem 652 (by decide +kernel) (by decide +kernel)
theorem tw_653 : Cond.code yX6_acted cX6_acted 3 (some .int) ∈ TB := TB_mem 653 (by decide +kernel) (by decide +kernel)
theorem tw_654 : Cond.constant RX6 39 (-1000001) ∈ TB := TB_mem 654 (by decide +kernel) (by decide +kernel)
theorem tw_655 : Cond.methodLink RL 21 yX6_turn ∈ TB := TB_mem 655 (by decide +kernel) (by decide +kernel)
theorem tw_656 : Cond.instanceMethod yX6_turn ∈ TB := TB_mem 656 (by decide +kernel) (by decide +kernel)
theorem tw_657 : Cond.selects RX6 yX6_turn yX6_turn ∈ TB := TB_mem 657 (by decide +kernel) (by decide +kernel)
theorem tw_658 : Cond.code yX6_turn cX6_turn 1 (some .int) ∈ TB := TB_mem 658 (by decide +kernel) (by decide +kernel)
theorem tw_659 : Cond.methodLink RX6 82 yX6_turns ∈ TB := TB_mem 659 (by decide +kernel) (by decide +kernel)
theorem tw_661 : Cond.instanceMethod yX6_turns ∈ TB := TB_mem 661 (by decide +kernel) (by decide +kernel)
theorem tw_662 : Cond.code yX6_turns cX6_turns 1 (some .int) ∈ TB := TB_mem 662 (by decide +kernel) (by decide +kernel)
theorem tw_663 : Cond.methodLink RX6 78 yX6_isReady ∈ TB := TB_mem 663 (by decide +kernel) (by decide +kernel)
theorem tw_665 : Cond.instanceMethod yX6_isReady ∈ TB := TB_mem 665 (by decide +kernel) (by decide +kernel)
theorem tw_666 : Cond.code yX6_isReady cX6_isReady 1 (some .boolean) ∈ TB := TB_mem 666 (by decide +kernel) (by decide +kernel)
theorem tw_667 : Cond.methodLink RX6 59 yX6_differing ∈ TB := TB_mem 667 (by decide +kernel) (by decide +kernel)
theorem tw_669 : Cond.instanceMethod yX6_differing ∈ TB := TB_mem 669 (by decide +kernel) (by decide +kernel)
theorem tw_670 : Cond.code yX6_differing cX6_differing 3 (some .int) ∈ TB := TB_mem 670 (by decide +kernel) (by decide +kernel)
theorem tw_671 : Cond.methodLink RX6 55 yX6_differs ∈ TB := TB_mem 671 (by decide +kernel) (by decide +kernel)
theorem tw_673 : Cond.instanceMethod yX6_differs ∈ TB := TB_mem 673 (by decide +kernel) (by decide +kernel)
theorem tw_674 : Cond.code yX6_differs cX6_differs 4 (some .boolean) ∈ TB := TB_mem 674 (by decide +kernel) (by decide +kernel)
theorem tw_675 : Cond.methodLink RX6 48 yX6_takes ∈ TB := TB_mem 675 (by decide +kernel) (by decide +kernel)
theorem tw_677 : Cond.instanceMethod yX6_takes ∈ TB := TB_mem 677 (by decide +kernel) (by decide +kernel)
theorem tw_678 : Cond.code yX6_takes cX6_takes 4 none ∈ TB := TB_mem 678 (by decide +kernel) (by decide +kernel)
theorem tw_679 : Cond.methodLink RX6 52 yX6_makes ∈ TB := TB_mem 679 (by decide +kernel) (by decide +kernel)
theorem tw_681 : Cond.instanceMethod yX6_makes ∈ TB := TB_mem 681 (by decide +kernel) (by decide +kernel)
theorem tw_682 : Cond.code yX6_makes cX6_makes 5 none ∈ TB := TB_mem 682 (by decide +kernel) (by decide +kernel)
theorem tw_683 : Cond.methodLink RL 25 yX6_back ∈ TB := TB_mem 683 (by decide +kernel) (by decide +kernel)
theorem tw_684 : Cond.instanceMethod yX6_back ∈ TB := TB_mem 684 (by decide +kernel) (by decide +kernel)
theorem tw_685 : Cond.selects RX6 yX6_back yX6_back ∈ TB := TB_mem 685 (by decide +kernel) (by decide +kernel)
theorem tw_686 : Cond.code yX6_back cX6_back 1 (some .int) ∈ TB := TB_mem 686 (by decide +kernel) (by decide +kernel)
theorem tw_687 : Cond.methodLink RX6 88 yX6_turnsBack ∈ TB := TB_mem 687 (by decide +kernel) (by decide +kernel)
theorem tw_689 : Cond.instanceMethod yX6_turnsBack ∈ TB := TB_mem 689 (by decide +kernel) (by decide +kernel)
theorem tw_690 : Cond.code yX6_turnsBack cX6_turnsBack 1 (some .int) ∈ TB := TB_mem 690 (by decide +kernel) (by decide +kernel)
theorem tw_691 : Cond.methodLink RX6 85 yX6_areBoth ∈ TB := TB_mem 691 (by decide +kernel) (by decide +kernel)
theorem tw_693 : Cond.instanceMethod yX6_areBoth ∈ TB := TB_mem 693 (by decide +kernel) (by decide +kernel)
theorem tw_694 : Cond.code yX6_areBoth cX6_areBoth 1 (some .boolean) ∈ TB := TB_mem 694 (by decide +kernel) (by decide +kernel)
theorem tw_695 : Cond.methodLink RL 29 yX6_drop ∈ TB := TB_mem 695 (by decide +kernel) (by decide +kernel)
theorem tw_696 : Cond.instanceMethod yX6_drop ∈ TB := TB_mem 696 (by decide +kernel) (by decide +kernel)
theorem tw_697 : Cond.selects RX6 yX6_drop yX6_drop ∈ TB := TB_mem 697 (by decide +kernel) (by decide +kernel)
theorem tw_698 : Cond.code yX6_drop cX6_drop 1 (some .int) ∈ TB := TB_mem 698 (by decide +kernel) (by decide +kernel)
theorem tw_699 : Cond.methodLink RX6 91 yX6_strange ∈ TB := TB_mem 699 (by decide +kernel) (by decide +kernel)
theorem tw_701 : Cond.instanceMethod yX6_strange ∈ TB := TB_mem 701 (by decide +kernel) (by decide +kernel)
theorem tw_702 : Cond.code yX6_strange cX6_strange 3 (some .int) ∈ TB := TB_mem 702 (by decide +kernel) (by decide +kernel)
theorem tw_703 : Cond.methodLink RL 34 yX6_writeOld ∈ TB := TB_mem 703 (by decide +kernel) (by decide +kernel)
theorem tw_704 : Cond.instanceMethod yX6_writeOld ∈ TB := TB_mem 704 (by decide +kernel) (by decide +kernel)
theorem tw_705 : Cond.selects RX6 yX6_writeOld yX6_writeOld ∈ TB := TB_mem 705 (by decide +kernel) (by decide +kernel)
theorem tw_706 : Cond.code yX6_writeOld cX6_writeOld 5 (some .int) ∈ TB := TB_mem 706 (by decide +kernel) (by decide +kernel)
theorem tw_707 : Cond.methodLink RX6 118 yX6_writesOld ∈ TB := TB_mem 707 (by decide +kernel) (by decide +kernel)
theorem tw_709 : Cond.instanceMethod yX6_writesOld ∈ TB := TB_mem 709 (by decide +kernel) (by decide +kernel)
theorem tw_710 : Cond.code yX6_writesOld cX6_writesOld 5 (some .int) ∈ TB := TB_mem 710 (by decide +kernel) (by decide +kernel)
theorem tw_711 : Cond.methodLink RX6 111 yX6_isKey ∈ TB := TB_mem 711 (by decide +kernel) (by decide +kernel)
theorem tw_712 : Cond.static yX6_isKey ∈ TB := TB_mem 712 (by decide +kernel) (by decide +kernel)
theorem tw_713 : Cond.code yX6_isKey cX6_isKey 1 (some .boolean) ∈ TB := TB_mem 713 (by decide +kernel) (by decide +kernel)
theorem tw_714 : Cond.methodLink RX6 107 yX6_in ∈ TB := TB_mem 714 (by decide +kernel) (by decide +kernel)
theorem tw_715 : Cond.static yX6_in ∈ TB := TB_mem 715 (by decide +kernel) (by decide +kernel)
theorem tw_716 : Cond.code yX6_in cX6_in 3 (some .boolean) ∈ TB := TB_mem 716 (by decide +kernel) (by decide +kernel)
theorem tw_717 : Cond.methodLink RX6 114 yX6_writes ∈ TB := TB_mem 717 (by decide +kernel) (by decide +kernel)
theorem tw_719 : Cond.instanceMethod yX6_writes ∈ TB := TB_mem 719 (by decide +kernel) (by decide +kernel)
theorem tw_720 : Cond.code yX6_writes cX6_writes 6 (some .int) ∈ TB := TB_mem 720 (by decide +kernel) (by decide +kernel)
theorem tw_721 : Cond.methodLink RX6 103 yX6_comes ∈ TB := TB_mem 721 (by decide +kernel) (by decide +kernel)
theorem tw_723 : Cond.instanceMethod yX6_comes ∈ TB := TB_mem 723 (by decide +kernel) (by decide +kernel)
theorem tw_724 : Cond.code yX6_comes cX6_comes 6 (some .int) ∈ TB := TB_mem 724 (by decide +kernel) (by decide +kernel)
theorem tw_725 : Cond.constant RX6 94 (100000) ∈ TB := TB_mem 725 (by decide +kernel) (by decide +kernel)
theorem tw_726 : Cond.constant RX6 95 (-1000003) ∈ TB := TB_mem 726 (by decide +kernel) (by decide +kernel)
theorem tw_727 : Cond.methodLink RX6 96 yX6_first ∈ TB := TB_mem 727 (by decide +kernel) (by decide +kernel)
theorem tw_729 : Cond.instanceMethod yX6_first ∈ TB := TB_mem 729 (by decide +kernel) (by decide +kernel)
theorem tw_730 : Cond.code yX6_first cX6_first 1 (some .int) ∈ TB := TB_mem 730 (by decide +kernel) (by decide +kernel)
theorem tw_731 : Cond.methodLink RX6 99 yX6_lays ∈ TB := TB_mem 731 (by decide +kernel) (by decide +kernel)
theorem tw_733 : Cond.instanceMethod yX6_lays ∈ TB := TB_mem 733 (by decide +kernel) (by decide +kernel)
theorem tw_734 : Cond.code yX6_lays cX6_lays 6 none ∈ TB := TB_mem 734 (by decide +kernel) (by decide +kernel)
theorem tw_735 : Cond.methodLink RL 39 yX6_writeNew ∈ TB := TB_mem 735 (by decide +kernel) (by decide +kernel)
theorem tw_736 : Cond.instanceMethod yX6_writeNew ∈ TB := TB_mem 736 (by decide +kernel) (by decide +kernel)
theorem tw_737 : Cond.selects RX6 yX6_writeNew yX6_writeNew ∈ TB := TB_mem 737 (by decide +kernel) (by decide +kernel)
theorem tw_738 : Cond.code yX6_writeNew cX6_writeNew 4 (some .int) ∈ TB := TB_mem 738 (by decide +kernel) (by decide +kernel)
theorem tw_739 : Cond.methodLink RX6 122 yX6_writesNew ∈ TB := TB_mem 739 (by decide +kernel) (by decide +kernel)
theorem tw_741 : Cond.instanceMethod yX6_writesNew ∈ TB := TB_mem 741 (by decide +kernel) (by decide +kernel)
theorem tw_742 : Cond.code yX6_writesNew cX6_writesNew 4 (some .int) ∈ TB := TB_mem 742 (by decide +kernel) (by decide +kernel)
theorem tw_743 : Cond.methodLink RL 44 yX6_remove ∈ TB := TB_mem 743 (by decide +kernel) (by decide +kernel)
theorem tw_744 : Cond.instanceMethod yX6_remove ∈ TB := TB_mem 744 (by decide +kernel) (by decide +kernel)
theorem tw_745 : Cond.selects RX6 yX6_remove yX6_remove ∈ TB := TB_mem 745 (by decide +kernel) (by decide +kernel)
theorem tw_746 : Cond.code yX6_remove cX6_remove 2 (some .int) ∈ TB := TB_mem 746 (by decide +kernel) (by decide +kernel)
theorem tw_747 : Cond.methodLink RX6 125 yX6_removes ∈ TB := TB_mem 747 (by decide +kernel) (by decide +kernel)
theorem tw_749 : Cond.instanceMethod yX6_removes ∈ TB := TB_mem 749 (by decide +kernel) (by decide +kernel)
theorem tw_750 : Cond.code yX6_removes cX6_removes 3 (some .int) ∈ TB := TB_mem 750 (by decide +kernel) (by decide +kernel)
theorem tw_751 : Cond.methodLink RL 48 yX6_drain ∈ TB := TB_mem 751 (by decide +kernel) (by decide +kernel)
theorem tw_752 : Cond.instanceMethod yX6_drain ∈ TB := TB_mem 752 (by decide +kernel) (by decide +kernel)
theorem tw_753 : Cond.selects RX6 yX6_drain yX6_drain ∈ TB := TB_mem 753 (by decide +kernel) (by decide +kernel)
theorem tw_754 : Cond.code yX6_drain cX6_drain 2 (some .int) ∈ TB := TB_mem 754 (by decide +kernel) (by decide +kernel)
theorem tw_755 : Cond.methodLink RX6 131 yX6_drains ∈ TB := TB_mem 755 (by decide +kernel) (by decide +kernel)
theorem tw_757 : Cond.instanceMethod yX6_drains ∈ TB := TB_mem 757 (by decide +kernel) (by decide +kernel)
theorem tw_758 : Cond.code yX6_drains cX6_drains 3 (some .int) ∈ TB := TB_mem 758 (by decide +kernel) (by decide +kernel)
theorem tw_759 : Cond.methodLink RX6 128 yX6_drainsOne ∈ TB := TB_mem 759 (by decide +kernel) (by decide +kernel)
theorem tw_761 : Cond.instanceMethod yX6_drainsOne ∈ TB := TB_mem 761 (by decide +kernel) (by decide +kernel)
theorem tw_762 : Cond.code yX6_drainsOne cX6_drainsOne 5 none ∈ TB := TB_mem 762 (by decide +kernel) (by decide +kernel)
theorem tw_763 : Cond.methodLink RL 52 yX6_backfill ∈ TB := TB_mem 763 (by decide +kernel) (by decide +kernel)
theorem tw_764 : Cond.instanceMethod yX6_backfill ∈ TB := TB_mem 764 (by decide +kernel) (by decide +kernel)
theorem tw_765 : Cond.selects RX6 yX6_backfill yX6_backfill ∈ TB := TB_mem 765 (by decide +kernel) (by decide +kernel)
theorem tw_766 : Cond.code yX6_backfill cX6_backfill 2 (some .int) ∈ TB := TB_mem 766 (by decide +kernel) (by decide +kernel)
theorem tw_767 : Cond.methodLink RX6 137 yX6_backfills ∈ TB := TB_mem 767 (by decide +kernel) (by decide +kernel)
theorem tw_769 : Cond.instanceMethod yX6_backfills ∈ TB := TB_mem 769 (by decide +kernel) (by decide +kernel)
theorem tw_770 : Cond.code yX6_backfills cX6_backfills 5 (some .int) ∈ TB := TB_mem 770 (by decide +kernel) (by decide +kernel)
theorem tw_771 : Cond.methodLink RX6 134 yX6_gets ∈ TB := TB_mem 771 (by decide +kernel) (by decide +kernel)
theorem tw_773 : Cond.instanceMethod yX6_gets ∈ TB := TB_mem 773 (by decide +kernel) (by decide +kernel)
theorem tw_774 : Cond.code yX6_gets cX6_gets 3 none ∈ TB := TB_mem 774 (by decide +kernel) (by decide +kernel)
theorem tw_775 : Cond.methodLink RL 56 yX6_crash ∈ TB := TB_mem 775 (by decide +kernel) (by decide +kernel)
theorem tw_776 : Cond.instanceMethod yX6_crash ∈ TB := TB_mem 776 (by decide +kernel) (by decide +kernel)
theorem tw_777 : Cond.selects RX6 yX6_crash yX6_crash ∈ TB := TB_mem 777 (by decide +kernel) (by decide +kernel)
theorem tw_778 : Cond.code yX6_crash cX6_crash 2 (some .int) ∈ TB := TB_mem 778 (by decide +kernel) (by decide +kernel)
theorem tw_779 : Cond.methodLink RL 60 yX6_mend ∈ TB := TB_mem 779 (by decide +kernel) (by decide +kernel)
theorem tw_780 : Cond.instanceMethod yX6_mend ∈ TB := TB_mem 780 (by decide +kernel) (by decide +kernel)
theorem tw_781 : Cond.selects RX6 yX6_mend yX6_mend ∈ TB := TB_mem 781 (by decide +kernel) (by decide +kernel)
theorem tw_782 : Cond.code yX6_mend cX6_mend 2 (some .int) ∈ TB := TB_mem 782 (by decide +kernel) (by decide +kernel)
theorem tw_783 : Cond.methodLink RX6 143 yX6_mends ∈ TB := TB_mem 783 (by decide +kernel) (by decide +kernel)
theorem tw_785 : Cond.instanceMethod yX6_mends ∈ TB := TB_mem 785 (by decide +kernel) (by decide +kernel)
theorem tw_786 : Cond.code yX6_mends cX6_mends 4 (some .int) ∈ TB := TB_mem 786 (by decide +kernel) (by decide +kernel)
theorem tw_787 : Cond.methodLink RX6 140 yX6_latest ∈ TB := TB_mem 787 (by decide +kernel) (by decide +kernel)
theorem tw_789 : Cond.instanceMethod yX6_latest ∈ TB := TB_mem 789 (by decide +kernel) (by decide +kernel)
theorem tw_790 : Cond.code yX6_latest cX6_latest 4 (some .int) ∈ TB := TB_mem 790 (by decide +kernel) (by decide +kernel)
theorem tw_791 : Cond.methodLink RL 64 yX6_read ∈ TB := TB_mem 791 (by decide +kernel) (by decide +kernel)
theorem tw_792 : Cond.instanceMethod yX6_read ∈ TB := TB_mem 792 (by decide +kernel) (by decide +kernel)
theorem tw_793 : Cond.selects RX6 yX6_read yX6_read ∈ TB := TB_mem 793 (by decide +kernel) (by decide +kernel)
theorem tw_794 : Cond.code yX6_read cX6_read 4 (some .int) ∈ TB := TB_mem 794 (by decide +kernel) (by decide +kernel)
theorem tw_795 : Cond.methodLink RX6 149 yX6_reads ∈ TB := TB_mem 795 (by decide +kernel) (by decide +kernel)
theorem tw_797 : Cond.instanceMethod yX6_reads ∈ TB := TB_mem 797 (by decide +kernel) (by decide +kernel)
theorem tw_798 : Cond.code yX6_reads cX6_reads 6 (some .boolean) ∈ TB := TB_mem 798 (by decide +kernel) (by decide +kernel)
theorem tw_799 : Cond.methodLink RX6 146 yX6_isThere ∈ TB := TB_mem 799 (by decide +kernel) (by decide +kernel)
theorem tw_801 : Cond.instanceMethod yX6_isThere ∈ TB := TB_mem 801 (by decide +kernel) (by decide +kernel)
theorem tw_802 : Cond.code yX6_isThere cX6_isThere 2 (some .boolean) ∈ TB := TB_mem 802 (by decide +kernel) (by decide +kernel)
theorem tw_803 : Cond.constant RX6 153 (-1000004) ∈ TB := TB_mem 803 (by decide +kernel) (by decide +kernel)
theorem tw_804 : Cond.methodLink RL 68 yX6_shapeOf ∈ TB := TB_mem 804 (by decide +kernel) (by decide +kernel)
theorem tw_805 : Cond.instanceMethod yX6_shapeOf ∈ TB := TB_mem 805 (by decide +kernel) (by decide +kernel)
theorem tw_806 : Cond.selects RX6 yX6_shapeOf yX6_shapeOf ∈ TB := TB_mem 806 (by decide +kernel) (by decide +kernel)
theorem tw_807 : Cond.code yX6_shapeOf cX6_shapeOf 5 (some .int) ∈ TB := TB_mem 807 (by decide +kernel) (by decide +kernel)
theorem tw_808 : Cond.methodLink RL 73 yX6_queued ∈ TB := TB_mem 808 (by decide +kernel) (by decide +kernel)
theorem tw_809 : Cond.instanceMethod yX6_queued ∈ TB := TB_mem 809 (by decide +kernel) (by decide +kernel)
theorem tw_810 : Cond.selects RX6 yX6_queued yX6_queued ∈ TB := TB_mem 810 (by decide +kernel) (by decide +kernel)
theorem tw_811 : Cond.code yX6_queued cX6_queued 3 (some .int) ∈ TB := TB_mem 811 (by decide +kernel) (by decide +kernel)
theorem tw_812 : Cond.methodLink RL 77 yX6_keys ∈ TB := TB_mem 812 (by decide +kernel) (by decide +kernel)
theorem tw_813 : Cond.instanceMethod yX6_keys ∈ TB := TB_mem 813 (by decide +kernel) (by decide +kernel)
theorem tw_814 : Cond.selects RX6 yX6_keys yX6_keys ∈ TB := TB_mem 814 (by decide +kernel) (by decide +kernel)
theorem tw_815 : Cond.code yX6_keys cX6_keys 2 (some .int) ∈ TB := TB_mem 815 (by decide +kernel) (by decide +kernel)
theorem tw_816 : Cond.methodLink RX6 154 yX6_readable ∈ TB := TB_mem 816 (by decide +kernel) (by decide +kernel)
theorem tw_818 : Cond.instanceMethod yX6_readable ∈ TB := TB_mem 818 (by decide +kernel) (by decide +kernel)
theorem tw_819 : Cond.code yX6_readable cX6_readable 4 (some .int) ∈ TB := TB_mem 819 (by decide +kernel) (by decide +kernel)
theorem tw_820 : Cond.methodLink RL 81 yX6_check ∈ TB := TB_mem 820 (by decide +kernel) (by decide +kernel)
theorem tw_821 : Cond.instanceMethod yX6_check ∈ TB := TB_mem 821 (by decide +kernel) (by decide +kernel)
theorem tw_822 : Cond.selects RX6 yX6_check yX6_check ∈ TB := TB_mem 822 (by decide +kernel) (by decide +kernel)
theorem tw_823 : Cond.code yX6_check cX6_check 1 (some .int) ∈ TB := TB_mem 823 (by decide +kernel) (by decide +kernel)
theorem tw_824 : Cond.methodLink RL 85 yX6_quarrel ∈ TB := TB_mem 824 (by decide +kernel) (by decide +kernel)
theorem tw_825 : Cond.instanceMethod yX6_quarrel ∈ TB := TB_mem 825 (by decide +kernel) (by decide +kernel)
theorem tw_826 : Cond.selects RX6 yX6_quarrel yX6_quarrel ∈ TB := TB_mem 826 (by decide +kernel) (by decide +kernel)
theorem tw_827 : Cond.code yX6_quarrel cX6_quarrel 3 (some .int) ∈ TB := TB_mem 827 (by decide +kernel) (by decide +kernel)
theorem tw_828 : Cond.methodLink RX6 157 yX6_quarrels ∈ TB := TB_mem 828 (by decide +kernel) (by decide +kernel)
theorem tw_830 : Cond.instanceMethod yX6_quarrels ∈ TB := TB_mem 830 (by decide +kernel) (by decide +kernel)
theorem tw_831 : Cond.code yX6_quarrels cX6_quarrels 6 (some .boolean) ∈ TB := TB_mem 831 (by decide +kernel) (by decide +kernel)
theorem tw_832 : Cond.methodLink RL 89 yX6_atRisk ∈ TB := TB_mem 832 (by decide +kernel) (by decide +kernel)
theorem tw_833 : Cond.instanceMethod yX6_atRisk ∈ TB := TB_mem 833 (by decide +kernel) (by decide +kernel)
theorem tw_834 : Cond.selects RX6 yX6_atRisk yX6_atRisk ∈ TB := TB_mem 834 (by decide +kernel) (by decide +kernel)
theorem tw_835 : Cond.code yX6_atRisk cX6_atRisk 3 (some .int) ∈ TB := TB_mem 835 (by decide +kernel) (by decide +kernel)
theorem tw_836 : Cond.methodLink RL 93 yX6_walk ∈ TB := TB_mem 836 (by decide +kernel) (by decide +kernel)
theorem tw_837 : Cond.instanceMethod yX6_walk ∈ TB := TB_mem 837 (by decide +kernel) (by decide +kernel)
theorem tw_838 : Cond.selects RX6 yX6_walk yX6_walk ∈ TB := TB_mem 838 (by decide +kernel) (by decide +kernel)
theorem tw_839 : Cond.code yX6_walk cX6_walk 3 (some .int) ∈ TB := TB_mem 839 (by decide +kernel) (by decide +kernel)
theorem tw_840 : Cond.methodLink RX6 160 yX6_ones ∈ TB := TB_mem 840 (by decide +kernel) (by decide +kernel)
theorem tw_841 : Cond.static yX6_ones ∈ TB := TB_mem 841 (by decide +kernel) (by decide +kernel)
theorem tw_842 : Cond.code yX6_ones cX6_ones 3 (some .int) ∈ TB := TB_mem 842 (by decide +kernel) (by decide +kernel)
theorem tw_843 : Cond.methodLink RL 97 yX6_step ∈ TB := TB_mem 843 (by decide +kernel) (by decide +kernel)
theorem tw_844 : Cond.instanceMethod yX6_step ∈ TB := TB_mem 844 (by decide +kernel) (by decide +kernel)
theorem tw_845 : Cond.selects RX6 yX6_step yX6_step ∈ TB := TB_mem 845 (by decide +kernel) (by decide +kernel)
theorem tw_846 : Cond.code yX6_step cX6_step 4 (some .int) ∈ TB := TB_mem 846 (by decide +kernel) (by decide +kernel)
theorem tw_847 : Cond.methodLink RL 101 yX6_count ∈ TB := TB_mem 847 (by decide +kernel) (by decide +kernel)
theorem tw_848 : Cond.instanceMethod yX6_count ∈ TB := TB_mem 848 (by decide +kernel) (by decide +kernel)
theorem tw_849 : Cond.selects RX6 yX6_count yX6_count ∈ TB := TB_mem 849 (by decide +kernel) (by decide +kernel)
theorem tw_850 : Cond.code yX6_count cX6_count 2 (some .int) ∈ TB := TB_mem 850 (by decide +kernel) (by decide +kernel)
theorem tw_851 : Cond.methodLink RX6 163 yX6_known ∈ TB := TB_mem 851 (by decide +kernel) (by decide +kernel)
theorem tw_853 : Cond.instanceMethod yX6_known ∈ TB := TB_mem 853 (by decide +kernel) (by decide +kernel)
theorem tw_854 : Cond.code yX6_known cX6_known 3 (some .int) ∈ TB := TB_mem 854 (by decide +kernel) (by decide +kernel)
theorem tw_855 : Cond.methodLink RL 105 yX6_undo ∈ TB := TB_mem 855 (by decide +kernel) (by decide +kernel)
theorem tw_856 : Cond.instanceMethod yX6_undo ∈ TB := TB_mem 856 (by decide +kernel) (by decide +kernel)
theorem tw_857 : Cond.selects RX6 yX6_undo yX6_undo ∈ TB := TB_mem 857 (by decide +kernel) (by decide +kernel)
theorem tw_858 : Cond.code yX6_undo cX6_undo 2 (some .int) ∈ TB := TB_mem 858 (by decide +kernel) (by decide +kernel)
theorem tw_859 : Cond.methodLink RL 109 yX6_type ∈ TB := TB_mem 859 (by decide +kernel) (by decide +kernel)
theorem tw_860 : Cond.instanceMethod yX6_type ∈ TB := TB_mem 860 (by decide +kernel) (by decide +kernel)
theorem tw_861 : Cond.selects RX6 yX6_type yX6_type ∈ TB := TB_mem 861 (by decide +kernel) (by decide +kernel)
theorem tw_862 : Cond.code yX6_type cX6_type 2 (some .int) ∈ TB := TB_mem 862 (by decide +kernel) (by decide +kernel)
theorem tw_863 : Cond.methodLink RL 113 yX6_clearText ∈ TB := TB_mem 863 (by decide +kernel) (by decide +kernel)
theorem tw_864 : Cond.instanceMethod yX6_clearText ∈ TB := TB_mem 864 (by decide +kernel) (by decide +kernel)
theorem tw_865 : Cond.selects RX6 yX6_clearText yX6_clearText ∈ TB := TB_mem 865 (by decide +kernel) (by decide +kernel)
theorem tw_866 : Cond.code yX6_clearText cX6_clearText 2 (some .int) ∈ TB := TB_mem 866 (by decide +kernel) (by decide +kernel)
theorem tw_867 : Cond.methodLink RL 117 yX6_fault ∈ TB := TB_mem 867 (by decide +kernel) (by decide +kernel)
theorem tw_868 : Cond.instanceMethod yX6_fault ∈ TB := TB_mem 868 (by decide +kernel) (by decide +kernel)
theorem tw_869 : Cond.selects RX6 yX6_fault yX6_fault ∈ TB := TB_mem 869 (by decide +kernel) (by decide +kernel)
theorem tw_870 : Cond.code yX6_fault cX6_fault 3 (some .int) ∈ TB := TB_mem 870 (by decide +kernel) (by decide +kernel)
theorem tw_871 : Cond.methodLink RX6 195 yX6_faulty ∈ TB := TB_mem 871 (by decide +kernel) (by decide +kernel)
theorem tw_873 : Cond.instanceMethod yX6_faulty ∈ TB := TB_mem 873 (by decide +kernel) (by decide +kernel)
theorem tw_874 : Cond.code yX6_faulty cX6_faulty 3 (some .int) ∈ TB := TB_mem 874 (by decide +kernel) (by decide +kernel)
theorem tw_875 : Cond.methodLink RX6 186 yX6_doesNext ∈ TB := TB_mem 875 (by decide +kernel) (by decide +kernel)
theorem tw_877 : Cond.instanceMethod yX6_doesNext ∈ TB := TB_mem 877 (by decide +kernel) (by decide +kernel)
theorem tw_878 : Cond.code yX6_doesNext cX6_doesNext 3 (some .int) ∈ TB := TB_mem 878 (by decide +kernel) (by decide +kernel)
theorem tw_879 : Cond.methodLink RX6 179 yX6_readsForm ∈ TB := TB_mem 879 (by decide +kernel) (by decide +kernel)
theorem tw_881 : Cond.instanceMethod yX6_readsForm ∈ TB := TB_mem 881 (by decide +kernel) (by decide +kernel)
theorem tw_882 : Cond.code yX6_readsForm cX6_readsForm 5 (some .boolean) ∈ TB := TB_mem 882 (by decide +kernel) (by decide +kernel)
theorem tw_883 : Cond.methodLink RX6 172 yX6_has ∈ TB := TB_mem 883 (by decide +kernel) (by decide +kernel)
theorem tw_885 : Cond.instanceMethod yX6_has ∈ TB := TB_mem 885 (by decide +kernel) (by decide +kernel)
theorem tw_886 : Cond.code yX6_has cX6_has 3 (some .boolean) ∈ TB := TB_mem 886 (by decide +kernel) (by decide +kernel)
theorem tw_887 : Cond.methodLink RX6 176 yX6_number ∈ TB := TB_mem 887 (by decide +kernel) (by decide +kernel)
theorem tw_889 : Cond.instanceMethod yX6_number ∈ TB := TB_mem 889 (by decide +kernel) (by decide +kernel)
theorem tw_890 : Cond.code yX6_number cX6_number 3 (some .boolean) ∈ TB := TB_mem 890 (by decide +kernel) (by decide +kernel)
theorem tw_891 : Cond.methodLink RX6 182 yX6_does ∈ TB := TB_mem 891 (by decide +kernel) (by decide +kernel)
theorem tw_893 : Cond.instanceMethod yX6_does ∈ TB := TB_mem 893 (by decide +kernel) (by decide +kernel)
theorem tw_894 : Cond.code yX6_does cX6_does 2 (some .int) ∈ TB := TB_mem 894 (by decide +kernel) (by decide +kernel)
theorem tw_895 : Cond.methodLink RX6 192 yX6_restores ∈ TB := TB_mem 895 (by decide +kernel) (by decide +kernel)
theorem tw_897 : Cond.instanceMethod yX6_restores ∈ TB := TB_mem 897 (by decide +kernel) (by decide +kernel)
theorem tw_898 : Cond.code yX6_restores cX6_restores 2 none ∈ TB := TB_mem 898 (by decide +kernel) (by decide +kernel)
theorem tw_899 : Cond.methodLink RL 121 yX6_play ∈ TB := TB_mem 899 (by decide +kernel) (by decide +kernel)
theorem tw_900 : Cond.instanceMethod yX6_play ∈ TB := TB_mem 900 (by decide +kernel) (by decide +kernel)
theorem tw_901 : Cond.selects RX6 yX6_play yX6_play ∈ TB := TB_mem 901 (by decide +kernel) (by decide +kernel)
theorem tw_902 : Cond.code yX6_play cX6_play 2 (some .int) ∈ TB := TB_mem 902 (by decide +kernel) (by decide +kernel)
def wsX0_init : List Cond := .code yX0_init cX0_init 1 none :: TB
def wsX0_append : List Cond := .code yX0_append cX0_append 2 none :: TB
def wsX5_isBelow : List Cond := .code yX5_isBelow cX5_isBelow 2 (some .boolean) :: TB
def wsX0_signAt : List Cond := .code yX0_signAt cX0_signAt 2 (some .int) :: TB
def wsX0_numbersOf : List Cond := .code yX0_numbersOf cX0_numbersOf 1 (some .int) :: TB
def wsX0_digitsEnd : List Cond := .code yX0_digitsEnd cX0_digitsEnd 3 (some .int) :: TB
def wsX0_valueOf : List Cond := .code yX0_valueOf cX0_valueOf 5 (some .int) :: TB
def wsX0_readOrder : List Cond := .code yX0_readOrder cX0_readOrder 6 (some .int) :: TB
def wsX2_ofNew : List Cond := .code yX2_ofNew cX2_ofNew 2 (some .int) :: TB
def wsX2_ofOld : List Cond := .code yX2_ofOld cX2_ofOld 3 (some .int) :: TB
def wsX4_hasBoth : List Cond := .code yX4_hasBoth cX4_hasBoth 1 (some .boolean) :: TB
def wsX4_first : List Cond := .code yX4_first cX4_first 1 (some .int) :: TB
def wsX4_shape : List Cond := .code yX4_shape cX4_shape 2 (some (.object "TwoShapes$Shape")) :: TB
def wsX2_madeOver : List Cond := .code yX2_madeOver cX2_madeOver 3 (some .int) :: TB
def wsX3_take : List Cond := .code yX3_take cX3_take 4 none :: TB
def wsX1_append : List Cond := .code yX1_append cX1_append 4 none :: TB
def wsX4_put : List Cond := .code yX4_put cX4_put 4 (some .int) :: TB
def wsX4_putOld : List Cond := .code yX4_putOld cX4_putOld 5 (some .int) :: TB
def wsX4_putNew : List Cond := .code yX4_putNew cX4_putNew 4 (some .int) :: TB
def wsX4_takeAway : List Cond := .code yX4_takeAway cX4_takeAway 2 (some .int) :: TB
def wsX4_other : List Cond := .code yX4_other cX4_other 2 (some .int) :: TB
def wsX4_second : List Cond := .code yX4_second cX4_second 1 (some .int) :: TB
def wsX1_shorten : List Cond := .code yX1_shorten cX1_shorten 4 none :: TB
def wsX4_drainQueue : List Cond := .code yX4_drainQueue cX4_drainQueue 5 (some .int) :: TB
def wsX3_takeFrom : List Cond := .code yX3_takeFrom cX3_takeFrom 3 none :: TB
def wsX4_fillKeys : List Cond := .code yX4_fillKeys cX4_fillKeys 5 (some .int) :: TB
def wsX1_latestOf : List Cond := .code yX1_latestOf cX1_latestOf 3 (some .int) :: TB
def wsX4_differing : List Cond := .code yX4_differing cX4_differing 4 (some .int) :: TB
def wsX4_newerOf : List Cond := .code yX4_newerOf cX4_newerOf 4 (some .int) :: TB
def wsX4_mendKey : List Cond := .code yX4_mendKey cX4_mendKey 3 (some .int) :: TB
def wsX4_isReady : List Cond := .code yX4_isReady cX4_isReady 1 (some .boolean) :: TB
def wsX3_rows : List Cond := .code yX3_rows cX3_rows 3 (some .int) :: TB
def wsX4_turnOver : List Cond := .code yX4_turnOver cX4_turnOver 1 (some .int) :: TB
def wsX3_clear : List Cond := .code yX3_clear cX3_clear 2 none :: TB
def wsX4_turnBack : List Cond := .code yX4_turnBack cX4_turnBack 1 (some .int) :: TB
def wsX0_give : List Cond := .code yX0_give cX0_give 2 (some .int) :: TB
def wsX0_reasonOf : List Cond := .code yX0_reasonOf cX0_reasonOf 1 (some .int) :: TB
def wsX0_giveAll : List Cond := .code yX0_giveAll cX0_giveAll 3 none :: TB
def wsX1_init : List Cond := .code yX1_init cX1_init 1 none :: TB
def wsX1_copyFrom : List Cond := .code yX1_copyFrom cX1_copyFrom 2 none :: TB
def wsX2_isStrange : List Cond := .code yX2_isStrange cX2_isStrange 1 (some .boolean) :: TB
def wsX2_number : List Cond := .code yX2_number cX2_number 5 (some .int) :: TB
def wsX3_init : List Cond := .code yX3_init cX3_init 2 none :: TB
def wsX3_copyFrom : List Cond := .code yX3_copyFrom cX3_copyFrom 2 none :: TB
def wsX3_strangeRows : List Cond := .code yX3_strangeRows cX3_strangeRows 3 (some .int) :: TB
def wsX3_known : List Cond := .code yX3_known cX3_known 3 (some .int) :: TB
def wsX4_init : List Cond := .code yX4_init cX4_init 1 none :: TB
def wsX4_copyFrom : List Cond := .code yX4_copyFrom cX4_copyFrom 2 none :: TB
def wsX4_isThere : List Cond := .code yX4_isThere cX4_isThere 2 (some .boolean) :: TB
def wsX4_startChange : List Cond := .code yX4_startChange cX4_startChange 1 (some .int) :: TB
def wsX4_dropOld : List Cond := .code yX4_dropOld cX4_dropOld 1 (some .int) :: TB
def wsX4_loseQueue : List Cond := .code yX4_loseQueue cX4_loseQueue 2 (some .int) :: TB
def wsX4_rowRead : List Cond := .code yX4_rowRead cX4_rowRead 6 (some .int) :: TB
def wsX4_keysRead : List Cond := .code yX4_keysRead cX4_keysRead 4 (some .int) :: TB
def wsX4_quarrelling : List Cond := .code yX4_quarrelling cX4_quarrelling 3 (some .int) :: TB
def wsX4_risky : List Cond := .code yX4_risky cX4_risky 3 (some .int) :: TB
def wsJ6_bitCount_0f7a4 : List Cond := .code yJ6_bitCount_0f7a4 cJ6_bitCount_0f7a4 1 (some .int) :: TB
def wsX4_startWalk : List Cond := .code yX4_startWalk cX4_startWalk 3 (some .int) :: TB
def wsX4_goOn : List Cond := .code yX4_goOn cX4_goOn 3 (some .int) :: TB
def wsX5_init : List Cond := .code yX5_init cX5_init 2 none :: TB
def wsX5_newTrial : List Cond := .code yX5_newTrial cX5_newTrial 1 (some (.object "TwoShapes$Table")) :: TB
def wsX5_settle : List Cond := .code yX5_settle cX5_settle 4 (some .int) :: TB
def wsX5_begin : List Cond := .code yX5_begin cX5_begin 1 (some .int) :: TB
def wsX5_turn : List Cond := .code yX5_turn cX5_turn 1 (some .int) :: TB
def wsX5_back : List Cond := .code yX5_back cX5_back 1 (some .int) :: TB
def wsX5_drop : List Cond := .code yX5_drop cX5_drop 1 (some .int) :: TB
def wsX5_writeOld : List Cond := .code yX5_writeOld cX5_writeOld 5 (some .int) :: TB
def wsX5_writeNew : List Cond := .code yX5_writeNew cX5_writeNew 4 (some .int) :: TB
def wsX5_remove : List Cond := .code yX5_remove cX5_remove 2 (some .int) :: TB
def wsX5_drain : List Cond := .code yX5_drain cX5_drain 2 (some .int) :: TB
def wsX5_backfill : List Cond := .code yX5_backfill cX5_backfill 2 (some .int) :: TB
def wsX5_crash : List Cond := .code yX5_crash cX5_crash 1 (some .int) :: TB
def wsX5_mend : List Cond := .code yX5_mend cX5_mend 2 (some .int) :: TB
def wsX5_read : List Cond := .code yX5_read cX5_read 6 (some .int) :: TB
def wsX5_shapeOf : List Cond := .code yX5_shapeOf cX5_shapeOf 6 (some .int) :: TB
def wsX5_queued : List Cond := .code yX5_queued cX5_queued 3 (some .int) :: TB
def wsX5_keys : List Cond := .code yX5_keys cX5_keys 2 (some .int) :: TB
def wsX5_check : List Cond := .code yX5_check cX5_check 1 (some .int) :: TB
def wsX5_quarrel : List Cond := .code yX5_quarrel cX5_quarrel 1 (some .int) :: TB
def wsX5_atRisk : List Cond := .code yX5_atRisk cX5_atRisk 1 (some .int) :: TB
def wsX5_walk : List Cond := .code yX5_walk cX5_walk 3 (some .int) :: TB
def wsX5_step : List Cond := .code yX5_step cX5_step 2 (some .int) :: TB
def wsX5_count : List Cond := .code yX5_count cX5_count 2 (some .int) :: TB
def wsX5_undo : List Cond := .code yX5_undo cX5_undo 2 (some .int) :: TB
def wsX5_type : List Cond := .code yX5_type cX5_type 2 (some .int) :: TB
def wsX5_clearText : List Cond := .code yX5_clearText cX5_clearText 2 (some .int) :: TB
def wsX5_fault : List Cond := .code yX5_fault cX5_fault 2 (some .int) :: TB
def wsX5_play : List Cond := .code yX5_play cX5_play 1 (some .int) :: TB
def wsX6_init : List Cond := .code yX6_init cX6_init 1 none :: TB
def wsX6_in : List Cond := .code yX6_in cX6_in 3 (some .boolean) :: TB
def wsX6_place : List Cond := .code yX6_place cX6_place 2 (some .int) :: TB
def wsX6_of : List Cond := .code yX6_of cX6_of 4 (some .int) :: TB
def wsX6_isThere : List Cond := .code yX6_isThere cX6_isThere 2 (some .boolean) :: TB
def wsX6_areBoth : List Cond := .code yX6_areBoth cX6_areBoth 1 (some .boolean) :: TB
def wsX6_first : List Cond := .code yX6_first cX6_first 1 (some .int) :: TB
def wsX6_keeps : List Cond := .code yX6_keeps cX6_keeps 2 none :: TB
def wsX6_acted : List Cond := .code yX6_acted cX6_acted 3 (some .int) :: TB
def wsX6_restores : List Cond := .code yX6_restores cX6_restores 2 none :: TB
def wsX6_makes : List Cond := .code yX6_makes cX6_makes 5 none :: TB
def wsX6_takes : List Cond := .code yX6_takes cX6_takes 4 none :: TB
def wsX6_lays : List Cond := .code yX6_lays cX6_lays 6 none :: TB
def wsX6_rows : List Cond := .code yX6_rows cX6_rows 4 (some .int) :: TB
def wsX6_clears : List Cond := .code yX6_clears cX6_clears 3 none :: TB
def wsX6_differs : List Cond := .code yX6_differs cX6_differs 4 (some .boolean) :: TB
def wsX6_differing : List Cond := .code yX6_differing cX6_differing 3 (some .int) :: TB
def wsX6_isReady : List Cond := .code yX6_isReady cX6_isReady 1 (some .boolean) :: TB
def wsX6_begin : List Cond := .code yX6_begin cX6_begin 1 (some .int) :: TB
def wsX6_turns : List Cond := .code yX6_turns cX6_turns 1 (some .int) :: TB
def wsX6_turn : List Cond := .code yX6_turn cX6_turn 1 (some .int) :: TB
def wsX6_turnsBack : List Cond := .code yX6_turnsBack cX6_turnsBack 1 (some .int) :: TB
def wsX6_back : List Cond := .code yX6_back cX6_back 1 (some .int) :: TB
def wsX6_strange : List Cond := .code yX6_strange cX6_strange 3 (some .int) :: TB
def wsX6_drop : List Cond := .code yX6_drop cX6_drop 1 (some .int) :: TB
def wsX6_comes : List Cond := .code yX6_comes cX6_comes 6 (some .int) :: TB
def wsX6_writes : List Cond := .code yX6_writes cX6_writes 6 (some .int) :: TB
def wsX6_isKey : List Cond := .code yX6_isKey cX6_isKey 1 (some .boolean) :: TB
def wsX6_writesOld : List Cond := .code yX6_writesOld cX6_writesOld 5 (some .int) :: TB
def wsX6_writeOld : List Cond := .code yX6_writeOld cX6_writeOld 5 (some .int) :: TB
def wsX6_writesNew : List Cond := .code yX6_writesNew cX6_writesNew 4 (some .int) :: TB
def wsX6_writeNew : List Cond := .code yX6_writeNew cX6_writeNew 4 (some .int) :: TB
def wsX6_removes : List Cond := .code yX6_removes cX6_removes 3 (some .int) :: TB
def wsX6_remove : List Cond := .code yX6_remove cX6_remove 2 (some .int) :: TB
def wsX6_drainsOne : List Cond := .code yX6_drainsOne cX6_drainsOne 5 none :: TB
def wsX6_drains : List Cond := .code yX6_drains cX6_drains 3 (some .int) :: TB
def wsX6_drain : List Cond := .code yX6_drain cX6_drain 2 (some .int) :: TB
def wsX6_gets : List Cond := .code yX6_gets cX6_gets 3 none :: TB
def wsX6_backfills : List Cond := .code yX6_backfills cX6_backfills 5 (some .int) :: TB
def wsX6_backfill : List Cond := .code yX6_backfill cX6_backfill 2 (some .int) :: TB
def wsX6_crash : List Cond := .code yX6_crash cX6_crash 2 (some .int) :: TB
def wsX6_latest : List Cond := .code yX6_latest cX6_latest 4 (some .int) :: TB
def wsX6_mends : List Cond := .code yX6_mends cX6_mends 4 (some .int) :: TB
def wsX6_mend : List Cond := .code yX6_mend cX6_mend 2 (some .int) :: TB
def wsX6_reads : List Cond := .code yX6_reads cX6_reads 6 (some .boolean) :: TB
def wsX6_read : List Cond := .code yX6_read cX6_read 4 (some .int) :: TB
def wsX6_shapeOf : List Cond := .code yX6_shapeOf cX6_shapeOf 5 (some .int) :: TB
def wsX6_queued : List Cond := .code yX6_queued cX6_queued 3 (some .int) :: TB
def wsX6_readable : List Cond := .code yX6_readable cX6_readable 4 (some .int) :: TB
def wsX6_keys : List Cond := .code yX6_keys cX6_keys 2 (some .int) :: TB
def wsX6_check : List Cond := .code yX6_check cX6_check 1 (some .int) :: TB
def wsX6_quarrels : List Cond := .code yX6_quarrels cX6_quarrels 6 (some .boolean) :: TB
def wsX6_quarrel : List Cond := .code yX6_quarrel cX6_quarrel 3 (some .int) :: TB
def wsX6_atRisk : List Cond := .code yX6_atRisk cX6_atRisk 3 (some .int) :: TB
def wsX6_ones : List Cond := .code yX6_ones cX6_ones 3 (some .int) :: TB
def wsX6_walk : List Cond := .code yX6_walk cX6_walk 3 (some .int) :: TB
def wsX6_step : List Cond := .code yX6_step cX6_step 4 (some .int) :: TB
def wsX6_known : List Cond := .code yX6_known cX6_known 3 (some .int) :: TB
def wsX6_count : List Cond := .code yX6_count cX6_count 2 (some .int) :: TB
def wsX6_undo : List Cond := .code yX6_undo cX6_undo 2 (some .int) :: TB
def wsX6_type : List Cond := .code yX6_type cX6_type 2 (some .int) :: TB
def wsX6_clearText : List Cond := .code yX6_clearText cX6_clearText 2 (some .int) :: TB
def wsX6_has : List Cond := .code yX6_has cX6_has 3 (some .boolean) :: TB
def wsX6_number : List Cond := .code yX6_number cX6_number 3 (some .boolean) :: TB
def wsX6_readsForm : List Cond := .code yX6_readsForm cX6_readsForm 5 (some .boolean) :: TB
def wsX6_does : List Cond := .code yX6_does cX6_does 2 (some .int) :: TB
def wsX6_doesNext : List Cond := .code yX6_doesNext cX6_doesNext 3 (some .int) :: TB
def wsX6_faulty : List Cond := .code yX6_faulty cX6_faulty 3 (some .int) :: TB
def wsX6_fault : List Cond := .code yX6_fault cX6_fault 3 (some .int) :: TB
def wsX6_play : List Cond := .code yX6_play cX6_play 2 (some .int) :: TB
def wsJ9_max_7cf53 : List Cond := .code yJ9_max_7cf53 cJ9_max_7cf53 2 (some .int) :: TB
def wsJ9_min_7cf53 : List Cond := .code yJ9_min_7cf53 cJ9_min_7cf53 2 (some .int) :: TB
end
section
theorem dX0_init_0 : decode cX0_init 0 = .ok (.aload_n 0, 1) := by decide +kernel
theorem dX0_init_1 : decode cX0_init 1 = .ok (.invokespecial 3, 3) := by decide +kernel
theorem dX0_init_4 : decode cX0_init 4 = .ok (.aload_n 0, 1) := by decide +kernel
theorem dX0_init_5 : decode cX0_init 5 = .ok (.bipush 60, 2) := by decide +kernel
theorem dX0_init_7 : decode cX0_init 7 = .ok (.newarray .int, 2) := by decide +kernel
theorem dX0_init_9 : decode cX0_init 9 = .ok (.putfield 9, 3) := by decide +kernel
theorem dX0_init_12 : decode cX0_init 12 = .ok (.aload_n 0, 1) := by decide +kernel
theorem dX0_init_13 : decode cX0_init 13 = .ok (.iconst 4, 1) := by decide +kernel
theorem dX0_init_14 : decode cX0_init 14 = .ok (.newarray .int, 2) := by decide +kernel
theorem dX0_init_16 : decode cX0_init 16 = .ok (.putfield 15, 3) := by decide +kernel
theorem dX0_init_19 : decode cX0_init 19 = .ok (.return_, 1) := by decide +kernel
theorem dX0_append_0 : decode cX0_append 0 = .ok (.aload_n 0, 1) := by decide +kernel
theorem dX0_append_1 : decode cX0_append 1 = .ok (.getfield 18, 3) := by decide +kernel
theorem dX0_append_4 : decode cX0_append 4 = .ok (.bipush 60, 2) := by decide +kernel
theorem dX0_append_6 : decode cX0_append 6 = .ok (.if_icmp .ge 23, 3) := by decide +kernel
theorem dX0_append_9 : decode cX0_append 9 = .ok (.aload_n 0, 1) := by decide +kernel
theorem dX0_append_10 : decode cX0_append 10 = .ok (.getfield 9, 3) := by decide +kernel
theorem dX0_append_13 : decode cX0_append 13 = .ok (.aload_n 0, 1) := by decide +kernel
theorem dX0_append_14 : decode cX0_append 14 = .ok (.getfield 18, 3) := by decide +kernel
theorem dX0_append_17 : decode cX0_append 17 = .ok (.iload_n 1, 1) := by decide +kernel
theorem dX0_append_18 : decode cX0_append 18 = .ok (.iastore, 1) := by decide +kernel
theorem dX0_append_19 : decode cX0_append 19 = .ok (.aload_n 0, 1) := by decide +kernel
theorem dX0_append_20 : decode cX0_append 20 = .ok (.dup, 1) := by decide +kernel
theorem dX0_append_21 : decode cX0_append 21 = .ok (.getfield 18, 3) := by decide +kernel
theorem dX0_append_24 : decode cX0_append 24 = .ok (.iconst 1, 1) := by decide +kernel
theorem dX0_append_25 : decode cX0_append 25 = .ok (.iadd, 1) := by decide +kernel
theorem dX0_append_26 : decode cX0_append 26 = .ok (.putfield 18, 3) := by decide +kernel
theorem dX0_append_29 : decode cX0_append 29 = .ok (.return_, 1) := by decide +kernel
theorem dX0_giveAll_0 : decode cX0_giveAll 0 = .ok (.aload_n 0, 1) := by decide +kernel
theorem dX0_giveAll_1 : decode cX0_giveAll 1 = .ok (.iconst 0, 1) := by decide +kernel
theorem dX0_giveAll_2 : decode cX0_giveAll 2 = .ok (.putfield 22, 3) := by decide +kernel
theorem dX0_giveAll_5 : decode cX0_giveAll 5 = .ok (.aload_n 0, 1) := by decide +kernel
theorem dX0_giveAll_6 : decode cX0_giveAll 6 = .ok (.iconst 0, 1) := by decide +kernel
theorem dX0_giveAll_7 : decode cX0_giveAll 7 = .ok (.putfield 25, 3) := by decide +kernel
theorem dX0_giveAll_10 : decode cX0_giveAll 10 = .ok (.aload_n 0, 1) := by decide +kernel
theorem dX0_giveAll_11 : decode cX0_giveAll 11 = .ok (.iconst 0, 1) := by decide +kernel
theorem dX0_giveAll_12 : decode cX0_giveAll 12 = .ok (.putfield 28, 3) := by decide +kernel
theorem dX0_giveAll_15 : decode cX0_giveAll 15 = .ok (.aload_n 0, 1) := by decide +kernel
theorem dX0_giveAll_16 : decode cX0_giveAll 16 = .ok (.getfield 22, 3) := by decide +kernel
theorem dX0_giveAll_19 : decode cX0_giveAll 19 = .ok (.bipush 60, 2) := by decide +kernel
theorem dX0_giveAll_21 : decode cX0_giveAll 21 = .ok (.if_icmp .ge 70, 3) := by decide +kernel
theorem dX0_giveAll_24 : decode cX0_giveAll 24 = .ok (.aload_n 0, 1) := by decide +kernel
theorem dX0_giveAll_25 : decode cX0_giveAll 25 = .ok (.getfield 25, 3) := by decide +kernel
theorem dX0_giveAll_28 : decode cX0_giveAll 28 = .ok (.aload_n 0, 1) := by decide +kernel
theorem dX0_giveAll_29 : decode cX0_giveAll 29 = .ok (.getfield 18, 3) := by decide +kernel
theorem dX0_giveAll_32 : decode cX0_giveAll 32 = .ok (.if_icmp .ge 59, 3) := by decide +kernel
theorem dX0_giveAll_35 : decode cX0_giveAll 35 = .ok (.aload_n 0, 1) := by decide +kernel
theorem dX0_giveAll_36 : decode cX0_giveAll 36 = .ok (.aload_n 0, 1) := by decide +kernel
theorem dX0_giveAll_37 : decode cX0_giveAll 37 = .ok (.getfield 25, 3) := by decide +kernel
theorem dX0_giveAll_40 : decode cX0_giveAll 40 = .ok (.invokevirtual 31, 3) := by decide +kernel
theorem dX0_giveAll_43 : decode cX0_giveAll 43 = .ok (.istore_n 2, 1) := by decide +kernel
theorem dX0_giveAll_44 : decode cX0_giveAll 44 = .ok (.aload_n 0, 1) := by decide +kernel
theorem dX0_giveAll_45 : decode cX0_giveAll 45 = .ok (.iload_n 2, 1) := by decide +kernel
theorem dX0_giveAll_46 : decode cX0_giveAll 46 = .ok (.iconst (-1), 1) := by decide +kernel
theorem dX0_giveAll_47 : decode cX0_giveAll 47 = .ok (.if_icmp .ne 7, 3) := by decide +kernel
theorem dX0_giveAll_50 : decode cX0_giveAll 50 = .ok (.iconst 1, 1) := by decide +kernel
theorem dX0_giveAll_51 : decode cX0_giveAll 51 = .ok (.goto 11, 3) := by decide +kernel
theorem dX0_giveAll_54 : decode cX0_giveAll 54 = .ok (.aload_n 0, 1) := by decide +kernel
theorem dX0_giveAll_55 : decode cX0_giveAll 55 = .ok (.aload_n 1, 1) := by decide +kernel
theorem dX0_giveAll_56 : decode cX0_giveAll 56 = .ok (.invokevirtual 35, 3) := by decide +kernel
theorem dX0_giveAll_59 : decode cX0_giveAll 59 = .ok (.invokestatic 39, 3) := by decide +kernel
theorem dX0_giveAll_62 : decode cX0_giveAll 62 = .ok (.putfield 28, 3) := by decide +kernel
theorem dX0_giveAll_65 : decode cX0_giveAll 65 = .ok (.aload_n 0, 1) := by decide +kernel
theorem dX0_giveAll_66 : decode cX0_giveAll 66 = .ok (.getfield 28, 3) := by decide +kernel
theorem dX0_giveAll_69 : decode cX0_giveAll 69 = .ok (.ifCond .eq 4, 3) := by decide +kernel
theorem dX0_giveAll_72 : decode cX0_giveAll 72 = .ok (.return_, 1) := by decide +kernel
theorem dX0_giveAll_73 : decode cX0_giveAll 73 = .ok (.aload_n 0, 1) := by decide +kernel
theorem dX0_giveAll_74 : decode cX0_giveAll 74 = .ok (.dup, 1) := by decide +kernel
theorem dX0_giveAll_75 : decode cX0_giveAll 75 = .ok (.getfield 22, 3) := by decide +kernel
theorem dX0_giveAll_78 : decode cX0_giveAll 78 = .ok (.iconst 1, 1) := by decide +kernel
theorem dX0_giveAll_79 : decode cX0_giveAll 79 = .ok (.iadd, 1) := by decide +kernel
theorem dX0_giveAll_80 : decode cX0_giveAll 80 = .ok (.putfield 22, 3) := by decide +kernel
theorem dX0_giveAll_83 : decode cX0_giveAll 83 = .ok (.aload_n 0, 1) := by decide +kernel
theorem dX0_giveAll_84 : decode cX0_giveAll 84 = .ok (.iload_n 2, 1) := by decide +kernel
theorem dX0_giveAll_85 : decode cX0_giveAll 85 = .ok (.putfield 25, 3) := by decide +kernel
theorem dX0_giveAll_88 : decode cX0_giveAll 88 = .ok (.goto (-73), 3) := by decide +kernel
theorem dX0_giveAll_91 : decode cX0_giveAll 91 = .ok (.return_, 1) := by decide +kernel
theorem dX0_reasonOf_0 : decode cX0_reasonOf 0 = .ok (.iload_n 0, 1) := by decide +kernel
theorem dX0_reasonOf_1 : decode cX0_reasonOf 1 = .ok (.ifCond .lt 5, 3) := by decide +kernel
theorem dX0_reasonOf_4 : decode cX0_reasonOf 4 = .ok (.iconst 0, 1) := by decide +kernel
theorem dX0_reasonOf_5 : decode cX0_reasonOf 5 = .ok (.ireturn, 1) := by decide +kernel
theorem dX0_reasonOf_6 : decode cX0_reasonOf 6 = .ok (.iload_n 0, 1) := by decide +kernel
theorem dX0_reasonOf_7 : decode cX0_reasonOf 7 = .ok (.ldc 42, 2) := by decide +kernel
theorem dX0_reasonOf_9 : decode cX0_reasonOf 9 = .ok (.if_icmp .ne 7, 3) := by decide +kernel
theorem dX0_reasonOf_12 : decode cX0_reasonOf 12 = .ok (.iconst 2, 1) := by decide +kernel
theorem dX0_reasonOf_13 : decode cX0_reasonOf 13 = .ok (.goto 4, 3) := by decide +kernel
theorem dX0_reasonOf_16 : decode cX0_reasonOf 16 = .ok (.iconst 3, 1) := by decide +kernel
theorem dX0_reasonOf_17 : decode cX0_reasonOf 17 = .ok (.ireturn, 1) := by decide +kernel
theorem dX0_give_0 : decode cX0_give 0 = .ok (.aload_n 0, 1) := by decide +kernel
theorem dX0_give_1 : decode cX0_give 1 = .ok (.getfield 43, 3) := by decide +kernel
theorem dX0_give_4 : decode cX0_give 4 = .ok (.tableswitch 209 98 120 #[182, 209, 171, 209, 209, 209, 209, 209, 209, 209, 209, 193, 137, 108, 209, 209, 209, 209, 204, 209, 209, 209, 160], 108) := by decide +kernel
theorem dX0_give_112 : decode cX0_give 112 = .ok (.aload_n 1, 1) := by decide +kernel
theorem dX0_give_113 : decode cX0_give 113 = .ok (.aload_n 0, 1) := by decide +kernel
theorem dX0_give_114 : decode cX0_give 114 = .ok (.getfield 15, 3) := by decide +kernel
theorem dX0_give_117 : decode cX0_give 117 = .ok (.iconst 0, 1) := by decide +kernel
theorem dX0_give_118 : decode cX0_give 118 = .ok (.iaload, 1) := by decide +kernel
theorem dX0_give_119 : decode cX0_give 119 = .ok (.aload_n 0, 1) := by decide +kernel
theorem dX0_give_120 : decode cX0_give 120 = .ok (.getfield 15, 3) := by decide +kernel
theorem dX0_give_123 : decode cX0_give 123 = .ok (.iconst 1, 1) := by decide +kernel
theorem dX0_give_124 : decode cX0_give 124 = .ok (.iaload, 1) := by decide +kernel
theorem dX0_give_125 : decode cX0_give 125 = .ok (.aload_n 0, 1) := by decide +kernel
theorem dX0_give_126 : decode cX0_give 126 = .ok (.getfield 15, 3) := by decide +kernel
theorem dX0_give_129 : decode cX0_give 129 = .ok (.iconst 2, 1) := by decide +kernel
theorem dX0_give_130 : decode cX0_give 130 = .ok (.iaload, 1) := by decide +kernel
theorem dX0_give_131 : decode cX0_give 131 = .ok (.aload_n 0, 1) := by decide +kernel
theorem dX0_give_132 : decode cX0_give 132 = .ok (.getfield 15, 3) := by decide +kernel
theorem dX0_give_135 : decode cX0_give 135 = .ok (.iconst 3, 1) := by decide +kernel
theorem dX0_give_136 : decode cX0_give 136 = .ok (.iaload, 1) := by decide +kernel
theorem dX0_give_137 : decode cX0_give 137 = .ok (.invokevirtual 46, 3) := by decide +kernel
theorem dX0_give_140 : decode cX0_give 140 = .ok (.ireturn, 1) := by decide +kernel
theorem dX0_give_141 : decode cX0_give 141 = .ok (.aload_n 1, 1) := by decide +kernel
theorem dX0_give_142 : decode cX0_give 142 = .ok (.aload_n 0, 1) := by decide +kernel
theorem dX0_give_143 : decode cX0_give 143 = .ok (.getfield 15, 3) := by decide +kernel
theorem dX0_give_146 : decode cX0_give 146 = .ok (.iconst 0, 1) := by decide +kernel
theorem dX0_give_147 : decode cX0_give 147 = .ok (.iaload, 1) := by decide +kernel
theorem dX0_give_148 : decode cX0_give 148 = .ok (.aload_n 0, 1) := by decide +kernel
theorem dX0_give_149 : decode cX0_give 149 = .ok (.getfield 15, 3) := by decide +kernel
theorem dX0_give_152 : decode cX0_give 152 = .ok (.iconst 1, 1) := by decide +kernel
theorem dX0_give_153 : decode cX0_give 153 = .ok (.iaload, 1) := by decide +kernel
theorem dX0_give_154 : decode cX0_give 154 = .ok (.aload_n 0, 1) := by decide +kernel
theorem dX0_give_155 : decode cX0_give 155 = .ok (.getfield 15, 3) := by decide +kernel
theorem dX0_give_158 : decode cX0_give 158 = .ok (.iconst 2, 1) := by decide +kernel
theorem dX0_give_159 : decode cX0_give 159 = .ok (.iaload, 1) := by decide +kernel
theorem dX0_give_160 : decode cX0_give 160 = .ok (.invokevirtual 52, 3) := by decide +kernel
theorem dX0_give_163 : decode cX0_give 163 = .ok (.ireturn, 1) := by decide +kernel
theorem dX0_give_164 : decode cX0_give 164 = .ok (.aload_n 1, 1) := by decide +kernel
theorem dX0_give_165 : decode cX0_give 165 = .ok (.aload_n 0, 1) := by decide +kernel
theorem dX0_give_166 : decode cX0_give 166 = .ok (.getfield 15, 3) := by decide +kernel
theorem dX0_give_169 : decode cX0_give 169 = .ok (.iconst 0, 1) := by decide +kernel
theorem dX0_give_170 : decode cX0_give 170 = .ok (.iaload, 1) := by decide +kernel
theorem dX0_give_171 : decode cX0_give 171 = .ok (.invokevirtual 56, 3) := by decide +kernel
theorem dX0_give_174 : decode cX0_give 174 = .ok (.ireturn, 1) := by decide +kernel
theorem dX0_give_175 : decode cX0_give 175 = .ok (.aload_n 1, 1) := by decide +kernel
theorem dX0_give_176 : decode cX0_give 176 = .ok (.aload_n 0, 1) := by decide +kernel
theorem dX0_give_177 : decode cX0_give 177 = .ok (.getfield 15, 3) := by decide +kernel
theorem dX0_give_180 : decode cX0_give 180 = .ok (.iconst 0, 1) := by decide +kernel
theorem dX0_give_181 : decode cX0_give 181 = .ok (.iaload, 1) := by decide +kernel
theorem dX0_give_182 : decode cX0_give 182 = .ok (.invokevirtual 59, 3) := by decide +kernel
theorem dX0_give_185 : decode cX0_give 185 = .ok (.ireturn, 1) := by decide +kernel
theorem dX0_give_186 : decode cX0_give 186 = .ok (.aload_n 1, 1) := by decide +kernel
theorem dX0_give_187 : decode cX0_give 187 = .ok (.aload_n 0, 1) := by decide +kernel
theorem dX0_give_188 : decode cX0_give 188 = .ok (.getfield 15, 3) := by decide +kernel
theorem dX0_give_191 : decode cX0_give 191 = .ok (.iconst 0, 1) := by decide +kernel
theorem dX0_give_192 : decode cX0_give 192 = .ok (.iaload, 1) := by decide +kernel
theorem dX0_give_193 : decode cX0_give 193 = .ok (.invokevirtual 62, 3) := by decide +kernel
theorem dX0_give_196 : decode cX0_give 196 = .ok (.ireturn, 1) := by decide +kernel
theorem dX0_give_197 : decode cX0_give 197 = .ok (.aload_n 1, 1) := by decide +kernel
theorem dX0_give_198 : decode cX0_give 198 = .ok (.aload_n 0, 1) := by decide +kernel
theorem dX0_give_199 : decode cX0_give 199 = .ok (.getfield 15, 3) := by decide +kernel
theorem dX0_give_202 : decode cX0_give 202 = .ok (.iconst 0, 1) := by decide +kernel
theorem dX0_give_203 : decode cX0_give 203 = .ok (.iaload, 1) := by decide +kernel
theorem dX0_give_204 : decode cX0_give 204 = .ok (.invokevirtual 65, 3) := by decide +kernel
theorem dX0_give_207 : decode cX0_give 207 = .ok (.ireturn, 1) := by decide +kernel
theorem dX0_give_208 : decode cX0_give 208 = .ok (.aload_n 1, 1) := by decide +kernel
theorem dX0_give_209 : decode cX0_give 209 = .ok (.invokevirtual 68, 3) := by decide +kernel
theorem dX0_give_212 : decode cX0_give 212 = .ok (.ireturn, 1) := by decide +kernel
theorem dX0_give_213 : decode cX0_give 213 = .ok (.aload_n 1, 1) := by decide +kernel
theorem dX0_give_214 : decode cX0_give 214 = .ok (.invokevirtual 72, 3) := by decide +kernel
theorem dX0_give_217 : decode cX0_give 217 = .ok (.ireturn, 1) := by decide +kernel
theorem dX0_numbersOf_0 : decode cX0_numbersOf 0 = .ok (.iload_n 0, 1) := by decide +kernel
theorem dX0_numbersOf_1 : decode cX0_numbersOf 1 = .ok (.tableswitch 115 98 120 #[111, 115, 111, 115, 115, 115, 115, 115, 115, 113, 115, 111, 109, 107, 115, 115, 115, 115, 113, 115, 115, 115, 111], 107) := by decide +kernel
theorem dX0_numbersOf_108 : decode cX0_numbersOf 108 = .ok (.iconst 4, 1) := by decide +kernel
theorem dX0_numbersOf_109 : decode cX0_numbersOf 109 = .ok (.ireturn, 1) := by decide +kernel
theorem dX0_numbersOf_110 : decode cX0_numbersOf 110 = .ok (.iconst 3, 1) := by decide +kernel
theorem dX0_numbersOf_111 : decode cX0_numbersOf 111 = .ok (.ireturn, 1) := by decide +kernel
theorem dX0_numbersOf_112 : decode cX0_numbersOf 112 = .ok (.iconst 1, 1) := by decide +kernel
theorem dX0_numbersOf_113 : decode cX0_numbersOf 113 = .ok (.ireturn, 1) := by decide +kernel
theorem dX0_numbersOf_114 : decode cX0_numbersOf 114 = .ok (.iconst 0, 1) := by decide +kernel
theorem dX0_numbersOf_115 : decode cX0_numbersOf 115 = .ok (.ireturn, 1) := by decide +kernel
theorem dX0_numbersOf_116 : decode cX0_numbersOf 116 = .ok (.iconst (-1), 1) := by decide +kernel
theorem dX0_numbersOf_117 : decode cX0_numbersOf 117 = .ok (.ireturn, 1) := by decide +kernel
theorem dX0_readOrder_0 : decode cX0_readOrder 0 = .ok (.aload_n 0, 1) := by decide +kernel
theorem dX0_readOrder_1 : decode cX0_readOrder 1 = .ok (.aload_n 0, 1) := by decide +kernel
theorem dX0_readOrder_2 : decode cX0_readOrder 2 = .ok (.iload_n 1, 1) := by decide +kernel
theorem dX0_readOrder_3 : decode cX0_readOrder 3 = .ok (.invokevirtual 75, 3) := by decide +kernel
theorem dX0_readOrder_6 : decode cX0_readOrder 6 = .ok (.putfield 43, 3) := by decide +kernel
theorem dX0_readOrder_9 : decode cX0_readOrder 9 = .ok (.aload_n 0, 1) := by decide +kernel
theorem dX0_readOrder_10 : decode cX0_readOrder 10 = .ok (.getfield 43, 3) := by decide +kernel
theorem dX0_readOrder_13 : decode cX0_readOrder 13 = .ok (.invokestatic 78, 3) := by decide +kernel
theorem dX0_readOrder_16 : decode cX0_readOrder 16 = .ok (.istore_n 2, 1) := by decide +kernel
theorem dX0_readOrder_17 : decode cX0_readOrder 17 = .ok (.iload_n 2, 1) := by decide +kernel
theorem dX0_readOrder_18 : decode cX0_readOrder 18 = .ok (.iconst (-1), 1) := by decide +kernel
theorem dX0_readOrder_19 : decode cX0_readOrder 19 = .ok (.if_icmp .ne 5, 3) := by decide +kernel
theorem dX0_readOrder_22 : decode cX0_readOrder 22 = .ok (.iconst (-1), 1) := by decide +kernel
theorem dX0_readOrder_23 : decode cX0_readOrder 23 = .ok (.ireturn, 1) := by decide +kernel
theorem dX0_readOrder_24 : decode cX0_readOrder 24 = .ok (.iload_n 1, 1) := by decide +kernel
theorem dX0_readOrder_25 : decode cX0_readOrder 25 = .ok (.iconst 1, 1) := by decide +kernel
theorem dX0_readOrder_26 : decode cX0_readOrder 26 = .ok (.iadd, 1) := by decide +kernel
theorem dX0_readOrder_27 : decode cX0_readOrder 27 = .ok (.istore_n 3, 1) := by decide +kernel
theorem dX0_readOrder_28 : decode cX0_readOrder 28 = .ok (.iconst 0, 1) := by decide +kernel
theorem dX0_readOrder_29 : decode cX0_readOrder 29 = .ok (.istore 4, 2) := by decide +kernel
theorem dX0_readOrder_31 : decode cX0_readOrder 31 = .ok (.iload 4, 2) := by decide +kernel
theorem dX0_readOrder_33 : decode cX0_readOrder 33 = .ok (.iload_n 2, 1) := by decide +kernel
theorem dX0_readOrder_34 : decode cX0_readOrder 34 = .ok (.if_icmp .ge 61, 3) := by decide +kernel
theorem dX0_readOrder_37 : decode cX0_readOrder 37 = .ok (.iload 4, 2) := by decide +kernel
theorem dX0_readOrder_39 : decode cX0_readOrder 39 = .ok (.ifCond .le 18, 3) := by decide +kernel
theorem dX0_readOrder_42 : decode cX0_readOrder 42 = .ok (.aload_n 0, 1) := by decide +kernel
theorem dX0_readOrder_43 : decode cX0_readOrder 43 = .ok (.iload_n 3, 1) := by decide +kernel
theorem dX0_readOrder_44 : decode cX0_readOrder 44 = .ok (.invokevirtual 75, 3) := by decide +kernel
theorem dX0_readOrder_47 : decode cX0_readOrder 47 = .ok (.bipush 44, 2) := by decide +kernel
theorem dX0_readOrder_49 : decode cX0_readOrder 49 = .ok (.if_icmp .eq 5, 3) := by decide +kernel
theorem dX0_readOrder_52 : decode cX0_readOrder 52 = .ok (.iconst (-1), 1) := by decide +kernel
theorem dX0_readOrder_53 : decode cX0_readOrder 53 = .ok (.ireturn, 1) := by decide +kernel
theorem dX0_readOrder_54 : decode cX0_readOrder 54 = .ok (.iinc 3 1, 3) := by decide +kernel
theorem dX0_readOrder_57 : decode cX0_readOrder 57 = .ok (.aload_n 0, 1) := by decide +kernel
theorem dX0_readOrder_58 : decode cX0_readOrder 58 = .ok (.iload_n 3, 1) := by decide +kernel
theorem dX0_readOrder_59 : decode cX0_readOrder 59 = .ok (.invokevirtual 81, 3) := by decide +kernel
theorem dX0_readOrder_62 : decode cX0_readOrder 62 = .ok (.istore 5, 2) := by decide +kernel
theorem dX0_readOrder_64 : decode cX0_readOrder 64 = .ok (.iload 5, 2) := by decide +kernel
theorem dX0_readOrder_66 : decode cX0_readOrder 66 = .ok (.iload_n 3, 1) := by decide +kernel
theorem dX0_readOrder_67 : decode cX0_readOrder 67 = .ok (.if_icmp .ne 5, 3) := by decide +kernel
theorem dX0_readOrder_70 : decode cX0_readOrder 70 = .ok (.iconst (-1), 1) := by decide +kernel
theorem dX0_readOrder_71 : decode cX0_readOrder 71 = .ok (.ireturn, 1) := by decide +kernel
theorem dX0_readOrder_72 : decode cX0_readOrder 72 = .ok (.aload_n 0, 1) := by decide +kernel
theorem dX0_readOrder_73 : decode cX0_readOrder 73 = .ok (.getfield 15, 3) := by decide +kernel
theorem dX0_readOrder_76 : decode cX0_readOrder 76 = .ok (.iload 4, 2) := by decide +kernel
theorem dX0_readOrder_78 : decode cX0_readOrder 78 = .ok (.aload_n 0, 1) := by decide +kernel
theorem dX0_readOrder_79 : decode cX0_readOrder 79 = .ok (.iload_n 3, 1) := by decide +kernel
theorem dX0_readOrder_80 : decode cX0_readOrder 80 = .ok (.iload 5, 2) := by decide +kernel
theorem dX0_readOrder_82 : decode cX0_readOrder 82 = .ok (.invokevirtual 84, 3) := by decide +kernel
theorem dX0_readOrder_85 : decode cX0_readOrder 85 = .ok (.iastore, 1) := by decide +kernel
theorem dX0_readOrder_86 : decode cX0_readOrder 86 = .ok (.iload 5, 2) := by decide +kernel
theorem dX0_readOrder_88 : decode cX0_readOrder 88 = .ok (.istore_n 3, 1) := by decide +kernel
theorem dX0_readOrder_89 : decode cX0_readOrder 89 = .ok (.iinc 4 1, 3) := by decide +kernel
theorem dX0_readOrder_92 : decode cX0_readOrder 92 = .ok (.goto (-61), 3) := by decide +kernel
theorem dX0_readOrder_95 : decode cX0_readOrder 95 = .ok (.aload_n 0, 1) := by decide +kernel
theorem dX0_readOrder_96 : decode cX0_readOrder 96 = .ok (.iload_n 3, 1) := by decide +kernel
theorem dX0_readOrder_97 : decode cX0_readOrder 97 = .ok (.invokevirtual 75, 3) := by decide +kernel
theorem dX0_readOrder_100 : decode cX0_readOrder 100 = .ok (.bipush 59, 2) := by decide +kernel
theorem dX0_readOrder_102 : decode cX0_readOrder 102 = .ok (.if_icmp .ne 9, 3) := by decide +kernel
theorem dX0_readOrder_105 : decode cX0_readOrder 105 = .ok (.iload_n 3, 1) := by decide +kernel
theorem dX0_readOrder_106 : decode cX0_readOrder 106 = .ok (.iconst 1, 1) := by decide +kernel
theorem dX0_readOrder_107 : decode cX0_readOrder 107 = .ok (.iadd, 1) := by decide +kernel
theorem dX0_readOrder_108 : decode cX0_readOrder 108 = .ok (.goto 4, 3) := by decide +kernel
theorem dX0_readOrder_111 : decode cX0_readOrder 111 = .ok (.iconst (-1), 1) := by decide +kernel
theorem dX0_readOrder_112 : decode cX0_readOrder 112 = .ok (.ireturn, 1) := by decide +kernel
theorem dX0_digitsEnd_0 : decode cX0_digitsEnd 0 = .ok (.iload_n 1, 1) := by decide +kernel
theorem dX0_digitsEnd_1 : decode cX0_digitsEnd 1 = .ok (.istore_n 2, 1) := by decide +kernel
theorem dX0_digitsEnd_2 : decode cX0_digitsEnd 2 = .ok (.iload_n 2, 1) := by decide +kernel
theorem dX0_digitsEnd_3 : decode cX0_digitsEnd 3 = .ok (.iload_n 1, 1) := by decide +kernel
theorem dX0_digitsEnd_4 : decode cX0_digitsEnd 4 = .ok (.iconst 3, 1) := by decide +kernel
theorem dX0_digitsEnd_5 : decode cX0_digitsEnd 5 = .ok (.iadd, 1) := by decide +kernel
theorem dX0_digitsEnd_6 : decode cX0_digitsEnd 6 = .ok (.if_icmp .ge 29, 3) := by decide +kernel
theorem dX0_digitsEnd_9 : decode cX0_digitsEnd 9 = .ok (.aload_n 0, 1) := by decide +kernel
theorem dX0_digitsEnd_10 : decode cX0_digitsEnd 10 = .ok (.iload_n 2, 1) := by decide +kernel
theorem dX0_digitsEnd_11 : decode cX0_digitsEnd 11 = .ok (.invokevirtual 75, 3) := by decide +kernel
theorem dX0_digitsEnd_14 : decode cX0_digitsEnd 14 = .ok (.bipush 48, 2) := by decide +kernel
theorem dX0_digitsEnd_16 : decode cX0_digitsEnd 16 = .ok (.if_icmp .lt 19, 3) := by decide +kernel
theorem dX0_digitsEnd_19 : decode cX0_digitsEnd 19 = .ok (.aload_n 0, 1) := by decide +kernel
theorem dX0_digitsEnd_20 : decode cX0_digitsEnd 20 = .ok (.iload_n 2, 1) := by decide +kernel
theorem dX0_digitsEnd_21 : decode cX0_digitsEnd 21 = .ok (.invokevirtual 75, 3) := by decide +kernel
theorem dX0_digitsEnd_24 : decode cX0_digitsEnd 24 = .ok (.bipush 57, 2) := by decide +kernel
theorem dX0_digitsEnd_26 : decode cX0_digitsEnd 26 = .ok (.if_icmp .gt 9, 3) := by decide +kernel
theorem dX0_digitsEnd_29 : decode cX0_digitsEnd 29 = .ok (.iinc 2 1, 3) := by decide +kernel
theorem dX0_digitsEnd_32 : decode cX0_digitsEnd 32 = .ok (.goto (-30), 3) := by decide +kernel
theorem dX0_digitsEnd_35 : decode cX0_digitsEnd 35 = .ok (.iload_n 2, 1) := by decide +kernel
theorem dX0_digitsEnd_36 : decode cX0_digitsEnd 36 = .ok (.ireturn, 1) := by decide +kernel
theorem dX0_valueOf_0 : decode cX0_valueOf 0 = .ok (.iconst 0, 1) := by decide +kernel
theorem dX0_valueOf_1 : decode cX0_valueOf 1 = .ok (.istore_n 3, 1) := by decide +kernel
theorem dX0_valueOf_2 : decode cX0_valueOf 2 = .ok (.iload_n 1, 1) := by decide +kernel
theorem dX0_valueOf_3 : decode cX0_valueOf 3 = .ok (.istore 4, 2) := by decide +kernel
theorem dX0_valueOf_5 : decode cX0_valueOf 5 = .ok (.iload 4, 2) := by decide +kernel
theorem dX0_valueOf_7 : decode cX0_valueOf 7 = .ok (.iload_n 2, 1) := by decide +kernel
theorem dX0_valueOf_8 : decode cX0_valueOf 8 = .ok (.if_icmp .ge 24, 3) := by decide +kernel
theorem dX0_valueOf_11 : decode cX0_valueOf 11 = .ok (.bipush 10, 2) := by decide +kernel
theorem dX0_valueOf_13 : decode cX0_valueOf 13 = .ok (.iload_n 3, 1) := by decide +kernel
theorem dX0_valueOf_14 : decode cX0_valueOf 14 = .ok (.imul, 1) := by decide +kernel
theorem dX0_valueOf_15 : decode cX0_valueOf 15 = .ok (.aload_n 0, 1) := by decide +kernel
theorem dX0_valueOf_16 : decode cX0_valueOf 16 = .ok (.iload 4, 2) := by decide +kernel
theorem dX0_valueOf_18 : decode cX0_valueOf 18 = .ok (.invokevirtual 75, 3) := by decide +kernel
theorem dX0_valueOf_21 : decode cX0_valueOf 21 = .ok (.iadd, 1) := by decide +kernel
theorem dX0_valueOf_22 : decode cX0_valueOf 22 = .ok (.bipush 48, 2) := by decide +kernel
theorem dX0_valueOf_24 : decode cX0_valueOf 24 = .ok (.isub, 1) := by decide +kernel
theorem dX0_valueOf_25 : decode cX0_valueOf 25 = .ok (.istore_n 3, 1) := by decide +kernel
theorem dX0_valueOf_26 : decode cX0_valueOf 26 = .ok (.iinc 4 1, 3) := by decide +kernel
theorem dX0_valueOf_29 : decode cX0_valueOf 29 = .ok (.goto (-24), 3) := by decide +kernel
theorem dX0_valueOf_32 : decode cX0_valueOf 32 = .ok (.iload_n 3, 1) := by decide +kernel
theorem dX0_valueOf_33 : decode cX0_valueOf 33 = .ok (.ireturn, 1) := by decide +kernel
theorem dX0_signAt_0 : decode cX0_signAt 0 = .ok (.iload_n 1, 1) := by decide +kernel
theorem dX0_signAt_1 : decode cX0_signAt 1 = .ok (.aload_n 0, 1) := by decide +kernel
theorem dX0_signAt_2 : decode cX0_signAt 2 = .ok (.getfield 18, 3) := by decide +kernel
theorem dX0_signAt_5 : decode cX0_signAt 5 = .ok (.invokestatic 88, 3) := by decide +kernel
theorem dX0_signAt_8 : decode cX0_signAt 8 = .ok (.ifCond .eq 12, 3) := by decide +kernel
theorem dX0_signAt_11 : decode cX0_signAt 11 = .ok (.aload_n 0, 1) := by decide +kernel
theorem dX0_signAt_12 : decode cX0_signAt 12 = .ok (.getfield 9, 3) := by decide +kernel
theorem dX0_signAt_15 : decode cX0_signAt 15 = .ok (.iload_n 1, 1) := by decide +kernel
theorem dX0_signAt_16 : decode cX0_signAt 16 = .ok (.iaload, 1) := by decide +kernel
theorem dX0_signAt_17 : decode cX0_signAt 17 = .ok (.goto 4, 3) := by decide +kernel
theorem dX0_signAt_20 : decode cX0_signAt 20 = .ok (.iconst (-1), 1) := by decide +kernel
theorem dX0_signAt_21 : decode cX0_signAt 21 = .ok (.ireturn, 1) := by decide +kernel
theorem dX1_init_0 : decode cX1_init 0 = .ok (.aload_n 0, 1) := by decide +kernel
theorem dX1_init_1 : decode cX1_init 1 = .ok (.invokespecial 3, 3) := by decide +kernel
theorem dX1_init_4 : decode cX1_init 4 = .ok (.aload_n 0, 1) := by decide +kernel
theorem dX1_init_5 : decode cX1_init 5 = .ok (.bipush 8, 2) := by decide +kernel
theorem dX1_init_7 : decode cX1_init 7 = .ok (.newarray .int, 2) := by decide +kernel
theorem dX1_init_9 : decode cX1_init 9 = .ok (.putfield 9, 3) := by decide +kernel
theorem dX1_init_12 : decode cX1_init 12 = .ok (.aload_n 0, 1) := by decide +kernel
theorem dX1_init_13 : decode cX1_init 13 = .ok (.bipush 8, 2) := by decide +kernel
theorem dX1_init_15 : decode cX1_init 15 = .ok (.newarray .int, 2) := by decide +kernel
theorem dX1_init_17 : decode cX1_init 17 = .ok (.putfield 15, 3) := by decide +kernel
theorem dX1_init_20 : decode cX1_init 20 = .ok (.aload_n 0, 1) := by decide +kernel
theorem dX1_init_21 : decode cX1_init 21 = .ok (.bipush 8, 2) := by decide +kernel
theorem dX1_init_23 : decode cX1_init 23 = .ok (.newarray .int, 2) := by decide +kernel
theorem dX1_init_25 : decode cX1_init 25 = .ok (.putfield 18, 3) := by decide +kernel
theorem dX1_init_28 : decode cX1_init 28 = .ok (.return_, 1) := by decide +kernel
theorem dX1_copyFrom_0 : decode cX1_copyFrom 0 = .ok (.aload_n 0, 1) := by decide +kernel
theorem dX1_copyFrom_1 : decode cX1_copyFrom 1 = .ok (.aload_n 1, 1) := by decide +kernel
theorem dX1_copyFrom_2 : decode cX1_copyFrom 2 = .ok (.getfield 21, 3) := by decide +kernel
theorem dX1_copyFrom_5 : decode cX1_copyFrom 5 = .ok (.putfield 21, 3) := by decide +kernel
theorem dX1_copyFrom_8 : decode cX1_copyFrom 8 = .ok (.aload_n 1, 1) := by decide +kernel
theorem dX1_copyFrom_9 : decode cX1_copyFrom 9 = .ok (.getfield 9, 3) := by decide +kernel
theorem dX1_copyFrom_12 : decode cX1_copyFrom 12 = .ok (.iconst 0, 1) := by decide +kernel
theorem dX1_copyFrom_13 : decode cX1_copyFrom 13 = .ok (.aload_n 0, 1) := by decide +kernel
theorem dX1_copyFrom_14 : decode cX1_copyFrom 14 = .ok (.getfield 9, 3) := by decide +kernel
theorem dX1_copyFrom_17 : decode cX1_copyFrom 17 = .ok (.iconst 0, 1) := by decide +kernel
theorem dX1_copyFrom_18 : decode cX1_copyFrom 18 = .ok (.bipush 8, 2) := by decide +kernel
theorem dX1_copyFrom_20 : decode cX1_copyFrom 20 = .ok (.invokestatic 25, 3) := by decide +kernel
theorem dX1_copyFrom_23 : decode cX1_copyFrom 23 = .ok (.aload_n 1, 1) := by decide +kernel
theorem dX1_copyFrom_24 : decode cX1_copyFrom 24 = .ok (.getfield 15, 3) := by decide +kernel
theorem dX1_copyFrom_27 : decode cX1_copyFrom 27 = .ok (.iconst 0, 1) := by decide +kernel
theorem dX1_copyFrom_28 : decode cX1_copyFrom 28 = .ok (.aload_n 0, 1) := by decide +kernel
theorem dX1_copyFrom_29 : decode cX1_copyFrom 29 = .ok (.getfield 15, 3) := by decide +kernel
theorem dX1_copyFrom_32 : decode cX1_copyFrom 32 = .ok (.iconst 0, 1) := by decide +kernel
theorem dX1_copyFrom_33 : decode cX1_copyFrom 33 = .ok (.bipush 8, 2) := by decide +kernel
theorem dX1_copyFrom_35 : decode cX1_copyFrom 35 = .ok (.invokestatic 25, 3) := by decide +kernel
theorem dX1_copyFrom_38 : decode cX1_copyFrom 38 = .ok (.aload_n 1, 1) := by decide +kernel
theorem dX1_copyFrom_39 : decode cX1_copyFrom 39 = .ok (.getfield 18, 3) := by decide +kernel
theorem dX1_copyFrom_42 : decode cX1_copyFrom 42 = .ok (.iconst 0, 1) := by decide +kernel
theorem dX1_copyFrom_43 : decode cX1_copyFrom 43 = .ok (.aload_n 0, 1) := by decide +kernel
theorem dX1_copyFrom_44 : decode cX1_copyFrom 44 = .ok (.getfield 18, 3) := by decide +kernel
theorem dX1_copyFrom_47 : decode cX1_copyFrom 47 = .ok (.iconst 0, 1) := by decide +kernel
theorem dX1_copyFrom_48 : decode cX1_copyFrom 48 = .ok (.bipush 8, 2) := by decide +kernel
theorem dX1_copyFrom_50 : decode cX1_copyFrom 50 = .ok (.invokestatic 25, 3) := by decide +kernel
theorem dX1_copyFrom_53 : decode cX1_copyFrom 53 = .ok (.return_, 1) := by decide +kernel
theorem dX1_append_0 : decode cX1_append 0 = .ok (.aload_n 0, 1) := by decide +kernel
theorem dX1_append_1 : decode cX1_append 1 = .ok (.getfield 21, 3) := by decide +kernel
theorem dX1_append_4 : decode cX1_append 4 = .ok (.bipush 8, 2) := by decide +kernel
theorem dX1_append_6 : decode cX1_append 6 = .ok (.if_icmp .ge 43, 3) := by decide +kernel
theorem dX1_append_9 : decode cX1_append 9 = .ok (.aload_n 0, 1) := by decide +kernel
theorem dX1_append_10 : decode cX1_append 10 = .ok (.getfield 9, 3) := by decide +kernel
theorem dX1_append_13 : decode cX1_append 13 = .ok (.aload_n 0, 1) := by decide +kernel
theorem dX1_append_14 : decode cX1_append 14 = .ok (.getfield 21, 3) := by decide +kernel
theorem dX1_append_17 : decode cX1_append 17 = .ok (.iload_n 1, 1) := by decide +kernel
theorem dX1_append_18 : decode cX1_append 18 = .ok (.iastore, 1) := by decide +kernel
theorem dX1_append_19 : decode cX1_append 19 = .ok (.aload_n 0, 1) := by decide +kernel
theorem dX1_append_20 : decode cX1_append 20 = .ok (.getfield 15, 3) := by decide +kernel
theorem dX1_append_23 : decode cX1_append 23 = .ok (.aload_n 0, 1) := by decide +kernel
theorem dX1_append_24 : decode cX1_append 24 = .ok (.getfield 21, 3) := by decide +kernel
theorem dX1_append_27 : decode cX1_append 27 = .ok (.iload_n 2, 1) := by decide +kernel
theorem dX1_append_28 : decode cX1_append 28 = .ok (.iastore, 1) := by decide +kernel
theorem dX1_append_29 : decode cX1_append 29 = .ok (.aload_n 0, 1) := by decide +kernel
theorem dX1_append_30 : decode cX1_append 30 = .ok (.getfield 18, 3) := by decide +kernel
theorem dX1_append_33 : decode cX1_append 33 = .ok (.aload_n 0, 1) := by decide +kernel
theorem dX1_append_34 : decode cX1_append 34 = .ok (.getfield 21, 3) := by decide +kernel
theorem dX1_append_37 : decode cX1_append 37 = .ok (.iload_n 3, 1) := by decide +kernel
theorem dX1_append_38 : decode cX1_append 38 = .ok (.iastore, 1) := by decide +kernel
theorem dX1_append_39 : decode cX1_append 39 = .ok (.aload_n 0, 1) := by decide +kernel
theorem dX1_append_40 : decode cX1_append 40 = .ok (.dup, 1) := by decide +kernel
theorem dX1_append_41 : decode cX1_append 41 = .ok (.getfield 21, 3) := by decide +kernel
theorem dX1_append_44 : decode cX1_append 44 = .ok (.iconst 1, 1) := by decide +kernel
theorem dX1_append_45 : decode cX1_append 45 = .ok (.iadd, 1) := by decide +kernel
theorem dX1_append_46 : decode cX1_append 46 = .ok (.putfield 21, 3) := by decide +kernel
theorem dX1_append_49 : decode cX1_append 49 = .ok (.return_, 1) := by decide +kernel
theorem dX1_shorten_0 : decode cX1_shorten 0 = .ok (.iconst 0, 1) := by decide +kernel
theorem dX1_shorten_1 : decode cX1_shorten 1 = .ok (.aload_n 0, 1) := by decide +kernel
theorem dX1_shorten_2 : decode cX1_shorten 2 = .ok (.getfield 21, 3) := by decide +kernel
theorem dX1_shorten_5 : decode cX1_shorten 5 = .ok (.iload_n 1, 1) := by decide +kernel
theorem dX1_shorten_6 : decode cX1_shorten 6 = .ok (.isub, 1) := by decide +kernel
theorem dX1_shorten_7 : decode cX1_shorten 7 = .ok (.invokestatic 31, 3) := by decide +kernel
theorem dX1_shorten_10 : decode cX1_shorten 10 = .ok (.istore_n 2, 1) := by decide +kernel
theorem dX1_shorten_11 : decode cX1_shorten 11 = .ok (.iconst 0, 1) := by decide +kernel
theorem dX1_shorten_12 : decode cX1_shorten 12 = .ok (.istore_n 3, 1) := by decide +kernel
theorem dX1_shorten_13 : decode cX1_shorten 13 = .ok (.iload_n 3, 1) := by decide +kernel
theorem dX1_shorten_14 : decode cX1_shorten 14 = .ok (.iload_n 2, 1) := by decide +kernel
theorem dX1_shorten_15 : decode cX1_shorten 15 = .ok (.if_icmp .ge 51, 3) := by decide +kernel
theorem dX1_shorten_18 : decode cX1_shorten 18 = .ok (.aload_n 0, 1) := by decide +kernel
theorem dX1_shorten_19 : decode cX1_shorten 19 = .ok (.getfield 9, 3) := by decide +kernel
theorem dX1_shorten_22 : decode cX1_shorten 22 = .ok (.iload_n 3, 1) := by decide +kernel
theorem dX1_shorten_23 : decode cX1_shorten 23 = .ok (.aload_n 0, 1) := by decide +kernel
theorem dX1_shorten_24 : decode cX1_shorten 24 = .ok (.getfield 9, 3) := by decide +kernel
theorem dX1_shorten_27 : decode cX1_shorten 27 = .ok (.iload_n 3, 1) := by decide +kernel
theorem dX1_shorten_28 : decode cX1_shorten 28 = .ok (.iload_n 1, 1) := by decide +kernel
theorem dX1_shorten_29 : decode cX1_shorten 29 = .ok (.iadd, 1) := by decide +kernel
theorem dX1_shorten_30 : decode cX1_shorten 30 = .ok (.iaload, 1) := by decide +kernel
theorem dX1_shorten_31 : decode cX1_shorten 31 = .ok (.iastore, 1) := by decide +kernel
theorem dX1_shorten_32 : decode cX1_shorten 32 = .ok (.aload_n 0, 1) := by decide +kernel
theorem dX1_shorten_33 : decode cX1_shorten 33 = .ok (.getfield 15, 3) := by decide +kernel
theorem dX1_shorten_36 : decode cX1_shorten 36 = .ok (.iload_n 3, 1) := by decide +kernel
theorem dX1_shorten_37 : decode cX1_shorten 37 = .ok (.aload_n 0, 1) := by decide +kernel
theorem dX1_shorten_38 : decode cX1_shorten 38 = .ok (.getfield 15, 3) := by decide +kernel
theorem dX1_shorten_41 : decode cX1_shorten 41 = .ok (.iload_n 3, 1) := by decide +kernel
theorem dX1_shorten_42 : decode cX1_shorten 42 = .ok (.iload_n 1, 1) := by decide +kernel
theorem dX1_shorten_43 : decode cX1_shorten 43 = .ok (.iadd, 1) := by decide +kernel
theorem dX1_shorten_44 : decode cX1_shorten 44 = .ok (.iaload, 1) := by decide +kernel
theorem dX1_shorten_45 : decode cX1_shorten 45 = .ok (.iastore, 1) := by decide +kernel
theorem dX1_shorten_46 : decode cX1_shorten 46 = .ok (.aload_n 0, 1) := by decide +kernel
theorem dX1_shorten_47 : decode cX1_shorten 47 = .ok (.getfield 18, 3) := by decide +kernel
theorem dX1_shorten_50 : decode cX1_shorten 50 = .ok (.iload_n 3, 1) := by decide +kernel
theorem dX1_shorten_51 : decode cX1_shorten 51 = .ok (.aload_n 0, 1) := by decide +kernel
theorem dX1_shorten_52 : decode cX1_shorten 52 = .ok (.getfield 18, 3) := by decide +kernel
theorem dX1_shorten_55 : decode cX1_shorten 55 = .ok (.iload_n 3, 1) := by decide +kernel
theorem dX1_shorten_56 : decode cX1_shorten 56 = .ok (.iload_n 1, 1) := by decide +kernel
theorem dX1_shorten_57 : decode cX1_shorten 57 = .ok (.iadd, 1) := by decide +kernel
theorem dX1_shorten_58 : decode cX1_shorten 58 = .ok (.iaload, 1) := by decide +kernel
theorem dX1_shorten_59 : decode cX1_shorten 59 = .ok (.iastore, 1) := by decide +kernel
theorem dX1_shorten_60 : decode cX1_shorten 60 = .ok (.iinc 3 1, 3) := by decide +kernel
theorem dX1_shorten_63 : decode cX1_shorten 63 = .ok (.goto (-50), 3) := by decide +kernel
theorem dX1_shorten_66 : decode cX1_shorten 66 = .ok (.aload_n 0, 1) := by decide +kernel
theorem dX1_shorten_67 : decode cX1_shorten 67 = .ok (.iload_n 2, 1) := by decide +kernel
theorem dX1_shorten_68 : decode cX1_shorten 68 = .ok (.putfield 21, 3) := by decide +kernel
theorem dX1_shorten_71 : decode cX1_shorten 71 = .ok (.return_, 1) := by decide +kernel
theorem dX1_latestOf_0 : decode cX1_latestOf 0 = .ok (.aload_n 0, 1) := by decide +kernel
theorem dX1_latestOf_1 : decode cX1_latestOf 1 = .ok (.getfield 21, 3) := by decide +kernel
theorem dX1_latestOf_4 : decode cX1_latestOf 4 = .ok (.iconst 1, 1) := by decide +kernel
theorem dX1_latestOf_5 : decode cX1_latestOf 5 = .ok (.isub, 1) := by decide +kernel
theorem dX1_latestOf_6 : decode cX1_latestOf 6 = .ok (.istore_n 2, 1) := by decide +kernel
theorem dX1_latestOf_7 : decode cX1_latestOf 7 = .ok (.iload_n 2, 1) := by decide +kernel
theorem dX1_latestOf_8 : decode cX1_latestOf 8 = .ok (.ifCond .lt 21, 3) := by decide +kernel
theorem dX1_latestOf_11 : decode cX1_latestOf 11 = .ok (.aload_n 0, 1) := by decide +kernel
theorem dX1_latestOf_12 : decode cX1_latestOf 12 = .ok (.getfield 9, 3) := by decide +kernel
theorem dX1_latestOf_15 : decode cX1_latestOf 15 = .ok (.iload_n 2, 1) := by decide +kernel
theorem dX1_latestOf_16 : decode cX1_latestOf 16 = .ok (.iaload, 1) := by decide +kernel
theorem dX1_latestOf_17 : decode cX1_latestOf 17 = .ok (.iload_n 1, 1) := by decide +kernel
theorem dX1_latestOf_18 : decode cX1_latestOf 18 = .ok (.if_icmp .ne 5, 3) := by decide +kernel
theorem dX1_latestOf_21 : decode cX1_latestOf 21 = .ok (.iload_n 2, 1) := by decide +kernel
theorem dX1_latestOf_22 : decode cX1_latestOf 22 = .ok (.ireturn, 1) := by decide +kernel
theorem dX1_latestOf_23 : decode cX1_latestOf 23 = .ok (.iinc 2 (-1), 3) := by decide +kernel
theorem dX1_latestOf_26 : decode cX1_latestOf 26 = .ok (.goto (-19), 3) := by decide +kernel
theorem dX1_latestOf_29 : decode cX1_latestOf 29 = .ok (.iconst (-1), 1) := by decide +kernel
theorem dX1_latestOf_30 : decode cX1_latestOf 30 = .ok (.ireturn, 1) := by decide +kernel
theorem dX2_ofOld_0 : decode cX2_ofOld 0 = .ok (.bipush 10, 2) := by decide +kernel
theorem dX2_ofOld_2 : decode cX2_ofOld 2 = .ok (.iload_n 0, 1) := by decide +kernel
theorem dX2_ofOld_3 : decode cX2_ofOld 3 = .ok (.imul, 1) := by decide +kernel
theorem dX2_ofOld_4 : decode cX2_ofOld 4 = .ok (.iload_n 1, 1) := by decide +kernel
theorem dX2_ofOld_5 : decode cX2_ofOld 5 = .ok (.iadd, 1) := by decide +kernel
theorem dX2_ofOld_6 : decode cX2_ofOld 6 = .ok (.iload_n 2, 1) := by decide +kernel
theorem dX2_ofOld_7 : decode cX2_ofOld 7 = .ok (.invokestatic 11, 3) := by decide +kernel
theorem dX2_ofOld_10 : decode cX2_ofOld 10 = .ok (.ireturn, 1) := by decide +kernel
theorem dX2_ofNew_0 : decode cX2_ofNew 0 = .ok (.iconst 4, 1) := by decide +kernel
theorem dX2_ofNew_1 : decode cX2_ofNew 1 = .ok (.iload_n 0, 1) := by decide +kernel
theorem dX2_ofNew_2 : decode cX2_ofNew 2 = .ok (.imul, 1) := by decide +kernel
theorem dX2_ofNew_3 : decode cX2_ofNew 3 = .ok (.iload_n 1, 1) := by decide +kernel
theorem dX2_ofNew_4 : decode cX2_ofNew 4 = .ok (.iadd, 1) := by decide +kernel
theorem dX2_ofNew_5 : decode cX2_ofNew 5 = .ok (.ireturn, 1) := by decide +kernel
theorem dX2_isStrange_0 : decode cX2_isStrange 0 = .ok (.iload_n 0, 1) := by decide +kernel
theorem dX2_isStrange_1 : decode cX2_isStrange 1 = .ok (.iconst (-1), 1) := by decide +kernel
theorem dX2_isStrange_2 : decode cX2_isStrange 2 = .ok (.if_icmp .eq 14, 3) := by decide +kernel
theorem dX2_isStrange_5 : decode cX2_isStrange 5 = .ok (.iload_n 0, 1) := by decide +kernel
theorem dX2_isStrange_6 : decode cX2_isStrange 6 = .ok (.iconst 4, 1) := by decide +kernel
theorem dX2_isStrange_7 : decode cX2_isStrange 7 = .ok (.irem, 1) := by decide +kernel
theorem dX2_isStrange_8 : decode cX2_isStrange 8 = .ok (.iconst 1, 1) := by decide +kernel
theorem dX2_isStrange_9 : decode cX2_isStrange 9 = .ok (.if_icmp .le 7, 3) := by decide +kernel
theorem dX2_isStrange_12 : decode cX2_isStrange 12 = .ok (.iconst 1, 1) := by decide +kernel
theorem dX2_isStrange_13 : decode cX2_isStrange 13 = .ok (.goto 4, 3) := by decide +kernel
theorem dX2_isStrange_16 : decode cX2_isStrange 16 = .ok (.iconst 0, 1) := by decide +kernel
theorem dX2_isStrange_17 : decode cX2_isStrange 17 = .ok (.ireturn, 1) := by decide +kernel
theorem dX2_madeOver_0 : decode cX2_madeOver 0 = .ok (.iload_n 1, 1) := by decide +kernel
theorem dX2_madeOver_1 : decode cX2_madeOver 1 = .ok (.iconst 1, 1) := by decide +kernel
theorem dX2_madeOver_2 : decode cX2_madeOver 2 = .ok (.if_icmp .eq 8, 3) := by decide +kernel
theorem dX2_madeOver_5 : decode cX2_madeOver 5 = .ok (.iload_n 0, 1) := by decide +kernel
theorem dX2_madeOver_6 : decode cX2_madeOver 6 = .ok (.iconst (-1), 1) := by decide +kernel
theorem dX2_madeOver_7 : decode cX2_madeOver 7 = .ok (.if_icmp .ne 5, 3) := by decide +kernel
theorem dX2_madeOver_10 : decode cX2_madeOver 10 = .ok (.iload_n 0, 1) := by decide +kernel
theorem dX2_madeOver_11 : decode cX2_madeOver 11 = .ok (.ireturn, 1) := by decide +kernel
theorem dX2_madeOver_12 : decode cX2_madeOver 12 = .ok (.iload_n 0, 1) := by decide +kernel
theorem dX2_madeOver_13 : decode cX2_madeOver 13 = .ok (.iconst 4, 1) := by decide +kernel
theorem dX2_madeOver_14 : decode cX2_madeOver 14 = .ok (.irem, 1) := by decide +kernel
theorem dX2_madeOver_15 : decode cX2_madeOver 15 = .ok (.istore_n 2, 1) := by decide +kernel
theorem dX2_madeOver_16 : decode cX2_madeOver 16 = .ok (.iload_n 2, 1) := by decide +kernel
theorem dX2_madeOver_17 : decode cX2_madeOver 17 = .ok (.iconst 1, 1) := by decide +kernel
theorem dX2_madeOver_18 : decode cX2_madeOver 18 = .ok (.if_icmp .le 11, 3) := by decide +kernel
theorem dX2_madeOver_21 : decode cX2_madeOver 21 = .ok (.iload_n 0, 1) := by decide +kernel
theorem dX2_madeOver_22 : decode cX2_madeOver 22 = .ok (.iload_n 2, 1) := by decide +kernel
theorem dX2_madeOver_23 : decode cX2_madeOver 23 = .ok (.isub, 1) := by decide +kernel
theorem dX2_madeOver_24 : decode cX2_madeOver 24 = .ok (.iconst 1, 1) := by decide +kernel
theorem dX2_madeOver_25 : decode cX2_madeOver 25 = .ok (.iadd, 1) := by decide +kernel
theorem dX2_madeOver_26 : decode cX2_madeOver 26 = .ok (.goto 4, 3) := by decide +kernel
theorem dX2_madeOver_29 : decode cX2_madeOver 29 = .ok (.iload_n 0, 1) := by decide +kernel
theorem dX2_madeOver_30 : decode cX2_madeOver 30 = .ok (.ireturn, 1) := by decide +kernel
theorem dX2_number_0 : decode cX2_number 0 = .ok (.iload_n 0, 1) := by decide +kernel
theorem dX2_number_1 : decode cX2_number 1 = .ok (.iconst 4, 1) := by decide +kernel
theorem dX2_number_2 : decode cX2_number 2 = .ok (.idiv, 1) := by decide +kernel
theorem dX2_number_3 : decode cX2_number 3 = .ok (.istore_n 3, 1) := by decide +kernel
theorem dX2_number_4 : decode cX2_number 4 = .ok (.iload_n 0, 1) := by decide +kernel
theorem dX2_number_5 : decode cX2_number 5 = .ok (.iconst 4, 1) := by decide +kernel
theorem dX2_number_6 : decode cX2_number 6 = .ok (.irem, 1) := by decide +kernel
theorem dX2_number_7 : decode cX2_number 7 = .ok (.istore 4, 2) := by decide +kernel
theorem dX2_number_9 : decode cX2_number 9 = .ok (.iload_n 1, 1) := by decide +kernel
theorem dX2_number_10 : decode cX2_number 10 = .ok (.iconst 1, 1) := by decide +kernel
theorem dX2_number_11 : decode cX2_number 11 = .ok (.if_icmp .ne 14, 3) := by decide +kernel
theorem dX2_number_14 : decode cX2_number 14 = .ok (.iload_n 2, 1) := by decide +kernel
theorem dX2_number_15 : decode cX2_number 15 = .ok (.ifCond .ne 7, 3) := by decide +kernel
theorem dX2_number_18 : decode cX2_number 18 = .ok (.iload_n 3, 1) := by decide +kernel
theorem dX2_number_19 : decode cX2_number 19 = .ok (.goto 5, 3) := by decide +kernel
theorem dX2_number_22 : decode cX2_number 22 = .ok (.iload 4, 2) := by decide +kernel
theorem dX2_number_24 : decode cX2_number 24 = .ok (.ireturn, 1) := by decide +kernel
theorem dX2_number_25 : decode cX2_number 25 = .ok (.iload_n 2, 1) := by decide +kernel
theorem dX2_number_26 : decode cX2_number 26 = .ok (.iconst 2, 1) := by decide +kernel
theorem dX2_number_27 : decode cX2_number 27 = .ok (.if_icmp .ne 6, 3) := by decide +kernel
theorem dX2_number_30 : decode cX2_number 30 = .ok (.iload 4, 2) := by decide +kernel
theorem dX2_number_32 : decode cX2_number 32 = .ok (.ireturn, 1) := by decide +kernel
theorem dX2_number_33 : decode cX2_number 33 = .ok (.iload_n 2, 1) := by decide +kernel
theorem dX2_number_34 : decode cX2_number 34 = .ok (.ifCond .ne 10, 3) := by decide +kernel
theorem dX2_number_37 : decode cX2_number 37 = .ok (.iload_n 3, 1) := by decide +kernel
theorem dX2_number_38 : decode cX2_number 38 = .ok (.bipush 10, 2) := by decide +kernel
theorem dX2_number_40 : decode cX2_number 40 = .ok (.idiv, 1) := by decide +kernel
theorem dX2_number_41 : decode cX2_number 41 = .ok (.goto 7, 3) := by decide +kernel
theorem dX2_number_44 : decode cX2_number 44 = .ok (.iload_n 3, 1) := by decide +kernel
theorem dX2_number_45 : decode cX2_number 45 = .ok (.bipush 10, 2) := by decide +kernel
theorem dX2_number_47 : decode cX2_number 47 = .ok (.irem, 1) := by decide +kernel
theorem dX2_number_48 : decode cX2_number 48 = .ok (.ireturn, 1) := by decide +kernel
theorem dX3_init_0 : decode cX3_init 0 = .ok (.aload_n 0, 1) := by decide +kernel
theorem dX3_init_1 : decode cX3_init 1 = .ok (.invokespecial 3, 3) := by decide +kernel
theorem dX3_init_4 : decode cX3_init 4 = .ok (.aload_n 0, 1) := by decide +kernel
theorem dX3_init_5 : decode cX3_init 5 = .ok (.bipush 31, 2) := by decide +kernel
theorem dX3_init_7 : decode cX3_init 7 = .ok (.newarray .int, 2) := by decide +kernel
theorem dX3_init_9 : decode cX3_init 9 = .ok (.putfield 9, 3) := by decide +kernel
theorem dX3_init_12 : decode cX3_init 12 = .ok (.aload_n 0, 1) := by decide +kernel
theorem dX3_init_13 : decode cX3_init 13 = .ok (.bipush 31, 2) := by decide +kernel
theorem dX3_init_15 : decode cX3_init 15 = .ok (.newarray .int, 2) := by decide +kernel
theorem dX3_init_17 : decode cX3_init 17 = .ok (.putfield 15, 3) := by decide +kernel
theorem dX3_init_20 : decode cX3_init 20 = .ok (.aload_n 0, 1) := by decide +kernel
theorem dX3_init_21 : decode cX3_init 21 = .ok (.iload_n 1, 1) := by decide +kernel
theorem dX3_init_22 : decode cX3_init 22 = .ok (.putfield 18, 3) := by decide +kernel
theorem dX3_init_25 : decode cX3_init 25 = .ok (.aload_n 0, 1) := by decide +kernel
theorem dX3_init_26 : decode cX3_init 26 = .ok (.invokevirtual 22, 3) := by decide +kernel
theorem dX3_init_29 : decode cX3_init 29 = .ok (.return_, 1) := by decide +kernel
theorem dX3_clear_0 : decode cX3_clear 0 = .ok (.iconst 0, 1) := by decide +kernel
theorem dX3_clear_1 : decode cX3_clear 1 = .ok (.istore_n 1, 1) := by decide +kernel
theorem dX3_clear_2 : decode cX3_clear 2 = .ok (.iload_n 1, 1) := by decide +kernel
theorem dX3_clear_3 : decode cX3_clear 3 = .ok (.bipush 31, 2) := by decide +kernel
theorem dX3_clear_5 : decode cX3_clear 5 = .ok (.if_icmp .ge 23, 3) := by decide +kernel
theorem dX3_clear_8 : decode cX3_clear 8 = .ok (.aload_n 0, 1) := by decide +kernel
theorem dX3_clear_9 : decode cX3_clear 9 = .ok (.getfield 9, 3) := by decide +kernel
theorem dX3_clear_12 : decode cX3_clear 12 = .ok (.iload_n 1, 1) := by decide +kernel
theorem dX3_clear_13 : decode cX3_clear 13 = .ok (.iconst 0, 1) := by decide +kernel
theorem dX3_clear_14 : decode cX3_clear 14 = .ok (.iastore, 1) := by decide +kernel
theorem dX3_clear_15 : decode cX3_clear 15 = .ok (.aload_n 0, 1) := by decide +kernel
theorem dX3_clear_16 : decode cX3_clear 16 = .ok (.getfield 15, 3) := by decide +kernel
theorem dX3_clear_19 : decode cX3_clear 19 = .ok (.iload_n 1, 1) := by decide +kernel
theorem dX3_clear_20 : decode cX3_clear 20 = .ok (.iconst (-1), 1) := by decide +kernel
theorem dX3_clear_21 : decode cX3_clear 21 = .ok (.iastore, 1) := by decide +kernel
theorem dX3_clear_22 : decode cX3_clear 22 = .ok (.iinc 1 1, 3) := by decide +kernel
theorem dX3_clear_25 : decode cX3_clear 25 = .ok (.goto (-23), 3) := by decide +kernel
theorem dX3_clear_28 : decode cX3_clear 28 = .ok (.return_, 1) := by decide +kernel
theorem dX3_copyFrom_0 : decode cX3_copyFrom 0 = .ok (.aload_n 1, 1) := by decide +kernel
theorem dX3_copyFrom_1 : decode cX3_copyFrom 1 = .ok (.getfield 9, 3) := by decide +kernel
theorem dX3_copyFrom_4 : decode cX3_copyFrom 4 = .ok (.iconst 0, 1) := by decide +kernel
theorem dX3_copyFrom_5 : decode cX3_copyFrom 5 = .ok (.aload_n 0, 1) := by decide +kernel
theorem dX3_copyFrom_6 : decode cX3_copyFrom 6 = .ok (.getfield 9, 3) := by decide +kernel
theorem dX3_copyFrom_9 : decode cX3_copyFrom 9 = .ok (.iconst 0, 1) := by decide +kernel
theorem dX3_copyFrom_10 : decode cX3_copyFrom 10 = .ok (.bipush 31, 2) := by decide +kernel
theorem dX3_copyFrom_12 : decode cX3_copyFrom 12 = .ok (.invokestatic 25, 3) := by decide +kernel
theorem dX3_copyFrom_15 : decode cX3_copyFrom 15 = .ok (.aload_n 1, 1) := by decide +kernel
theorem dX3_copyFrom_16 : decode cX3_copyFrom 16 = .ok (.getfield 15, 3) := by decide +kernel
theorem dX3_copyFrom_19 : decode cX3_copyFrom 19 = .ok (.iconst 0, 1) := by decide +kernel
theorem dX3_copyFrom_20 : decode cX3_copyFrom 20 = .ok (.aload_n 0, 1) := by decide +kernel
theorem dX3_copyFrom_21 : decode cX3_copyFrom 21 = .ok (.getfield 15, 3) := by decide +kernel
theorem dX3_copyFrom_24 : decode cX3_copyFrom 24 = .ok (.iconst 0, 1) := by decide +kernel
theorem dX3_copyFrom_25 : decode cX3_copyFrom 25 = .ok (.bipush 31, 2) := by decide +kernel
theorem dX3_copyFrom_27 : decode cX3_copyFrom 27 = .ok (.invokestatic 25, 3) := by decide +kernel
theorem dX3_copyFrom_30 : decode cX3_copyFrom 30 = .ok (.return_, 1) := by decide +kernel
theorem dX3_take_0 : decode cX3_take 0 = .ok (.iload_n 2, 1) := by decide +kernel
theorem dX3_take_1 : decode cX3_take 1 = .ok (.aload_n 0, 1) := by decide +kernel
theorem dX3_take_2 : decode cX3_take 2 = .ok (.getfield 9, 3) := by decide +kernel
theorem dX3_take_5 : decode cX3_take 5 = .ok (.iload_n 1, 1) := by decide +kernel
theorem dX3_take_6 : decode cX3_take 6 = .ok (.iaload, 1) := by decide +kernel
theorem dX3_take_7 : decode cX3_take 7 = .ok (.if_icmp .lt 24, 3) := by decide +kernel
theorem dX3_take_10 : decode cX3_take 10 = .ok (.aload_n 0, 1) := by decide +kernel
theorem dX3_take_11 : decode cX3_take 11 = .ok (.getfield 9, 3) := by decide +kernel
theorem dX3_take_14 : decode cX3_take 14 = .ok (.iload_n 1, 1) := by decide +kernel
theorem dX3_take_15 : decode cX3_take 15 = .ok (.iload_n 2, 1) := by decide +kernel
theorem dX3_take_16 : decode cX3_take 16 = .ok (.iastore, 1) := by decide +kernel
theorem dX3_take_17 : decode cX3_take 17 = .ok (.aload_n 0, 1) := by decide +kernel
theorem dX3_take_18 : decode cX3_take 18 = .ok (.getfield 15, 3) := by decide +kernel
theorem dX3_take_21 : decode cX3_take 21 = .ok (.iload_n 1, 1) := by decide +kernel
theorem dX3_take_22 : decode cX3_take 22 = .ok (.iload_n 3, 1) := by decide +kernel
theorem dX3_take_23 : decode cX3_take 23 = .ok (.aload_n 0, 1) := by decide +kernel
theorem dX3_take_24 : decode cX3_take 24 = .ok (.getfield 18, 3) := by decide +kernel
theorem dX3_take_27 : decode cX3_take 27 = .ok (.invokestatic 31, 3) := by decide +kernel
theorem dX3_take_30 : decode cX3_take 30 = .ok (.iastore, 1) := by decide +kernel
theorem dX3_take_31 : decode cX3_take 31 = .ok (.return_, 1) := by decide +kernel
theorem dX3_takeFrom_0 : decode cX3_takeFrom 0 = .ok (.aload_n 0, 1) := by decide +kernel
theorem dX3_takeFrom_1 : decode cX3_takeFrom 1 = .ok (.iload_n 2, 1) := by decide +kernel
theorem dX3_takeFrom_2 : decode cX3_takeFrom 2 = .ok (.aload_n 1, 1) := by decide +kernel
theorem dX3_takeFrom_3 : decode cX3_takeFrom 3 = .ok (.getfield 9, 3) := by decide +kernel
theorem dX3_takeFrom_6 : decode cX3_takeFrom 6 = .ok (.iload_n 2, 1) := by decide +kernel
theorem dX3_takeFrom_7 : decode cX3_takeFrom 7 = .ok (.iaload, 1) := by decide +kernel
theorem dX3_takeFrom_8 : decode cX3_takeFrom 8 = .ok (.aload_n 1, 1) := by decide +kernel
theorem dX3_takeFrom_9 : decode cX3_takeFrom 9 = .ok (.getfield 15, 3) := by decide +kernel
theorem dX3_takeFrom_12 : decode cX3_takeFrom 12 = .ok (.iload_n 2, 1) := by decide +kernel
theorem dX3_takeFrom_13 : decode cX3_takeFrom 13 = .ok (.iaload, 1) := by decide +kernel
theorem dX3_takeFrom_14 : decode cX3_takeFrom 14 = .ok (.invokevirtual 37, 3) := by decide +kernel
theorem dX3_takeFrom_17 : decode cX3_takeFrom 17 = .ok (.return_, 1) := by decide +kernel
theorem dX3_rows_0 : decode cX3_rows 0 = .ok (.iconst 0, 1) := by decide +kernel
theorem dX3_rows_1 : decode cX3_rows 1 = .ok (.istore_n 1, 1) := by decide +kernel
theorem dX3_rows_2 : decode cX3_rows 2 = .ok (.iconst 0, 1) := by decide +kernel
theorem dX3_rows_3 : decode cX3_rows 3 = .ok (.istore_n 2, 1) := by decide +kernel
theorem dX3_rows_4 : decode cX3_rows 4 = .ok (.iload_n 2, 1) := by decide +kernel
theorem dX3_rows_5 : decode cX3_rows 5 = .ok (.bipush 31, 2) := by decide +kernel
theorem dX3_rows_7 : decode cX3_rows 7 = .ok (.if_icmp .ge 27, 3) := by decide +kernel
theorem dX3_rows_10 : decode cX3_rows 10 = .ok (.iload_n 1, 1) := by decide +kernel
theorem dX3_rows_11 : decode cX3_rows 11 = .ok (.aload_n 0, 1) := by decide +kernel
theorem dX3_rows_12 : decode cX3_rows 12 = .ok (.getfield 15, 3) := by decide +kernel
theorem dX3_rows_15 : decode cX3_rows 15 = .ok (.iload_n 2, 1) := by decide +kernel
theorem dX3_rows_16 : decode cX3_rows 16 = .ok (.iaload, 1) := by decide +kernel
theorem dX3_rows_17 : decode cX3_rows 17 = .ok (.iconst (-1), 1) := by decide +kernel
theorem dX3_rows_18 : decode cX3_rows 18 = .ok (.if_icmp .ne 7, 3) := by decide +kernel
theorem dX3_rows_21 : decode cX3_rows 21 = .ok (.iconst 0, 1) := by decide +kernel
theorem dX3_rows_22 : decode cX3_rows 22 = .ok (.goto 4, 3) := by decide +kernel
theorem dX3_rows_25 : decode cX3_rows 25 = .ok (.iconst 1, 1) := by decide +kernel
theorem dX3_rows_26 : decode cX3_rows 26 = .ok (.iadd, 1) := by decide +kernel
theorem dX3_rows_27 : decode cX3_rows 27 = .ok (.istore_n 1, 1) := by decide +kernel
theorem dX3_rows_28 : decode cX3_rows 28 = .ok (.iinc 2 1, 3) := by decide +kernel
theorem dX3_rows_31 : decode cX3_rows 31 = .ok (.goto (-27), 3) := by decide +kernel
theorem dX3_rows_34 : decode cX3_rows 34 = .ok (.iload_n 1, 1) := by decide +kernel
theorem dX3_rows_35 : decode cX3_rows 35 = .ok (.ireturn, 1) := by decide +kernel
theorem dX3_strangeRows_0 : decode cX3_strangeRows 0 = .ok (.iconst 0, 1) := by decide +kernel
theorem dX3_strangeRows_1 : decode cX3_strangeRows 1 = .ok (.istore_n 1, 1) := by decide +kernel
theorem dX3_strangeRows_2 : decode cX3_strangeRows 2 = .ok (.iconst 0, 1) := by decide +kernel
theorem dX3_strangeRows_3 : decode cX3_strangeRows 3 = .ok (.istore_n 2, 1) := by decide +kernel
theorem dX3_strangeRows_4 : decode cX3_strangeRows 4 = .ok (.iload_n 2, 1) := by decide +kernel
theorem dX3_strangeRows_5 : decode cX3_strangeRows 5 = .ok (.bipush 31, 2) := by decide +kernel
theorem dX3_strangeRows_7 : decode cX3_strangeRows 7 = .ok (.if_icmp .ge 29, 3) := by decide +kernel
theorem dX3_strangeRows_10 : decode cX3_strangeRows 10 = .ok (.iload_n 1, 1) := by decide +kernel
theorem dX3_strangeRows_11 : decode cX3_strangeRows 11 = .ok (.aload_n 0, 1) := by decide +kernel
theorem dX3_strangeRows_12 : decode cX3_strangeRows 12 = .ok (.getfield 15, 3) := by decide +kernel
theorem dX3_strangeRows_15 : decode cX3_strangeRows 15 = .ok (.iload_n 2, 1) := by decide +kernel
theorem dX3_strangeRows_16 : decode cX3_strangeRows 16 = .ok (.iaload, 1) := by decide +kernel
theorem dX3_strangeRows_17 : decode cX3_strangeRows 17 = .ok (.invokestatic 41, 3) := by decide +kernel
theorem dX3_strangeRows_20 : decode cX3_strangeRows 20 = .ok (.ifCond .eq 7, 3) := by decide +kernel
theorem dX3_strangeRows_23 : decode cX3_strangeRows 23 = .ok (.iconst 1, 1) := by decide +kernel
theorem dX3_strangeRows_24 : decode cX3_strangeRows 24 = .ok (.goto 4, 3) := by decide +kernel
theorem dX3_strangeRows_27 : decode cX3_strangeRows 27 = .ok (.iconst 0, 1) := by decide +kernel
theorem dX3_strangeRows_28 : decode cX3_strangeRows 28 = .ok (.iadd, 1) := by decide +kernel
theorem dX3_strangeRows_29 : decode cX3_strangeRows 29 = .ok (.istore_n 1, 1) := by decide +kernel
theorem dX3_strangeRows_30 : decode cX3_strangeRows 30 = .ok (.iinc 2 1, 3) := by decide +kernel
theorem dX3_strangeRows_33 : decode cX3_strangeRows 33 = .ok (.goto (-29), 3) := by decide +kernel
theorem dX3_strangeRows_36 : decode cX3_strangeRows 36 = .ok (.iload_n 1, 1) := by decide +kernel
theorem dX3_strangeRows_37 : decode cX3_strangeRows 37 = .ok (.ireturn, 1) := by decide +kernel
theorem dX3_known_0 : decode cX3_known 0 = .ok (.iconst 0, 1) := by decide +kernel
theorem dX3_known_1 : decode cX3_known 1 = .ok (.istore_n 1, 1) := by decide +kernel
theorem dX3_known_2 : decode cX3_known 2 = .ok (.iconst 0, 1) := by decide +kernel
theorem dX3_known_3 : decode cX3_known 3 = .ok (.istore_n 2, 1) := by decide +kernel
theorem dX3_known_4 : decode cX3_known 4 = .ok (.iload_n 2, 1) := by decide +kernel
theorem dX3_known_5 : decode cX3_known 5 = .ok (.bipush 31, 2) := by decide +kernel
theorem dX3_known_7 : decode cX3_known 7 = .ok (.if_icmp .ge 26, 3) := by decide +kernel
theorem dX3_known_10 : decode cX3_known 10 = .ok (.iload_n 1, 1) := by decide +kernel
theorem dX3_known_11 : decode cX3_known 11 = .ok (.aload_n 0, 1) := by decide +kernel
theorem dX3_known_12 : decode cX3_known 12 = .ok (.getfield 9, 3) := by decide +kernel
theorem dX3_known_15 : decode cX3_known 15 = .ok (.iload_n 2, 1) := by decide +kernel
theorem dX3_known_16 : decode cX3_known 16 = .ok (.iaload, 1) := by decide +kernel
theorem dX3_known_17 : decode cX3_known 17 = .ok (.ifCond .ne 7, 3) := by decide +kernel
theorem dX3_known_20 : decode cX3_known 20 = .ok (.iconst 0, 1) := by decide +kernel
theorem dX3_known_21 : decode cX3_known 21 = .ok (.goto 4, 3) := by decide +kernel
theorem dX3_known_24 : decode cX3_known 24 = .ok (.iconst 1, 1) := by decide +kernel
theorem dX3_known_25 : decode cX3_known 25 = .ok (.iadd, 1) := by decide +kernel
theorem dX3_known_26 : decode cX3_known 26 = .ok (.istore_n 1, 1) := by decide +kernel
theorem dX3_known_27 : decode cX3_known 27 = .ok (.iinc 2 1, 3) := by decide +kernel
theorem dX3_known_30 : decode cX3_known 30 = .ok (.goto (-26), 3) := by decide +kernel
theorem dX3_known_33 : decode cX3_known 33 = .ok (.iload_n 1, 1) := by decide +kernel
theorem dX3_known_34 : decode cX3_known 34 = .ok (.ireturn, 1) := by decide +kernel
theorem dX4_init_0 : decode cX4_init 0 = .ok (.aload_n 0, 1) := by decide +kernel
theorem dX4_init_1 : decode cX4_init 1 = .ok (.invokespecial 3, 3) := by decide +kernel
theorem dX4_init_4 : decode cX4_init 4 = .ok (.aload_n 0, 1) := by decide +kernel
theorem dX4_init_5 : decode cX4_init 5 = .ok (.new 9, 3) := by decide +kernel
theorem dX4_init_8 : decode cX4_init 8 = .ok (.dup, 1) := by decide +kernel
theorem dX4_init_9 : decode cX4_init 9 = .ok (.iconst 0, 1) := by decide +kernel
theorem dX4_init_10 : decode cX4_init 10 = .ok (.invokespecial 11, 3) := by decide +kernel
theorem dX4_init_13 : decode cX4_init 13 = .ok (.putfield 14, 3) := by decide +kernel
theorem dX4_init_16 : decode cX4_init 16 = .ok (.aload_n 0, 1) := by decide +kernel
theorem dX4_init_17 : decode cX4_init 17 = .ok (.new 9, 3) := by decide +kernel
theorem dX4_init_20 : decode cX4_init 20 = .ok (.dup, 1) := by decide +kernel
theorem dX4_init_21 : decode cX4_init 21 = .ok (.iconst 1, 1) := by decide +kernel
theorem dX4_init_22 : decode cX4_init 22 = .ok (.invokespecial 11, 3) := by decide +kernel
theorem dX4_init_25 : decode cX4_init 25 = .ok (.putfield 20, 3) := by decide +kernel
theorem dX4_init_28 : decode cX4_init 28 = .ok (.aload_n 0, 1) := by decide +kernel
theorem dX4_init_29 : decode cX4_init 29 = .ok (.new 23, 3) := by decide +kernel
theorem dX4_init_32 : decode cX4_init 32 = .ok (.dup, 1) := by decide +kernel
theorem dX4_init_33 : decode cX4_init 33 = .ok (.invokespecial 25, 3) := by decide +kernel
theorem dX4_init_36 : decode cX4_init 36 = .ok (.putfield 26, 3) := by decide +kernel
theorem dX4_init_39 : decode cX4_init 39 = .ok (.aload_n 0, 1) := by decide +kernel
theorem dX4_init_40 : decode cX4_init 40 = .ok (.bipush 31, 2) := by decide +kernel
theorem dX4_init_42 : decode cX4_init 42 = .ok (.newarray .int, 2) := by decide +kernel
theorem dX4_init_44 : decode cX4_init 44 = .ok (.putfield 30, 3) := by decide +kernel
theorem dX4_init_47 : decode cX4_init 47 = .ok (.aload_n 0, 1) := by decide +kernel
theorem dX4_init_48 : decode cX4_init 48 = .ok (.iconst 3, 1) := by decide +kernel
theorem dX4_init_49 : decode cX4_init 49 = .ok (.newarray .int, 2) := by decide +kernel
theorem dX4_init_51 : decode cX4_init 51 = .ok (.putfield 34, 3) := by decide +kernel
theorem dX4_init_54 : decode cX4_init 54 = .ok (.aload_n 0, 1) := by decide +kernel
theorem dX4_init_55 : decode cX4_init 55 = .ok (.iconst 3, 1) := by decide +kernel
theorem dX4_init_56 : decode cX4_init 56 = .ok (.newarray .int, 2) := by decide +kernel
theorem dX4_init_58 : decode cX4_init 58 = .ok (.putfield 37, 3) := by decide +kernel
theorem dX4_init_61 : decode cX4_init 61 = .ok (.return_, 1) := by decide +kernel
theorem dX4_copyFrom_0 : decode cX4_copyFrom 0 = .ok (.aload_n 0, 1) := by decide +kernel
theorem dX4_copyFrom_1 : decode cX4_copyFrom 1 = .ok (.aload_n 1, 1) := by decide +kernel
theorem dX4_copyFrom_2 : decode cX4_copyFrom 2 = .ok (.getfield 40, 3) := by decide +kernel
theorem dX4_copyFrom_5 : decode cX4_copyFrom 5 = .ok (.putfield 40, 3) := by decide +kernel
theorem dX4_copyFrom_8 : decode cX4_copyFrom 8 = .ok (.aload_n 0, 1) := by decide +kernel
theorem dX4_copyFrom_9 : decode cX4_copyFrom 9 = .ok (.aload_n 1, 1) := by decide +kernel
theorem dX4_copyFrom_10 : decode cX4_copyFrom 10 = .ok (.getfield 44, 3) := by decide +kernel
theorem dX4_copyFrom_13 : decode cX4_copyFrom 13 = .ok (.putfield 44, 3) := by decide +kernel
theorem dX4_copyFrom_16 : decode cX4_copyFrom 16 = .ok (.aload_n 0, 1) := by decide +kernel
theorem dX4_copyFrom_17 : decode cX4_copyFrom 17 = .ok (.aload_n 1, 1) := by decide +kernel
theorem dX4_copyFrom_18 : decode cX4_copyFrom 18 = .ok (.getfield 47, 3) := by decide +kernel
theorem dX4_copyFrom_21 : decode cX4_copyFrom 21 = .ok (.putfield 47, 3) := by decide +kernel
theorem dX4_copyFrom_24 : decode cX4_copyFrom 24 = .ok (.aload_n 0, 1) := by decide +kernel
theorem dX4_copyFrom_25 : decode cX4_copyFrom 25 = .ok (.aload_n 1, 1) := by decide +kernel
theorem dX4_copyFrom_26 : decode cX4_copyFrom 26 = .ok (.getfield 50, 3) := by decide +kernel
theorem dX4_copyFrom_29 : decode cX4_copyFrom 29 = .ok (.putfield 50, 3) := by decide +kernel
theorem dX4_copyFrom_32 : decode cX4_copyFrom 32 = .ok (.aload_n 0, 1) := by decide +kernel
theorem dX4_copyFrom_33 : decode cX4_copyFrom 33 = .ok (.getfield 14, 3) := by decide +kernel
theorem dX4_copyFrom_36 : decode cX4_copyFrom 36 = .ok (.aload_n 1, 1) := by decide +kernel
theorem dX4_copyFrom_37 : decode cX4_copyFrom 37 = .ok (.getfield 14, 3) := by decide +kernel
theorem dX4_copyFrom_40 : decode cX4_copyFrom 40 = .ok (.invokevirtual 53, 3) := by decide +kernel
theorem dX4_copyFrom_43 : decode cX4_copyFrom 43 = .ok (.aload_n 0, 1) := by decide +kernel
theorem dX4_copyFrom_44 : decode cX4_copyFrom 44 = .ok (.getfield 20, 3) := by decide +kernel
theorem dX4_copyFrom_47 : decode cX4_copyFrom 47 = .ok (.aload_n 1, 1) := by decide +kernel
theorem dX4_copyFrom_48 : decode cX4_copyFrom 48 = .ok (.getfield 20, 3) := by decide +kernel
theorem dX4_copyFrom_51 : decode cX4_copyFrom 51 = .ok (.invokevirtual 53, 3) := by decide +kernel
theorem dX4_copyFrom_54 : decode cX4_copyFrom 54 = .ok (.aload_n 0, 1) := by decide +kernel
theorem dX4_copyFrom_55 : decode cX4_copyFrom 55 = .ok (.getfield 26, 3) := by decide +kernel
theorem dX4_copyFrom_58 : decode cX4_copyFrom 58 = .ok (.aload_n 1, 1) := by decide +kernel
theorem dX4_copyFrom_59 : decode cX4_copyFrom 59 = .ok (.getfield 26, 3) := by decide +kernel
theorem dX4_copyFrom_62 : decode cX4_copyFrom 62 = .ok (.invokevirtual 57, 3) := by decide +kernel
theorem dX4_copyFrom_65 : decode cX4_copyFrom 65 = .ok (.aload_n 1, 1) := by decide +kernel
theorem dX4_copyFrom_66 : decode cX4_copyFrom 66 = .ok (.getfield 30, 3) := by decide +kernel
theorem dX4_copyFrom_69 : decode cX4_copyFrom 69 = .ok (.iconst 0, 1) := by decide +kernel
theorem dX4_copyFrom_70 : decode cX4_copyFrom 70 = .ok (.aload_n 0, 1) := by decide +kernel
theorem dX4_copyFrom_71 : decode cX4_copyFrom 71 = .ok (.getfield 30, 3) := by decide +kernel
theorem dX4_copyFrom_74 : decode cX4_copyFrom 74 = .ok (.iconst 0, 1) := by decide +kernel
theorem dX4_copyFrom_75 : decode cX4_copyFrom 75 = .ok (.bipush 31, 2) := by decide +kernel
theorem dX4_copyFrom_77 : decode cX4_copyFrom 77 = .ok (.invokestatic 60, 3) := by decide +kernel
theorem dX4_copyFrom_80 : decode cX4_copyFrom 80 = .ok (.aload_n 0, 1) := by decide +kernel
theorem dX4_copyFrom_81 : decode cX4_copyFrom 81 = .ok (.aload_n 1, 1) := by decide +kernel
theorem dX4_copyFrom_82 : decode cX4_copyFrom 82 = .ok (.getfield 66, 3) := by decide +kernel
theorem dX4_copyFrom_85 : decode cX4_copyFrom 85 = .ok (.putfield 66, 3) := by decide +kernel
theorem dX4_copyFrom_88 : decode cX4_copyFrom 88 = .ok (.aload_n 1, 1) := by decide +kernel
theorem dX4_copyFrom_89 : decode cX4_copyFrom 89 = .ok (.getfield 34, 3) := by decide +kernel
theorem dX4_copyFrom_92 : decode cX4_copyFrom 92 = .ok (.iconst 0, 1) := by decide +kernel
theorem dX4_copyFrom_93 : decode cX4_copyFrom 93 = .ok (.aload_n 0, 1) := by decide +kernel
theorem dX4_copyFrom_94 : decode cX4_copyFrom 94 = .ok (.getfield 34, 3) := by decide +kernel
theorem dX4_copyFrom_97 : decode cX4_copyFrom 97 = .ok (.iconst 0, 1) := by decide +kernel
theorem dX4_copyFrom_98 : decode cX4_copyFrom 98 = .ok (.iconst 3, 1) := by decide +kernel
theorem dX4_copyFrom_99 : decode cX4_copyFrom 99 = .ok (.invokestatic 60, 3) := by decide +kernel
theorem dX4_copyFrom_102 : decode cX4_copyFrom 102 = .ok (.aload_n 1, 1) := by decide +kernel
theorem dX4_copyFrom_103 : decode cX4_copyFrom 103 = .ok (.getfield 37, 3) := by decide +kernel
theorem dX4_copyFrom_106 : decode cX4_copyFrom 106 = .ok (.iconst 0, 1) := by decide +kernel
theorem dX4_copyFrom_107 : decode cX4_copyFrom 107 = .ok (.aload_n 0, 1) := by decide +kernel
theorem dX4_copyFrom_108 : decode cX4_copyFrom 108 = .ok (.getfield 37, 3) := by decide +kernel
theorem dX4_copyFrom_111 : decode cX4_copyFrom 111 = .ok (.iconst 0, 1) := by decide +kernel
theorem dX4_copyFrom_112 : decode cX4_copyFrom 112 = .ok (.iconst 3, 1) := by decide +kernel
theorem dX4_copyFrom_113 : decode cX4_copyFrom 113 = .ok (.invokestatic 60, 3) := by decide +kernel
theorem dX4_copyFrom_116 : decode cX4_copyFrom 116 = .ok (.return_, 1) := by decide +kernel
theorem dX4_hasBoth_0 : decode cX4_hasBoth 0 = .ok (.aload_n 0, 1) := by decide +kernel
theorem dX4_hasBoth_1 : decode cX4_hasBoth 1 = .ok (.getfield 40, 3) := by decide +kernel
theorem dX4_hasBoth_4 : decode cX4_hasBoth 4 = .ok (.iconst 1, 1) := by decide +kernel
theorem dX4_hasBoth_5 : decode cX4_hasBoth 5 = .ok (.if_icmp .eq 11, 3) := by decide +kernel
theorem dX4_hasBoth_8 : decode cX4_hasBoth 8 = .ok (.aload_n 0, 1) := by decide +kernel
theorem dX4_hasBoth_9 : decode cX4_hasBoth 9 = .ok (.getfield 40, 3) := by decide +kernel
theorem dX4_hasBoth_12 : decode cX4_hasBoth 12 = .ok (.iconst 2, 1) := by decide +kernel
theorem dX4_hasBoth_13 : decode cX4_hasBoth 13 = .ok (.if_icmp .ne 7, 3) := by decide +kernel
theorem dX4_hasBoth_16 : decode cX4_hasBoth 16 = .ok (.iconst 1, 1) := by decide +kernel
theorem dX4_hasBoth_17 : decode cX4_hasBoth 17 = .ok (.goto 4, 3) := by decide +kernel
theorem dX4_hasBoth_20 : decode cX4_hasBoth 20 = .ok (.iconst 0, 1) := by decide +kernel
theorem dX4_hasBoth_21 : decode cX4_hasBoth 21 = .ok (.ireturn, 1) := by decide +kernel
theorem dX4_isThere_0 : decode cX4_isThere 0 = .ok (.iload_n 1, 1) := by decide +kernel
theorem dX4_isThere_1 : decode cX4_isThere 1 = .ok (.ifCond .ne 19, 3) := by decide +kernel
theorem dX4_isThere_4 : decode cX4_isThere 4 = .ok (.aload_n 0, 1) := by decide +kernel
theorem dX4_isThere_5 : decode cX4_isThere 5 = .ok (.getfield 40, 3) := by decide +kernel
theorem dX4_isThere_8 : decode cX4_isThere 8 = .ok (.iconst 3, 1) := by decide +kernel
theorem dX4_isThere_9 : decode cX4_isThere 9 = .ok (.if_icmp .eq 7, 3) := by decide +kernel
theorem dX4_isThere_12 : decode cX4_isThere 12 = .ok (.iconst 1, 1) := by decide +kernel
theorem dX4_isThere_13 : decode cX4_isThere 13 = .ok (.goto 19, 3) := by decide +kernel
theorem dX4_isThere_16 : decode cX4_isThere 16 = .ok (.iconst 0, 1) := by decide +kernel
theorem dX4_isThere_17 : decode cX4_isThere 17 = .ok (.goto 15, 3) := by decide +kernel
theorem dX4_isThere_20 : decode cX4_isThere 20 = .ok (.aload_n 0, 1) := by decide +kernel
theorem dX4_isThere_21 : decode cX4_isThere 21 = .ok (.getfield 40, 3) := by decide +kernel
theorem dX4_isThere_24 : decode cX4_isThere 24 = .ok (.ifCond .eq 7, 3) := by decide +kernel
theorem dX4_isThere_27 : decode cX4_isThere 27 = .ok (.iconst 1, 1) := by decide +kernel
theorem dX4_isThere_28 : decode cX4_isThere 28 = .ok (.goto 4, 3) := by decide +kernel
theorem dX4_isThere_31 : decode cX4_isThere 31 = .ok (.iconst 0, 1) := by decide +kernel
theorem dX4_isThere_32 : decode cX4_isThere 32 = .ok (.ireturn, 1) := by decide +kernel
theorem dX4_first_0 : decode cX4_first 0 = .ok (.aload_n 0, 1) := by decide +kernel
theorem dX4_first_1 : decode cX4_first 1 = .ok (.getfield 40, 3) := by decide +kernel
theorem dX4_first_4 : decode cX4_first 4 = .ok (.ifCond .eq 11, 3) := by decide +kernel
theorem dX4_first_7 : decode cX4_first 7 = .ok (.aload_n 0, 1) := by decide +kernel
theorem dX4_first_8 : decode cX4_first 8 = .ok (.getfield 40, 3) := by decide +kernel
theorem dX4_first_11 : decode cX4_first 11 = .ok (.iconst 1, 1) := by decide +kernel
theorem dX4_first_12 : decode cX4_first 12 = .ok (.if_icmp .ne 7, 3) := by decide +kernel
theorem dX4_first_15 : decode cX4_first 15 = .ok (.iconst 0, 1) := by decide +kernel
theorem dX4_first_16 : decode cX4_first 16 = .ok (.goto 4, 3) := by decide +kernel
theorem dX4_first_19 : decode cX4_first 19 = .ok (.iconst 1, 1) := by decide +kernel
theorem dX4_first_20 : decode cX4_first 20 = .ok (.ireturn, 1) := by decide +kernel
theorem dX4_second_0 : decode cX4_second 0 = .ok (.aload_n 0, 1) := by decide +kernel
theorem dX4_second_1 : decode cX4_second 1 = .ok (.aload_n 0, 1) := by decide +kernel
theorem dX4_second_2 : decode cX4_second 2 = .ok (.invokevirtual 69, 3) := by decide +kernel
theorem dX4_second_5 : decode cX4_second 5 = .ok (.invokevirtual 73, 3) := by decide +kernel
theorem dX4_second_8 : decode cX4_second 8 = .ok (.ireturn, 1) := by decide +kernel
theorem dX4_other_0 : decode cX4_other 0 = .ok (.iload_n 1, 1) := by decide +kernel
theorem dX4_other_1 : decode cX4_other 1 = .ok (.ifCond .ne 7, 3) := by decide +kernel
theorem dX4_other_4 : decode cX4_other 4 = .ok (.iconst 1, 1) := by decide +kernel
theorem dX4_other_5 : decode cX4_other 5 = .ok (.goto 4, 3) := by decide +kernel
theorem dX4_other_8 : decode cX4_other 8 = .ok (.iconst 0, 1) := by decide +kernel
theorem dX4_other_9 : decode cX4_other 9 = .ok (.ireturn, 1) := by decide +kernel
theorem dX4_shape_0 : decode cX4_shape 0 = .ok (.iload_n 1, 1) := by decide +kernel
theorem dX4_shape_1 : decode cX4_shape 1 = .ok (.ifCond .ne 10, 3) := by decide +kernel
theorem dX4_shape_4 : decode cX4_shape 4 = .ok (.aload_n 0, 1) := by decide +kernel
theorem dX4_shape_5 : decode cX4_shape 5 = .ok (.getfield 14, 3) := by decide +kernel
theorem dX4_shape_8 : decode cX4_shape 8 = .ok (.goto 7, 3) := by decide +kernel
theorem dX4_shape_11 : decode cX4_shape 11 = .ok (.aload_n 0, 1) := by decide +kernel
theorem dX4_shape_12 : decode cX4_shape 12 = .ok (.getfield 20, 3) := by decide +kernel
theorem dX4_shape_15 : decode cX4_shape 15 = .ok (.areturn, 1) := by decide +kernel
theorem dX4_startChange_0 : decode cX4_startChange 0 = .ok (.aload_n 0, 1) := by decide +kernel
theorem dX4_startChange_1 : decode cX4_startChange 1 = .ok (.getfield 40, 3) := by decide +kernel
theorem dX4_startChange_4 : decode cX4_startChange 4 = .ok (.ifCond .eq 6, 3) := by decide +kernel
theorem dX4_startChange_7 : decode cX4_startChange 7 = .ok (.ldc 77, 2) := by decide +kernel
theorem dX4_startChange_9 : decode cX4_startChange 9 = .ok (.ireturn, 1) := by decide +kernel
theorem dX4_startChange_10 : decode cX4_startChange 10 = .ok (.aload_n 0, 1) := by decide +kernel
theorem dX4_startChange_11 : decode cX4_startChange 11 = .ok (.iconst 1, 1) := by decide +kernel
theorem dX4_startChange_12 : decode cX4_startChange 12 = .ok (.putfield 40, 3) := by decide +kernel
theorem dX4_startChange_15 : decode cX4_startChange 15 = .ok (.aload_n 0, 1) := by decide +kernel
theorem dX4_startChange_16 : decode cX4_startChange 16 = .ok (.iconst 0, 1) := by decide +kernel
theorem dX4_startChange_17 : decode cX4_startChange 17 = .ok (.putfield 47, 3) := by decide +kernel
theorem dX4_startChange_20 : decode cX4_startChange 20 = .ok (.aload_n 0, 1) := by decide +kernel
theorem dX4_startChange_21 : decode cX4_startChange 21 = .ok (.getfield 14, 3) := by decide +kernel
theorem dX4_startChange_24 : decode cX4_startChange 24 = .ok (.invokevirtual 78, 3) := by decide +kernel
theorem dX4_startChange_27 : decode cX4_startChange 27 = .ok (.ireturn, 1) := by decide +kernel
theorem dX4_isReady_0 : decode cX4_isReady 0 = .ok (.aload_n 0, 1) := by decide +kernel
theorem dX4_isReady_1 : decode cX4_isReady 1 = .ok (.getfield 40, 3) := by decide +kernel
theorem dX4_isReady_4 : decode cX4_isReady 4 = .ok (.iconst 1, 1) := by decide +kernel
theorem dX4_isReady_5 : decode cX4_isReady 5 = .ok (.if_icmp .ne 33, 3) := by decide +kernel
theorem dX4_isReady_8 : decode cX4_isReady 8 = .ok (.aload_n 0, 1) := by decide +kernel
theorem dX4_isReady_9 : decode cX4_isReady 9 = .ok (.getfield 47, 3) := by decide +kernel
theorem dX4_isReady_12 : decode cX4_isReady 12 = .ok (.bipush 31, 2) := by decide +kernel
theorem dX4_isReady_14 : decode cX4_isReady 14 = .ok (.if_icmp .ne 24, 3) := by decide +kernel
theorem dX4_isReady_17 : decode cX4_isReady 17 = .ok (.aload_n 0, 1) := by decide +kernel
theorem dX4_isReady_18 : decode cX4_isReady 18 = .ok (.getfield 26, 3) := by decide +kernel
theorem dX4_isReady_21 : decode cX4_isReady 21 = .ok (.getfield 81, 3) := by decide +kernel
theorem dX4_isReady_24 : decode cX4_isReady 24 = .ok (.ifCond .ne 14, 3) := by decide +kernel
theorem dX4_isReady_27 : decode cX4_isReady 27 = .ok (.aload_n 0, 1) := by decide +kernel
theorem dX4_isReady_28 : decode cX4_isReady 28 = .ok (.invokevirtual 84, 3) := by decide +kernel
theorem dX4_isReady_31 : decode cX4_isReady 31 = .ok (.ifCond .ne 7, 3) := by decide +kernel
theorem dX4_isReady_34 : decode cX4_isReady 34 = .ok (.iconst 1, 1) := by decide +kernel
theorem dX4_isReady_35 : decode cX4_isReady 35 = .ok (.goto 4, 3) := by decide +kernel
theorem dX4_isReady_38 : decode cX4_isReady 38 = .ok (.iconst 0, 1) := by decide +kernel
theorem dX4_isReady_39 : decode cX4_isReady 39 = .ok (.ireturn, 1) := by decide +kernel
theorem dX4_turnOver_0 : decode cX4_turnOver 0 = .ok (.aload_n 0, 1) := by decide +kernel
theorem dX4_turnOver_1 : decode cX4_turnOver 1 = .ok (.invokevirtual 87, 3) := by decide +kernel
theorem dX4_turnOver_4 : decode cX4_turnOver 4 = .ok (.ifCond .ne 6, 3) := by decide +kernel
theorem dX4_turnOver_7 : decode cX4_turnOver 7 = .ok (.ldc 77, 2) := by decide +kernel
theorem dX4_turnOver_9 : decode cX4_turnOver 9 = .ok (.ireturn, 1) := by decide +kernel
theorem dX4_turnOver_10 : decode cX4_turnOver 10 = .ok (.aload_n 0, 1) := by decide +kernel
theorem dX4_turnOver_11 : decode cX4_turnOver 11 = .ok (.iconst 2, 1) := by decide +kernel
theorem dX4_turnOver_12 : decode cX4_turnOver 12 = .ok (.putfield 40, 3) := by decide +kernel
theorem dX4_turnOver_15 : decode cX4_turnOver 15 = .ok (.aload_n 0, 1) := by decide +kernel
theorem dX4_turnOver_16 : decode cX4_turnOver 16 = .ok (.getfield 20, 3) := by decide +kernel
theorem dX4_turnOver_19 : decode cX4_turnOver 19 = .ok (.invokevirtual 78, 3) := by decide +kernel
theorem dX4_turnOver_22 : decode cX4_turnOver 22 = .ok (.ireturn, 1) := by decide +kernel
theorem dX4_turnBack_0 : decode cX4_turnBack 0 = .ok (.aload_n 0, 1) := by decide +kernel
theorem dX4_turnBack_1 : decode cX4_turnBack 1 = .ok (.invokevirtual 91, 3) := by decide +kernel
theorem dX4_turnBack_4 : decode cX4_turnBack 4 = .ok (.ifCond .eq 13, 3) := by decide +kernel
theorem dX4_turnBack_7 : decode cX4_turnBack 7 = .ok (.aload_n 0, 1) := by decide +kernel
theorem dX4_turnBack_8 : decode cX4_turnBack 8 = .ok (.getfield 26, 3) := by decide +kernel
theorem dX4_turnBack_11 : decode cX4_turnBack 11 = .ok (.getfield 81, 3) := by decide +kernel
theorem dX4_turnBack_14 : decode cX4_turnBack 14 = .ok (.ifCond .eq 6, 3) := by decide +kernel
theorem dX4_turnBack_17 : decode cX4_turnBack 17 = .ok (.ldc 77, 2) := by decide +kernel
theorem dX4_turnBack_19 : decode cX4_turnBack 19 = .ok (.ireturn, 1) := by decide +kernel
theorem dX4_turnBack_20 : decode cX4_turnBack 20 = .ok (.aload_n 0, 1) := by decide +kernel
theorem dX4_turnBack_21 : decode cX4_turnBack 21 = .ok (.getfield 40, 3) := by decide +kernel
theorem dX4_turnBack_24 : decode cX4_turnBack 24 = .ok (.iconst 2, 1) := by decide +kernel
theorem dX4_turnBack_25 : decode cX4_turnBack 25 = .ok (.if_icmp .ne 17, 3) := by decide +kernel
theorem dX4_turnBack_28 : decode cX4_turnBack 28 = .ok (.aload_n 0, 1) := by decide +kernel
theorem dX4_turnBack_29 : decode cX4_turnBack 29 = .ok (.iconst 1, 1) := by decide +kernel
theorem dX4_turnBack_30 : decode cX4_turnBack 30 = .ok (.putfield 40, 3) := by decide +kernel
theorem dX4_turnBack_33 : decode cX4_turnBack 33 = .ok (.aload_n 0, 1) := by decide +kernel
theorem dX4_turnBack_34 : decode cX4_turnBack 34 = .ok (.bipush 31, 2) := by decide +kernel
theorem dX4_turnBack_36 : decode cX4_turnBack 36 = .ok (.putfield 47, 3) := by decide +kernel
theorem dX4_turnBack_39 : decode cX4_turnBack 39 = .ok (.goto 15, 3) := by decide +kernel
theorem dX4_turnBack_42 : decode cX4_turnBack 42 = .ok (.aload_n 0, 1) := by decide +kernel
theorem dX4_turnBack_43 : decode cX4_turnBack 43 = .ok (.iconst 0, 1) := by decide +kernel
theorem dX4_turnBack_44 : decode cX4_turnBack 44 = .ok (.putfield 40, 3) := by decide +kernel
theorem dX4_turnBack_47 : decode cX4_turnBack 47 = .ok (.aload_n 0, 1) := by decide +kernel
theorem dX4_turnBack_48 : decode cX4_turnBack 48 = .ok (.getfield 20, 3) := by decide +kernel
theorem dX4_turnBack_51 : decode cX4_turnBack 51 = .ok (.invokevirtual 94, 3) := by decide +kernel
theorem dX4_turnBack_54 : decode cX4_turnBack 54 = .ok (.aload_n 0, 1) := by decide +kernel
theorem dX4_turnBack_55 : decode cX4_turnBack 55 = .ok (.getfield 40, 3) := by decide +kernel
theorem dX4_turnBack_58 : decode cX4_turnBack 58 = .ok (.ireturn, 1) := by decide +kernel
theorem dX4_dropOld_0 : decode cX4_dropOld 0 = .ok (.aload_n 0, 1) := by decide +kernel
theorem dX4_dropOld_1 : decode cX4_dropOld 1 = .ok (.getfield 40, 3) := by decide +kernel
theorem dX4_dropOld_4 : decode cX4_dropOld 4 = .ok (.iconst 2, 1) := by decide +kernel
theorem dX4_dropOld_5 : decode cX4_dropOld 5 = .ok (.if_icmp .ne 20, 3) := by decide +kernel
theorem dX4_dropOld_8 : decode cX4_dropOld 8 = .ok (.aload_n 0, 1) := by decide +kernel
theorem dX4_dropOld_9 : decode cX4_dropOld 9 = .ok (.getfield 26, 3) := by decide +kernel
theorem dX4_dropOld_12 : decode cX4_dropOld 12 = .ok (.getfield 81, 3) := by decide +kernel
theorem dX4_dropOld_15 : decode cX4_dropOld 15 = .ok (.ifCond .ne 10, 3) := by decide +kernel
theorem dX4_dropOld_18 : decode cX4_dropOld 18 = .ok (.aload_n 0, 1) := by decide +kernel
theorem dX4_dropOld_19 : decode cX4_dropOld 19 = .ok (.invokevirtual 84, 3) := by decide +kernel
theorem dX4_dropOld_22 : decode cX4_dropOld 22 = .ok (.ifCond .eq 6, 3) := by decide +kernel
theorem dX4_dropOld_25 : decode cX4_dropOld 25 = .ok (.ldc 77, 2) := by decide +kernel
theorem dX4_dropOld_27 : decode cX4_dropOld 27 = .ok (.ireturn, 1) := by decide +kernel
theorem dX4_dropOld_28 : decode cX4_dropOld 28 = .ok (.aload_n 0, 1) := by decide +kernel
theorem dX4_dropOld_29 : decode cX4_dropOld 29 = .ok (.iconst 3, 1) := by decide +kernel
theorem dX4_dropOld_30 : decode cX4_dropOld 30 = .ok (.putfield 40, 3) := by decide +kernel
theorem dX4_dropOld_33 : decode cX4_dropOld 33 = .ok (.aload_n 0, 1) := by decide +kernel
theorem dX4_dropOld_34 : decode cX4_dropOld 34 = .ok (.getfield 14, 3) := by decide +kernel
theorem dX4_dropOld_37 : decode cX4_dropOld 37 = .ok (.invokevirtual 94, 3) := by decide +kernel
theorem dX4_dropOld_40 : decode cX4_dropOld 40 = .ok (.aload_n 0, 1) := by decide +kernel
theorem dX4_dropOld_41 : decode cX4_dropOld 41 = .ok (.getfield 20, 3) := by decide +kernel
theorem dX4_dropOld_44 : decode cX4_dropOld 44 = .ok (.invokevirtual 97, 3) := by decide +kernel
theorem dX4_dropOld_47 : decode cX4_dropOld 47 = .ok (.ireturn, 1) := by decide +kernel
theorem dX4_putOld_0 : decode cX4_putOld 0 = .ok (.iload_n 1, 1) := by decide +kernel
theorem dX4_putOld_1 : decode cX4_putOld 1 = .ok (.bipush 31, 2) := by decide +kernel
theorem dX4_putOld_3 : decode cX4_putOld 3 = .ok (.invokestatic 100, 3) := by decide +kernel
theorem dX4_putOld_6 : decode cX4_putOld 6 = .ok (.ifCond .eq 30, 3) := by decide +kernel
theorem dX4_putOld_9 : decode cX4_putOld 9 = .ok (.iload_n 2, 1) := by decide +kernel
theorem dX4_putOld_10 : decode cX4_putOld 10 = .ok (.bipush 100, 2) := by decide +kernel
theorem dX4_putOld_12 : decode cX4_putOld 12 = .ok (.invokestatic 100, 3) := by decide +kernel
theorem dX4_putOld_15 : decode cX4_putOld 15 = .ok (.ifCond .eq 21, 3) := by decide +kernel
theorem dX4_putOld_18 : decode cX4_putOld 18 = .ok (.iload_n 3, 1) := by decide +kernel
theorem dX4_putOld_19 : decode cX4_putOld 19 = .ok (.bipush 10, 2) := by decide +kernel
theorem dX4_putOld_21 : decode cX4_putOld 21 = .ok (.invokestatic 100, 3) := by decide +kernel
theorem dX4_putOld_24 : decode cX4_putOld 24 = .ok (.ifCond .eq 12, 3) := by decide +kernel
theorem dX4_putOld_27 : decode cX4_putOld 27 = .ok (.iload 4, 2) := by decide +kernel
theorem dX4_putOld_29 : decode cX4_putOld 29 = .ok (.iconst 2, 1) := by decide +kernel
theorem dX4_putOld_30 : decode cX4_putOld 30 = .ok (.invokestatic 100, 3) := by decide +kernel
theorem dX4_putOld_33 : decode cX4_putOld 33 = .ok (.ifCond .ne 6, 3) := by decide +kernel
theorem dX4_putOld_36 : decode cX4_putOld 36 = .ok (.ldc 106, 2) := by decide +kernel
theorem dX4_putOld_38 : decode cX4_putOld 38 = .ok (.ireturn, 1) := by decide +kernel
theorem dX4_putOld_39 : decode cX4_putOld 39 = .ok (.aload_n 0, 1) := by decide +kernel
theorem dX4_putOld_40 : decode cX4_putOld 40 = .ok (.iload_n 1, 1) := by decide +kernel
theorem dX4_putOld_41 : decode cX4_putOld 41 = .ok (.iload_n 2, 1) := by decide +kernel
theorem dX4_putOld_42 : decode cX4_putOld 42 = .ok (.iload_n 3, 1) := by decide +kernel
theorem dX4_putOld_43 : decode cX4_putOld 43 = .ok (.iload 4, 2) := by decide +kernel
theorem dX4_putOld_45 : decode cX4_putOld 45 = .ok (.invokestatic 107, 3) := by decide +kernel
theorem dX4_putOld_48 : decode cX4_putOld 48 = .ok (.invokevirtual 111, 3) := by decide +kernel
theorem dX4_putOld_51 : decode cX4_putOld 51 = .ok (.ireturn, 1) := by decide +kernel
theorem dX4_putNew_0 : decode cX4_putNew 0 = .ok (.iload_n 1, 1) := by decide +kernel
theorem dX4_putNew_1 : decode cX4_putNew 1 = .ok (.bipush 31, 2) := by decide +kernel
theorem dX4_putNew_3 : decode cX4_putNew 3 = .ok (.invokestatic 100, 3) := by decide +kernel
theorem dX4_putNew_6 : decode cX4_putNew 6 = .ok (.ifCond .eq 21, 3) := by decide +kernel
theorem dX4_putNew_9 : decode cX4_putNew 9 = .ok (.iload_n 2, 1) := by decide +kernel
theorem dX4_putNew_10 : decode cX4_putNew 10 = .ok (.sipush 1000, 3) := by decide +kernel
theorem dX4_putNew_13 : decode cX4_putNew 13 = .ok (.invokestatic 100, 3) := by decide +kernel
theorem dX4_putNew_16 : decode cX4_putNew 16 = .ok (.ifCond .eq 11, 3) := by decide +kernel
theorem dX4_putNew_19 : decode cX4_putNew 19 = .ok (.iload_n 3, 1) := by decide +kernel
theorem dX4_putNew_20 : decode cX4_putNew 20 = .ok (.iconst 4, 1) := by decide +kernel
theorem dX4_putNew_21 : decode cX4_putNew 21 = .ok (.invokestatic 100, 3) := by decide +kernel
theorem dX4_putNew_24 : decode cX4_putNew 24 = .ok (.ifCond .ne 6, 3) := by decide +kernel
theorem dX4_putNew_27 : decode cX4_putNew 27 = .ok (.ldc 106, 2) := by decide +kernel
theorem dX4_putNew_29 : decode cX4_putNew 29 = .ok (.ireturn, 1) := by decide +kernel
theorem dX4_putNew_30 : decode cX4_putNew 30 = .ok (.aload_n 0, 1) := by decide +kernel
theorem dX4_putNew_31 : decode cX4_putNew 31 = .ok (.iload_n 1, 1) := by decide +kernel
theorem dX4_putNew_32 : decode cX4_putNew 32 = .ok (.iload_n 2, 1) := by decide +kernel
theorem dX4_putNew_33 : decode cX4_putNew 33 = .ok (.iload_n 3, 1) := by decide +kernel
theorem dX4_putNew_34 : decode cX4_putNew 34 = .ok (.invokestatic 115, 3) := by decide +kernel
theorem dX4_putNew_37 : decode cX4_putNew 37 = .ok (.invokevirtual 111, 3) := by decide +kernel
theorem dX4_putNew_40 : decode cX4_putNew 40 = .ok (.ireturn, 1) := by decide +kernel
theorem dX4_takeAway_0 : decode cX4_takeAway 0 = .ok (.iload_n 1, 1) := by decide +kernel
theorem dX4_takeAway_1 : decode cX4_takeAway 1 = .ok (.bipush 31, 2) := by decide +kernel
theorem dX4_takeAway_3 : decode cX4_takeAway 3 = .ok (.invokestatic 100, 3) := by decide +kernel
theorem dX4_takeAway_6 : decode cX4_takeAway 6 = .ok (.ifCond .ne 6, 3) := by decide +kernel
theorem dX4_takeAway_9 : decode cX4_takeAway 9 = .ok (.ldc 106, 2) := by decide +kernel
theorem dX4_takeAway_11 : decode cX4_takeAway 11 = .ok (.ireturn, 1) := by decide +kernel
theorem dX4_takeAway_12 : decode cX4_takeAway 12 = .ok (.aload_n 0, 1) := by decide +kernel
theorem dX4_takeAway_13 : decode cX4_takeAway 13 = .ok (.aload_n 0, 1) := by decide +kernel
theorem dX4_takeAway_14 : decode cX4_takeAway 14 = .ok (.invokevirtual 69, 3) := by decide +kernel
theorem dX4_takeAway_17 : decode cX4_takeAway 17 = .ok (.invokevirtual 118, 3) := by decide +kernel
theorem dX4_takeAway_20 : decode cX4_takeAway 20 = .ok (.getfield 122, 3) := by decide +kernel
theorem dX4_takeAway_23 : decode cX4_takeAway 23 = .ok (.iload_n 1, 1) := by decide +kernel
theorem dX4_takeAway_24 : decode cX4_takeAway 24 = .ok (.iaload, 1) := by decide +kernel
theorem dX4_takeAway_25 : decode cX4_takeAway 25 = .ok (.iconst (-1), 1) := by decide +kernel
theorem dX4_takeAway_26 : decode cX4_takeAway 26 = .ok (.if_icmp .ne 6, 3) := by decide +kernel
theorem dX4_takeAway_29 : decode cX4_takeAway 29 = .ok (.ldc 77, 2) := by decide +kernel
theorem dX4_takeAway_31 : decode cX4_takeAway 31 = .ok (.ireturn, 1) := by decide +kernel
theorem dX4_takeAway_32 : decode cX4_takeAway 32 = .ok (.aload_n 0, 1) := by decide +kernel
theorem dX4_takeAway_33 : decode cX4_takeAway 33 = .ok (.iload_n 1, 1) := by decide +kernel
theorem dX4_takeAway_34 : decode cX4_takeAway 34 = .ok (.iconst (-1), 1) := by decide +kernel
theorem dX4_takeAway_35 : decode cX4_takeAway 35 = .ok (.invokevirtual 111, 3) := by decide +kernel
theorem dX4_takeAway_38 : decode cX4_takeAway 38 = .ok (.ireturn, 1) := by decide +kernel
theorem dX4_put_0 : decode cX4_put 0 = .ok (.aload_n 0, 1) := by decide +kernel
theorem dX4_put_1 : decode cX4_put 1 = .ok (.invokevirtual 91, 3) := by decide +kernel
theorem dX4_put_4 : decode cX4_put 4 = .ok (.ifCond .eq 19, 3) := by decide +kernel
theorem dX4_put_7 : decode cX4_put 7 = .ok (.aload_n 0, 1) := by decide +kernel
theorem dX4_put_8 : decode cX4_put 8 = .ok (.getfield 26, 3) := by decide +kernel
theorem dX4_put_11 : decode cX4_put 11 = .ok (.getfield 81, 3) := by decide +kernel
theorem dX4_put_14 : decode cX4_put 14 = .ok (.bipush 8, 2) := by decide +kernel
theorem dX4_put_16 : decode cX4_put 16 = .ok (.if_icmp .lt 7, 3) := by decide +kernel
theorem dX4_put_19 : decode cX4_put 19 = .ok (.iconst 1, 1) := by decide +kernel
theorem dX4_put_20 : decode cX4_put 20 = .ok (.goto 4, 3) := by decide +kernel
theorem dX4_put_23 : decode cX4_put 23 = .ok (.iconst 0, 1) := by decide +kernel
theorem dX4_put_24 : decode cX4_put 24 = .ok (.istore_n 3, 1) := by decide +kernel
theorem dX4_put_25 : decode cX4_put 25 = .ok (.iload_n 3, 1) := by decide +kernel
theorem dX4_put_26 : decode cX4_put 26 = .ok (.ifCond .ne 12, 3) := by decide +kernel
theorem dX4_put_29 : decode cX4_put 29 = .ok (.aload_n 0, 1) := by decide +kernel
theorem dX4_put_30 : decode cX4_put 30 = .ok (.getfield 44, 3) := by decide +kernel
theorem dX4_put_33 : decode cX4_put 33 = .ok (.ldc 125, 2) := by decide +kernel
theorem dX4_put_35 : decode cX4_put 35 = .ok (.if_icmp .lt 6, 3) := by decide +kernel
theorem dX4_put_38 : decode cX4_put 38 = .ok (.ldc 126, 2) := by decide +kernel
theorem dX4_put_40 : decode cX4_put 40 = .ok (.ireturn, 1) := by decide +kernel
theorem dX4_put_41 : decode cX4_put 41 = .ok (.aload_n 0, 1) := by decide +kernel
theorem dX4_put_42 : decode cX4_put 42 = .ok (.dup, 1) := by decide +kernel
theorem dX4_put_43 : decode cX4_put 43 = .ok (.getfield 44, 3) := by decide +kernel
theorem dX4_put_46 : decode cX4_put 46 = .ok (.iconst 1, 1) := by decide +kernel
theorem dX4_put_47 : decode cX4_put 47 = .ok (.iadd, 1) := by decide +kernel
theorem dX4_put_48 : decode cX4_put 48 = .ok (.putfield 44, 3) := by decide +kernel
theorem dX4_put_51 : decode cX4_put 51 = .ok (.aload_n 0, 1) := by decide +kernel
theorem dX4_put_52 : decode cX4_put 52 = .ok (.getfield 30, 3) := by decide +kernel
theorem dX4_put_55 : decode cX4_put 55 = .ok (.iload_n 1, 1) := by decide +kernel
theorem dX4_put_56 : decode cX4_put 56 = .ok (.aload_n 0, 1) := by decide +kernel
theorem dX4_put_57 : decode cX4_put 57 = .ok (.getfield 44, 3) := by decide +kernel
theorem dX4_put_60 : decode cX4_put 60 = .ok (.iastore, 1) := by decide +kernel
theorem dX4_put_61 : decode cX4_put 61 = .ok (.aload_n 0, 1) := by decide +kernel
theorem dX4_put_62 : decode cX4_put 62 = .ok (.aload_n 0, 1) := by decide +kernel
theorem dX4_put_63 : decode cX4_put 63 = .ok (.invokevirtual 69, 3) := by decide +kernel
theorem dX4_put_66 : decode cX4_put 66 = .ok (.invokevirtual 118, 3) := by decide +kernel
theorem dX4_put_69 : decode cX4_put 69 = .ok (.iload_n 1, 1) := by decide +kernel
theorem dX4_put_70 : decode cX4_put 70 = .ok (.aload_n 0, 1) := by decide +kernel
theorem dX4_put_71 : decode cX4_put 71 = .ok (.getfield 44, 3) := by decide +kernel
theorem dX4_put_74 : decode cX4_put 74 = .ok (.iload_n 2, 1) := by decide +kernel
theorem dX4_put_75 : decode cX4_put 75 = .ok (.invokevirtual 127, 3) := by decide +kernel
theorem dX4_put_78 : decode cX4_put 78 = .ok (.aload_n 0, 1) := by decide +kernel
theorem dX4_put_79 : decode cX4_put 79 = .ok (.invokevirtual 91, 3) := by decide +kernel
theorem dX4_put_82 : decode cX4_put 82 = .ok (.ifCond .eq 16, 3) := by decide +kernel
theorem dX4_put_85 : decode cX4_put 85 = .ok (.aload_n 0, 1) := by decide +kernel
theorem dX4_put_86 : decode cX4_put 86 = .ok (.getfield 26, 3) := by decide +kernel
theorem dX4_put_89 : decode cX4_put 89 = .ok (.iload_n 1, 1) := by decide +kernel
theorem dX4_put_90 : decode cX4_put 90 = .ok (.aload_n 0, 1) := by decide +kernel
theorem dX4_put_91 : decode cX4_put 91 = .ok (.getfield 44, 3) := by decide +kernel
theorem dX4_put_94 : decode cX4_put 94 = .ok (.iload_n 2, 1) := by decide +kernel
theorem dX4_put_95 : decode cX4_put 95 = .ok (.invokevirtual 131, 3) := by decide +kernel
theorem dX4_put_98 : decode cX4_put 98 = .ok (.aload_n 0, 1) := by decide +kernel
theorem dX4_put_99 : decode cX4_put 99 = .ok (.getfield 44, 3) := by decide +kernel
theorem dX4_put_102 : decode cX4_put 102 = .ok (.ireturn, 1) := by decide +kernel
theorem dX4_drainQueue_0 : decode cX4_drainQueue 0 = .ok (.iload_n 1, 1) := by decide +kernel
theorem dX4_drainQueue_1 : decode cX4_drainQueue 1 = .ok (.iconst 1, 1) := by decide +kernel
theorem dX4_drainQueue_2 : decode cX4_drainQueue 2 = .ok (.if_icmp .lt 9, 3) := by decide +kernel
theorem dX4_drainQueue_5 : decode cX4_drainQueue 5 = .ok (.iload_n 1, 1) := by decide +kernel
theorem dX4_drainQueue_6 : decode cX4_drainQueue 6 = .ok (.bipush 8, 2) := by decide +kernel
theorem dX4_drainQueue_8 : decode cX4_drainQueue 8 = .ok (.if_icmp .le 6, 3) := by decide +kernel
theorem dX4_drainQueue_11 : decode cX4_drainQueue 11 = .ok (.ldc 106, 2) := by decide +kernel
theorem dX4_drainQueue_13 : decode cX4_drainQueue 13 = .ok (.ireturn, 1) := by decide +kernel
theorem dX4_drainQueue_14 : decode cX4_drainQueue 14 = .ok (.aload_n 0, 1) := by decide +kernel
theorem dX4_drainQueue_15 : decode cX4_drainQueue 15 = .ok (.getfield 26, 3) := by decide +kernel
theorem dX4_drainQueue_18 : decode cX4_drainQueue 18 = .ok (.getfield 81, 3) := by decide +kernel
theorem dX4_drainQueue_21 : decode cX4_drainQueue 21 = .ok (.ifCond .ne 6, 3) := by decide +kernel
theorem dX4_drainQueue_24 : decode cX4_drainQueue 24 = .ok (.ldc 77, 2) := by decide +kernel
theorem dX4_drainQueue_26 : decode cX4_drainQueue 26 = .ok (.ireturn, 1) := by decide +kernel
theorem dX4_drainQueue_27 : decode cX4_drainQueue 27 = .ok (.iload_n 1, 1) := by decide +kernel
theorem dX4_drainQueue_28 : decode cX4_drainQueue 28 = .ok (.aload_n 0, 1) := by decide +kernel
theorem dX4_drainQueue_29 : decode cX4_drainQueue 29 = .ok (.getfield 26, 3) := by decide +kernel
theorem dX4_drainQueue_32 : decode cX4_drainQueue 32 = .ok (.getfield 81, 3) := by decide +kernel
theorem dX4_drainQueue_35 : decode cX4_drainQueue 35 = .ok (.invokestatic 134, 3) := by decide +kernel
theorem dX4_drainQueue_38 : decode cX4_drainQueue 38 = .ok (.istore_n 2, 1) := by decide +kernel
theorem dX4_drainQueue_39 : decode cX4_drainQueue 39 = .ok (.aload_n 0, 1) := by decide +kernel
theorem dX4_drainQueue_40 : decode cX4_drainQueue 40 = .ok (.aload_n 0, 1) := by decide +kernel
theorem dX4_drainQueue_41 : decode cX4_drainQueue 41 = .ok (.invokevirtual 139, 3) := by decide +kernel
theorem dX4_drainQueue_44 : decode cX4_drainQueue 44 = .ok (.invokevirtual 118, 3) := by decide +kernel
theorem dX4_drainQueue_47 : decode cX4_drainQueue 47 = .ok (.astore_n 3, 1) := by decide +kernel
theorem dX4_drainQueue_48 : decode cX4_drainQueue 48 = .ok (.iconst 0, 1) := by decide +kernel
theorem dX4_drainQueue_49 : decode cX4_drainQueue 49 = .ok (.istore 4, 2) := by decide +kernel
theorem dX4_drainQueue_51 : decode cX4_drainQueue 51 = .ok (.iload 4, 2) := by decide +kernel
theorem dX4_drainQueue_53 : decode cX4_drainQueue 53 = .ok (.iload_n 2, 1) := by decide +kernel
theorem dX4_drainQueue_54 : decode cX4_drainQueue 54 = .ok (.if_icmp .ge 43, 3) := by decide +kernel
theorem dX4_drainQueue_57 : decode cX4_drainQueue 57 = .ok (.aload_n 3, 1) := by decide +kernel
theorem dX4_drainQueue_58 : decode cX4_drainQueue 58 = .ok (.aload_n 0, 1) := by decide +kernel
theorem dX4_drainQueue_59 : decode cX4_drainQueue 59 = .ok (.getfield 26, 3) := by decide +kernel
theorem dX4_drainQueue_62 : decode cX4_drainQueue 62 = .ok (.getfield 142, 3) := by decide +kernel
theorem dX4_drainQueue_65 : decode cX4_drainQueue 65 = .ok (.iload 4, 2) := by decide +kernel
theorem dX4_drainQueue_67 : decode cX4_drainQueue 67 = .ok (.iaload, 1) := by decide +kernel
theorem dX4_drainQueue_68 : decode cX4_drainQueue 68 = .ok (.aload_n 0, 1) := by decide +kernel
theorem dX4_drainQueue_69 : decode cX4_drainQueue 69 = .ok (.getfield 26, 3) := by decide +kernel
theorem dX4_drainQueue_72 : decode cX4_drainQueue 72 = .ok (.getfield 145, 3) := by decide +kernel
theorem dX4_drainQueue_75 : decode cX4_drainQueue 75 = .ok (.iload 4, 2) := by decide +kernel
theorem dX4_drainQueue_77 : decode cX4_drainQueue 77 = .ok (.iaload, 1) := by decide +kernel
theorem dX4_drainQueue_78 : decode cX4_drainQueue 78 = .ok (.aload_n 0, 1) := by decide +kernel
theorem dX4_drainQueue_79 : decode cX4_drainQueue 79 = .ok (.getfield 26, 3) := by decide +kernel
theorem dX4_drainQueue_82 : decode cX4_drainQueue 82 = .ok (.getfield 148, 3) := by decide +kernel
theorem dX4_drainQueue_85 : decode cX4_drainQueue 85 = .ok (.iload 4, 2) := by decide +kernel
theorem dX4_drainQueue_87 : decode cX4_drainQueue 87 = .ok (.iaload, 1) := by decide +kernel
theorem dX4_drainQueue_88 : decode cX4_drainQueue 88 = .ok (.invokevirtual 127, 3) := by decide +kernel
theorem dX4_drainQueue_91 : decode cX4_drainQueue 91 = .ok (.iinc 4 1, 3) := by decide +kernel
theorem dX4_drainQueue_94 : decode cX4_drainQueue 94 = .ok (.goto (-43), 3) := by decide +kernel
theorem dX4_drainQueue_97 : decode cX4_drainQueue 97 = .ok (.aload_n 0, 1) := by decide +kernel
theorem dX4_drainQueue_98 : decode cX4_drainQueue 98 = .ok (.getfield 26, 3) := by decide +kernel
theorem dX4_drainQueue_101 : decode cX4_drainQueue 101 = .ok (.iload_n 2, 1) := by decide +kernel
theorem dX4_drainQueue_102 : decode cX4_drainQueue 102 = .ok (.invokevirtual 149, 3) := by decide +kernel
theorem dX4_drainQueue_105 : decode cX4_drainQueue 105 = .ok (.aload_n 0, 1) := by decide +kernel
theorem dX4_drainQueue_106 : decode cX4_drainQueue 106 = .ok (.getfield 26, 3) := by decide +kernel
theorem dX4_drainQueue_109 : decode cX4_drainQueue 109 = .ok (.getfield 81, 3) := by decide +kernel
theorem dX4_drainQueue_112 : decode cX4_drainQueue 112 = .ok (.ireturn, 1) := by decide +kernel
theorem dX4_fillKeys_0 : decode cX4_fillKeys 0 = .ok (.iload_n 1, 1) := by decide +kernel
theorem dX4_fillKeys_1 : decode cX4_fillKeys 1 = .ok (.iconst 1, 1) := by decide +kernel
theorem dX4_fillKeys_2 : decode cX4_fillKeys 2 = .ok (.if_icmp .lt 9, 3) := by decide +kernel
theorem dX4_fillKeys_5 : decode cX4_fillKeys 5 = .ok (.iload_n 1, 1) := by decide +kernel
theorem dX4_fillKeys_6 : decode cX4_fillKeys 6 = .ok (.bipush 31, 2) := by decide +kernel
theorem dX4_fillKeys_8 : decode cX4_fillKeys 8 = .ok (.if_icmp .le 6, 3) := by decide +kernel
theorem dX4_fillKeys_11 : decode cX4_fillKeys 11 = .ok (.ldc 106, 2) := by decide +kernel
theorem dX4_fillKeys_13 : decode cX4_fillKeys 13 = .ok (.ireturn, 1) := by decide +kernel
theorem dX4_fillKeys_14 : decode cX4_fillKeys 14 = .ok (.aload_n 0, 1) := by decide +kernel
theorem dX4_fillKeys_15 : decode cX4_fillKeys 15 = .ok (.getfield 40, 3) := by decide +kernel
theorem dX4_fillKeys_18 : decode cX4_fillKeys 18 = .ok (.iconst 1, 1) := by decide +kernel
theorem dX4_fillKeys_19 : decode cX4_fillKeys 19 = .ok (.if_icmp .ne 12, 3) := by decide +kernel
theorem dX4_fillKeys_22 : decode cX4_fillKeys 22 = .ok (.aload_n 0, 1) := by decide +kernel
theorem dX4_fillKeys_23 : decode cX4_fillKeys 23 = .ok (.getfield 47, 3) := by decide +kernel
theorem dX4_fillKeys_26 : decode cX4_fillKeys 26 = .ok (.bipush 31, 2) := by decide +kernel
theorem dX4_fillKeys_28 : decode cX4_fillKeys 28 = .ok (.if_icmp .lt 6, 3) := by decide +kernel
theorem dX4_fillKeys_31 : decode cX4_fillKeys 31 = .ok (.ldc 77, 2) := by decide +kernel
theorem dX4_fillKeys_33 : decode cX4_fillKeys 33 = .ok (.ireturn, 1) := by decide +kernel
theorem dX4_fillKeys_34 : decode cX4_fillKeys 34 = .ok (.iconst 0, 1) := by decide +kernel
theorem dX4_fillKeys_35 : decode cX4_fillKeys 35 = .ok (.istore_n 2, 1) := by decide +kernel
theorem dX4_fillKeys_36 : decode cX4_fillKeys 36 = .ok (.bipush 31, 2) := by decide +kernel
theorem dX4_fillKeys_38 : decode cX4_fillKeys 38 = .ok (.aload_n 0, 1) := by decide +kernel
theorem dX4_fillKeys_39 : decode cX4_fillKeys 39 = .ok (.getfield 47, 3) := by decide +kernel
theorem dX4_fillKeys_42 : decode cX4_fillKeys 42 = .ok (.iload_n 1, 1) := by decide +kernel
theorem dX4_fillKeys_43 : decode cX4_fillKeys 43 = .ok (.iadd, 1) := by decide +kernel
theorem dX4_fillKeys_44 : decode cX4_fillKeys 44 = .ok (.invokestatic 134, 3) := by decide +kernel
theorem dX4_fillKeys_47 : decode cX4_fillKeys 47 = .ok (.istore_n 3, 1) := by decide +kernel
theorem dX4_fillKeys_48 : decode cX4_fillKeys 48 = .ok (.aload_n 0, 1) := by decide +kernel
theorem dX4_fillKeys_49 : decode cX4_fillKeys 49 = .ok (.getfield 47, 3) := by decide +kernel
theorem dX4_fillKeys_52 : decode cX4_fillKeys 52 = .ok (.istore 4, 2) := by decide +kernel
theorem dX4_fillKeys_54 : decode cX4_fillKeys 54 = .ok (.iload 4, 2) := by decide +kernel
theorem dX4_fillKeys_56 : decode cX4_fillKeys 56 = .ok (.iload_n 3, 1) := by decide +kernel
theorem dX4_fillKeys_57 : decode cX4_fillKeys 57 = .ok (.if_icmp .ge 48, 3) := by decide +kernel
theorem dX4_fillKeys_60 : decode cX4_fillKeys 60 = .ok (.aload_n 0, 1) := by decide +kernel
theorem dX4_fillKeys_61 : decode cX4_fillKeys 61 = .ok (.getfield 14, 3) := by decide +kernel
theorem dX4_fillKeys_64 : decode cX4_fillKeys 64 = .ok (.getfield 152, 3) := by decide +kernel
theorem dX4_fillKeys_67 : decode cX4_fillKeys 67 = .ok (.iload 4, 2) := by decide +kernel
theorem dX4_fillKeys_69 : decode cX4_fillKeys 69 = .ok (.iaload, 1) := by decide +kernel
theorem dX4_fillKeys_70 : decode cX4_fillKeys 70 = .ok (.aload_n 0, 1) := by decide +kernel
theorem dX4_fillKeys_71 : decode cX4_fillKeys 71 = .ok (.getfield 20, 3) := by decide +kernel
theorem dX4_fillKeys_74 : decode cX4_fillKeys 74 = .ok (.getfield 152, 3) := by decide +kernel
theorem dX4_fillKeys_77 : decode cX4_fillKeys 77 = .ok (.iload 4, 2) := by decide +kernel
theorem dX4_fillKeys_79 : decode cX4_fillKeys 79 = .ok (.iaload, 1) := by decide +kernel
theorem dX4_fillKeys_80 : decode cX4_fillKeys 80 = .ok (.if_icmp .le 19, 3) := by decide +kernel
theorem dX4_fillKeys_83 : decode cX4_fillKeys 83 = .ok (.aload_n 0, 1) := by decide +kernel
theorem dX4_fillKeys_84 : decode cX4_fillKeys 84 = .ok (.getfield 20, 3) := by decide +kernel
theorem dX4_fillKeys_87 : decode cX4_fillKeys 87 = .ok (.aload_n 0, 1) := by decide +kernel
theorem dX4_fillKeys_88 : decode cX4_fillKeys 88 = .ok (.getfield 14, 3) := by decide +kernel
theorem dX4_fillKeys_91 : decode cX4_fillKeys 91 = .ok (.iload 4, 2) := by decide +kernel
theorem dX4_fillKeys_93 : decode cX4_fillKeys 93 = .ok (.invokevirtual 153, 3) := by decide +kernel
theorem dX4_fillKeys_96 : decode cX4_fillKeys 96 = .ok (.iinc 2 1, 3) := by decide +kernel
theorem dX4_fillKeys_99 : decode cX4_fillKeys 99 = .ok (.iinc 4 1, 3) := by decide +kernel
theorem dX4_fillKeys_102 : decode cX4_fillKeys 102 = .ok (.goto (-48), 3) := by decide +kernel
theorem dX4_fillKeys_105 : decode cX4_fillKeys 105 = .ok (.aload_n 0, 1) := by decide +kernel
theorem dX4_fillKeys_106 : decode cX4_fillKeys 106 = .ok (.iload_n 3, 1) := by decide +kernel
theorem dX4_fillKeys_107 : decode cX4_fillKeys 107 = .ok (.putfield 47, 3) := by decide +kernel
theorem dX4_fillKeys_110 : decode cX4_fillKeys 110 = .ok (.iload_n 2, 1) := by decide +kernel
theorem dX4_fillKeys_111 : decode cX4_fillKeys 111 = .ok (.ireturn, 1) := by decide +kernel
theorem dX4_loseQueue_0 : decode cX4_loseQueue 0 = .ok (.aload_n 0, 1) := by decide +kernel
theorem dX4_loseQueue_1 : decode cX4_loseQueue 1 = .ok (.getfield 26, 3) := by decide +kernel
theorem dX4_loseQueue_4 : decode cX4_loseQueue 4 = .ok (.getfield 81, 3) := by decide +kernel
theorem dX4_loseQueue_7 : decode cX4_loseQueue 7 = .ok (.istore_n 1, 1) := by decide +kernel
theorem dX4_loseQueue_8 : decode cX4_loseQueue 8 = .ok (.iload_n 1, 1) := by decide +kernel
theorem dX4_loseQueue_9 : decode cX4_loseQueue 9 = .ok (.ifCond .ne 6, 3) := by decide +kernel
theorem dX4_loseQueue_12 : decode cX4_loseQueue 12 = .ok (.ldc 77, 2) := by decide +kernel
theorem dX4_loseQueue_14 : decode cX4_loseQueue 14 = .ok (.ireturn, 1) := by decide +kernel
theorem dX4_loseQueue_15 : decode cX4_loseQueue 15 = .ok (.aload_n 0, 1) := by decide +kernel
theorem dX4_loseQueue_16 : decode cX4_loseQueue 16 = .ok (.dup, 1) := by decide +kernel
theorem dX4_loseQueue_17 : decode cX4_loseQueue 17 = .ok (.getfield 50, 3) := by decide +kernel
theorem dX4_loseQueue_20 : decode cX4_loseQueue 20 = .ok (.iload_n 1, 1) := by decide +kernel
theorem dX4_loseQueue_21 : decode cX4_loseQueue 21 = .ok (.iadd, 1) := by decide +kernel
theorem dX4_loseQueue_22 : decode cX4_loseQueue 22 = .ok (.putfield 50, 3) := by decide +kernel
theorem dX4_loseQueue_25 : decode cX4_loseQueue 25 = .ok (.aload_n 0, 1) := by decide +kernel
theorem dX4_loseQueue_26 : decode cX4_loseQueue 26 = .ok (.getfield 26, 3) := by decide +kernel
theorem dX4_loseQueue_29 : decode cX4_loseQueue 29 = .ok (.iload_n 1, 1) := by decide +kernel
theorem dX4_loseQueue_30 : decode cX4_loseQueue 30 = .ok (.invokevirtual 149, 3) := by decide +kernel
theorem dX4_loseQueue_33 : decode cX4_loseQueue 33 = .ok (.iload_n 1, 1) := by decide +kernel
theorem dX4_loseQueue_34 : decode cX4_loseQueue 34 = .ok (.ireturn, 1) := by decide +kernel
theorem dX4_mendKey_0 : decode cX4_mendKey 0 = .ok (.iload_n 1, 1) := by decide +kernel
theorem dX4_mendKey_1 : decode cX4_mendKey 1 = .ok (.bipush 31, 2) := by decide +kernel
theorem dX4_mendKey_3 : decode cX4_mendKey 3 = .ok (.invokestatic 100, 3) := by decide +kernel
theorem dX4_mendKey_6 : decode cX4_mendKey 6 = .ok (.ifCond .ne 6, 3) := by decide +kernel
theorem dX4_mendKey_9 : decode cX4_mendKey 9 = .ok (.ldc 106, 2) := by decide +kernel
theorem dX4_mendKey_11 : decode cX4_mendKey 11 = .ok (.ireturn, 1) := by decide +kernel
theorem dX4_mendKey_12 : decode cX4_mendKey 12 = .ok (.aload_n 0, 1) := by decide +kernel
theorem dX4_mendKey_13 : decode cX4_mendKey 13 = .ok (.invokevirtual 91, 3) := by decide +kernel
theorem dX4_mendKey_16 : decode cX4_mendKey 16 = .ok (.ifCond .eq 15, 3) := by decide +kernel
theorem dX4_mendKey_19 : decode cX4_mendKey 19 = .ok (.aload_n 0, 1) := by decide +kernel
theorem dX4_mendKey_20 : decode cX4_mendKey 20 = .ok (.getfield 26, 3) := by decide +kernel
theorem dX4_mendKey_23 : decode cX4_mendKey 23 = .ok (.iload_n 1, 1) := by decide +kernel
theorem dX4_mendKey_24 : decode cX4_mendKey 24 = .ok (.invokevirtual 157, 3) := by decide +kernel
theorem dX4_mendKey_27 : decode cX4_mendKey 27 = .ok (.iconst (-1), 1) := by decide +kernel
theorem dX4_mendKey_28 : decode cX4_mendKey 28 = .ok (.if_icmp .eq 6, 3) := by decide +kernel
theorem dX4_mendKey_31 : decode cX4_mendKey 31 = .ok (.ldc 77, 2) := by decide +kernel
theorem dX4_mendKey_33 : decode cX4_mendKey 33 = .ok (.ireturn, 1) := by decide +kernel
theorem dX4_mendKey_34 : decode cX4_mendKey 34 = .ok (.aload_n 0, 1) := by decide +kernel
theorem dX4_mendKey_35 : decode cX4_mendKey 35 = .ok (.invokevirtual 84, 3) := by decide +kernel
theorem dX4_mendKey_38 : decode cX4_mendKey 38 = .ok (.iconst 1, 1) := by decide +kernel
theorem dX4_mendKey_39 : decode cX4_mendKey 39 = .ok (.iload_n 1, 1) := by decide +kernel
theorem dX4_mendKey_40 : decode cX4_mendKey 40 = .ok (.ishl, 1) := by decide +kernel
theorem dX4_mendKey_41 : decode cX4_mendKey 41 = .ok (.iand, 1) := by decide +kernel
theorem dX4_mendKey_42 : decode cX4_mendKey 42 = .ok (.ifCond .ne 5, 3) := by decide +kernel
theorem dX4_mendKey_45 : decode cX4_mendKey 45 = .ok (.iconst 0, 1) := by decide +kernel
theorem dX4_mendKey_46 : decode cX4_mendKey 46 = .ok (.ireturn, 1) := by decide +kernel
theorem dX4_mendKey_47 : decode cX4_mendKey 47 = .ok (.aload_n 0, 1) := by decide +kernel
theorem dX4_mendKey_48 : decode cX4_mendKey 48 = .ok (.iload_n 1, 1) := by decide +kernel
theorem dX4_mendKey_49 : decode cX4_mendKey 49 = .ok (.invokevirtual 160, 3) := by decide +kernel
theorem dX4_mendKey_52 : decode cX4_mendKey 52 = .ok (.istore_n 2, 1) := by decide +kernel
theorem dX4_mendKey_53 : decode cX4_mendKey 53 = .ok (.aload_n 0, 1) := by decide +kernel
theorem dX4_mendKey_54 : decode cX4_mendKey 54 = .ok (.aload_n 0, 1) := by decide +kernel
theorem dX4_mendKey_55 : decode cX4_mendKey 55 = .ok (.iload_n 2, 1) := by decide +kernel
theorem dX4_mendKey_56 : decode cX4_mendKey 56 = .ok (.invokevirtual 73, 3) := by decide +kernel
theorem dX4_mendKey_59 : decode cX4_mendKey 59 = .ok (.invokevirtual 118, 3) := by decide +kernel
theorem dX4_mendKey_62 : decode cX4_mendKey 62 = .ok (.aload_n 0, 1) := by decide +kernel
theorem dX4_mendKey_63 : decode cX4_mendKey 63 = .ok (.iload_n 2, 1) := by decide +kernel
theorem dX4_mendKey_64 : decode cX4_mendKey 64 = .ok (.invokevirtual 118, 3) := by decide +kernel
theorem dX4_mendKey_67 : decode cX4_mendKey 67 = .ok (.iload_n 1, 1) := by decide +kernel
theorem dX4_mendKey_68 : decode cX4_mendKey 68 = .ok (.invokevirtual 153, 3) := by decide +kernel
theorem dX4_mendKey_71 : decode cX4_mendKey 71 = .ok (.iconst 1, 1) := by decide +kernel
theorem dX4_mendKey_72 : decode cX4_mendKey 72 = .ok (.ireturn, 1) := by decide +kernel
theorem dX4_newerOf_0 : decode cX4_newerOf 0 = .ok (.aload_n 0, 1) := by decide +kernel
theorem dX4_newerOf_1 : decode cX4_newerOf 1 = .ok (.getfield 14, 3) := by decide +kernel
theorem dX4_newerOf_4 : decode cX4_newerOf 4 = .ok (.getfield 152, 3) := by decide +kernel
theorem dX4_newerOf_7 : decode cX4_newerOf 7 = .ok (.iload_n 1, 1) := by decide +kernel
theorem dX4_newerOf_8 : decode cX4_newerOf 8 = .ok (.iaload, 1) := by decide +kernel
theorem dX4_newerOf_9 : decode cX4_newerOf 9 = .ok (.istore_n 2, 1) := by decide +kernel
theorem dX4_newerOf_10 : decode cX4_newerOf 10 = .ok (.aload_n 0, 1) := by decide +kernel
theorem dX4_newerOf_11 : decode cX4_newerOf 11 = .ok (.getfield 20, 3) := by decide +kernel
theorem dX4_newerOf_14 : decode cX4_newerOf 14 = .ok (.getfield 152, 3) := by decide +kernel
theorem dX4_newerOf_17 : decode cX4_newerOf 17 = .ok (.iload_n 1, 1) := by decide +kernel
theorem dX4_newerOf_18 : decode cX4_newerOf 18 = .ok (.iaload, 1) := by decide +kernel
theorem dX4_newerOf_19 : decode cX4_newerOf 19 = .ok (.istore_n 3, 1) := by decide +kernel
theorem dX4_newerOf_20 : decode cX4_newerOf 20 = .ok (.iload_n 2, 1) := by decide +kernel
theorem dX4_newerOf_21 : decode cX4_newerOf 21 = .ok (.iload_n 3, 1) := by decide +kernel
theorem dX4_newerOf_22 : decode cX4_newerOf 22 = .ok (.if_icmp .ne 8, 3) := by decide +kernel
theorem dX4_newerOf_25 : decode cX4_newerOf 25 = .ok (.aload_n 0, 1) := by decide +kernel
theorem dX4_newerOf_26 : decode cX4_newerOf 26 = .ok (.invokevirtual 69, 3) := by decide +kernel
theorem dX4_newerOf_29 : decode cX4_newerOf 29 = .ok (.ireturn, 1) := by decide +kernel
theorem dX4_newerOf_30 : decode cX4_newerOf 30 = .ok (.iload_n 2, 1) := by decide +kernel
theorem dX4_newerOf_31 : decode cX4_newerOf 31 = .ok (.iload_n 3, 1) := by decide +kernel
theorem dX4_newerOf_32 : decode cX4_newerOf 32 = .ok (.if_icmp .le 7, 3) := by decide +kernel
theorem dX4_newerOf_35 : decode cX4_newerOf 35 = .ok (.iconst 0, 1) := by decide +kernel
theorem dX4_newerOf_36 : decode cX4_newerOf 36 = .ok (.goto 4, 3) := by decide +kernel
theorem dX4_newerOf_39 : decode cX4_newerOf 39 = .ok (.iconst 1, 1) := by decide +kernel
theorem dX4_newerOf_40 : decode cX4_newerOf 40 = .ok (.ireturn, 1) := by decide +kernel
theorem dX4_rowRead_0 : decode cX4_rowRead 0 = .ok (.aload_n 0, 1) := by decide +kernel
theorem dX4_rowRead_1 : decode cX4_rowRead 1 = .ok (.getfield 26, 3) := by decide +kernel
theorem dX4_rowRead_4 : decode cX4_rowRead 4 = .ok (.iload_n 1, 1) := by decide +kernel
theorem dX4_rowRead_5 : decode cX4_rowRead 5 = .ok (.invokevirtual 157, 3) := by decide +kernel
theorem dX4_rowRead_8 : decode cX4_rowRead 8 = .ok (.istore_n 3, 1) := by decide +kernel
theorem dX4_rowRead_9 : decode cX4_rowRead 9 = .ok (.iload_n 3, 1) := by decide +kernel
theorem dX4_rowRead_10 : decode cX4_rowRead 10 = .ok (.iconst (-1), 1) := by decide +kernel
theorem dX4_rowRead_11 : decode cX4_rowRead 11 = .ok (.if_icmp .eq 25, 3) := by decide +kernel
theorem dX4_rowRead_14 : decode cX4_rowRead 14 = .ok (.iload_n 2, 1) := by decide +kernel
theorem dX4_rowRead_15 : decode cX4_rowRead 15 = .ok (.aload_n 0, 1) := by decide +kernel
theorem dX4_rowRead_16 : decode cX4_rowRead 16 = .ok (.invokevirtual 139, 3) := by decide +kernel
theorem dX4_rowRead_19 : decode cX4_rowRead 19 = .ok (.if_icmp .ne 17, 3) := by decide +kernel
theorem dX4_rowRead_22 : decode cX4_rowRead 22 = .ok (.aload_n 0, 1) := by decide +kernel
theorem dX4_rowRead_23 : decode cX4_rowRead 23 = .ok (.getfield 26, 3) := by decide +kernel
theorem dX4_rowRead_26 : decode cX4_rowRead 26 = .ok (.getfield 148, 3) := by decide +kernel
theorem dX4_rowRead_29 : decode cX4_rowRead 29 = .ok (.iload_n 3, 1) := by decide +kernel
theorem dX4_rowRead_30 : decode cX4_rowRead 30 = .ok (.iaload, 1) := by decide +kernel
theorem dX4_rowRead_31 : decode cX4_rowRead 31 = .ok (.iload_n 2, 1) := by decide +kernel
theorem dX4_rowRead_32 : decode cX4_rowRead 32 = .ok (.invokestatic 163, 3) := by decide +kernel
theorem dX4_rowRead_35 : decode cX4_rowRead 35 = .ok (.ireturn, 1) := by decide +kernel
theorem dX4_rowRead_36 : decode cX4_rowRead 36 = .ok (.aload_n 0, 1) := by decide +kernel
theorem dX4_rowRead_37 : decode cX4_rowRead 37 = .ok (.getfield 40, 3) := by decide +kernel
theorem dX4_rowRead_40 : decode cX4_rowRead 40 = .ok (.iconst 1, 1) := by decide +kernel
theorem dX4_rowRead_41 : decode cX4_rowRead 41 = .ok (.if_icmp .ne 24, 3) := by decide +kernel
theorem dX4_rowRead_44 : decode cX4_rowRead 44 = .ok (.iload_n 2, 1) := by decide +kernel
theorem dX4_rowRead_45 : decode cX4_rowRead 45 = .ok (.iconst 1, 1) := by decide +kernel
theorem dX4_rowRead_46 : decode cX4_rowRead 46 = .ok (.if_icmp .ne 19, 3) := by decide +kernel
theorem dX4_rowRead_49 : decode cX4_rowRead 49 = .ok (.aload_n 0, 1) := by decide +kernel
theorem dX4_rowRead_50 : decode cX4_rowRead 50 = .ok (.getfield 20, 3) := by decide +kernel
theorem dX4_rowRead_53 : decode cX4_rowRead 53 = .ok (.getfield 152, 3) := by decide +kernel
theorem dX4_rowRead_56 : decode cX4_rowRead 56 = .ok (.iload_n 1, 1) := by decide +kernel
theorem dX4_rowRead_57 : decode cX4_rowRead 57 = .ok (.iaload, 1) := by decide +kernel
theorem dX4_rowRead_58 : decode cX4_rowRead 58 = .ok (.ifCond .ne 7, 3) := by decide +kernel
theorem dX4_rowRead_61 : decode cX4_rowRead 61 = .ok (.iconst 1, 1) := by decide +kernel
theorem dX4_rowRead_62 : decode cX4_rowRead 62 = .ok (.goto 4, 3) := by decide +kernel
theorem dX4_rowRead_65 : decode cX4_rowRead 65 = .ok (.iconst 0, 1) := by decide +kernel
theorem dX4_rowRead_66 : decode cX4_rowRead 66 = .ok (.istore 4, 2) := by decide +kernel
theorem dX4_rowRead_68 : decode cX4_rowRead 68 = .ok (.iload 4, 2) := by decide +kernel
theorem dX4_rowRead_70 : decode cX4_rowRead 70 = .ok (.ifCond .ne 11, 3) := by decide +kernel
theorem dX4_rowRead_73 : decode cX4_rowRead 73 = .ok (.aload_n 0, 1) := by decide +kernel
theorem dX4_rowRead_74 : decode cX4_rowRead 74 = .ok (.iload_n 2, 1) := by decide +kernel
theorem dX4_rowRead_75 : decode cX4_rowRead 75 = .ok (.invokevirtual 166, 3) := by decide +kernel
theorem dX4_rowRead_78 : decode cX4_rowRead 78 = .ok (.ifCond .ne 11, 3) := by decide +kernel
theorem dX4_rowRead_81 : decode cX4_rowRead 81 = .ok (.aload_n 0, 1) := by decide +kernel
theorem dX4_rowRead_82 : decode cX4_rowRead 82 = .ok (.iload_n 2, 1) := by decide +kernel
theorem dX4_rowRead_83 : decode cX4_rowRead 83 = .ok (.invokevirtual 73, 3) := by decide +kernel
theorem dX4_rowRead_86 : decode cX4_rowRead 86 = .ok (.goto 4, 3) := by decide +kernel
theorem dX4_rowRead_89 : decode cX4_rowRead 89 = .ok (.iload_n 2, 1) := by decide +kernel
theorem dX4_rowRead_90 : decode cX4_rowRead 90 = .ok (.istore 5, 2) := by decide +kernel
theorem dX4_rowRead_92 : decode cX4_rowRead 92 = .ok (.aload_n 0, 1) := by decide +kernel
theorem dX4_rowRead_93 : decode cX4_rowRead 93 = .ok (.iload 5, 2) := by decide +kernel
theorem dX4_rowRead_95 : decode cX4_rowRead 95 = .ok (.invokevirtual 118, 3) := by decide +kernel
theorem dX4_rowRead_98 : decode cX4_rowRead 98 = .ok (.getfield 122, 3) := by decide +kernel
theorem dX4_rowRead_101 : decode cX4_rowRead 101 = .ok (.iload_n 1, 1) := by decide +kernel
theorem dX4_rowRead_102 : decode cX4_rowRead 102 = .ok (.iaload, 1) := by decide +kernel
theorem dX4_rowRead_103 : decode cX4_rowRead 103 = .ok (.iload_n 2, 1) := by decide +kernel
theorem dX4_rowRead_104 : decode cX4_rowRead 104 = .ok (.invokestatic 163, 3) := by decide +kernel
theorem dX4_rowRead_107 : decode cX4_rowRead 107 = .ok (.ireturn, 1) := by decide +kernel
theorem dX4_keysRead_0 : decode cX4_keysRead 0 = .ok (.iconst 0, 1) := by decide +kernel
theorem dX4_keysRead_1 : decode cX4_keysRead 1 = .ok (.istore_n 2, 1) := by decide +kernel
theorem dX4_keysRead_2 : decode cX4_keysRead 2 = .ok (.iconst 0, 1) := by decide +kernel
theorem dX4_keysRead_3 : decode cX4_keysRead 3 = .ok (.istore_n 3, 1) := by decide +kernel
theorem dX4_keysRead_4 : decode cX4_keysRead 4 = .ok (.iload_n 3, 1) := by decide +kernel
theorem dX4_keysRead_5 : decode cX4_keysRead 5 = .ok (.bipush 31, 2) := by decide +kernel
theorem dX4_keysRead_7 : decode cX4_keysRead 7 = .ok (.if_icmp .ge 25, 3) := by decide +kernel
theorem dX4_keysRead_10 : decode cX4_keysRead 10 = .ok (.aload_n 0, 1) := by decide +kernel
theorem dX4_keysRead_11 : decode cX4_keysRead 11 = .ok (.iload_n 3, 1) := by decide +kernel
theorem dX4_keysRead_12 : decode cX4_keysRead 12 = .ok (.iload_n 1, 1) := by decide +kernel
theorem dX4_keysRead_13 : decode cX4_keysRead 13 = .ok (.invokevirtual 170, 3) := by decide +kernel
theorem dX4_keysRead_16 : decode cX4_keysRead 16 = .ok (.iconst (-1), 1) := by decide +kernel
theorem dX4_keysRead_17 : decode cX4_keysRead 17 = .ok (.if_icmp .eq 9, 3) := by decide +kernel
theorem dX4_keysRead_20 : decode cX4_keysRead 20 = .ok (.iload_n 2, 1) := by decide +kernel
theorem dX4_keysRead_21 : decode cX4_keysRead 21 = .ok (.iconst 1, 1) := by decide +kernel
theorem dX4_keysRead_22 : decode cX4_keysRead 22 = .ok (.iload_n 3, 1) := by decide +kernel
theorem dX4_keysRead_23 : decode cX4_keysRead 23 = .ok (.ishl, 1) := by decide +kernel
theorem dX4_keysRead_24 : decode cX4_keysRead 24 = .ok (.ior, 1) := by decide +kernel
theorem dX4_keysRead_25 : decode cX4_keysRead 25 = .ok (.istore_n 2, 1) := by decide +kernel
theorem dX4_keysRead_26 : decode cX4_keysRead 26 = .ok (.iinc 3 1, 3) := by decide +kernel
theorem dX4_keysRead_29 : decode cX4_keysRead 29 = .ok (.goto (-25), 3) := by decide +kernel
theorem dX4_keysRead_32 : decode cX4_keysRead 32 = .ok (.iload_n 2, 1) := by decide +kernel
theorem dX4_keysRead_33 : decode cX4_keysRead 33 = .ok (.ireturn, 1) := by decide +kernel
theorem dX4_quarrelling_0 : decode cX4_quarrelling 0 = .ok (.iconst 0, 1) := by decide +kernel
theorem dX4_quarrelling_1 : decode cX4_quarrelling 1 = .ok (.istore_n 1, 1) := by decide +kernel
theorem dX4_quarrelling_2 : decode cX4_quarrelling 2 = .ok (.iconst 0, 1) := by decide +kernel
theorem dX4_quarrelling_3 : decode cX4_quarrelling 3 = .ok (.istore_n 2, 1) := by decide +kernel
theorem dX4_quarrelling_4 : decode cX4_quarrelling 4 = .ok (.iload_n 2, 1) := by decide +kernel
theorem dX4_quarrelling_5 : decode cX4_quarrelling 5 = .ok (.bipush 31, 2) := by decide +kernel
theorem dX4_quarrelling_7 : decode cX4_quarrelling 7 = .ok (.if_icmp .ge 34, 3) := by decide +kernel
theorem dX4_quarrelling_10 : decode cX4_quarrelling 10 = .ok (.aload_n 0, 1) := by decide +kernel
theorem dX4_quarrelling_11 : decode cX4_quarrelling 11 = .ok (.iload_n 2, 1) := by decide +kernel
theorem dX4_quarrelling_12 : decode cX4_quarrelling 12 = .ok (.iconst 0, 1) := by decide +kernel
theorem dX4_quarrelling_13 : decode cX4_quarrelling 13 = .ok (.invokevirtual 170, 3) := by decide +kernel
theorem dX4_quarrelling_16 : decode cX4_quarrelling 16 = .ok (.aload_n 0, 1) := by decide +kernel
theorem dX4_quarrelling_17 : decode cX4_quarrelling 17 = .ok (.iload_n 2, 1) := by decide +kernel
theorem dX4_quarrelling_18 : decode cX4_quarrelling 18 = .ok (.iconst 1, 1) := by decide +kernel
theorem dX4_quarrelling_19 : decode cX4_quarrelling 19 = .ok (.invokevirtual 170, 3) := by decide +kernel
theorem dX4_quarrelling_22 : decode cX4_quarrelling 22 = .ok (.iconst 0, 1) := by decide +kernel
theorem dX4_quarrelling_23 : decode cX4_quarrelling 23 = .ok (.invokestatic 163, 3) := by decide +kernel
theorem dX4_quarrelling_26 : decode cX4_quarrelling 26 = .ok (.if_icmp .eq 9, 3) := by decide +kernel
theorem dX4_quarrelling_29 : decode cX4_quarrelling 29 = .ok (.iload_n 1, 1) := by decide +kernel
theorem dX4_quarrelling_30 : decode cX4_quarrelling 30 = .ok (.iconst 1, 1) := by decide +kernel
theorem dX4_quarrelling_31 : decode cX4_quarrelling 31 = .ok (.iload_n 2, 1) := by decide +kernel
theorem dX4_quarrelling_32 : decode cX4_quarrelling 32 = .ok (.ishl, 1) := by decide +kernel
theorem dX4_quarrelling_33 : decode cX4_quarrelling 33 = .ok (.ior, 1) := by decide +kernel
theorem dX4_quarrelling_34 : decode cX4_quarrelling 34 = .ok (.istore_n 1, 1) := by decide +kernel
theorem dX4_quarrelling_35 : decode cX4_quarrelling 35 = .ok (.iinc 2 1, 3) := by decide +kernel
theorem dX4_quarrelling_38 : decode cX4_quarrelling 38 = .ok (.goto (-34), 3) := by decide +kernel
theorem dX4_quarrelling_41 : decode cX4_quarrelling 41 = .ok (.iload_n 1, 1) := by decide +kernel
theorem dX4_quarrelling_42 : decode cX4_quarrelling 42 = .ok (.ireturn, 1) := by decide +kernel
theorem dX4_differing_0 : decode cX4_differing 0 = .ok (.iconst 0, 1) := by decide +kernel
theorem dX4_differing_1 : decode cX4_differing 1 = .ok (.istore_n 1, 1) := by decide +kernel
theorem dX4_differing_2 : decode cX4_differing 2 = .ok (.iconst 0, 1) := by decide +kernel
theorem dX4_differing_3 : decode cX4_differing 3 = .ok (.istore_n 2, 1) := by decide +kernel
theorem dX4_differing_4 : decode cX4_differing 4 = .ok (.iload_n 2, 1) := by decide +kernel
theorem dX4_differing_5 : decode cX4_differing 5 = .ok (.bipush 31, 2) := by decide +kernel
theorem dX4_differing_7 : decode cX4_differing 7 = .ok (.if_icmp .ge 71, 3) := by decide +kernel
theorem dX4_differing_10 : decode cX4_differing 10 = .ok (.aload_n 0, 1) := by decide +kernel
theorem dX4_differing_11 : decode cX4_differing 11 = .ok (.getfield 14, 3) := by decide +kernel
theorem dX4_differing_14 : decode cX4_differing 14 = .ok (.getfield 152, 3) := by decide +kernel
theorem dX4_differing_17 : decode cX4_differing 17 = .ok (.iload_n 2, 1) := by decide +kernel
theorem dX4_differing_18 : decode cX4_differing 18 = .ok (.iaload, 1) := by decide +kernel
theorem dX4_differing_19 : decode cX4_differing 19 = .ok (.aload_n 0, 1) := by decide +kernel
theorem dX4_differing_20 : decode cX4_differing 20 = .ok (.getfield 20, 3) := by decide +kernel
theorem dX4_differing_23 : decode cX4_differing 23 = .ok (.getfield 152, 3) := by decide +kernel
theorem dX4_differing_26 : decode cX4_differing 26 = .ok (.iload_n 2, 1) := by decide +kernel
theorem dX4_differing_27 : decode cX4_differing 27 = .ok (.iaload, 1) := by decide +kernel
theorem dX4_differing_28 : decode cX4_differing 28 = .ok (.if_icmp .eq 7, 3) := by decide +kernel
theorem dX4_differing_31 : decode cX4_differing 31 = .ok (.iconst 1, 1) := by decide +kernel
theorem dX4_differing_32 : decode cX4_differing 32 = .ok (.goto 4, 3) := by decide +kernel
theorem dX4_differing_35 : decode cX4_differing 35 = .ok (.iconst 0, 1) := by decide +kernel
theorem dX4_differing_36 : decode cX4_differing 36 = .ok (.istore_n 3, 1) := by decide +kernel
theorem dX4_differing_37 : decode cX4_differing 37 = .ok (.iload_n 3, 1) := by decide +kernel
theorem dX4_differing_38 : decode cX4_differing 38 = .ok (.ifCond .ne 28, 3) := by decide +kernel
theorem dX4_differing_41 : decode cX4_differing 41 = .ok (.aload_n 0, 1) := by decide +kernel
theorem dX4_differing_42 : decode cX4_differing 42 = .ok (.getfield 14, 3) := by decide +kernel
theorem dX4_differing_45 : decode cX4_differing 45 = .ok (.getfield 122, 3) := by decide +kernel
theorem dX4_differing_48 : decode cX4_differing 48 = .ok (.iload_n 2, 1) := by decide +kernel
theorem dX4_differing_49 : decode cX4_differing 49 = .ok (.iaload, 1) := by decide +kernel
theorem dX4_differing_50 : decode cX4_differing 50 = .ok (.aload_n 0, 1) := by decide +kernel
theorem dX4_differing_51 : decode cX4_differing 51 = .ok (.getfield 20, 3) := by decide +kernel
theorem dX4_differing_54 : decode cX4_differing 54 = .ok (.getfield 122, 3) := by decide +kernel
theorem dX4_differing_57 : decode cX4_differing 57 = .ok (.iload_n 2, 1) := by decide +kernel
theorem dX4_differing_58 : decode cX4_differing 58 = .ok (.iaload, 1) := by decide +kernel
theorem dX4_differing_59 : decode cX4_differing 59 = .ok (.iconst 0, 1) := by decide +kernel
theorem dX4_differing_60 : decode cX4_differing 60 = .ok (.invokestatic 163, 3) := by decide +kernel
theorem dX4_differing_63 : decode cX4_differing 63 = .ok (.if_icmp .eq 9, 3) := by decide +kernel
theorem dX4_differing_66 : decode cX4_differing 66 = .ok (.iload_n 1, 1) := by decide +kernel
theorem dX4_differing_67 : decode cX4_differing 67 = .ok (.iconst 1, 1) := by decide +kernel
theorem dX4_differing_68 : decode cX4_differing 68 = .ok (.iload_n 2, 1) := by decide +kernel
theorem dX4_differing_69 : decode cX4_differing 69 = .ok (.ishl, 1) := by decide +kernel
theorem dX4_differing_70 : decode cX4_differing 70 = .ok (.ior, 1) := by decide +kernel
theorem dX4_differing_71 : decode cX4_differing 71 = .ok (.istore_n 1, 1) := by decide +kernel
theorem dX4_differing_72 : decode cX4_differing 72 = .ok (.iinc 2 1, 3) := by decide +kernel
theorem dX4_differing_75 : decode cX4_differing 75 = .ok (.goto (-71), 3) := by decide +kernel
theorem dX4_differing_78 : decode cX4_differing 78 = .ok (.iload_n 1, 1) := by decide +kernel
theorem dX4_differing_79 : decode cX4_differing 79 = .ok (.ireturn, 1) := by decide +kernel
theorem dX4_risky_0 : decode cX4_risky 0 = .ok (.iconst 0, 1) := by decide +kernel
theorem dX4_risky_1 : decode cX4_risky 1 = .ok (.istore_n 1, 1) := by decide +kernel
theorem dX4_risky_2 : decode cX4_risky 2 = .ok (.iconst 0, 1) := by decide +kernel
theorem dX4_risky_3 : decode cX4_risky 3 = .ok (.istore_n 2, 1) := by decide +kernel
theorem dX4_risky_4 : decode cX4_risky 4 = .ok (.iload_n 2, 1) := by decide +kernel
theorem dX4_risky_5 : decode cX4_risky 5 = .ok (.bipush 31, 2) := by decide +kernel
theorem dX4_risky_7 : decode cX4_risky 7 = .ok (.if_icmp .ge 33, 3) := by decide +kernel
theorem dX4_risky_10 : decode cX4_risky 10 = .ok (.aload_n 0, 1) := by decide +kernel
theorem dX4_risky_11 : decode cX4_risky 11 = .ok (.getfield 14, 3) := by decide +kernel
theorem dX4_risky_14 : decode cX4_risky 14 = .ok (.getfield 152, 3) := by decide +kernel
theorem dX4_risky_17 : decode cX4_risky 17 = .ok (.iload_n 2, 1) := by decide +kernel
theorem dX4_risky_18 : decode cX4_risky 18 = .ok (.iaload, 1) := by decide +kernel
theorem dX4_risky_19 : decode cX4_risky 19 = .ok (.aload_n 0, 1) := by decide +kernel
theorem dX4_risky_20 : decode cX4_risky 20 = .ok (.getfield 30, 3) := by decide +kernel
theorem dX4_risky_23 : decode cX4_risky 23 = .ok (.iload_n 2, 1) := by decide +kernel
theorem dX4_risky_24 : decode cX4_risky 24 = .ok (.iaload, 1) := by decide +kernel
theorem dX4_risky_25 : decode cX4_risky 25 = .ok (.if_icmp .eq 9, 3) := by decide +kernel
theorem dX4_risky_28 : decode cX4_risky 28 = .ok (.iload_n 1, 1) := by decide +kernel
theorem dX4_risky_29 : decode cX4_risky 29 = .ok (.iconst 1, 1) := by decide +kernel
theorem dX4_risky_30 : decode cX4_risky 30 = .ok (.iload_n 2, 1) := by decide +kernel
theorem dX4_risky_31 : decode cX4_risky 31 = .ok (.ishl, 1) := by decide +kernel
theorem dX4_risky_32 : decode cX4_risky 32 = .ok (.ior, 1) := by decide +kernel
theorem dX4_risky_33 : decode cX4_risky 33 = .ok (.istore_n 1, 1) := by decide +kernel
theorem dX4_risky_34 : decode cX4_risky 34 = .ok (.iinc 2 1, 3) := by decide +kernel
theorem dX4_risky_37 : decode cX4_risky 37 = .ok (.goto (-33), 3) := by decide +kernel
theorem dX4_risky_40 : decode cX4_risky 40 = .ok (.iload_n 1, 1) := by decide +kernel
theorem dX4_risky_41 : decode cX4_risky 41 = .ok (.ireturn, 1) := by decide +kernel
theorem dX4_startWalk_0 : decode cX4_startWalk 0 = .ok (.iload_n 1, 1) := by decide +kernel
theorem dX4_startWalk_1 : decode cX4_startWalk 1 = .ok (.iconst 3, 1) := by decide +kernel
theorem dX4_startWalk_2 : decode cX4_startWalk 2 = .ok (.invokestatic 100, 3) := by decide +kernel
theorem dX4_startWalk_5 : decode cX4_startWalk 5 = .ok (.ifCond .eq 11, 3) := by decide +kernel
theorem dX4_startWalk_8 : decode cX4_startWalk 8 = .ok (.iload_n 2, 1) := by decide +kernel
theorem dX4_startWalk_9 : decode cX4_startWalk 9 = .ok (.iconst 2, 1) := by decide +kernel
theorem dX4_startWalk_10 : decode cX4_startWalk 10 = .ok (.invokestatic 100, 3) := by decide +kernel
theorem dX4_startWalk_13 : decode cX4_startWalk 13 = .ok (.ifCond .ne 6, 3) := by decide +kernel
theorem dX4_startWalk_16 : decode cX4_startWalk 16 = .ok (.ldc 106, 2) := by decide +kernel
theorem dX4_startWalk_18 : decode cX4_startWalk 18 = .ok (.ireturn, 1) := by decide +kernel
theorem dX4_startWalk_19 : decode cX4_startWalk 19 = .ok (.aload_n 0, 1) := by decide +kernel
theorem dX4_startWalk_20 : decode cX4_startWalk 20 = .ok (.dup, 1) := by decide +kernel
theorem dX4_startWalk_21 : decode cX4_startWalk 21 = .ok (.getfield 66, 3) := by decide +kernel
theorem dX4_startWalk_24 : decode cX4_startWalk 24 = .ok (.iconst 1, 1) := by decide +kernel
theorem dX4_startWalk_25 : decode cX4_startWalk 25 = .ok (.iload_n 1, 1) := by decide +kernel
theorem dX4_startWalk_26 : decode cX4_startWalk 26 = .ok (.ishl, 1) := by decide +kernel
theorem dX4_startWalk_27 : decode cX4_startWalk 27 = .ok (.ior, 1) := by decide +kernel
theorem dX4_startWalk_28 : decode cX4_startWalk 28 = .ok (.putfield 66, 3) := by decide +kernel
theorem dX4_startWalk_31 : decode cX4_startWalk 31 = .ok (.aload_n 0, 1) := by decide +kernel
theorem dX4_startWalk_32 : decode cX4_startWalk 32 = .ok (.getfield 34, 3) := by decide +kernel
theorem dX4_startWalk_35 : decode cX4_startWalk 35 = .ok (.iload_n 1, 1) := by decide +kernel
theorem dX4_startWalk_36 : decode cX4_startWalk 36 = .ok (.iload_n 2, 1) := by decide +kernel
theorem dX4_startWalk_37 : decode cX4_startWalk 37 = .ok (.iastore, 1) := by decide +kernel
theorem dX4_startWalk_38 : decode cX4_startWalk 38 = .ok (.aload_n 0, 1) := by decide +kernel
theorem dX4_startWalk_39 : decode cX4_startWalk 39 = .ok (.getfield 37, 3) := by decide +kernel
theorem dX4_startWalk_42 : decode cX4_startWalk 42 = .ok (.iload_n 1, 1) := by decide +kernel
theorem dX4_startWalk_43 : decode cX4_startWalk 43 = .ok (.iconst (-1), 1) := by decide +kernel
theorem dX4_startWalk_44 : decode cX4_startWalk 44 = .ok (.iastore, 1) := by decide +kernel
theorem dX4_startWalk_45 : decode cX4_startWalk 45 = .ok (.aload_n 0, 1) := by decide +kernel
theorem dX4_startWalk_46 : decode cX4_startWalk 46 = .ok (.iload_n 2, 1) := by decide +kernel
theorem dX4_startWalk_47 : decode cX4_startWalk 47 = .ok (.invokevirtual 173, 3) := by decide +kernel
theorem dX4_startWalk_50 : decode cX4_startWalk 50 = .ok (.invokestatic 176, 3) := by decide +kernel
theorem dX4_startWalk_53 : decode cX4_startWalk 53 = .ok (.ireturn, 1) := by decide +kernel
theorem dX4_goOn_0 : decode cX4_goOn 0 = .ok (.iload_n 1, 1) := by decide +kernel
theorem dX4_goOn_1 : decode cX4_goOn 1 = .ok (.iconst 3, 1) := by decide +kernel
theorem dX4_goOn_2 : decode cX4_goOn 2 = .ok (.invokestatic 100, 3) := by decide +kernel
theorem dX4_goOn_5 : decode cX4_goOn 5 = .ok (.ifCond .ne 6, 3) := by decide +kernel
theorem dX4_goOn_8 : decode cX4_goOn 8 = .ok (.ldc 106, 2) := by decide +kernel
theorem dX4_goOn_10 : decode cX4_goOn 10 = .ok (.ireturn, 1) := by decide +kernel
theorem dX4_goOn_11 : decode cX4_goOn 11 = .ok (.aload_n 0, 1) := by decide +kernel
theorem dX4_goOn_12 : decode cX4_goOn 12 = .ok (.getfield 66, 3) := by decide +kernel
theorem dX4_goOn_15 : decode cX4_goOn 15 = .ok (.iconst 1, 1) := by decide +kernel
theorem dX4_goOn_16 : decode cX4_goOn 16 = .ok (.iload_n 1, 1) := by decide +kernel
theorem dX4_goOn_17 : decode cX4_goOn 17 = .ok (.ishl, 1) := by decide +kernel
theorem dX4_goOn_18 : decode cX4_goOn 18 = .ok (.iand, 1) := by decide +kernel
theorem dX4_goOn_19 : decode cX4_goOn 19 = .ok (.ifCond .ne 6, 3) := by decide +kernel
theorem dX4_goOn_22 : decode cX4_goOn 22 = .ok (.ldc 77, 2) := by decide +kernel
theorem dX4_goOn_24 : decode cX4_goOn 24 = .ok (.ireturn, 1) := by decide +kernel
theorem dX4_goOn_25 : decode cX4_goOn 25 = .ok (.aload_n 0, 1) := by decide +kernel
theorem dX4_goOn_26 : decode cX4_goOn 26 = .ok (.getfield 37, 3) := by decide +kernel
theorem dX4_goOn_29 : decode cX4_goOn 29 = .ok (.iload_n 1, 1) := by decide +kernel
theorem dX4_goOn_30 : decode cX4_goOn 30 = .ok (.iaload, 1) := by decide +kernel
theorem dX4_goOn_31 : decode cX4_goOn 31 = .ok (.iconst 1, 1) := by decide +kernel
theorem dX4_goOn_32 : decode cX4_goOn 32 = .ok (.iadd, 1) := by decide +kernel
theorem dX4_goOn_33 : decode cX4_goOn 33 = .ok (.istore_n 2, 1) := by decide +kernel
theorem dX4_goOn_34 : decode cX4_goOn 34 = .ok (.iload_n 2, 1) := by decide +kernel
theorem dX4_goOn_35 : decode cX4_goOn 35 = .ok (.bipush 31, 2) := by decide +kernel
theorem dX4_goOn_37 : decode cX4_goOn 37 = .ok (.if_icmp .ge 33, 3) := by decide +kernel
theorem dX4_goOn_40 : decode cX4_goOn 40 = .ok (.aload_n 0, 1) := by decide +kernel
theorem dX4_goOn_41 : decode cX4_goOn 41 = .ok (.iload_n 2, 1) := by decide +kernel
theorem dX4_goOn_42 : decode cX4_goOn 42 = .ok (.aload_n 0, 1) := by decide +kernel
theorem dX4_goOn_43 : decode cX4_goOn 43 = .ok (.getfield 34, 3) := by decide +kernel
theorem dX4_goOn_46 : decode cX4_goOn 46 = .ok (.iload_n 1, 1) := by decide +kernel
theorem dX4_goOn_47 : decode cX4_goOn 47 = .ok (.iaload, 1) := by decide +kernel
theorem dX4_goOn_48 : decode cX4_goOn 48 = .ok (.invokevirtual 170, 3) := by decide +kernel
theorem dX4_goOn_51 : decode cX4_goOn 51 = .ok (.iconst (-1), 1) := by decide +kernel
theorem dX4_goOn_52 : decode cX4_goOn 52 = .ok (.if_icmp .eq 12, 3) := by decide +kernel
theorem dX4_goOn_55 : decode cX4_goOn 55 = .ok (.aload_n 0, 1) := by decide +kernel
theorem dX4_goOn_56 : decode cX4_goOn 56 = .ok (.getfield 37, 3) := by decide +kernel
theorem dX4_goOn_59 : decode cX4_goOn 59 = .ok (.iload_n 1, 1) := by decide +kernel
theorem dX4_goOn_60 : decode cX4_goOn 60 = .ok (.iload_n 2, 1) := by decide +kernel
theorem dX4_goOn_61 : decode cX4_goOn 61 = .ok (.iastore, 1) := by decide +kernel
theorem dX4_goOn_62 : decode cX4_goOn 62 = .ok (.iload_n 2, 1) := by decide +kernel
theorem dX4_goOn_63 : decode cX4_goOn 63 = .ok (.ireturn, 1) := by decide +kernel
theorem dX4_goOn_64 : decode cX4_goOn 64 = .ok (.iinc 2 1, 3) := by decide +kernel
theorem dX4_goOn_67 : decode cX4_goOn 67 = .ok (.goto (-33), 3) := by decide +kernel
theorem dX4_goOn_70 : decode cX4_goOn 70 = .ok (.aload_n 0, 1) := by decide +kernel
theorem dX4_goOn_71 : decode cX4_goOn 71 = .ok (.dup, 1) := by decide +kernel
theorem dX4_goOn_72 : decode cX4_goOn 72 = .ok (.getfield 66, 3) := by decide +kernel
theorem dX4_goOn_75 : decode cX4_goOn 75 = .ok (.iconst 1, 1) := by decide +kernel
theorem dX4_goOn_76 : decode cX4_goOn 76 = .ok (.iload_n 1, 1) := by decide +kernel
theorem dX4_goOn_77 : decode cX4_goOn 77 = .ok (.ishl, 1) := by decide +kernel
theorem dX4_goOn_78 : decode cX4_goOn 78 = .ok (.iconst (-1), 1) := by decide +kernel
theorem dX4_goOn_79 : decode cX4_goOn 79 = .ok (.ixor, 1) := by decide +kernel
theorem dX4_goOn_80 : decode cX4_goOn 80 = .ok (.iand, 1) := by decide +kernel
theorem dX4_goOn_81 : decode cX4_goOn 81 = .ok (.putfield 66, 3) := by decide +kernel
theorem dX4_goOn_84 : decode cX4_goOn 84 = .ok (.bipush 31, 2) := by decide +kernel
theorem dX4_goOn_86 : decode cX4_goOn 86 = .ok (.ireturn, 1) := by decide +kernel
theorem dX5_init_0 : decode cX5_init 0 = .ok (.aload_n 0, 1) := by decide +kernel
theorem dX5_init_1 : decode cX5_init 1 = .ok (.invokespecial 1, 3) := by decide +kernel
theorem dX5_init_4 : decode cX5_init 4 = .ok (.aload_n 0, 1) := by decide +kernel
theorem dX5_init_5 : decode cX5_init 5 = .ok (.iconst 4, 1) := by decide +kernel
theorem dX5_init_6 : decode cX5_init 6 = .ok (.anewarray 9, 3) := by decide +kernel
theorem dX5_init_9 : decode cX5_init 9 = .ok (.putfield 11, 3) := by decide +kernel
theorem dX5_init_12 : decode cX5_init 12 = .ok (.aload_n 0, 1) := by decide +kernel
theorem dX5_init_13 : decode cX5_init 13 = .ok (.new 9, 3) := by decide +kernel
theorem dX5_init_16 : decode cX5_init 16 = .ok (.dup, 1) := by decide +kernel
theorem dX5_init_17 : decode cX5_init 17 = .ok (.invokespecial 15, 3) := by decide +kernel
theorem dX5_init_20 : decode cX5_init 20 = .ok (.putfield 16, 3) := by decide +kernel
theorem dX5_init_23 : decode cX5_init 23 = .ok (.aload_n 0, 1) := by decide +kernel
theorem dX5_init_24 : decode cX5_init 24 = .ok (.new 9, 3) := by decide +kernel
theorem dX5_init_27 : decode cX5_init 27 = .ok (.dup, 1) := by decide +kernel
theorem dX5_init_28 : decode cX5_init 28 = .ok (.invokespecial 15, 3) := by decide +kernel
theorem dX5_init_31 : decode cX5_init 31 = .ok (.putfield 20, 3) := by decide +kernel
theorem dX5_init_34 : decode cX5_init 34 = .ok (.aload_n 0, 1) := by decide +kernel
theorem dX5_init_35 : decode cX5_init 35 = .ok (.new 23, 3) := by decide +kernel
theorem dX5_init_38 : decode cX5_init 38 = .ok (.dup, 1) := by decide +kernel
theorem dX5_init_39 : decode cX5_init 39 = .ok (.invokespecial 25, 3) := by decide +kernel
theorem dX5_init_42 : decode cX5_init 42 = .ok (.putfield 26, 3) := by decide +kernel
theorem dX5_init_45 : decode cX5_init 45 = .ok (.iconst 0, 1) := by decide +kernel
theorem dX5_init_46 : decode cX5_init 46 = .ok (.istore_n 1, 1) := by decide +kernel
theorem dX5_init_47 : decode cX5_init 47 = .ok (.iload_n 1, 1) := by decide +kernel
theorem dX5_init_48 : decode cX5_init 48 = .ok (.iconst 4, 1) := by decide +kernel
theorem dX5_init_49 : decode cX5_init 49 = .ok (.if_icmp .ge 22, 3) := by decide +kernel
theorem dX5_init_52 : decode cX5_init 52 = .ok (.aload_n 0, 1) := by decide +kernel
theorem dX5_init_53 : decode cX5_init 53 = .ok (.getfield 11, 3) := by decide +kernel
theorem dX5_init_56 : decode cX5_init 56 = .ok (.iload_n 1, 1) := by decide +kernel
theorem dX5_init_57 : decode cX5_init 57 = .ok (.new 9, 3) := by decide +kernel
theorem dX5_init_60 : decode cX5_init 60 = .ok (.dup, 1) := by decide +kernel
theorem dX5_init_61 : decode cX5_init 61 = .ok (.invokespecial 15, 3) := by decide +kernel
theorem dX5_init_64 : decode cX5_init 64 = .ok (.aastore, 1) := by decide +kernel
theorem dX5_init_65 : decode cX5_init 65 = .ok (.iinc 1 1, 3) := by decide +kernel
theorem dX5_init_68 : decode cX5_init 68 = .ok (.goto (-21), 3) := by decide +kernel
theorem dX5_init_71 : decode cX5_init 71 = .ok (.return_, 1) := by decide +kernel
theorem dX5_begin_0 : decode cX5_begin 0 = .ok (.aload_n 0, 1) := by decide +kernel
theorem dX5_begin_1 : decode cX5_begin 1 = .ok (.aload_n 0, 1) := by decide +kernel
theorem dX5_begin_2 : decode cX5_begin 2 = .ok (.invokevirtual 30, 3) := by decide +kernel
theorem dX5_begin_5 : decode cX5_begin 5 = .ok (.invokevirtual 34, 3) := by decide +kernel
theorem dX5_begin_8 : decode cX5_begin 8 = .ok (.invokevirtual 38, 3) := by decide +kernel
theorem dX5_begin_11 : decode cX5_begin 11 = .ok (.ireturn, 1) := by decide +kernel
theorem dX5_turn_0 : decode cX5_turn 0 = .ok (.aload_n 0, 1) := by decide +kernel
theorem dX5_turn_1 : decode cX5_turn 1 = .ok (.aload_n 0, 1) := by decide +kernel
theorem dX5_turn_2 : decode cX5_turn 2 = .ok (.invokevirtual 30, 3) := by decide +kernel
theorem dX5_turn_5 : decode cX5_turn 5 = .ok (.invokevirtual 42, 3) := by decide +kernel
theorem dX5_turn_8 : decode cX5_turn 8 = .ok (.invokevirtual 38, 3) := by decide +kernel
theorem dX5_turn_11 : decode cX5_turn 11 = .ok (.ireturn, 1) := by decide +kernel
theorem dX5_back_0 : decode cX5_back 0 = .ok (.aload_n 0, 1) := by decide +kernel
theorem dX5_back_1 : decode cX5_back 1 = .ok (.aload_n 0, 1) := by decide +kernel
theorem dX5_back_2 : decode cX5_back 2 = .ok (.invokevirtual 30, 3) := by decide +kernel
theorem dX5_back_5 : decode cX5_back 5 = .ok (.invokevirtual 45, 3) := by decide +kernel
theorem dX5_back_8 : decode cX5_back 8 = .ok (.invokevirtual 38, 3) := by decide +kernel
theorem dX5_back_11 : decode cX5_back 11 = .ok (.ireturn, 1) := by decide +kernel
theorem dX5_drop_0 : decode cX5_drop 0 = .ok (.aload_n 0, 1) := by decide +kernel
theorem dX5_drop_1 : decode cX5_drop 1 = .ok (.aload_n 0, 1) := by decide +kernel
theorem dX5_drop_2 : decode cX5_drop 2 = .ok (.invokevirtual 30, 3) := by decide +kernel
theorem dX5_drop_5 : decode cX5_drop 5 = .ok (.invokevirtual 48, 3) := by decide +kernel
theorem dX5_drop_8 : decode cX5_drop 8 = .ok (.invokevirtual 38, 3) := by decide +kernel
theorem dX5_drop_11 : decode cX5_drop 11 = .ok (.ireturn, 1) := by decide +kernel
theorem dX5_writeOld_0 : decode cX5_writeOld 0 = .ok (.aload_n 0, 1) := by decide +kernel
theorem dX5_writeOld_1 : decode cX5_writeOld 1 = .ok (.aload_n 0, 1) := by decide +kernel
theorem dX5_writeOld_2 : decode cX5_writeOld 2 = .ok (.invokevirtual 30, 3) := by decide +kernel
theorem dX5_writeOld_5 : decode cX5_writeOld 5 = .ok (.iload_n 1, 1) := by decide +kernel
theorem dX5_writeOld_6 : decode cX5_writeOld 6 = .ok (.iload_n 2, 1) := by decide +kernel
theorem dX5_writeOld_7 : decode cX5_writeOld 7 = .ok (.iload_n 3, 1) := by decide +kernel
theorem dX5_writeOld_8 : decode cX5_writeOld 8 = .ok (.iload 4, 2) := by decide +kernel
theorem dX5_writeOld_10 : decode cX5_writeOld 10 = .ok (.invokevirtual 51, 3) := by decide +kernel
theorem dX5_writeOld_13 : decode cX5_writeOld 13 = .ok (.invokevirtual 38, 3) := by decide +kernel
theorem dX5_writeOld_16 : decode cX5_writeOld 16 = .ok (.ireturn, 1) := by decide +kernel
theorem dX5_writeNew_0 : decode cX5_writeNew 0 = .ok (.aload_n 0, 1) := by decide +kernel
theorem dX5_writeNew_1 : decode cX5_writeNew 1 = .ok (.aload_n 0, 1) := by decide +kernel
theorem dX5_writeNew_2 : decode cX5_writeNew 2 = .ok (.invokevirtual 30, 3) := by decide +kernel
theorem dX5_writeNew_5 : decode cX5_writeNew 5 = .ok (.iload_n 1, 1) := by decide +kernel
theorem dX5_writeNew_6 : decode cX5_writeNew 6 = .ok (.iload_n 2, 1) := by decide +kernel
theorem dX5_writeNew_7 : decode cX5_writeNew 7 = .ok (.iload_n 3, 1) := by decide +kernel
theorem dX5_writeNew_8 : decode cX5_writeNew 8 = .ok (.invokevirtual 55, 3) := by decide +kernel
theorem dX5_writeNew_11 : decode cX5_writeNew 11 = .ok (.invokevirtual 38, 3) := by decide +kernel
theorem dX5_writeNew_14 : decode cX5_writeNew 14 = .ok (.ireturn, 1) := by decide +kernel
theorem dX5_remove_0 : decode cX5_remove 0 = .ok (.aload_n 0, 1) := by decide +kernel
theorem dX5_remove_1 : decode cX5_remove 1 = .ok (.aload_n 0, 1) := by decide +kernel
theorem dX5_remove_2 : decode cX5_remove 2 = .ok (.invokevirtual 30, 3) := by decide +kernel
theorem dX5_remove_5 : decode cX5_remove 5 = .ok (.iload_n 1, 1) := by decide +kernel
theorem dX5_remove_6 : decode cX5_remove 6 = .ok (.invokevirtual 59, 3) := by decide +kernel
theorem dX5_remove_9 : decode cX5_remove 9 = .ok (.invokevirtual 38, 3) := by decide +kernel
theorem dX5_remove_12 : decode cX5_remove 12 = .ok (.ireturn, 1) := by decide +kernel
theorem dX5_drain_0 : decode cX5_drain 0 = .ok (.aload_n 0, 1) := by decide +kernel
theorem dX5_drain_1 : decode cX5_drain 1 = .ok (.aload_n 0, 1) := by decide +kernel
theorem dX5_drain_2 : decode cX5_drain 2 = .ok (.invokevirtual 30, 3) := by decide +kernel
theorem dX5_drain_5 : decode cX5_drain 5 = .ok (.iload_n 1, 1) := by decide +kernel
theorem dX5_drain_6 : decode cX5_drain 6 = .ok (.invokevirtual 62, 3) := by decide +kernel
theorem dX5_drain_9 : decode cX5_drain 9 = .ok (.invokevirtual 38, 3) := by decide +kernel
theorem dX5_drain_12 : decode cX5_drain 12 = .ok (.ireturn, 1) := by decide +kernel
theorem dX5_backfill_0 : decode cX5_backfill 0 = .ok (.aload_n 0, 1) := by decide +kernel
theorem dX5_backfill_1 : decode cX5_backfill 1 = .ok (.aload_n 0, 1) := by decide +kernel
theorem dX5_backfill_2 : decode cX5_backfill 2 = .ok (.invokevirtual 30, 3) := by decide +kernel
theorem dX5_backfill_5 : decode cX5_backfill 5 = .ok (.iload_n 1, 1) := by decide +kernel
theorem dX5_backfill_6 : decode cX5_backfill 6 = .ok (.invokevirtual 65, 3) := by decide +kernel
theorem dX5_backfill_9 : decode cX5_backfill 9 = .ok (.invokevirtual 38, 3) := by decide +kernel
theorem dX5_backfill_12 : decode cX5_backfill 12 = .ok (.ireturn, 1) := by decide +kernel
theorem dX5_crash_0 : decode cX5_crash 0 = .ok (.aload_n 0, 1) := by decide +kernel
theorem dX5_crash_1 : decode cX5_crash 1 = .ok (.aload_n 0, 1) := by decide +kernel
theorem dX5_crash_2 : decode cX5_crash 2 = .ok (.invokevirtual 30, 3) := by decide +kernel
theorem dX5_crash_5 : decode cX5_crash 5 = .ok (.invokevirtual 68, 3) := by decide +kernel
theorem dX5_crash_8 : decode cX5_crash 8 = .ok (.invokevirtual 38, 3) := by decide +kernel
theorem dX5_crash_11 : decode cX5_crash 11 = .ok (.ireturn, 1) := by decide +kernel
theorem dX5_mend_0 : decode cX5_mend 0 = .ok (.aload_n 0, 1) := by decide +kernel
theorem dX5_mend_1 : decode cX5_mend 1 = .ok (.aload_n 0, 1) := by decide +kernel
theorem dX5_mend_2 : decode cX5_mend 2 = .ok (.invokevirtual 30, 3) := by decide +kernel
theorem dX5_mend_5 : decode cX5_mend 5 = .ok (.iload_n 1, 1) := by decide +kernel
theorem dX5_mend_6 : decode cX5_mend 6 = .ok (.invokevirtual 71, 3) := by decide +kernel
theorem dX5_mend_9 : decode cX5_mend 9 = .ok (.invokevirtual 38, 3) := by decide +kernel
theorem dX5_mend_12 : decode cX5_mend 12 = .ok (.ireturn, 1) := by decide +kernel
theorem dX5_read_0 : decode cX5_read 0 = .ok (.iload_n 2, 1) := by decide +kernel
theorem dX5_read_1 : decode cX5_read 1 = .ok (.ifCond .ne 7, 3) := by decide +kernel
theorem dX5_read_4 : decode cX5_read 4 = .ok (.iconst 3, 1) := by decide +kernel
theorem dX5_read_5 : decode cX5_read 5 = .ok (.goto 4, 3) := by decide +kernel
theorem dX5_read_8 : decode cX5_read 8 = .ok (.iconst 2, 1) := by decide +kernel
theorem dX5_read_9 : decode cX5_read 9 = .ok (.istore 4, 2) := by decide +kernel
theorem dX5_read_11 : decode cX5_read 11 = .ok (.iload_n 1, 1) := by decide +kernel
theorem dX5_read_12 : decode cX5_read 12 = .ok (.bipush 31, 2) := by decide +kernel
theorem dX5_read_14 : decode cX5_read 14 = .ok (.invokestatic 74, 3) := by decide +kernel
theorem dX5_read_17 : decode cX5_read 17 = .ok (.ifCond .eq 20, 3) := by decide +kernel
theorem dX5_read_20 : decode cX5_read 20 = .ok (.iload_n 2, 1) := by decide +kernel
theorem dX5_read_21 : decode cX5_read 21 = .ok (.iconst 2, 1) := by decide +kernel
theorem dX5_read_22 : decode cX5_read 22 = .ok (.invokestatic 74, 3) := by decide +kernel
theorem dX5_read_25 : decode cX5_read 25 = .ok (.ifCond .eq 12, 3) := by decide +kernel
theorem dX5_read_28 : decode cX5_read 28 = .ok (.iload_n 3, 1) := by decide +kernel
theorem dX5_read_29 : decode cX5_read 29 = .ok (.iload 4, 2) := by decide +kernel
theorem dX5_read_31 : decode cX5_read 31 = .ok (.invokestatic 74, 3) := by decide +kernel
theorem dX5_read_34 : decode cX5_read 34 = .ok (.ifCond .ne 6, 3) := by decide +kernel
theorem dX5_read_37 : decode cX5_read 37 = .ok (.ldc 78, 2) := by decide +kernel
theorem dX5_read_39 : decode cX5_read 39 = .ok (.ireturn, 1) := by decide +kernel
theorem dX5_read_40 : decode cX5_read 40 = .ok (.aload_n 0, 1) := by decide +kernel
theorem dX5_read_41 : decode cX5_read 41 = .ok (.getfield 16, 3) := by decide +kernel
theorem dX5_read_44 : decode cX5_read 44 = .ok (.iload_n 1, 1) := by decide +kernel
theorem dX5_read_45 : decode cX5_read 45 = .ok (.iload_n 2, 1) := by decide +kernel
theorem dX5_read_46 : decode cX5_read 46 = .ok (.invokevirtual 79, 3) := by decide +kernel
theorem dX5_read_49 : decode cX5_read 49 = .ok (.istore 5, 2) := by decide +kernel
theorem dX5_read_51 : decode cX5_read 51 = .ok (.iload 5, 2) := by decide +kernel
theorem dX5_read_53 : decode cX5_read 53 = .ok (.iconst (-1), 1) := by decide +kernel
theorem dX5_read_54 : decode cX5_read 54 = .ok (.if_icmp .ne 8, 3) := by decide +kernel
theorem dX5_read_57 : decode cX5_read 57 = .ok (.ldc 83, 2) := by decide +kernel
theorem dX5_read_59 : decode cX5_read 59 = .ok (.goto 10, 3) := by decide +kernel
theorem dX5_read_62 : decode cX5_read 62 = .ok (.iload 5, 2) := by decide +kernel
theorem dX5_read_64 : decode cX5_read 64 = .ok (.iload_n 2, 1) := by decide +kernel
theorem dX5_read_65 : decode cX5_read 65 = .ok (.iload_n 3, 1) := by decide +kernel
theorem dX5_read_66 : decode cX5_read 66 = .ok (.invokestatic 84, 3) := by decide +kernel
theorem dX5_read_69 : decode cX5_read 69 = .ok (.ireturn, 1) := by decide +kernel
theorem dX5_shapeOf_0 : decode cX5_shapeOf 0 = .ok (.iload_n 1, 1) := by decide +kernel
theorem dX5_shapeOf_1 : decode cX5_shapeOf 1 = .ok (.bipush 31, 2) := by decide +kernel
theorem dX5_shapeOf_3 : decode cX5_shapeOf 3 = .ok (.invokestatic 74, 3) := by decide +kernel
theorem dX5_shapeOf_6 : decode cX5_shapeOf 6 = .ok (.ifCond .eq 19, 3) := by decide +kernel
theorem dX5_shapeOf_9 : decode cX5_shapeOf 9 = .ok (.iload_n 2, 1) := by decide +kernel
theorem dX5_shapeOf_10 : decode cX5_shapeOf 10 = .ok (.iconst 2, 1) := by decide +kernel
theorem dX5_shapeOf_11 : decode cX5_shapeOf 11 = .ok (.invokestatic 74, 3) := by decide +kernel
theorem dX5_shapeOf_14 : decode cX5_shapeOf 14 = .ok (.ifCond .eq 11, 3) := by decide +kernel
theorem dX5_shapeOf_17 : decode cX5_shapeOf 17 = .ok (.iload_n 3, 1) := by decide +kernel
theorem dX5_shapeOf_18 : decode cX5_shapeOf 18 = .ok (.iconst 5, 1) := by decide +kernel
theorem dX5_shapeOf_19 : decode cX5_shapeOf 19 = .ok (.invokestatic 74, 3) := by decide +kernel
theorem dX5_shapeOf_22 : decode cX5_shapeOf 22 = .ok (.ifCond .ne 6, 3) := by decide +kernel
theorem dX5_shapeOf_25 : decode cX5_shapeOf 25 = .ok (.ldc 78, 2) := by decide +kernel
theorem dX5_shapeOf_27 : decode cX5_shapeOf 27 = .ok (.ireturn, 1) := by decide +kernel
theorem dX5_shapeOf_28 : decode cX5_shapeOf 28 = .ok (.aload_n 0, 1) := by decide +kernel
theorem dX5_shapeOf_29 : decode cX5_shapeOf 29 = .ok (.getfield 16, 3) := by decide +kernel
theorem dX5_shapeOf_32 : decode cX5_shapeOf 32 = .ok (.iload_n 2, 1) := by decide +kernel
theorem dX5_shapeOf_33 : decode cX5_shapeOf 33 = .ok (.invokevirtual 89, 3) := by decide +kernel
theorem dX5_shapeOf_36 : decode cX5_shapeOf 36 = .ok (.ifCond .ne 6, 3) := by decide +kernel
theorem dX5_shapeOf_39 : decode cX5_shapeOf 39 = .ok (.ldc 93, 2) := by decide +kernel
theorem dX5_shapeOf_41 : decode cX5_shapeOf 41 = .ok (.ireturn, 1) := by decide +kernel
theorem dX5_shapeOf_42 : decode cX5_shapeOf 42 = .ok (.aload_n 0, 1) := by decide +kernel
theorem dX5_shapeOf_43 : decode cX5_shapeOf 43 = .ok (.getfield 16, 3) := by decide +kernel
theorem dX5_shapeOf_46 : decode cX5_shapeOf 46 = .ok (.iload_n 2, 1) := by decide +kernel
theorem dX5_shapeOf_47 : decode cX5_shapeOf 47 = .ok (.invokevirtual 94, 3) := by decide +kernel
theorem dX5_shapeOf_50 : decode cX5_shapeOf 50 = .ok (.astore 4, 2) := by decide +kernel
theorem dX5_shapeOf_52 : decode cX5_shapeOf 52 = .ok (.aload 4, 2) := by decide +kernel
theorem dX5_shapeOf_54 : decode cX5_shapeOf 54 = .ok (.getfield 98, 3) := by decide +kernel
theorem dX5_shapeOf_57 : decode cX5_shapeOf 57 = .ok (.iload_n 1, 1) := by decide +kernel
theorem dX5_shapeOf_58 : decode cX5_shapeOf 58 = .ok (.iaload, 1) := by decide +kernel
theorem dX5_shapeOf_59 : decode cX5_shapeOf 59 = .ok (.istore 5, 2) := by decide +kernel
theorem dX5_shapeOf_61 : decode cX5_shapeOf 61 = .ok (.iload_n 3, 1) := by decide +kernel
theorem dX5_shapeOf_62 : decode cX5_shapeOf 62 = .ok (.ifCond .ne 11, 3) := by decide +kernel
theorem dX5_shapeOf_65 : decode cX5_shapeOf 65 = .ok (.aload 4, 2) := by decide +kernel
theorem dX5_shapeOf_67 : decode cX5_shapeOf 67 = .ok (.getfield 104, 3) := by decide +kernel
theorem dX5_shapeOf_70 : decode cX5_shapeOf 70 = .ok (.iload_n 1, 1) := by decide +kernel
theorem dX5_shapeOf_71 : decode cX5_shapeOf 71 = .ok (.iaload, 1) := by decide +kernel
theorem dX5_shapeOf_72 : decode cX5_shapeOf 72 = .ok (.ireturn, 1) := by decide +kernel
theorem dX5_shapeOf_73 : decode cX5_shapeOf 73 = .ok (.iload_n 3, 1) := by decide +kernel
theorem dX5_shapeOf_74 : decode cX5_shapeOf 74 = .ok (.iconst 1, 1) := by decide +kernel
theorem dX5_shapeOf_75 : decode cX5_shapeOf 75 = .ok (.if_icmp .ne 15, 3) := by decide +kernel
theorem dX5_shapeOf_78 : decode cX5_shapeOf 78 = .ok (.iload 5, 2) := by decide +kernel
theorem dX5_shapeOf_80 : decode cX5_shapeOf 80 = .ok (.iconst (-1), 1) := by decide +kernel
theorem dX5_shapeOf_81 : decode cX5_shapeOf 81 = .ok (.if_icmp .ne 7, 3) := by decide +kernel
end
section
theorem dX5_shapeOf_84 : decode cX5_shapeOf 84 = .ok (.iconst 0, 1) := by decide +kernel
theorem dX5_shapeOf_85 : decode cX5_shapeOf 85 = .ok (.goto 4, 3) := by decide +kernel
theorem dX5_shapeOf_88 : decode cX5_shapeOf 88 = .ok (.iconst 1, 1) := by decide +kernel
theorem dX5_shapeOf_89 : decode cX5_shapeOf 89 = .ok (.ireturn, 1) := by decide +kernel
theorem dX5_shapeOf_90 : decode cX5_shapeOf 90 = .ok (.iload 5, 2) := by decide +kernel
theorem dX5_shapeOf_92 : decode cX5_shapeOf 92 = .ok (.iconst (-1), 1) := by decide +kernel
theorem dX5_shapeOf_93 : decode cX5_shapeOf 93 = .ok (.if_icmp .eq 13, 3) := by decide +kernel
theorem dX5_shapeOf_96 : decode cX5_shapeOf 96 = .ok (.iload_n 3, 1) := by decide +kernel
theorem dX5_shapeOf_97 : decode cX5_shapeOf 97 = .ok (.iconst 4, 1) := by decide +kernel
theorem dX5_shapeOf_98 : decode cX5_shapeOf 98 = .ok (.if_icmp .ne 11, 3) := by decide +kernel
theorem dX5_shapeOf_101 : decode cX5_shapeOf 101 = .ok (.iload_n 2, 1) := by decide +kernel
theorem dX5_shapeOf_102 : decode cX5_shapeOf 102 = .ok (.iconst 1, 1) := by decide +kernel
theorem dX5_shapeOf_103 : decode cX5_shapeOf 103 = .ok (.if_icmp .ne 6, 3) := by decide +kernel
theorem dX5_shapeOf_106 : decode cX5_shapeOf 106 = .ok (.ldc 83, 2) := by decide +kernel
theorem dX5_shapeOf_108 : decode cX5_shapeOf 108 = .ok (.ireturn, 1) := by decide +kernel
theorem dX5_shapeOf_109 : decode cX5_shapeOf 109 = .ok (.iload 5, 2) := by decide +kernel
theorem dX5_shapeOf_111 : decode cX5_shapeOf 111 = .ok (.iload_n 2, 1) := by decide +kernel
theorem dX5_shapeOf_112 : decode cX5_shapeOf 112 = .ok (.iload_n 3, 1) := by decide +kernel
theorem dX5_shapeOf_113 : decode cX5_shapeOf 113 = .ok (.iconst 2, 1) := by decide +kernel
theorem dX5_shapeOf_114 : decode cX5_shapeOf 114 = .ok (.isub, 1) := by decide +kernel
theorem dX5_shapeOf_115 : decode cX5_shapeOf 115 = .ok (.invokestatic 84, 3) := by decide +kernel
theorem dX5_shapeOf_118 : decode cX5_shapeOf 118 = .ok (.ireturn, 1) := by decide +kernel
theorem dX5_queued_0 : decode cX5_queued 0 = .ok (.iload_n 1, 1) := by decide +kernel
theorem dX5_queued_1 : decode cX5_queued 1 = .ok (.ifCond .lt 11, 3) := by decide +kernel
theorem dX5_queued_4 : decode cX5_queued 4 = .ok (.iload_n 2, 1) := by decide +kernel
theorem dX5_queued_5 : decode cX5_queued 5 = .ok (.iconst 4, 1) := by decide +kernel
theorem dX5_queued_6 : decode cX5_queued 6 = .ok (.invokestatic 74, 3) := by decide +kernel
theorem dX5_queued_9 : decode cX5_queued 9 = .ok (.ifCond .ne 6, 3) := by decide +kernel
theorem dX5_queued_12 : decode cX5_queued 12 = .ok (.ldc 78, 2) := by decide +kernel
theorem dX5_queued_14 : decode cX5_queued 14 = .ok (.ireturn, 1) := by decide +kernel
theorem dX5_queued_15 : decode cX5_queued 15 = .ok (.iload_n 1, 1) := by decide +kernel
theorem dX5_queued_16 : decode cX5_queued 16 = .ok (.aload_n 0, 1) := by decide +kernel
theorem dX5_queued_17 : decode cX5_queued 17 = .ok (.getfield 16, 3) := by decide +kernel
theorem dX5_queued_20 : decode cX5_queued 20 = .ok (.getfield 107, 3) := by decide +kernel
theorem dX5_queued_23 : decode cX5_queued 23 = .ok (.getfield 111, 3) := by decide +kernel
theorem dX5_queued_26 : decode cX5_queued 26 = .ok (.if_icmp .lt 6, 3) := by decide +kernel
theorem dX5_queued_29 : decode cX5_queued 29 = .ok (.ldc 83, 2) := by decide +kernel
theorem dX5_queued_31 : decode cX5_queued 31 = .ok (.ireturn, 1) := by decide +kernel
theorem dX5_queued_32 : decode cX5_queued 32 = .ok (.iload_n 2, 1) := by decide +kernel
theorem dX5_queued_33 : decode cX5_queued 33 = .ok (.tableswitch 61 0 2 #[27, 40, 53], 27) := by decide +kernel
theorem dX5_queued_60 : decode cX5_queued 60 = .ok (.aload_n 0, 1) := by decide +kernel
theorem dX5_queued_61 : decode cX5_queued 61 = .ok (.getfield 16, 3) := by decide +kernel
theorem dX5_queued_64 : decode cX5_queued 64 = .ok (.getfield 107, 3) := by decide +kernel
theorem dX5_queued_67 : decode cX5_queued 67 = .ok (.getfield 117, 3) := by decide +kernel
theorem dX5_queued_70 : decode cX5_queued 70 = .ok (.iload_n 1, 1) := by decide +kernel
theorem dX5_queued_71 : decode cX5_queued 71 = .ok (.iaload, 1) := by decide +kernel
theorem dX5_queued_72 : decode cX5_queued 72 = .ok (.ireturn, 1) := by decide +kernel
theorem dX5_queued_73 : decode cX5_queued 73 = .ok (.aload_n 0, 1) := by decide +kernel
theorem dX5_queued_74 : decode cX5_queued 74 = .ok (.getfield 16, 3) := by decide +kernel
theorem dX5_queued_77 : decode cX5_queued 77 = .ok (.getfield 107, 3) := by decide +kernel
theorem dX5_queued_80 : decode cX5_queued 80 = .ok (.getfield 120, 3) := by decide +kernel
theorem dX5_queued_83 : decode cX5_queued 83 = .ok (.iload_n 1, 1) := by decide +kernel
theorem dX5_queued_84 : decode cX5_queued 84 = .ok (.iaload, 1) := by decide +kernel
theorem dX5_queued_85 : decode cX5_queued 85 = .ok (.ireturn, 1) := by decide +kernel
theorem dX5_queued_86 : decode cX5_queued 86 = .ok (.aload_n 0, 1) := by decide +kernel
theorem dX5_queued_87 : decode cX5_queued 87 = .ok (.getfield 16, 3) := by decide +kernel
theorem dX5_queued_90 : decode cX5_queued 90 = .ok (.invokevirtual 121, 3) := by decide +kernel
theorem dX5_queued_93 : decode cX5_queued 93 = .ok (.ireturn, 1) := by decide +kernel
theorem dX5_queued_94 : decode cX5_queued 94 = .ok (.aload_n 0, 1) := by decide +kernel
theorem dX5_queued_95 : decode cX5_queued 95 = .ok (.getfield 16, 3) := by decide +kernel
theorem dX5_queued_98 : decode cX5_queued 98 = .ok (.getfield 107, 3) := by decide +kernel
theorem dX5_queued_101 : decode cX5_queued 101 = .ok (.getfield 124, 3) := by decide +kernel
theorem dX5_queued_104 : decode cX5_queued 104 = .ok (.iload_n 1, 1) := by decide +kernel
theorem dX5_queued_105 : decode cX5_queued 105 = .ok (.iaload, 1) := by decide +kernel
theorem dX5_queued_106 : decode cX5_queued 106 = .ok (.iconst (-1), 1) := by decide +kernel
theorem dX5_queued_107 : decode cX5_queued 107 = .ok (.if_icmp .ne 7, 3) := by decide +kernel
theorem dX5_queued_110 : decode cX5_queued 110 = .ok (.iconst 1, 1) := by decide +kernel
theorem dX5_queued_111 : decode cX5_queued 111 = .ok (.goto 4, 3) := by decide +kernel
theorem dX5_queued_114 : decode cX5_queued 114 = .ok (.iconst 0, 1) := by decide +kernel
theorem dX5_queued_115 : decode cX5_queued 115 = .ok (.ireturn, 1) := by decide +kernel
theorem dX5_keys_0 : decode cX5_keys 0 = .ok (.iload_n 1, 1) := by decide +kernel
theorem dX5_keys_1 : decode cX5_keys 1 = .ok (.iconst 2, 1) := by decide +kernel
theorem dX5_keys_2 : decode cX5_keys 2 = .ok (.invokestatic 74, 3) := by decide +kernel
theorem dX5_keys_5 : decode cX5_keys 5 = .ok (.ifCond .eq 14, 3) := by decide +kernel
theorem dX5_keys_8 : decode cX5_keys 8 = .ok (.aload_n 0, 1) := by decide +kernel
theorem dX5_keys_9 : decode cX5_keys 9 = .ok (.getfield 16, 3) := by decide +kernel
theorem dX5_keys_12 : decode cX5_keys 12 = .ok (.iload_n 1, 1) := by decide +kernel
theorem dX5_keys_13 : decode cX5_keys 13 = .ok (.invokevirtual 125, 3) := by decide +kernel
theorem dX5_keys_16 : decode cX5_keys 16 = .ok (.goto 5, 3) := by decide +kernel
theorem dX5_keys_19 : decode cX5_keys 19 = .ok (.ldc 78, 2) := by decide +kernel
theorem dX5_keys_21 : decode cX5_keys 21 = .ok (.ireturn, 1) := by decide +kernel
theorem dX5_check_0 : decode cX5_check 0 = .ok (.aload_n 0, 1) := by decide +kernel
theorem dX5_check_1 : decode cX5_check 1 = .ok (.getfield 16, 3) := by decide +kernel
theorem dX5_check_4 : decode cX5_check 4 = .ok (.invokevirtual 128, 3) := by decide +kernel
theorem dX5_check_7 : decode cX5_check 7 = .ok (.ifCond .eq 13, 3) := by decide +kernel
theorem dX5_check_10 : decode cX5_check 10 = .ok (.aload_n 0, 1) := by decide +kernel
theorem dX5_check_11 : decode cX5_check 11 = .ok (.getfield 16, 3) := by decide +kernel
theorem dX5_check_14 : decode cX5_check 14 = .ok (.invokevirtual 132, 3) := by decide +kernel
theorem dX5_check_17 : decode cX5_check 17 = .ok (.goto 5, 3) := by decide +kernel
theorem dX5_check_20 : decode cX5_check 20 = .ok (.ldc 93, 2) := by decide +kernel
theorem dX5_check_22 : decode cX5_check 22 = .ok (.ireturn, 1) := by decide +kernel
theorem dX5_quarrel_0 : decode cX5_quarrel 0 = .ok (.aload_n 0, 1) := by decide +kernel
theorem dX5_quarrel_1 : decode cX5_quarrel 1 = .ok (.getfield 16, 3) := by decide +kernel
theorem dX5_quarrel_4 : decode cX5_quarrel 4 = .ok (.invokevirtual 135, 3) := by decide +kernel
theorem dX5_quarrel_7 : decode cX5_quarrel 7 = .ok (.ireturn, 1) := by decide +kernel
theorem dX5_atRisk_0 : decode cX5_atRisk 0 = .ok (.aload_n 0, 1) := by decide +kernel
theorem dX5_atRisk_1 : decode cX5_atRisk 1 = .ok (.getfield 16, 3) := by decide +kernel
theorem dX5_atRisk_4 : decode cX5_atRisk 4 = .ok (.iconst 0, 1) := by decide +kernel
theorem dX5_atRisk_5 : decode cX5_atRisk 5 = .ok (.invokevirtual 89, 3) := by decide +kernel
theorem dX5_atRisk_8 : decode cX5_atRisk 8 = .ok (.ifCond .eq 13, 3) := by decide +kernel
theorem dX5_atRisk_11 : decode cX5_atRisk 11 = .ok (.aload_n 0, 1) := by decide +kernel
theorem dX5_atRisk_12 : decode cX5_atRisk 12 = .ok (.getfield 16, 3) := by decide +kernel
theorem dX5_atRisk_15 : decode cX5_atRisk 15 = .ok (.invokevirtual 138, 3) := by decide +kernel
theorem dX5_atRisk_18 : decode cX5_atRisk 18 = .ok (.goto 5, 3) := by decide +kernel
theorem dX5_atRisk_21 : decode cX5_atRisk 21 = .ok (.ldc 93, 2) := by decide +kernel
theorem dX5_atRisk_23 : decode cX5_atRisk 23 = .ok (.ireturn, 1) := by decide +kernel
theorem dX5_walk_0 : decode cX5_walk 0 = .ok (.aload_n 0, 1) := by decide +kernel
theorem dX5_walk_1 : decode cX5_walk 1 = .ok (.aload_n 0, 1) := by decide +kernel
theorem dX5_walk_2 : decode cX5_walk 2 = .ok (.invokevirtual 30, 3) := by decide +kernel
theorem dX5_walk_5 : decode cX5_walk 5 = .ok (.iload_n 1, 1) := by decide +kernel
theorem dX5_walk_6 : decode cX5_walk 6 = .ok (.iload_n 2, 1) := by decide +kernel
theorem dX5_walk_7 : decode cX5_walk 7 = .ok (.invokevirtual 141, 3) := by decide +kernel
theorem dX5_walk_10 : decode cX5_walk 10 = .ok (.invokevirtual 38, 3) := by decide +kernel
theorem dX5_walk_13 : decode cX5_walk 13 = .ok (.ireturn, 1) := by decide +kernel
theorem dX5_step_0 : decode cX5_step 0 = .ok (.aload_n 0, 1) := by decide +kernel
theorem dX5_step_1 : decode cX5_step 1 = .ok (.aload_n 0, 1) := by decide +kernel
theorem dX5_step_2 : decode cX5_step 2 = .ok (.invokevirtual 30, 3) := by decide +kernel
theorem dX5_step_5 : decode cX5_step 5 = .ok (.iload_n 1, 1) := by decide +kernel
theorem dX5_step_6 : decode cX5_step 6 = .ok (.invokevirtual 144, 3) := by decide +kernel
theorem dX5_step_9 : decode cX5_step 9 = .ok (.invokevirtual 38, 3) := by decide +kernel
theorem dX5_step_12 : decode cX5_step 12 = .ok (.ireturn, 1) := by decide +kernel
theorem dX5_count_0 : decode cX5_count 0 = .ok (.iload_n 1, 1) := by decide +kernel
theorem dX5_count_1 : decode cX5_count 1 = .ok (.tableswitch 207 0 12 #[67, 75, 83, 107, 118, 129, 140, 151, 162, 178, 186, 194, 199], 67) := by decide +kernel
theorem dX5_count_68 : decode cX5_count 68 = .ok (.aload_n 0, 1) := by decide +kernel
theorem dX5_count_69 : decode cX5_count 69 = .ok (.getfield 16, 3) := by decide +kernel
theorem dX5_count_72 : decode cX5_count 72 = .ok (.getfield 147, 3) := by decide +kernel
theorem dX5_count_75 : decode cX5_count 75 = .ok (.ireturn, 1) := by decide +kernel
theorem dX5_count_76 : decode cX5_count 76 = .ok (.aload_n 0, 1) := by decide +kernel
theorem dX5_count_77 : decode cX5_count 77 = .ok (.getfield 16, 3) := by decide +kernel
theorem dX5_count_80 : decode cX5_count 80 = .ok (.getfield 150, 3) := by decide +kernel
theorem dX5_count_83 : decode cX5_count 83 = .ok (.ireturn, 1) := by decide +kernel
theorem dX5_count_84 : decode cX5_count 84 = .ok (.aload_n 0, 1) := by decide +kernel
theorem dX5_count_85 : decode cX5_count 85 = .ok (.getfield 16, 3) := by decide +kernel
theorem dX5_count_88 : decode cX5_count 88 = .ok (.getfield 147, 3) := by decide +kernel
theorem dX5_count_91 : decode cX5_count 91 = .ok (.iconst 1, 1) := by decide +kernel
theorem dX5_count_92 : decode cX5_count 92 = .ok (.if_icmp .ne 13, 3) := by decide +kernel
theorem dX5_count_95 : decode cX5_count 95 = .ok (.aload_n 0, 1) := by decide +kernel
theorem dX5_count_96 : decode cX5_count 96 = .ok (.getfield 16, 3) := by decide +kernel
theorem dX5_count_99 : decode cX5_count 99 = .ok (.getfield 153, 3) := by decide +kernel
theorem dX5_count_102 : decode cX5_count 102 = .ok (.goto 5, 3) := by decide +kernel
theorem dX5_count_105 : decode cX5_count 105 = .ok (.ldc 83, 2) := by decide +kernel
theorem dX5_count_107 : decode cX5_count 107 = .ok (.ireturn, 1) := by decide +kernel
theorem dX5_count_108 : decode cX5_count 108 = .ok (.aload_n 0, 1) := by decide +kernel
theorem dX5_count_109 : decode cX5_count 109 = .ok (.getfield 16, 3) := by decide +kernel
theorem dX5_count_112 : decode cX5_count 112 = .ok (.getfield 107, 3) := by decide +kernel
theorem dX5_count_115 : decode cX5_count 115 = .ok (.getfield 111, 3) := by decide +kernel
theorem dX5_count_118 : decode cX5_count 118 = .ok (.ireturn, 1) := by decide +kernel
theorem dX5_count_119 : decode cX5_count 119 = .ok (.aload_n 0, 1) := by decide +kernel
theorem dX5_count_120 : decode cX5_count 120 = .ok (.getfield 16, 3) := by decide +kernel
theorem dX5_count_123 : decode cX5_count 123 = .ok (.getfield 156, 3) := by decide +kernel
theorem dX5_count_126 : decode cX5_count 126 = .ok (.invokevirtual 160, 3) := by decide +kernel
theorem dX5_count_129 : decode cX5_count 129 = .ok (.ireturn, 1) := by decide +kernel
theorem dX5_count_130 : decode cX5_count 130 = .ok (.aload_n 0, 1) := by decide +kernel
theorem dX5_count_131 : decode cX5_count 131 = .ok (.getfield 16, 3) := by decide +kernel
theorem dX5_count_134 : decode cX5_count 134 = .ok (.getfield 163, 3) := by decide +kernel
theorem dX5_count_137 : decode cX5_count 137 = .ok (.invokevirtual 160, 3) := by decide +kernel
theorem dX5_count_140 : decode cX5_count 140 = .ok (.ireturn, 1) := by decide +kernel
theorem dX5_count_141 : decode cX5_count 141 = .ok (.aload_n 0, 1) := by decide +kernel
theorem dX5_count_142 : decode cX5_count 142 = .ok (.getfield 16, 3) := by decide +kernel
theorem dX5_count_145 : decode cX5_count 145 = .ok (.getfield 163, 3) := by decide +kernel
theorem dX5_count_148 : decode cX5_count 148 = .ok (.invokevirtual 166, 3) := by decide +kernel
theorem dX5_count_151 : decode cX5_count 151 = .ok (.ireturn, 1) := by decide +kernel
theorem dX5_count_152 : decode cX5_count 152 = .ok (.aload_n 0, 1) := by decide +kernel
theorem dX5_count_153 : decode cX5_count 153 = .ok (.getfield 16, 3) := by decide +kernel
theorem dX5_count_156 : decode cX5_count 156 = .ok (.getfield 163, 3) := by decide +kernel
theorem dX5_count_159 : decode cX5_count 159 = .ok (.invokevirtual 169, 3) := by decide +kernel
theorem dX5_count_162 : decode cX5_count 162 = .ok (.ireturn, 1) := by decide +kernel
theorem dX5_count_163 : decode cX5_count 163 = .ok (.aload_n 0, 1) := by decide +kernel
theorem dX5_count_164 : decode cX5_count 164 = .ok (.getfield 16, 3) := by decide +kernel
theorem dX5_count_167 : decode cX5_count 167 = .ok (.invokevirtual 172, 3) := by decide +kernel
theorem dX5_count_170 : decode cX5_count 170 = .ok (.ifCond .eq 7, 3) := by decide +kernel
theorem dX5_count_173 : decode cX5_count 173 = .ok (.iconst 1, 1) := by decide +kernel
theorem dX5_count_174 : decode cX5_count 174 = .ok (.goto 4, 3) := by decide +kernel
theorem dX5_count_177 : decode cX5_count 177 = .ok (.iconst 0, 1) := by decide +kernel
theorem dX5_count_178 : decode cX5_count 178 = .ok (.ireturn, 1) := by decide +kernel
theorem dX5_count_179 : decode cX5_count 179 = .ok (.aload_n 0, 1) := by decide +kernel
theorem dX5_count_180 : decode cX5_count 180 = .ok (.getfield 16, 3) := by decide +kernel
theorem dX5_count_183 : decode cX5_count 183 = .ok (.getfield 175, 3) := by decide +kernel
theorem dX5_count_186 : decode cX5_count 186 = .ok (.ireturn, 1) := by decide +kernel
theorem dX5_count_187 : decode cX5_count 187 = .ok (.aload_n 0, 1) := by decide +kernel
theorem dX5_count_188 : decode cX5_count 188 = .ok (.getfield 16, 3) := by decide +kernel
theorem dX5_count_191 : decode cX5_count 191 = .ok (.getfield 178, 3) := by decide +kernel
theorem dX5_count_194 : decode cX5_count 194 = .ok (.ireturn, 1) := by decide +kernel
theorem dX5_count_195 : decode cX5_count 195 = .ok (.aload_n 0, 1) := by decide +kernel
theorem dX5_count_196 : decode cX5_count 196 = .ok (.getfield 181, 3) := by decide +kernel
theorem dX5_count_199 : decode cX5_count 199 = .ok (.ireturn, 1) := by decide +kernel
theorem dX5_count_200 : decode cX5_count 200 = .ok (.aload_n 0, 1) := by decide +kernel
theorem dX5_count_201 : decode cX5_count 201 = .ok (.getfield 26, 3) := by decide +kernel
theorem dX5_count_204 : decode cX5_count 204 = .ok (.getfield 184, 3) := by decide +kernel
theorem dX5_count_207 : decode cX5_count 207 = .ok (.ireturn, 1) := by decide +kernel
theorem dX5_count_208 : decode cX5_count 208 = .ok (.ldc 78, 2) := by decide +kernel
theorem dX5_count_210 : decode cX5_count 210 = .ok (.ireturn, 1) := by decide +kernel
theorem dX5_undo_0 : decode cX5_undo 0 = .ok (.aload_n 0, 1) := by decide +kernel
theorem dX5_undo_1 : decode cX5_undo 1 = .ok (.getfield 181, 3) := by decide +kernel
theorem dX5_undo_4 : decode cX5_undo 4 = .ok (.ifCond .ne 6, 3) := by decide +kernel
theorem dX5_undo_7 : decode cX5_undo 7 = .ok (.ldc 93, 2) := by decide +kernel
theorem dX5_undo_9 : decode cX5_undo 9 = .ok (.ireturn, 1) := by decide +kernel
theorem dX5_undo_10 : decode cX5_undo 10 = .ok (.aload_n 0, 1) := by decide +kernel
theorem dX5_undo_11 : decode cX5_undo 11 = .ok (.dup, 1) := by decide +kernel
theorem dX5_undo_12 : decode cX5_undo 12 = .ok (.getfield 181, 3) := by decide +kernel
theorem dX5_undo_15 : decode cX5_undo 15 = .ok (.iconst 1, 1) := by decide +kernel
theorem dX5_undo_16 : decode cX5_undo 16 = .ok (.isub, 1) := by decide +kernel
theorem dX5_undo_17 : decode cX5_undo 17 = .ok (.putfield 181, 3) := by decide +kernel
theorem dX5_undo_20 : decode cX5_undo 20 = .ok (.aload_n 0, 1) := by decide +kernel
theorem dX5_undo_21 : decode cX5_undo 21 = .ok (.getfield 16, 3) := by decide +kernel
theorem dX5_undo_24 : decode cX5_undo 24 = .ok (.astore_n 1, 1) := by decide +kernel
theorem dX5_undo_25 : decode cX5_undo 25 = .ok (.aload_n 0, 1) := by decide +kernel
theorem dX5_undo_26 : decode cX5_undo 26 = .ok (.aload_n 0, 1) := by decide +kernel
theorem dX5_undo_27 : decode cX5_undo 27 = .ok (.getfield 11, 3) := by decide +kernel
theorem dX5_undo_30 : decode cX5_undo 30 = .ok (.aload_n 0, 1) := by decide +kernel
theorem dX5_undo_31 : decode cX5_undo 31 = .ok (.getfield 181, 3) := by decide +kernel
theorem dX5_undo_34 : decode cX5_undo 34 = .ok (.aaload, 1) := by decide +kernel
theorem dX5_undo_35 : decode cX5_undo 35 = .ok (.putfield 16, 3) := by decide +kernel
theorem dX5_undo_38 : decode cX5_undo 38 = .ok (.aload_n 0, 1) := by decide +kernel
theorem dX5_undo_39 : decode cX5_undo 39 = .ok (.getfield 11, 3) := by decide +kernel
theorem dX5_undo_42 : decode cX5_undo 42 = .ok (.aload_n 0, 1) := by decide +kernel
theorem dX5_undo_43 : decode cX5_undo 43 = .ok (.getfield 181, 3) := by decide +kernel
theorem dX5_undo_46 : decode cX5_undo 46 = .ok (.aload_n 1, 1) := by decide +kernel
theorem dX5_undo_47 : decode cX5_undo 47 = .ok (.aastore, 1) := by decide +kernel
theorem dX5_undo_48 : decode cX5_undo 48 = .ok (.aload_n 0, 1) := by decide +kernel
theorem dX5_undo_49 : decode cX5_undo 49 = .ok (.getfield 181, 3) := by decide +kernel
theorem dX5_undo_52 : decode cX5_undo 52 = .ok (.ireturn, 1) := by decide +kernel
theorem dX5_type_0 : decode cX5_type 0 = .ok (.iload_n 1, 1) := by decide +kernel
theorem dX5_type_1 : decode cX5_type 1 = .ok (.bipush 32, 2) := by decide +kernel
theorem dX5_type_3 : decode cX5_type 3 = .ok (.if_icmp .lt 9, 3) := by decide +kernel
theorem dX5_type_6 : decode cX5_type 6 = .ok (.iload_n 1, 1) := by decide +kernel
theorem dX5_type_7 : decode cX5_type 7 = .ok (.bipush 126, 2) := by decide +kernel
theorem dX5_type_9 : decode cX5_type 9 = .ok (.if_icmp .le 6, 3) := by decide +kernel
theorem dX5_type_12 : decode cX5_type 12 = .ok (.ldc 78, 2) := by decide +kernel
theorem dX5_type_14 : decode cX5_type 14 = .ok (.ireturn, 1) := by decide +kernel
theorem dX5_type_15 : decode cX5_type 15 = .ok (.aload_n 0, 1) := by decide +kernel
theorem dX5_type_16 : decode cX5_type 16 = .ok (.getfield 26, 3) := by decide +kernel
theorem dX5_type_19 : decode cX5_type 19 = .ok (.getfield 184, 3) := by decide +kernel
theorem dX5_type_22 : decode cX5_type 22 = .ok (.bipush 60, 2) := by decide +kernel
theorem dX5_type_24 : decode cX5_type 24 = .ok (.if_icmp .lt 6, 3) := by decide +kernel
theorem dX5_type_27 : decode cX5_type 27 = .ok (.ldc 185, 2) := by decide +kernel
theorem dX5_type_29 : decode cX5_type 29 = .ok (.ireturn, 1) := by decide +kernel
theorem dX5_type_30 : decode cX5_type 30 = .ok (.aload_n 0, 1) := by decide +kernel
theorem dX5_type_31 : decode cX5_type 31 = .ok (.getfield 26, 3) := by decide +kernel
theorem dX5_type_34 : decode cX5_type 34 = .ok (.iload_n 1, 1) := by decide +kernel
theorem dX5_type_35 : decode cX5_type 35 = .ok (.invokevirtual 186, 3) := by decide +kernel
theorem dX5_type_38 : decode cX5_type 38 = .ok (.aload_n 0, 1) := by decide +kernel
theorem dX5_type_39 : decode cX5_type 39 = .ok (.getfield 26, 3) := by decide +kernel
theorem dX5_type_42 : decode cX5_type 42 = .ok (.getfield 184, 3) := by decide +kernel
theorem dX5_type_45 : decode cX5_type 45 = .ok (.ireturn, 1) := by decide +kernel
theorem dX5_clearText_0 : decode cX5_clearText 0 = .ok (.aload_n 0, 1) := by decide +kernel
theorem dX5_clearText_1 : decode cX5_clearText 1 = .ok (.getfield 26, 3) := by decide +kernel
theorem dX5_clearText_4 : decode cX5_clearText 4 = .ok (.getfield 184, 3) := by decide +kernel
theorem dX5_clearText_7 : decode cX5_clearText 7 = .ok (.istore_n 1, 1) := by decide +kernel
theorem dX5_clearText_8 : decode cX5_clearText 8 = .ok (.aload_n 0, 1) := by decide +kernel
theorem dX5_clearText_9 : decode cX5_clearText 9 = .ok (.getfield 26, 3) := by decide +kernel
theorem dX5_clearText_12 : decode cX5_clearText 12 = .ok (.iconst 0, 1) := by decide +kernel
theorem dX5_clearText_13 : decode cX5_clearText 13 = .ok (.putfield 184, 3) := by decide +kernel
theorem dX5_clearText_16 : decode cX5_clearText 16 = .ok (.iload_n 1, 1) := by decide +kernel
theorem dX5_clearText_17 : decode cX5_clearText 17 = .ok (.ireturn, 1) := by decide +kernel
theorem dX5_fault_0 : decode cX5_fault 0 = .ok (.iload_n 1, 1) := by decide +kernel
theorem dX5_fault_1 : decode cX5_fault 1 = .ok (.iconst 2, 1) := by decide +kernel
theorem dX5_fault_2 : decode cX5_fault 2 = .ok (.invokestatic 74, 3) := by decide +kernel
theorem dX5_fault_5 : decode cX5_fault 5 = .ok (.ifCond .ne 6, 3) := by decide +kernel
theorem dX5_fault_8 : decode cX5_fault 8 = .ok (.ldc 78, 2) := by decide +kernel
theorem dX5_fault_10 : decode cX5_fault 10 = .ok (.ireturn, 1) := by decide +kernel
theorem dX5_fault_11 : decode cX5_fault 11 = .ok (.aload_n 0, 1) := by decide +kernel
theorem dX5_fault_12 : decode cX5_fault 12 = .ok (.getfield 26, 3) := by decide +kernel
theorem dX5_fault_15 : decode cX5_fault 15 = .ok (.aload_n 0, 1) := by decide +kernel
theorem dX5_fault_16 : decode cX5_fault 16 = .ok (.invokevirtual 30, 3) := by decide +kernel
theorem dX5_fault_19 : decode cX5_fault 19 = .ok (.invokevirtual 190, 3) := by decide +kernel
theorem dX5_fault_22 : decode cX5_fault 22 = .ok (.aload_n 0, 1) := by decide +kernel
theorem dX5_fault_23 : decode cX5_fault 23 = .ok (.getfield 26, 3) := by decide +kernel
theorem dX5_fault_26 : decode cX5_fault 26 = .ok (.getfield 194, 3) := by decide +kernel
theorem dX5_fault_29 : decode cX5_fault 29 = .ok (.ifCond .ne 6, 3) := by decide +kernel
theorem dX5_fault_32 : decode cX5_fault 32 = .ok (.ldc 83, 2) := by decide +kernel
theorem dX5_fault_34 : decode cX5_fault 34 = .ok (.ireturn, 1) := by decide +kernel
theorem dX5_fault_35 : decode cX5_fault 35 = .ok (.iload_n 1, 1) := by decide +kernel
theorem dX5_fault_36 : decode cX5_fault 36 = .ok (.ifCond .ne 13, 3) := by decide +kernel
theorem dX5_fault_39 : decode cX5_fault 39 = .ok (.aload_n 0, 1) := by decide +kernel
theorem dX5_fault_40 : decode cX5_fault 40 = .ok (.getfield 26, 3) := by decide +kernel
theorem dX5_fault_43 : decode cX5_fault 43 = .ok (.getfield 197, 3) := by decide +kernel
theorem dX5_fault_46 : decode cX5_fault 46 = .ok (.goto 10, 3) := by decide +kernel
theorem dX5_fault_49 : decode cX5_fault 49 = .ok (.aload_n 0, 1) := by decide +kernel
theorem dX5_fault_50 : decode cX5_fault 50 = .ok (.getfield 26, 3) := by decide +kernel
theorem dX5_fault_53 : decode cX5_fault 53 = .ok (.getfield 194, 3) := by decide +kernel
theorem dX5_fault_56 : decode cX5_fault 56 = .ok (.ireturn, 1) := by decide +kernel
theorem dX5_play_0 : decode cX5_play 0 = .ok (.aload_n 0, 1) := by decide +kernel
theorem dX5_play_1 : decode cX5_play 1 = .ok (.getfield 26, 3) := by decide +kernel
theorem dX5_play_4 : decode cX5_play 4 = .ok (.aload_n 0, 1) := by decide +kernel
theorem dX5_play_5 : decode cX5_play 5 = .ok (.invokevirtual 30, 3) := by decide +kernel
theorem dX5_play_8 : decode cX5_play 8 = .ok (.invokevirtual 190, 3) := by decide +kernel
theorem dX5_play_11 : decode cX5_play 11 = .ok (.aload_n 0, 1) := by decide +kernel
theorem dX5_play_12 : decode cX5_play 12 = .ok (.aload_n 0, 1) := by decide +kernel
theorem dX5_play_13 : decode cX5_play 13 = .ok (.getfield 26, 3) := by decide +kernel
theorem dX5_play_16 : decode cX5_play 16 = .ok (.getfield 194, 3) := by decide +kernel
theorem dX5_play_19 : decode cX5_play 19 = .ok (.ifCond .ne 13, 3) := by decide +kernel
theorem dX5_play_22 : decode cX5_play 22 = .ok (.aload_n 0, 1) := by decide +kernel
theorem dX5_play_23 : decode cX5_play 23 = .ok (.getfield 26, 3) := by decide +kernel
theorem dX5_play_26 : decode cX5_play 26 = .ok (.getfield 200, 3) := by decide +kernel
theorem dX5_play_29 : decode cX5_play 29 = .ok (.goto 5, 3) := by decide +kernel
theorem dX5_play_32 : decode cX5_play 32 = .ok (.ldc 93, 2) := by decide +kernel
theorem dX5_play_34 : decode cX5_play 34 = .ok (.invokevirtual 38, 3) := by decide +kernel
theorem dX5_play_37 : decode cX5_play 37 = .ok (.ireturn, 1) := by decide +kernel
theorem dX5_newTrial_0 : decode cX5_newTrial 0 = .ok (.aload_n 0, 1) := by decide +kernel
theorem dX5_newTrial_1 : decode cX5_newTrial 1 = .ok (.getfield 20, 3) := by decide +kernel
theorem dX5_newTrial_4 : decode cX5_newTrial 4 = .ok (.aload_n 0, 1) := by decide +kernel
theorem dX5_newTrial_5 : decode cX5_newTrial 5 = .ok (.getfield 16, 3) := by decide +kernel
theorem dX5_newTrial_8 : decode cX5_newTrial 8 = .ok (.invokevirtual 203, 3) := by decide +kernel
theorem dX5_newTrial_11 : decode cX5_newTrial 11 = .ok (.aload_n 0, 1) := by decide +kernel
theorem dX5_newTrial_12 : decode cX5_newTrial 12 = .ok (.getfield 20, 3) := by decide +kernel
theorem dX5_newTrial_15 : decode cX5_newTrial 15 = .ok (.areturn, 1) := by decide +kernel
theorem dX5_settle_0 : decode cX5_settle 0 = .ok (.iload_n 1, 1) := by decide +kernel
theorem dX5_settle_1 : decode cX5_settle 1 = .ok (.ifCond .ge 5, 3) := by decide +kernel
theorem dX5_settle_4 : decode cX5_settle 4 = .ok (.iload_n 1, 1) := by decide +kernel
theorem dX5_settle_5 : decode cX5_settle 5 = .ok (.ireturn, 1) := by decide +kernel
theorem dX5_settle_6 : decode cX5_settle 6 = .ok (.aload_n 0, 1) := by decide +kernel
theorem dX5_settle_7 : decode cX5_settle 7 = .ok (.getfield 181, 3) := by decide +kernel
theorem dX5_settle_10 : decode cX5_settle 10 = .ok (.iconst 4, 1) := by decide +kernel
theorem dX5_settle_11 : decode cX5_settle 11 = .ok (.if_icmp .ge 39, 3) := by decide +kernel
theorem dX5_settle_14 : decode cX5_settle 14 = .ok (.aload_n 0, 1) := by decide +kernel
theorem dX5_settle_15 : decode cX5_settle 15 = .ok (.getfield 11, 3) := by decide +kernel
theorem dX5_settle_18 : decode cX5_settle 18 = .ok (.aload_n 0, 1) := by decide +kernel
theorem dX5_settle_19 : decode cX5_settle 19 = .ok (.getfield 181, 3) := by decide +kernel
theorem dX5_settle_22 : decode cX5_settle 22 = .ok (.aaload, 1) := by decide +kernel
theorem dX5_settle_23 : decode cX5_settle 23 = .ok (.astore_n 2, 1) := by decide +kernel
theorem dX5_settle_24 : decode cX5_settle 24 = .ok (.aload_n 0, 1) := by decide +kernel
theorem dX5_settle_25 : decode cX5_settle 25 = .ok (.getfield 11, 3) := by decide +kernel
theorem dX5_settle_28 : decode cX5_settle 28 = .ok (.aload_n 0, 1) := by decide +kernel
theorem dX5_settle_29 : decode cX5_settle 29 = .ok (.getfield 181, 3) := by decide +kernel
theorem dX5_settle_32 : decode cX5_settle 32 = .ok (.aload_n 0, 1) := by decide +kernel
theorem dX5_settle_33 : decode cX5_settle 33 = .ok (.getfield 16, 3) := by decide +kernel
theorem dX5_settle_36 : decode cX5_settle 36 = .ok (.aastore, 1) := by decide +kernel
theorem dX5_settle_37 : decode cX5_settle 37 = .ok (.aload_n 0, 1) := by decide +kernel
theorem dX5_settle_38 : decode cX5_settle 38 = .ok (.dup, 1) := by decide +kernel
theorem dX5_settle_39 : decode cX5_settle 39 = .ok (.getfield 181, 3) := by decide +kernel
theorem dX5_settle_42 : decode cX5_settle 42 = .ok (.iconst 1, 1) := by decide +kernel
theorem dX5_settle_43 : decode cX5_settle 43 = .ok (.iadd, 1) := by decide +kernel
theorem dX5_settle_44 : decode cX5_settle 44 = .ok (.putfield 181, 3) := by decide +kernel
theorem dX5_settle_47 : decode cX5_settle 47 = .ok (.goto 47, 3) := by decide +kernel
theorem dX5_settle_50 : decode cX5_settle 50 = .ok (.aload_n 0, 1) := by decide +kernel
theorem dX5_settle_51 : decode cX5_settle 51 = .ok (.getfield 11, 3) := by decide +kernel
theorem dX5_settle_54 : decode cX5_settle 54 = .ok (.iconst 0, 1) := by decide +kernel
theorem dX5_settle_55 : decode cX5_settle 55 = .ok (.aaload, 1) := by decide +kernel
theorem dX5_settle_56 : decode cX5_settle 56 = .ok (.astore_n 2, 1) := by decide +kernel
theorem dX5_settle_57 : decode cX5_settle 57 = .ok (.iconst 1, 1) := by decide +kernel
theorem dX5_settle_58 : decode cX5_settle 58 = .ok (.istore_n 3, 1) := by decide +kernel
theorem dX5_settle_59 : decode cX5_settle 59 = .ok (.iload_n 3, 1) := by decide +kernel
theorem dX5_settle_60 : decode cX5_settle 60 = .ok (.iconst 4, 1) := by decide +kernel
theorem dX5_settle_61 : decode cX5_settle 61 = .ok (.if_icmp .ge 23, 3) := by decide +kernel
theorem dX5_settle_64 : decode cX5_settle 64 = .ok (.aload_n 0, 1) := by decide +kernel
theorem dX5_settle_65 : decode cX5_settle 65 = .ok (.getfield 11, 3) := by decide +kernel
theorem dX5_settle_68 : decode cX5_settle 68 = .ok (.iload_n 3, 1) := by decide +kernel
theorem dX5_settle_69 : decode cX5_settle 69 = .ok (.iconst 1, 1) := by decide +kernel
theorem dX5_settle_70 : decode cX5_settle 70 = .ok (.isub, 1) := by decide +kernel
theorem dX5_settle_71 : decode cX5_settle 71 = .ok (.aload_n 0, 1) := by decide +kernel
theorem dX5_settle_72 : decode cX5_settle 72 = .ok (.getfield 11, 3) := by decide +kernel
theorem dX5_settle_75 : decode cX5_settle 75 = .ok (.iload_n 3, 1) := by decide +kernel
theorem dX5_settle_76 : decode cX5_settle 76 = .ok (.aaload, 1) := by decide +kernel
theorem dX5_settle_77 : decode cX5_settle 77 = .ok (.aastore, 1) := by decide +kernel
theorem dX5_settle_78 : decode cX5_settle 78 = .ok (.iinc 3 1, 3) := by decide +kernel
theorem dX5_settle_81 : decode cX5_settle 81 = .ok (.goto (-22), 3) := by decide +kernel
theorem dX5_settle_84 : decode cX5_settle 84 = .ok (.aload_n 0, 1) := by decide +kernel
theorem dX5_settle_85 : decode cX5_settle 85 = .ok (.getfield 11, 3) := by decide +kernel
theorem dX5_settle_88 : decode cX5_settle 88 = .ok (.iconst 3, 1) := by decide +kernel
theorem dX5_settle_89 : decode cX5_settle 89 = .ok (.aload_n 0, 1) := by decide +kernel
theorem dX5_settle_90 : decode cX5_settle 90 = .ok (.getfield 16, 3) := by decide +kernel
theorem dX5_settle_93 : decode cX5_settle 93 = .ok (.aastore, 1) := by decide +kernel
theorem dX5_settle_94 : decode cX5_settle 94 = .ok (.aload_n 0, 1) := by decide +kernel
theorem dX5_settle_95 : decode cX5_settle 95 = .ok (.aload_n 0, 1) := by decide +kernel
theorem dX5_settle_96 : decode cX5_settle 96 = .ok (.getfield 20, 3) := by decide +kernel
theorem dX5_settle_99 : decode cX5_settle 99 = .ok (.putfield 16, 3) := by decide +kernel
theorem dX5_settle_102 : decode cX5_settle 102 = .ok (.aload_n 0, 1) := by decide +kernel
theorem dX5_settle_103 : decode cX5_settle 103 = .ok (.aload_n 2, 1) := by decide +kernel
theorem dX5_settle_104 : decode cX5_settle 104 = .ok (.putfield 20, 3) := by decide +kernel
theorem dX5_settle_107 : decode cX5_settle 107 = .ok (.iload_n 1, 1) := by decide +kernel
theorem dX5_settle_108 : decode cX5_settle 108 = .ok (.ireturn, 1) := by decide +kernel
theorem dX5_isBelow_0 : decode cX5_isBelow 0 = .ok (.iload_n 0, 1) := by decide +kernel
theorem dX5_isBelow_1 : decode cX5_isBelow 1 = .ok (.ifCond .lt 12, 3) := by decide +kernel
theorem dX5_isBelow_4 : decode cX5_isBelow 4 = .ok (.iload_n 0, 1) := by decide +kernel
theorem dX5_isBelow_5 : decode cX5_isBelow 5 = .ok (.iload_n 1, 1) := by decide +kernel
theorem dX5_isBelow_6 : decode cX5_isBelow 6 = .ok (.if_icmp .ge 7, 3) := by decide +kernel
theorem dX5_isBelow_9 : decode cX5_isBelow 9 = .ok (.iconst 1, 1) := by decide +kernel
theorem dX5_isBelow_10 : decode cX5_isBelow 10 = .ok (.goto 4, 3) := by decide +kernel
theorem dX5_isBelow_13 : decode cX5_isBelow 13 = .ok (.iconst 0, 1) := by decide +kernel
theorem dX5_isBelow_14 : decode cX5_isBelow 14 = .ok (.ireturn, 1) := by decide +kernel
theorem dX6_init_0 : decode cX6_init 0 = .ok (.aload_n 0, 1) := by decide +kernel
theorem dX6_init_1 : decode cX6_init 1 = .ok (.invokespecial 1, 3) := by decide +kernel
theorem dX6_init_4 : decode cX6_init 4 = .ok (.aload_n 0, 1) := by decide +kernel
theorem dX6_init_5 : decode cX6_init 5 = .ok (.sipush 411, 3) := by decide +kernel
theorem dX6_init_8 : decode cX6_init 8 = .ok (.newarray .int, 2) := by decide +kernel
theorem dX6_init_10 : decode cX6_init 10 = .ok (.putfield 7, 3) := by decide +kernel
theorem dX6_init_13 : decode cX6_init 13 = .ok (.aload_n 0, 1) := by decide +kernel
theorem dX6_init_14 : decode cX6_init 14 = .ok (.sipush 1644, 3) := by decide +kernel
theorem dX6_init_17 : decode cX6_init 17 = .ok (.newarray .int, 2) := by decide +kernel
theorem dX6_init_19 : decode cX6_init 19 = .ok (.putfield 13, 3) := by decide +kernel
theorem dX6_init_22 : decode cX6_init 22 = .ok (.aload_n 0, 1) := by decide +kernel
theorem dX6_init_23 : decode cX6_init 23 = .ok (.sipush 411, 3) := by decide +kernel
theorem dX6_init_26 : decode cX6_init 26 = .ok (.newarray .int, 2) := by decide +kernel
theorem dX6_init_28 : decode cX6_init 28 = .ok (.putfield 16, 3) := by decide +kernel
theorem dX6_init_31 : decode cX6_init 31 = .ok (.aload_n 0, 1) := by decide +kernel
theorem dX6_init_32 : decode cX6_init 32 = .ok (.sipush 411, 3) := by decide +kernel
theorem dX6_init_35 : decode cX6_init 35 = .ok (.newarray .int, 2) := by decide +kernel
theorem dX6_init_37 : decode cX6_init 37 = .ok (.putfield 19, 3) := by decide +kernel
theorem dX6_init_40 : decode cX6_init 40 = .ok (.aload_n 0, 1) := by decide +kernel
theorem dX6_init_41 : decode cX6_init 41 = .ok (.bipush 60, 2) := by decide +kernel
theorem dX6_init_43 : decode cX6_init 43 = .ok (.newarray .char, 2) := by decide +kernel
theorem dX6_init_45 : decode cX6_init 45 = .ok (.putfield 22, 3) := by decide +kernel
theorem dX6_init_48 : decode cX6_init 48 = .ok (.aload_n 0, 1) := by decide +kernel
theorem dX6_init_49 : decode cX6_init 49 = .ok (.iconst 4, 1) := by decide +kernel
theorem dX6_init_50 : decode cX6_init 50 = .ok (.newarray .int, 2) := by decide +kernel
theorem dX6_init_52 : decode cX6_init 52 = .ok (.putfield 26, 3) := by decide +kernel
theorem dX6_init_55 : decode cX6_init 55 = .ok (.aload_n 0, 1) := by decide +kernel
theorem dX6_init_56 : decode cX6_init 56 = .ok (.iconst 4, 1) := by decide +kernel
theorem dX6_init_57 : decode cX6_init 57 = .ok (.newarray .int, 2) := by decide +kernel
theorem dX6_init_59 : decode cX6_init 59 = .ok (.putfield 29, 3) := by decide +kernel
theorem dX6_init_62 : decode cX6_init 62 = .ok (.aload_n 0, 1) := by decide +kernel
theorem dX6_init_63 : decode cX6_init 63 = .ok (.iconst 4, 1) := by decide +kernel
theorem dX6_init_64 : decode cX6_init 64 = .ok (.newarray .int, 2) := by decide +kernel
theorem dX6_init_66 : decode cX6_init 66 = .ok (.putfield 32, 3) := by decide +kernel
theorem dX6_init_69 : decode cX6_init 69 = .ok (.return_, 1) := by decide +kernel
theorem dX6_in_0 : decode cX6_in 0 = .ok (.iload_n 0, 1) := by decide +kernel
theorem dX6_in_1 : decode cX6_in 1 = .ok (.iload_n 1, 1) := by decide +kernel
theorem dX6_in_2 : decode cX6_in 2 = .ok (.if_icmp .lt 12, 3) := by decide +kernel
theorem dX6_in_5 : decode cX6_in 5 = .ok (.iload_n 0, 1) := by decide +kernel
theorem dX6_in_6 : decode cX6_in 6 = .ok (.iload_n 2, 1) := by decide +kernel
theorem dX6_in_7 : decode cX6_in 7 = .ok (.if_icmp .gt 7, 3) := by decide +kernel
theorem dX6_in_10 : decode cX6_in 10 = .ok (.iconst 1, 1) := by decide +kernel
theorem dX6_in_11 : decode cX6_in 11 = .ok (.goto 4, 3) := by decide +kernel
theorem dX6_in_14 : decode cX6_in 14 = .ok (.iconst 0, 1) := by decide +kernel
theorem dX6_in_15 : decode cX6_in 15 = .ok (.ireturn, 1) := by decide +kernel
theorem dX6_place_0 : decode cX6_place 0 = .ok (.bipush 101, 2) := by decide +kernel
theorem dX6_place_2 : decode cX6_place 2 = .ok (.sipush 155, 3) := by decide +kernel
theorem dX6_place_5 : decode cX6_place 5 = .ok (.iload_n 0, 1) := by decide +kernel
theorem dX6_place_6 : decode cX6_place 6 = .ok (.imul, 1) := by decide +kernel
theorem dX6_place_7 : decode cX6_place 7 = .ok (.iadd, 1) := by decide +kernel
theorem dX6_place_8 : decode cX6_place 8 = .ok (.iconst 5, 1) := by decide +kernel
theorem dX6_place_9 : decode cX6_place 9 = .ok (.iload_n 1, 1) := by decide +kernel
theorem dX6_place_10 : decode cX6_place 10 = .ok (.imul, 1) := by decide +kernel
theorem dX6_place_11 : decode cX6_place 11 = .ok (.iadd, 1) := by decide +kernel
theorem dX6_place_12 : decode cX6_place 12 = .ok (.ireturn, 1) := by decide +kernel
theorem dX6_of_0 : decode cX6_of 0 = .ok (.aload_n 0, 1) := by decide +kernel
theorem dX6_of_1 : decode cX6_of 1 = .ok (.getfield 7, 3) := by decide +kernel
theorem dX6_of_4 : decode cX6_of 4 = .ok (.iload_n 1, 1) := by decide +kernel
theorem dX6_of_5 : decode cX6_of 5 = .ok (.iload_n 2, 1) := by decide +kernel
theorem dX6_of_6 : decode cX6_of 6 = .ok (.invokestatic 35, 3) := by decide +kernel
theorem dX6_of_9 : decode cX6_of 9 = .ok (.iload_n 3, 1) := by decide +kernel
theorem dX6_of_10 : decode cX6_of 10 = .ok (.iadd, 1) := by decide +kernel
theorem dX6_of_11 : decode cX6_of 11 = .ok (.iaload, 1) := by decide +kernel
theorem dX6_of_12 : decode cX6_of 12 = .ok (.ireturn, 1) := by decide +kernel
theorem dX6_isThere_0 : decode cX6_isThere 0 = .ok (.iload_n 1, 1) := by decide +kernel
theorem dX6_isThere_1 : decode cX6_isThere 1 = .ok (.ifCond .ne 21, 3) := by decide +kernel
theorem dX6_isThere_4 : decode cX6_isThere 4 = .ok (.aload_n 0, 1) := by decide +kernel
theorem dX6_isThere_5 : decode cX6_isThere 5 = .ok (.getfield 7, 3) := by decide +kernel
theorem dX6_isThere_8 : decode cX6_isThere 8 = .ok (.iconst 0, 1) := by decide +kernel
theorem dX6_isThere_9 : decode cX6_isThere 9 = .ok (.iaload, 1) := by decide +kernel
theorem dX6_isThere_10 : decode cX6_isThere 10 = .ok (.iconst 3, 1) := by decide +kernel
theorem dX6_isThere_11 : decode cX6_isThere 11 = .ok (.if_icmp .ge 7, 3) := by decide +kernel
theorem dX6_isThere_14 : decode cX6_isThere 14 = .ok (.iconst 1, 1) := by decide +kernel
theorem dX6_isThere_15 : decode cX6_isThere 15 = .ok (.goto 21, 3) := by decide +kernel
theorem dX6_isThere_18 : decode cX6_isThere 18 = .ok (.iconst 0, 1) := by decide +kernel
theorem dX6_isThere_19 : decode cX6_isThere 19 = .ok (.goto 17, 3) := by decide +kernel
theorem dX6_isThere_22 : decode cX6_isThere 22 = .ok (.aload_n 0, 1) := by decide +kernel
theorem dX6_isThere_23 : decode cX6_isThere 23 = .ok (.getfield 7, 3) := by decide +kernel
theorem dX6_isThere_26 : decode cX6_isThere 26 = .ok (.iconst 0, 1) := by decide +kernel
theorem dX6_isThere_27 : decode cX6_isThere 27 = .ok (.iaload, 1) := by decide +kernel
theorem dX6_isThere_28 : decode cX6_isThere 28 = .ok (.ifCond .le 7, 3) := by decide +kernel
theorem dX6_isThere_31 : decode cX6_isThere 31 = .ok (.iconst 1, 1) := by decide +kernel
theorem dX6_isThere_32 : decode cX6_isThere 32 = .ok (.goto 4, 3) := by decide +kernel
theorem dX6_isThere_35 : decode cX6_isThere 35 = .ok (.iconst 0, 1) := by decide +kernel
theorem dX6_isThere_36 : decode cX6_isThere 36 = .ok (.ireturn, 1) := by decide +kernel
theorem dX6_areBoth_0 : decode cX6_areBoth 0 = .ok (.aload_n 0, 1) := by decide +kernel
theorem dX6_areBoth_1 : decode cX6_areBoth 1 = .ok (.getfield 7, 3) := by decide +kernel
theorem dX6_areBoth_4 : decode cX6_areBoth 4 = .ok (.iconst 0, 1) := by decide +kernel
theorem dX6_areBoth_5 : decode cX6_areBoth 5 = .ok (.iaload, 1) := by decide +kernel
theorem dX6_areBoth_6 : decode cX6_areBoth 6 = .ok (.iconst 1, 1) := by decide +kernel
theorem dX6_areBoth_7 : decode cX6_areBoth 7 = .ok (.if_icmp .eq 13, 3) := by decide +kernel
theorem dX6_areBoth_10 : decode cX6_areBoth 10 = .ok (.aload_n 0, 1) := by decide +kernel
theorem dX6_areBoth_11 : decode cX6_areBoth 11 = .ok (.getfield 7, 3) := by decide +kernel
theorem dX6_areBoth_14 : decode cX6_areBoth 14 = .ok (.iconst 0, 1) := by decide +kernel
theorem dX6_areBoth_15 : decode cX6_areBoth 15 = .ok (.iaload, 1) := by decide +kernel
theorem dX6_areBoth_16 : decode cX6_areBoth 16 = .ok (.iconst 2, 1) := by decide +kernel
theorem dX6_areBoth_17 : decode cX6_areBoth 17 = .ok (.if_icmp .ne 7, 3) := by decide +kernel
theorem dX6_areBoth_20 : decode cX6_areBoth 20 = .ok (.iconst 1, 1) := by decide +kernel
theorem dX6_areBoth_21 : decode cX6_areBoth 21 = .ok (.goto 4, 3) := by decide +kernel
theorem dX6_areBoth_24 : decode cX6_areBoth 24 = .ok (.iconst 0, 1) := by decide +kernel
theorem dX6_areBoth_25 : decode cX6_areBoth 25 = .ok (.ireturn, 1) := by decide +kernel
theorem dX6_first_0 : decode cX6_first 0 = .ok (.aload_n 0, 1) := by decide +kernel
theorem dX6_first_1 : decode cX6_first 1 = .ok (.getfield 7, 3) := by decide +kernel
theorem dX6_first_4 : decode cX6_first 4 = .ok (.iconst 0, 1) := by decide +kernel
theorem dX6_first_5 : decode cX6_first 5 = .ok (.iaload, 1) := by decide +kernel
theorem dX6_first_6 : decode cX6_first 6 = .ok (.iconst 2, 1) := by decide +kernel
theorem dX6_first_7 : decode cX6_first 7 = .ok (.if_icmp .ge 7, 3) := by decide +kernel
theorem dX6_first_10 : decode cX6_first 10 = .ok (.iconst 0, 1) := by decide +kernel
theorem dX6_first_11 : decode cX6_first 11 = .ok (.goto 4, 3) := by decide +kernel
theorem dX6_first_14 : decode cX6_first 14 = .ok (.iconst 1, 1) := by decide +kernel
theorem dX6_first_15 : decode cX6_first 15 = .ok (.ireturn, 1) := by decide +kernel
theorem dX6_keeps_0 : decode cX6_keeps 0 = .ok (.iconst 0, 1) := by decide +kernel
theorem dX6_keeps_1 : decode cX6_keeps 1 = .ok (.istore_n 1, 1) := by decide +kernel
theorem dX6_keeps_2 : decode cX6_keeps 2 = .ok (.iload_n 1, 1) := by decide +kernel
theorem dX6_keeps_3 : decode cX6_keeps 3 = .ok (.sipush 411, 3) := by decide +kernel
theorem dX6_keeps_6 : decode cX6_keeps 6 = .ok (.if_icmp .ge 21, 3) := by decide +kernel
theorem dX6_keeps_9 : decode cX6_keeps 9 = .ok (.aload_n 0, 1) := by decide +kernel
theorem dX6_keeps_10 : decode cX6_keeps 10 = .ok (.getfield 16, 3) := by decide +kernel
theorem dX6_keeps_13 : decode cX6_keeps 13 = .ok (.iload_n 1, 1) := by decide +kernel
theorem dX6_keeps_14 : decode cX6_keeps 14 = .ok (.aload_n 0, 1) := by decide +kernel
theorem dX6_keeps_15 : decode cX6_keeps 15 = .ok (.getfield 7, 3) := by decide +kernel
theorem dX6_keeps_18 : decode cX6_keeps 18 = .ok (.iload_n 1, 1) := by decide +kernel
theorem dX6_keeps_19 : decode cX6_keeps 19 = .ok (.iaload, 1) := by decide +kernel
theorem dX6_keeps_20 : decode cX6_keeps 20 = .ok (.iastore, 1) := by decide +kernel
theorem dX6_keeps_21 : decode cX6_keeps 21 = .ok (.iinc 1 1, 3) := by decide +kernel
theorem dX6_keeps_24 : decode cX6_keeps 24 = .ok (.goto (-22), 3) := by decide +kernel
theorem dX6_keeps_27 : decode cX6_keeps 27 = .ok (.return_, 1) := by decide +kernel
theorem dX6_acted_0 : decode cX6_acted 0 = .ok (.iload_n 1, 1) := by decide +kernel
theorem dX6_acted_1 : decode cX6_acted 1 = .ok (.ldc 39, 2) := by decide +kernel
theorem dX6_acted_3 : decode cX6_acted 3 = .ok (.if_icmp .le 98, 3) := by decide +kernel
theorem dX6_acted_6 : decode cX6_acted 6 = .ok (.aload_n 0, 1) := by decide +kernel
theorem dX6_acted_7 : decode cX6_acted 7 = .ok (.getfield 40, 3) := by decide +kernel
theorem dX6_acted_10 : decode cX6_acted 10 = .ok (.iconst 4, 1) := by decide +kernel
theorem dX6_acted_11 : decode cX6_acted 11 = .ok (.if_icmp .ne 44, 3) := by decide +kernel
theorem dX6_acted_14 : decode cX6_acted 14 = .ok (.iconst 0, 1) := by decide +kernel
theorem dX6_acted_15 : decode cX6_acted 15 = .ok (.istore_n 2, 1) := by decide +kernel
theorem dX6_acted_16 : decode cX6_acted 16 = .ok (.iload_n 2, 1) := by decide +kernel
theorem dX6_acted_17 : decode cX6_acted 17 = .ok (.sipush 1233, 3) := by decide +kernel
theorem dX6_acted_20 : decode cX6_acted 20 = .ok (.if_icmp .ge 25, 3) := by decide +kernel
theorem dX6_acted_23 : decode cX6_acted 23 = .ok (.aload_n 0, 1) := by decide +kernel
theorem dX6_acted_24 : decode cX6_acted 24 = .ok (.getfield 13, 3) := by decide +kernel
theorem dX6_acted_27 : decode cX6_acted 27 = .ok (.iload_n 2, 1) := by decide +kernel
theorem dX6_acted_28 : decode cX6_acted 28 = .ok (.aload_n 0, 1) := by decide +kernel
theorem dX6_acted_29 : decode cX6_acted 29 = .ok (.getfield 13, 3) := by decide +kernel
theorem dX6_acted_32 : decode cX6_acted 32 = .ok (.iload_n 2, 1) := by decide +kernel
theorem dX6_acted_33 : decode cX6_acted 33 = .ok (.sipush 411, 3) := by decide +kernel
theorem dX6_acted_36 : decode cX6_acted 36 = .ok (.iadd, 1) := by decide +kernel
theorem dX6_acted_37 : decode cX6_acted 37 = .ok (.iaload, 1) := by decide +kernel
theorem dX6_acted_38 : decode cX6_acted 38 = .ok (.iastore, 1) := by decide +kernel
theorem dX6_acted_39 : decode cX6_acted 39 = .ok (.iinc 2 1, 3) := by decide +kernel
theorem dX6_acted_42 : decode cX6_acted 42 = .ok (.goto (-26), 3) := by decide +kernel
theorem dX6_acted_45 : decode cX6_acted 45 = .ok (.aload_n 0, 1) := by decide +kernel
theorem dX6_acted_46 : decode cX6_acted 46 = .ok (.dup, 1) := by decide +kernel
theorem dX6_acted_47 : decode cX6_acted 47 = .ok (.getfield 40, 3) := by decide +kernel
theorem dX6_acted_50 : decode cX6_acted 50 = .ok (.iconst 1, 1) := by decide +kernel
theorem dX6_acted_51 : decode cX6_acted 51 = .ok (.isub, 1) := by decide +kernel
theorem dX6_acted_52 : decode cX6_acted 52 = .ok (.putfield 40, 3) := by decide +kernel
theorem dX6_acted_55 : decode cX6_acted 55 = .ok (.iconst 0, 1) := by decide +kernel
theorem dX6_acted_56 : decode cX6_acted 56 = .ok (.istore_n 2, 1) := by decide +kernel
theorem dX6_acted_57 : decode cX6_acted 57 = .ok (.iload_n 2, 1) := by decide +kernel
theorem dX6_acted_58 : decode cX6_acted 58 = .ok (.sipush 411, 3) := by decide +kernel
theorem dX6_acted_61 : decode cX6_acted 61 = .ok (.if_icmp .ge 30, 3) := by decide +kernel
theorem dX6_acted_64 : decode cX6_acted 64 = .ok (.aload_n 0, 1) := by decide +kernel
theorem dX6_acted_65 : decode cX6_acted 65 = .ok (.getfield 13, 3) := by decide +kernel
theorem dX6_acted_68 : decode cX6_acted 68 = .ok (.sipush 411, 3) := by decide +kernel
theorem dX6_acted_71 : decode cX6_acted 71 = .ok (.aload_n 0, 1) := by decide +kernel
theorem dX6_acted_72 : decode cX6_acted 72 = .ok (.getfield 40, 3) := by decide +kernel
theorem dX6_acted_75 : decode cX6_acted 75 = .ok (.imul, 1) := by decide +kernel
theorem dX6_acted_76 : decode cX6_acted 76 = .ok (.iload_n 2, 1) := by decide +kernel
theorem dX6_acted_77 : decode cX6_acted 77 = .ok (.iadd, 1) := by decide +kernel
theorem dX6_acted_78 : decode cX6_acted 78 = .ok (.aload_n 0, 1) := by decide +kernel
theorem dX6_acted_79 : decode cX6_acted 79 = .ok (.getfield 16, 3) := by decide +kernel
theorem dX6_acted_82 : decode cX6_acted 82 = .ok (.iload_n 2, 1) := by decide +kernel
theorem dX6_acted_83 : decode cX6_acted 83 = .ok (.iaload, 1) := by decide +kernel
theorem dX6_acted_84 : decode cX6_acted 84 = .ok (.iastore, 1) := by decide +kernel
theorem dX6_acted_85 : decode cX6_acted 85 = .ok (.iinc 2 1, 3) := by decide +kernel
theorem dX6_acted_88 : decode cX6_acted 88 = .ok (.goto (-31), 3) := by decide +kernel
theorem dX6_acted_91 : decode cX6_acted 91 = .ok (.aload_n 0, 1) := by decide +kernel
theorem dX6_acted_92 : decode cX6_acted 92 = .ok (.dup, 1) := by decide +kernel
theorem dX6_acted_93 : decode cX6_acted 93 = .ok (.getfield 40, 3) := by decide +kernel
theorem dX6_acted_96 : decode cX6_acted 96 = .ok (.iconst 1, 1) := by decide +kernel
theorem dX6_acted_97 : decode cX6_acted 97 = .ok (.iadd, 1) := by decide +kernel
theorem dX6_acted_98 : decode cX6_acted 98 = .ok (.putfield 40, 3) := by decide +kernel
theorem dX6_acted_101 : decode cX6_acted 101 = .ok (.iload_n 1, 1) := by decide +kernel
theorem dX6_acted_102 : decode cX6_acted 102 = .ok (.ireturn, 1) := by decide +kernel
theorem dX6_restores_0 : decode cX6_restores 0 = .ok (.iconst 0, 1) := by decide +kernel
theorem dX6_restores_1 : decode cX6_restores 1 = .ok (.istore_n 1, 1) := by decide +kernel
theorem dX6_restores_2 : decode cX6_restores 2 = .ok (.iload_n 1, 1) := by decide +kernel
theorem dX6_restores_3 : decode cX6_restores 3 = .ok (.sipush 411, 3) := by decide +kernel
theorem dX6_restores_6 : decode cX6_restores 6 = .ok (.if_icmp .ge 21, 3) := by decide +kernel
theorem dX6_restores_9 : decode cX6_restores 9 = .ok (.aload_n 0, 1) := by decide +kernel
theorem dX6_restores_10 : decode cX6_restores 10 = .ok (.getfield 7, 3) := by decide +kernel
theorem dX6_restores_13 : decode cX6_restores 13 = .ok (.iload_n 1, 1) := by decide +kernel
theorem dX6_restores_14 : decode cX6_restores 14 = .ok (.aload_n 0, 1) := by decide +kernel
theorem dX6_restores_15 : decode cX6_restores 15 = .ok (.getfield 19, 3) := by decide +kernel
theorem dX6_restores_18 : decode cX6_restores 18 = .ok (.iload_n 1, 1) := by decide +kernel
theorem dX6_restores_19 : decode cX6_restores 19 = .ok (.iaload, 1) := by decide +kernel
theorem dX6_restores_20 : decode cX6_restores 20 = .ok (.iastore, 1) := by decide +kernel
theorem dX6_restores_21 : decode cX6_restores 21 = .ok (.iinc 1 1, 3) := by decide +kernel
theorem dX6_restores_24 : decode cX6_restores 24 = .ok (.goto (-22), 3) := by decide +kernel
theorem dX6_restores_27 : decode cX6_restores 27 = .ok (.return_, 1) := by decide +kernel
theorem dX6_makes_0 : decode cX6_makes 0 = .ok (.aload_n 0, 1) := by decide +kernel
theorem dX6_makes_1 : decode cX6_makes 1 = .ok (.getfield 29, 3) := by decide +kernel
theorem dX6_makes_4 : decode cX6_makes 4 = .ok (.iconst 1, 1) := by decide +kernel
theorem dX6_makes_5 : decode cX6_makes 5 = .ok (.iaload, 1) := by decide +kernel
theorem dX6_makes_6 : decode cX6_makes 6 = .ok (.istore_n 3, 1) := by decide +kernel
theorem dX6_makes_7 : decode cX6_makes 7 = .ok (.aload_n 0, 1) := by decide +kernel
theorem dX6_makes_8 : decode cX6_makes 8 = .ok (.getfield 29, 3) := by decide +kernel
theorem dX6_makes_11 : decode cX6_makes 11 = .ok (.iconst 2, 1) := by decide +kernel
theorem dX6_makes_12 : decode cX6_makes 12 = .ok (.iaload, 1) := by decide +kernel
theorem dX6_makes_13 : decode cX6_makes 13 = .ok (.istore 4, 2) := by decide +kernel
theorem dX6_makes_15 : decode cX6_makes 15 = .ok (.iload_n 1, 1) := by decide +kernel
theorem dX6_makes_16 : decode cX6_makes 16 = .ok (.ifCond .ne 40, 3) := by decide +kernel
theorem dX6_makes_19 : decode cX6_makes 19 = .ok (.iload_n 2, 1) := by decide +kernel
theorem dX6_makes_20 : decode cX6_makes 20 = .ok (.iconst 1, 1) := by decide +kernel
theorem dX6_makes_21 : decode cX6_makes 21 = .ok (.if_icmp .ne 35, 3) := by decide +kernel
theorem dX6_makes_24 : decode cX6_makes 24 = .ok (.aload_n 0, 1) := by decide +kernel
theorem dX6_makes_25 : decode cX6_makes 25 = .ok (.getfield 29, 3) := by decide +kernel
theorem dX6_makes_28 : decode cX6_makes 28 = .ok (.iconst 1, 1) := by decide +kernel
theorem dX6_makes_29 : decode cX6_makes 29 = .ok (.bipush 10, 2) := by decide +kernel
theorem dX6_makes_31 : decode cX6_makes 31 = .ok (.iload_n 3, 1) := by decide +kernel
theorem dX6_makes_32 : decode cX6_makes 32 = .ok (.imul, 1) := by decide +kernel
theorem dX6_makes_33 : decode cX6_makes 33 = .ok (.iload 4, 2) := by decide +kernel
theorem dX6_makes_35 : decode cX6_makes 35 = .ok (.iadd, 1) := by decide +kernel
theorem dX6_makes_36 : decode cX6_makes 36 = .ok (.iastore, 1) := by decide +kernel
theorem dX6_makes_37 : decode cX6_makes 37 = .ok (.aload_n 0, 1) := by decide +kernel
theorem dX6_makes_38 : decode cX6_makes 38 = .ok (.getfield 29, 3) := by decide +kernel
theorem dX6_makes_41 : decode cX6_makes 41 = .ok (.iconst 2, 1) := by decide +kernel
theorem dX6_makes_42 : decode cX6_makes 42 = .ok (.aload_n 0, 1) := by decide +kernel
theorem dX6_makes_43 : decode cX6_makes 43 = .ok (.getfield 29, 3) := by decide +kernel
theorem dX6_makes_46 : decode cX6_makes 46 = .ok (.iconst 3, 1) := by decide +kernel
theorem dX6_makes_47 : decode cX6_makes 47 = .ok (.iaload, 1) := by decide +kernel
theorem dX6_makes_48 : decode cX6_makes 48 = .ok (.iastore, 1) := by decide +kernel
theorem dX6_makes_49 : decode cX6_makes 49 = .ok (.aload_n 0, 1) := by decide +kernel
theorem dX6_makes_50 : decode cX6_makes 50 = .ok (.getfield 29, 3) := by decide +kernel
theorem dX6_makes_53 : decode cX6_makes 53 = .ok (.iconst 3, 1) := by decide +kernel
theorem dX6_makes_54 : decode cX6_makes 54 = .ok (.iconst 0, 1) := by decide +kernel
theorem dX6_makes_55 : decode cX6_makes 55 = .ok (.iastore, 1) := by decide +kernel
theorem dX6_makes_56 : decode cX6_makes 56 = .ok (.iload_n 1, 1) := by decide +kernel
theorem dX6_makes_57 : decode cX6_makes 57 = .ok (.iconst 1, 1) := by decide +kernel
theorem dX6_makes_58 : decode cX6_makes 58 = .ok (.if_icmp .ne 43, 3) := by decide +kernel
theorem dX6_makes_61 : decode cX6_makes 61 = .ok (.iload_n 2, 1) := by decide +kernel
theorem dX6_makes_62 : decode cX6_makes 62 = .ok (.ifCond .ne 39, 3) := by decide +kernel
theorem dX6_makes_65 : decode cX6_makes 65 = .ok (.aload_n 0, 1) := by decide +kernel
theorem dX6_makes_66 : decode cX6_makes 66 = .ok (.getfield 29, 3) := by decide +kernel
theorem dX6_makes_69 : decode cX6_makes 69 = .ok (.iconst 1, 1) := by decide +kernel
theorem dX6_makes_70 : decode cX6_makes 70 = .ok (.iload_n 3, 1) := by decide +kernel
theorem dX6_makes_71 : decode cX6_makes 71 = .ok (.bipush 10, 2) := by decide +kernel
theorem dX6_makes_73 : decode cX6_makes 73 = .ok (.idiv, 1) := by decide +kernel
theorem dX6_makes_74 : decode cX6_makes 74 = .ok (.iastore, 1) := by decide +kernel
theorem dX6_makes_75 : decode cX6_makes 75 = .ok (.aload_n 0, 1) := by decide +kernel
theorem dX6_makes_76 : decode cX6_makes 76 = .ok (.getfield 29, 3) := by decide +kernel
theorem dX6_makes_79 : decode cX6_makes 79 = .ok (.iconst 2, 1) := by decide +kernel
theorem dX6_makes_80 : decode cX6_makes 80 = .ok (.iload_n 3, 1) := by decide +kernel
theorem dX6_makes_81 : decode cX6_makes 81 = .ok (.bipush 10, 2) := by decide +kernel
theorem dX6_makes_83 : decode cX6_makes 83 = .ok (.irem, 1) := by decide +kernel
theorem dX6_makes_84 : decode cX6_makes 84 = .ok (.iastore, 1) := by decide +kernel
theorem dX6_makes_85 : decode cX6_makes 85 = .ok (.aload_n 0, 1) := by decide +kernel
theorem dX6_makes_86 : decode cX6_makes 86 = .ok (.getfield 29, 3) := by decide +kernel
theorem dX6_makes_89 : decode cX6_makes 89 = .ok (.iconst 3, 1) := by decide +kernel
theorem dX6_makes_90 : decode cX6_makes 90 = .ok (.iload 4, 2) := by decide +kernel
theorem dX6_makes_92 : decode cX6_makes 92 = .ok (.ifCond .ne 7, 3) := by decide +kernel
theorem dX6_makes_95 : decode cX6_makes 95 = .ok (.iconst 0, 1) := by decide +kernel
theorem dX6_makes_96 : decode cX6_makes 96 = .ok (.goto 4, 3) := by decide +kernel
theorem dX6_makes_99 : decode cX6_makes 99 = .ok (.iconst 1, 1) := by decide +kernel
theorem dX6_makes_100 : decode cX6_makes 100 = .ok (.iastore, 1) := by decide +kernel
theorem dX6_makes_101 : decode cX6_makes 101 = .ok (.return_, 1) := by decide +kernel
theorem dX6_takes_0 : decode cX6_takes 0 = .ok (.iconst 0, 1) := by decide +kernel
theorem dX6_takes_1 : decode cX6_takes 1 = .ok (.istore_n 3, 1) := by decide +kernel
theorem dX6_takes_2 : decode cX6_takes 2 = .ok (.iload_n 3, 1) := by decide +kernel
theorem dX6_takes_3 : decode cX6_takes 3 = .ok (.iconst 4, 1) := by decide +kernel
theorem dX6_takes_4 : decode cX6_takes 4 = .ok (.if_icmp .ge 24, 3) := by decide +kernel
theorem dX6_takes_7 : decode cX6_takes 7 = .ok (.aload_n 0, 1) := by decide +kernel
theorem dX6_takes_8 : decode cX6_takes 8 = .ok (.getfield 29, 3) := by decide +kernel
theorem dX6_takes_11 : decode cX6_takes 11 = .ok (.iload_n 3, 1) := by decide +kernel
theorem dX6_takes_12 : decode cX6_takes 12 = .ok (.aload_n 0, 1) := by decide +kernel
theorem dX6_takes_13 : decode cX6_takes 13 = .ok (.iload_n 1, 1) := by decide +kernel
theorem dX6_takes_14 : decode cX6_takes 14 = .ok (.iload_n 2, 1) := by decide +kernel
theorem dX6_takes_15 : decode cX6_takes 15 = .ok (.iconst 1, 1) := by decide +kernel
theorem dX6_takes_16 : decode cX6_takes 16 = .ok (.iload_n 3, 1) := by decide +kernel
theorem dX6_takes_17 : decode cX6_takes 17 = .ok (.iadd, 1) := by decide +kernel
theorem dX6_takes_18 : decode cX6_takes 18 = .ok (.invokevirtual 44, 3) := by decide +kernel
theorem dX6_takes_21 : decode cX6_takes 21 = .ok (.iastore, 1) := by decide +kernel
theorem dX6_takes_22 : decode cX6_takes 22 = .ok (.iinc 3 1, 3) := by decide +kernel
theorem dX6_takes_25 : decode cX6_takes 25 = .ok (.goto (-23), 3) := by decide +kernel
theorem dX6_takes_28 : decode cX6_takes 28 = .ok (.return_, 1) := by decide +kernel
theorem dX6_lays_0 : decode cX6_lays 0 = .ok (.iload_n 1, 1) := by decide +kernel
theorem dX6_lays_1 : decode cX6_lays 1 = .ok (.iload_n 2, 1) := by decide +kernel
theorem dX6_lays_2 : decode cX6_lays 2 = .ok (.invokestatic 35, 3) := by decide +kernel
theorem dX6_lays_5 : decode cX6_lays 5 = .ok (.istore 4, 2) := by decide +kernel
theorem dX6_lays_7 : decode cX6_lays 7 = .ok (.aload_n 0, 1) := by decide +kernel
theorem dX6_lays_8 : decode cX6_lays 8 = .ok (.getfield 7, 3) := by decide +kernel
theorem dX6_lays_11 : decode cX6_lays 11 = .ok (.iload 4, 2) := by decide +kernel
theorem dX6_lays_13 : decode cX6_lays 13 = .ok (.iconst 0, 1) := by decide +kernel
theorem dX6_lays_14 : decode cX6_lays 14 = .ok (.iadd, 1) := by decide +kernel
theorem dX6_lays_15 : decode cX6_lays 15 = .ok (.iload_n 3, 1) := by decide +kernel
theorem dX6_lays_16 : decode cX6_lays 16 = .ok (.iastore, 1) := by decide +kernel
theorem dX6_lays_17 : decode cX6_lays 17 = .ok (.iconst 0, 1) := by decide +kernel
theorem dX6_lays_18 : decode cX6_lays 18 = .ok (.istore 5, 2) := by decide +kernel
theorem dX6_lays_20 : decode cX6_lays 20 = .ok (.iload 5, 2) := by decide +kernel
theorem dX6_lays_22 : decode cX6_lays 22 = .ok (.iconst 4, 1) := by decide +kernel
theorem dX6_lays_23 : decode cX6_lays 23 = .ok (.if_icmp .ge 41, 3) := by decide +kernel
theorem dX6_lays_26 : decode cX6_lays 26 = .ok (.aload_n 0, 1) := by decide +kernel
theorem dX6_lays_27 : decode cX6_lays 27 = .ok (.getfield 7, 3) := by decide +kernel
theorem dX6_lays_30 : decode cX6_lays 30 = .ok (.iload 4, 2) := by decide +kernel
theorem dX6_lays_32 : decode cX6_lays 32 = .ok (.iconst 1, 1) := by decide +kernel
theorem dX6_lays_33 : decode cX6_lays 33 = .ok (.iadd, 1) := by decide +kernel
theorem dX6_lays_34 : decode cX6_lays 34 = .ok (.iload 5, 2) := by decide +kernel
theorem dX6_lays_36 : decode cX6_lays 36 = .ok (.iadd, 1) := by decide +kernel
theorem dX6_lays_37 : decode cX6_lays 37 = .ok (.aload_n 0, 1) := by decide +kernel
theorem dX6_lays_38 : decode cX6_lays 38 = .ok (.getfield 29, 3) := by decide +kernel
theorem dX6_lays_41 : decode cX6_lays 41 = .ok (.iconst 0, 1) := by decide +kernel
theorem dX6_lays_42 : decode cX6_lays 42 = .ok (.iaload, 1) := by decide +kernel
theorem dX6_lays_43 : decode cX6_lays 43 = .ok (.ifCond .ne 7, 3) := by decide +kernel
theorem dX6_lays_46 : decode cX6_lays 46 = .ok (.iconst 0, 1) := by decide +kernel
theorem dX6_lays_47 : decode cX6_lays 47 = .ok (.goto 10, 3) := by decide +kernel
theorem dX6_lays_50 : decode cX6_lays 50 = .ok (.aload_n 0, 1) := by decide +kernel
theorem dX6_lays_51 : decode cX6_lays 51 = .ok (.getfield 29, 3) := by decide +kernel
theorem dX6_lays_54 : decode cX6_lays 54 = .ok (.iload 5, 2) := by decide +kernel
theorem dX6_lays_56 : decode cX6_lays 56 = .ok (.iaload, 1) := by decide +kernel
theorem dX6_lays_57 : decode cX6_lays 57 = .ok (.iastore, 1) := by decide +kernel
theorem dX6_lays_58 : decode cX6_lays 58 = .ok (.iinc 5 1, 3) := by decide +kernel
theorem dX6_lays_61 : decode cX6_lays 61 = .ok (.goto (-41), 3) := by decide +kernel
theorem dX6_lays_64 : decode cX6_lays 64 = .ok (.return_, 1) := by decide +kernel
theorem dX6_rows_0 : decode cX6_rows 0 = .ok (.iconst 0, 1) := by decide +kernel
theorem dX6_rows_1 : decode cX6_rows 1 = .ok (.istore_n 2, 1) := by decide +kernel
theorem dX6_rows_2 : decode cX6_rows 2 = .ok (.iconst 0, 1) := by decide +kernel
theorem dX6_rows_3 : decode cX6_rows 3 = .ok (.istore_n 3, 1) := by decide +kernel
theorem dX6_rows_4 : decode cX6_rows 4 = .ok (.iload_n 3, 1) := by decide +kernel
theorem dX6_rows_5 : decode cX6_rows 5 = .ok (.bipush 31, 2) := by decide +kernel
theorem dX6_rows_7 : decode cX6_rows 7 = .ok (.if_icmp .ge 19, 3) := by decide +kernel
theorem dX6_rows_10 : decode cX6_rows 10 = .ok (.iload_n 2, 1) := by decide +kernel
theorem dX6_rows_11 : decode cX6_rows 11 = .ok (.aload_n 0, 1) := by decide +kernel
theorem dX6_rows_12 : decode cX6_rows 12 = .ok (.iload_n 1, 1) := by decide +kernel
theorem dX6_rows_13 : decode cX6_rows 13 = .ok (.iload_n 3, 1) := by decide +kernel
theorem dX6_rows_14 : decode cX6_rows 14 = .ok (.iconst 1, 1) := by decide +kernel
theorem dX6_rows_15 : decode cX6_rows 15 = .ok (.invokevirtual 44, 3) := by decide +kernel
theorem dX6_rows_18 : decode cX6_rows 18 = .ok (.iadd, 1) := by decide +kernel
theorem dX6_rows_19 : decode cX6_rows 19 = .ok (.istore_n 2, 1) := by decide +kernel
theorem dX6_rows_20 : decode cX6_rows 20 = .ok (.iinc 3 1, 3) := by decide +kernel
theorem dX6_rows_23 : decode cX6_rows 23 = .ok (.goto (-19), 3) := by decide +kernel
theorem dX6_rows_26 : decode cX6_rows 26 = .ok (.iload_n 2, 1) := by decide +kernel
theorem dX6_rows_27 : decode cX6_rows 27 = .ok (.ireturn, 1) := by decide +kernel
theorem dX6_clears_0 : decode cX6_clears 0 = .ok (.iconst 0, 1) := by decide +kernel
theorem dX6_clears_1 : decode cX6_clears 1 = .ok (.istore_n 2, 1) := by decide +kernel
theorem dX6_clears_2 : decode cX6_clears 2 = .ok (.iload_n 2, 1) := by decide +kernel
theorem dX6_clears_3 : decode cX6_clears 3 = .ok (.sipush 155, 3) := by decide +kernel
theorem dX6_clears_6 : decode cX6_clears 6 = .ok (.if_icmp .ge 25, 3) := by decide +kernel
theorem dX6_clears_9 : decode cX6_clears 9 = .ok (.aload_n 0, 1) := by decide +kernel
theorem dX6_clears_10 : decode cX6_clears 10 = .ok (.getfield 7, 3) := by decide +kernel
theorem dX6_clears_13 : decode cX6_clears 13 = .ok (.bipush 101, 2) := by decide +kernel
theorem dX6_clears_15 : decode cX6_clears 15 = .ok (.sipush 155, 3) := by decide +kernel
theorem dX6_clears_18 : decode cX6_clears 18 = .ok (.iload_n 1, 1) := by decide +kernel
theorem dX6_clears_19 : decode cX6_clears 19 = .ok (.imul, 1) := by decide +kernel
theorem dX6_clears_20 : decode cX6_clears 20 = .ok (.iadd, 1) := by decide +kernel
theorem dX6_clears_21 : decode cX6_clears 21 = .ok (.iload_n 2, 1) := by decide +kernel
theorem dX6_clears_22 : decode cX6_clears 22 = .ok (.iadd, 1) := by decide +kernel
theorem dX6_clears_23 : decode cX6_clears 23 = .ok (.iconst 0, 1) := by decide +kernel
theorem dX6_clears_24 : decode cX6_clears 24 = .ok (.iastore, 1) := by decide +kernel
theorem dX6_clears_25 : decode cX6_clears 25 = .ok (.iinc 2 1, 3) := by decide +kernel
theorem dX6_clears_28 : decode cX6_clears 28 = .ok (.goto (-26), 3) := by decide +kernel
theorem dX6_clears_31 : decode cX6_clears 31 = .ok (.return_, 1) := by decide +kernel
theorem dX6_differs_0 : decode cX6_differs 0 = .ok (.aload_n 0, 1) := by decide +kernel
theorem dX6_differs_1 : decode cX6_differs 1 = .ok (.iconst 0, 1) := by decide +kernel
theorem dX6_differs_2 : decode cX6_differs 2 = .ok (.iload_n 1, 1) := by decide +kernel
theorem dX6_differs_3 : decode cX6_differs 3 = .ok (.iconst 0, 1) := by decide +kernel
theorem dX6_differs_4 : decode cX6_differs 4 = .ok (.invokevirtual 44, 3) := by decide +kernel
theorem dX6_differs_7 : decode cX6_differs 7 = .ok (.aload_n 0, 1) := by decide +kernel
theorem dX6_differs_8 : decode cX6_differs 8 = .ok (.iconst 1, 1) := by decide +kernel
theorem dX6_differs_9 : decode cX6_differs 9 = .ok (.iload_n 1, 1) := by decide +kernel
theorem dX6_differs_10 : decode cX6_differs 10 = .ok (.iconst 0, 1) := by decide +kernel
theorem dX6_differs_11 : decode cX6_differs 11 = .ok (.invokevirtual 44, 3) := by decide +kernel
theorem dX6_differs_14 : decode cX6_differs 14 = .ok (.if_icmp .eq 5, 3) := by decide +kernel
theorem dX6_differs_17 : decode cX6_differs 17 = .ok (.iconst 1, 1) := by decide +kernel
theorem dX6_differs_18 : decode cX6_differs 18 = .ok (.ireturn, 1) := by decide +kernel
theorem dX6_differs_19 : decode cX6_differs 19 = .ok (.aload_n 0, 1) := by decide +kernel
theorem dX6_differs_20 : decode cX6_differs 20 = .ok (.iconst 1, 1) := by decide +kernel
theorem dX6_differs_21 : decode cX6_differs 21 = .ok (.iload_n 1, 1) := by decide +kernel
theorem dX6_differs_22 : decode cX6_differs 22 = .ok (.invokevirtual 48, 3) := by decide +kernel
theorem dX6_differs_25 : decode cX6_differs 25 = .ok (.aload_n 0, 1) := by decide +kernel
theorem dX6_differs_26 : decode cX6_differs 26 = .ok (.iconst 1, 1) := by decide +kernel
theorem dX6_differs_27 : decode cX6_differs 27 = .ok (.iconst 0, 1) := by decide +kernel
theorem dX6_differs_28 : decode cX6_differs 28 = .ok (.invokevirtual 52, 3) := by decide +kernel
theorem dX6_differs_31 : decode cX6_differs 31 = .ok (.aload_n 0, 1) := by decide +kernel
theorem dX6_differs_32 : decode cX6_differs 32 = .ok (.getfield 29, 3) := by decide +kernel
theorem dX6_differs_35 : decode cX6_differs 35 = .ok (.iconst 0, 1) := by decide +kernel
theorem dX6_differs_36 : decode cX6_differs 36 = .ok (.iaload, 1) := by decide +kernel
theorem dX6_differs_37 : decode cX6_differs 37 = .ok (.aload_n 0, 1) := by decide +kernel
theorem dX6_differs_38 : decode cX6_differs 38 = .ok (.iconst 0, 1) := by decide +kernel
theorem dX6_differs_39 : decode cX6_differs 39 = .ok (.iload_n 1, 1) := by decide +kernel
theorem dX6_differs_40 : decode cX6_differs 40 = .ok (.iconst 1, 1) := by decide +kernel
theorem dX6_differs_41 : decode cX6_differs 41 = .ok (.invokevirtual 44, 3) := by decide +kernel
theorem dX6_differs_44 : decode cX6_differs 44 = .ok (.if_icmp .eq 7, 3) := by decide +kernel
theorem dX6_differs_47 : decode cX6_differs 47 = .ok (.iconst 1, 1) := by decide +kernel
theorem dX6_differs_48 : decode cX6_differs 48 = .ok (.goto 4, 3) := by decide +kernel
theorem dX6_differs_51 : decode cX6_differs 51 = .ok (.iconst 0, 1) := by decide +kernel
theorem dX6_differs_52 : decode cX6_differs 52 = .ok (.istore_n 2, 1) := by decide +kernel
theorem dX6_differs_53 : decode cX6_differs 53 = .ok (.iconst 1, 1) := by decide +kernel
theorem dX6_differs_54 : decode cX6_differs 54 = .ok (.istore_n 3, 1) := by decide +kernel
theorem dX6_differs_55 : decode cX6_differs 55 = .ok (.iload_n 3, 1) := by decide +kernel
theorem dX6_differs_56 : decode cX6_differs 56 = .ok (.iconst 4, 1) := by decide +kernel
theorem dX6_differs_57 : decode cX6_differs 57 = .ok (.if_icmp .ge 47, 3) := by decide +kernel
theorem dX6_differs_60 : decode cX6_differs 60 = .ok (.iload_n 2, 1) := by decide +kernel
theorem dX6_differs_61 : decode cX6_differs 61 = .ok (.ifCond .ne 31, 3) := by decide +kernel
theorem dX6_differs_64 : decode cX6_differs 64 = .ok (.aload_n 0, 1) := by decide +kernel
theorem dX6_differs_65 : decode cX6_differs 65 = .ok (.getfield 29, 3) := by decide +kernel
theorem dX6_differs_68 : decode cX6_differs 68 = .ok (.iconst 0, 1) := by decide +kernel
theorem dX6_differs_69 : decode cX6_differs 69 = .ok (.iaload, 1) := by decide +kernel
theorem dX6_differs_70 : decode cX6_differs 70 = .ok (.iconst 1, 1) := by decide +kernel
theorem dX6_differs_71 : decode cX6_differs 71 = .ok (.if_icmp .ne 25, 3) := by decide +kernel
theorem dX6_differs_74 : decode cX6_differs 74 = .ok (.aload_n 0, 1) := by decide +kernel
theorem dX6_differs_75 : decode cX6_differs 75 = .ok (.getfield 29, 3) := by decide +kernel
theorem dX6_differs_78 : decode cX6_differs 78 = .ok (.iload_n 3, 1) := by decide +kernel
theorem dX6_differs_79 : decode cX6_differs 79 = .ok (.iaload, 1) := by decide +kernel
theorem dX6_differs_80 : decode cX6_differs 80 = .ok (.aload_n 0, 1) := by decide +kernel
theorem dX6_differs_81 : decode cX6_differs 81 = .ok (.iconst 0, 1) := by decide +kernel
theorem dX6_differs_82 : decode cX6_differs 82 = .ok (.iload_n 1, 1) := by decide +kernel
theorem dX6_differs_83 : decode cX6_differs 83 = .ok (.iconst 1, 1) := by decide +kernel
theorem dX6_differs_84 : decode cX6_differs 84 = .ok (.iload_n 3, 1) := by decide +kernel
theorem dX6_differs_85 : decode cX6_differs 85 = .ok (.iadd, 1) := by decide +kernel
theorem dX6_differs_86 : decode cX6_differs 86 = .ok (.invokevirtual 44, 3) := by decide +kernel
theorem dX6_differs_89 : decode cX6_differs 89 = .ok (.if_icmp .eq 7, 3) := by decide +kernel
theorem dX6_differs_92 : decode cX6_differs 92 = .ok (.iconst 1, 1) := by decide +kernel
theorem dX6_differs_93 : decode cX6_differs 93 = .ok (.goto 4, 3) := by decide +kernel
theorem dX6_differs_96 : decode cX6_differs 96 = .ok (.iconst 0, 1) := by decide +kernel
theorem dX6_differs_97 : decode cX6_differs 97 = .ok (.istore_n 2, 1) := by decide +kernel
theorem dX6_differs_98 : decode cX6_differs 98 = .ok (.iinc 3 1, 3) := by decide +kernel
theorem dX6_differs_101 : decode cX6_differs 101 = .ok (.goto (-46), 3) := by decide +kernel
theorem dX6_differs_104 : decode cX6_differs 104 = .ok (.iload_n 2, 1) := by decide +kernel
theorem dX6_differs_105 : decode cX6_differs 105 = .ok (.ireturn, 1) := by decide +kernel
theorem dX6_differing_0 : decode cX6_differing 0 = .ok (.iconst 0, 1) := by decide +kernel
theorem dX6_differing_1 : decode cX6_differing 1 = .ok (.istore_n 1, 1) := by decide +kernel
theorem dX6_differing_2 : decode cX6_differing 2 = .ok (.iconst 0, 1) := by decide +kernel
theorem dX6_differing_3 : decode cX6_differing 3 = .ok (.istore_n 2, 1) := by decide +kernel
theorem dX6_differing_4 : decode cX6_differing 4 = .ok (.iload_n 2, 1) := by decide +kernel
theorem dX6_differing_5 : decode cX6_differing 5 = .ok (.bipush 31, 2) := by decide +kernel
theorem dX6_differing_7 : decode cX6_differing 7 = .ok (.if_icmp .ge 27, 3) := by decide +kernel
theorem dX6_differing_10 : decode cX6_differing 10 = .ok (.iload_n 1, 1) := by decide +kernel
theorem dX6_differing_11 : decode cX6_differing 11 = .ok (.aload_n 0, 1) := by decide +kernel
theorem dX6_differing_12 : decode cX6_differing 12 = .ok (.iload_n 2, 1) := by decide +kernel
theorem dX6_differing_13 : decode cX6_differing 13 = .ok (.invokevirtual 55, 3) := by decide +kernel
theorem dX6_differing_16 : decode cX6_differing 16 = .ok (.ifCond .eq 9, 3) := by decide +kernel
theorem dX6_differing_19 : decode cX6_differing 19 = .ok (.iconst 1, 1) := by decide +kernel
theorem dX6_differing_20 : decode cX6_differing 20 = .ok (.iload_n 2, 1) := by decide +kernel
theorem dX6_differing_21 : decode cX6_differing 21 = .ok (.ishl, 1) := by decide +kernel
theorem dX6_differing_22 : decode cX6_differing 22 = .ok (.goto 4, 3) := by decide +kernel
theorem dX6_differing_25 : decode cX6_differing 25 = .ok (.iconst 0, 1) := by decide +kernel
theorem dX6_differing_26 : decode cX6_differing 26 = .ok (.ior, 1) := by decide +kernel
theorem dX6_differing_27 : decode cX6_differing 27 = .ok (.istore_n 1, 1) := by decide +kernel
theorem dX6_differing_28 : decode cX6_differing 28 = .ok (.iinc 2 1, 3) := by decide +kernel
theorem dX6_differing_31 : decode cX6_differing 31 = .ok (.goto (-27), 3) := by decide +kernel
theorem dX6_differing_34 : decode cX6_differing 34 = .ok (.iload_n 1, 1) := by decide +kernel
theorem dX6_differing_35 : decode cX6_differing 35 = .ok (.ireturn, 1) := by decide +kernel
theorem dX6_isReady_0 : decode cX6_isReady 0 = .ok (.aload_n 0, 1) := by decide +kernel
theorem dX6_isReady_1 : decode cX6_isReady 1 = .ok (.getfield 7, 3) := by decide +kernel
theorem dX6_isReady_4 : decode cX6_isReady 4 = .ok (.iconst 0, 1) := by decide +kernel
theorem dX6_isReady_5 : decode cX6_isReady 5 = .ok (.iaload, 1) := by decide +kernel
theorem dX6_isReady_6 : decode cX6_isReady 6 = .ok (.iconst 1, 1) := by decide +kernel
theorem dX6_isReady_7 : decode cX6_isReady 7 = .ok (.if_icmp .ne 34, 3) := by decide +kernel
theorem dX6_isReady_10 : decode cX6_isReady 10 = .ok (.aload_n 0, 1) := by decide +kernel
theorem dX6_isReady_11 : decode cX6_isReady 11 = .ok (.getfield 7, 3) := by decide +kernel
theorem dX6_isReady_14 : decode cX6_isReady 14 = .ok (.iconst 2, 1) := by decide +kernel
theorem dX6_isReady_15 : decode cX6_isReady 15 = .ok (.iaload, 1) := by decide +kernel
theorem dX6_isReady_16 : decode cX6_isReady 16 = .ok (.bipush 31, 2) := by decide +kernel
theorem dX6_isReady_18 : decode cX6_isReady 18 = .ok (.if_icmp .ne 23, 3) := by decide +kernel
theorem dX6_isReady_21 : decode cX6_isReady 21 = .ok (.aload_n 0, 1) := by decide +kernel
theorem dX6_isReady_22 : decode cX6_isReady 22 = .ok (.getfield 7, 3) := by decide +kernel
theorem dX6_isReady_25 : decode cX6_isReady 25 = .ok (.iconst 3, 1) := by decide +kernel
theorem dX6_isReady_26 : decode cX6_isReady 26 = .ok (.iaload, 1) := by decide +kernel
theorem dX6_isReady_27 : decode cX6_isReady 27 = .ok (.ifCond .ne 14, 3) := by decide +kernel
theorem dX6_isReady_30 : decode cX6_isReady 30 = .ok (.aload_n 0, 1) := by decide +kernel
theorem dX6_isReady_31 : decode cX6_isReady 31 = .ok (.invokevirtual 59, 3) := by decide +kernel
theorem dX6_isReady_34 : decode cX6_isReady 34 = .ok (.ifCond .ne 7, 3) := by decide +kernel
theorem dX6_isReady_37 : decode cX6_isReady 37 = .ok (.iconst 1, 1) := by decide +kernel
theorem dX6_isReady_38 : decode cX6_isReady 38 = .ok (.goto 4, 3) := by decide +kernel
theorem dX6_isReady_41 : decode cX6_isReady 41 = .ok (.iconst 0, 1) := by decide +kernel
theorem dX6_isReady_42 : decode cX6_isReady 42 = .ok (.ireturn, 1) := by decide +kernel
theorem dX6_begin_0 : decode cX6_begin 0 = .ok (.aload_n 0, 1) := by decide +kernel
theorem dX6_begin_1 : decode cX6_begin 1 = .ok (.getfield 7, 3) := by decide +kernel
theorem dX6_begin_4 : decode cX6_begin 4 = .ok (.iconst 0, 1) := by decide +kernel
theorem dX6_begin_5 : decode cX6_begin 5 = .ok (.iaload, 1) := by decide +kernel
theorem dX6_begin_6 : decode cX6_begin 6 = .ok (.ifCond .eq 6, 3) := by decide +kernel
theorem dX6_begin_9 : decode cX6_begin 9 = .ok (.ldc 63, 2) := by decide +kernel
theorem dX6_begin_11 : decode cX6_begin 11 = .ok (.ireturn, 1) := by decide +kernel
theorem dX6_begin_12 : decode cX6_begin 12 = .ok (.aload_n 0, 1) := by decide +kernel
theorem dX6_begin_13 : decode cX6_begin 13 = .ok (.invokevirtual 64, 3) := by decide +kernel
theorem dX6_begin_16 : decode cX6_begin 16 = .ok (.aload_n 0, 1) := by decide +kernel
theorem dX6_begin_17 : decode cX6_begin 17 = .ok (.getfield 7, 3) := by decide +kernel
theorem dX6_begin_20 : decode cX6_begin 20 = .ok (.iconst 0, 1) := by decide +kernel
theorem dX6_begin_21 : decode cX6_begin 21 = .ok (.iconst 1, 1) := by decide +kernel
theorem dX6_begin_22 : decode cX6_begin 22 = .ok (.iastore, 1) := by decide +kernel
theorem dX6_begin_23 : decode cX6_begin 23 = .ok (.aload_n 0, 1) := by decide +kernel
theorem dX6_begin_24 : decode cX6_begin 24 = .ok (.getfield 7, 3) := by decide +kernel
theorem dX6_begin_27 : decode cX6_begin 27 = .ok (.iconst 2, 1) := by decide +kernel
theorem dX6_begin_28 : decode cX6_begin 28 = .ok (.iconst 0, 1) := by decide +kernel
theorem dX6_begin_29 : decode cX6_begin 29 = .ok (.iastore, 1) := by decide +kernel
theorem dX6_begin_30 : decode cX6_begin 30 = .ok (.aload_n 0, 1) := by decide +kernel
theorem dX6_begin_31 : decode cX6_begin 31 = .ok (.iconst 1, 1) := by decide +kernel
theorem dX6_begin_32 : decode cX6_begin 32 = .ok (.invokevirtual 67, 3) := by decide +kernel
theorem dX6_begin_35 : decode cX6_begin 35 = .ok (.aload_n 0, 1) := by decide +kernel
theorem dX6_begin_36 : decode cX6_begin 36 = .ok (.aload_n 0, 1) := by decide +kernel
theorem dX6_begin_37 : decode cX6_begin 37 = .ok (.iconst 0, 1) := by decide +kernel
theorem dX6_begin_38 : decode cX6_begin 38 = .ok (.invokevirtual 71, 3) := by decide +kernel
theorem dX6_begin_41 : decode cX6_begin 41 = .ok (.invokevirtual 75, 3) := by decide +kernel
theorem dX6_begin_44 : decode cX6_begin 44 = .ok (.ireturn, 1) := by decide +kernel
theorem dX6_turns_0 : decode cX6_turns 0 = .ok (.aload_n 0, 1) := by decide +kernel
theorem dX6_turns_1 : decode cX6_turns 1 = .ok (.invokevirtual 78, 3) := by decide +kernel
theorem dX6_turns_4 : decode cX6_turns 4 = .ok (.ifCond .ne 6, 3) := by decide +kernel
theorem dX6_turns_7 : decode cX6_turns 7 = .ok (.ldc 63, 2) := by decide +kernel
theorem dX6_turns_9 : decode cX6_turns 9 = .ok (.ireturn, 1) := by decide +kernel
theorem dX6_turns_10 : decode cX6_turns 10 = .ok (.aload_n 0, 1) := by decide +kernel
theorem dX6_turns_11 : decode cX6_turns 11 = .ok (.getfield 7, 3) := by decide +kernel
theorem dX6_turns_14 : decode cX6_turns 14 = .ok (.iconst 0, 1) := by decide +kernel
theorem dX6_turns_15 : decode cX6_turns 15 = .ok (.iconst 2, 1) := by decide +kernel
theorem dX6_turns_16 : decode cX6_turns 16 = .ok (.iastore, 1) := by decide +kernel
theorem dX6_turns_17 : decode cX6_turns 17 = .ok (.aload_n 0, 1) := by decide +kernel
theorem dX6_turns_18 : decode cX6_turns 18 = .ok (.iconst 1, 1) := by decide +kernel
theorem dX6_turns_19 : decode cX6_turns 19 = .ok (.invokevirtual 71, 3) := by decide +kernel
theorem dX6_turns_22 : decode cX6_turns 22 = .ok (.ireturn, 1) := by decide +kernel
theorem dX6_turn_0 : decode cX6_turn 0 = .ok (.aload_n 0, 1) := by decide +kernel
theorem dX6_turn_1 : decode cX6_turn 1 = .ok (.invokevirtual 64, 3) := by decide +kernel
theorem dX6_turn_4 : decode cX6_turn 4 = .ok (.aload_n 0, 1) := by decide +kernel
theorem dX6_turn_5 : decode cX6_turn 5 = .ok (.aload_n 0, 1) := by decide +kernel
theorem dX6_turn_6 : decode cX6_turn 6 = .ok (.invokevirtual 82, 3) := by decide +kernel
theorem dX6_turn_9 : decode cX6_turn 9 = .ok (.invokevirtual 75, 3) := by decide +kernel
theorem dX6_turn_12 : decode cX6_turn 12 = .ok (.ireturn, 1) := by decide +kernel
theorem dX6_turnsBack_0 : decode cX6_turnsBack 0 = .ok (.aload_n 0, 1) := by decide +kernel
theorem dX6_turnsBack_1 : decode cX6_turnsBack 1 = .ok (.invokevirtual 85, 3) := by decide +kernel
theorem dX6_turnsBack_4 : decode cX6_turnsBack 4 = .ok (.ifCond .eq 12, 3) := by decide +kernel
theorem dX6_turnsBack_7 : decode cX6_turnsBack 7 = .ok (.aload_n 0, 1) := by decide +kernel
theorem dX6_turnsBack_8 : decode cX6_turnsBack 8 = .ok (.getfield 7, 3) := by decide +kernel
theorem dX6_turnsBack_11 : decode cX6_turnsBack 11 = .ok (.iconst 3, 1) := by decide +kernel
theorem dX6_turnsBack_12 : decode cX6_turnsBack 12 = .ok (.iaload, 1) := by decide +kernel
theorem dX6_turnsBack_13 : decode cX6_turnsBack 13 = .ok (.ifCond .le 6, 3) := by decide +kernel
theorem dX6_turnsBack_16 : decode cX6_turnsBack 16 = .ok (.ldc 63, 2) := by decide +kernel
theorem dX6_turnsBack_18 : decode cX6_turnsBack 18 = .ok (.ireturn, 1) := by decide +kernel
theorem dX6_turnsBack_19 : decode cX6_turnsBack 19 = .ok (.aload_n 0, 1) := by decide +kernel
theorem dX6_turnsBack_20 : decode cX6_turnsBack 20 = .ok (.getfield 7, 3) := by decide +kernel
theorem dX6_turnsBack_23 : decode cX6_turnsBack 23 = .ok (.iconst 0, 1) := by decide +kernel
theorem dX6_turnsBack_24 : decode cX6_turnsBack 24 = .ok (.dup2, 1) := by decide +kernel
theorem dX6_turnsBack_25 : decode cX6_turnsBack 25 = .ok (.iaload, 1) := by decide +kernel
theorem dX6_turnsBack_26 : decode cX6_turnsBack 26 = .ok (.iconst 1, 1) := by decide +kernel
theorem dX6_turnsBack_27 : decode cX6_turnsBack 27 = .ok (.isub, 1) := by decide +kernel
theorem dX6_turnsBack_28 : decode cX6_turnsBack 28 = .ok (.iastore, 1) := by decide +kernel
theorem dX6_turnsBack_29 : decode cX6_turnsBack 29 = .ok (.aload_n 0, 1) := by decide +kernel
theorem dX6_turnsBack_30 : decode cX6_turnsBack 30 = .ok (.getfield 7, 3) := by decide +kernel
theorem dX6_turnsBack_33 : decode cX6_turnsBack 33 = .ok (.iconst 2, 1) := by decide +kernel
theorem dX6_turnsBack_34 : decode cX6_turnsBack 34 = .ok (.aload_n 0, 1) := by decide +kernel
theorem dX6_turnsBack_35 : decode cX6_turnsBack 35 = .ok (.getfield 7, 3) := by decide +kernel
theorem dX6_turnsBack_38 : decode cX6_turnsBack 38 = .ok (.iconst 0, 1) := by decide +kernel
theorem dX6_turnsBack_39 : decode cX6_turnsBack 39 = .ok (.iaload, 1) := by decide +kernel
theorem dX6_turnsBack_40 : decode cX6_turnsBack 40 = .ok (.iconst 1, 1) := by decide +kernel
theorem dX6_turnsBack_41 : decode cX6_turnsBack 41 = .ok (.if_icmp .ne 8, 3) := by decide +kernel
theorem dX6_turnsBack_44 : decode cX6_turnsBack 44 = .ok (.bipush 31, 2) := by decide +kernel
theorem dX6_turnsBack_46 : decode cX6_turnsBack 46 = .ok (.goto 4, 3) := by decide +kernel
theorem dX6_turnsBack_49 : decode cX6_turnsBack 49 = .ok (.iconst 0, 1) := by decide +kernel
theorem dX6_turnsBack_50 : decode cX6_turnsBack 50 = .ok (.iastore, 1) := by decide +kernel
theorem dX6_turnsBack_51 : decode cX6_turnsBack 51 = .ok (.aload_n 0, 1) := by decide +kernel
theorem dX6_turnsBack_52 : decode cX6_turnsBack 52 = .ok (.getfield 7, 3) := by decide +kernel
theorem dX6_turnsBack_55 : decode cX6_turnsBack 55 = .ok (.iconst 0, 1) := by decide +kernel
theorem dX6_turnsBack_56 : decode cX6_turnsBack 56 = .ok (.iaload, 1) := by decide +kernel
theorem dX6_turnsBack_57 : decode cX6_turnsBack 57 = .ok (.ifCond .ne 8, 3) := by decide +kernel
theorem dX6_turnsBack_60 : decode cX6_turnsBack 60 = .ok (.aload_n 0, 1) := by decide +kernel
theorem dX6_turnsBack_61 : decode cX6_turnsBack 61 = .ok (.iconst 1, 1) := by decide +kernel
theorem dX6_turnsBack_62 : decode cX6_turnsBack 62 = .ok (.invokevirtual 67, 3) := by decide +kernel
theorem dX6_turnsBack_65 : decode cX6_turnsBack 65 = .ok (.aload_n 0, 1) := by decide +kernel
theorem dX6_turnsBack_66 : decode cX6_turnsBack 66 = .ok (.getfield 7, 3) := by decide +kernel
theorem dX6_turnsBack_69 : decode cX6_turnsBack 69 = .ok (.iconst 0, 1) := by decide +kernel
theorem dX6_turnsBack_70 : decode cX6_turnsBack 70 = .ok (.iaload, 1) := by decide +kernel
theorem dX6_turnsBack_71 : decode cX6_turnsBack 71 = .ok (.ireturn, 1) := by decide +kernel
theorem dX6_back_0 : decode cX6_back 0 = .ok (.aload_n 0, 1) := by decide +kernel
theorem dX6_back_1 : decode cX6_back 1 = .ok (.invokevirtual 64, 3) := by decide +kernel
theorem dX6_back_4 : decode cX6_back 4 = .ok (.aload_n 0, 1) := by decide +kernel
theorem dX6_back_5 : decode cX6_back 5 = .ok (.aload_n 0, 1) := by decide +kernel
theorem dX6_back_6 : decode cX6_back 6 = .ok (.invokevirtual 88, 3) := by decide +kernel
theorem dX6_back_9 : decode cX6_back 9 = .ok (.invokevirtual 75, 3) := by decide +kernel
theorem dX6_back_12 : decode cX6_back 12 = .ok (.ireturn, 1) := by decide +kernel
theorem dX6_strange_0 : decode cX6_strange 0 = .ok (.iconst 0, 1) := by decide +kernel
theorem dX6_strange_1 : decode cX6_strange 1 = .ok (.istore_n 1, 1) := by decide +kernel
theorem dX6_strange_2 : decode cX6_strange 2 = .ok (.iconst 0, 1) := by decide +kernel
theorem dX6_strange_3 : decode cX6_strange 3 = .ok (.istore_n 2, 1) := by decide +kernel
theorem dX6_strange_4 : decode cX6_strange 4 = .ok (.iload_n 2, 1) := by decide +kernel
theorem dX6_strange_5 : decode cX6_strange 5 = .ok (.bipush 31, 2) := by decide +kernel
theorem dX6_strange_7 : decode cX6_strange 7 = .ok (.if_icmp .ge 39, 3) := by decide +kernel
theorem dX6_strange_10 : decode cX6_strange 10 = .ok (.iload_n 1, 1) := by decide +kernel
theorem dX6_strange_11 : decode cX6_strange 11 = .ok (.aload_n 0, 1) := by decide +kernel
theorem dX6_strange_12 : decode cX6_strange 12 = .ok (.iconst 1, 1) := by decide +kernel
theorem dX6_strange_13 : decode cX6_strange 13 = .ok (.iload_n 2, 1) := by decide +kernel
theorem dX6_strange_14 : decode cX6_strange 14 = .ok (.iconst 1, 1) := by decide +kernel
theorem dX6_strange_15 : decode cX6_strange 15 = .ok (.invokevirtual 44, 3) := by decide +kernel
theorem dX6_strange_18 : decode cX6_strange 18 = .ok (.iconst 1, 1) := by decide +kernel
theorem dX6_strange_19 : decode cX6_strange 19 = .ok (.if_icmp .ne 18, 3) := by decide +kernel
theorem dX6_strange_22 : decode cX6_strange 22 = .ok (.aload_n 0, 1) := by decide +kernel
theorem dX6_strange_23 : decode cX6_strange 23 = .ok (.iconst 1, 1) := by decide +kernel
theorem dX6_strange_24 : decode cX6_strange 24 = .ok (.iload_n 2, 1) := by decide +kernel
theorem dX6_strange_25 : decode cX6_strange 25 = .ok (.iconst 3, 1) := by decide +kernel
theorem dX6_strange_26 : decode cX6_strange 26 = .ok (.invokevirtual 44, 3) := by decide +kernel
theorem dX6_strange_29 : decode cX6_strange 29 = .ok (.iconst 1, 1) := by decide +kernel
theorem dX6_strange_30 : decode cX6_strange 30 = .ok (.if_icmp .le 7, 3) := by decide +kernel
theorem dX6_strange_33 : decode cX6_strange 33 = .ok (.iconst 1, 1) := by decide +kernel
theorem dX6_strange_34 : decode cX6_strange 34 = .ok (.goto 4, 3) := by decide +kernel
theorem dX6_strange_37 : decode cX6_strange 37 = .ok (.iconst 0, 1) := by decide +kernel
theorem dX6_strange_38 : decode cX6_strange 38 = .ok (.iadd, 1) := by decide +kernel
theorem dX6_strange_39 : decode cX6_strange 39 = .ok (.istore_n 1, 1) := by decide +kernel
theorem dX6_strange_40 : decode cX6_strange 40 = .ok (.iinc 2 1, 3) := by decide +kernel
theorem dX6_strange_43 : decode cX6_strange 43 = .ok (.goto (-39), 3) := by decide +kernel
theorem dX6_strange_46 : decode cX6_strange 46 = .ok (.iload_n 1, 1) := by decide +kernel
theorem dX6_strange_47 : decode cX6_strange 47 = .ok (.ireturn, 1) := by decide +kernel
theorem dX6_drop_0 : decode cX6_drop 0 = .ok (.aload_n 0, 1) := by decide +kernel
theorem dX6_drop_1 : decode cX6_drop 1 = .ok (.getfield 7, 3) := by decide +kernel
theorem dX6_drop_4 : decode cX6_drop 4 = .ok (.iconst 0, 1) := by decide +kernel
theorem dX6_drop_5 : decode cX6_drop 5 = .ok (.iaload, 1) := by decide +kernel
theorem dX6_drop_6 : decode cX6_drop 6 = .ok (.iconst 2, 1) := by decide +kernel
theorem dX6_drop_7 : decode cX6_drop 7 = .ok (.if_icmp .ne 19, 3) := by decide +kernel
theorem dX6_drop_10 : decode cX6_drop 10 = .ok (.aload_n 0, 1) := by decide +kernel
theorem dX6_drop_11 : decode cX6_drop 11 = .ok (.getfield 7, 3) := by decide +kernel
theorem dX6_drop_14 : decode cX6_drop 14 = .ok (.iconst 3, 1) := by decide +kernel
theorem dX6_drop_15 : decode cX6_drop 15 = .ok (.iaload, 1) := by decide +kernel
theorem dX6_drop_16 : decode cX6_drop 16 = .ok (.ifCond .gt 10, 3) := by decide +kernel
theorem dX6_drop_19 : decode cX6_drop 19 = .ok (.aload_n 0, 1) := by decide +kernel
theorem dX6_drop_20 : decode cX6_drop 20 = .ok (.invokevirtual 59, 3) := by decide +kernel
theorem dX6_drop_23 : decode cX6_drop 23 = .ok (.ifCond .eq 6, 3) := by decide +kernel
theorem dX6_drop_26 : decode cX6_drop 26 = .ok (.ldc 63, 2) := by decide +kernel
theorem dX6_drop_28 : decode cX6_drop 28 = .ok (.ireturn, 1) := by decide +kernel
theorem dX6_drop_29 : decode cX6_drop 29 = .ok (.aload_n 0, 1) := by decide +kernel
theorem dX6_drop_30 : decode cX6_drop 30 = .ok (.invokevirtual 64, 3) := by decide +kernel
theorem dX6_drop_33 : decode cX6_drop 33 = .ok (.aload_n 0, 1) := by decide +kernel
theorem dX6_drop_34 : decode cX6_drop 34 = .ok (.getfield 7, 3) := by decide +kernel
theorem dX6_drop_37 : decode cX6_drop 37 = .ok (.iconst 0, 1) := by decide +kernel
theorem dX6_drop_38 : decode cX6_drop 38 = .ok (.iconst 3, 1) := by decide +kernel
theorem dX6_drop_39 : decode cX6_drop 39 = .ok (.iastore, 1) := by decide +kernel
theorem dX6_drop_40 : decode cX6_drop 40 = .ok (.aload_n 0, 1) := by decide +kernel
theorem dX6_drop_41 : decode cX6_drop 41 = .ok (.iconst 0, 1) := by decide +kernel
theorem dX6_drop_42 : decode cX6_drop 42 = .ok (.invokevirtual 67, 3) := by decide +kernel
theorem dX6_drop_45 : decode cX6_drop 45 = .ok (.aload_n 0, 1) := by decide +kernel
theorem dX6_drop_46 : decode cX6_drop 46 = .ok (.aload_n 0, 1) := by decide +kernel
theorem dX6_drop_47 : decode cX6_drop 47 = .ok (.invokevirtual 91, 3) := by decide +kernel
theorem dX6_drop_50 : decode cX6_drop 50 = .ok (.invokevirtual 75, 3) := by decide +kernel
theorem dX6_drop_53 : decode cX6_drop 53 = .ok (.ireturn, 1) := by decide +kernel
theorem dX6_comes_0 : decode cX6_comes 0 = .ok (.aload_n 0, 1) := by decide +kernel
theorem dX6_comes_1 : decode cX6_comes 1 = .ok (.invokevirtual 85, 3) := by decide +kernel
theorem dX6_comes_4 : decode cX6_comes 4 = .ok (.ifCond .eq 14, 3) := by decide +kernel
theorem dX6_comes_7 : decode cX6_comes 7 = .ok (.aload_n 0, 1) := by decide +kernel
theorem dX6_comes_8 : decode cX6_comes 8 = .ok (.getfield 7, 3) := by decide +kernel
theorem dX6_comes_11 : decode cX6_comes 11 = .ok (.iconst 3, 1) := by decide +kernel
theorem dX6_comes_12 : decode cX6_comes 12 = .ok (.iaload, 1) := by decide +kernel
theorem dX6_comes_13 : decode cX6_comes 13 = .ok (.bipush 8, 2) := by decide +kernel
theorem dX6_comes_15 : decode cX6_comes 15 = .ok (.if_icmp .eq 14, 3) := by decide +kernel
theorem dX6_comes_18 : decode cX6_comes 18 = .ok (.aload_n 0, 1) := by decide +kernel
theorem dX6_comes_19 : decode cX6_comes 19 = .ok (.getfield 7, 3) := by decide +kernel
theorem dX6_comes_22 : decode cX6_comes 22 = .ok (.iconst 1, 1) := by decide +kernel
theorem dX6_comes_23 : decode cX6_comes 23 = .ok (.iaload, 1) := by decide +kernel
theorem dX6_comes_24 : decode cX6_comes 24 = .ok (.ldc 94, 2) := by decide +kernel
theorem dX6_comes_26 : decode cX6_comes 26 = .ok (.if_icmp .ne 6, 3) := by decide +kernel
theorem dX6_comes_29 : decode cX6_comes 29 = .ok (.ldc 95, 2) := by decide +kernel
theorem dX6_comes_31 : decode cX6_comes 31 = .ok (.ireturn, 1) := by decide +kernel
theorem dX6_comes_32 : decode cX6_comes 32 = .ok (.aload_n 0, 1) := by decide +kernel
theorem dX6_comes_33 : decode cX6_comes 33 = .ok (.getfield 7, 3) := by decide +kernel
theorem dX6_comes_36 : decode cX6_comes 36 = .ok (.iconst 1, 1) := by decide +kernel
theorem dX6_comes_37 : decode cX6_comes 37 = .ok (.dup2, 1) := by decide +kernel
theorem dX6_comes_38 : decode cX6_comes 38 = .ok (.iaload, 1) := by decide +kernel
theorem dX6_comes_39 : decode cX6_comes 39 = .ok (.iconst 1, 1) := by decide +kernel
theorem dX6_comes_40 : decode cX6_comes 40 = .ok (.iadd, 1) := by decide +kernel
theorem dX6_comes_41 : decode cX6_comes 41 = .ok (.iastore, 1) := by decide +kernel
theorem dX6_comes_42 : decode cX6_comes 42 = .ok (.aload_n 0, 1) := by decide +kernel
theorem dX6_comes_43 : decode cX6_comes 43 = .ok (.getfield 7, 3) := by decide +kernel
theorem dX6_comes_46 : decode cX6_comes 46 = .ok (.bipush 70, 2) := by decide +kernel
theorem dX6_comes_48 : decode cX6_comes 48 = .ok (.iload_n 1, 1) := by decide +kernel
theorem dX6_comes_49 : decode cX6_comes 49 = .ok (.iadd, 1) := by decide +kernel
theorem dX6_comes_50 : decode cX6_comes 50 = .ok (.aload_n 0, 1) := by decide +kernel
theorem dX6_comes_51 : decode cX6_comes 51 = .ok (.getfield 7, 3) := by decide +kernel
theorem dX6_comes_54 : decode cX6_comes 54 = .ok (.iconst 1, 1) := by decide +kernel
theorem dX6_comes_55 : decode cX6_comes 55 = .ok (.iaload, 1) := by decide +kernel
theorem dX6_comes_56 : decode cX6_comes 56 = .ok (.iastore, 1) := by decide +kernel
theorem dX6_comes_57 : decode cX6_comes 57 = .ok (.iconst 0, 1) := by decide +kernel
theorem dX6_comes_58 : decode cX6_comes 58 = .ok (.istore 4, 2) := by decide +kernel
theorem dX6_comes_60 : decode cX6_comes 60 = .ok (.iload 4, 2) := by decide +kernel
theorem dX6_comes_62 : decode cX6_comes 62 = .ok (.iconst 4, 1) := by decide +kernel
theorem dX6_comes_63 : decode cX6_comes 63 = .ok (.if_icmp .ge 23, 3) := by decide +kernel
theorem dX6_comes_66 : decode cX6_comes 66 = .ok (.aload_n 0, 1) := by decide +kernel
theorem dX6_comes_67 : decode cX6_comes 67 = .ok (.getfield 32, 3) := by decide +kernel
theorem dX6_comes_70 : decode cX6_comes 70 = .ok (.iload 4, 2) := by decide +kernel
theorem dX6_comes_72 : decode cX6_comes 72 = .ok (.aload_n 0, 1) := by decide +kernel
theorem dX6_comes_73 : decode cX6_comes 73 = .ok (.getfield 29, 3) := by decide +kernel
theorem dX6_comes_76 : decode cX6_comes 76 = .ok (.iload 4, 2) := by decide +kernel
theorem dX6_comes_78 : decode cX6_comes 78 = .ok (.iaload, 1) := by decide +kernel
theorem dX6_comes_79 : decode cX6_comes 79 = .ok (.iastore, 1) := by decide +kernel
theorem dX6_comes_80 : decode cX6_comes 80 = .ok (.iinc 4 1, 3) := by decide +kernel
theorem dX6_comes_83 : decode cX6_comes 83 = .ok (.goto (-23), 3) := by decide +kernel
theorem dX6_comes_86 : decode cX6_comes 86 = .ok (.aload_n 0, 1) := by decide +kernel
theorem dX6_comes_87 : decode cX6_comes 87 = .ok (.iload_n 2, 1) := by decide +kernel
theorem dX6_comes_88 : decode cX6_comes 88 = .ok (.aload_n 0, 1) := by decide +kernel
theorem dX6_comes_89 : decode cX6_comes 89 = .ok (.invokevirtual 96, 3) := by decide +kernel
theorem dX6_comes_92 : decode cX6_comes 92 = .ok (.invokevirtual 52, 3) := by decide +kernel
theorem dX6_comes_95 : decode cX6_comes 95 = .ok (.aload_n 0, 1) := by decide +kernel
theorem dX6_comes_96 : decode cX6_comes 96 = .ok (.aload_n 0, 1) := by decide +kernel
theorem dX6_comes_97 : decode cX6_comes 97 = .ok (.invokevirtual 96, 3) := by decide +kernel
theorem dX6_comes_100 : decode cX6_comes 100 = .ok (.iload_n 1, 1) := by decide +kernel
theorem dX6_comes_101 : decode cX6_comes 101 = .ok (.aload_n 0, 1) := by decide +kernel
theorem dX6_comes_102 : decode cX6_comes 102 = .ok (.getfield 7, 3) := by decide +kernel
theorem dX6_comes_105 : decode cX6_comes 105 = .ok (.iconst 1, 1) := by decide +kernel
theorem dX6_comes_106 : decode cX6_comes 106 = .ok (.iaload, 1) := by decide +kernel
theorem dX6_comes_107 : decode cX6_comes 107 = .ok (.invokevirtual 99, 3) := by decide +kernel
theorem dX6_comes_110 : decode cX6_comes 110 = .ok (.aload_n 0, 1) := by decide +kernel
theorem dX6_comes_111 : decode cX6_comes 111 = .ok (.invokevirtual 85, 3) := by decide +kernel
theorem dX6_comes_114 : decode cX6_comes 114 = .ok (.ifCond .eq 157, 3) := by decide +kernel
theorem dX6_comes_117 : decode cX6_comes 117 = .ok (.iconst 0, 1) := by decide +kernel
theorem dX6_comes_118 : decode cX6_comes 118 = .ok (.istore 4, 2) := by decide +kernel
theorem dX6_comes_120 : decode cX6_comes 120 = .ok (.iload 4, 2) := by decide +kernel
theorem dX6_comes_122 : decode cX6_comes 122 = .ok (.iconst 4, 1) := by decide +kernel
theorem dX6_comes_123 : decode cX6_comes 123 = .ok (.if_icmp .ge 23, 3) := by decide +kernel
theorem dX6_comes_126 : decode cX6_comes 126 = .ok (.aload_n 0, 1) := by decide +kernel
theorem dX6_comes_127 : decode cX6_comes 127 = .ok (.getfield 29, 3) := by decide +kernel
theorem dX6_comes_130 : decode cX6_comes 130 = .ok (.iload 4, 2) := by decide +kernel
theorem dX6_comes_132 : decode cX6_comes 132 = .ok (.aload_n 0, 1) := by decide +kernel
theorem dX6_comes_133 : decode cX6_comes 133 = .ok (.getfield 32, 3) := by decide +kernel
theorem dX6_comes_136 : decode cX6_comes 136 = .ok (.iload 4, 2) := by decide +kernel
theorem dX6_comes_138 : decode cX6_comes 138 = .ok (.iaload, 1) := by decide +kernel
theorem dX6_comes_139 : decode cX6_comes 139 = .ok (.iastore, 1) := by decide +kernel
theorem dX6_comes_140 : decode cX6_comes 140 = .ok (.iinc 4 1, 3) := by decide +kernel
theorem dX6_comes_143 : decode cX6_comes 143 = .ok (.goto (-23), 3) := by decide +kernel
theorem dX6_comes_146 : decode cX6_comes 146 = .ok (.aload_n 0, 1) := by decide +kernel
theorem dX6_comes_147 : decode cX6_comes 147 = .ok (.iload_n 2, 1) := by decide +kernel
theorem dX6_comes_148 : decode cX6_comes 148 = .ok (.iconst 1, 1) := by decide +kernel
theorem dX6_comes_149 : decode cX6_comes 149 = .ok (.aload_n 0, 1) := by decide +kernel
theorem dX6_comes_150 : decode cX6_comes 150 = .ok (.invokevirtual 96, 3) := by decide +kernel
theorem dX6_comes_153 : decode cX6_comes 153 = .ok (.isub, 1) := by decide +kernel
theorem dX6_comes_154 : decode cX6_comes 154 = .ok (.invokevirtual 52, 3) := by decide +kernel
theorem dX6_comes_157 : decode cX6_comes 157 = .ok (.bipush 14, 2) := by decide +kernel
theorem dX6_comes_159 : decode cX6_comes 159 = .ok (.bipush 7, 2) := by decide +kernel
theorem dX6_comes_161 : decode cX6_comes 161 = .ok (.aload_n 0, 1) := by decide +kernel
theorem dX6_comes_162 : decode cX6_comes 162 = .ok (.getfield 7, 3) := by decide +kernel
theorem dX6_comes_165 : decode cX6_comes 165 = .ok (.iconst 3, 1) := by decide +kernel
theorem dX6_comes_166 : decode cX6_comes 166 = .ok (.iaload, 1) := by decide +kernel
theorem dX6_comes_167 : decode cX6_comes 167 = .ok (.imul, 1) := by decide +kernel
theorem dX6_comes_168 : decode cX6_comes 168 = .ok (.iadd, 1) := by decide +kernel
theorem dX6_comes_169 : decode cX6_comes 169 = .ok (.istore 4, 2) := by decide +kernel
theorem dX6_comes_171 : decode cX6_comes 171 = .ok (.aload_n 0, 1) := by decide +kernel
theorem dX6_comes_172 : decode cX6_comes 172 = .ok (.getfield 7, 3) := by decide +kernel
theorem dX6_comes_175 : decode cX6_comes 175 = .ok (.iload 4, 2) := by decide +kernel
theorem dX6_comes_177 : decode cX6_comes 177 = .ok (.iload_n 1, 1) := by decide +kernel
theorem dX6_comes_178 : decode cX6_comes 178 = .ok (.iastore, 1) := by decide +kernel
theorem dX6_comes_179 : decode cX6_comes 179 = .ok (.aload_n 0, 1) := by decide +kernel
theorem dX6_comes_180 : decode cX6_comes 180 = .ok (.getfield 7, 3) := by decide +kernel
theorem dX6_comes_183 : decode cX6_comes 183 = .ok (.iload 4, 2) := by decide +kernel
theorem dX6_comes_185 : decode cX6_comes 185 = .ok (.iconst 1, 1) := by decide +kernel
theorem dX6_comes_186 : decode cX6_comes 186 = .ok (.iadd, 1) := by decide +kernel
theorem dX6_comes_187 : decode cX6_comes 187 = .ok (.aload_n 0, 1) := by decide +kernel
theorem dX6_comes_188 : decode cX6_comes 188 = .ok (.getfield 7, 3) := by decide +kernel
theorem dX6_comes_191 : decode cX6_comes 191 = .ok (.iconst 1, 1) := by decide +kernel
theorem dX6_comes_192 : decode cX6_comes 192 = .ok (.iaload, 1) := by decide +kernel
theorem dX6_comes_193 : decode cX6_comes 193 = .ok (.iastore, 1) := by decide +kernel
theorem dX6_comes_194 : decode cX6_comes 194 = .ok (.aload_n 0, 1) := by decide +kernel
theorem dX6_comes_195 : decode cX6_comes 195 = .ok (.getfield 7, 3) := by decide +kernel
theorem dX6_comes_198 : decode cX6_comes 198 = .ok (.iload 4, 2) := by decide +kernel
theorem dX6_comes_200 : decode cX6_comes 200 = .ok (.iconst 2, 1) := by decide +kernel
theorem dX6_comes_201 : decode cX6_comes 201 = .ok (.iadd, 1) := by decide +kernel
theorem dX6_comes_202 : decode cX6_comes 202 = .ok (.iconst 1, 1) := by decide +kernel
theorem dX6_comes_203 : decode cX6_comes 203 = .ok (.aload_n 0, 1) := by decide +kernel
theorem dX6_comes_204 : decode cX6_comes 204 = .ok (.invokevirtual 96, 3) := by decide +kernel
theorem dX6_comes_207 : decode cX6_comes 207 = .ok (.isub, 1) := by decide +kernel
theorem dX6_comes_208 : decode cX6_comes 208 = .ok (.iastore, 1) := by decide +kernel
theorem dX6_comes_209 : decode cX6_comes 209 = .ok (.aload_n 0, 1) := by decide +kernel
theorem dX6_comes_210 : decode cX6_comes 210 = .ok (.getfield 7, 3) := by decide +kernel
theorem dX6_comes_213 : decode cX6_comes 213 = .ok (.iload 4, 2) := by decide +kernel
theorem dX6_comes_215 : decode cX6_comes 215 = .ok (.iconst 3, 1) := by decide +kernel
theorem dX6_comes_216 : decode cX6_comes 216 = .ok (.iadd, 1) := by decide +kernel
theorem dX6_comes_217 : decode cX6_comes 217 = .ok (.iload_n 3, 1) := by decide +kernel
theorem dX6_comes_218 : decode cX6_comes 218 = .ok (.ifCond .eq 7, 3) := by decide +kernel
theorem dX6_comes_221 : decode cX6_comes 221 = .ok (.iconst 1, 1) := by decide +kernel
theorem dX6_comes_222 : decode cX6_comes 222 = .ok (.goto 4, 3) := by decide +kernel
theorem dX6_comes_225 : decode cX6_comes 225 = .ok (.iconst 0, 1) := by decide +kernel
theorem dX6_comes_226 : decode cX6_comes 226 = .ok (.iastore, 1) := by decide +kernel
theorem dX6_comes_227 : decode cX6_comes 227 = .ok (.iconst 1, 1) := by decide +kernel
theorem dX6_comes_228 : decode cX6_comes 228 = .ok (.istore 5, 2) := by decide +kernel
theorem dX6_comes_230 : decode cX6_comes 230 = .ok (.iload 5, 2) := by decide +kernel
theorem dX6_comes_232 : decode cX6_comes 232 = .ok (.iconst 4, 1) := by decide +kernel
theorem dX6_comes_233 : decode cX6_comes 233 = .ok (.if_icmp .ge 28, 3) := by decide +kernel
theorem dX6_comes_236 : decode cX6_comes 236 = .ok (.aload_n 0, 1) := by decide +kernel
theorem dX6_comes_237 : decode cX6_comes 237 = .ok (.getfield 7, 3) := by decide +kernel
theorem dX6_comes_240 : decode cX6_comes 240 = .ok (.iload 4, 2) := by decide +kernel
theorem dX6_comes_242 : decode cX6_comes 242 = .ok (.iconst 3, 1) := by decide +kernel
theorem dX6_comes_243 : decode cX6_comes 243 = .ok (.iadd, 1) := by decide +kernel
theorem dX6_comes_244 : decode cX6_comes 244 = .ok (.iload 5, 2) := by decide +kernel
theorem dX6_comes_246 : decode cX6_comes 246 = .ok (.iadd, 1) := by decide +kernel
theorem dX6_comes_247 : decode cX6_comes 247 = .ok (.aload_n 0, 1) := by decide +kernel
theorem dX6_comes_248 : decode cX6_comes 248 = .ok (.getfield 29, 3) := by decide +kernel
theorem dX6_comes_251 : decode cX6_comes 251 = .ok (.iload 5, 2) := by decide +kernel
theorem dX6_comes_253 : decode cX6_comes 253 = .ok (.iaload, 1) := by decide +kernel
theorem dX6_comes_254 : decode cX6_comes 254 = .ok (.iastore, 1) := by decide +kernel
theorem dX6_comes_255 : decode cX6_comes 255 = .ok (.iinc 5 1, 3) := by decide +kernel
theorem dX6_comes_258 : decode cX6_comes 258 = .ok (.goto (-28), 3) := by decide +kernel
theorem dX6_comes_261 : decode cX6_comes 261 = .ok (.aload_n 0, 1) := by decide +kernel
theorem dX6_comes_262 : decode cX6_comes 262 = .ok (.getfield 7, 3) := by decide +kernel
theorem dX6_comes_265 : decode cX6_comes 265 = .ok (.iconst 3, 1) := by decide +kernel
theorem dX6_comes_266 : decode cX6_comes 266 = .ok (.dup2, 1) := by decide +kernel
theorem dX6_comes_267 : decode cX6_comes 267 = .ok (.iaload, 1) := by decide +kernel
theorem dX6_comes_268 : decode cX6_comes 268 = .ok (.iconst 1, 1) := by decide +kernel
theorem dX6_comes_269 : decode cX6_comes 269 = .ok (.iadd, 1) := by decide +kernel
theorem dX6_comes_270 : decode cX6_comes 270 = .ok (.iastore, 1) := by decide +kernel
theorem dX6_comes_271 : decode cX6_comes 271 = .ok (.aload_n 0, 1) := by decide +kernel
theorem dX6_comes_272 : decode cX6_comes 272 = .ok (.getfield 7, 3) := by decide +kernel
theorem dX6_comes_275 : decode cX6_comes 275 = .ok (.iconst 1, 1) := by decide +kernel
theorem dX6_comes_276 : decode cX6_comes 276 = .ok (.iaload, 1) := by decide +kernel
theorem dX6_comes_277 : decode cX6_comes 277 = .ok (.ireturn, 1) := by decide +kernel
theorem dX6_writes_0 : decode cX6_writes 0 = .ok (.aload_n 0, 1) := by decide +kernel
theorem dX6_writes_1 : decode cX6_writes 1 = .ok (.getfield 29, 3) := by decide +kernel
theorem dX6_writes_4 : decode cX6_writes 4 = .ok (.iconst 0, 1) := by decide +kernel
theorem dX6_writes_5 : decode cX6_writes 5 = .ok (.iconst 1, 1) := by decide +kernel
theorem dX6_writes_6 : decode cX6_writes 6 = .ok (.iastore, 1) := by decide +kernel
theorem dX6_writes_7 : decode cX6_writes 7 = .ok (.aload_n 0, 1) := by decide +kernel
theorem dX6_writes_8 : decode cX6_writes 8 = .ok (.getfield 29, 3) := by decide +kernel
theorem dX6_writes_11 : decode cX6_writes 11 = .ok (.iconst 1, 1) := by decide +kernel
theorem dX6_writes_12 : decode cX6_writes 12 = .ok (.iload_n 3, 1) := by decide +kernel
theorem dX6_writes_13 : decode cX6_writes 13 = .ok (.iastore, 1) := by decide +kernel
theorem dX6_writes_14 : decode cX6_writes 14 = .ok (.aload_n 0, 1) := by decide +kernel
theorem dX6_writes_15 : decode cX6_writes 15 = .ok (.getfield 29, 3) := by decide +kernel
theorem dX6_writes_18 : decode cX6_writes 18 = .ok (.iconst 2, 1) := by decide +kernel
theorem dX6_writes_19 : decode cX6_writes 19 = .ok (.iload 4, 2) := by decide +kernel
theorem dX6_writes_21 : decode cX6_writes 21 = .ok (.iastore, 1) := by decide +kernel
theorem dX6_writes_22 : decode cX6_writes 22 = .ok (.aload_n 0, 1) := by decide +kernel
theorem dX6_writes_23 : decode cX6_writes 23 = .ok (.getfield 29, 3) := by decide +kernel
theorem dX6_writes_26 : decode cX6_writes 26 = .ok (.iconst 3, 1) := by decide +kernel
theorem dX6_writes_27 : decode cX6_writes 27 = .ok (.iload 5, 2) := by decide +kernel
theorem dX6_writes_29 : decode cX6_writes 29 = .ok (.iastore, 1) := by decide +kernel
theorem dX6_writes_30 : decode cX6_writes 30 = .ok (.aload_n 0, 1) := by decide +kernel
theorem dX6_writes_31 : decode cX6_writes 31 = .ok (.iload_n 1, 1) := by decide +kernel
theorem dX6_writes_32 : decode cX6_writes 32 = .ok (.iload_n 2, 1) := by decide +kernel
theorem dX6_writes_33 : decode cX6_writes 33 = .ok (.iconst 0, 1) := by decide +kernel
theorem dX6_writes_34 : decode cX6_writes 34 = .ok (.invokevirtual 103, 3) := by decide +kernel
theorem dX6_writes_37 : decode cX6_writes 37 = .ok (.ireturn, 1) := by decide +kernel
theorem dX6_isKey_0 : decode cX6_isKey 0 = .ok (.iload_n 0, 1) := by decide +kernel
theorem dX6_isKey_1 : decode cX6_isKey 1 = .ok (.iconst 0, 1) := by decide +kernel
theorem dX6_isKey_2 : decode cX6_isKey 2 = .ok (.bipush 30, 2) := by decide +kernel
theorem dX6_isKey_4 : decode cX6_isKey 4 = .ok (.invokestatic 107, 3) := by decide +kernel
theorem dX6_isKey_7 : decode cX6_isKey 7 = .ok (.ireturn, 1) := by decide +kernel
theorem dX6_writesOld_0 : decode cX6_writesOld 0 = .ok (.iload_n 1, 1) := by decide +kernel
theorem dX6_writesOld_1 : decode cX6_writesOld 1 = .ok (.invokestatic 111, 3) := by decide +kernel
theorem dX6_writesOld_4 : decode cX6_writesOld 4 = .ok (.ifCond .eq 46, 3) := by decide +kernel
theorem dX6_writesOld_7 : decode cX6_writesOld 7 = .ok (.iload_n 2, 1) := by decide +kernel
theorem dX6_writesOld_8 : decode cX6_writesOld 8 = .ok (.iconst 0, 1) := by decide +kernel
theorem dX6_writesOld_9 : decode cX6_writesOld 9 = .ok (.bipush 99, 2) := by decide +kernel
theorem dX6_writesOld_11 : decode cX6_writesOld 11 = .ok (.invokestatic 107, 3) := by decide +kernel
theorem dX6_writesOld_14 : decode cX6_writesOld 14 = .ok (.ifCond .eq 36, 3) := by decide +kernel
theorem dX6_writesOld_17 : decode cX6_writesOld 17 = .ok (.iload_n 3, 1) := by decide +kernel
theorem dX6_writesOld_18 : decode cX6_writesOld 18 = .ok (.iconst 0, 1) := by decide +kernel
theorem dX6_writesOld_19 : decode cX6_writesOld 19 = .ok (.bipush 9, 2) := by decide +kernel
theorem dX6_writesOld_21 : decode cX6_writesOld 21 = .ok (.invokestatic 107, 3) := by decide +kernel
theorem dX6_writesOld_24 : decode cX6_writesOld 24 = .ok (.ifCond .eq 26, 3) := by decide +kernel
theorem dX6_writesOld_27 : decode cX6_writesOld 27 = .ok (.iload 4, 2) := by decide +kernel
theorem dX6_writesOld_29 : decode cX6_writesOld 29 = .ok (.iconst 0, 1) := by decide +kernel
theorem dX6_writesOld_30 : decode cX6_writesOld 30 = .ok (.iconst 1, 1) := by decide +kernel
theorem dX6_writesOld_31 : decode cX6_writesOld 31 = .ok (.invokestatic 107, 3) := by decide +kernel
theorem dX6_writesOld_34 : decode cX6_writesOld 34 = .ok (.ifCond .eq 16, 3) := by decide +kernel
theorem dX6_writesOld_37 : decode cX6_writesOld 37 = .ok (.aload_n 0, 1) := by decide +kernel
theorem dX6_writesOld_38 : decode cX6_writesOld 38 = .ok (.iload_n 1, 1) := by decide +kernel
theorem dX6_writesOld_39 : decode cX6_writesOld 39 = .ok (.iconst 0, 1) := by decide +kernel
theorem dX6_writesOld_40 : decode cX6_writesOld 40 = .ok (.iload_n 2, 1) := by decide +kernel
theorem dX6_writesOld_41 : decode cX6_writesOld 41 = .ok (.iload_n 3, 1) := by decide +kernel
theorem dX6_writesOld_42 : decode cX6_writesOld 42 = .ok (.iload 4, 2) := by decide +kernel
theorem dX6_writesOld_44 : decode cX6_writesOld 44 = .ok (.invokevirtual 114, 3) := by decide +kernel
theorem dX6_writesOld_47 : decode cX6_writesOld 47 = .ok (.goto 5, 3) := by decide +kernel
theorem dX6_writesOld_50 : decode cX6_writesOld 50 = .ok (.ldc 39, 2) := by decide +kernel
theorem dX6_writesOld_52 : decode cX6_writesOld 52 = .ok (.ireturn, 1) := by decide +kernel
theorem dX6_writeOld_0 : decode cX6_writeOld 0 = .ok (.aload_n 0, 1) := by decide +kernel
theorem dX6_writeOld_1 : decode cX6_writeOld 1 = .ok (.invokevirtual 64, 3) := by decide +kernel
theorem dX6_writeOld_4 : decode cX6_writeOld 4 = .ok (.aload_n 0, 1) := by decide +kernel
theorem dX6_writeOld_5 : decode cX6_writeOld 5 = .ok (.aload_n 0, 1) := by decide +kernel
theorem dX6_writeOld_6 : decode cX6_writeOld 6 = .ok (.iload_n 1, 1) := by decide +kernel
theorem dX6_writeOld_7 : decode cX6_writeOld 7 = .ok (.iload_n 2, 1) := by decide +kernel
theorem dX6_writeOld_8 : decode cX6_writeOld 8 = .ok (.iload_n 3, 1) := by decide +kernel
theorem dX6_writeOld_9 : decode cX6_writeOld 9 = .ok (.iload 4, 2) := by decide +kernel
theorem dX6_writeOld_11 : decode cX6_writeOld 11 = .ok (.invokevirtual 118, 3) := by decide +kernel
theorem dX6_writeOld_14 : decode cX6_writeOld 14 = .ok (.invokevirtual 75, 3) := by decide +kernel
theorem dX6_writeOld_17 : decode cX6_writeOld 17 = .ok (.ireturn, 1) := by decide +kernel
theorem dX6_writesNew_0 : decode cX6_writesNew 0 = .ok (.iload_n 1, 1) := by decide +kernel
theorem dX6_writesNew_1 : decode cX6_writesNew 1 = .ok (.invokestatic 111, 3) := by decide +kernel
theorem dX6_writesNew_4 : decode cX6_writesNew 4 = .ok (.ifCond .eq 35, 3) := by decide +kernel
theorem dX6_writesNew_7 : decode cX6_writesNew 7 = .ok (.iload_n 2, 1) := by decide +kernel
theorem dX6_writesNew_8 : decode cX6_writesNew 8 = .ok (.iconst 0, 1) := by decide +kernel
theorem dX6_writesNew_9 : decode cX6_writesNew 9 = .ok (.sipush 999, 3) := by decide +kernel
theorem dX6_writesNew_12 : decode cX6_writesNew 12 = .ok (.invokestatic 107, 3) := by decide +kernel
theorem dX6_writesNew_15 : decode cX6_writesNew 15 = .ok (.ifCond .eq 24, 3) := by decide +kernel
theorem dX6_writesNew_18 : decode cX6_writesNew 18 = .ok (.iload_n 3, 1) := by decide +kernel
theorem dX6_writesNew_19 : decode cX6_writesNew 19 = .ok (.iconst 0, 1) := by decide +kernel
theorem dX6_writesNew_20 : decode cX6_writesNew 20 = .ok (.iconst 3, 1) := by decide +kernel
theorem dX6_writesNew_21 : decode cX6_writesNew 21 = .ok (.invokestatic 107, 3) := by decide +kernel
theorem dX6_writesNew_24 : decode cX6_writesNew 24 = .ok (.ifCond .eq 15, 3) := by decide +kernel
theorem dX6_writesNew_27 : decode cX6_writesNew 27 = .ok (.aload_n 0, 1) := by decide +kernel
theorem dX6_writesNew_28 : decode cX6_writesNew 28 = .ok (.iload_n 1, 1) := by decide +kernel
theorem dX6_writesNew_29 : decode cX6_writesNew 29 = .ok (.iconst 1, 1) := by decide +kernel
theorem dX6_writesNew_30 : decode cX6_writesNew 30 = .ok (.iload_n 2, 1) := by decide +kernel
theorem dX6_writesNew_31 : decode cX6_writesNew 31 = .ok (.iload_n 3, 1) := by decide +kernel
theorem dX6_writesNew_32 : decode cX6_writesNew 32 = .ok (.iconst 0, 1) := by decide +kernel
theorem dX6_writesNew_33 : decode cX6_writesNew 33 = .ok (.invokevirtual 114, 3) := by decide +kernel
theorem dX6_writesNew_36 : decode cX6_writesNew 36 = .ok (.goto 5, 3) := by decide +kernel
theorem dX6_writesNew_39 : decode cX6_writesNew 39 = .ok (.ldc 39, 2) := by decide +kernel
theorem dX6_writesNew_41 : decode cX6_writesNew 41 = .ok (.ireturn, 1) := by decide +kernel
theorem dX6_writeNew_0 : decode cX6_writeNew 0 = .ok (.aload_n 0, 1) := by decide +kernel
theorem dX6_writeNew_1 : decode cX6_writeNew 1 = .ok (.invokevirtual 64, 3) := by decide +kernel
theorem dX6_writeNew_4 : decode cX6_writeNew 4 = .ok (.aload_n 0, 1) := by decide +kernel
theorem dX6_writeNew_5 : decode cX6_writeNew 5 = .ok (.aload_n 0, 1) := by decide +kernel
theorem dX6_writeNew_6 : decode cX6_writeNew 6 = .ok (.iload_n 1, 1) := by decide +kernel
theorem dX6_writeNew_7 : decode cX6_writeNew 7 = .ok (.iload_n 2, 1) := by decide +kernel
theorem dX6_writeNew_8 : decode cX6_writeNew 8 = .ok (.iload_n 3, 1) := by decide +kernel
theorem dX6_writeNew_9 : decode cX6_writeNew 9 = .ok (.invokevirtual 122, 3) := by decide +kernel
theorem dX6_writeNew_12 : decode cX6_writeNew 12 = .ok (.invokevirtual 75, 3) := by decide +kernel
theorem dX6_writeNew_15 : decode cX6_writeNew 15 = .ok (.ireturn, 1) := by decide +kernel
theorem dX6_removes_0 : decode cX6_removes 0 = .ok (.iload_n 1, 1) := by decide +kernel
theorem dX6_removes_1 : decode cX6_removes 1 = .ok (.invokestatic 111, 3) := by decide +kernel
theorem dX6_removes_4 : decode cX6_removes 4 = .ok (.ifCond .ne 6, 3) := by decide +kernel
theorem dX6_removes_7 : decode cX6_removes 7 = .ok (.ldc 39, 2) := by decide +kernel
theorem dX6_removes_9 : decode cX6_removes 9 = .ok (.ireturn, 1) := by decide +kernel
theorem dX6_removes_10 : decode cX6_removes 10 = .ok (.aload_n 0, 1) := by decide +kernel
theorem dX6_removes_11 : decode cX6_removes 11 = .ok (.aload_n 0, 1) := by decide +kernel
theorem dX6_removes_12 : decode cX6_removes 12 = .ok (.invokevirtual 96, 3) := by decide +kernel
theorem dX6_removes_15 : decode cX6_removes 15 = .ok (.iload_n 1, 1) := by decide +kernel
theorem dX6_removes_16 : decode cX6_removes 16 = .ok (.iconst 1, 1) := by decide +kernel
theorem dX6_removes_17 : decode cX6_removes 17 = .ok (.invokevirtual 44, 3) := by decide +kernel
theorem dX6_removes_20 : decode cX6_removes 20 = .ok (.ifCond .ne 6, 3) := by decide +kernel
theorem dX6_removes_23 : decode cX6_removes 23 = .ok (.ldc 63, 2) := by decide +kernel
theorem dX6_removes_25 : decode cX6_removes 25 = .ok (.ireturn, 1) := by decide +kernel
theorem dX6_removes_26 : decode cX6_removes 26 = .ok (.iconst 0, 1) := by decide +kernel
theorem dX6_removes_27 : decode cX6_removes 27 = .ok (.istore_n 2, 1) := by decide +kernel
theorem dX6_removes_28 : decode cX6_removes 28 = .ok (.iload_n 2, 1) := by decide +kernel
theorem dX6_removes_29 : decode cX6_removes 29 = .ok (.iconst 4, 1) := by decide +kernel
theorem dX6_removes_30 : decode cX6_removes 30 = .ok (.if_icmp .ge 16, 3) := by decide +kernel
theorem dX6_removes_33 : decode cX6_removes 33 = .ok (.aload_n 0, 1) := by decide +kernel
theorem dX6_removes_34 : decode cX6_removes 34 = .ok (.getfield 29, 3) := by decide +kernel
theorem dX6_removes_37 : decode cX6_removes 37 = .ok (.iload_n 2, 1) := by decide +kernel
theorem dX6_removes_38 : decode cX6_removes 38 = .ok (.iconst 0, 1) := by decide +kernel
theorem dX6_removes_39 : decode cX6_removes 39 = .ok (.iastore, 1) := by decide +kernel
theorem dX6_removes_40 : decode cX6_removes 40 = .ok (.iinc 2 1, 3) := by decide +kernel
theorem dX6_removes_43 : decode cX6_removes 43 = .ok (.goto (-15), 3) := by decide +kernel
theorem dX6_removes_46 : decode cX6_removes 46 = .ok (.aload_n 0, 1) := by decide +kernel
theorem dX6_removes_47 : decode cX6_removes 47 = .ok (.iload_n 1, 1) := by decide +kernel
theorem dX6_removes_48 : decode cX6_removes 48 = .ok (.aload_n 0, 1) := by decide +kernel
theorem dX6_removes_49 : decode cX6_removes 49 = .ok (.invokevirtual 96, 3) := by decide +kernel
theorem dX6_removes_52 : decode cX6_removes 52 = .ok (.iconst 1, 1) := by decide +kernel
theorem dX6_removes_53 : decode cX6_removes 53 = .ok (.invokevirtual 103, 3) := by decide +kernel
theorem dX6_removes_56 : decode cX6_removes 56 = .ok (.ireturn, 1) := by decide +kernel
theorem dX6_remove_0 : decode cX6_remove 0 = .ok (.aload_n 0, 1) := by decide +kernel
theorem dX6_remove_1 : decode cX6_remove 1 = .ok (.invokevirtual 64, 3) := by decide +kernel
theorem dX6_remove_4 : decode cX6_remove 4 = .ok (.aload_n 0, 1) := by decide +kernel
theorem dX6_remove_5 : decode cX6_remove 5 = .ok (.aload_n 0, 1) := by decide +kernel
theorem dX6_remove_6 : decode cX6_remove 6 = .ok (.iload_n 1, 1) := by decide +kernel
theorem dX6_remove_7 : decode cX6_remove 7 = .ok (.invokevirtual 125, 3) := by decide +kernel
theorem dX6_remove_10 : decode cX6_remove 10 = .ok (.invokevirtual 75, 3) := by decide +kernel
theorem dX6_remove_13 : decode cX6_remove 13 = .ok (.ireturn, 1) := by decide +kernel
theorem dX6_drainsOne_0 : decode cX6_drainsOne 0 = .ok (.aload_n 0, 1) := by decide +kernel
theorem dX6_drainsOne_1 : decode cX6_drainsOne 1 = .ok (.getfield 7, 3) := by decide +kernel
theorem dX6_drainsOne_4 : decode cX6_drainsOne 4 = .ok (.bipush 14, 2) := by decide +kernel
theorem dX6_drainsOne_6 : decode cX6_drainsOne 6 = .ok (.iaload, 1) := by decide +kernel
theorem dX6_drainsOne_7 : decode cX6_drainsOne 7 = .ok (.istore_n 1, 1) := by decide +kernel
theorem dX6_drainsOne_8 : decode cX6_drainsOne 8 = .ok (.aload_n 0, 1) := by decide +kernel
theorem dX6_drainsOne_9 : decode cX6_drainsOne 9 = .ok (.getfield 7, 3) := by decide +kernel
theorem dX6_drainsOne_12 : decode cX6_drainsOne 12 = .ok (.bipush 15, 2) := by decide +kernel
theorem dX6_drainsOne_14 : decode cX6_drainsOne 14 = .ok (.iaload, 1) := by decide +kernel
theorem dX6_drainsOne_15 : decode cX6_drainsOne 15 = .ok (.istore_n 2, 1) := by decide +kernel
theorem dX6_drainsOne_16 : decode cX6_drainsOne 16 = .ok (.aload_n 0, 1) := by decide +kernel
theorem dX6_drainsOne_17 : decode cX6_drainsOne 17 = .ok (.getfield 7, 3) := by decide +kernel
theorem dX6_drainsOne_20 : decode cX6_drainsOne 20 = .ok (.bipush 16, 2) := by decide +kernel
theorem dX6_drainsOne_22 : decode cX6_drainsOne 22 = .ok (.iaload, 1) := by decide +kernel
theorem dX6_drainsOne_23 : decode cX6_drainsOne 23 = .ok (.istore_n 3, 1) := by decide +kernel
theorem dX6_drainsOne_24 : decode cX6_drainsOne 24 = .ok (.aload_n 0, 1) := by decide +kernel
theorem dX6_drainsOne_25 : decode cX6_drainsOne 25 = .ok (.getfield 29, 3) := by decide +kernel
theorem dX6_drainsOne_28 : decode cX6_drainsOne 28 = .ok (.iconst 0, 1) := by decide +kernel
theorem dX6_drainsOne_29 : decode cX6_drainsOne 29 = .ok (.iconst 1, 1) := by decide +kernel
theorem dX6_drainsOne_30 : decode cX6_drainsOne 30 = .ok (.aload_n 0, 1) := by decide +kernel
theorem dX6_drainsOne_31 : decode cX6_drainsOne 31 = .ok (.getfield 7, 3) := by decide +kernel
theorem dX6_drainsOne_34 : decode cX6_drainsOne 34 = .ok (.bipush 17, 2) := by decide +kernel
theorem dX6_drainsOne_36 : decode cX6_drainsOne 36 = .ok (.iaload, 1) := by decide +kernel
theorem dX6_drainsOne_37 : decode cX6_drainsOne 37 = .ok (.isub, 1) := by decide +kernel
theorem dX6_drainsOne_38 : decode cX6_drainsOne 38 = .ok (.iastore, 1) := by decide +kernel
theorem dX6_drainsOne_39 : decode cX6_drainsOne 39 = .ok (.iconst 1, 1) := by decide +kernel
theorem dX6_drainsOne_40 : decode cX6_drainsOne 40 = .ok (.istore 4, 2) := by decide +kernel
theorem dX6_drainsOne_42 : decode cX6_drainsOne 42 = .ok (.iload 4, 2) := by decide +kernel
theorem dX6_drainsOne_44 : decode cX6_drainsOne 44 = .ok (.iconst 4, 1) := by decide +kernel
theorem dX6_drainsOne_45 : decode cX6_drainsOne 45 = .ok (.if_icmp .ge 26, 3) := by decide +kernel
theorem dX6_drainsOne_48 : decode cX6_drainsOne 48 = .ok (.aload_n 0, 1) := by decide +kernel
theorem dX6_drainsOne_49 : decode cX6_drainsOne 49 = .ok (.getfield 29, 3) := by decide +kernel
theorem dX6_drainsOne_52 : decode cX6_drainsOne 52 = .ok (.iload 4, 2) := by decide +kernel
theorem dX6_drainsOne_54 : decode cX6_drainsOne 54 = .ok (.aload_n 0, 1) := by decide +kernel
theorem dX6_drainsOne_55 : decode cX6_drainsOne 55 = .ok (.getfield 7, 3) := by decide +kernel
theorem dX6_drainsOne_58 : decode cX6_drainsOne 58 = .ok (.bipush 17, 2) := by decide +kernel
theorem dX6_drainsOne_60 : decode cX6_drainsOne 60 = .ok (.iload 4, 2) := by decide +kernel
theorem dX6_drainsOne_62 : decode cX6_drainsOne 62 = .ok (.iadd, 1) := by decide +kernel
theorem dX6_drainsOne_63 : decode cX6_drainsOne 63 = .ok (.iaload, 1) := by decide +kernel
theorem dX6_drainsOne_64 : decode cX6_drainsOne 64 = .ok (.iastore, 1) := by decide +kernel
theorem dX6_drainsOne_65 : decode cX6_drainsOne 65 = .ok (.iinc 4 1, 3) := by decide +kernel
theorem dX6_drainsOne_68 : decode cX6_drainsOne 68 = .ok (.goto (-26), 3) := by decide +kernel
theorem dX6_drainsOne_71 : decode cX6_drainsOne 71 = .ok (.iload_n 2, 1) := by decide +kernel
theorem dX6_drainsOne_72 : decode cX6_drainsOne 72 = .ok (.aload_n 0, 1) := by decide +kernel
theorem dX6_drainsOne_73 : decode cX6_drainsOne 73 = .ok (.iload_n 3, 1) := by decide +kernel
theorem dX6_drainsOne_74 : decode cX6_drainsOne 74 = .ok (.iload_n 1, 1) := by decide +kernel
theorem dX6_drainsOne_75 : decode cX6_drainsOne 75 = .ok (.iconst 0, 1) := by decide +kernel
theorem dX6_drainsOne_76 : decode cX6_drainsOne 76 = .ok (.invokevirtual 44, 3) := by decide +kernel
theorem dX6_drainsOne_79 : decode cX6_drainsOne 79 = .ok (.if_icmp .lt 10, 3) := by decide +kernel
theorem dX6_drainsOne_82 : decode cX6_drainsOne 82 = .ok (.aload_n 0, 1) := by decide +kernel
theorem dX6_drainsOne_83 : decode cX6_drainsOne 83 = .ok (.iload_n 3, 1) := by decide +kernel
theorem dX6_drainsOne_84 : decode cX6_drainsOne 84 = .ok (.iload_n 1, 1) := by decide +kernel
theorem dX6_drainsOne_85 : decode cX6_drainsOne 85 = .ok (.iload_n 2, 1) := by decide +kernel
theorem dX6_drainsOne_86 : decode cX6_drainsOne 86 = .ok (.invokevirtual 99, 3) := by decide +kernel
theorem dX6_drainsOne_89 : decode cX6_drainsOne 89 = .ok (.iconst 0, 1) := by decide +kernel
theorem dX6_drainsOne_90 : decode cX6_drainsOne 90 = .ok (.istore 4, 2) := by decide +kernel
theorem dX6_drainsOne_92 : decode cX6_drainsOne 92 = .ok (.iload 4, 2) := by decide +kernel
theorem dX6_drainsOne_94 : decode cX6_drainsOne 94 = .ok (.bipush 49, 2) := by decide +kernel
theorem dX6_drainsOne_96 : decode cX6_drainsOne 96 = .ok (.if_icmp .ge 32, 3) := by decide +kernel
theorem dX6_drainsOne_99 : decode cX6_drainsOne 99 = .ok (.aload_n 0, 1) := by decide +kernel
theorem dX6_drainsOne_100 : decode cX6_drainsOne 100 = .ok (.getfield 7, 3) := by decide +kernel
theorem dX6_drainsOne_103 : decode cX6_drainsOne 103 = .ok (.bipush 14, 2) := by decide +kernel
theorem dX6_drainsOne_105 : decode cX6_drainsOne 105 = .ok (.iload 4, 2) := by decide +kernel
theorem dX6_drainsOne_107 : decode cX6_drainsOne 107 = .ok (.iadd, 1) := by decide +kernel
theorem dX6_drainsOne_108 : decode cX6_drainsOne 108 = .ok (.aload_n 0, 1) := by decide +kernel
theorem dX6_drainsOne_109 : decode cX6_drainsOne 109 = .ok (.getfield 7, 3) := by decide +kernel
theorem dX6_drainsOne_112 : decode cX6_drainsOne 112 = .ok (.bipush 14, 2) := by decide +kernel
theorem dX6_drainsOne_114 : decode cX6_drainsOne 114 = .ok (.iload 4, 2) := by decide +kernel
theorem dX6_drainsOne_116 : decode cX6_drainsOne 116 = .ok (.iadd, 1) := by decide +kernel
theorem dX6_drainsOne_117 : decode cX6_drainsOne 117 = .ok (.bipush 7, 2) := by decide +kernel
theorem dX6_drainsOne_119 : decode cX6_drainsOne 119 = .ok (.iadd, 1) := by decide +kernel
theorem dX6_drainsOne_120 : decode cX6_drainsOne 120 = .ok (.iaload, 1) := by decide +kernel
theorem dX6_drainsOne_121 : decode cX6_drainsOne 121 = .ok (.iastore, 1) := by decide +kernel
theorem dX6_drainsOne_122 : decode cX6_drainsOne 122 = .ok (.iinc 4 1, 3) := by decide +kernel
theorem dX6_drainsOne_125 : decode cX6_drainsOne 125 = .ok (.goto (-33), 3) := by decide +kernel
theorem dX6_drainsOne_128 : decode cX6_drainsOne 128 = .ok (.aload_n 0, 1) := by decide +kernel
theorem dX6_drainsOne_129 : decode cX6_drainsOne 129 = .ok (.getfield 7, 3) := by decide +kernel
theorem dX6_drainsOne_132 : decode cX6_drainsOne 132 = .ok (.iconst 3, 1) := by decide +kernel
theorem dX6_drainsOne_133 : decode cX6_drainsOne 133 = .ok (.dup2, 1) := by decide +kernel
theorem dX6_drainsOne_134 : decode cX6_drainsOne 134 = .ok (.iaload, 1) := by decide +kernel
theorem dX6_drainsOne_135 : decode cX6_drainsOne 135 = .ok (.iconst 1, 1) := by decide +kernel
theorem dX6_drainsOne_136 : decode cX6_drainsOne 136 = .ok (.isub, 1) := by decide +kernel
theorem dX6_drainsOne_137 : decode cX6_drainsOne 137 = .ok (.iastore, 1) := by decide +kernel
theorem dX6_drainsOne_138 : decode cX6_drainsOne 138 = .ok (.return_, 1) := by decide +kernel
theorem dX6_drains_0 : decode cX6_drains 0 = .ok (.iload_n 1, 1) := by decide +kernel
theorem dX6_drains_1 : decode cX6_drains 1 = .ok (.iconst 1, 1) := by decide +kernel
theorem dX6_drains_2 : decode cX6_drains 2 = .ok (.bipush 8, 2) := by decide +kernel
theorem dX6_drains_4 : decode cX6_drains 4 = .ok (.invokestatic 107, 3) := by decide +kernel
theorem dX6_drains_7 : decode cX6_drains 7 = .ok (.ifCond .ne 6, 3) := by decide +kernel
theorem dX6_drains_10 : decode cX6_drains 10 = .ok (.ldc 39, 2) := by decide +kernel
theorem dX6_drains_12 : decode cX6_drains 12 = .ok (.ireturn, 1) := by decide +kernel
theorem dX6_drains_13 : decode cX6_drains 13 = .ok (.aload_n 0, 1) := by decide +kernel
theorem dX6_drains_14 : decode cX6_drains 14 = .ok (.getfield 7, 3) := by decide +kernel
theorem dX6_drains_17 : decode cX6_drains 17 = .ok (.iconst 3, 1) := by decide +kernel
theorem dX6_drains_18 : decode cX6_drains 18 = .ok (.iaload, 1) := by decide +kernel
theorem dX6_drains_19 : decode cX6_drains 19 = .ok (.ifCond .ne 6, 3) := by decide +kernel
theorem dX6_drains_22 : decode cX6_drains 22 = .ok (.ldc 63, 2) := by decide +kernel
theorem dX6_drains_24 : decode cX6_drains 24 = .ok (.ireturn, 1) := by decide +kernel
theorem dX6_drains_25 : decode cX6_drains 25 = .ok (.iconst 0, 1) := by decide +kernel
theorem dX6_drains_26 : decode cX6_drains 26 = .ok (.istore_n 2, 1) := by decide +kernel
theorem dX6_drains_27 : decode cX6_drains 27 = .ok (.iload_n 2, 1) := by decide +kernel
theorem dX6_drains_28 : decode cX6_drains 28 = .ok (.iload_n 1, 1) := by decide +kernel
theorem dX6_drains_29 : decode cX6_drains 29 = .ok (.if_icmp .ge 22, 3) := by decide +kernel
theorem dX6_drains_32 : decode cX6_drains 32 = .ok (.aload_n 0, 1) := by decide +kernel
theorem dX6_drains_33 : decode cX6_drains 33 = .ok (.getfield 7, 3) := by decide +kernel
theorem dX6_drains_36 : decode cX6_drains 36 = .ok (.iconst 3, 1) := by decide +kernel
theorem dX6_drains_37 : decode cX6_drains 37 = .ok (.iaload, 1) := by decide +kernel
theorem dX6_drains_38 : decode cX6_drains 38 = .ok (.ifCond .le 13, 3) := by decide +kernel
theorem dX6_drains_41 : decode cX6_drains 41 = .ok (.aload_n 0, 1) := by decide +kernel
theorem dX6_drains_42 : decode cX6_drains 42 = .ok (.invokevirtual 128, 3) := by decide +kernel
theorem dX6_drains_45 : decode cX6_drains 45 = .ok (.iinc 2 1, 3) := by decide +kernel
theorem dX6_drains_48 : decode cX6_drains 48 = .ok (.goto (-21), 3) := by decide +kernel
theorem dX6_drains_51 : decode cX6_drains 51 = .ok (.aload_n 0, 1) := by decide +kernel
theorem dX6_drains_52 : decode cX6_drains 52 = .ok (.getfield 7, 3) := by decide +kernel
theorem dX6_drains_55 : decode cX6_drains 55 = .ok (.iconst 3, 1) := by decide +kernel
theorem dX6_drains_56 : decode cX6_drains 56 = .ok (.iaload, 1) := by decide +kernel
theorem dX6_drains_57 : decode cX6_drains 57 = .ok (.ireturn, 1) := by decide +kernel
theorem dX6_drain_0 : decode cX6_drain 0 = .ok (.aload_n 0, 1) := by decide +kernel
theorem dX6_drain_1 : decode cX6_drain 1 = .ok (.invokevirtual 64, 3) := by decide +kernel
theorem dX6_drain_4 : decode cX6_drain 4 = .ok (.aload_n 0, 1) := by decide +kernel
theorem dX6_drain_5 : decode cX6_drain 5 = .ok (.aload_n 0, 1) := by decide +kernel
theorem dX6_drain_6 : decode cX6_drain 6 = .ok (.iload_n 1, 1) := by decide +kernel
theorem dX6_drain_7 : decode cX6_drain 7 = .ok (.invokevirtual 131, 3) := by decide +kernel
theorem dX6_drain_10 : decode cX6_drain 10 = .ok (.invokevirtual 75, 3) := by decide +kernel
theorem dX6_drain_13 : decode cX6_drain 13 = .ok (.ireturn, 1) := by decide +kernel
theorem dX6_gets_0 : decode cX6_gets 0 = .ok (.aload_n 0, 1) := by decide +kernel
theorem dX6_gets_1 : decode cX6_gets 1 = .ok (.iconst 1, 1) := by decide +kernel
theorem dX6_gets_2 : decode cX6_gets 2 = .ok (.iload_n 1, 1) := by decide +kernel
theorem dX6_gets_3 : decode cX6_gets 3 = .ok (.isub, 1) := by decide +kernel
theorem dX6_gets_4 : decode cX6_gets 4 = .ok (.iload_n 2, 1) := by decide +kernel
theorem dX6_gets_5 : decode cX6_gets 5 = .ok (.invokevirtual 48, 3) := by decide +kernel
theorem dX6_gets_8 : decode cX6_gets 8 = .ok (.aload_n 0, 1) := by decide +kernel
theorem dX6_gets_9 : decode cX6_gets 9 = .ok (.iconst 1, 1) := by decide +kernel
theorem dX6_gets_10 : decode cX6_gets 10 = .ok (.iload_n 1, 1) := by decide +kernel
theorem dX6_gets_11 : decode cX6_gets 11 = .ok (.isub, 1) := by decide +kernel
theorem dX6_gets_12 : decode cX6_gets 12 = .ok (.iload_n 1, 1) := by decide +kernel
theorem dX6_gets_13 : decode cX6_gets 13 = .ok (.invokevirtual 52, 3) := by decide +kernel
theorem dX6_gets_16 : decode cX6_gets 16 = .ok (.aload_n 0, 1) := by decide +kernel
theorem dX6_gets_17 : decode cX6_gets 17 = .ok (.iload_n 1, 1) := by decide +kernel
theorem dX6_gets_18 : decode cX6_gets 18 = .ok (.iload_n 2, 1) := by decide +kernel
theorem dX6_gets_19 : decode cX6_gets 19 = .ok (.aload_n 0, 1) := by decide +kernel
theorem dX6_gets_20 : decode cX6_gets 20 = .ok (.iconst 1, 1) := by decide +kernel
theorem dX6_gets_21 : decode cX6_gets 21 = .ok (.iload_n 1, 1) := by decide +kernel
theorem dX6_gets_22 : decode cX6_gets 22 = .ok (.isub, 1) := by decide +kernel
theorem dX6_gets_23 : decode cX6_gets 23 = .ok (.iload_n 2, 1) := by decide +kernel
theorem dX6_gets_24 : decode cX6_gets 24 = .ok (.iconst 0, 1) := by decide +kernel
theorem dX6_gets_25 : decode cX6_gets 25 = .ok (.invokevirtual 44, 3) := by decide +kernel
theorem dX6_gets_28 : decode cX6_gets 28 = .ok (.invokevirtual 99, 3) := by decide +kernel
theorem dX6_gets_31 : decode cX6_gets 31 = .ok (.return_, 1) := by decide +kernel
theorem dX6_backfills_0 : decode cX6_backfills 0 = .ok (.iload_n 1, 1) := by decide +kernel
theorem dX6_backfills_1 : decode cX6_backfills 1 = .ok (.iconst 1, 1) := by decide +kernel
theorem dX6_backfills_2 : decode cX6_backfills 2 = .ok (.bipush 31, 2) := by decide +kernel
theorem dX6_backfills_4 : decode cX6_backfills 4 = .ok (.invokestatic 107, 3) := by decide +kernel
theorem dX6_backfills_7 : decode cX6_backfills 7 = .ok (.ifCond .ne 6, 3) := by decide +kernel
theorem dX6_backfills_10 : decode cX6_backfills 10 = .ok (.ldc 39, 2) := by decide +kernel
theorem dX6_backfills_12 : decode cX6_backfills 12 = .ok (.ireturn, 1) := by decide +kernel
theorem dX6_backfills_13 : decode cX6_backfills 13 = .ok (.aload_n 0, 1) := by decide +kernel
theorem dX6_backfills_14 : decode cX6_backfills 14 = .ok (.getfield 7, 3) := by decide +kernel
theorem dX6_backfills_17 : decode cX6_backfills 17 = .ok (.iconst 0, 1) := by decide +kernel
theorem dX6_backfills_18 : decode cX6_backfills 18 = .ok (.iaload, 1) := by decide +kernel
theorem dX6_backfills_19 : decode cX6_backfills 19 = .ok (.iconst 1, 1) := by decide +kernel
theorem dX6_backfills_20 : decode cX6_backfills 20 = .ok (.if_icmp .ne 14, 3) := by decide +kernel
theorem dX6_backfills_23 : decode cX6_backfills 23 = .ok (.aload_n 0, 1) := by decide +kernel
theorem dX6_backfills_24 : decode cX6_backfills 24 = .ok (.getfield 7, 3) := by decide +kernel
theorem dX6_backfills_27 : decode cX6_backfills 27 = .ok (.iconst 2, 1) := by decide +kernel
theorem dX6_backfills_28 : decode cX6_backfills 28 = .ok (.iaload, 1) := by decide +kernel
theorem dX6_backfills_29 : decode cX6_backfills 29 = .ok (.bipush 31, 2) := by decide +kernel
theorem dX6_backfills_31 : decode cX6_backfills 31 = .ok (.if_icmp .ne 6, 3) := by decide +kernel
theorem dX6_backfills_34 : decode cX6_backfills 34 = .ok (.ldc 63, 2) := by decide +kernel
theorem dX6_backfills_36 : decode cX6_backfills 36 = .ok (.ireturn, 1) := by decide +kernel
theorem dX6_backfills_37 : decode cX6_backfills 37 = .ok (.iconst 0, 1) := by decide +kernel
theorem dX6_backfills_38 : decode cX6_backfills 38 = .ok (.istore_n 2, 1) := by decide +kernel
theorem dX6_backfills_39 : decode cX6_backfills 39 = .ok (.iconst 0, 1) := by decide +kernel
theorem dX6_backfills_40 : decode cX6_backfills 40 = .ok (.istore_n 3, 1) := by decide +kernel
theorem dX6_backfills_41 : decode cX6_backfills 41 = .ok (.iload_n 3, 1) := by decide +kernel
theorem dX6_backfills_42 : decode cX6_backfills 42 = .ok (.iload_n 1, 1) := by decide +kernel
theorem dX6_backfills_43 : decode cX6_backfills 43 = .ok (.if_icmp .ge 67, 3) := by decide +kernel
theorem dX6_backfills_46 : decode cX6_backfills 46 = .ok (.aload_n 0, 1) := by decide +kernel
theorem dX6_backfills_47 : decode cX6_backfills 47 = .ok (.getfield 7, 3) := by decide +kernel
theorem dX6_backfills_50 : decode cX6_backfills 50 = .ok (.iconst 2, 1) := by decide +kernel
theorem dX6_backfills_51 : decode cX6_backfills 51 = .ok (.iaload, 1) := by decide +kernel
theorem dX6_backfills_52 : decode cX6_backfills 52 = .ok (.bipush 31, 2) := by decide +kernel
theorem dX6_backfills_54 : decode cX6_backfills 54 = .ok (.if_icmp .ge 56, 3) := by decide +kernel
theorem dX6_backfills_57 : decode cX6_backfills 57 = .ok (.aload_n 0, 1) := by decide +kernel
theorem dX6_backfills_58 : decode cX6_backfills 58 = .ok (.getfield 7, 3) := by decide +kernel
theorem dX6_backfills_61 : decode cX6_backfills 61 = .ok (.iconst 2, 1) := by decide +kernel
theorem dX6_backfills_62 : decode cX6_backfills 62 = .ok (.iaload, 1) := by decide +kernel
theorem dX6_backfills_63 : decode cX6_backfills 63 = .ok (.istore 4, 2) := by decide +kernel
theorem dX6_backfills_65 : decode cX6_backfills 65 = .ok (.aload_n 0, 1) := by decide +kernel
theorem dX6_backfills_66 : decode cX6_backfills 66 = .ok (.iconst 1, 1) := by decide +kernel
theorem dX6_backfills_67 : decode cX6_backfills 67 = .ok (.iload 4, 2) := by decide +kernel
theorem dX6_backfills_69 : decode cX6_backfills 69 = .ok (.iconst 0, 1) := by decide +kernel
theorem dX6_backfills_70 : decode cX6_backfills 70 = .ok (.invokevirtual 44, 3) := by decide +kernel
theorem dX6_backfills_73 : decode cX6_backfills 73 = .ok (.aload_n 0, 1) := by decide +kernel
theorem dX6_backfills_74 : decode cX6_backfills 74 = .ok (.iconst 0, 1) := by decide +kernel
theorem dX6_backfills_75 : decode cX6_backfills 75 = .ok (.iload 4, 2) := by decide +kernel
theorem dX6_backfills_77 : decode cX6_backfills 77 = .ok (.iconst 0, 1) := by decide +kernel
theorem dX6_backfills_78 : decode cX6_backfills 78 = .ok (.invokevirtual 44, 3) := by decide +kernel
theorem dX6_backfills_81 : decode cX6_backfills 81 = .ok (.if_icmp .ge 13, 3) := by decide +kernel
theorem dX6_backfills_84 : decode cX6_backfills 84 = .ok (.aload_n 0, 1) := by decide +kernel
theorem dX6_backfills_85 : decode cX6_backfills 85 = .ok (.iconst 1, 1) := by decide +kernel
theorem dX6_backfills_86 : decode cX6_backfills 86 = .ok (.iload 4, 2) := by decide +kernel
theorem dX6_backfills_88 : decode cX6_backfills 88 = .ok (.invokevirtual 134, 3) := by decide +kernel
theorem dX6_backfills_91 : decode cX6_backfills 91 = .ok (.iinc 2 1, 3) := by decide +kernel
theorem dX6_backfills_94 : decode cX6_backfills 94 = .ok (.aload_n 0, 1) := by decide +kernel
theorem dX6_backfills_95 : decode cX6_backfills 95 = .ok (.getfield 7, 3) := by decide +kernel
theorem dX6_backfills_98 : decode cX6_backfills 98 = .ok (.iconst 2, 1) := by decide +kernel
theorem dX6_backfills_99 : decode cX6_backfills 99 = .ok (.dup2, 1) := by decide +kernel
theorem dX6_backfills_100 : decode cX6_backfills 100 = .ok (.iaload, 1) := by decide +kernel
theorem dX6_backfills_101 : decode cX6_backfills 101 = .ok (.iconst 1, 1) := by decide +kernel
theorem dX6_backfills_102 : decode cX6_backfills 102 = .ok (.iadd, 1) := by decide +kernel
theorem dX6_backfills_103 : decode cX6_backfills 103 = .ok (.iastore, 1) := by decide +kernel
theorem dX6_backfills_104 : decode cX6_backfills 104 = .ok (.iinc 3 1, 3) := by decide +kernel
theorem dX6_backfills_107 : decode cX6_backfills 107 = .ok (.goto (-66), 3) := by decide +kernel
theorem dX6_backfills_110 : decode cX6_backfills 110 = .ok (.iload_n 2, 1) := by decide +kernel
theorem dX6_backfills_111 : decode cX6_backfills 111 = .ok (.ireturn, 1) := by decide +kernel
theorem dX6_backfill_0 : decode cX6_backfill 0 = .ok (.aload_n 0, 1) := by decide +kernel
theorem dX6_backfill_1 : decode cX6_backfill 1 = .ok (.invokevirtual 64, 3) := by decide +kernel
theorem dX6_backfill_4 : decode cX6_backfill 4 = .ok (.aload_n 0, 1) := by decide +kernel
theorem dX6_backfill_5 : decode cX6_backfill 5 = .ok (.aload_n 0, 1) := by decide +kernel
theorem dX6_backfill_6 : decode cX6_backfill 6 = .ok (.iload_n 1, 1) := by decide +kernel
theorem dX6_backfill_7 : decode cX6_backfill 7 = .ok (.invokevirtual 137, 3) := by decide +kernel
theorem dX6_backfill_10 : decode cX6_backfill 10 = .ok (.invokevirtual 75, 3) := by decide +kernel
theorem dX6_backfill_13 : decode cX6_backfill 13 = .ok (.ireturn, 1) := by decide +kernel
theorem dX6_crash_0 : decode cX6_crash 0 = .ok (.aload_n 0, 1) := by decide +kernel
theorem dX6_crash_1 : decode cX6_crash 1 = .ok (.getfield 7, 3) := by decide +kernel
theorem dX6_crash_4 : decode cX6_crash 4 = .ok (.iconst 3, 1) := by decide +kernel
theorem dX6_crash_5 : decode cX6_crash 5 = .ok (.iaload, 1) := by decide +kernel
theorem dX6_crash_6 : decode cX6_crash 6 = .ok (.ifCond .ne 6, 3) := by decide +kernel
theorem dX6_crash_9 : decode cX6_crash 9 = .ok (.ldc 63, 2) := by decide +kernel
theorem dX6_crash_11 : decode cX6_crash 11 = .ok (.ireturn, 1) := by decide +kernel
theorem dX6_crash_12 : decode cX6_crash 12 = .ok (.aload_n 0, 1) := by decide +kernel
theorem dX6_crash_13 : decode cX6_crash 13 = .ok (.invokevirtual 64, 3) := by decide +kernel
theorem dX6_crash_16 : decode cX6_crash 16 = .ok (.aload_n 0, 1) := by decide +kernel
theorem dX6_crash_17 : decode cX6_crash 17 = .ok (.getfield 7, 3) := by decide +kernel
theorem dX6_crash_20 : decode cX6_crash 20 = .ok (.iconst 3, 1) := by decide +kernel
theorem dX6_crash_21 : decode cX6_crash 21 = .ok (.iaload, 1) := by decide +kernel
theorem dX6_crash_22 : decode cX6_crash 22 = .ok (.istore_n 1, 1) := by decide +kernel
theorem dX6_crash_23 : decode cX6_crash 23 = .ok (.aload_n 0, 1) := by decide +kernel
theorem dX6_crash_24 : decode cX6_crash 24 = .ok (.getfield 7, 3) := by decide +kernel
theorem dX6_crash_27 : decode cX6_crash 27 = .ok (.iconst 4, 1) := by decide +kernel
theorem dX6_crash_28 : decode cX6_crash 28 = .ok (.dup2, 1) := by decide +kernel
theorem dX6_crash_29 : decode cX6_crash 29 = .ok (.iaload, 1) := by decide +kernel
theorem dX6_crash_30 : decode cX6_crash 30 = .ok (.iload_n 1, 1) := by decide +kernel
theorem dX6_crash_31 : decode cX6_crash 31 = .ok (.iadd, 1) := by decide +kernel
theorem dX6_crash_32 : decode cX6_crash 32 = .ok (.iastore, 1) := by decide +kernel
theorem dX6_crash_33 : decode cX6_crash 33 = .ok (.aload_n 0, 1) := by decide +kernel
theorem dX6_crash_34 : decode cX6_crash 34 = .ok (.getfield 7, 3) := by decide +kernel
theorem dX6_crash_37 : decode cX6_crash 37 = .ok (.iconst 3, 1) := by decide +kernel
theorem dX6_crash_38 : decode cX6_crash 38 = .ok (.iconst 0, 1) := by decide +kernel
theorem dX6_crash_39 : decode cX6_crash 39 = .ok (.iastore, 1) := by decide +kernel
theorem dX6_crash_40 : decode cX6_crash 40 = .ok (.aload_n 0, 1) := by decide +kernel
theorem dX6_crash_41 : decode cX6_crash 41 = .ok (.iload_n 1, 1) := by decide +kernel
theorem dX6_crash_42 : decode cX6_crash 42 = .ok (.invokevirtual 75, 3) := by decide +kernel
theorem dX6_crash_45 : decode cX6_crash 45 = .ok (.ireturn, 1) := by decide +kernel
theorem dX6_latest_0 : decode cX6_latest 0 = .ok (.iconst (-1), 1) := by decide +kernel
theorem dX6_latest_1 : decode cX6_latest 1 = .ok (.istore_n 2, 1) := by decide +kernel
theorem dX6_latest_2 : decode cX6_latest 2 = .ok (.iconst 0, 1) := by decide +kernel
theorem dX6_latest_3 : decode cX6_latest 3 = .ok (.istore_n 3, 1) := by decide +kernel
theorem dX6_latest_4 : decode cX6_latest 4 = .ok (.iload_n 3, 1) := by decide +kernel
theorem dX6_latest_5 : decode cX6_latest 5 = .ok (.aload_n 0, 1) := by decide +kernel
theorem dX6_latest_6 : decode cX6_latest 6 = .ok (.getfield 7, 3) := by decide +kernel
theorem dX6_latest_9 : decode cX6_latest 9 = .ok (.iconst 3, 1) := by decide +kernel
theorem dX6_latest_10 : decode cX6_latest 10 = .ok (.iaload, 1) := by decide +kernel
theorem dX6_latest_11 : decode cX6_latest 11 = .ok (.if_icmp .ge 31, 3) := by decide +kernel
theorem dX6_latest_14 : decode cX6_latest 14 = .ok (.aload_n 0, 1) := by decide +kernel
theorem dX6_latest_15 : decode cX6_latest 15 = .ok (.getfield 7, 3) := by decide +kernel
theorem dX6_latest_18 : decode cX6_latest 18 = .ok (.bipush 14, 2) := by decide +kernel
theorem dX6_latest_20 : decode cX6_latest 20 = .ok (.bipush 7, 2) := by decide +kernel
theorem dX6_latest_22 : decode cX6_latest 22 = .ok (.iload_n 3, 1) := by decide +kernel
theorem dX6_latest_23 : decode cX6_latest 23 = .ok (.imul, 1) := by decide +kernel
theorem dX6_latest_24 : decode cX6_latest 24 = .ok (.iadd, 1) := by decide +kernel
theorem dX6_latest_25 : decode cX6_latest 25 = .ok (.iaload, 1) := by decide +kernel
theorem dX6_latest_26 : decode cX6_latest 26 = .ok (.iload_n 1, 1) := by decide +kernel
theorem dX6_latest_27 : decode cX6_latest 27 = .ok (.if_icmp .ne 7, 3) := by decide +kernel
theorem dX6_latest_30 : decode cX6_latest 30 = .ok (.iload_n 3, 1) := by decide +kernel
theorem dX6_latest_31 : decode cX6_latest 31 = .ok (.goto 4, 3) := by decide +kernel
theorem dX6_latest_34 : decode cX6_latest 34 = .ok (.iload_n 2, 1) := by decide +kernel
theorem dX6_latest_35 : decode cX6_latest 35 = .ok (.istore_n 2, 1) := by decide +kernel
theorem dX6_latest_36 : decode cX6_latest 36 = .ok (.iinc 3 1, 3) := by decide +kernel
theorem dX6_latest_39 : decode cX6_latest 39 = .ok (.goto (-35), 3) := by decide +kernel
theorem dX6_latest_42 : decode cX6_latest 42 = .ok (.iload_n 2, 1) := by decide +kernel
theorem dX6_latest_43 : decode cX6_latest 43 = .ok (.ireturn, 1) := by decide +kernel
theorem dX6_mends_0 : decode cX6_mends 0 = .ok (.iload_n 1, 1) := by decide +kernel
theorem dX6_mends_1 : decode cX6_mends 1 = .ok (.invokestatic 111, 3) := by decide +kernel
theorem dX6_mends_4 : decode cX6_mends 4 = .ok (.ifCond .ne 6, 3) := by decide +kernel
theorem dX6_mends_7 : decode cX6_mends 7 = .ok (.ldc 39, 2) := by decide +kernel
theorem dX6_mends_9 : decode cX6_mends 9 = .ok (.ireturn, 1) := by decide +kernel
theorem dX6_mends_10 : decode cX6_mends 10 = .ok (.aload_n 0, 1) := by decide +kernel
theorem dX6_mends_11 : decode cX6_mends 11 = .ok (.invokevirtual 85, 3) := by decide +kernel
theorem dX6_mends_14 : decode cX6_mends 14 = .ok (.ifCond .eq 11, 3) := by decide +kernel
theorem dX6_mends_17 : decode cX6_mends 17 = .ok (.aload_n 0, 1) := by decide +kernel
theorem dX6_mends_18 : decode cX6_mends 18 = .ok (.iload_n 1, 1) := by decide +kernel
theorem dX6_mends_19 : decode cX6_mends 19 = .ok (.invokevirtual 140, 3) := by decide +kernel
theorem dX6_mends_22 : decode cX6_mends 22 = .ok (.ifCond .lt 6, 3) := by decide +kernel
theorem dX6_mends_25 : decode cX6_mends 25 = .ok (.ldc 63, 2) := by decide +kernel
theorem dX6_mends_27 : decode cX6_mends 27 = .ok (.ireturn, 1) := by decide +kernel
theorem dX6_mends_28 : decode cX6_mends 28 = .ok (.aload_n 0, 1) := by decide +kernel
theorem dX6_mends_29 : decode cX6_mends 29 = .ok (.iload_n 1, 1) := by decide +kernel
theorem dX6_mends_30 : decode cX6_mends 30 = .ok (.invokevirtual 55, 3) := by decide +kernel
theorem dX6_mends_33 : decode cX6_mends 33 = .ok (.ifCond .ne 5, 3) := by decide +kernel
theorem dX6_mends_36 : decode cX6_mends 36 = .ok (.iconst 0, 1) := by decide +kernel
theorem dX6_mends_37 : decode cX6_mends 37 = .ok (.ireturn, 1) := by decide +kernel
theorem dX6_mends_38 : decode cX6_mends 38 = .ok (.aload_n 0, 1) := by decide +kernel
theorem dX6_mends_39 : decode cX6_mends 39 = .ok (.iconst 0, 1) := by decide +kernel
theorem dX6_mends_40 : decode cX6_mends 40 = .ok (.iload_n 1, 1) := by decide +kernel
theorem dX6_mends_41 : decode cX6_mends 41 = .ok (.iconst 0, 1) := by decide +kernel
theorem dX6_mends_42 : decode cX6_mends 42 = .ok (.invokevirtual 44, 3) := by decide +kernel
theorem dX6_mends_45 : decode cX6_mends 45 = .ok (.istore_n 2, 1) := by decide +kernel
theorem dX6_mends_46 : decode cX6_mends 46 = .ok (.aload_n 0, 1) := by decide +kernel
theorem dX6_mends_47 : decode cX6_mends 47 = .ok (.iconst 1, 1) := by decide +kernel
theorem dX6_mends_48 : decode cX6_mends 48 = .ok (.iload_n 1, 1) := by decide +kernel
theorem dX6_mends_49 : decode cX6_mends 49 = .ok (.iconst 0, 1) := by decide +kernel
theorem dX6_mends_50 : decode cX6_mends 50 = .ok (.invokevirtual 44, 3) := by decide +kernel
theorem dX6_mends_53 : decode cX6_mends 53 = .ok (.istore_n 3, 1) := by decide +kernel
theorem dX6_mends_54 : decode cX6_mends 54 = .ok (.aload_n 0, 1) := by decide +kernel
theorem dX6_mends_55 : decode cX6_mends 55 = .ok (.iload_n 2, 1) := by decide +kernel
theorem dX6_mends_56 : decode cX6_mends 56 = .ok (.iload_n 3, 1) := by decide +kernel
theorem dX6_mends_57 : decode cX6_mends 57 = .ok (.if_icmp .ge 7, 3) := by decide +kernel
theorem dX6_mends_60 : decode cX6_mends 60 = .ok (.iconst 0, 1) := by decide +kernel
theorem dX6_mends_61 : decode cX6_mends 61 = .ok (.goto 18, 3) := by decide +kernel
theorem dX6_mends_64 : decode cX6_mends 64 = .ok (.iload_n 3, 1) := by decide +kernel
theorem dX6_mends_65 : decode cX6_mends 65 = .ok (.iload_n 2, 1) := by decide +kernel
theorem dX6_mends_66 : decode cX6_mends 66 = .ok (.if_icmp .ge 7, 3) := by decide +kernel
theorem dX6_mends_69 : decode cX6_mends 69 = .ok (.iconst 1, 1) := by decide +kernel
theorem dX6_mends_70 : decode cX6_mends 70 = .ok (.goto 9, 3) := by decide +kernel
theorem dX6_mends_73 : decode cX6_mends 73 = .ok (.iconst 1, 1) := by decide +kernel
theorem dX6_mends_74 : decode cX6_mends 74 = .ok (.aload_n 0, 1) := by decide +kernel
theorem dX6_mends_75 : decode cX6_mends 75 = .ok (.invokevirtual 96, 3) := by decide +kernel
theorem dX6_mends_78 : decode cX6_mends 78 = .ok (.isub, 1) := by decide +kernel
theorem dX6_mends_79 : decode cX6_mends 79 = .ok (.iload_n 1, 1) := by decide +kernel
theorem dX6_mends_80 : decode cX6_mends 80 = .ok (.invokevirtual 134, 3) := by decide +kernel
theorem dX6_mends_83 : decode cX6_mends 83 = .ok (.iconst 1, 1) := by decide +kernel
theorem dX6_mends_84 : decode cX6_mends 84 = .ok (.ireturn, 1) := by decide +kernel
theorem dX6_mend_0 : decode cX6_mend 0 = .ok (.aload_n 0, 1) := by decide +kernel
theorem dX6_mend_1 : decode cX6_mend 1 = .ok (.invokevirtual 64, 3) := by decide +kernel
theorem dX6_mend_4 : decode cX6_mend 4 = .ok (.aload_n 0, 1) := by decide +kernel
theorem dX6_mend_5 : decode cX6_mend 5 = .ok (.aload_n 0, 1) := by decide +kernel
theorem dX6_mend_6 : decode cX6_mend 6 = .ok (.iload_n 1, 1) := by decide +kernel
theorem dX6_mend_7 : decode cX6_mend 7 = .ok (.invokevirtual 143, 3) := by decide +kernel
theorem dX6_mend_10 : decode cX6_mend 10 = .ok (.invokevirtual 75, 3) := by decide +kernel
theorem dX6_mend_13 : decode cX6_mend 13 = .ok (.ireturn, 1) := by decide +kernel
theorem dX6_reads_0 : decode cX6_reads 0 = .ok (.aload_n 0, 1) := by decide +kernel
theorem dX6_reads_1 : decode cX6_reads 1 = .ok (.iload_n 2, 1) := by decide +kernel
theorem dX6_reads_2 : decode cX6_reads 2 = .ok (.invokevirtual 146, 3) := by decide +kernel
theorem dX6_reads_5 : decode cX6_reads 5 = .ok (.ifCond .eq 7, 3) := by decide +kernel
theorem dX6_reads_8 : decode cX6_reads 8 = .ok (.iload_n 2, 1) := by decide +kernel
theorem dX6_reads_9 : decode cX6_reads 9 = .ok (.goto 6, 3) := by decide +kernel
theorem dX6_reads_12 : decode cX6_reads 12 = .ok (.iconst 1, 1) := by decide +kernel
theorem dX6_reads_13 : decode cX6_reads 13 = .ok (.iload_n 2, 1) := by decide +kernel
theorem dX6_reads_14 : decode cX6_reads 14 = .ok (.isub, 1) := by decide +kernel
theorem dX6_reads_15 : decode cX6_reads 15 = .ok (.istore_n 3, 1) := by decide +kernel
theorem dX6_reads_16 : decode cX6_reads 16 = .ok (.aload_n 0, 1) := by decide +kernel
theorem dX6_reads_17 : decode cX6_reads 17 = .ok (.iload_n 1, 1) := by decide +kernel
theorem dX6_reads_18 : decode cX6_reads 18 = .ok (.invokevirtual 140, 3) := by decide +kernel
theorem dX6_reads_21 : decode cX6_reads 21 = .ok (.istore 4, 2) := by decide +kernel
theorem dX6_reads_23 : decode cX6_reads 23 = .ok (.iload 4, 2) := by decide +kernel
theorem dX6_reads_25 : decode cX6_reads 25 = .ok (.ifCond .lt 101, 3) := by decide +kernel
theorem dX6_reads_28 : decode cX6_reads 28 = .ok (.aload_n 0, 1) := by decide +kernel
theorem dX6_reads_29 : decode cX6_reads 29 = .ok (.getfield 7, 3) := by decide +kernel
theorem dX6_reads_32 : decode cX6_reads 32 = .ok (.bipush 14, 2) := by decide +kernel
theorem dX6_reads_34 : decode cX6_reads 34 = .ok (.bipush 7, 2) := by decide +kernel
theorem dX6_reads_36 : decode cX6_reads 36 = .ok (.iload 4, 2) := by decide +kernel
theorem dX6_reads_38 : decode cX6_reads 38 = .ok (.imul, 1) := by decide +kernel
theorem dX6_reads_39 : decode cX6_reads 39 = .ok (.iadd, 1) := by decide +kernel
theorem dX6_reads_40 : decode cX6_reads 40 = .ok (.iconst 2, 1) := by decide +kernel
theorem dX6_reads_41 : decode cX6_reads 41 = .ok (.iadd, 1) := by decide +kernel
theorem dX6_reads_42 : decode cX6_reads 42 = .ok (.iaload, 1) := by decide +kernel
theorem dX6_reads_43 : decode cX6_reads 43 = .ok (.iload_n 2, 1) := by decide +kernel
theorem dX6_reads_44 : decode cX6_reads 44 = .ok (.if_icmp .ne 82, 3) := by decide +kernel
end
section
theorem dX6_reads_47 : decode cX6_reads 47 = .ok (.aload_n 0, 1) := by decide +kernel
theorem dX6_reads_48 : decode cX6_reads 48 = .ok (.getfield 29, 3) := by decide +kernel
theorem dX6_reads_51 : decode cX6_reads 51 = .ok (.iconst 0, 1) := by decide +kernel
theorem dX6_reads_52 : decode cX6_reads 52 = .ok (.iconst 1, 1) := by decide +kernel
theorem dX6_reads_53 : decode cX6_reads 53 = .ok (.aload_n 0, 1) := by decide +kernel
theorem dX6_reads_54 : decode cX6_reads 54 = .ok (.getfield 7, 3) := by decide +kernel
theorem dX6_reads_57 : decode cX6_reads 57 = .ok (.bipush 14, 2) := by decide +kernel
theorem dX6_reads_59 : decode cX6_reads 59 = .ok (.bipush 7, 2) := by decide +kernel
theorem dX6_reads_61 : decode cX6_reads 61 = .ok (.iload 4, 2) := by decide +kernel
theorem dX6_reads_63 : decode cX6_reads 63 = .ok (.imul, 1) := by decide +kernel
theorem dX6_reads_64 : decode cX6_reads 64 = .ok (.iadd, 1) := by decide +kernel
theorem dX6_reads_65 : decode cX6_reads 65 = .ok (.iconst 3, 1) := by decide +kernel
theorem dX6_reads_66 : decode cX6_reads 66 = .ok (.iadd, 1) := by decide +kernel
theorem dX6_reads_67 : decode cX6_reads 67 = .ok (.iaload, 1) := by decide +kernel
theorem dX6_reads_68 : decode cX6_reads 68 = .ok (.isub, 1) := by decide +kernel
theorem dX6_reads_69 : decode cX6_reads 69 = .ok (.iastore, 1) := by decide +kernel
theorem dX6_reads_70 : decode cX6_reads 70 = .ok (.iconst 1, 1) := by decide +kernel
theorem dX6_reads_71 : decode cX6_reads 71 = .ok (.istore 5, 2) := by decide +kernel
theorem dX6_reads_73 : decode cX6_reads 73 = .ok (.iload 5, 2) := by decide +kernel
theorem dX6_reads_75 : decode cX6_reads 75 = .ok (.iconst 4, 1) := by decide +kernel
theorem dX6_reads_76 : decode cX6_reads 76 = .ok (.if_icmp .ge 34, 3) := by decide +kernel
theorem dX6_reads_79 : decode cX6_reads 79 = .ok (.aload_n 0, 1) := by decide +kernel
theorem dX6_reads_80 : decode cX6_reads 80 = .ok (.getfield 29, 3) := by decide +kernel
theorem dX6_reads_83 : decode cX6_reads 83 = .ok (.iload 5, 2) := by decide +kernel
theorem dX6_reads_85 : decode cX6_reads 85 = .ok (.aload_n 0, 1) := by decide +kernel
theorem dX6_reads_86 : decode cX6_reads 86 = .ok (.getfield 7, 3) := by decide +kernel
theorem dX6_reads_89 : decode cX6_reads 89 = .ok (.bipush 14, 2) := by decide +kernel
theorem dX6_reads_91 : decode cX6_reads 91 = .ok (.bipush 7, 2) := by decide +kernel
theorem dX6_reads_93 : decode cX6_reads 93 = .ok (.iload 4, 2) := by decide +kernel
theorem dX6_reads_95 : decode cX6_reads 95 = .ok (.imul, 1) := by decide +kernel
theorem dX6_reads_96 : decode cX6_reads 96 = .ok (.iadd, 1) := by decide +kernel
theorem dX6_reads_97 : decode cX6_reads 97 = .ok (.iconst 3, 1) := by decide +kernel
theorem dX6_reads_98 : decode cX6_reads 98 = .ok (.iadd, 1) := by decide +kernel
theorem dX6_reads_99 : decode cX6_reads 99 = .ok (.iload 5, 2) := by decide +kernel
theorem dX6_reads_101 : decode cX6_reads 101 = .ok (.iadd, 1) := by decide +kernel
theorem dX6_reads_102 : decode cX6_reads 102 = .ok (.iaload, 1) := by decide +kernel
theorem dX6_reads_103 : decode cX6_reads 103 = .ok (.iastore, 1) := by decide +kernel
theorem dX6_reads_104 : decode cX6_reads 104 = .ok (.iinc 5 1, 3) := by decide +kernel
theorem dX6_reads_107 : decode cX6_reads 107 = .ok (.goto (-34), 3) := by decide +kernel
theorem dX6_reads_110 : decode cX6_reads 110 = .ok (.aload_n 0, 1) := by decide +kernel
theorem dX6_reads_111 : decode cX6_reads 111 = .ok (.getfield 29, 3) := by decide +kernel
theorem dX6_reads_114 : decode cX6_reads 114 = .ok (.iconst 0, 1) := by decide +kernel
theorem dX6_reads_115 : decode cX6_reads 115 = .ok (.iaload, 1) := by decide +kernel
theorem dX6_reads_116 : decode cX6_reads 116 = .ok (.iconst 1, 1) := by decide +kernel
theorem dX6_reads_117 : decode cX6_reads 117 = .ok (.if_icmp .ne 7, 3) := by decide +kernel
theorem dX6_reads_120 : decode cX6_reads 120 = .ok (.iconst 1, 1) := by decide +kernel
theorem dX6_reads_121 : decode cX6_reads 121 = .ok (.goto 4, 3) := by decide +kernel
theorem dX6_reads_124 : decode cX6_reads 124 = .ok (.iconst 0, 1) := by decide +kernel
theorem dX6_reads_125 : decode cX6_reads 125 = .ok (.ireturn, 1) := by decide +kernel
theorem dX6_reads_126 : decode cX6_reads 126 = .ok (.aload_n 0, 1) := by decide +kernel
theorem dX6_reads_127 : decode cX6_reads 127 = .ok (.getfield 7, 3) := by decide +kernel
theorem dX6_reads_130 : decode cX6_reads 130 = .ok (.iconst 0, 1) := by decide +kernel
theorem dX6_reads_131 : decode cX6_reads 131 = .ok (.iaload, 1) := by decide +kernel
theorem dX6_reads_132 : decode cX6_reads 132 = .ok (.iconst 1, 1) := by decide +kernel
theorem dX6_reads_133 : decode cX6_reads 133 = .ok (.if_icmp .ne 22, 3) := by decide +kernel
theorem dX6_reads_136 : decode cX6_reads 136 = .ok (.iload_n 2, 1) := by decide +kernel
theorem dX6_reads_137 : decode cX6_reads 137 = .ok (.iconst 1, 1) := by decide +kernel
theorem dX6_reads_138 : decode cX6_reads 138 = .ok (.if_icmp .ne 17, 3) := by decide +kernel
theorem dX6_reads_141 : decode cX6_reads 141 = .ok (.aload_n 0, 1) := by decide +kernel
theorem dX6_reads_142 : decode cX6_reads 142 = .ok (.iconst 1, 1) := by decide +kernel
theorem dX6_reads_143 : decode cX6_reads 143 = .ok (.iload_n 1, 1) := by decide +kernel
theorem dX6_reads_144 : decode cX6_reads 144 = .ok (.iconst 0, 1) := by decide +kernel
theorem dX6_reads_145 : decode cX6_reads 145 = .ok (.invokevirtual 44, 3) := by decide +kernel
theorem dX6_reads_148 : decode cX6_reads 148 = .ok (.ifCond .ne 7, 3) := by decide +kernel
theorem dX6_reads_151 : decode cX6_reads 151 = .ok (.iconst 0, 1) := by decide +kernel
theorem dX6_reads_152 : decode cX6_reads 152 = .ok (.goto 4, 3) := by decide +kernel
theorem dX6_reads_155 : decode cX6_reads 155 = .ok (.iload_n 3, 1) := by decide +kernel
theorem dX6_reads_156 : decode cX6_reads 156 = .ok (.istore_n 3, 1) := by decide +kernel
theorem dX6_reads_157 : decode cX6_reads 157 = .ok (.aload_n 0, 1) := by decide +kernel
theorem dX6_reads_158 : decode cX6_reads 158 = .ok (.iload_n 3, 1) := by decide +kernel
theorem dX6_reads_159 : decode cX6_reads 159 = .ok (.iload_n 1, 1) := by decide +kernel
theorem dX6_reads_160 : decode cX6_reads 160 = .ok (.invokevirtual 48, 3) := by decide +kernel
theorem dX6_reads_163 : decode cX6_reads 163 = .ok (.aload_n 0, 1) := by decide +kernel
theorem dX6_reads_164 : decode cX6_reads 164 = .ok (.iload_n 3, 1) := by decide +kernel
theorem dX6_reads_165 : decode cX6_reads 165 = .ok (.iload_n 2, 1) := by decide +kernel
theorem dX6_reads_166 : decode cX6_reads 166 = .ok (.invokevirtual 52, 3) := by decide +kernel
theorem dX6_reads_169 : decode cX6_reads 169 = .ok (.aload_n 0, 1) := by decide +kernel
theorem dX6_reads_170 : decode cX6_reads 170 = .ok (.getfield 29, 3) := by decide +kernel
theorem dX6_reads_173 : decode cX6_reads 173 = .ok (.iconst 0, 1) := by decide +kernel
theorem dX6_reads_174 : decode cX6_reads 174 = .ok (.iaload, 1) := by decide +kernel
theorem dX6_reads_175 : decode cX6_reads 175 = .ok (.iconst 1, 1) := by decide +kernel
theorem dX6_reads_176 : decode cX6_reads 176 = .ok (.if_icmp .ne 7, 3) := by decide +kernel
theorem dX6_reads_179 : decode cX6_reads 179 = .ok (.iconst 1, 1) := by decide +kernel
theorem dX6_reads_180 : decode cX6_reads 180 = .ok (.goto 4, 3) := by decide +kernel
theorem dX6_reads_183 : decode cX6_reads 183 = .ok (.iconst 0, 1) := by decide +kernel
theorem dX6_reads_184 : decode cX6_reads 184 = .ok (.ireturn, 1) := by decide +kernel
theorem dX6_read_0 : decode cX6_read 0 = .ok (.iload_n 1, 1) := by decide +kernel
theorem dX6_read_1 : decode cX6_read 1 = .ok (.invokestatic 111, 3) := by decide +kernel
theorem dX6_read_4 : decode cX6_read 4 = .ok (.ifCond .eq 23, 3) := by decide +kernel
theorem dX6_read_7 : decode cX6_read 7 = .ok (.iload_n 2, 1) := by decide +kernel
theorem dX6_read_8 : decode cX6_read 8 = .ok (.iconst 0, 1) := by decide +kernel
theorem dX6_read_9 : decode cX6_read 9 = .ok (.iconst 1, 1) := by decide +kernel
theorem dX6_read_10 : decode cX6_read 10 = .ok (.invokestatic 107, 3) := by decide +kernel
theorem dX6_read_13 : decode cX6_read 13 = .ok (.ifCond .eq 14, 3) := by decide +kernel
theorem dX6_read_16 : decode cX6_read 16 = .ok (.iload_n 3, 1) := by decide +kernel
theorem dX6_read_17 : decode cX6_read 17 = .ok (.iconst 0, 1) := by decide +kernel
theorem dX6_read_18 : decode cX6_read 18 = .ok (.iconst 2, 1) := by decide +kernel
theorem dX6_read_19 : decode cX6_read 19 = .ok (.iload_n 2, 1) := by decide +kernel
theorem dX6_read_20 : decode cX6_read 20 = .ok (.isub, 1) := by decide +kernel
theorem dX6_read_21 : decode cX6_read 21 = .ok (.invokestatic 107, 3) := by decide +kernel
theorem dX6_read_24 : decode cX6_read 24 = .ok (.ifCond .ne 6, 3) := by decide +kernel
theorem dX6_read_27 : decode cX6_read 27 = .ok (.ldc 39, 2) := by decide +kernel
theorem dX6_read_29 : decode cX6_read 29 = .ok (.ireturn, 1) := by decide +kernel
theorem dX6_read_30 : decode cX6_read 30 = .ok (.aload_n 0, 1) := by decide +kernel
theorem dX6_read_31 : decode cX6_read 31 = .ok (.iload_n 1, 1) := by decide +kernel
theorem dX6_read_32 : decode cX6_read 32 = .ok (.iload_n 2, 1) := by decide +kernel
theorem dX6_read_33 : decode cX6_read 33 = .ok (.invokevirtual 149, 3) := by decide +kernel
theorem dX6_read_36 : decode cX6_read 36 = .ok (.ifCond .eq 14, 3) := by decide +kernel
theorem dX6_read_39 : decode cX6_read 39 = .ok (.aload_n 0, 1) := by decide +kernel
theorem dX6_read_40 : decode cX6_read 40 = .ok (.getfield 29, 3) := by decide +kernel
theorem dX6_read_43 : decode cX6_read 43 = .ok (.iconst 1, 1) := by decide +kernel
theorem dX6_read_44 : decode cX6_read 44 = .ok (.iload_n 3, 1) := by decide +kernel
theorem dX6_read_45 : decode cX6_read 45 = .ok (.iadd, 1) := by decide +kernel
theorem dX6_read_46 : decode cX6_read 46 = .ok (.iaload, 1) := by decide +kernel
theorem dX6_read_47 : decode cX6_read 47 = .ok (.goto 5, 3) := by decide +kernel
theorem dX6_read_50 : decode cX6_read 50 = .ok (.ldc 153, 2) := by decide +kernel
theorem dX6_read_52 : decode cX6_read 52 = .ok (.ireturn, 1) := by decide +kernel
theorem dX6_shapeOf_0 : decode cX6_shapeOf 0 = .ok (.iload_n 1, 1) := by decide +kernel
theorem dX6_shapeOf_1 : decode cX6_shapeOf 1 = .ok (.invokestatic 111, 3) := by decide +kernel
theorem dX6_shapeOf_4 : decode cX6_shapeOf 4 = .ok (.ifCond .eq 21, 3) := by decide +kernel
theorem dX6_shapeOf_7 : decode cX6_shapeOf 7 = .ok (.iload_n 2, 1) := by decide +kernel
theorem dX6_shapeOf_8 : decode cX6_shapeOf 8 = .ok (.iconst 0, 1) := by decide +kernel
theorem dX6_shapeOf_9 : decode cX6_shapeOf 9 = .ok (.iconst 1, 1) := by decide +kernel
theorem dX6_shapeOf_10 : decode cX6_shapeOf 10 = .ok (.invokestatic 107, 3) := by decide +kernel
theorem dX6_shapeOf_13 : decode cX6_shapeOf 13 = .ok (.ifCond .eq 12, 3) := by decide +kernel
theorem dX6_shapeOf_16 : decode cX6_shapeOf 16 = .ok (.iload_n 3, 1) := by decide +kernel
theorem dX6_shapeOf_17 : decode cX6_shapeOf 17 = .ok (.iconst 0, 1) := by decide +kernel
theorem dX6_shapeOf_18 : decode cX6_shapeOf 18 = .ok (.iconst 4, 1) := by decide +kernel
theorem dX6_shapeOf_19 : decode cX6_shapeOf 19 = .ok (.invokestatic 107, 3) := by decide +kernel
theorem dX6_shapeOf_22 : decode cX6_shapeOf 22 = .ok (.ifCond .ne 6, 3) := by decide +kernel
theorem dX6_shapeOf_25 : decode cX6_shapeOf 25 = .ok (.ldc 39, 2) := by decide +kernel
theorem dX6_shapeOf_27 : decode cX6_shapeOf 27 = .ok (.ireturn, 1) := by decide +kernel
theorem dX6_shapeOf_28 : decode cX6_shapeOf 28 = .ok (.aload_n 0, 1) := by decide +kernel
theorem dX6_shapeOf_29 : decode cX6_shapeOf 29 = .ok (.iload_n 2, 1) := by decide +kernel
theorem dX6_shapeOf_30 : decode cX6_shapeOf 30 = .ok (.invokevirtual 146, 3) := by decide +kernel
theorem dX6_shapeOf_33 : decode cX6_shapeOf 33 = .ok (.ifCond .ne 6, 3) := by decide +kernel
theorem dX6_shapeOf_36 : decode cX6_shapeOf 36 = .ok (.ldc 63, 2) := by decide +kernel
theorem dX6_shapeOf_38 : decode cX6_shapeOf 38 = .ok (.ireturn, 1) := by decide +kernel
theorem dX6_shapeOf_39 : decode cX6_shapeOf 39 = .ok (.iload_n 3, 1) := by decide +kernel
theorem dX6_shapeOf_40 : decode cX6_shapeOf 40 = .ok (.iconst 1, 1) := by decide +kernel
theorem dX6_shapeOf_41 : decode cX6_shapeOf 41 = .ok (.if_icmp .le 13, 3) := by decide +kernel
theorem dX6_shapeOf_44 : decode cX6_shapeOf 44 = .ok (.aload_n 0, 1) := by decide +kernel
theorem dX6_shapeOf_45 : decode cX6_shapeOf 45 = .ok (.iload_n 2, 1) := by decide +kernel
theorem dX6_shapeOf_46 : decode cX6_shapeOf 46 = .ok (.iload_n 1, 1) := by decide +kernel
theorem dX6_shapeOf_47 : decode cX6_shapeOf 47 = .ok (.iconst 1, 1) := by decide +kernel
theorem dX6_shapeOf_48 : decode cX6_shapeOf 48 = .ok (.invokevirtual 44, 3) := by decide +kernel
theorem dX6_shapeOf_51 : decode cX6_shapeOf 51 = .ok (.ifCond .eq 13, 3) := by decide +kernel
theorem dX6_shapeOf_54 : decode cX6_shapeOf 54 = .ok (.iload_n 3, 1) := by decide +kernel
theorem dX6_shapeOf_55 : decode cX6_shapeOf 55 = .ok (.iconst 4, 1) := by decide +kernel
theorem dX6_shapeOf_56 : decode cX6_shapeOf 56 = .ok (.if_icmp .ne 12, 3) := by decide +kernel
theorem dX6_shapeOf_59 : decode cX6_shapeOf 59 = .ok (.iload_n 2, 1) := by decide +kernel
theorem dX6_shapeOf_60 : decode cX6_shapeOf 60 = .ok (.iconst 1, 1) := by decide +kernel
theorem dX6_shapeOf_61 : decode cX6_shapeOf 61 = .ok (.if_icmp .ne 7, 3) := by decide +kernel
theorem dX6_shapeOf_64 : decode cX6_shapeOf 64 = .ok (.iconst 1, 1) := by decide +kernel
theorem dX6_shapeOf_65 : decode cX6_shapeOf 65 = .ok (.goto 4, 3) := by decide +kernel
theorem dX6_shapeOf_68 : decode cX6_shapeOf 68 = .ok (.iconst 0, 1) := by decide +kernel
theorem dX6_shapeOf_69 : decode cX6_shapeOf 69 = .ok (.istore 4, 2) := by decide +kernel
theorem dX6_shapeOf_71 : decode cX6_shapeOf 71 = .ok (.iload 4, 2) := by decide +kernel
theorem dX6_shapeOf_73 : decode cX6_shapeOf 73 = .ok (.ifCond .eq 8, 3) := by decide +kernel
theorem dX6_shapeOf_76 : decode cX6_shapeOf 76 = .ok (.ldc 153, 2) := by decide +kernel
theorem dX6_shapeOf_78 : decode cX6_shapeOf 78 = .ok (.goto 10, 3) := by decide +kernel
theorem dX6_shapeOf_81 : decode cX6_shapeOf 81 = .ok (.aload_n 0, 1) := by decide +kernel
theorem dX6_shapeOf_82 : decode cX6_shapeOf 82 = .ok (.iload_n 2, 1) := by decide +kernel
theorem dX6_shapeOf_83 : decode cX6_shapeOf 83 = .ok (.iload_n 1, 1) := by decide +kernel
theorem dX6_shapeOf_84 : decode cX6_shapeOf 84 = .ok (.iload_n 3, 1) := by decide +kernel
theorem dX6_shapeOf_85 : decode cX6_shapeOf 85 = .ok (.invokevirtual 44, 3) := by decide +kernel
theorem dX6_shapeOf_88 : decode cX6_shapeOf 88 = .ok (.ireturn, 1) := by decide +kernel
theorem dX6_queued_0 : decode cX6_queued 0 = .ok (.iload_n 1, 1) := by decide +kernel
theorem dX6_queued_1 : decode cX6_queued 1 = .ok (.ifCond .lt 12, 3) := by decide +kernel
theorem dX6_queued_4 : decode cX6_queued 4 = .ok (.iload_n 2, 1) := by decide +kernel
theorem dX6_queued_5 : decode cX6_queued 5 = .ok (.iconst 0, 1) := by decide +kernel
theorem dX6_queued_6 : decode cX6_queued 6 = .ok (.iconst 3, 1) := by decide +kernel
theorem dX6_queued_7 : decode cX6_queued 7 = .ok (.invokestatic 107, 3) := by decide +kernel
theorem dX6_queued_10 : decode cX6_queued 10 = .ok (.ifCond .ne 6, 3) := by decide +kernel
theorem dX6_queued_13 : decode cX6_queued 13 = .ok (.ldc 39, 2) := by decide +kernel
theorem dX6_queued_15 : decode cX6_queued 15 = .ok (.ireturn, 1) := by decide +kernel
theorem dX6_queued_16 : decode cX6_queued 16 = .ok (.iload_n 1, 1) := by decide +kernel
theorem dX6_queued_17 : decode cX6_queued 17 = .ok (.aload_n 0, 1) := by decide +kernel
theorem dX6_queued_18 : decode cX6_queued 18 = .ok (.getfield 7, 3) := by decide +kernel
theorem dX6_queued_21 : decode cX6_queued 21 = .ok (.iconst 3, 1) := by decide +kernel
theorem dX6_queued_22 : decode cX6_queued 22 = .ok (.iaload, 1) := by decide +kernel
theorem dX6_queued_23 : decode cX6_queued 23 = .ok (.if_icmp .ge 20, 3) := by decide +kernel
theorem dX6_queued_26 : decode cX6_queued 26 = .ok (.aload_n 0, 1) := by decide +kernel
theorem dX6_queued_27 : decode cX6_queued 27 = .ok (.getfield 7, 3) := by decide +kernel
theorem dX6_queued_30 : decode cX6_queued 30 = .ok (.bipush 14, 2) := by decide +kernel
theorem dX6_queued_32 : decode cX6_queued 32 = .ok (.bipush 7, 2) := by decide +kernel
theorem dX6_queued_34 : decode cX6_queued 34 = .ok (.iload_n 1, 1) := by decide +kernel
theorem dX6_queued_35 : decode cX6_queued 35 = .ok (.imul, 1) := by decide +kernel
theorem dX6_queued_36 : decode cX6_queued 36 = .ok (.iadd, 1) := by decide +kernel
theorem dX6_queued_37 : decode cX6_queued 37 = .ok (.iload_n 2, 1) := by decide +kernel
theorem dX6_queued_38 : decode cX6_queued 38 = .ok (.iadd, 1) := by decide +kernel
theorem dX6_queued_39 : decode cX6_queued 39 = .ok (.iaload, 1) := by decide +kernel
theorem dX6_queued_40 : decode cX6_queued 40 = .ok (.goto 5, 3) := by decide +kernel
theorem dX6_queued_43 : decode cX6_queued 43 = .ok (.ldc 153, 2) := by decide +kernel
theorem dX6_queued_45 : decode cX6_queued 45 = .ok (.ireturn, 1) := by decide +kernel
theorem dX6_readable_0 : decode cX6_readable 0 = .ok (.iconst 0, 1) := by decide +kernel
theorem dX6_readable_1 : decode cX6_readable 1 = .ok (.istore_n 2, 1) := by decide +kernel
theorem dX6_readable_2 : decode cX6_readable 2 = .ok (.iconst 0, 1) := by decide +kernel
theorem dX6_readable_3 : decode cX6_readable 3 = .ok (.istore_n 3, 1) := by decide +kernel
theorem dX6_readable_4 : decode cX6_readable 4 = .ok (.iload_n 3, 1) := by decide +kernel
theorem dX6_readable_5 : decode cX6_readable 5 = .ok (.bipush 31, 2) := by decide +kernel
theorem dX6_readable_7 : decode cX6_readable 7 = .ok (.if_icmp .ge 28, 3) := by decide +kernel
theorem dX6_readable_10 : decode cX6_readable 10 = .ok (.iload_n 2, 1) := by decide +kernel
theorem dX6_readable_11 : decode cX6_readable 11 = .ok (.aload_n 0, 1) := by decide +kernel
theorem dX6_readable_12 : decode cX6_readable 12 = .ok (.iload_n 3, 1) := by decide +kernel
theorem dX6_readable_13 : decode cX6_readable 13 = .ok (.iload_n 1, 1) := by decide +kernel
theorem dX6_readable_14 : decode cX6_readable 14 = .ok (.invokevirtual 149, 3) := by decide +kernel
theorem dX6_readable_17 : decode cX6_readable 17 = .ok (.ifCond .eq 9, 3) := by decide +kernel
theorem dX6_readable_20 : decode cX6_readable 20 = .ok (.iconst 1, 1) := by decide +kernel
theorem dX6_readable_21 : decode cX6_readable 21 = .ok (.iload_n 3, 1) := by decide +kernel
theorem dX6_readable_22 : decode cX6_readable 22 = .ok (.ishl, 1) := by decide +kernel
theorem dX6_readable_23 : decode cX6_readable 23 = .ok (.goto 4, 3) := by decide +kernel
theorem dX6_readable_26 : decode cX6_readable 26 = .ok (.iconst 0, 1) := by decide +kernel
theorem dX6_readable_27 : decode cX6_readable 27 = .ok (.ior, 1) := by decide +kernel
theorem dX6_readable_28 : decode cX6_readable 28 = .ok (.istore_n 2, 1) := by decide +kernel
theorem dX6_readable_29 : decode cX6_readable 29 = .ok (.iinc 3 1, 3) := by decide +kernel
theorem dX6_readable_32 : decode cX6_readable 32 = .ok (.goto (-28), 3) := by decide +kernel
theorem dX6_readable_35 : decode cX6_readable 35 = .ok (.iload_n 2, 1) := by decide +kernel
theorem dX6_readable_36 : decode cX6_readable 36 = .ok (.ireturn, 1) := by decide +kernel
theorem dX6_keys_0 : decode cX6_keys 0 = .ok (.iload_n 1, 1) := by decide +kernel
theorem dX6_keys_1 : decode cX6_keys 1 = .ok (.iconst 0, 1) := by decide +kernel
theorem dX6_keys_2 : decode cX6_keys 2 = .ok (.iconst 1, 1) := by decide +kernel
theorem dX6_keys_3 : decode cX6_keys 3 = .ok (.invokestatic 107, 3) := by decide +kernel
theorem dX6_keys_6 : decode cX6_keys 6 = .ok (.ifCond .eq 11, 3) := by decide +kernel
theorem dX6_keys_9 : decode cX6_keys 9 = .ok (.aload_n 0, 1) := by decide +kernel
theorem dX6_keys_10 : decode cX6_keys 10 = .ok (.iload_n 1, 1) := by decide +kernel
theorem dX6_keys_11 : decode cX6_keys 11 = .ok (.invokevirtual 154, 3) := by decide +kernel
theorem dX6_keys_14 : decode cX6_keys 14 = .ok (.goto 5, 3) := by decide +kernel
theorem dX6_keys_17 : decode cX6_keys 17 = .ok (.ldc 39, 2) := by decide +kernel
theorem dX6_keys_19 : decode cX6_keys 19 = .ok (.ireturn, 1) := by decide +kernel
theorem dX6_check_0 : decode cX6_check 0 = .ok (.aload_n 0, 1) := by decide +kernel
theorem dX6_check_1 : decode cX6_check 1 = .ok (.invokevirtual 85, 3) := by decide +kernel
theorem dX6_check_4 : decode cX6_check 4 = .ok (.ifCond .eq 10, 3) := by decide +kernel
theorem dX6_check_7 : decode cX6_check 7 = .ok (.aload_n 0, 1) := by decide +kernel
theorem dX6_check_8 : decode cX6_check 8 = .ok (.invokevirtual 59, 3) := by decide +kernel
theorem dX6_check_11 : decode cX6_check 11 = .ok (.goto 5, 3) := by decide +kernel
theorem dX6_check_14 : decode cX6_check 14 = .ok (.ldc 63, 2) := by decide +kernel
theorem dX6_check_16 : decode cX6_check 16 = .ok (.ireturn, 1) := by decide +kernel
theorem dX6_quarrels_0 : decode cX6_quarrels 0 = .ok (.aload_n 0, 1) := by decide +kernel
theorem dX6_quarrels_1 : decode cX6_quarrels 1 = .ok (.iload_n 1, 1) := by decide +kernel
theorem dX6_quarrels_2 : decode cX6_quarrels 2 = .ok (.iconst 0, 1) := by decide +kernel
theorem dX6_quarrels_3 : decode cX6_quarrels 3 = .ok (.invokevirtual 149, 3) := by decide +kernel
theorem dX6_quarrels_6 : decode cX6_quarrels 6 = .ok (.istore_n 2, 1) := by decide +kernel
theorem dX6_quarrels_7 : decode cX6_quarrels 7 = .ok (.iconst 0, 1) := by decide +kernel
theorem dX6_quarrels_8 : decode cX6_quarrels 8 = .ok (.istore_n 3, 1) := by decide +kernel
theorem dX6_quarrels_9 : decode cX6_quarrels 9 = .ok (.iload_n 3, 1) := by decide +kernel
theorem dX6_quarrels_10 : decode cX6_quarrels 10 = .ok (.iconst 4, 1) := by decide +kernel
theorem dX6_quarrels_11 : decode cX6_quarrels 11 = .ok (.if_icmp .ge 21, 3) := by decide +kernel
theorem dX6_quarrels_14 : decode cX6_quarrels 14 = .ok (.aload_n 0, 1) := by decide +kernel
theorem dX6_quarrels_15 : decode cX6_quarrels 15 = .ok (.getfield 32, 3) := by decide +kernel
theorem dX6_quarrels_18 : decode cX6_quarrels 18 = .ok (.iload_n 3, 1) := by decide +kernel
theorem dX6_quarrels_19 : decode cX6_quarrels 19 = .ok (.aload_n 0, 1) := by decide +kernel
theorem dX6_quarrels_20 : decode cX6_quarrels 20 = .ok (.getfield 29, 3) := by decide +kernel
theorem dX6_quarrels_23 : decode cX6_quarrels 23 = .ok (.iload_n 3, 1) := by decide +kernel
theorem dX6_quarrels_24 : decode cX6_quarrels 24 = .ok (.iaload, 1) := by decide +kernel
theorem dX6_quarrels_25 : decode cX6_quarrels 25 = .ok (.iastore, 1) := by decide +kernel
theorem dX6_quarrels_26 : decode cX6_quarrels 26 = .ok (.iinc 3 1, 3) := by decide +kernel
theorem dX6_quarrels_29 : decode cX6_quarrels 29 = .ok (.goto (-20), 3) := by decide +kernel
theorem dX6_quarrels_32 : decode cX6_quarrels 32 = .ok (.aload_n 0, 1) := by decide +kernel
theorem dX6_quarrels_33 : decode cX6_quarrels 33 = .ok (.iload_n 1, 1) := by decide +kernel
theorem dX6_quarrels_34 : decode cX6_quarrels 34 = .ok (.iconst 1, 1) := by decide +kernel
theorem dX6_quarrels_35 : decode cX6_quarrels 35 = .ok (.invokevirtual 149, 3) := by decide +kernel
theorem dX6_quarrels_38 : decode cX6_quarrels 38 = .ok (.istore_n 3, 1) := by decide +kernel
theorem dX6_quarrels_39 : decode cX6_quarrels 39 = .ok (.aload_n 0, 1) := by decide +kernel
theorem dX6_quarrels_40 : decode cX6_quarrels 40 = .ok (.iconst 1, 1) := by decide +kernel
theorem dX6_quarrels_41 : decode cX6_quarrels 41 = .ok (.iconst 0, 1) := by decide +kernel
theorem dX6_quarrels_42 : decode cX6_quarrels 42 = .ok (.invokevirtual 52, 3) := by decide +kernel
theorem dX6_quarrels_45 : decode cX6_quarrels 45 = .ok (.iload_n 2, 1) := by decide +kernel
theorem dX6_quarrels_46 : decode cX6_quarrels 46 = .ok (.iload_n 3, 1) := by decide +kernel
theorem dX6_quarrels_47 : decode cX6_quarrels 47 = .ok (.if_icmp .eq 7, 3) := by decide +kernel
theorem dX6_quarrels_50 : decode cX6_quarrels 50 = .ok (.iconst 1, 1) := by decide +kernel
theorem dX6_quarrels_51 : decode cX6_quarrels 51 = .ok (.goto 4, 3) := by decide +kernel
theorem dX6_quarrels_54 : decode cX6_quarrels 54 = .ok (.iconst 0, 1) := by decide +kernel
theorem dX6_quarrels_55 : decode cX6_quarrels 55 = .ok (.istore 4, 2) := by decide +kernel
theorem dX6_quarrels_57 : decode cX6_quarrels 57 = .ok (.iconst 1, 1) := by decide +kernel
theorem dX6_quarrels_58 : decode cX6_quarrels 58 = .ok (.istore 5, 2) := by decide +kernel
theorem dX6_quarrels_60 : decode cX6_quarrels 60 = .ok (.iload 5, 2) := by decide +kernel
theorem dX6_quarrels_62 : decode cX6_quarrels 62 = .ok (.iconst 4, 1) := by decide +kernel
theorem dX6_quarrels_63 : decode cX6_quarrels 63 = .ok (.if_icmp .ge 46, 3) := by decide +kernel
theorem dX6_quarrels_66 : decode cX6_quarrels 66 = .ok (.iload 4, 2) := by decide +kernel
theorem dX6_quarrels_68 : decode cX6_quarrels 68 = .ok (.ifCond .ne 28, 3) := by decide +kernel
theorem dX6_quarrels_71 : decode cX6_quarrels 71 = .ok (.iload_n 2, 1) := by decide +kernel
theorem dX6_quarrels_72 : decode cX6_quarrels 72 = .ok (.ifCond .eq 28, 3) := by decide +kernel
theorem dX6_quarrels_75 : decode cX6_quarrels 75 = .ok (.iload_n 3, 1) := by decide +kernel
theorem dX6_quarrels_76 : decode cX6_quarrels 76 = .ok (.ifCond .eq 24, 3) := by decide +kernel
theorem dX6_quarrels_79 : decode cX6_quarrels 79 = .ok (.aload_n 0, 1) := by decide +kernel
theorem dX6_quarrels_80 : decode cX6_quarrels 80 = .ok (.getfield 29, 3) := by decide +kernel
theorem dX6_quarrels_83 : decode cX6_quarrels 83 = .ok (.iload 5, 2) := by decide +kernel
theorem dX6_quarrels_85 : decode cX6_quarrels 85 = .ok (.iaload, 1) := by decide +kernel
theorem dX6_quarrels_86 : decode cX6_quarrels 86 = .ok (.aload_n 0, 1) := by decide +kernel
theorem dX6_quarrels_87 : decode cX6_quarrels 87 = .ok (.getfield 32, 3) := by decide +kernel
theorem dX6_quarrels_90 : decode cX6_quarrels 90 = .ok (.iload 5, 2) := by decide +kernel
theorem dX6_quarrels_92 : decode cX6_quarrels 92 = .ok (.iaload, 1) := by decide +kernel
theorem dX6_quarrels_93 : decode cX6_quarrels 93 = .ok (.if_icmp .eq 7, 3) := by decide +kernel
theorem dX6_quarrels_96 : decode cX6_quarrels 96 = .ok (.iconst 1, 1) := by decide +kernel
theorem dX6_quarrels_97 : decode cX6_quarrels 97 = .ok (.goto 4, 3) := by decide +kernel
theorem dX6_quarrels_100 : decode cX6_quarrels 100 = .ok (.iconst 0, 1) := by decide +kernel
theorem dX6_quarrels_101 : decode cX6_quarrels 101 = .ok (.istore 4, 2) := by decide +kernel
theorem dX6_quarrels_103 : decode cX6_quarrels 103 = .ok (.iinc 5 1, 3) := by decide +kernel
theorem dX6_quarrels_106 : decode cX6_quarrels 106 = .ok (.goto (-46), 3) := by decide +kernel
theorem dX6_quarrels_109 : decode cX6_quarrels 109 = .ok (.iload 4, 2) := by decide +kernel
theorem dX6_quarrels_111 : decode cX6_quarrels 111 = .ok (.ireturn, 1) := by decide +kernel
theorem dX6_quarrel_0 : decode cX6_quarrel 0 = .ok (.iconst 0, 1) := by decide +kernel
theorem dX6_quarrel_1 : decode cX6_quarrel 1 = .ok (.istore_n 1, 1) := by decide +kernel
theorem dX6_quarrel_2 : decode cX6_quarrel 2 = .ok (.iconst 0, 1) := by decide +kernel
theorem dX6_quarrel_3 : decode cX6_quarrel 3 = .ok (.istore_n 2, 1) := by decide +kernel
theorem dX6_quarrel_4 : decode cX6_quarrel 4 = .ok (.iload_n 2, 1) := by decide +kernel
theorem dX6_quarrel_5 : decode cX6_quarrel 5 = .ok (.bipush 31, 2) := by decide +kernel
theorem dX6_quarrel_7 : decode cX6_quarrel 7 = .ok (.if_icmp .ge 27, 3) := by decide +kernel
theorem dX6_quarrel_10 : decode cX6_quarrel 10 = .ok (.iload_n 1, 1) := by decide +kernel
theorem dX6_quarrel_11 : decode cX6_quarrel 11 = .ok (.aload_n 0, 1) := by decide +kernel
theorem dX6_quarrel_12 : decode cX6_quarrel 12 = .ok (.iload_n 2, 1) := by decide +kernel
theorem dX6_quarrel_13 : decode cX6_quarrel 13 = .ok (.invokevirtual 157, 3) := by decide +kernel
theorem dX6_quarrel_16 : decode cX6_quarrel 16 = .ok (.ifCond .eq 9, 3) := by decide +kernel
theorem dX6_quarrel_19 : decode cX6_quarrel 19 = .ok (.iconst 1, 1) := by decide +kernel
theorem dX6_quarrel_20 : decode cX6_quarrel 20 = .ok (.iload_n 2, 1) := by decide +kernel
theorem dX6_quarrel_21 : decode cX6_quarrel 21 = .ok (.ishl, 1) := by decide +kernel
theorem dX6_quarrel_22 : decode cX6_quarrel 22 = .ok (.goto 4, 3) := by decide +kernel
theorem dX6_quarrel_25 : decode cX6_quarrel 25 = .ok (.iconst 0, 1) := by decide +kernel
theorem dX6_quarrel_26 : decode cX6_quarrel 26 = .ok (.ior, 1) := by decide +kernel
theorem dX6_quarrel_27 : decode cX6_quarrel 27 = .ok (.istore_n 1, 1) := by decide +kernel
theorem dX6_quarrel_28 : decode cX6_quarrel 28 = .ok (.iinc 2 1, 3) := by decide +kernel
theorem dX6_quarrel_31 : decode cX6_quarrel 31 = .ok (.goto (-27), 3) := by decide +kernel
theorem dX6_quarrel_34 : decode cX6_quarrel 34 = .ok (.iload_n 1, 1) := by decide +kernel
theorem dX6_quarrel_35 : decode cX6_quarrel 35 = .ok (.ireturn, 1) := by decide +kernel
theorem dX6_atRisk_0 : decode cX6_atRisk 0 = .ok (.aload_n 0, 1) := by decide +kernel
theorem dX6_atRisk_1 : decode cX6_atRisk 1 = .ok (.getfield 7, 3) := by decide +kernel
theorem dX6_atRisk_4 : decode cX6_atRisk 4 = .ok (.iconst 0, 1) := by decide +kernel
theorem dX6_atRisk_5 : decode cX6_atRisk 5 = .ok (.iaload, 1) := by decide +kernel
theorem dX6_atRisk_6 : decode cX6_atRisk 6 = .ok (.iconst 3, 1) := by decide +kernel
theorem dX6_atRisk_7 : decode cX6_atRisk 7 = .ok (.if_icmp .ne 6, 3) := by decide +kernel
theorem dX6_atRisk_10 : decode cX6_atRisk 10 = .ok (.ldc 63, 2) := by decide +kernel
theorem dX6_atRisk_12 : decode cX6_atRisk 12 = .ok (.ireturn, 1) := by decide +kernel
theorem dX6_atRisk_13 : decode cX6_atRisk 13 = .ok (.iconst 0, 1) := by decide +kernel
theorem dX6_atRisk_14 : decode cX6_atRisk 14 = .ok (.istore_n 1, 1) := by decide +kernel
theorem dX6_atRisk_15 : decode cX6_atRisk 15 = .ok (.iconst 0, 1) := by decide +kernel
theorem dX6_atRisk_16 : decode cX6_atRisk 16 = .ok (.istore_n 2, 1) := by decide +kernel
theorem dX6_atRisk_17 : decode cX6_atRisk 17 = .ok (.iload_n 2, 1) := by decide +kernel
theorem dX6_atRisk_18 : decode cX6_atRisk 18 = .ok (.bipush 31, 2) := by decide +kernel
theorem dX6_atRisk_20 : decode cX6_atRisk 20 = .ok (.if_icmp .ge 38, 3) := by decide +kernel
theorem dX6_atRisk_23 : decode cX6_atRisk 23 = .ok (.iload_n 1, 1) := by decide +kernel
theorem dX6_atRisk_24 : decode cX6_atRisk 24 = .ok (.aload_n 0, 1) := by decide +kernel
theorem dX6_atRisk_25 : decode cX6_atRisk 25 = .ok (.iconst 0, 1) := by decide +kernel
theorem dX6_atRisk_26 : decode cX6_atRisk 26 = .ok (.iload_n 2, 1) := by decide +kernel
theorem dX6_atRisk_27 : decode cX6_atRisk 27 = .ok (.iconst 0, 1) := by decide +kernel
theorem dX6_atRisk_28 : decode cX6_atRisk 28 = .ok (.invokevirtual 44, 3) := by decide +kernel
theorem dX6_atRisk_31 : decode cX6_atRisk 31 = .ok (.aload_n 0, 1) := by decide +kernel
theorem dX6_atRisk_32 : decode cX6_atRisk 32 = .ok (.getfield 7, 3) := by decide +kernel
theorem dX6_atRisk_35 : decode cX6_atRisk 35 = .ok (.bipush 70, 2) := by decide +kernel
theorem dX6_atRisk_37 : decode cX6_atRisk 37 = .ok (.iload_n 2, 1) := by decide +kernel
theorem dX6_atRisk_38 : decode cX6_atRisk 38 = .ok (.iadd, 1) := by decide +kernel
theorem dX6_atRisk_39 : decode cX6_atRisk 39 = .ok (.iaload, 1) := by decide +kernel
theorem dX6_atRisk_40 : decode cX6_atRisk 40 = .ok (.if_icmp .eq 9, 3) := by decide +kernel
theorem dX6_atRisk_43 : decode cX6_atRisk 43 = .ok (.iconst 1, 1) := by decide +kernel
theorem dX6_atRisk_44 : decode cX6_atRisk 44 = .ok (.iload_n 2, 1) := by decide +kernel
theorem dX6_atRisk_45 : decode cX6_atRisk 45 = .ok (.ishl, 1) := by decide +kernel
theorem dX6_atRisk_46 : decode cX6_atRisk 46 = .ok (.goto 4, 3) := by decide +kernel
theorem dX6_atRisk_49 : decode cX6_atRisk 49 = .ok (.iconst 0, 1) := by decide +kernel
theorem dX6_atRisk_50 : decode cX6_atRisk 50 = .ok (.ior, 1) := by decide +kernel
theorem dX6_atRisk_51 : decode cX6_atRisk 51 = .ok (.istore_n 1, 1) := by decide +kernel
theorem dX6_atRisk_52 : decode cX6_atRisk 52 = .ok (.iinc 2 1, 3) := by decide +kernel
theorem dX6_atRisk_55 : decode cX6_atRisk 55 = .ok (.goto (-38), 3) := by decide +kernel
theorem dX6_atRisk_58 : decode cX6_atRisk 58 = .ok (.iload_n 1, 1) := by decide +kernel
theorem dX6_atRisk_59 : decode cX6_atRisk 59 = .ok (.ireturn, 1) := by decide +kernel
theorem dX6_ones_0 : decode cX6_ones 0 = .ok (.iconst 0, 1) := by decide +kernel
theorem dX6_ones_1 : decode cX6_ones 1 = .ok (.istore_n 1, 1) := by decide +kernel
theorem dX6_ones_2 : decode cX6_ones 2 = .ok (.iconst 0, 1) := by decide +kernel
theorem dX6_ones_3 : decode cX6_ones 3 = .ok (.istore_n 2, 1) := by decide +kernel
theorem dX6_ones_4 : decode cX6_ones 4 = .ok (.iload_n 2, 1) := by decide +kernel
theorem dX6_ones_5 : decode cX6_ones 5 = .ok (.bipush 31, 2) := by decide +kernel
theorem dX6_ones_7 : decode cX6_ones 7 = .ok (.if_icmp .ge 17, 3) := by decide +kernel
theorem dX6_ones_10 : decode cX6_ones 10 = .ok (.iload_n 1, 1) := by decide +kernel
theorem dX6_ones_11 : decode cX6_ones 11 = .ok (.iload_n 0, 1) := by decide +kernel
theorem dX6_ones_12 : decode cX6_ones 12 = .ok (.iload_n 2, 1) := by decide +kernel
theorem dX6_ones_13 : decode cX6_ones 13 = .ok (.ishr, 1) := by decide +kernel
theorem dX6_ones_14 : decode cX6_ones 14 = .ok (.iconst 1, 1) := by decide +kernel
theorem dX6_ones_15 : decode cX6_ones 15 = .ok (.iand, 1) := by decide +kernel
theorem dX6_ones_16 : decode cX6_ones 16 = .ok (.iadd, 1) := by decide +kernel
theorem dX6_ones_17 : decode cX6_ones 17 = .ok (.istore_n 1, 1) := by decide +kernel
theorem dX6_ones_18 : decode cX6_ones 18 = .ok (.iinc 2 1, 3) := by decide +kernel
theorem dX6_ones_21 : decode cX6_ones 21 = .ok (.goto (-17), 3) := by decide +kernel
theorem dX6_ones_24 : decode cX6_ones 24 = .ok (.iload_n 1, 1) := by decide +kernel
theorem dX6_ones_25 : decode cX6_ones 25 = .ok (.ireturn, 1) := by decide +kernel
theorem dX6_walk_0 : decode cX6_walk 0 = .ok (.iload_n 1, 1) := by decide +kernel
theorem dX6_walk_1 : decode cX6_walk 1 = .ok (.iconst 0, 1) := by decide +kernel
theorem dX6_walk_2 : decode cX6_walk 2 = .ok (.iconst 2, 1) := by decide +kernel
theorem dX6_walk_3 : decode cX6_walk 3 = .ok (.invokestatic 107, 3) := by decide +kernel
theorem dX6_walk_6 : decode cX6_walk 6 = .ok (.ifCond .eq 12, 3) := by decide +kernel
theorem dX6_walk_9 : decode cX6_walk 9 = .ok (.iload_n 2, 1) := by decide +kernel
theorem dX6_walk_10 : decode cX6_walk 10 = .ok (.iconst 0, 1) := by decide +kernel
theorem dX6_walk_11 : decode cX6_walk 11 = .ok (.iconst 1, 1) := by decide +kernel
theorem dX6_walk_12 : decode cX6_walk 12 = .ok (.invokestatic 107, 3) := by decide +kernel
theorem dX6_walk_15 : decode cX6_walk 15 = .ok (.ifCond .ne 6, 3) := by decide +kernel
theorem dX6_walk_18 : decode cX6_walk 18 = .ok (.ldc 39, 2) := by decide +kernel
theorem dX6_walk_20 : decode cX6_walk 20 = .ok (.ireturn, 1) := by decide +kernel
theorem dX6_walk_21 : decode cX6_walk 21 = .ok (.aload_n 0, 1) := by decide +kernel
theorem dX6_walk_22 : decode cX6_walk 22 = .ok (.invokevirtual 64, 3) := by decide +kernel
theorem dX6_walk_25 : decode cX6_walk 25 = .ok (.aload_n 0, 1) := by decide +kernel
theorem dX6_walk_26 : decode cX6_walk 26 = .ok (.getfield 7, 3) := by decide +kernel
theorem dX6_walk_29 : decode cX6_walk 29 = .ok (.iconst 5, 1) := by decide +kernel
theorem dX6_walk_30 : decode cX6_walk 30 = .ok (.iconst 3, 1) := by decide +kernel
theorem dX6_walk_31 : decode cX6_walk 31 = .ok (.iload_n 1, 1) := by decide +kernel
theorem dX6_walk_32 : decode cX6_walk 32 = .ok (.imul, 1) := by decide +kernel
theorem dX6_walk_33 : decode cX6_walk 33 = .ok (.iadd, 1) := by decide +kernel
theorem dX6_walk_34 : decode cX6_walk 34 = .ok (.iconst 1, 1) := by decide +kernel
theorem dX6_walk_35 : decode cX6_walk 35 = .ok (.iastore, 1) := by decide +kernel
theorem dX6_walk_36 : decode cX6_walk 36 = .ok (.aload_n 0, 1) := by decide +kernel
theorem dX6_walk_37 : decode cX6_walk 37 = .ok (.getfield 7, 3) := by decide +kernel
theorem dX6_walk_40 : decode cX6_walk 40 = .ok (.iconst 5, 1) := by decide +kernel
theorem dX6_walk_41 : decode cX6_walk 41 = .ok (.iconst 3, 1) := by decide +kernel
theorem dX6_walk_42 : decode cX6_walk 42 = .ok (.iload_n 1, 1) := by decide +kernel
theorem dX6_walk_43 : decode cX6_walk 43 = .ok (.imul, 1) := by decide +kernel
theorem dX6_walk_44 : decode cX6_walk 44 = .ok (.iadd, 1) := by decide +kernel
theorem dX6_walk_45 : decode cX6_walk 45 = .ok (.iconst 1, 1) := by decide +kernel
theorem dX6_walk_46 : decode cX6_walk 46 = .ok (.iadd, 1) := by decide +kernel
theorem dX6_walk_47 : decode cX6_walk 47 = .ok (.iload_n 2, 1) := by decide +kernel
theorem dX6_walk_48 : decode cX6_walk 48 = .ok (.iastore, 1) := by decide +kernel
theorem dX6_walk_49 : decode cX6_walk 49 = .ok (.aload_n 0, 1) := by decide +kernel
theorem dX6_walk_50 : decode cX6_walk 50 = .ok (.getfield 7, 3) := by decide +kernel
theorem dX6_walk_53 : decode cX6_walk 53 = .ok (.iconst 5, 1) := by decide +kernel
theorem dX6_walk_54 : decode cX6_walk 54 = .ok (.iconst 3, 1) := by decide +kernel
theorem dX6_walk_55 : decode cX6_walk 55 = .ok (.iload_n 1, 1) := by decide +kernel
theorem dX6_walk_56 : decode cX6_walk 56 = .ok (.imul, 1) := by decide +kernel
theorem dX6_walk_57 : decode cX6_walk 57 = .ok (.iadd, 1) := by decide +kernel
theorem dX6_walk_58 : decode cX6_walk 58 = .ok (.iconst 2, 1) := by decide +kernel
theorem dX6_walk_59 : decode cX6_walk 59 = .ok (.iadd, 1) := by decide +kernel
theorem dX6_walk_60 : decode cX6_walk 60 = .ok (.iconst (-1), 1) := by decide +kernel
theorem dX6_walk_61 : decode cX6_walk 61 = .ok (.iastore, 1) := by decide +kernel
theorem dX6_walk_62 : decode cX6_walk 62 = .ok (.aload_n 0, 1) := by decide +kernel
theorem dX6_walk_63 : decode cX6_walk 63 = .ok (.aload_n 0, 1) := by decide +kernel
theorem dX6_walk_64 : decode cX6_walk 64 = .ok (.iload_n 2, 1) := by decide +kernel
theorem dX6_walk_65 : decode cX6_walk 65 = .ok (.invokevirtual 154, 3) := by decide +kernel
theorem dX6_walk_68 : decode cX6_walk 68 = .ok (.invokestatic 160, 3) := by decide +kernel
theorem dX6_walk_71 : decode cX6_walk 71 = .ok (.invokevirtual 75, 3) := by decide +kernel
theorem dX6_walk_74 : decode cX6_walk 74 = .ok (.ireturn, 1) := by decide +kernel
theorem dX6_step_0 : decode cX6_step 0 = .ok (.iload_n 1, 1) := by decide +kernel
theorem dX6_step_1 : decode cX6_step 1 = .ok (.iconst 0, 1) := by decide +kernel
theorem dX6_step_2 : decode cX6_step 2 = .ok (.iconst 2, 1) := by decide +kernel
theorem dX6_step_3 : decode cX6_step 3 = .ok (.invokestatic 107, 3) := by decide +kernel
theorem dX6_step_6 : decode cX6_step 6 = .ok (.ifCond .ne 6, 3) := by decide +kernel
theorem dX6_step_9 : decode cX6_step 9 = .ok (.ldc 39, 2) := by decide +kernel
theorem dX6_step_11 : decode cX6_step 11 = .ok (.ireturn, 1) := by decide +kernel
theorem dX6_step_12 : decode cX6_step 12 = .ok (.iconst 5, 1) := by decide +kernel
theorem dX6_step_13 : decode cX6_step 13 = .ok (.iconst 3, 1) := by decide +kernel
theorem dX6_step_14 : decode cX6_step 14 = .ok (.iload_n 1, 1) := by decide +kernel
theorem dX6_step_15 : decode cX6_step 15 = .ok (.imul, 1) := by decide +kernel
theorem dX6_step_16 : decode cX6_step 16 = .ok (.iadd, 1) := by decide +kernel
theorem dX6_step_17 : decode cX6_step 17 = .ok (.istore_n 2, 1) := by decide +kernel
theorem dX6_step_18 : decode cX6_step 18 = .ok (.aload_n 0, 1) := by decide +kernel
theorem dX6_step_19 : decode cX6_step 19 = .ok (.getfield 7, 3) := by decide +kernel
theorem dX6_step_22 : decode cX6_step 22 = .ok (.iload_n 2, 1) := by decide +kernel
theorem dX6_step_23 : decode cX6_step 23 = .ok (.iaload, 1) := by decide +kernel
theorem dX6_step_24 : decode cX6_step 24 = .ok (.ifCond .ne 6, 3) := by decide +kernel
theorem dX6_step_27 : decode cX6_step 27 = .ok (.ldc 63, 2) := by decide +kernel
theorem dX6_step_29 : decode cX6_step 29 = .ok (.ireturn, 1) := by decide +kernel
theorem dX6_step_30 : decode cX6_step 30 = .ok (.aload_n 0, 1) := by decide +kernel
theorem dX6_step_31 : decode cX6_step 31 = .ok (.invokevirtual 64, 3) := by decide +kernel
theorem dX6_step_34 : decode cX6_step 34 = .ok (.aload_n 0, 1) := by decide +kernel
theorem dX6_step_35 : decode cX6_step 35 = .ok (.getfield 7, 3) := by decide +kernel
theorem dX6_step_38 : decode cX6_step 38 = .ok (.iload_n 2, 1) := by decide +kernel
theorem dX6_step_39 : decode cX6_step 39 = .ok (.iconst 2, 1) := by decide +kernel
theorem dX6_step_40 : decode cX6_step 40 = .ok (.iadd, 1) := by decide +kernel
theorem dX6_step_41 : decode cX6_step 41 = .ok (.iaload, 1) := by decide +kernel
theorem dX6_step_42 : decode cX6_step 42 = .ok (.iconst 1, 1) := by decide +kernel
theorem dX6_step_43 : decode cX6_step 43 = .ok (.iadd, 1) := by decide +kernel
theorem dX6_step_44 : decode cX6_step 44 = .ok (.istore_n 3, 1) := by decide +kernel
theorem dX6_step_45 : decode cX6_step 45 = .ok (.iload_n 3, 1) := by decide +kernel
theorem dX6_step_46 : decode cX6_step 46 = .ok (.bipush 31, 2) := by decide +kernel
theorem dX6_step_48 : decode cX6_step 48 = .ok (.if_icmp .ge 25, 3) := by decide +kernel
theorem dX6_step_51 : decode cX6_step 51 = .ok (.aload_n 0, 1) := by decide +kernel
theorem dX6_step_52 : decode cX6_step 52 = .ok (.iload_n 3, 1) := by decide +kernel
theorem dX6_step_53 : decode cX6_step 53 = .ok (.aload_n 0, 1) := by decide +kernel
theorem dX6_step_54 : decode cX6_step 54 = .ok (.getfield 7, 3) := by decide +kernel
theorem dX6_step_57 : decode cX6_step 57 = .ok (.iload_n 2, 1) := by decide +kernel
theorem dX6_step_58 : decode cX6_step 58 = .ok (.iconst 1, 1) := by decide +kernel
theorem dX6_step_59 : decode cX6_step 59 = .ok (.iadd, 1) := by decide +kernel
theorem dX6_step_60 : decode cX6_step 60 = .ok (.iaload, 1) := by decide +kernel
theorem dX6_step_61 : decode cX6_step 61 = .ok (.invokevirtual 149, 3) := by decide +kernel
theorem dX6_step_64 : decode cX6_step 64 = .ok (.ifCond .ne 9, 3) := by decide +kernel
theorem dX6_step_67 : decode cX6_step 67 = .ok (.iinc 3 1, 3) := by decide +kernel
theorem dX6_step_70 : decode cX6_step 70 = .ok (.goto (-25), 3) := by decide +kernel
theorem dX6_step_73 : decode cX6_step 73 = .ok (.aload_n 0, 1) := by decide +kernel
theorem dX6_step_74 : decode cX6_step 74 = .ok (.getfield 7, 3) := by decide +kernel
theorem dX6_step_77 : decode cX6_step 77 = .ok (.iload_n 2, 1) := by decide +kernel
theorem dX6_step_78 : decode cX6_step 78 = .ok (.iload_n 3, 1) := by decide +kernel
theorem dX6_step_79 : decode cX6_step 79 = .ok (.bipush 31, 2) := by decide +kernel
theorem dX6_step_81 : decode cX6_step 81 = .ok (.if_icmp .ge 7, 3) := by decide +kernel
theorem dX6_step_84 : decode cX6_step 84 = .ok (.iconst 1, 1) := by decide +kernel
theorem dX6_step_85 : decode cX6_step 85 = .ok (.goto 4, 3) := by decide +kernel
theorem dX6_step_88 : decode cX6_step 88 = .ok (.iconst 0, 1) := by decide +kernel
theorem dX6_step_89 : decode cX6_step 89 = .ok (.iastore, 1) := by decide +kernel
theorem dX6_step_90 : decode cX6_step 90 = .ok (.aload_n 0, 1) := by decide +kernel
theorem dX6_step_91 : decode cX6_step 91 = .ok (.getfield 7, 3) := by decide +kernel
theorem dX6_step_94 : decode cX6_step 94 = .ok (.iload_n 2, 1) := by decide +kernel
theorem dX6_step_95 : decode cX6_step 95 = .ok (.iconst 2, 1) := by decide +kernel
theorem dX6_step_96 : decode cX6_step 96 = .ok (.iadd, 1) := by decide +kernel
theorem dX6_step_97 : decode cX6_step 97 = .ok (.iload_n 3, 1) := by decide +kernel
theorem dX6_step_98 : decode cX6_step 98 = .ok (.iastore, 1) := by decide +kernel
theorem dX6_step_99 : decode cX6_step 99 = .ok (.aload_n 0, 1) := by decide +kernel
theorem dX6_step_100 : decode cX6_step 100 = .ok (.iload_n 3, 1) := by decide +kernel
theorem dX6_step_101 : decode cX6_step 101 = .ok (.invokevirtual 75, 3) := by decide +kernel
theorem dX6_step_104 : decode cX6_step 104 = .ok (.ireturn, 1) := by decide +kernel
theorem dX6_known_0 : decode cX6_known 0 = .ok (.iconst 0, 1) := by decide +kernel
theorem dX6_known_1 : decode cX6_known 1 = .ok (.istore_n 1, 1) := by decide +kernel
theorem dX6_known_2 : decode cX6_known 2 = .ok (.iconst 0, 1) := by decide +kernel
theorem dX6_known_3 : decode cX6_known 3 = .ok (.istore_n 2, 1) := by decide +kernel
theorem dX6_known_4 : decode cX6_known 4 = .ok (.iload_n 2, 1) := by decide +kernel
theorem dX6_known_5 : decode cX6_known 5 = .ok (.bipush 31, 2) := by decide +kernel
theorem dX6_known_7 : decode cX6_known 7 = .ok (.if_icmp .ge 27, 3) := by decide +kernel
theorem dX6_known_10 : decode cX6_known 10 = .ok (.iload_n 1, 1) := by decide +kernel
theorem dX6_known_11 : decode cX6_known 11 = .ok (.aload_n 0, 1) := by decide +kernel
theorem dX6_known_12 : decode cX6_known 12 = .ok (.iconst 1, 1) := by decide +kernel
theorem dX6_known_13 : decode cX6_known 13 = .ok (.iload_n 2, 1) := by decide +kernel
theorem dX6_known_14 : decode cX6_known 14 = .ok (.iconst 0, 1) := by decide +kernel
theorem dX6_known_15 : decode cX6_known 15 = .ok (.invokevirtual 44, 3) := by decide +kernel
theorem dX6_known_18 : decode cX6_known 18 = .ok (.ifCond .le 7, 3) := by decide +kernel
theorem dX6_known_21 : decode cX6_known 21 = .ok (.iconst 1, 1) := by decide +kernel
theorem dX6_known_22 : decode cX6_known 22 = .ok (.goto 4, 3) := by decide +kernel
theorem dX6_known_25 : decode cX6_known 25 = .ok (.iconst 0, 1) := by decide +kernel
theorem dX6_known_26 : decode cX6_known 26 = .ok (.iadd, 1) := by decide +kernel
theorem dX6_known_27 : decode cX6_known 27 = .ok (.istore_n 1, 1) := by decide +kernel
theorem dX6_known_28 : decode cX6_known 28 = .ok (.iinc 2 1, 3) := by decide +kernel
theorem dX6_known_31 : decode cX6_known 31 = .ok (.goto (-27), 3) := by decide +kernel
theorem dX6_known_34 : decode cX6_known 34 = .ok (.iload_n 1, 1) := by decide +kernel
theorem dX6_known_35 : decode cX6_known 35 = .ok (.ireturn, 1) := by decide +kernel
theorem dX6_count_0 : decode cX6_count 0 = .ok (.iload_n 1, 1) := by decide +kernel
theorem dX6_count_1 : decode cX6_count 1 = .ok (.tableswitch 185 0 12 #[67, 74, 81, 103, 110, 110, 118, 123, 128, 141, 148, 175, 180], 67) := by decide +kernel
theorem dX6_count_68 : decode cX6_count 68 = .ok (.aload_n 0, 1) := by decide +kernel
theorem dX6_count_69 : decode cX6_count 69 = .ok (.getfield 7, 3) := by decide +kernel
theorem dX6_count_72 : decode cX6_count 72 = .ok (.iconst 0, 1) := by decide +kernel
theorem dX6_count_73 : decode cX6_count 73 = .ok (.iaload, 1) := by decide +kernel
theorem dX6_count_74 : decode cX6_count 74 = .ok (.ireturn, 1) := by decide +kernel
theorem dX6_count_75 : decode cX6_count 75 = .ok (.aload_n 0, 1) := by decide +kernel
theorem dX6_count_76 : decode cX6_count 76 = .ok (.getfield 7, 3) := by decide +kernel
theorem dX6_count_79 : decode cX6_count 79 = .ok (.iconst 1, 1) := by decide +kernel
theorem dX6_count_80 : decode cX6_count 80 = .ok (.iaload, 1) := by decide +kernel
theorem dX6_count_81 : decode cX6_count 81 = .ok (.ireturn, 1) := by decide +kernel
theorem dX6_count_82 : decode cX6_count 82 = .ok (.aload_n 0, 1) := by decide +kernel
theorem dX6_count_83 : decode cX6_count 83 = .ok (.getfield 7, 3) := by decide +kernel
theorem dX6_count_86 : decode cX6_count 86 = .ok (.iconst 0, 1) := by decide +kernel
theorem dX6_count_87 : decode cX6_count 87 = .ok (.iaload, 1) := by decide +kernel
theorem dX6_count_88 : decode cX6_count 88 = .ok (.iconst 1, 1) := by decide +kernel
theorem dX6_count_89 : decode cX6_count 89 = .ok (.if_icmp .ne 12, 3) := by decide +kernel
theorem dX6_count_92 : decode cX6_count 92 = .ok (.aload_n 0, 1) := by decide +kernel
theorem dX6_count_93 : decode cX6_count 93 = .ok (.getfield 7, 3) := by decide +kernel
theorem dX6_count_96 : decode cX6_count 96 = .ok (.iconst 2, 1) := by decide +kernel
theorem dX6_count_97 : decode cX6_count 97 = .ok (.iaload, 1) := by decide +kernel
theorem dX6_count_98 : decode cX6_count 98 = .ok (.goto 5, 3) := by decide +kernel
theorem dX6_count_101 : decode cX6_count 101 = .ok (.ldc 153, 2) := by decide +kernel
theorem dX6_count_103 : decode cX6_count 103 = .ok (.ireturn, 1) := by decide +kernel
theorem dX6_count_104 : decode cX6_count 104 = .ok (.aload_n 0, 1) := by decide +kernel
theorem dX6_count_105 : decode cX6_count 105 = .ok (.getfield 7, 3) := by decide +kernel
theorem dX6_count_108 : decode cX6_count 108 = .ok (.iconst 3, 1) := by decide +kernel
theorem dX6_count_109 : decode cX6_count 109 = .ok (.iaload, 1) := by decide +kernel
theorem dX6_count_110 : decode cX6_count 110 = .ok (.ireturn, 1) := by decide +kernel
theorem dX6_count_111 : decode cX6_count 111 = .ok (.aload_n 0, 1) := by decide +kernel
theorem dX6_count_112 : decode cX6_count 112 = .ok (.iload_n 1, 1) := by decide +kernel
theorem dX6_count_113 : decode cX6_count 113 = .ok (.iconst 4, 1) := by decide +kernel
theorem dX6_count_114 : decode cX6_count 114 = .ok (.isub, 1) := by decide +kernel
theorem dX6_count_115 : decode cX6_count 115 = .ok (.invokevirtual 71, 3) := by decide +kernel
theorem dX6_count_118 : decode cX6_count 118 = .ok (.ireturn, 1) := by decide +kernel
theorem dX6_count_119 : decode cX6_count 119 = .ok (.aload_n 0, 1) := by decide +kernel
theorem dX6_count_120 : decode cX6_count 120 = .ok (.invokevirtual 91, 3) := by decide +kernel
theorem dX6_count_123 : decode cX6_count 123 = .ok (.ireturn, 1) := by decide +kernel
theorem dX6_count_124 : decode cX6_count 124 = .ok (.aload_n 0, 1) := by decide +kernel
theorem dX6_count_125 : decode cX6_count 125 = .ok (.invokevirtual 163, 3) := by decide +kernel
theorem dX6_count_128 : decode cX6_count 128 = .ok (.ireturn, 1) := by decide +kernel
theorem dX6_count_129 : decode cX6_count 129 = .ok (.aload_n 0, 1) := by decide +kernel
theorem dX6_count_130 : decode cX6_count 130 = .ok (.invokevirtual 78, 3) := by decide +kernel
theorem dX6_count_133 : decode cX6_count 133 = .ok (.ifCond .eq 7, 3) := by decide +kernel
theorem dX6_count_136 : decode cX6_count 136 = .ok (.iconst 1, 1) := by decide +kernel
theorem dX6_count_137 : decode cX6_count 137 = .ok (.goto 4, 3) := by decide +kernel
theorem dX6_count_140 : decode cX6_count 140 = .ok (.iconst 0, 1) := by decide +kernel
theorem dX6_count_141 : decode cX6_count 141 = .ok (.ireturn, 1) := by decide +kernel
theorem dX6_count_142 : decode cX6_count 142 = .ok (.aload_n 0, 1) := by decide +kernel
theorem dX6_count_143 : decode cX6_count 143 = .ok (.getfield 7, 3) := by decide +kernel
theorem dX6_count_146 : decode cX6_count 146 = .ok (.iconst 4, 1) := by decide +kernel
theorem dX6_count_147 : decode cX6_count 147 = .ok (.iaload, 1) := by decide +kernel
theorem dX6_count_148 : decode cX6_count 148 = .ok (.ireturn, 1) := by decide +kernel
theorem dX6_count_149 : decode cX6_count 149 = .ok (.aload_n 0, 1) := by decide +kernel
theorem dX6_count_150 : decode cX6_count 150 = .ok (.getfield 7, 3) := by decide +kernel
theorem dX6_count_153 : decode cX6_count 153 = .ok (.iconst 5, 1) := by decide +kernel
theorem dX6_count_154 : decode cX6_count 154 = .ok (.iaload, 1) := by decide +kernel
theorem dX6_count_155 : decode cX6_count 155 = .ok (.aload_n 0, 1) := by decide +kernel
theorem dX6_count_156 : decode cX6_count 156 = .ok (.getfield 7, 3) := by decide +kernel
theorem dX6_count_159 : decode cX6_count 159 = .ok (.bipush 8, 2) := by decide +kernel
theorem dX6_count_161 : decode cX6_count 161 = .ok (.iaload, 1) := by decide +kernel
theorem dX6_count_162 : decode cX6_count 162 = .ok (.iconst 1, 1) := by decide +kernel
theorem dX6_count_163 : decode cX6_count 163 = .ok (.ishl, 1) := by decide +kernel
theorem dX6_count_164 : decode cX6_count 164 = .ok (.ior, 1) := by decide +kernel
theorem dX6_count_165 : decode cX6_count 165 = .ok (.aload_n 0, 1) := by decide +kernel
theorem dX6_count_166 : decode cX6_count 166 = .ok (.getfield 7, 3) := by decide +kernel
theorem dX6_count_169 : decode cX6_count 169 = .ok (.bipush 11, 2) := by decide +kernel
theorem dX6_count_171 : decode cX6_count 171 = .ok (.iaload, 1) := by decide +kernel
theorem dX6_count_172 : decode cX6_count 172 = .ok (.iconst 2, 1) := by decide +kernel
theorem dX6_count_173 : decode cX6_count 173 = .ok (.ishl, 1) := by decide +kernel
theorem dX6_count_174 : decode cX6_count 174 = .ok (.ior, 1) := by decide +kernel
theorem dX6_count_175 : decode cX6_count 175 = .ok (.ireturn, 1) := by decide +kernel
theorem dX6_count_176 : decode cX6_count 176 = .ok (.aload_n 0, 1) := by decide +kernel
theorem dX6_count_177 : decode cX6_count 177 = .ok (.getfield 40, 3) := by decide +kernel
theorem dX6_count_180 : decode cX6_count 180 = .ok (.ireturn, 1) := by decide +kernel
theorem dX6_count_181 : decode cX6_count 181 = .ok (.aload_n 0, 1) := by decide +kernel
theorem dX6_count_182 : decode cX6_count 182 = .ok (.getfield 166, 3) := by decide +kernel
theorem dX6_count_185 : decode cX6_count 185 = .ok (.ireturn, 1) := by decide +kernel
theorem dX6_count_186 : decode cX6_count 186 = .ok (.ldc 39, 2) := by decide +kernel
theorem dX6_count_188 : decode cX6_count 188 = .ok (.ireturn, 1) := by decide +kernel
theorem dX6_undo_0 : decode cX6_undo 0 = .ok (.aload_n 0, 1) := by decide +kernel
theorem dX6_undo_1 : decode cX6_undo 1 = .ok (.getfield 40, 3) := by decide +kernel
theorem dX6_undo_4 : decode cX6_undo 4 = .ok (.ifCond .ne 6, 3) := by decide +kernel
theorem dX6_undo_7 : decode cX6_undo 7 = .ok (.ldc 63, 2) := by decide +kernel
theorem dX6_undo_9 : decode cX6_undo 9 = .ok (.ireturn, 1) := by decide +kernel
theorem dX6_undo_10 : decode cX6_undo 10 = .ok (.aload_n 0, 1) := by decide +kernel
theorem dX6_undo_11 : decode cX6_undo 11 = .ok (.dup, 1) := by decide +kernel
theorem dX6_undo_12 : decode cX6_undo 12 = .ok (.getfield 40, 3) := by decide +kernel
theorem dX6_undo_15 : decode cX6_undo 15 = .ok (.iconst 1, 1) := by decide +kernel
theorem dX6_undo_16 : decode cX6_undo 16 = .ok (.isub, 1) := by decide +kernel
theorem dX6_undo_17 : decode cX6_undo 17 = .ok (.putfield 40, 3) := by decide +kernel
theorem dX6_undo_20 : decode cX6_undo 20 = .ok (.iconst 0, 1) := by decide +kernel
theorem dX6_undo_21 : decode cX6_undo 21 = .ok (.istore_n 1, 1) := by decide +kernel
theorem dX6_undo_22 : decode cX6_undo 22 = .ok (.iload_n 1, 1) := by decide +kernel
theorem dX6_undo_23 : decode cX6_undo 23 = .ok (.sipush 411, 3) := by decide +kernel
theorem dX6_undo_26 : decode cX6_undo 26 = .ok (.if_icmp .ge 30, 3) := by decide +kernel
theorem dX6_undo_29 : decode cX6_undo 29 = .ok (.aload_n 0, 1) := by decide +kernel
theorem dX6_undo_30 : decode cX6_undo 30 = .ok (.getfield 7, 3) := by decide +kernel
theorem dX6_undo_33 : decode cX6_undo 33 = .ok (.iload_n 1, 1) := by decide +kernel
theorem dX6_undo_34 : decode cX6_undo 34 = .ok (.aload_n 0, 1) := by decide +kernel
theorem dX6_undo_35 : decode cX6_undo 35 = .ok (.getfield 13, 3) := by decide +kernel
theorem dX6_undo_38 : decode cX6_undo 38 = .ok (.sipush 411, 3) := by decide +kernel
theorem dX6_undo_41 : decode cX6_undo 41 = .ok (.aload_n 0, 1) := by decide +kernel
theorem dX6_undo_42 : decode cX6_undo 42 = .ok (.getfield 40, 3) := by decide +kernel
theorem dX6_undo_45 : decode cX6_undo 45 = .ok (.imul, 1) := by decide +kernel
theorem dX6_undo_46 : decode cX6_undo 46 = .ok (.iload_n 1, 1) := by decide +kernel
theorem dX6_undo_47 : decode cX6_undo 47 = .ok (.iadd, 1) := by decide +kernel
theorem dX6_undo_48 : decode cX6_undo 48 = .ok (.iaload, 1) := by decide +kernel
theorem dX6_undo_49 : decode cX6_undo 49 = .ok (.iastore, 1) := by decide +kernel
theorem dX6_undo_50 : decode cX6_undo 50 = .ok (.iinc 1 1, 3) := by decide +kernel
theorem dX6_undo_53 : decode cX6_undo 53 = .ok (.goto (-31), 3) := by decide +kernel
theorem dX6_undo_56 : decode cX6_undo 56 = .ok (.aload_n 0, 1) := by decide +kernel
theorem dX6_undo_57 : decode cX6_undo 57 = .ok (.getfield 40, 3) := by decide +kernel
theorem dX6_undo_60 : decode cX6_undo 60 = .ok (.ireturn, 1) := by decide +kernel
theorem dX6_type_0 : decode cX6_type 0 = .ok (.iload_n 1, 1) := by decide +kernel
theorem dX6_type_1 : decode cX6_type 1 = .ok (.bipush 32, 2) := by decide +kernel
theorem dX6_type_3 : decode cX6_type 3 = .ok (.bipush 126, 2) := by decide +kernel
theorem dX6_type_5 : decode cX6_type 5 = .ok (.invokestatic 107, 3) := by decide +kernel
theorem dX6_type_8 : decode cX6_type 8 = .ok (.ifCond .ne 6, 3) := by decide +kernel
theorem dX6_type_11 : decode cX6_type 11 = .ok (.ldc 39, 2) := by decide +kernel
theorem dX6_type_13 : decode cX6_type 13 = .ok (.ireturn, 1) := by decide +kernel
theorem dX6_type_14 : decode cX6_type 14 = .ok (.aload_n 0, 1) := by decide +kernel
theorem dX6_type_15 : decode cX6_type 15 = .ok (.getfield 166, 3) := by decide +kernel
theorem dX6_type_18 : decode cX6_type 18 = .ok (.bipush 60, 2) := by decide +kernel
theorem dX6_type_20 : decode cX6_type 20 = .ok (.if_icmp .ne 6, 3) := by decide +kernel
theorem dX6_type_23 : decode cX6_type 23 = .ok (.ldc 95, 2) := by decide +kernel
theorem dX6_type_25 : decode cX6_type 25 = .ok (.ireturn, 1) := by decide +kernel
theorem dX6_type_26 : decode cX6_type 26 = .ok (.aload_n 0, 1) := by decide +kernel
theorem dX6_type_27 : decode cX6_type 27 = .ok (.getfield 22, 3) := by decide +kernel
theorem dX6_type_30 : decode cX6_type 30 = .ok (.aload_n 0, 1) := by decide +kernel
theorem dX6_type_31 : decode cX6_type 31 = .ok (.getfield 166, 3) := by decide +kernel
theorem dX6_type_34 : decode cX6_type 34 = .ok (.iload_n 1, 1) := by decide +kernel
theorem dX6_type_35 : decode cX6_type 35 = .ok (.i2c, 1) := by decide +kernel
theorem dX6_type_36 : decode cX6_type 36 = .ok (.castore, 1) := by decide +kernel
theorem dX6_type_37 : decode cX6_type 37 = .ok (.aload_n 0, 1) := by decide +kernel
theorem dX6_type_38 : decode cX6_type 38 = .ok (.dup, 1) := by decide +kernel
theorem dX6_type_39 : decode cX6_type 39 = .ok (.getfield 166, 3) := by decide +kernel
theorem dX6_type_42 : decode cX6_type 42 = .ok (.iconst 1, 1) := by decide +kernel
theorem dX6_type_43 : decode cX6_type 43 = .ok (.iadd, 1) := by decide +kernel
theorem dX6_type_44 : decode cX6_type 44 = .ok (.putfield 166, 3) := by decide +kernel
theorem dX6_type_47 : decode cX6_type 47 = .ok (.aload_n 0, 1) := by decide +kernel
theorem dX6_type_48 : decode cX6_type 48 = .ok (.getfield 166, 3) := by decide +kernel
theorem dX6_type_51 : decode cX6_type 51 = .ok (.ireturn, 1) := by decide +kernel
theorem dX6_clearText_0 : decode cX6_clearText 0 = .ok (.aload_n 0, 1) := by decide +kernel
theorem dX6_clearText_1 : decode cX6_clearText 1 = .ok (.getfield 166, 3) := by decide +kernel
theorem dX6_clearText_4 : decode cX6_clearText 4 = .ok (.istore_n 1, 1) := by decide +kernel
theorem dX6_clearText_5 : decode cX6_clearText 5 = .ok (.aload_n 0, 1) := by decide +kernel
theorem dX6_clearText_6 : decode cX6_clearText 6 = .ok (.iconst 0, 1) := by decide +kernel
theorem dX6_clearText_7 : decode cX6_clearText 7 = .ok (.putfield 166, 3) := by decide +kernel
theorem dX6_clearText_10 : decode cX6_clearText 10 = .ok (.iload_n 1, 1) := by decide +kernel
theorem dX6_clearText_11 : decode cX6_clearText 11 = .ok (.ireturn, 1) := by decide +kernel
theorem dX6_has_0 : decode cX6_has 0 = .ok (.aload_n 0, 1) := by decide +kernel
theorem dX6_has_1 : decode cX6_has 1 = .ok (.getfield 169, 3) := by decide +kernel
theorem dX6_has_4 : decode cX6_has 4 = .ok (.aload_n 0, 1) := by decide +kernel
theorem dX6_has_5 : decode cX6_has 5 = .ok (.getfield 166, 3) := by decide +kernel
theorem dX6_has_8 : decode cX6_has 8 = .ok (.if_icmp .ge 20, 3) := by decide +kernel
theorem dX6_has_11 : decode cX6_has 11 = .ok (.aload_n 0, 1) := by decide +kernel
theorem dX6_has_12 : decode cX6_has 12 = .ok (.getfield 22, 3) := by decide +kernel
theorem dX6_has_15 : decode cX6_has 15 = .ok (.aload_n 0, 1) := by decide +kernel
theorem dX6_has_16 : decode cX6_has 16 = .ok (.getfield 169, 3) := by decide +kernel
theorem dX6_has_19 : decode cX6_has 19 = .ok (.caload, 1) := by decide +kernel
theorem dX6_has_20 : decode cX6_has 20 = .ok (.iload_n 1, 1) := by decide +kernel
theorem dX6_has_21 : decode cX6_has 21 = .ok (.if_icmp .ne 7, 3) := by decide +kernel
theorem dX6_has_24 : decode cX6_has 24 = .ok (.iconst 1, 1) := by decide +kernel
theorem dX6_has_25 : decode cX6_has 25 = .ok (.goto 4, 3) := by decide +kernel
theorem dX6_has_28 : decode cX6_has 28 = .ok (.iconst 0, 1) := by decide +kernel
theorem dX6_has_29 : decode cX6_has 29 = .ok (.istore_n 2, 1) := by decide +kernel
theorem dX6_has_30 : decode cX6_has 30 = .ok (.aload_n 0, 1) := by decide +kernel
theorem dX6_has_31 : decode cX6_has 31 = .ok (.dup, 1) := by decide +kernel
theorem dX6_has_32 : decode cX6_has 32 = .ok (.getfield 169, 3) := by decide +kernel
theorem dX6_has_35 : decode cX6_has 35 = .ok (.iload_n 2, 1) := by decide +kernel
theorem dX6_has_36 : decode cX6_has 36 = .ok (.ifCond .eq 7, 3) := by decide +kernel
theorem dX6_has_39 : decode cX6_has 39 = .ok (.iconst 1, 1) := by decide +kernel
theorem dX6_has_40 : decode cX6_has 40 = .ok (.goto 4, 3) := by decide +kernel
theorem dX6_has_43 : decode cX6_has 43 = .ok (.iconst 0, 1) := by decide +kernel
theorem dX6_has_44 : decode cX6_has 44 = .ok (.iadd, 1) := by decide +kernel
theorem dX6_has_45 : decode cX6_has 45 = .ok (.putfield 169, 3) := by decide +kernel
theorem dX6_has_48 : decode cX6_has 48 = .ok (.iload_n 2, 1) := by decide +kernel
theorem dX6_has_49 : decode cX6_has 49 = .ok (.ireturn, 1) := by decide +kernel
theorem dX6_number_0 : decode cX6_number 0 = .ok (.aload_n 0, 1) := by decide +kernel
theorem dX6_number_1 : decode cX6_number 1 = .ok (.getfield 169, 3) := by decide +kernel
theorem dX6_number_4 : decode cX6_number 4 = .ok (.istore_n 2, 1) := by decide +kernel
theorem dX6_number_5 : decode cX6_number 5 = .ok (.aload_n 0, 1) := by decide +kernel
theorem dX6_number_6 : decode cX6_number 6 = .ok (.getfield 26, 3) := by decide +kernel
theorem dX6_number_9 : decode cX6_number 9 = .ok (.iload_n 1, 1) := by decide +kernel
theorem dX6_number_10 : decode cX6_number 10 = .ok (.iconst 0, 1) := by decide +kernel
theorem dX6_number_11 : decode cX6_number 11 = .ok (.iastore, 1) := by decide +kernel
theorem dX6_number_12 : decode cX6_number 12 = .ok (.aload_n 0, 1) := by decide +kernel
theorem dX6_number_13 : decode cX6_number 13 = .ok (.getfield 169, 3) := by decide +kernel
theorem dX6_number_16 : decode cX6_number 16 = .ok (.aload_n 0, 1) := by decide +kernel
theorem dX6_number_17 : decode cX6_number 17 = .ok (.getfield 166, 3) := by decide +kernel
theorem dX6_number_20 : decode cX6_number 20 = .ok (.if_icmp .ge 73, 3) := by decide +kernel
theorem dX6_number_23 : decode cX6_number 23 = .ok (.aload_n 0, 1) := by decide +kernel
theorem dX6_number_24 : decode cX6_number 24 = .ok (.getfield 169, 3) := by decide +kernel
theorem dX6_number_27 : decode cX6_number 27 = .ok (.iload_n 2, 1) := by decide +kernel
theorem dX6_number_28 : decode cX6_number 28 = .ok (.iconst 3, 1) := by decide +kernel
theorem dX6_number_29 : decode cX6_number 29 = .ok (.iadd, 1) := by decide +kernel
theorem dX6_number_30 : decode cX6_number 30 = .ok (.if_icmp .ge 63, 3) := by decide +kernel
theorem dX6_number_33 : decode cX6_number 33 = .ok (.aload_n 0, 1) := by decide +kernel
theorem dX6_number_34 : decode cX6_number 34 = .ok (.getfield 22, 3) := by decide +kernel
theorem dX6_number_37 : decode cX6_number 37 = .ok (.aload_n 0, 1) := by decide +kernel
theorem dX6_number_38 : decode cX6_number 38 = .ok (.getfield 169, 3) := by decide +kernel
theorem dX6_number_41 : decode cX6_number 41 = .ok (.caload, 1) := by decide +kernel
theorem dX6_number_42 : decode cX6_number 42 = .ok (.bipush 48, 2) := by decide +kernel
theorem dX6_number_44 : decode cX6_number 44 = .ok (.bipush 57, 2) := by decide +kernel
theorem dX6_number_46 : decode cX6_number 46 = .ok (.invokestatic 107, 3) := by decide +kernel
theorem dX6_number_49 : decode cX6_number 49 = .ok (.ifCond .eq 44, 3) := by decide +kernel
theorem dX6_number_52 : decode cX6_number 52 = .ok (.aload_n 0, 1) := by decide +kernel
theorem dX6_number_53 : decode cX6_number 53 = .ok (.getfield 26, 3) := by decide +kernel
theorem dX6_number_56 : decode cX6_number 56 = .ok (.iload_n 1, 1) := by decide +kernel
theorem dX6_number_57 : decode cX6_number 57 = .ok (.bipush 10, 2) := by decide +kernel
theorem dX6_number_59 : decode cX6_number 59 = .ok (.aload_n 0, 1) := by decide +kernel
theorem dX6_number_60 : decode cX6_number 60 = .ok (.getfield 26, 3) := by decide +kernel
theorem dX6_number_63 : decode cX6_number 63 = .ok (.iload_n 1, 1) := by decide +kernel
theorem dX6_number_64 : decode cX6_number 64 = .ok (.iaload, 1) := by decide +kernel
theorem dX6_number_65 : decode cX6_number 65 = .ok (.imul, 1) := by decide +kernel
theorem dX6_number_66 : decode cX6_number 66 = .ok (.aload_n 0, 1) := by decide +kernel
theorem dX6_number_67 : decode cX6_number 67 = .ok (.getfield 22, 3) := by decide +kernel
theorem dX6_number_70 : decode cX6_number 70 = .ok (.aload_n 0, 1) := by decide +kernel
theorem dX6_number_71 : decode cX6_number 71 = .ok (.getfield 169, 3) := by decide +kernel
theorem dX6_number_74 : decode cX6_number 74 = .ok (.caload, 1) := by decide +kernel
theorem dX6_number_75 : decode cX6_number 75 = .ok (.iadd, 1) := by decide +kernel
theorem dX6_number_76 : decode cX6_number 76 = .ok (.bipush 48, 2) := by decide +kernel
theorem dX6_number_78 : decode cX6_number 78 = .ok (.isub, 1) := by decide +kernel
theorem dX6_number_79 : decode cX6_number 79 = .ok (.iastore, 1) := by decide +kernel
theorem dX6_number_80 : decode cX6_number 80 = .ok (.aload_n 0, 1) := by decide +kernel
theorem dX6_number_81 : decode cX6_number 81 = .ok (.dup, 1) := by decide +kernel
theorem dX6_number_82 : decode cX6_number 82 = .ok (.getfield 169, 3) := by decide +kernel
theorem dX6_number_85 : decode cX6_number 85 = .ok (.iconst 1, 1) := by decide +kernel
theorem dX6_number_86 : decode cX6_number 86 = .ok (.iadd, 1) := by decide +kernel
theorem dX6_number_87 : decode cX6_number 87 = .ok (.putfield 169, 3) := by decide +kernel
theorem dX6_number_90 : decode cX6_number 90 = .ok (.goto (-78), 3) := by decide +kernel
theorem dX6_number_93 : decode cX6_number 93 = .ok (.aload_n 0, 1) := by decide +kernel
theorem dX6_number_94 : decode cX6_number 94 = .ok (.getfield 169, 3) := by decide +kernel
theorem dX6_number_97 : decode cX6_number 97 = .ok (.iload_n 2, 1) := by decide +kernel
theorem dX6_number_98 : decode cX6_number 98 = .ok (.if_icmp .le 7, 3) := by decide +kernel
theorem dX6_number_101 : decode cX6_number 101 = .ok (.iconst 1, 1) := by decide +kernel
theorem dX6_number_102 : decode cX6_number 102 = .ok (.goto 4, 3) := by decide +kernel
theorem dX6_number_105 : decode cX6_number 105 = .ok (.iconst 0, 1) := by decide +kernel
theorem dX6_number_106 : decode cX6_number 106 = .ok (.ireturn, 1) := by decide +kernel
theorem dX6_readsForm_0 : decode cX6_readsForm 0 = .ok (.iload_n 1, 1) := by decide +kernel
theorem dX6_readsForm_1 : decode cX6_readsForm 1 = .ok (.bipush 111, 2) := by decide +kernel
theorem dX6_readsForm_3 : decode cX6_readsForm 3 = .ok (.if_icmp .ne 7, 3) := by decide +kernel
theorem dX6_readsForm_6 : decode cX6_readsForm 6 = .ok (.iconst 4, 1) := by decide +kernel
theorem dX6_readsForm_7 : decode cX6_readsForm 7 = .ok (.goto 58, 3) := by decide +kernel
theorem dX6_readsForm_10 : decode cX6_readsForm 10 = .ok (.iload_n 1, 1) := by decide +kernel
theorem dX6_readsForm_11 : decode cX6_readsForm 11 = .ok (.bipush 110, 2) := by decide +kernel
theorem dX6_readsForm_13 : decode cX6_readsForm 13 = .ok (.if_icmp .ne 7, 3) := by decide +kernel
theorem dX6_readsForm_16 : decode cX6_readsForm 16 = .ok (.iconst 3, 1) := by decide +kernel
theorem dX6_readsForm_17 : decode cX6_readsForm 17 = .ok (.goto 48, 3) := by decide +kernel
theorem dX6_readsForm_20 : decode cX6_readsForm 20 = .ok (.iload_n 1, 1) := by decide +kernel
theorem dX6_readsForm_21 : decode cX6_readsForm 21 = .ok (.bipush 120, 2) := by decide +kernel
theorem dX6_readsForm_23 : decode cX6_readsForm 23 = .ok (.if_icmp .eq 21, 3) := by decide +kernel
theorem dX6_readsForm_26 : decode cX6_readsForm 26 = .ok (.iload_n 1, 1) := by decide +kernel
theorem dX6_readsForm_27 : decode cX6_readsForm 27 = .ok (.bipush 100, 2) := by decide +kernel
theorem dX6_readsForm_29 : decode cX6_readsForm 29 = .ok (.if_icmp .eq 15, 3) := by decide +kernel
theorem dX6_readsForm_32 : decode cX6_readsForm 32 = .ok (.iload_n 1, 1) := by decide +kernel
theorem dX6_readsForm_33 : decode cX6_readsForm 33 = .ok (.bipush 98, 2) := by decide +kernel
theorem dX6_readsForm_35 : decode cX6_readsForm 35 = .ok (.if_icmp .eq 9, 3) := by decide +kernel
theorem dX6_readsForm_38 : decode cX6_readsForm 38 = .ok (.iload_n 1, 1) := by decide +kernel
theorem dX6_readsForm_39 : decode cX6_readsForm 39 = .ok (.bipush 109, 2) := by decide +kernel
theorem dX6_readsForm_41 : decode cX6_readsForm 41 = .ok (.if_icmp .ne 7, 3) := by decide +kernel
theorem dX6_readsForm_44 : decode cX6_readsForm 44 = .ok (.iconst 1, 1) := by decide +kernel
theorem dX6_readsForm_45 : decode cX6_readsForm 45 = .ok (.goto 20, 3) := by decide +kernel
theorem dX6_readsForm_48 : decode cX6_readsForm 48 = .ok (.iload_n 1, 1) := by decide +kernel
theorem dX6_readsForm_49 : decode cX6_readsForm 49 = .ok (.bipush 116, 2) := by decide +kernel
theorem dX6_readsForm_51 : decode cX6_readsForm 51 = .ok (.if_icmp .eq 9, 3) := by decide +kernel
theorem dX6_readsForm_54 : decode cX6_readsForm 54 = .ok (.iload_n 1, 1) := by decide +kernel
theorem dX6_readsForm_55 : decode cX6_readsForm 55 = .ok (.bipush 107, 2) := by decide +kernel
theorem dX6_readsForm_57 : decode cX6_readsForm 57 = .ok (.if_icmp .ne 7, 3) := by decide +kernel
theorem dX6_readsForm_60 : decode cX6_readsForm 60 = .ok (.iconst 0, 1) := by decide +kernel
theorem dX6_readsForm_61 : decode cX6_readsForm 61 = .ok (.goto 4, 3) := by decide +kernel
theorem dX6_readsForm_64 : decode cX6_readsForm 64 = .ok (.iconst (-1), 1) := by decide +kernel
theorem dX6_readsForm_65 : decode cX6_readsForm 65 = .ok (.istore_n 2, 1) := by decide +kernel
theorem dX6_readsForm_66 : decode cX6_readsForm 66 = .ok (.iload_n 2, 1) := by decide +kernel
theorem dX6_readsForm_67 : decode cX6_readsForm 67 = .ok (.ifCond .lt 7, 3) := by decide +kernel
theorem dX6_readsForm_70 : decode cX6_readsForm 70 = .ok (.iconst 1, 1) := by decide +kernel
theorem dX6_readsForm_71 : decode cX6_readsForm 71 = .ok (.goto 4, 3) := by decide +kernel
theorem dX6_readsForm_74 : decode cX6_readsForm 74 = .ok (.iconst 0, 1) := by decide +kernel
theorem dX6_readsForm_75 : decode cX6_readsForm 75 = .ok (.istore_n 3, 1) := by decide +kernel
theorem dX6_readsForm_76 : decode cX6_readsForm 76 = .ok (.iconst 0, 1) := by decide +kernel
theorem dX6_readsForm_77 : decode cX6_readsForm 77 = .ok (.istore 4, 2) := by decide +kernel
theorem dX6_readsForm_79 : decode cX6_readsForm 79 = .ok (.iload 4, 2) := by decide +kernel
theorem dX6_readsForm_81 : decode cX6_readsForm 81 = .ok (.iload_n 2, 1) := by decide +kernel
theorem dX6_readsForm_82 : decode cX6_readsForm 82 = .ok (.if_icmp .ge 42, 3) := by decide +kernel
theorem dX6_readsForm_85 : decode cX6_readsForm 85 = .ok (.iload_n 3, 1) := by decide +kernel
theorem dX6_readsForm_86 : decode cX6_readsForm 86 = .ok (.ifCond .eq 38, 3) := by decide +kernel
theorem dX6_readsForm_89 : decode cX6_readsForm 89 = .ok (.iload 4, 2) := by decide +kernel
theorem dX6_readsForm_91 : decode cX6_readsForm 91 = .ok (.ifCond .eq 12, 3) := by decide +kernel
theorem dX6_readsForm_94 : decode cX6_readsForm 94 = .ok (.aload_n 0, 1) := by decide +kernel
theorem dX6_readsForm_95 : decode cX6_readsForm 95 = .ok (.bipush 44, 2) := by decide +kernel
theorem dX6_readsForm_97 : decode cX6_readsForm 97 = .ok (.invokevirtual 172, 3) := by decide +kernel
theorem dX6_readsForm_100 : decode cX6_readsForm 100 = .ok (.ifCond .eq 16, 3) := by decide +kernel
theorem dX6_readsForm_103 : decode cX6_readsForm 103 = .ok (.aload_n 0, 1) := by decide +kernel
theorem dX6_readsForm_104 : decode cX6_readsForm 104 = .ok (.iload 4, 2) := by decide +kernel
theorem dX6_readsForm_106 : decode cX6_readsForm 106 = .ok (.invokevirtual 176, 3) := by decide +kernel
theorem dX6_readsForm_109 : decode cX6_readsForm 109 = .ok (.ifCond .eq 7, 3) := by decide +kernel
theorem dX6_readsForm_112 : decode cX6_readsForm 112 = .ok (.iconst 1, 1) := by decide +kernel
theorem dX6_readsForm_113 : decode cX6_readsForm 113 = .ok (.goto 4, 3) := by decide +kernel
theorem dX6_readsForm_116 : decode cX6_readsForm 116 = .ok (.iconst 0, 1) := by decide +kernel
theorem dX6_readsForm_117 : decode cX6_readsForm 117 = .ok (.istore_n 3, 1) := by decide +kernel
theorem dX6_readsForm_118 : decode cX6_readsForm 118 = .ok (.iinc 4 1, 3) := by decide +kernel
theorem dX6_readsForm_121 : decode cX6_readsForm 121 = .ok (.goto (-42), 3) := by decide +kernel
theorem dX6_readsForm_124 : decode cX6_readsForm 124 = .ok (.iload_n 3, 1) := by decide +kernel
theorem dX6_readsForm_125 : decode cX6_readsForm 125 = .ok (.ifCond .eq 16, 3) := by decide +kernel
theorem dX6_readsForm_128 : decode cX6_readsForm 128 = .ok (.aload_n 0, 1) := by decide +kernel
theorem dX6_readsForm_129 : decode cX6_readsForm 129 = .ok (.bipush 59, 2) := by decide +kernel
theorem dX6_readsForm_131 : decode cX6_readsForm 131 = .ok (.invokevirtual 172, 3) := by decide +kernel
theorem dX6_readsForm_134 : decode cX6_readsForm 134 = .ok (.ifCond .eq 7, 3) := by decide +kernel
theorem dX6_readsForm_137 : decode cX6_readsForm 137 = .ok (.iconst 1, 1) := by decide +kernel
theorem dX6_readsForm_138 : decode cX6_readsForm 138 = .ok (.goto 4, 3) := by decide +kernel
theorem dX6_readsForm_141 : decode cX6_readsForm 141 = .ok (.iconst 0, 1) := by decide +kernel
theorem dX6_readsForm_142 : decode cX6_readsForm 142 = .ok (.ireturn, 1) := by decide +kernel
theorem dX6_does_0 : decode cX6_does 0 = .ok (.iload_n 1, 1) := by decide +kernel
theorem dX6_does_1 : decode cX6_does 1 = .ok (.tableswitch 208 98 120 #[181, 208, 170, 208, 208, 208, 208, 208, 208, 208, 208, 192, 136, 107, 208, 208, 208, 208, 203, 208, 208, 208, 159], 107) := by decide +kernel
theorem dX6_does_108 : decode cX6_does 108 = .ok (.aload_n 0, 1) := by decide +kernel
theorem dX6_does_109 : decode cX6_does 109 = .ok (.aload_n 0, 1) := by decide +kernel
theorem dX6_does_110 : decode cX6_does 110 = .ok (.getfield 26, 3) := by decide +kernel
theorem dX6_does_113 : decode cX6_does 113 = .ok (.iconst 0, 1) := by decide +kernel
theorem dX6_does_114 : decode cX6_does 114 = .ok (.iaload, 1) := by decide +kernel
theorem dX6_does_115 : decode cX6_does 115 = .ok (.aload_n 0, 1) := by decide +kernel
theorem dX6_does_116 : decode cX6_does 116 = .ok (.getfield 26, 3) := by decide +kernel
theorem dX6_does_119 : decode cX6_does 119 = .ok (.iconst 1, 1) := by decide +kernel
theorem dX6_does_120 : decode cX6_does 120 = .ok (.iaload, 1) := by decide +kernel
theorem dX6_does_121 : decode cX6_does 121 = .ok (.aload_n 0, 1) := by decide +kernel
theorem dX6_does_122 : decode cX6_does 122 = .ok (.getfield 26, 3) := by decide +kernel
theorem dX6_does_125 : decode cX6_does 125 = .ok (.iconst 2, 1) := by decide +kernel
theorem dX6_does_126 : decode cX6_does 126 = .ok (.iaload, 1) := by decide +kernel
theorem dX6_does_127 : decode cX6_does 127 = .ok (.aload_n 0, 1) := by decide +kernel
theorem dX6_does_128 : decode cX6_does 128 = .ok (.getfield 26, 3) := by decide +kernel
theorem dX6_does_131 : decode cX6_does 131 = .ok (.iconst 3, 1) := by decide +kernel
theorem dX6_does_132 : decode cX6_does 132 = .ok (.iaload, 1) := by decide +kernel
theorem dX6_does_133 : decode cX6_does 133 = .ok (.invokevirtual 118, 3) := by decide +kernel
theorem dX6_does_136 : decode cX6_does 136 = .ok (.ireturn, 1) := by decide +kernel
theorem dX6_does_137 : decode cX6_does 137 = .ok (.aload_n 0, 1) := by decide +kernel
theorem dX6_does_138 : decode cX6_does 138 = .ok (.aload_n 0, 1) := by decide +kernel
theorem dX6_does_139 : decode cX6_does 139 = .ok (.getfield 26, 3) := by decide +kernel
theorem dX6_does_142 : decode cX6_does 142 = .ok (.iconst 0, 1) := by decide +kernel
theorem dX6_does_143 : decode cX6_does 143 = .ok (.iaload, 1) := by decide +kernel
theorem dX6_does_144 : decode cX6_does 144 = .ok (.aload_n 0, 1) := by decide +kernel
theorem dX6_does_145 : decode cX6_does 145 = .ok (.getfield 26, 3) := by decide +kernel
theorem dX6_does_148 : decode cX6_does 148 = .ok (.iconst 1, 1) := by decide +kernel
theorem dX6_does_149 : decode cX6_does 149 = .ok (.iaload, 1) := by decide +kernel
theorem dX6_does_150 : decode cX6_does 150 = .ok (.aload_n 0, 1) := by decide +kernel
theorem dX6_does_151 : decode cX6_does 151 = .ok (.getfield 26, 3) := by decide +kernel
theorem dX6_does_154 : decode cX6_does 154 = .ok (.iconst 2, 1) := by decide +kernel
theorem dX6_does_155 : decode cX6_does 155 = .ok (.iaload, 1) := by decide +kernel
theorem dX6_does_156 : decode cX6_does 156 = .ok (.invokevirtual 122, 3) := by decide +kernel
theorem dX6_does_159 : decode cX6_does 159 = .ok (.ireturn, 1) := by decide +kernel
theorem dX6_does_160 : decode cX6_does 160 = .ok (.aload_n 0, 1) := by decide +kernel
theorem dX6_does_161 : decode cX6_does 161 = .ok (.aload_n 0, 1) := by decide +kernel
theorem dX6_does_162 : decode cX6_does 162 = .ok (.getfield 26, 3) := by decide +kernel
theorem dX6_does_165 : decode cX6_does 165 = .ok (.iconst 0, 1) := by decide +kernel
theorem dX6_does_166 : decode cX6_does 166 = .ok (.iaload, 1) := by decide +kernel
theorem dX6_does_167 : decode cX6_does 167 = .ok (.invokevirtual 125, 3) := by decide +kernel
theorem dX6_does_170 : decode cX6_does 170 = .ok (.ireturn, 1) := by decide +kernel
theorem dX6_does_171 : decode cX6_does 171 = .ok (.aload_n 0, 1) := by decide +kernel
theorem dX6_does_172 : decode cX6_does 172 = .ok (.aload_n 0, 1) := by decide +kernel
theorem dX6_does_173 : decode cX6_does 173 = .ok (.getfield 26, 3) := by decide +kernel
theorem dX6_does_176 : decode cX6_does 176 = .ok (.iconst 0, 1) := by decide +kernel
theorem dX6_does_177 : decode cX6_does 177 = .ok (.iaload, 1) := by decide +kernel
theorem dX6_does_178 : decode cX6_does 178 = .ok (.invokevirtual 131, 3) := by decide +kernel
theorem dX6_does_181 : decode cX6_does 181 = .ok (.ireturn, 1) := by decide +kernel
theorem dX6_does_182 : decode cX6_does 182 = .ok (.aload_n 0, 1) := by decide +kernel
theorem dX6_does_183 : decode cX6_does 183 = .ok (.aload_n 0, 1) := by decide +kernel
theorem dX6_does_184 : decode cX6_does 184 = .ok (.getfield 26, 3) := by decide +kernel
theorem dX6_does_187 : decode cX6_does 187 = .ok (.iconst 0, 1) := by decide +kernel
theorem dX6_does_188 : decode cX6_does 188 = .ok (.iaload, 1) := by decide +kernel
theorem dX6_does_189 : decode cX6_does 189 = .ok (.invokevirtual 137, 3) := by decide +kernel
theorem dX6_does_192 : decode cX6_does 192 = .ok (.ireturn, 1) := by decide +kernel
theorem dX6_does_193 : decode cX6_does 193 = .ok (.aload_n 0, 1) := by decide +kernel
theorem dX6_does_194 : decode cX6_does 194 = .ok (.aload_n 0, 1) := by decide +kernel
theorem dX6_does_195 : decode cX6_does 195 = .ok (.getfield 26, 3) := by decide +kernel
theorem dX6_does_198 : decode cX6_does 198 = .ok (.iconst 0, 1) := by decide +kernel
theorem dX6_does_199 : decode cX6_does 199 = .ok (.iaload, 1) := by decide +kernel
theorem dX6_does_200 : decode cX6_does 200 = .ok (.invokevirtual 143, 3) := by decide +kernel
theorem dX6_does_203 : decode cX6_does 203 = .ok (.ireturn, 1) := by decide +kernel
theorem dX6_does_204 : decode cX6_does 204 = .ok (.aload_n 0, 1) := by decide +kernel
theorem dX6_does_205 : decode cX6_does 205 = .ok (.invokevirtual 82, 3) := by decide +kernel
theorem dX6_does_208 : decode cX6_does 208 = .ok (.ireturn, 1) := by decide +kernel
theorem dX6_does_209 : decode cX6_does 209 = .ok (.aload_n 0, 1) := by decide +kernel
theorem dX6_does_210 : decode cX6_does 210 = .ok (.invokevirtual 88, 3) := by decide +kernel
theorem dX6_does_213 : decode cX6_does 213 = .ok (.ireturn, 1) := by decide +kernel
theorem dX6_doesNext_0 : decode cX6_doesNext 0 = .ok (.aload_n 0, 1) := by decide +kernel
theorem dX6_doesNext_1 : decode cX6_doesNext 1 = .ok (.getfield 22, 3) := by decide +kernel
theorem dX6_doesNext_4 : decode cX6_doesNext 4 = .ok (.aload_n 0, 1) := by decide +kernel
theorem dX6_doesNext_5 : decode cX6_doesNext 5 = .ok (.getfield 169, 3) := by decide +kernel
theorem dX6_doesNext_8 : decode cX6_doesNext 8 = .ok (.caload, 1) := by decide +kernel
theorem dX6_doesNext_9 : decode cX6_doesNext 9 = .ok (.istore_n 1, 1) := by decide +kernel
theorem dX6_doesNext_10 : decode cX6_doesNext 10 = .ok (.aload_n 0, 1) := by decide +kernel
theorem dX6_doesNext_11 : decode cX6_doesNext 11 = .ok (.dup, 1) := by decide +kernel
theorem dX6_doesNext_12 : decode cX6_doesNext 12 = .ok (.getfield 169, 3) := by decide +kernel
theorem dX6_doesNext_15 : decode cX6_doesNext 15 = .ok (.iconst 1, 1) := by decide +kernel
theorem dX6_doesNext_16 : decode cX6_doesNext 16 = .ok (.iadd, 1) := by decide +kernel
theorem dX6_doesNext_17 : decode cX6_doesNext 17 = .ok (.putfield 169, 3) := by decide +kernel
theorem dX6_doesNext_20 : decode cX6_doesNext 20 = .ok (.aload_n 0, 1) := by decide +kernel
theorem dX6_doesNext_21 : decode cX6_doesNext 21 = .ok (.iload_n 1, 1) := by decide +kernel
theorem dX6_doesNext_22 : decode cX6_doesNext 22 = .ok (.invokevirtual 179, 3) := by decide +kernel
theorem dX6_doesNext_25 : decode cX6_doesNext 25 = .ok (.ifCond .ne 5, 3) := by decide +kernel
theorem dX6_doesNext_28 : decode cX6_doesNext 28 = .ok (.iconst 1, 1) := by decide +kernel
theorem dX6_doesNext_29 : decode cX6_doesNext 29 = .ok (.ireturn, 1) := by decide +kernel
theorem dX6_doesNext_30 : decode cX6_doesNext 30 = .ok (.aload_n 0, 1) := by decide +kernel
theorem dX6_doesNext_31 : decode cX6_doesNext 31 = .ok (.iload_n 1, 1) := by decide +kernel
theorem dX6_doesNext_32 : decode cX6_doesNext 32 = .ok (.invokevirtual 182, 3) := by decide +kernel
theorem dX6_doesNext_35 : decode cX6_doesNext 35 = .ok (.istore_n 2, 1) := by decide +kernel
theorem dX6_doesNext_36 : decode cX6_doesNext 36 = .ok (.iload_n 2, 1) := by decide +kernel
theorem dX6_doesNext_37 : decode cX6_doesNext 37 = .ok (.ldc 39, 2) := by decide +kernel
theorem dX6_doesNext_39 : decode cX6_doesNext 39 = .ok (.if_icmp .le 7, 3) := by decide +kernel
theorem dX6_doesNext_42 : decode cX6_doesNext 42 = .ok (.iconst 0, 1) := by decide +kernel
theorem dX6_doesNext_43 : decode cX6_doesNext 43 = .ok (.goto 14, 3) := by decide +kernel
theorem dX6_doesNext_46 : decode cX6_doesNext 46 = .ok (.iload_n 2, 1) := by decide +kernel
theorem dX6_doesNext_47 : decode cX6_doesNext 47 = .ok (.ldc 39, 2) := by decide +kernel
theorem dX6_doesNext_49 : decode cX6_doesNext 49 = .ok (.if_icmp .ne 7, 3) := by decide +kernel
theorem dX6_doesNext_52 : decode cX6_doesNext 52 = .ok (.iconst 2, 1) := by decide +kernel
theorem dX6_doesNext_53 : decode cX6_doesNext 53 = .ok (.goto 4, 3) := by decide +kernel
theorem dX6_doesNext_56 : decode cX6_doesNext 56 = .ok (.iconst 3, 1) := by decide +kernel
theorem dX6_doesNext_57 : decode cX6_doesNext 57 = .ok (.ireturn, 1) := by decide +kernel
theorem dX6_faulty_0 : decode cX6_faulty 0 = .ok (.iconst 0, 1) := by decide +kernel
theorem dX6_faulty_1 : decode cX6_faulty 1 = .ok (.istore_n 1, 1) := by decide +kernel
theorem dX6_faulty_2 : decode cX6_faulty 2 = .ok (.iload_n 1, 1) := by decide +kernel
theorem dX6_faulty_3 : decode cX6_faulty 3 = .ok (.sipush 411, 3) := by decide +kernel
theorem dX6_faulty_6 : decode cX6_faulty 6 = .ok (.if_icmp .ge 21, 3) := by decide +kernel
theorem dX6_faulty_9 : decode cX6_faulty 9 = .ok (.aload_n 0, 1) := by decide +kernel
theorem dX6_faulty_10 : decode cX6_faulty 10 = .ok (.getfield 19, 3) := by decide +kernel
theorem dX6_faulty_13 : decode cX6_faulty 13 = .ok (.iload_n 1, 1) := by decide +kernel
theorem dX6_faulty_14 : decode cX6_faulty 14 = .ok (.aload_n 0, 1) := by decide +kernel
theorem dX6_faulty_15 : decode cX6_faulty 15 = .ok (.getfield 7, 3) := by decide +kernel
theorem dX6_faulty_18 : decode cX6_faulty 18 = .ok (.iload_n 1, 1) := by decide +kernel
theorem dX6_faulty_19 : decode cX6_faulty 19 = .ok (.iaload, 1) := by decide +kernel
theorem dX6_faulty_20 : decode cX6_faulty 20 = .ok (.iastore, 1) := by decide +kernel
theorem dX6_faulty_21 : decode cX6_faulty 21 = .ok (.iinc 1 1, 3) := by decide +kernel
theorem dX6_faulty_24 : decode cX6_faulty 24 = .ok (.goto (-22), 3) := by decide +kernel
theorem dX6_faulty_27 : decode cX6_faulty 27 = .ok (.ldc 153, 2) := by decide +kernel
theorem dX6_faulty_29 : decode cX6_faulty 29 = .ok (.istore_n 1, 1) := by decide +kernel
theorem dX6_faulty_30 : decode cX6_faulty 30 = .ok (.aload_n 0, 1) := by decide +kernel
theorem dX6_faulty_31 : decode cX6_faulty 31 = .ok (.iconst 0, 1) := by decide +kernel
theorem dX6_faulty_32 : decode cX6_faulty 32 = .ok (.putfield 169, 3) := by decide +kernel
theorem dX6_faulty_35 : decode cX6_faulty 35 = .ok (.aload_n 0, 1) := by decide +kernel
theorem dX6_faulty_36 : decode cX6_faulty 36 = .ok (.getfield 169, 3) := by decide +kernel
theorem dX6_faulty_39 : decode cX6_faulty 39 = .ok (.aload_n 0, 1) := by decide +kernel
theorem dX6_faulty_40 : decode cX6_faulty 40 = .ok (.getfield 166, 3) := by decide +kernel
theorem dX6_faulty_43 : decode cX6_faulty 43 = .ok (.if_icmp .ge 38, 3) := by decide +kernel
theorem dX6_faulty_46 : decode cX6_faulty 46 = .ok (.iload_n 1, 1) := by decide +kernel
theorem dX6_faulty_47 : decode cX6_faulty 47 = .ok (.ldc 153, 2) := by decide +kernel
theorem dX6_faulty_49 : decode cX6_faulty 49 = .ok (.if_icmp .ne 32, 3) := by decide +kernel
theorem dX6_faulty_52 : decode cX6_faulty 52 = .ok (.aload_n 0, 1) := by decide +kernel
theorem dX6_faulty_53 : decode cX6_faulty 53 = .ok (.getfield 169, 3) := by decide +kernel
theorem dX6_faulty_56 : decode cX6_faulty 56 = .ok (.istore_n 2, 1) := by decide +kernel
theorem dX6_faulty_57 : decode cX6_faulty 57 = .ok (.aload_n 0, 1) := by decide +kernel
theorem dX6_faulty_58 : decode cX6_faulty 58 = .ok (.aload_n 0, 1) := by decide +kernel
theorem dX6_faulty_59 : decode cX6_faulty 59 = .ok (.invokevirtual 186, 3) := by decide +kernel
theorem dX6_faulty_62 : decode cX6_faulty 62 = .ok (.putfield 189, 3) := by decide +kernel
theorem dX6_faulty_65 : decode cX6_faulty 65 = .ok (.aload_n 0, 1) := by decide +kernel
theorem dX6_faulty_66 : decode cX6_faulty 66 = .ok (.getfield 189, 3) := by decide +kernel
theorem dX6_faulty_69 : decode cX6_faulty 69 = .ok (.ifCond .le 7, 3) := by decide +kernel
theorem dX6_faulty_72 : decode cX6_faulty 72 = .ok (.iload_n 2, 1) := by decide +kernel
theorem dX6_faulty_73 : decode cX6_faulty 73 = .ok (.goto 4, 3) := by decide +kernel
theorem dX6_faulty_76 : decode cX6_faulty 76 = .ok (.iload_n 1, 1) := by decide +kernel
theorem dX6_faulty_77 : decode cX6_faulty 77 = .ok (.istore_n 1, 1) := by decide +kernel
theorem dX6_faulty_78 : decode cX6_faulty 78 = .ok (.goto (-43), 3) := by decide +kernel
theorem dX6_faulty_81 : decode cX6_faulty 81 = .ok (.aload_n 0, 1) := by decide +kernel
theorem dX6_faulty_82 : decode cX6_faulty 82 = .ok (.invokevirtual 192, 3) := by decide +kernel
theorem dX6_faulty_85 : decode cX6_faulty 85 = .ok (.iload_n 1, 1) := by decide +kernel
theorem dX6_faulty_86 : decode cX6_faulty 86 = .ok (.ireturn, 1) := by decide +kernel
theorem dX6_fault_0 : decode cX6_fault 0 = .ok (.iload_n 1, 1) := by decide +kernel
theorem dX6_fault_1 : decode cX6_fault 1 = .ok (.iconst 0, 1) := by decide +kernel
theorem dX6_fault_2 : decode cX6_fault 2 = .ok (.iconst 1, 1) := by decide +kernel
theorem dX6_fault_3 : decode cX6_fault 3 = .ok (.invokestatic 107, 3) := by decide +kernel
theorem dX6_fault_6 : decode cX6_fault 6 = .ok (.ifCond .ne 6, 3) := by decide +kernel
theorem dX6_fault_9 : decode cX6_fault 9 = .ok (.ldc 39, 2) := by decide +kernel
theorem dX6_fault_11 : decode cX6_fault 11 = .ok (.ireturn, 1) := by decide +kernel
theorem dX6_fault_12 : decode cX6_fault 12 = .ok (.aload_n 0, 1) := by decide +kernel
theorem dX6_fault_13 : decode cX6_fault 13 = .ok (.invokevirtual 195, 3) := by decide +kernel
theorem dX6_fault_16 : decode cX6_fault 16 = .ok (.istore_n 2, 1) := by decide +kernel
theorem dX6_fault_17 : decode cX6_fault 17 = .ok (.iload_n 2, 1) := by decide +kernel
theorem dX6_fault_18 : decode cX6_fault 18 = .ok (.ldc 153, 2) := by decide +kernel
theorem dX6_fault_20 : decode cX6_fault 20 = .ok (.if_icmp .eq 7, 3) := by decide +kernel
theorem dX6_fault_23 : decode cX6_fault 23 = .ok (.iload_n 1, 1) := by decide +kernel
theorem dX6_fault_24 : decode cX6_fault 24 = .ok (.ifCond .ne 7, 3) := by decide +kernel
theorem dX6_fault_27 : decode cX6_fault 27 = .ok (.iload_n 2, 1) := by decide +kernel
theorem dX6_fault_28 : decode cX6_fault 28 = .ok (.goto 7, 3) := by decide +kernel
theorem dX6_fault_31 : decode cX6_fault 31 = .ok (.aload_n 0, 1) := by decide +kernel
theorem dX6_fault_32 : decode cX6_fault 32 = .ok (.getfield 189, 3) := by decide +kernel
theorem dX6_fault_35 : decode cX6_fault 35 = .ok (.ireturn, 1) := by decide +kernel
theorem dX6_play_0 : decode cX6_play 0 = .ok (.aload_n 0, 1) := by decide +kernel
theorem dX6_play_1 : decode cX6_play 1 = .ok (.invokevirtual 195, 3) := by decide +kernel
theorem dX6_play_4 : decode cX6_play 4 = .ok (.ldc 153, 2) := by decide +kernel
theorem dX6_play_6 : decode cX6_play 6 = .ok (.if_icmp .eq 6, 3) := by decide +kernel
theorem dX6_play_9 : decode cX6_play 9 = .ok (.ldc 63, 2) := by decide +kernel
theorem dX6_play_11 : decode cX6_play 11 = .ok (.ireturn, 1) := by decide +kernel
theorem dX6_play_12 : decode cX6_play 12 = .ok (.aload_n 0, 1) := by decide +kernel
theorem dX6_play_13 : decode cX6_play 13 = .ok (.invokevirtual 64, 3) := by decide +kernel
theorem dX6_play_16 : decode cX6_play 16 = .ok (.iconst 0, 1) := by decide +kernel
theorem dX6_play_17 : decode cX6_play 17 = .ok (.istore_n 1, 1) := by decide +kernel
theorem dX6_play_18 : decode cX6_play 18 = .ok (.aload_n 0, 1) := by decide +kernel
theorem dX6_play_19 : decode cX6_play 19 = .ok (.iconst 0, 1) := by decide +kernel
theorem dX6_play_20 : decode cX6_play 20 = .ok (.putfield 169, 3) := by decide +kernel
theorem dX6_play_23 : decode cX6_play 23 = .ok (.aload_n 0, 1) := by decide +kernel
theorem dX6_play_24 : decode cX6_play 24 = .ok (.getfield 169, 3) := by decide +kernel
theorem dX6_play_27 : decode cX6_play 27 = .ok (.aload_n 0, 1) := by decide +kernel
theorem dX6_play_28 : decode cX6_play 28 = .ok (.getfield 166, 3) := by decide +kernel
theorem dX6_play_31 : decode cX6_play 31 = .ok (.if_icmp .ge 21, 3) := by decide +kernel
theorem dX6_play_34 : decode cX6_play 34 = .ok (.iload_n 1, 1) := by decide +kernel
theorem dX6_play_35 : decode cX6_play 35 = .ok (.aload_n 0, 1) := by decide +kernel
theorem dX6_play_36 : decode cX6_play 36 = .ok (.invokevirtual 186, 3) := by decide +kernel
theorem dX6_play_39 : decode cX6_play 39 = .ok (.ifCond .ne 7, 3) := by decide +kernel
theorem dX6_play_42 : decode cX6_play 42 = .ok (.iconst 1, 1) := by decide +kernel
theorem dX6_play_43 : decode cX6_play 43 = .ok (.goto 4, 3) := by decide +kernel
theorem dX6_play_46 : decode cX6_play 46 = .ok (.iconst 0, 1) := by decide +kernel
theorem dX6_play_47 : decode cX6_play 47 = .ok (.iadd, 1) := by decide +kernel
theorem dX6_play_48 : decode cX6_play 48 = .ok (.istore_n 1, 1) := by decide +kernel
theorem dX6_play_49 : decode cX6_play 49 = .ok (.goto (-26), 3) := by decide +kernel
theorem dX6_play_52 : decode cX6_play 52 = .ok (.aload_n 0, 1) := by decide +kernel
theorem dX6_play_53 : decode cX6_play 53 = .ok (.iload_n 1, 1) := by decide +kernel
theorem dX6_play_54 : decode cX6_play 54 = .ok (.invokevirtual 75, 3) := by decide +kernel
theorem dX6_play_57 : decode cX6_play 57 = .ok (.ireturn, 1) := by decide +kernel
theorem dJ6_bitCount_0f7a4_0 : decode cJ6_bitCount_0f7a4 0 = .ok (.iload_n 0, 1) := by decide +kernel
theorem dJ6_bitCount_0f7a4_1 : decode cJ6_bitCount_0f7a4 1 = .ok (.iload_n 0, 1) := by decide +kernel
theorem dJ6_bitCount_0f7a4_2 : decode cJ6_bitCount_0f7a4 2 = .ok (.iconst 1, 1) := by decide +kernel
theorem dJ6_bitCount_0f7a4_3 : decode cJ6_bitCount_0f7a4 3 = .ok (.iushr, 1) := by decide +kernel
theorem dJ6_bitCount_0f7a4_4 : decode cJ6_bitCount_0f7a4 4 = .ok (.ldc_w 265, 3) := by decide +kernel
theorem dJ6_bitCount_0f7a4_7 : decode cJ6_bitCount_0f7a4 7 = .ok (.iand, 1) := by decide +kernel
theorem dJ6_bitCount_0f7a4_8 : decode cJ6_bitCount_0f7a4 8 = .ok (.isub, 1) := by decide +kernel
theorem dJ6_bitCount_0f7a4_9 : decode cJ6_bitCount_0f7a4 9 = .ok (.istore_n 0, 1) := by decide +kernel
theorem dJ6_bitCount_0f7a4_10 : decode cJ6_bitCount_0f7a4 10 = .ok (.iload_n 0, 1) := by decide +kernel
theorem dJ6_bitCount_0f7a4_11 : decode cJ6_bitCount_0f7a4 11 = .ok (.ldc_w 266, 3) := by decide +kernel
theorem dJ6_bitCount_0f7a4_14 : decode cJ6_bitCount_0f7a4 14 = .ok (.iand, 1) := by decide +kernel
theorem dJ6_bitCount_0f7a4_15 : decode cJ6_bitCount_0f7a4 15 = .ok (.iload_n 0, 1) := by decide +kernel
theorem dJ6_bitCount_0f7a4_16 : decode cJ6_bitCount_0f7a4 16 = .ok (.iconst 2, 1) := by decide +kernel
theorem dJ6_bitCount_0f7a4_17 : decode cJ6_bitCount_0f7a4 17 = .ok (.iushr, 1) := by decide +kernel
theorem dJ6_bitCount_0f7a4_18 : decode cJ6_bitCount_0f7a4 18 = .ok (.ldc_w 266, 3) := by decide +kernel
theorem dJ6_bitCount_0f7a4_21 : decode cJ6_bitCount_0f7a4 21 = .ok (.iand, 1) := by decide +kernel
theorem dJ6_bitCount_0f7a4_22 : decode cJ6_bitCount_0f7a4 22 = .ok (.iadd, 1) := by decide +kernel
theorem dJ6_bitCount_0f7a4_23 : decode cJ6_bitCount_0f7a4 23 = .ok (.istore_n 0, 1) := by decide +kernel
theorem dJ6_bitCount_0f7a4_24 : decode cJ6_bitCount_0f7a4 24 = .ok (.iload_n 0, 1) := by decide +kernel
theorem dJ6_bitCount_0f7a4_25 : decode cJ6_bitCount_0f7a4 25 = .ok (.iload_n 0, 1) := by decide +kernel
theorem dJ6_bitCount_0f7a4_26 : decode cJ6_bitCount_0f7a4 26 = .ok (.iconst 4, 1) := by decide +kernel
theorem dJ6_bitCount_0f7a4_27 : decode cJ6_bitCount_0f7a4 27 = .ok (.iushr, 1) := by decide +kernel
theorem dJ6_bitCount_0f7a4_28 : decode cJ6_bitCount_0f7a4 28 = .ok (.iadd, 1) := by decide +kernel
theorem dJ6_bitCount_0f7a4_29 : decode cJ6_bitCount_0f7a4 29 = .ok (.ldc_w 267, 3) := by decide +kernel
theorem dJ6_bitCount_0f7a4_32 : decode cJ6_bitCount_0f7a4 32 = .ok (.iand, 1) := by decide +kernel
theorem dJ6_bitCount_0f7a4_33 : decode cJ6_bitCount_0f7a4 33 = .ok (.istore_n 0, 1) := by decide +kernel
theorem dJ6_bitCount_0f7a4_34 : decode cJ6_bitCount_0f7a4 34 = .ok (.iload_n 0, 1) := by decide +kernel
theorem dJ6_bitCount_0f7a4_35 : decode cJ6_bitCount_0f7a4 35 = .ok (.iload_n 0, 1) := by decide +kernel
theorem dJ6_bitCount_0f7a4_36 : decode cJ6_bitCount_0f7a4 36 = .ok (.bipush 8, 2) := by decide +kernel
theorem dJ6_bitCount_0f7a4_38 : decode cJ6_bitCount_0f7a4 38 = .ok (.iushr, 1) := by decide +kernel
theorem dJ6_bitCount_0f7a4_39 : decode cJ6_bitCount_0f7a4 39 = .ok (.iadd, 1) := by decide +kernel
theorem dJ6_bitCount_0f7a4_40 : decode cJ6_bitCount_0f7a4 40 = .ok (.istore_n 0, 1) := by decide +kernel
theorem dJ6_bitCount_0f7a4_41 : decode cJ6_bitCount_0f7a4 41 = .ok (.iload_n 0, 1) := by decide +kernel
theorem dJ6_bitCount_0f7a4_42 : decode cJ6_bitCount_0f7a4 42 = .ok (.iload_n 0, 1) := by decide +kernel
theorem dJ6_bitCount_0f7a4_43 : decode cJ6_bitCount_0f7a4 43 = .ok (.bipush 16, 2) := by decide +kernel
theorem dJ6_bitCount_0f7a4_45 : decode cJ6_bitCount_0f7a4 45 = .ok (.iushr, 1) := by decide +kernel
theorem dJ6_bitCount_0f7a4_46 : decode cJ6_bitCount_0f7a4 46 = .ok (.iadd, 1) := by decide +kernel
theorem dJ6_bitCount_0f7a4_47 : decode cJ6_bitCount_0f7a4 47 = .ok (.istore_n 0, 1) := by decide +kernel
theorem dJ6_bitCount_0f7a4_48 : decode cJ6_bitCount_0f7a4 48 = .ok (.iload_n 0, 1) := by decide +kernel
theorem dJ6_bitCount_0f7a4_49 : decode cJ6_bitCount_0f7a4 49 = .ok (.bipush 63, 2) := by decide +kernel
theorem dJ6_bitCount_0f7a4_51 : decode cJ6_bitCount_0f7a4 51 = .ok (.iand, 1) := by decide +kernel
theorem dJ6_bitCount_0f7a4_52 : decode cJ6_bitCount_0f7a4 52 = .ok (.ireturn, 1) := by decide +kernel
theorem dJ9_max_7cf53_0 : decode cJ9_max_7cf53 0 = .ok (.iload_n 0, 1) := by decide +kernel
theorem dJ9_max_7cf53_1 : decode cJ9_max_7cf53 1 = .ok (.iload_n 1, 1) := by decide +kernel
theorem dJ9_max_7cf53_2 : decode cJ9_max_7cf53 2 = .ok (.if_icmp .lt 7, 3) := by decide +kernel
theorem dJ9_max_7cf53_5 : decode cJ9_max_7cf53 5 = .ok (.iload_n 0, 1) := by decide +kernel
theorem dJ9_max_7cf53_6 : decode cJ9_max_7cf53 6 = .ok (.goto 4, 3) := by decide +kernel
theorem dJ9_max_7cf53_9 : decode cJ9_max_7cf53 9 = .ok (.iload_n 1, 1) := by decide +kernel
theorem dJ9_max_7cf53_10 : decode cJ9_max_7cf53 10 = .ok (.ireturn, 1) := by decide +kernel
theorem dJ9_min_7cf53_0 : decode cJ9_min_7cf53 0 = .ok (.iload_n 0, 1) := by decide +kernel
theorem dJ9_min_7cf53_1 : decode cJ9_min_7cf53 1 = .ok (.iload_n 1, 1) := by decide +kernel
theorem dJ9_min_7cf53_2 : decode cJ9_min_7cf53 2 = .ok (.if_icmp .gt 7, 3) := by decide +kernel
theorem dJ9_min_7cf53_5 : decode cJ9_min_7cf53 5 = .ok (.iload_n 0, 1) := by decide +kernel
theorem dJ9_min_7cf53_6 : decode cJ9_min_7cf53 6 = .ok (.goto 4, 3) := by decide +kernel
theorem dJ9_min_7cf53_9 : decode cJ9_min_7cf53 9 = .ok (.iload_n 1, 1) := by decide +kernel
theorem dJ9_min_7cf53_10 : decode cJ9_min_7cf53 10 = .ok (.ireturn, 1) := by decide +kernel
theorem dL_law_0 : decode cL_law 0 = .ok (.new 7, 3) := by decide +kernel
theorem dL_law_3 : decode cL_law 3 = .ok (.dup, 1) := by decide +kernel
theorem dL_law_4 : decode cL_law 4 = .ok (.invokespecial 9, 3) := by decide +kernel
theorem dL_law_7 : decode cL_law 7 = .ok (.astore_n 1, 1) := by decide +kernel
theorem dL_law_8 : decode cL_law 8 = .ok (.new 10, 3) := by decide +kernel
theorem dL_law_11 : decode cL_law 11 = .ok (.dup, 1) := by decide +kernel
theorem dL_law_12 : decode cL_law 12 = .ok (.invokespecial 12, 3) := by decide +kernel
theorem dL_law_15 : decode cL_law 15 = .ok (.astore_n 2, 1) := by decide +kernel
theorem dL_law_16 : decode cL_law 16 = .ok (.iconst 0, 1) := by decide +kernel
theorem dL_law_17 : decode cL_law 17 = .ok (.istore_n 3, 1) := by decide +kernel
theorem dL_law_18 : decode cL_law 18 = .ok (.iload_n 3, 1) := by decide +kernel
theorem dL_law_19 : decode cL_law 19 = .ok (.aload_n 0, 1) := by decide +kernel
theorem dL_law_20 : decode cL_law 20 = .ok (.arraylength, 1) := by decide +kernel
theorem dL_law_21 : decode cL_law 21 = .ok (.iconst 5, 1) := by decide +kernel
theorem dL_law_22 : decode cL_law 22 = .ok (.isub, 1) := by decide +kernel
theorem dL_law_23 : decode cL_law 23 = .ok (.if_icmp .gt 733, 3) := by decide +kernel
theorem dL_law_26 : decode cL_law 26 = .ok (.aload_n 0, 1) := by decide +kernel
theorem dL_law_27 : decode cL_law 27 = .ok (.iload_n 3, 1) := by decide +kernel
theorem dL_law_28 : decode cL_law 28 = .ok (.iaload, 1) := by decide +kernel
theorem dL_law_29 : decode cL_law 29 = .ok (.bipush 31, 2) := by decide +kernel
theorem dL_law_31 : decode cL_law 31 = .ok (.iand, 1) := by decide +kernel
theorem dL_law_32 : decode cL_law 32 = .ok (.tableswitch 718 0 25 #[120, 133, 146, 159, 172, 225, 268, 291, 314, 337, 350, 373, 416, 459, 492, 515, 528, 541, 554, 587, 610, 633, 646, 669, 682, 705], 120) := by decide +kernel
theorem dL_law_152 : decode cL_law 152 = .ok (.aload_n 1, 1) := by decide +kernel
theorem dL_law_153 : decode cL_law 153 = .ok (.invokevirtual 13, 3) := by decide +kernel
theorem dL_law_156 : decode cL_law 156 = .ok (.aload_n 2, 1) := by decide +kernel
theorem dL_law_157 : decode cL_law 157 = .ok (.invokevirtual 17, 3) := by decide +kernel
theorem dL_law_160 : decode cL_law 160 = .ok (.if_icmp .eq 590, 3) := by decide +kernel
theorem dL_law_163 : decode cL_law 163 = .ok (.iconst 0, 1) := by decide +kernel
theorem dL_law_164 : decode cL_law 164 = .ok (.ireturn, 1) := by decide +kernel
theorem dL_law_165 : decode cL_law 165 = .ok (.aload_n 1, 1) := by decide +kernel
theorem dL_law_166 : decode cL_law 166 = .ok (.invokevirtual 18, 3) := by decide +kernel
theorem dL_law_169 : decode cL_law 169 = .ok (.aload_n 2, 1) := by decide +kernel
theorem dL_law_170 : decode cL_law 170 = .ok (.invokevirtual 21, 3) := by decide +kernel
theorem dL_law_173 : decode cL_law 173 = .ok (.if_icmp .eq 577, 3) := by decide +kernel
theorem dL_law_176 : decode cL_law 176 = .ok (.iconst 0, 1) := by decide +kernel
theorem dL_law_177 : decode cL_law 177 = .ok (.ireturn, 1) := by decide +kernel
theorem dL_law_178 : decode cL_law 178 = .ok (.aload_n 1, 1) := by decide +kernel
theorem dL_law_179 : decode cL_law 179 = .ok (.invokevirtual 22, 3) := by decide +kernel
theorem dL_law_182 : decode cL_law 182 = .ok (.aload_n 2, 1) := by decide +kernel
theorem dL_law_183 : decode cL_law 183 = .ok (.invokevirtual 25, 3) := by decide +kernel
theorem dL_law_186 : decode cL_law 186 = .ok (.if_icmp .eq 564, 3) := by decide +kernel
theorem dL_law_189 : decode cL_law 189 = .ok (.iconst 0, 1) := by decide +kernel
theorem dL_law_190 : decode cL_law 190 = .ok (.ireturn, 1) := by decide +kernel
theorem dL_law_191 : decode cL_law 191 = .ok (.aload_n 1, 1) := by decide +kernel
theorem dL_law_192 : decode cL_law 192 = .ok (.invokevirtual 26, 3) := by decide +kernel
theorem dL_law_195 : decode cL_law 195 = .ok (.aload_n 2, 1) := by decide +kernel
theorem dL_law_196 : decode cL_law 196 = .ok (.invokevirtual 29, 3) := by decide +kernel
theorem dL_law_199 : decode cL_law 199 = .ok (.if_icmp .eq 551, 3) := by decide +kernel
theorem dL_law_202 : decode cL_law 202 = .ok (.iconst 0, 1) := by decide +kernel
theorem dL_law_203 : decode cL_law 203 = .ok (.ireturn, 1) := by decide +kernel
theorem dL_law_204 : decode cL_law 204 = .ok (.aload_n 1, 1) := by decide +kernel
theorem dL_law_205 : decode cL_law 205 = .ok (.aload_n 0, 1) := by decide +kernel
theorem dL_law_206 : decode cL_law 206 = .ok (.iload_n 3, 1) := by decide +kernel
theorem dL_law_207 : decode cL_law 207 = .ok (.iconst 1, 1) := by decide +kernel
theorem dL_law_208 : decode cL_law 208 = .ok (.iadd, 1) := by decide +kernel
theorem dL_law_209 : decode cL_law 209 = .ok (.iaload, 1) := by decide +kernel
theorem dL_law_210 : decode cL_law 210 = .ok (.aload_n 0, 1) := by decide +kernel
theorem dL_law_211 : decode cL_law 211 = .ok (.iload_n 3, 1) := by decide +kernel
theorem dL_law_212 : decode cL_law 212 = .ok (.iconst 2, 1) := by decide +kernel
theorem dL_law_213 : decode cL_law 213 = .ok (.iadd, 1) := by decide +kernel
theorem dL_law_214 : decode cL_law 214 = .ok (.iaload, 1) := by decide +kernel
theorem dL_law_215 : decode cL_law 215 = .ok (.aload_n 0, 1) := by decide +kernel
theorem dL_law_216 : decode cL_law 216 = .ok (.iload_n 3, 1) := by decide +kernel
theorem dL_law_217 : decode cL_law 217 = .ok (.iconst 3, 1) := by decide +kernel
theorem dL_law_218 : decode cL_law 218 = .ok (.iadd, 1) := by decide +kernel
theorem dL_law_219 : decode cL_law 219 = .ok (.iaload, 1) := by decide +kernel
theorem dL_law_220 : decode cL_law 220 = .ok (.aload_n 0, 1) := by decide +kernel
theorem dL_law_221 : decode cL_law 221 = .ok (.iload_n 3, 1) := by decide +kernel
theorem dL_law_222 : decode cL_law 222 = .ok (.iconst 4, 1) := by decide +kernel
theorem dL_law_223 : decode cL_law 223 = .ok (.iadd, 1) := by decide +kernel
theorem dL_law_224 : decode cL_law 224 = .ok (.iaload, 1) := by decide +kernel
theorem dL_law_225 : decode cL_law 225 = .ok (.invokevirtual 30, 3) := by decide +kernel
theorem dL_law_228 : decode cL_law 228 = .ok (.aload_n 2, 1) := by decide +kernel
theorem dL_law_229 : decode cL_law 229 = .ok (.aload_n 0, 1) := by decide +kernel
theorem dL_law_230 : decode cL_law 230 = .ok (.iload_n 3, 1) := by decide +kernel
theorem dL_law_231 : decode cL_law 231 = .ok (.iconst 1, 1) := by decide +kernel
theorem dL_law_232 : decode cL_law 232 = .ok (.iadd, 1) := by decide +kernel
theorem dL_law_233 : decode cL_law 233 = .ok (.iaload, 1) := by decide +kernel
theorem dL_law_234 : decode cL_law 234 = .ok (.aload_n 0, 1) := by decide +kernel
theorem dL_law_235 : decode cL_law 235 = .ok (.iload_n 3, 1) := by decide +kernel
theorem dL_law_236 : decode cL_law 236 = .ok (.iconst 2, 1) := by decide +kernel
theorem dL_law_237 : decode cL_law 237 = .ok (.iadd, 1) := by decide +kernel
theorem dL_law_238 : decode cL_law 238 = .ok (.iaload, 1) := by decide +kernel
theorem dL_law_239 : decode cL_law 239 = .ok (.aload_n 0, 1) := by decide +kernel
theorem dL_law_240 : decode cL_law 240 = .ok (.iload_n 3, 1) := by decide +kernel
theorem dL_law_241 : decode cL_law 241 = .ok (.iconst 3, 1) := by decide +kernel
theorem dL_law_242 : decode cL_law 242 = .ok (.iadd, 1) := by decide +kernel
theorem dL_law_243 : decode cL_law 243 = .ok (.iaload, 1) := by decide +kernel
theorem dL_law_244 : decode cL_law 244 = .ok (.aload_n 0, 1) := by decide +kernel
theorem dL_law_245 : decode cL_law 245 = .ok (.iload_n 3, 1) := by decide +kernel
theorem dL_law_246 : decode cL_law 246 = .ok (.iconst 4, 1) := by decide +kernel
theorem dL_law_247 : decode cL_law 247 = .ok (.iadd, 1) := by decide +kernel
theorem dL_law_248 : decode cL_law 248 = .ok (.iaload, 1) := by decide +kernel
theorem dL_law_249 : decode cL_law 249 = .ok (.invokevirtual 34, 3) := by decide +kernel
theorem dL_law_252 : decode cL_law 252 = .ok (.if_icmp .eq 498, 3) := by decide +kernel
theorem dL_law_255 : decode cL_law 255 = .ok (.iconst 0, 1) := by decide +kernel
theorem dL_law_256 : decode cL_law 256 = .ok (.ireturn, 1) := by decide +kernel
theorem dL_law_257 : decode cL_law 257 = .ok (.aload_n 1, 1) := by decide +kernel
theorem dL_law_258 : decode cL_law 258 = .ok (.aload_n 0, 1) := by decide +kernel
theorem dL_law_259 : decode cL_law 259 = .ok (.iload_n 3, 1) := by decide +kernel
theorem dL_law_260 : decode cL_law 260 = .ok (.iconst 1, 1) := by decide +kernel
theorem dL_law_261 : decode cL_law 261 = .ok (.iadd, 1) := by decide +kernel
theorem dL_law_262 : decode cL_law 262 = .ok (.iaload, 1) := by decide +kernel
theorem dL_law_263 : decode cL_law 263 = .ok (.aload_n 0, 1) := by decide +kernel
theorem dL_law_264 : decode cL_law 264 = .ok (.iload_n 3, 1) := by decide +kernel
theorem dL_law_265 : decode cL_law 265 = .ok (.iconst 2, 1) := by decide +kernel
theorem dL_law_266 : decode cL_law 266 = .ok (.iadd, 1) := by decide +kernel
theorem dL_law_267 : decode cL_law 267 = .ok (.iaload, 1) := by decide +kernel
theorem dL_law_268 : decode cL_law 268 = .ok (.aload_n 0, 1) := by decide +kernel
theorem dL_law_269 : decode cL_law 269 = .ok (.iload_n 3, 1) := by decide +kernel
theorem dL_law_270 : decode cL_law 270 = .ok (.iconst 3, 1) := by decide +kernel
theorem dL_law_271 : decode cL_law 271 = .ok (.iadd, 1) := by decide +kernel
theorem dL_law_272 : decode cL_law 272 = .ok (.iaload, 1) := by decide +kernel
theorem dL_law_273 : decode cL_law 273 = .ok (.invokevirtual 35, 3) := by decide +kernel
theorem dL_law_276 : decode cL_law 276 = .ok (.aload_n 2, 1) := by decide +kernel
theorem dL_law_277 : decode cL_law 277 = .ok (.aload_n 0, 1) := by decide +kernel
theorem dL_law_278 : decode cL_law 278 = .ok (.iload_n 3, 1) := by decide +kernel
theorem dL_law_279 : decode cL_law 279 = .ok (.iconst 1, 1) := by decide +kernel
theorem dL_law_280 : decode cL_law 280 = .ok (.iadd, 1) := by decide +kernel
theorem dL_law_281 : decode cL_law 281 = .ok (.iaload, 1) := by decide +kernel
theorem dL_law_282 : decode cL_law 282 = .ok (.aload_n 0, 1) := by decide +kernel
theorem dL_law_283 : decode cL_law 283 = .ok (.iload_n 3, 1) := by decide +kernel
theorem dL_law_284 : decode cL_law 284 = .ok (.iconst 2, 1) := by decide +kernel
theorem dL_law_285 : decode cL_law 285 = .ok (.iadd, 1) := by decide +kernel
theorem dL_law_286 : decode cL_law 286 = .ok (.iaload, 1) := by decide +kernel
theorem dL_law_287 : decode cL_law 287 = .ok (.aload_n 0, 1) := by decide +kernel
theorem dL_law_288 : decode cL_law 288 = .ok (.iload_n 3, 1) := by decide +kernel
theorem dL_law_289 : decode cL_law 289 = .ok (.iconst 3, 1) := by decide +kernel
theorem dL_law_290 : decode cL_law 290 = .ok (.iadd, 1) := by decide +kernel
theorem dL_law_291 : decode cL_law 291 = .ok (.iaload, 1) := by decide +kernel
theorem dL_law_292 : decode cL_law 292 = .ok (.invokevirtual 39, 3) := by decide +kernel
theorem dL_law_295 : decode cL_law 295 = .ok (.if_icmp .eq 455, 3) := by decide +kernel
theorem dL_law_298 : decode cL_law 298 = .ok (.iconst 0, 1) := by decide +kernel
theorem dL_law_299 : decode cL_law 299 = .ok (.ireturn, 1) := by decide +kernel
theorem dL_law_300 : decode cL_law 300 = .ok (.aload_n 1, 1) := by decide +kernel
theorem dL_law_301 : decode cL_law 301 = .ok (.aload_n 0, 1) := by decide +kernel
theorem dL_law_302 : decode cL_law 302 = .ok (.iload_n 3, 1) := by decide +kernel
theorem dL_law_303 : decode cL_law 303 = .ok (.iconst 1, 1) := by decide +kernel
theorem dL_law_304 : decode cL_law 304 = .ok (.iadd, 1) := by decide +kernel
theorem dL_law_305 : decode cL_law 305 = .ok (.iaload, 1) := by decide +kernel
theorem dL_law_306 : decode cL_law 306 = .ok (.invokevirtual 40, 3) := by decide +kernel
theorem dL_law_309 : decode cL_law 309 = .ok (.aload_n 2, 1) := by decide +kernel
theorem dL_law_310 : decode cL_law 310 = .ok (.aload_n 0, 1) := by decide +kernel
theorem dL_law_311 : decode cL_law 311 = .ok (.iload_n 3, 1) := by decide +kernel
theorem dL_law_312 : decode cL_law 312 = .ok (.iconst 1, 1) := by decide +kernel
theorem dL_law_313 : decode cL_law 313 = .ok (.iadd, 1) := by decide +kernel
theorem dL_law_314 : decode cL_law 314 = .ok (.iaload, 1) := by decide +kernel
theorem dL_law_315 : decode cL_law 315 = .ok (.invokevirtual 44, 3) := by decide +kernel
theorem dL_law_318 : decode cL_law 318 = .ok (.if_icmp .eq 432, 3) := by decide +kernel
theorem dL_law_321 : decode cL_law 321 = .ok (.iconst 0, 1) := by decide +kernel
theorem dL_law_322 : decode cL_law 322 = .ok (.ireturn, 1) := by decide +kernel
theorem dL_law_323 : decode cL_law 323 = .ok (.aload_n 1, 1) := by decide +kernel
theorem dL_law_324 : decode cL_law 324 = .ok (.aload_n 0, 1) := by decide +kernel
theorem dL_law_325 : decode cL_law 325 = .ok (.iload_n 3, 1) := by decide +kernel
theorem dL_law_326 : decode cL_law 326 = .ok (.iconst 1, 1) := by decide +kernel
theorem dL_law_327 : decode cL_law 327 = .ok (.iadd, 1) := by decide +kernel
theorem dL_law_328 : decode cL_law 328 = .ok (.iaload, 1) := by decide +kernel
theorem dL_law_329 : decode cL_law 329 = .ok (.invokevirtual 45, 3) := by decide +kernel
theorem dL_law_332 : decode cL_law 332 = .ok (.aload_n 2, 1) := by decide +kernel
theorem dL_law_333 : decode cL_law 333 = .ok (.aload_n 0, 1) := by decide +kernel
theorem dL_law_334 : decode cL_law 334 = .ok (.iload_n 3, 1) := by decide +kernel
theorem dL_law_335 : decode cL_law 335 = .ok (.iconst 1, 1) := by decide +kernel
theorem dL_law_336 : decode cL_law 336 = .ok (.iadd, 1) := by decide +kernel
theorem dL_law_337 : decode cL_law 337 = .ok (.iaload, 1) := by decide +kernel
theorem dL_law_338 : decode cL_law 338 = .ok (.invokevirtual 48, 3) := by decide +kernel
theorem dL_law_341 : decode cL_law 341 = .ok (.if_icmp .eq 409, 3) := by decide +kernel
theorem dL_law_344 : decode cL_law 344 = .ok (.iconst 0, 1) := by decide +kernel
theorem dL_law_345 : decode cL_law 345 = .ok (.ireturn, 1) := by decide +kernel
theorem dL_law_346 : decode cL_law 346 = .ok (.aload_n 1, 1) := by decide +kernel
theorem dL_law_347 : decode cL_law 347 = .ok (.aload_n 0, 1) := by decide +kernel
theorem dL_law_348 : decode cL_law 348 = .ok (.iload_n 3, 1) := by decide +kernel
theorem dL_law_349 : decode cL_law 349 = .ok (.iconst 1, 1) := by decide +kernel
theorem dL_law_350 : decode cL_law 350 = .ok (.iadd, 1) := by decide +kernel
theorem dL_law_351 : decode cL_law 351 = .ok (.iaload, 1) := by decide +kernel
theorem dL_law_352 : decode cL_law 352 = .ok (.invokevirtual 49, 3) := by decide +kernel
theorem dL_law_355 : decode cL_law 355 = .ok (.aload_n 2, 1) := by decide +kernel
theorem dL_law_356 : decode cL_law 356 = .ok (.aload_n 0, 1) := by decide +kernel
theorem dL_law_357 : decode cL_law 357 = .ok (.iload_n 3, 1) := by decide +kernel
theorem dL_law_358 : decode cL_law 358 = .ok (.iconst 1, 1) := by decide +kernel
theorem dL_law_359 : decode cL_law 359 = .ok (.iadd, 1) := by decide +kernel
theorem dL_law_360 : decode cL_law 360 = .ok (.iaload, 1) := by decide +kernel
theorem dL_law_361 : decode cL_law 361 = .ok (.invokevirtual 52, 3) := by decide +kernel
theorem dL_law_364 : decode cL_law 364 = .ok (.if_icmp .eq 386, 3) := by decide +kernel
theorem dL_law_367 : decode cL_law 367 = .ok (.iconst 0, 1) := by decide +kernel
theorem dL_law_368 : decode cL_law 368 = .ok (.ireturn, 1) := by decide +kernel
theorem dL_law_369 : decode cL_law 369 = .ok (.aload_n 1, 1) := by decide +kernel
theorem dL_law_370 : decode cL_law 370 = .ok (.invokevirtual 53, 3) := by decide +kernel
theorem dL_law_373 : decode cL_law 373 = .ok (.aload_n 2, 1) := by decide +kernel
theorem dL_law_374 : decode cL_law 374 = .ok (.invokevirtual 56, 3) := by decide +kernel
theorem dL_law_377 : decode cL_law 377 = .ok (.if_icmp .eq 373, 3) := by decide +kernel
theorem dL_law_380 : decode cL_law 380 = .ok (.iconst 0, 1) := by decide +kernel
theorem dL_law_381 : decode cL_law 381 = .ok (.ireturn, 1) := by decide +kernel
theorem dL_law_382 : decode cL_law 382 = .ok (.aload_n 1, 1) := by decide +kernel
theorem dL_law_383 : decode cL_law 383 = .ok (.aload_n 0, 1) := by decide +kernel
theorem dL_law_384 : decode cL_law 384 = .ok (.iload_n 3, 1) := by decide +kernel
theorem dL_law_385 : decode cL_law 385 = .ok (.iconst 1, 1) := by decide +kernel
theorem dL_law_386 : decode cL_law 386 = .ok (.iadd, 1) := by decide +kernel
theorem dL_law_387 : decode cL_law 387 = .ok (.iaload, 1) := by decide +kernel
theorem dL_law_388 : decode cL_law 388 = .ok (.invokevirtual 57, 3) := by decide +kernel
theorem dL_law_391 : decode cL_law 391 = .ok (.aload_n 2, 1) := by decide +kernel
theorem dL_law_392 : decode cL_law 392 = .ok (.aload_n 0, 1) := by decide +kernel
theorem dL_law_393 : decode cL_law 393 = .ok (.iload_n 3, 1) := by decide +kernel
theorem dL_law_394 : decode cL_law 394 = .ok (.iconst 1, 1) := by decide +kernel
theorem dL_law_395 : decode cL_law 395 = .ok (.iadd, 1) := by decide +kernel
theorem dL_law_396 : decode cL_law 396 = .ok (.iaload, 1) := by decide +kernel
theorem dL_law_397 : decode cL_law 397 = .ok (.invokevirtual 60, 3) := by decide +kernel
theorem dL_law_400 : decode cL_law 400 = .ok (.if_icmp .eq 350, 3) := by decide +kernel
theorem dL_law_403 : decode cL_law 403 = .ok (.iconst 0, 1) := by decide +kernel
theorem dL_law_404 : decode cL_law 404 = .ok (.ireturn, 1) := by decide +kernel
theorem dL_law_405 : decode cL_law 405 = .ok (.aload_n 1, 1) := by decide +kernel
theorem dL_law_406 : decode cL_law 406 = .ok (.aload_n 0, 1) := by decide +kernel
theorem dL_law_407 : decode cL_law 407 = .ok (.iload_n 3, 1) := by decide +kernel
theorem dL_law_408 : decode cL_law 408 = .ok (.iconst 1, 1) := by decide +kernel
theorem dL_law_409 : decode cL_law 409 = .ok (.iadd, 1) := by decide +kernel
theorem dL_law_410 : decode cL_law 410 = .ok (.iaload, 1) := by decide +kernel
theorem dL_law_411 : decode cL_law 411 = .ok (.aload_n 0, 1) := by decide +kernel
theorem dL_law_412 : decode cL_law 412 = .ok (.iload_n 3, 1) := by decide +kernel
theorem dL_law_413 : decode cL_law 413 = .ok (.iconst 2, 1) := by decide +kernel
theorem dL_law_414 : decode cL_law 414 = .ok (.iadd, 1) := by decide +kernel
theorem dL_law_415 : decode cL_law 415 = .ok (.iaload, 1) := by decide +kernel
theorem dL_law_416 : decode cL_law 416 = .ok (.aload_n 0, 1) := by decide +kernel
theorem dL_law_417 : decode cL_law 417 = .ok (.iload_n 3, 1) := by decide +kernel
theorem dL_law_418 : decode cL_law 418 = .ok (.iconst 3, 1) := by decide +kernel
theorem dL_law_419 : decode cL_law 419 = .ok (.iadd, 1) := by decide +kernel
theorem dL_law_420 : decode cL_law 420 = .ok (.iaload, 1) := by decide +kernel
theorem dL_law_421 : decode cL_law 421 = .ok (.invokevirtual 61, 3) := by decide +kernel
theorem dL_law_424 : decode cL_law 424 = .ok (.aload_n 2, 1) := by decide +kernel
theorem dL_law_425 : decode cL_law 425 = .ok (.aload_n 0, 1) := by decide +kernel
theorem dL_law_426 : decode cL_law 426 = .ok (.iload_n 3, 1) := by decide +kernel
theorem dL_law_427 : decode cL_law 427 = .ok (.iconst 1, 1) := by decide +kernel
theorem dL_law_428 : decode cL_law 428 = .ok (.iadd, 1) := by decide +kernel
theorem dL_law_429 : decode cL_law 429 = .ok (.iaload, 1) := by decide +kernel
theorem dL_law_430 : decode cL_law 430 = .ok (.aload_n 0, 1) := by decide +kernel
theorem dL_law_431 : decode cL_law 431 = .ok (.iload_n 3, 1) := by decide +kernel
theorem dL_law_432 : decode cL_law 432 = .ok (.iconst 2, 1) := by decide +kernel
theorem dL_law_433 : decode cL_law 433 = .ok (.iadd, 1) := by decide +kernel
theorem dL_law_434 : decode cL_law 434 = .ok (.iaload, 1) := by decide +kernel
theorem dL_law_435 : decode cL_law 435 = .ok (.aload_n 0, 1) := by decide +kernel
theorem dL_law_436 : decode cL_law 436 = .ok (.iload_n 3, 1) := by decide +kernel
theorem dL_law_437 : decode cL_law 437 = .ok (.iconst 3, 1) := by decide +kernel
theorem dL_law_438 : decode cL_law 438 = .ok (.iadd, 1) := by decide +kernel
theorem dL_law_439 : decode cL_law 439 = .ok (.iaload, 1) := by decide +kernel
theorem dL_law_440 : decode cL_law 440 = .ok (.invokevirtual 64, 3) := by decide +kernel
theorem dL_law_443 : decode cL_law 443 = .ok (.if_icmp .eq 307, 3) := by decide +kernel
theorem dL_law_446 : decode cL_law 446 = .ok (.iconst 0, 1) := by decide +kernel
theorem dL_law_447 : decode cL_law 447 = .ok (.ireturn, 1) := by decide +kernel
theorem dL_law_448 : decode cL_law 448 = .ok (.aload_n 1, 1) := by decide +kernel
theorem dL_law_449 : decode cL_law 449 = .ok (.aload_n 0, 1) := by decide +kernel
theorem dL_law_450 : decode cL_law 450 = .ok (.iload_n 3, 1) := by decide +kernel
theorem dL_law_451 : decode cL_law 451 = .ok (.iconst 1, 1) := by decide +kernel
theorem dL_law_452 : decode cL_law 452 = .ok (.iadd, 1) := by decide +kernel
theorem dL_law_453 : decode cL_law 453 = .ok (.iaload, 1) := by decide +kernel
theorem dL_law_454 : decode cL_law 454 = .ok (.aload_n 0, 1) := by decide +kernel
theorem dL_law_455 : decode cL_law 455 = .ok (.iload_n 3, 1) := by decide +kernel
theorem dL_law_456 : decode cL_law 456 = .ok (.iconst 2, 1) := by decide +kernel
theorem dL_law_457 : decode cL_law 457 = .ok (.iadd, 1) := by decide +kernel
theorem dL_law_458 : decode cL_law 458 = .ok (.iaload, 1) := by decide +kernel
theorem dL_law_459 : decode cL_law 459 = .ok (.aload_n 0, 1) := by decide +kernel
theorem dL_law_460 : decode cL_law 460 = .ok (.iload_n 3, 1) := by decide +kernel
theorem dL_law_461 : decode cL_law 461 = .ok (.iconst 3, 1) := by decide +kernel
theorem dL_law_462 : decode cL_law 462 = .ok (.iadd, 1) := by decide +kernel
theorem dL_law_463 : decode cL_law 463 = .ok (.iaload, 1) := by decide +kernel
theorem dL_law_464 : decode cL_law 464 = .ok (.invokevirtual 65, 3) := by decide +kernel
theorem dL_law_467 : decode cL_law 467 = .ok (.aload_n 2, 1) := by decide +kernel
theorem dL_law_468 : decode cL_law 468 = .ok (.aload_n 0, 1) := by decide +kernel
theorem dL_law_469 : decode cL_law 469 = .ok (.iload_n 3, 1) := by decide +kernel
theorem dL_law_470 : decode cL_law 470 = .ok (.iconst 1, 1) := by decide +kernel
theorem dL_law_471 : decode cL_law 471 = .ok (.iadd, 1) := by decide +kernel
theorem dL_law_472 : decode cL_law 472 = .ok (.iaload, 1) := by decide +kernel
theorem dL_law_473 : decode cL_law 473 = .ok (.aload_n 0, 1) := by decide +kernel
theorem dL_law_474 : decode cL_law 474 = .ok (.iload_n 3, 1) := by decide +kernel
theorem dL_law_475 : decode cL_law 475 = .ok (.iconst 2, 1) := by decide +kernel
theorem dL_law_476 : decode cL_law 476 = .ok (.iadd, 1) := by decide +kernel
theorem dL_law_477 : decode cL_law 477 = .ok (.iaload, 1) := by decide +kernel
theorem dL_law_478 : decode cL_law 478 = .ok (.aload_n 0, 1) := by decide +kernel
theorem dL_law_479 : decode cL_law 479 = .ok (.iload_n 3, 1) := by decide +kernel
theorem dL_law_480 : decode cL_law 480 = .ok (.iconst 3, 1) := by decide +kernel
theorem dL_law_481 : decode cL_law 481 = .ok (.iadd, 1) := by decide +kernel
theorem dL_law_482 : decode cL_law 482 = .ok (.iaload, 1) := by decide +kernel
theorem dL_law_483 : decode cL_law 483 = .ok (.invokevirtual 68, 3) := by decide +kernel
theorem dL_law_486 : decode cL_law 486 = .ok (.if_icmp .eq 264, 3) := by decide +kernel
theorem dL_law_489 : decode cL_law 489 = .ok (.iconst 0, 1) := by decide +kernel
theorem dL_law_490 : decode cL_law 490 = .ok (.ireturn, 1) := by decide +kernel
theorem dL_law_491 : decode cL_law 491 = .ok (.aload_n 1, 1) := by decide +kernel
theorem dL_law_492 : decode cL_law 492 = .ok (.aload_n 0, 1) := by decide +kernel
theorem dL_law_493 : decode cL_law 493 = .ok (.iload_n 3, 1) := by decide +kernel
theorem dL_law_494 : decode cL_law 494 = .ok (.iconst 1, 1) := by decide +kernel
theorem dL_law_495 : decode cL_law 495 = .ok (.iadd, 1) := by decide +kernel
theorem dL_law_496 : decode cL_law 496 = .ok (.iaload, 1) := by decide +kernel
theorem dL_law_497 : decode cL_law 497 = .ok (.aload_n 0, 1) := by decide +kernel
theorem dL_law_498 : decode cL_law 498 = .ok (.iload_n 3, 1) := by decide +kernel
theorem dL_law_499 : decode cL_law 499 = .ok (.iconst 2, 1) := by decide +kernel
theorem dL_law_500 : decode cL_law 500 = .ok (.iadd, 1) := by decide +kernel
theorem dL_law_501 : decode cL_law 501 = .ok (.iaload, 1) := by decide +kernel
theorem dL_law_502 : decode cL_law 502 = .ok (.invokevirtual 69, 3) := by decide +kernel
theorem dL_law_505 : decode cL_law 505 = .ok (.aload_n 2, 1) := by decide +kernel
theorem dL_law_506 : decode cL_law 506 = .ok (.aload_n 0, 1) := by decide +kernel
theorem dL_law_507 : decode cL_law 507 = .ok (.iload_n 3, 1) := by decide +kernel
theorem dL_law_508 : decode cL_law 508 = .ok (.iconst 1, 1) := by decide +kernel
theorem dL_law_509 : decode cL_law 509 = .ok (.iadd, 1) := by decide +kernel
theorem dL_law_510 : decode cL_law 510 = .ok (.iaload, 1) := by decide +kernel
theorem dL_law_511 : decode cL_law 511 = .ok (.aload_n 0, 1) := by decide +kernel
theorem dL_law_512 : decode cL_law 512 = .ok (.iload_n 3, 1) := by decide +kernel
theorem dL_law_513 : decode cL_law 513 = .ok (.iconst 2, 1) := by decide +kernel
theorem dL_law_514 : decode cL_law 514 = .ok (.iadd, 1) := by decide +kernel
theorem dL_law_515 : decode cL_law 515 = .ok (.iaload, 1) := by decide +kernel
theorem dL_law_516 : decode cL_law 516 = .ok (.invokevirtual 73, 3) := by decide +kernel
theorem dL_law_519 : decode cL_law 519 = .ok (.if_icmp .eq 231, 3) := by decide +kernel
theorem dL_law_522 : decode cL_law 522 = .ok (.iconst 0, 1) := by decide +kernel
theorem dL_law_523 : decode cL_law 523 = .ok (.ireturn, 1) := by decide +kernel
theorem dL_law_524 : decode cL_law 524 = .ok (.aload_n 1, 1) := by decide +kernel
theorem dL_law_525 : decode cL_law 525 = .ok (.aload_n 0, 1) := by decide +kernel
theorem dL_law_526 : decode cL_law 526 = .ok (.iload_n 3, 1) := by decide +kernel
theorem dL_law_527 : decode cL_law 527 = .ok (.iconst 1, 1) := by decide +kernel
theorem dL_law_528 : decode cL_law 528 = .ok (.iadd, 1) := by decide +kernel
theorem dL_law_529 : decode cL_law 529 = .ok (.iaload, 1) := by decide +kernel
theorem dL_law_530 : decode cL_law 530 = .ok (.invokevirtual 74, 3) := by decide +kernel
theorem dL_law_533 : decode cL_law 533 = .ok (.aload_n 2, 1) := by decide +kernel
theorem dL_law_534 : decode cL_law 534 = .ok (.aload_n 0, 1) := by decide +kernel
theorem dL_law_535 : decode cL_law 535 = .ok (.iload_n 3, 1) := by decide +kernel
theorem dL_law_536 : decode cL_law 536 = .ok (.iconst 1, 1) := by decide +kernel
theorem dL_law_537 : decode cL_law 537 = .ok (.iadd, 1) := by decide +kernel
theorem dL_law_538 : decode cL_law 538 = .ok (.iaload, 1) := by decide +kernel
theorem dL_law_539 : decode cL_law 539 = .ok (.invokevirtual 77, 3) := by decide +kernel
theorem dL_law_542 : decode cL_law 542 = .ok (.if_icmp .eq 208, 3) := by decide +kernel
theorem dL_law_545 : decode cL_law 545 = .ok (.iconst 0, 1) := by decide +kernel
theorem dL_law_546 : decode cL_law 546 = .ok (.ireturn, 1) := by decide +kernel
theorem dL_law_547 : decode cL_law 547 = .ok (.aload_n 1, 1) := by decide +kernel
theorem dL_law_548 : decode cL_law 548 = .ok (.invokevirtual 78, 3) := by decide +kernel
theorem dL_law_551 : decode cL_law 551 = .ok (.aload_n 2, 1) := by decide +kernel
theorem dL_law_552 : decode cL_law 552 = .ok (.invokevirtual 81, 3) := by decide +kernel
theorem dL_law_555 : decode cL_law 555 = .ok (.if_icmp .eq 195, 3) := by decide +kernel
theorem dL_law_558 : decode cL_law 558 = .ok (.iconst 0, 1) := by decide +kernel
theorem dL_law_559 : decode cL_law 559 = .ok (.ireturn, 1) := by decide +kernel
theorem dL_law_560 : decode cL_law 560 = .ok (.aload_n 1, 1) := by decide +kernel
theorem dL_law_561 : decode cL_law 561 = .ok (.invokevirtual 82, 3) := by decide +kernel
theorem dL_law_564 : decode cL_law 564 = .ok (.aload_n 2, 1) := by decide +kernel
theorem dL_law_565 : decode cL_law 565 = .ok (.invokevirtual 85, 3) := by decide +kernel
theorem dL_law_568 : decode cL_law 568 = .ok (.if_icmp .eq 182, 3) := by decide +kernel
theorem dL_law_571 : decode cL_law 571 = .ok (.iconst 0, 1) := by decide +kernel
theorem dL_law_572 : decode cL_law 572 = .ok (.ireturn, 1) := by decide +kernel
theorem dL_law_573 : decode cL_law 573 = .ok (.aload_n 1, 1) := by decide +kernel
theorem dL_law_574 : decode cL_law 574 = .ok (.invokevirtual 86, 3) := by decide +kernel
theorem dL_law_577 : decode cL_law 577 = .ok (.aload_n 2, 1) := by decide +kernel
theorem dL_law_578 : decode cL_law 578 = .ok (.invokevirtual 89, 3) := by decide +kernel
theorem dL_law_581 : decode cL_law 581 = .ok (.if_icmp .eq 169, 3) := by decide +kernel
theorem dL_law_584 : decode cL_law 584 = .ok (.iconst 0, 1) := by decide +kernel
theorem dL_law_585 : decode cL_law 585 = .ok (.ireturn, 1) := by decide +kernel
theorem dL_law_586 : decode cL_law 586 = .ok (.aload_n 1, 1) := by decide +kernel
theorem dL_law_587 : decode cL_law 587 = .ok (.aload_n 0, 1) := by decide +kernel
theorem dL_law_588 : decode cL_law 588 = .ok (.iload_n 3, 1) := by decide +kernel
theorem dL_law_589 : decode cL_law 589 = .ok (.iconst 1, 1) := by decide +kernel
theorem dL_law_590 : decode cL_law 590 = .ok (.iadd, 1) := by decide +kernel
theorem dL_law_591 : decode cL_law 591 = .ok (.iaload, 1) := by decide +kernel
theorem dL_law_592 : decode cL_law 592 = .ok (.aload_n 0, 1) := by decide +kernel
theorem dL_law_593 : decode cL_law 593 = .ok (.iload_n 3, 1) := by decide +kernel
theorem dL_law_594 : decode cL_law 594 = .ok (.iconst 2, 1) := by decide +kernel
theorem dL_law_595 : decode cL_law 595 = .ok (.iadd, 1) := by decide +kernel
theorem dL_law_596 : decode cL_law 596 = .ok (.iaload, 1) := by decide +kernel
theorem dL_law_597 : decode cL_law 597 = .ok (.invokevirtual 90, 3) := by decide +kernel
theorem dL_law_600 : decode cL_law 600 = .ok (.aload_n 2, 1) := by decide +kernel
theorem dL_law_601 : decode cL_law 601 = .ok (.aload_n 0, 1) := by decide +kernel
theorem dL_law_602 : decode cL_law 602 = .ok (.iload_n 3, 1) := by decide +kernel
theorem dL_law_603 : decode cL_law 603 = .ok (.iconst 1, 1) := by decide +kernel
theorem dL_law_604 : decode cL_law 604 = .ok (.iadd, 1) := by decide +kernel
theorem dL_law_605 : decode cL_law 605 = .ok (.iaload, 1) := by decide +kernel
theorem dL_law_606 : decode cL_law 606 = .ok (.aload_n 0, 1) := by decide +kernel
theorem dL_law_607 : decode cL_law 607 = .ok (.iload_n 3, 1) := by decide +kernel
theorem dL_law_608 : decode cL_law 608 = .ok (.iconst 2, 1) := by decide +kernel
theorem dL_law_609 : decode cL_law 609 = .ok (.iadd, 1) := by decide +kernel
theorem dL_law_610 : decode cL_law 610 = .ok (.iaload, 1) := by decide +kernel
theorem dL_law_611 : decode cL_law 611 = .ok (.invokevirtual 93, 3) := by decide +kernel
theorem dL_law_614 : decode cL_law 614 = .ok (.if_icmp .eq 136, 3) := by decide +kernel
theorem dL_law_617 : decode cL_law 617 = .ok (.iconst 0, 1) := by decide +kernel
theorem dL_law_618 : decode cL_law 618 = .ok (.ireturn, 1) := by decide +kernel
theorem dL_law_619 : decode cL_law 619 = .ok (.aload_n 1, 1) := by decide +kernel
theorem dL_law_620 : decode cL_law 620 = .ok (.aload_n 0, 1) := by decide +kernel
theorem dL_law_621 : decode cL_law 621 = .ok (.iload_n 3, 1) := by decide +kernel
theorem dL_law_622 : decode cL_law 622 = .ok (.iconst 1, 1) := by decide +kernel
theorem dL_law_623 : decode cL_law 623 = .ok (.iadd, 1) := by decide +kernel
theorem dL_law_624 : decode cL_law 624 = .ok (.iaload, 1) := by decide +kernel
theorem dL_law_625 : decode cL_law 625 = .ok (.invokevirtual 94, 3) := by decide +kernel
theorem dL_law_628 : decode cL_law 628 = .ok (.aload_n 2, 1) := by decide +kernel
theorem dL_law_629 : decode cL_law 629 = .ok (.aload_n 0, 1) := by decide +kernel
theorem dL_law_630 : decode cL_law 630 = .ok (.iload_n 3, 1) := by decide +kernel
theorem dL_law_631 : decode cL_law 631 = .ok (.iconst 1, 1) := by decide +kernel
theorem dL_law_632 : decode cL_law 632 = .ok (.iadd, 1) := by decide +kernel
theorem dL_law_633 : decode cL_law 633 = .ok (.iaload, 1) := by decide +kernel
theorem dL_law_634 : decode cL_law 634 = .ok (.invokevirtual 97, 3) := by decide +kernel
theorem dL_law_637 : decode cL_law 637 = .ok (.if_icmp .eq 113, 3) := by decide +kernel
theorem dL_law_640 : decode cL_law 640 = .ok (.iconst 0, 1) := by decide +kernel
theorem dL_law_641 : decode cL_law 641 = .ok (.ireturn, 1) := by decide +kernel
theorem dL_law_642 : decode cL_law 642 = .ok (.aload_n 1, 1) := by decide +kernel
theorem dL_law_643 : decode cL_law 643 = .ok (.aload_n 0, 1) := by decide +kernel
theorem dL_law_644 : decode cL_law 644 = .ok (.iload_n 3, 1) := by decide +kernel
theorem dL_law_645 : decode cL_law 645 = .ok (.iconst 1, 1) := by decide +kernel
theorem dL_law_646 : decode cL_law 646 = .ok (.iadd, 1) := by decide +kernel
theorem dL_law_647 : decode cL_law 647 = .ok (.iaload, 1) := by decide +kernel
theorem dL_law_648 : decode cL_law 648 = .ok (.invokevirtual 98, 3) := by decide +kernel
theorem dL_law_651 : decode cL_law 651 = .ok (.aload_n 2, 1) := by decide +kernel
theorem dL_law_652 : decode cL_law 652 = .ok (.aload_n 0, 1) := by decide +kernel
theorem dL_law_653 : decode cL_law 653 = .ok (.iload_n 3, 1) := by decide +kernel
theorem dL_law_654 : decode cL_law 654 = .ok (.iconst 1, 1) := by decide +kernel
theorem dL_law_655 : decode cL_law 655 = .ok (.iadd, 1) := by decide +kernel
theorem dL_law_656 : decode cL_law 656 = .ok (.iaload, 1) := by decide +kernel
theorem dL_law_657 : decode cL_law 657 = .ok (.invokevirtual 101, 3) := by decide +kernel
theorem dL_law_660 : decode cL_law 660 = .ok (.if_icmp .eq 90, 3) := by decide +kernel
theorem dL_law_663 : decode cL_law 663 = .ok (.iconst 0, 1) := by decide +kernel
theorem dL_law_664 : decode cL_law 664 = .ok (.ireturn, 1) := by decide +kernel
theorem dL_law_665 : decode cL_law 665 = .ok (.aload_n 1, 1) := by decide +kernel
theorem dL_law_666 : decode cL_law 666 = .ok (.invokevirtual 102, 3) := by decide +kernel
theorem dL_law_669 : decode cL_law 669 = .ok (.aload_n 2, 1) := by decide +kernel
theorem dL_law_670 : decode cL_law 670 = .ok (.invokevirtual 105, 3) := by decide +kernel
theorem dL_law_673 : decode cL_law 673 = .ok (.if_icmp .eq 77, 3) := by decide +kernel
theorem dL_law_676 : decode cL_law 676 = .ok (.iconst 0, 1) := by decide +kernel
theorem dL_law_677 : decode cL_law 677 = .ok (.ireturn, 1) := by decide +kernel
theorem dL_law_678 : decode cL_law 678 = .ok (.aload_n 1, 1) := by decide +kernel
theorem dL_law_679 : decode cL_law 679 = .ok (.aload_n 0, 1) := by decide +kernel
theorem dL_law_680 : decode cL_law 680 = .ok (.iload_n 3, 1) := by decide +kernel
theorem dL_law_681 : decode cL_law 681 = .ok (.iconst 1, 1) := by decide +kernel
theorem dL_law_682 : decode cL_law 682 = .ok (.iadd, 1) := by decide +kernel
theorem dL_law_683 : decode cL_law 683 = .ok (.iaload, 1) := by decide +kernel
theorem dL_law_684 : decode cL_law 684 = .ok (.invokevirtual 106, 3) := by decide +kernel
theorem dL_law_687 : decode cL_law 687 = .ok (.aload_n 2, 1) := by decide +kernel
theorem dL_law_688 : decode cL_law 688 = .ok (.aload_n 0, 1) := by decide +kernel
theorem dL_law_689 : decode cL_law 689 = .ok (.iload_n 3, 1) := by decide +kernel
theorem dL_law_690 : decode cL_law 690 = .ok (.iconst 1, 1) := by decide +kernel
theorem dL_law_691 : decode cL_law 691 = .ok (.iadd, 1) := by decide +kernel
theorem dL_law_692 : decode cL_law 692 = .ok (.iaload, 1) := by decide +kernel
theorem dL_law_693 : decode cL_law 693 = .ok (.invokevirtual 109, 3) := by decide +kernel
theorem dL_law_696 : decode cL_law 696 = .ok (.if_icmp .eq 54, 3) := by decide +kernel
theorem dL_law_699 : decode cL_law 699 = .ok (.iconst 0, 1) := by decide +kernel
theorem dL_law_700 : decode cL_law 700 = .ok (.ireturn, 1) := by decide +kernel
theorem dL_law_701 : decode cL_law 701 = .ok (.aload_n 1, 1) := by decide +kernel
theorem dL_law_702 : decode cL_law 702 = .ok (.invokevirtual 110, 3) := by decide +kernel
theorem dL_law_705 : decode cL_law 705 = .ok (.aload_n 2, 1) := by decide +kernel
theorem dL_law_706 : decode cL_law 706 = .ok (.invokevirtual 113, 3) := by decide +kernel
theorem dL_law_709 : decode cL_law 709 = .ok (.if_icmp .eq 41, 3) := by decide +kernel
theorem dL_law_712 : decode cL_law 712 = .ok (.iconst 0, 1) := by decide +kernel
theorem dL_law_713 : decode cL_law 713 = .ok (.ireturn, 1) := by decide +kernel
theorem dL_law_714 : decode cL_law 714 = .ok (.aload_n 1, 1) := by decide +kernel
theorem dL_law_715 : decode cL_law 715 = .ok (.aload_n 0, 1) := by decide +kernel
theorem dL_law_716 : decode cL_law 716 = .ok (.iload_n 3, 1) := by decide +kernel
theorem dL_law_717 : decode cL_law 717 = .ok (.iconst 1, 1) := by decide +kernel
theorem dL_law_718 : decode cL_law 718 = .ok (.iadd, 1) := by decide +kernel
theorem dL_law_719 : decode cL_law 719 = .ok (.iaload, 1) := by decide +kernel
theorem dL_law_720 : decode cL_law 720 = .ok (.invokevirtual 114, 3) := by decide +kernel
theorem dL_law_723 : decode cL_law 723 = .ok (.aload_n 2, 1) := by decide +kernel
theorem dL_law_724 : decode cL_law 724 = .ok (.aload_n 0, 1) := by decide +kernel
theorem dL_law_725 : decode cL_law 725 = .ok (.iload_n 3, 1) := by decide +kernel
theorem dL_law_726 : decode cL_law 726 = .ok (.iconst 1, 1) := by decide +kernel
theorem dL_law_727 : decode cL_law 727 = .ok (.iadd, 1) := by decide +kernel
theorem dL_law_728 : decode cL_law 728 = .ok (.iaload, 1) := by decide +kernel
theorem dL_law_729 : decode cL_law 729 = .ok (.invokevirtual 117, 3) := by decide +kernel
theorem dL_law_732 : decode cL_law 732 = .ok (.if_icmp .eq 18, 3) := by decide +kernel
theorem dL_law_735 : decode cL_law 735 = .ok (.iconst 0, 1) := by decide +kernel
theorem dL_law_736 : decode cL_law 736 = .ok (.ireturn, 1) := by decide +kernel
theorem dL_law_737 : decode cL_law 737 = .ok (.aload_n 1, 1) := by decide +kernel
theorem dL_law_738 : decode cL_law 738 = .ok (.invokevirtual 118, 3) := by decide +kernel
theorem dL_law_741 : decode cL_law 741 = .ok (.aload_n 2, 1) := by decide +kernel
theorem dL_law_742 : decode cL_law 742 = .ok (.invokevirtual 121, 3) := by decide +kernel
theorem dL_law_745 : decode cL_law 745 = .ok (.if_icmp .eq 5, 3) := by decide +kernel
theorem dL_law_748 : decode cL_law 748 = .ok (.iconst 0, 1) := by decide +kernel
theorem dL_law_749 : decode cL_law 749 = .ok (.ireturn, 1) := by decide +kernel
theorem dL_law_750 : decode cL_law 750 = .ok (.iinc 3 5, 3) := by decide +kernel
theorem dL_law_753 : decode cL_law 753 = .ok (.goto (-735), 3) := by decide +kernel
theorem dL_law_756 : decode cL_law 756 = .ok (.iconst 1, 1) := by decide +kernel
theorem dL_law_757 : decode cL_law 757 = .ok (.ireturn, 1) := by decide +kernel
end
section
/-! THE LAYER: contracts of two forms (reads alone; writes in place), their calls, their ends; guards of the decompiled functions. -/
abbrev gT : Type := va_G × ClassId × ClassId × ClassId
abbrev g_tys (G : gT) : List (ClassId × FieldType) := [(G.2.1, .int), (G.2.2.1, .char), (G.2.2.2, .object "TwoShapes$Table")]
def g_n1 : Cond := .methodLinkNest RX4 100 yX5_isBelow RX5
def g_n2 : Cond := .methodLinkNest RX0 88 yX5_isBelow RX5
def g_n3 : Cond := .methodLinkNest RX5 15 yX4_init RX5
def g_n4 : Cond := .methodLinkNest RX5 25 yX0_init RX5
def g_n5 : Cond := .methodLinkNest RX4 25 yX1_init RX5
def g_nest (U : State) : Prop := va_Nw g_n1 U ∧ va_Nw g_n2 U ∧ va_Nw g_n3 U ∧ va_Nw g_n4 U ∧ va_Nw g_n5 U
theorem g_nest.warm {s U : State} (hW : s.WarmedH U.vm) (h : g_nest s) : g_nest U := ⟨va_Nw.warmM hW h.1, va_Nw.warmM hW h.2.1, va_Nw.warmM hW h.2.2.1, va_Nw.warmM hW h.2.2.2.1, va_Nw.warmM hW h.2.2.2.2⟩
theorem g_nest.same {u U : State} (hv : u.vm = U.vm) (h : g_nest u) : g_nest U := ⟨va_Nw.same rfl hv h.1, va_Nw.same rfl hv h.2.1, va_Nw.same rfl hv h.2.2.1, va_Nw.same rfl hv h.2.2.2.1, va_Nw.same rfl hv h.2.2.2.2⟩
/-- what the tables say: the classes, the array classes, the nest words -/
def gK (G : gT) (U : State) : Prop := va_K G.1 vwCl (g_tys G) U ∧ g_nest U
theorem gK.warm {G : gT} {s U : State} (hW : s.WarmedH U.vm) (h : gK G s) : gK G U := ⟨va_K.moved hW.alike h.1, h.2.warm hW⟩
theorem gK.same {G : gT} {u U : State} (hv : u.vm = U.vm) (h : gK G u) : gK G U := ⟨va_K.moved (by rw [hv]; exact Vm.Alike.refl _) h.1, h.2.same hv⟩
def g_pre (G : gT) (w0 : va_W) (sz : Nat) (U : State) : Prop := U.heap.size = sz ∧ va_P G.1 vwCl w0 U.heap ∧ gK G U ∧ va_D (fun _ => True) w0
def g_preR (G : gT) (w0 : va_W) (U : State) : Prop := va_P G.1 vwCl w0 U.heap ∧ gK G U
theorem g_blind {G : gT} {w0 : va_W} {sz : Nat} {av : List Value} : FrameBlind (va_Pc av (g_pre G w0 sz)) := fun a U g mk q => by
  obtain ⟨q0, q1, qP, qK, qD⟩ := q
  exact ⟨q0, q1, qP, gK.same (u := U) (U := U.calling g mk a) rfl qK, qD⟩
theorem g_blindR {G : gT} {w0 : va_W} {av : List Value} : FrameBlind (va_Pc av (g_preR G w0)) := fun a U g mk q => by
  obtain ⟨q0, qP, qK⟩ := q
  exact ⟨q0, qP, gK.same (u := U) (U := U.calling g mk a) rfl qK⟩
def g_post (G : gT) (v : Option Value) (w1 w0 : va_W) (sz : Nat) : Array Value → State → Outcome → State → Prop := fun _ st oc t => (oc = .returned v ∧ va_P G.1 vwCl w1 t.heap ∧ va_D (va_A w0 sz) w1) ∧ va_F (va_A w0 sz) st t
def g_postR (v : Option Value) : Array Value → State → Outcome → State → Prop := fun _ st oc t => oc = .returned v ∧ t.heap = st.heap
/-- the contract of a method that writes in place -/
def gC (l : Launch) (G : gT) (y : MethodName) (ws : List Cond) (rm : Room) (av : List Value) (w0 : va_W) (v : Option Value) (w1 : va_W) : Prop := ∀ sz, Met l y ws rm (va_Pc av (g_pre G w0 sz)) (g_post G v w1 w0 sz) 0 0 (va_A w0 sz)
/-- the contract of a method that only reads -/
def gR (l : Launch) (G : gT) (y : MethodName) (ws : List Cond) (rm : Room) (av : List Value) (w0 : va_W) (v : Option Value) : Prop := Met l y ws rm (va_Pc av (g_preR G w0)) (g_postR v) 0 0 (fun _ => False)
/-- what holds at every place of a method's walk -/
def gX (p : Program) (s : State) (m : MethodId) (args : Array Value) (meth : Method) (c : Code) (cc : ByteArray) (nL : Nat) (ret : Option FieldType) (own : String) (G : gT) : Prop :=
  p.tables.exec = Jvm.exec ∧ c.code = cc ∧ meth.sig.returnType = ret ∧ (∀ w ∈ TB, w.before args s = true) ∧ s.vm.findClass own = some m.cls ∧ meth.locks = false ∧ c.maxLocals = nL ∧ gK G s
/-- the goal of a walk, at pc -/
abbrev gW (p : Program) (l : Launch) (e : Env) (R : Room) (s : State) (m : MethodId) (args : Array Value) (below : List Frame) (meth : Method) (c : Code) (G : gT) (w0 : va_W) (v : Option Value) (w1 : va_W) (H : Heap) (locs : List Loc) (pc : Nat) (ls : Array Slot) (st : List Value) : Prop :=
  W p l e R s m args below meth c H locs 0 0 (MQ below (g_post G v w1 w0 s.heap.size) args s 0 0 (va_A w0 s.heap.size)) (F0 m pc ls st)
abbrev gV (p : Program) (l : Launch) (e : Env) (R : Room) (s : State) (m : MethodId) (args : Array Value) (below : List Frame) (meth : Method) (c : Code) (v : Option Value) (pc : Nat) (ls : Array Slot) (st : List Value) : Prop :=
  W p l e R s m args below meth c s.heap [] 0 0 (MQ below (g_postR v) args s 0 0 (fun _ => False)) (F0 m pc ls st)
theorem gC.of {l : Launch} {G : gT} {y : MethodName} {ws : List Cond} {rm : Room} {av : List Value} {w0 : va_W} {v : Option Value} {w1 : va_W} {cc : ByteArray} {maxL : Nat} {ret : Option FieldType}
    (hy : plainName y.cls = true) (hw : ws = Cond.code y cc maxL ret :: TB) (hn : (lg_sl av).length ≤ maxL)
    (body : ∀ (p : Program) (e : Env) (s : State) (m : MethodId) (below : List Frame) (meth : Method) (c : Code), gX p s m av.toArray meth c cc maxL ret y.cls G → va_P G.1 vwCl w0 s.heap → va_D (va_A w0 s.heap.size) w0 → va_S (va_A w0 s.heap.size) s.heap s.heap [] →
      ∀ ls, lv_has ls maxL (lv_args 0 av) → gW p l e (headSpec ws rm).room s m av.toArray below meth c G w0 v w1 s.heap [] 0 ls []) : gC l G y ws rm av w0 v w1 := by
  intro sz
  refine Met.ofW (cc := cc) (maxL := maxL) (ret := ret) hy hw ?_
  intro p e s m args below meth c s₁ B hml hv
  obtain ⟨rfl, hsz, hP, hK, hD0⟩ := hv
  subst hsz
  rw [lg_entry_eq]
  exact body p e s m below meth c ⟨B.exec, B.bytes, B.returns, fun w h => atoms_spec (ws := ws) B.pre w (by rw [hw]; exact List.mem_cons_of_mem _ h), findClass_of_methodNamed B.named, B.notSynchronized, hml, hK⟩ hP hD0.self va_S.rf _ (lv_entry av hn)
theorem gR.of {l : Launch} {G : gT} {y : MethodName} {ws : List Cond} {rm : Room} {av : List Value} {w0 : va_W} {v : Option Value} {cc : ByteArray} {maxL : Nat} {ret : Option FieldType}
    (hy : plainName y.cls = true) (hw : ws = Cond.code y cc maxL ret :: TB) (hn : (lg_sl av).length ≤ maxL)
    (body : ∀ (p : Program) (e : Env) (s : State) (m : MethodId) (below : List Frame) (meth : Method) (c : Code), gX p s m av.toArray meth c cc maxL ret y.cls G → va_P G.1 vwCl w0 s.heap →
      ∀ ls, lv_has ls maxL (lv_args 0 av) → gV p l e (headSpec ws rm).room s m av.toArray below meth c v 0 ls []) : gR l G y ws rm av w0 v := by
  refine Met.ofW (cc := cc) (maxL := maxL) (ret := ret) hy hw ?_
  intro p e s m args below meth c s₁ B hml hv
  obtain ⟨rfl, hP, hK⟩ := hv
  rw [lg_entry_eq]
  exact body p e s m below meth c ⟨B.exec, B.bytes, B.returns, fun w h => atoms_spec (ws := ws) B.pre w (by rw [hw]; exact List.mem_cons_of_mem _ h), findClass_of_methodNamed B.named, B.notSynchronized, hml, hK⟩ hP _ (lv_entry av hn)
/-- a world with some places written anew -/
def g_put : va_W → List Nat → va_W → va_W
  | ws, i :: is, q :: qs => g_put (ws.set i q) is qs
  | ws, _, _ => ws
theorem g_put_get : ∀ (is : List Nat) (qs ws : va_W) (k : Nat) (q : Nat × va_E), is.length = qs.length → (g_put ws is qs)[k]? = some q → (∃ j : Nat, is[j]? = some k ∧ qs[j]? = some q) ∨ (k ∉ is ∧ ws[k]? = some q) := by
  intro is
  induction is with
  | nil =>
    intro qs ws k q _ h
    have h' : ws[k]? = some q := by simpa [g_put] using h
    exact Or.inr ⟨by simp, h'⟩
  | cons i is ih =>
    intro qs ws k q hl h
    cases qs with
    | nil => simp at hl
    | cons q0 qs =>
      have h' : (g_put (ws.set i q0) is qs)[k]? = some q := h
      rcases ih qs (ws.set i q0) k q (by simpa using hl) h' with ⟨j, h1, h2⟩ | ⟨h1, h2⟩
      · exact Or.inl ⟨j + 1, by simpa using h1, by simpa using h2⟩
      · by_cases hk : k = i
        · subst hk
          rw [List.getElem?_set] at h2
          simp only [if_true] at h2
          split at h2
          · exact Or.inl ⟨0, by simp, by simpa using h2⟩
          · cases h2
        · rw [List.getElem?_set_ne (fun e => hk e.symm)] at h2
          exact Or.inr ⟨by simp [hk, h1], h2⟩
section GL
variable {p : Program} {l : Launch} {e : Env} {R : Room} {s : State} {m : MethodId} {args : Array Value} {below : List Frame} {meth : Method} {c : Code} {H : Heap} {locs : List Loc} {Q : State → Prop}
variable {G : gT} {pc : Nat} {ls : Array Slot} {rest st0 : List Value} {a : Array Value} {A0 : Nat → Prop} {H0 : Heap}
theorem g_contR {v : Option Value} {st1 : List Value} (hr : va_Run p l e R s m args below meth c H locs 0 0 0 0 (F0 m pc ls st0) rest (g_postR v a) (fun _ => False)) (hs : v.toList ++ rest = st1)
    (kk : W p l e R s m args below meth c H locs 0 0 Q (F0 m (pc + 3) ls st1)) : W p l e R s m args below meth c H locs 0 0 Q (F0 m pc ls st0) := by
  subst hs
  intro T hT X
  obtain ⟨v', st₀, t, T', L, h0, X', hL, e1, e2, ⟨hv, hh⟩, st⟩ := hr T hT X
  cases hv
  obtain ⟨t2, a1, b1⟩ := kk T' (by rw [e1, hh, h0]) (Stand.forget X' (fun q h => (hL q h).elim))
  exact ⟨t2, st t2 a1, b1⟩
theorem g_contC {v : Option Value} {st1 : List Value} {ws w0 w1 : va_W} (hr : va_Run p l e R s m args below meth c H locs 0 0 0 0 (F0 m pc ls st0) rest (g_post G v w1 w0 H.size a) (va_A w0 H.size)) (hs : v.toList ++ rest = st1) (hP : va_P G.1 vwCl ws H) (hD : va_D A0 ws) (hS : va_S A0 H0 H locs) (hA : ∀ q, H0.size ≤ q → A0 q)
    (isC : List Nat) (hC : isC.map (fun i => ws[i]?) = w0.map some) (haddr : w1.map (fun q => q.1) = w0.map (fun q => q.1))
    (kk : ∀ (H1 : Heap) (locs1 : List Loc), va_P G.1 vwCl (g_put ws isC w1) H1 → va_D A0 (g_put ws isC w1) → va_S A0 H0 H1 locs1 → W p l e R s m args below meth c H1 locs1 0 0 Q (F0 m (pc + 3) ls st1)) : W p l e R s m args below meth c H locs 0 0 Q (F0 m pc ls st0) := by
  subst hs
  have hF := va_free hD hS hA isC hC
  have hlen : isC.length = w1.length := by
    have h1 := congrArg List.length hC
    have h2 := congrArg List.length haddr
    simp at h1 h2
    omega
  have at' : ∀ (j k : Nat), isC[j]? = some k → ∃ q, w0[j]? = some q ∧ ws[k]? = some q := by
    intro j k hj
    have h1 : (isC.map (fun i => ws[i]?))[j]? = some ws[k]? := by rw [List.getElem?_map, hj]; rfl
    rw [hC, List.getElem?_map] at h1
    cases hw : w0[j]? with
    | none => rw [hw] at h1; cases h1
    | some q => rw [hw] at h1; exact ⟨q, rfl, (Option.some.inj h1).symm⟩
  have ad' : ∀ (j : Nat) (q q' : Nat × va_E), w1[j]? = some q → w0[j]? = some q' → q.1 = q'.1 := by
    intro j q q' h1 h2
    have h3 : (w1.map (fun q => q.1))[j]? = some q.1 := by rw [List.getElem?_map, h1]; rfl
    rw [haddr, List.getElem?_map, h2] at h3
    exact (Option.some.inj h3).symm
  have same : ∀ (k : Nat) (q : Nat × va_E), (g_put ws isC w1)[k]? = some q → ∃ q', ws[k]? = some q' ∧ q'.1 = q.1 := by
    intro k q hk
    rcases g_put_get isC w1 ws k q hlen hk with ⟨j, h1, h2⟩ | ⟨-, h2⟩
    · obtain ⟨q', h3, h4⟩ := at' j k h1
      exact ⟨q', h4, (ad' j q q' h2 h3).symm⟩
    · exact ⟨q, h2, rfl⟩
  intro T hT X
  obtain ⟨v', st₀, t, T', L, h0, X', hL, e1, e2, ⟨⟨hv, hP1, hD1⟩, hz, hk⟩, st⟩ := hr T hT X
  cases hv
  rw [h0] at hz hk
  have hP2 : va_P G.1 vwCl (g_put ws isC w1) T'.heap := by
    intro k q hq
    rw [e1]
    rcases g_put_get isC w1 ws k q hlen hq with ⟨j, h1, h2⟩ | ⟨h1, h2⟩
    · exact hP1 j q h2
    · refine (hP k q h2).kept (hk q.1 (hP k q h2).lt ?_)
      rintro (⟨j, e0, hj⟩ | hj)
      · have h3 : (isC.map (fun i => ws[i]?))[j]? = some (some (q.1, e0)) := by rw [hC, List.getElem?_map, hj]; rfl
        rw [List.getElem?_map] at h3
        cases hi : isC[j]? with
        | none => rw [hi] at h3; cases h3
        | some i =>
          rw [hi] at h3
          have h4 : ws[i]? = some (q.1, e0) := Option.some.inj h3
          have h5 := hD.1 k i q (q.1, e0) h2 h4 rfl
          subst h5
          exact h1 (List.mem_of_getElem? hi)
      · exact absurd (hP k q h2).lt (by omega)
  have hD2 : va_D A0 (g_put ws isC w1) := by
    refine ⟨fun i j x y hx hy hxy => ?_, fun k q hq => ?_⟩
    · obtain ⟨x', hx1, hx2⟩ := same i x hx
      obtain ⟨y', hy1, hy2⟩ := same j y hy
      exact hD.1 i j x' y' hx1 hy1 (by rw [hx2, hy2, hxy])
    · obtain ⟨q', h1, h2⟩ := same k q hq
      rw [← h2]
      exact hD.2 k q' h1
  obtain ⟨t2, a1, b1⟩ := kk T'.heap (locs ++ L) hP2 hD2
    ⟨Nat.le_trans hS.1 (by rw [e1]; exact hz), fun q h1 h2 => by rw [e1, hk q (Nat.lt_of_lt_of_le h1 hS.1) (fun z => h2 (hF q z))]; exact hS.2.1 q h1 h2, fun q hq => by
      rcases List.mem_append.mp hq with h | h
      · exact hS.2.2 q h
      · exact hF _ (hL q h)⟩ T' rfl X'
  exact ⟨t2, st t2 a1, b1⟩
variable {y : MethodName} {bytes cc : ByteArray} {maxL nL n index : Nat} {ret : Option FieldType} {ws : List Cond} {rm : Room} {Ts : List Cond} {own C : String} {b : Addr} {As : List Value} {w0 w1 : va_W} {v : Option Value}
theorem g_runVC (S : CallFix p m c cc nL s args Ts own) (hM : gC l G y ws rm (.ref b :: As) w0 v w1) (cw : CallW R s args own C index y bytes maxL ret ws rm 0 0 n) (hK : gK G s) (hP : va_P G.1 vwCl w0 H) (hD : va_D A0 w0) (q0 : Nat) {ci N : Nat} {T : u_T} {fs : List Value} (he : w0[q0]? = some (b, .inr (ci, fs))) (hc : vwCl[ci]? = some (C, T, N)) (hn : As.length = n) (hsize : ls.size = nL) (hst : st0 = As.reverse ++ .ref b :: rest) (hW : (rest.map fun v => v.category).sum ≤ 8) (hdg : decode cc pc = .ok (.invokevirtual index, 3)) :
    va_Run p l e R s m args below meth c H locs 0 0 0 0 (F0 m pc ls st0) rest (g_post G v w1 w0 H.size (Value.ref b :: As).toArray) (va_A w0 H.size) :=
  va_runV S (hM H.size) cw ⟨g_blind, va_recv hK.1 hP hc he, fun U hU hw => ⟨rfl, by rw [hU], by rw [hU]; exact hP, hK.warm hw, hD.weaken (fun _ _ _ _ => trivial)⟩⟩ rfl hn hsize hst (lv_room hW) hdg ⟨Nat.zero_le _, Nat.zero_le _⟩
theorem g_runVR (S : CallFix p m c cc nL s args Ts own) (hM : gR l G y ws rm (.ref b :: As) w0 v) (cw : CallW R s args own C index y bytes maxL ret ws rm 0 0 n) (hK : gK G s) (hP : va_P G.1 vwCl w0 H) (q0 : Nat) {ci N : Nat} {T : u_T} {fs : List Value} (he : w0[q0]? = some (b, .inr (ci, fs))) (hc : vwCl[ci]? = some (C, T, N)) (hn : As.length = n) (hsize : ls.size = nL) (hst : st0 = As.reverse ++ .ref b :: rest) (hW : (rest.map fun v => v.category).sum ≤ 8) (hdg : decode cc pc = .ok (.invokevirtual index, 3)) :
    va_Run p l e R s m args below meth c H locs 0 0 0 0 (F0 m pc ls st0) rest (g_postR v (Value.ref b :: As).toArray) (fun _ => False) :=
  va_runV S hM cw ⟨g_blindR, va_recv hK.1 hP hc he, fun U hU hw => ⟨rfl, by rw [hU]; exact hP, hK.warm hw⟩⟩ rfl hn hsize hst (lv_room hW) hdg ⟨Nat.zero_le _, Nat.zero_le _⟩
theorem g_runSR (S : CallFix p m c cc nL s args Ts own) (hM : gR l G y ws rm As w0 v) (cw : CallB R s args own index y bytes maxL ret ws rm 0 0 n ∧ (Cond.static y).before args s = true) (hK : gK G s) (hP : va_P G.1 vwCl w0 H) (hn : As.length = n) (hsize : ls.size = nL) (hst : st0 = As.reverse ++ rest) (hW : (rest.map fun v => v.category).sum ≤ 8) (hdg : decode cc pc = .ok (.invokestatic index, 3)) :
    va_Run p l e R s m args below meth c H locs 0 0 0 0 (F0 m pc ls st0) rest (g_postR v As.toArray) (fun _ => False) :=
  va_runS S hM cw ⟨g_blindR, fun U hU hw => ⟨rfl, by rw [hU]; exact hP, hK.warm hw⟩⟩ rfl hn hsize hst (lv_room hW) hdg ⟨Nat.zero_le _, Nat.zero_le _⟩
theorem g_runSNR {host : String} (S : CallFix p m c cc nL s args Ts own) (hM : gR l G y ws rm As w0 v) (cw : va_CN R s args own index y host bytes maxL ret ws rm 0 0 n ∧ (Cond.static y).before args s = true ∧ True) (hK : gK G s) (hP : va_P G.1 vwCl w0 H) (hn : As.length = n) (hsize : ls.size = nL) (hst : st0 = As.reverse ++ rest) (hW : (rest.map fun v => v.category).sum ≤ 8) (hdg : decode cc pc = .ok (.invokestatic index, 3)) :
    va_Run p l e R s m args below meth c H locs 0 0 0 0 (F0 m pc ls st0) rest (g_postR v As.toArray) (fun _ => False) :=
  va_runSN S hM cw ⟨g_blindR, fun U hU hw => ⟨rfl, by rw [hU]; exact hP, hK.warm hw⟩⟩ rfl hn hsize hst (lv_room hW) hdg ⟨Nat.zero_le _, Nat.zero_le _⟩
-- ends
theorem g_iretR {x : Int32} (hx : p.tables.exec = Jvm.exec) (hb : c.code = cc) (hr : meth.sig.returnType = some .int) (hlocks : meth.locks = false) (hdg : decode cc pc = .ok (.ireturn, 1)) : gV p l e R s m args below meth c (some (.int x)) pc ls [.int x] :=
  W.iret hx hb hr (fun t ht _ => ⟨rfl, ht⟩) (fun q h => by cases h) hdg hlocks
theorem g_zretR {x : Int32} (hx : p.tables.exec = Jvm.exec) (hb : c.code = cc) (hr : meth.sig.returnType = some .boolean) (hlocks : meth.locks = false) (hn : narrow .boolean (.int x) = .int x) (hdg : decode cc pc = .ok (.ireturn, 1)) : gV p l e R s m args below meth c (some (.int x)) pc ls [.int x] :=
  W.zret hx hb hr hn (fun t ht _ => ⟨rfl, ht⟩) (fun q h => by cases h) hdg hlocks
theorem g_aretR {q : Nat} {C : String} (hx : p.tables.exec = Jvm.exec) (hb : c.code = cc) (hr : meth.sig.returnType = some (.object C)) (hlocks : meth.locks = false) (hdg : decode cc pc = .ok (.areturn, 1)) : gV p l e R s m args below meth c (some (.ref q)) pc ls [.ref q] :=
  W.aret hx hb hr (Or.inl ⟨C, rfl⟩) (Or.inr ⟨q, rfl⟩) (fun t ht _ => ⟨rfl, ht⟩) (fun q h => by cases h) hdg hlocks
theorem g_iretC {x : Int32} (hx : p.tables.exec = Jvm.exec) (hb : c.code = cc) (hr : meth.sig.returnType = some .int) (hlocks : meth.locks = false) (hP : va_P G.1 vwCl w1 H) (hD : va_D (va_A w0 s.heap.size) w1) (hS : va_S (va_A w0 s.heap.size) s.heap H locs) (hdg : decode cc pc = .ok (.ireturn, 1)) : gW p l e R s m args below meth c G w0 (some (.int x)) w1 H locs pc ls [.int x] :=
  W.iret hx hb hr (fun t ht _ => ⟨⟨rfl, by rw [ht]; exact hP, hD⟩, hS.F ht⟩) hS.2.2 hdg hlocks
theorem g_zretC {x : Int32} (hx : p.tables.exec = Jvm.exec) (hb : c.code = cc) (hr : meth.sig.returnType = some .boolean) (hlocks : meth.locks = false) (hn : narrow .boolean (.int x) = .int x) (hP : va_P G.1 vwCl w1 H) (hD : va_D (va_A w0 s.heap.size) w1) (hS : va_S (va_A w0 s.heap.size) s.heap H locs) (hdg : decode cc pc = .ok (.ireturn, 1)) : gW p l e R s m args below meth c G w0 (some (.int x)) w1 H locs pc ls [.int x] :=
  W.zret hx hb hr hn (fun t ht _ => ⟨⟨rfl, by rw [ht]; exact hP, hD⟩, hS.F ht⟩) hS.2.2 hdg hlocks
theorem g_aretC {q : Nat} {C : String} (hx : p.tables.exec = Jvm.exec) (hb : c.code = cc) (hr : meth.sig.returnType = some (.object C)) (hlocks : meth.locks = false) (hP : va_P G.1 vwCl w1 H) (hD : va_D (va_A w0 s.heap.size) w1) (hS : va_S (va_A w0 s.heap.size) s.heap H locs) (hdg : decode cc pc = .ok (.areturn, 1)) : gW p l e R s m args below meth c G w0 (some (.ref q)) w1 H locs pc ls [.ref q] :=
  W.aret hx hb hr (Or.inl ⟨C, rfl⟩) (Or.inr ⟨q, rfl⟩) (fun t ht _ => ⟨⟨rfl, by rw [ht]; exact hP, hD⟩, hS.F ht⟩) hS.2.2 hdg hlocks
theorem g_vretC (hx : p.tables.exec = Jvm.exec) (hb : c.code = cc) (hr : meth.sig.returnType = none) (hlocks : meth.locks = false) (hP : va_P G.1 vwCl w1 H) (hD : va_D (va_A w0 s.heap.size) w1) (hS : va_S (va_A w0 s.heap.size) s.heap H locs) (hdg : decode cc pc = .ok (.return_, 1)) : gW p l e R s m args below meth c G w0 none w1 H locs pc ls [] :=
  W.vret hx hb hr (fun t ht _ => ⟨⟨rfl, by rw [ht]; exact hP, hD⟩, hS.F ht⟩) hS.2.2 hdg hlocks
end GL
/-! guards -/
def g_in (i : Int32) (n : Nat) : Bool := decide (¬ (i < 0 ∨ n ≤ i.toNatClampNeg))
theorem g_in_vp {i : Int32} {n : Nat} (h : g_in i n = true) : vp_in i n := show ¬ (i < 0 ∨ n ≤ i.toNatClampNeg) from of_decide_eq_true h
def g_gd {α : Type} (b : Bool) (x : Option α) : Option α := match b with
  | true => x
  | false => none
theorem g_gdS {α : Type} {b : Bool} {x : Option α} {u : α} (h : g_gd b x = some u) : b = true ∧ x = some u := by
  cases b with
  | true => exact ⟨rfl, h⟩
  | false => cases h
theorem g_bdS {α β : Type} {x : Option α} {k : α → Option β} {u : β} (h : x.bind k = some u) : ∃ a, x = some a ∧ k a = some u := by
  cases x with
  | none => cases h
  | some a => exact ⟨a, rfl, h⟩
theorem g_ifT {α : Type} {P : Prop} {d : Decidable P} {x y : Option α} {u : α} (hc : P) (h : (@ite (Option α) P d x y) = some u) : x = some u := by rw [if_pos hc] at h; exact h
theorem g_ifF {α : Type} {P : Prop} {d : Decidable P} {x y : Option α} {u : α} (hc : ¬ P) (h : (@ite (Option α) P d x y) = some u) : y = some u := by rw [if_neg hc] at h; exact h
def g_bl (x : Int32) : Bool := decide (x = 0 ∨ x = 1)
theorem g_nb {x : Int32} (h : g_bl x = true) : narrow .boolean (.int x) = .int x := by
  rcases of_decide_eq_true h with rfl | rfl <;> rfl
/-! worlds -/
def shapeW (G : gT) (h0 h1 h2 : Nat) (nu : Int32) (ver row : Nat → Int32) : va_W := [(h0, .inr (2, [.int nu, .ref h1, .ref h2])), (h1, .inl (G.2.1, 31, .inl ver)), (h2, .inl (G.2.1, 31, .inl row))]
def queueW (G : gT) (h0 h1 h2 h3 : Nat) (len : Int32) (qk qv qr : Nat → Int32) : va_W := [(h0, .inr (1, [.int len, .ref h1, .ref h2, .ref h3])), (h1, .inl (G.2.1, 8, .inl qk)), (h2, .inl (G.2.1, 8, .inl qv)), (h3, .inl (G.2.1, 8, .inl qr))]
def tabW (G : gT) (a : Nat → Nat) (ph la po lo : Int32) (ov orr nv nr : Nat → Int32) (ql : Int32) (qk qv qr wr : Nat → Int32) (wa : Int32) (wc wk : Nat → Int32) : va_W :=
  [(a 0, .inr (3, [.int ph, .int la, .int po, .int lo, .ref (a 1), .ref (a 4), .ref (a 7), .ref (a 11), .int wa, .ref (a 12), .ref (a 13)])), (a 1, .inr (2, [.int 0, .ref (a 2), .ref (a 3)])), (a 2, .inl (G.2.1, 31, .inl ov)), (a 3, .inl (G.2.1, 31, .inl orr)), (a 4, .inr (2, [.int 1, .ref (a 5), .ref (a 6)])), (a 5, .inl (G.2.1, 31, .inl nv)), (a 6, .inl (G.2.1, 31, .inl nr)), (a 7, .inr (1, [.int ql, .ref (a 8), .ref (a 9), .ref (a 10)])), (a 8, .inl (G.2.1, 8, .inl qk)), (a 9, .inl (G.2.1, 8, .inl qv)), (a 10, .inl (G.2.1, 8, .inl qr)), (a 11, .inl (G.2.1, 31, .inl wr)), (a 12, .inl (G.2.1, 3, .inl wc)), (a 13, .inl (G.2.1, 3, .inl wk))]
def ordW (G : gT) (h0 h1 h2 : Nat) (len : Int32) (tx : Nat → Int32) (gi pl re ki : Int32) (nu : Nat → Int32) : va_W := [(h0, .inr (0, [.int len, .ref h1, .int gi, .int pl, .int re, .int ki, .ref h2])), (h1, .inl (G.2.1, 60, .inl tx)), (h2, .inl (G.2.1, 4, .inl nu))]
def modW (G : gT) (a : Nat → Nat) (ss was beg asi : Nat → Int32) (sta : Int32) (txt : Nat → Int32) (typ att rea : Int32) (got row oth : Nat → Int32) : va_W :=
  [(a 0, .inr (5, [.ref (a 1), .ref (a 2), .ref (a 3), .ref (a 4), .int sta, .ref (a 5), .int typ, .int att, .int rea, .ref (a 6), .ref (a 7), .ref (a 8)])), (a 1, .inl (G.2.1, 411, .inl ss)), (a 2, .inl (G.2.1, 1644, .inl was)), (a 3, .inl (G.2.1, 411, .inl beg)), (a 4, .inl (G.2.1, 411, .inl asi)), (a 5, .inl (G.2.2.1, 60, .inl txt)), (a 6, .inl (G.2.1, 4, .inl got)), (a 7, .inl (G.2.1, 4, .inl row)), (a 8, .inl (G.2.1, 4, .inl oth))]
theorem g_0le {n : Nat} : (0 : Nat) ≤ n := Nat.zero_le n
/-! switches -/
def g_off (d lo hi : Int) (offs : Array Int) (x : Int) : Int := if x < lo ∨ hi < x then d else (offs[(x - lo).toNat]?).getD d
theorem g_tsw {p : Program} {l : Launch} {e : Env} {R : Room} {s : State} {m : MethodId} {args : Array Value} {below : List Frame} {meth : Method} {c : Code} {H : Heap} {locs : List Loc} {cells slots : Nat} {Q : State → Prop} {cc : ByteArray} {pc : Nat} {ls : Array Slot} {rest : List Value}
    (hexec : p.tables.exec = Jvm.exec) (hb : c.code = cc) {dflt lo hi : Int} {offs : Array Int} {len : Nat} {x : Int32} {off : Int} {tgt : Nat} (hdg : decode cc pc = .ok (.tableswitch dflt lo hi offs, len)) (ho : g_off dflt lo hi offs x.toInt = off) (hsz : (offs.size : Int) = hi - lo + 1) (ht : (pc : Int) + off = (tgt : Int))
    (k : W p l e R s m args below meth c H locs cells slots Q (F0 m tgt ls rest)) : W p l e R s m args below meth c H locs cells slots Q (F0 m pc ls (.int x :: rest)) := by
  unfold g_off at ho
  by_cases hx : x.toInt < lo ∨ hi < x.toInt
  · rw [if_pos hx] at ho
    exact lv_tableOut hexec hb hdg hx (by rw [ho]; exact ht) k
  · rw [if_neg hx] at ho
    have h1 : ¬ x.toInt < lo := fun q => hx (Or.inl q)
    have h2 : ¬ hi < x.toInt := fun q => hx (Or.inr q)
    have hlt : (x.toInt - lo).toNat < offs.size := by omega
    have hs : offs[(x.toInt - lo).toNat]? = some offs[(x.toInt - lo).toNat] := Array.getElem?_eq_getElem hlt
    rw [hs] at ho
    exact lv_tableIn hexec hb hdg h1 h2 (off := off) (by rw [hs]; exact congrArg some ho) ht k
/-- behind all cases: every place of the table that isn't among them goes to the default -/
theorem g_swd (d lo hi : Int) (offs : Array Int) (used : List Int) {x : Int} (h : ∀ j : Nat, j < offs.size → (lo + j) ∉ used → (offs[j]?).getD d = d) (hsz : (offs.size : Int) = hi - lo + 1) (hu : x ∉ used) : g_off d lo hi offs x = d := by
  unfold g_off
  split
  · rfl
  · rename_i hx
    have h3 : lo + ((x - lo).toNat : Int) = x := by omega
    refine h _ (by omega) ?_
    rw [h3]
    exact hu
end
section
-- TwoShapes.isBelow(II)Z
abbrev rmX5_isBelow : Room := { frames := 0, cells := 0, slots := 0, locals := 0 }
def fX5_isBelow (p0 : Int32) (p1 : Int32) : Option (Int32) := (if p0 < (0 : Int32) then some ((0 : Int32)) else (if p1 ≤ p0 then some ((0 : Int32)) else some ((1 : Int32))))
set_option maxHeartbeats 4000000 in
set_option maxRecDepth 100000 in
theorem qX5_isBelow (l : Launch) (G : gT)  {p0 : Int32} {p1 : Int32} {u : Int32} (hf : fX5_isBelow p0 p1 = some u) : gR l G yX5_isBelow wsX5_isBelow rmX5_isBelow [.int p0, .int p1] [] (some (.int u)) := by
  refine gR.of (cc := cX5_isBelow) (maxL := 2) (ret := (some .boolean)) (by decide) rfl (Nat.le_of_ble_eq_true rfl) ?_
  intro p e s m below meth c C0 hP ls hl
  obtain ⟨hx, hb, hr, hts, hown, hlocks, hml, hK⟩ := id C0
  have hl : lv_has ls 2 [(0, .int p0), (1, .int p1)] := hl
  have hP : va_P G.1 vwCl [] s.heap := hP
  unfold fX5_isBelow at hf
  refine lv_iload_n hx hb dX5_isBelow_0 rfl (lv_at hl 0 rfl) ?_
  refine lv_if_lt (tgt := 13) hx hb dX5_isBelow_1 (by decide) (fun c1 => ?_) (fun c1 => ?_)
  · have hf := g_ifT c1 hf
    refine lv_iconst (v := (0 : Int32)) hx hb dX5_isBelow_13 (by decide) ?_
    cases hf
    exact g_zretR hx hb hr hlocks rfl dX5_isBelow_14
  · have hf := g_ifF c1 hf
    refine lv_iload_n hx hb dX5_isBelow_4 rfl (lv_at hl 0 rfl) ?_
    refine lv_iload_n hx hb dX5_isBelow_5 rfl (lv_at hl 1 rfl) ?_
    refine lv_icmp_ge (tgt := 13) hx hb dX5_isBelow_6 (by decide) (fun c2 => ?_) (fun c2 => ?_)
    · have hf := g_ifT c2 hf
      refine lv_iconst (v := (0 : Int32)) hx hb dX5_isBelow_13 (by decide) ?_
      cases hf
      exact g_zretR hx hb hr hlocks rfl dX5_isBelow_14
    · have hf := g_ifF c2 hf
      refine lv_iconst (v := (1 : Int32)) hx hb dX5_isBelow_9 (by decide) ?_
      refine lv_goto (tgt := 14) hx hb dX5_isBelow_10 (by decide) ?_
      cases hf
      exact g_zretR hx hb hr hlocks rfl dX5_isBelow_14
-- TwoShapes$Row.ofNew(II)I
abbrev rmX2_ofNew : Room := { frames := 0, cells := 0, slots := 0, locals := 0 }
def fX2_ofNew (p0 : Int32) (p1 : Int32) : Option (Int32) := some ((((4 : Int32) * p0) + p1))
set_option maxHeartbeats 4000000 in
set_option maxRecDepth 100000 in
theorem qX2_ofNew (l : Launch) (G : gT)  {p0 : Int32} {p1 : Int32} {u : Int32} (hf : fX2_ofNew p0 p1 = some u) : gR l G yX2_ofNew wsX2_ofNew rmX2_ofNew [.int p0, .int p1] [] (some (.int u)) := by
  refine gR.of (cc := cX2_ofNew) (maxL := 2) (ret := (some .int)) (by decide) rfl (Nat.le_of_ble_eq_true rfl) ?_
  intro p e s m below meth c C0 hP ls hl
  obtain ⟨hx, hb, hr, hts, hown, hlocks, hml, hK⟩ := id C0
  have hl : lv_has ls 2 [(0, .int p0), (1, .int p1)] := hl
  have hP : va_P G.1 vwCl [] s.heap := hP
  unfold fX2_ofNew at hf
  refine lv_iconst (v := (4 : Int32)) hx hb dX2_ofNew_0 (by decide) ?_
  refine lv_iload_n hx hb dX2_ofNew_1 rfl (lv_at hl 0 rfl) ?_
  refine lv_imul hx hb dX2_ofNew_2 ?_
  refine lv_iload_n hx hb dX2_ofNew_3 rfl (lv_at hl 1 rfl) ?_
  refine lv_iadd hx hb dX2_ofNew_4 ?_
  cases hf
  exact g_iretR hx hb hr hlocks dX2_ofNew_5
-- TwoShapes$Row.ofOld(III)I
abbrev rmX2_ofOld : Room := { frames := 1, cells := 0, slots := 0, locals := 21 }
def fX2_ofOld (p0 : Int32) (p1 : Int32) (p2 : Int32) : Option (Int32) := ((fX2_ofNew (((10 : Int32) * p0) + p1) p2).bind fun r1 => some (r1))
set_option maxHeartbeats 4000000 in
set_option maxRecDepth 100000 in
theorem qX2_ofOld (l : Launch) (G : gT)  {p0 : Int32} {p1 : Int32} {p2 : Int32} {u : Int32} (hf : fX2_ofOld p0 p1 p2 = some u) : gR l G yX2_ofOld wsX2_ofOld rmX2_ofOld [.int p0, .int p1, .int p2] [] (some (.int u)) := by
  refine gR.of (cc := cX2_ofOld) (maxL := 3) (ret := (some .int)) (by decide) rfl (Nat.le_of_ble_eq_true rfl) ?_
  intro p e s m below meth c C0 hP ls hl
  obtain ⟨hx, hb, hr, hts, hown, hlocks, hml, hK⟩ := id C0
  have hl : lv_has ls 3 [(0, .int p0), (1, .int p1), (2, .int p2)] := hl
  have hP : va_P G.1 vwCl [] s.heap := hP
  unfold fX2_ofOld at hf
  refine lv_bipush (v := (10 : Int32)) hx hb dX2_ofOld_0 (by decide) ?_
  refine lv_iload_n hx hb dX2_ofOld_2 rfl (lv_at hl 0 rfl) ?_
  refine lv_imul hx hb dX2_ofOld_3 ?_
  refine lv_iload_n hx hb dX2_ofOld_4 rfl (lv_at hl 1 rfl) ?_
  refine lv_iadd hx hb dX2_ofOld_5 ?_
  refine lv_iload_n hx hb dX2_ofOld_6 rfl (lv_at hl 2 rfl) ?_
  obtain ⟨r1, e2, hf⟩ := g_bdS hf
  refine g_contR (st1 := [.int r1]) (g_runSR (As := [.int (((10 : Int32) * p0) + p1), .int p2]) (rest := []) ⟨hx, hb, hml, hown, hts⟩ (qX2_ofNew l G e2) (va_cwS 2 hts (TB_S TB_id tw_316 tw_317 tw_56 tw_318) rfl rfl rfl (by decide +kernel) ⟨Nat.le_of_ble_eq_true rfl, Nat.le_of_ble_eq_true rfl⟩) hK (hP.sub [] rfl) rfl hl.1 rfl (Nat.le_of_ble_eq_true rfl) dX2_ofOld_7) rfl ?_
  cases hf
  exact g_iretR hx hb hr hlocks dX2_ofOld_10
-- TwoShapes$Row.isStrange(I)Z
abbrev rmX2_isStrange : Room := { frames := 0, cells := 0, slots := 0, locals := 0 }
def fX2_isStrange (p0 : Int32) : Option (Int32) := (if p0 = (-1 : Int32) then some ((0 : Int32)) else (if (p0 - p0 / (4 : Int32) * (4 : Int32)) ≤ (1 : Int32) then some ((0 : Int32)) else some ((1 : Int32))))
set_option maxHeartbeats 4000000 in
set_option maxRecDepth 100000 in
theorem qX2_isStrange (l : Launch) (G : gT)  {p0 : Int32} {u : Int32} (hf : fX2_isStrange p0 = some u) : gR l G yX2_isStrange wsX2_isStrange rmX2_isStrange [.int p0] [] (some (.int u)) := by
  refine gR.of (cc := cX2_isStrange) (maxL := 1) (ret := (some .boolean)) (by decide) rfl (Nat.le_of_ble_eq_true rfl) ?_
  intro p e s m below meth c C0 hP ls hl
  obtain ⟨hx, hb, hr, hts, hown, hlocks, hml, hK⟩ := id C0
  have hl : lv_has ls 1 [(0, .int p0)] := hl
  have hP : va_P G.1 vwCl [] s.heap := hP
  unfold fX2_isStrange at hf
  refine lv_iload_n hx hb dX2_isStrange_0 rfl (lv_at hl 0 rfl) ?_
  refine lv_iconst (v := (-1 : Int32)) hx hb dX2_isStrange_1 (by decide) ?_
  refine lv_icmp_eq (tgt := 16) hx hb dX2_isStrange_2 (by decide) (fun c1 => ?_) (fun c1 => ?_)
  · have hf := g_ifT c1 hf
    refine lv_iconst (v := (0 : Int32)) hx hb dX2_isStrange_16 (by decide) ?_
    cases hf
    exact g_zretR hx hb hr hlocks rfl dX2_isStrange_17
  · have hf := g_ifF c1 hf
    refine lv_iload_n hx hb dX2_isStrange_5 rfl (lv_at hl 0 rfl) ?_
    refine lv_iconst (v := (4 : Int32)) hx hb dX2_isStrange_6 (by decide) ?_
    refine lv_irem hx hb dX2_isStrange_7 (by decide) ?_
    refine lv_iconst (v := (1 : Int32)) hx hb dX2_isStrange_8 (by decide) ?_
    refine lv_icmp_le (tgt := 16) hx hb dX2_isStrange_9 (by decide) (fun c2 => ?_) (fun c2 => ?_)
    · have hf := g_ifT c2 hf
      refine lv_iconst (v := (0 : Int32)) hx hb dX2_isStrange_16 (by decide) ?_
      cases hf
      exact g_zretR hx hb hr hlocks rfl dX2_isStrange_17
    · have hf := g_ifF c2 hf
      refine lv_iconst (v := (1 : Int32)) hx hb dX2_isStrange_12 (by decide) ?_
      refine lv_goto (tgt := 17) hx hb dX2_isStrange_13 (by decide) ?_
      cases hf
      exact g_zretR hx hb hr hlocks rfl dX2_isStrange_17
-- TwoShapes$Row.madeOver(II)I
abbrev rmX2_madeOver : Room := { frames := 0, cells := 0, slots := 0, locals := 0 }
def fX2_madeOver (p0 : Int32) (p1 : Int32) : Option (Int32) := (if p1 = (1 : Int32) then some (p0) else (if p0 = (-1 : Int32) then some (p0) else (if (p0 - p0 / (4 : Int32) * (4 : Int32)) ≤ (1 : Int32) then some (p0) else some (((p0 - (p0 - p0 / (4 : Int32) * (4 : Int32))) + (1 : Int32))))))
set_option maxHeartbeats 4000000 in
set_option maxRecDepth 100000 in
theorem qX2_madeOver (l : Launch) (G : gT)  {p0 : Int32} {p1 : Int32} {u : Int32} (hf : fX2_madeOver p0 p1 = some u) : gR l G yX2_madeOver wsX2_madeOver rmX2_madeOver [.int p0, .int p1] [] (some (.int u)) := by
  refine gR.of (cc := cX2_madeOver) (maxL := 3) (ret := (some .int)) (by decide) rfl (Nat.le_of_ble_eq_true rfl) ?_
  intro p e s m below meth c C0 hP ls hl
  obtain ⟨hx, hb, hr, hts, hown, hlocks, hml, hK⟩ := id C0
  have hl : lv_has ls 3 [(0, .int p0), (1, .int p1)] := hl
  have hP : va_P G.1 vwCl [] s.heap := hP
  unfold fX2_madeOver at hf
  refine lv_iload_n hx hb dX2_madeOver_0 rfl (lv_at hl 1 rfl) ?_
  refine lv_iconst (v := (1 : Int32)) hx hb dX2_madeOver_1 (by decide) ?_
  refine lv_icmp_eq (tgt := 10) hx hb dX2_madeOver_2 (by decide) (fun c1 => ?_) (fun c1 => ?_)
  · have hf := g_ifT c1 hf
    refine lv_iload_n hx hb dX2_madeOver_10 rfl (lv_at hl 0 rfl) ?_
    cases hf
    exact g_iretR hx hb hr hlocks dX2_madeOver_11
  · have hf := g_ifF c1 hf
    refine lv_iload_n hx hb dX2_madeOver_5 rfl (lv_at hl 0 rfl) ?_
    refine lv_iconst (v := (-1 : Int32)) hx hb dX2_madeOver_6 (by decide) ?_
    refine lv_icmp_ne (tgt := 12) hx hb dX2_madeOver_7 (by decide) (fun c2 => ?_) (fun c2 => ?_)
    · have hf := g_ifF c2 hf
      refine lv_iload_n hx hb dX2_madeOver_12 rfl (lv_at hl 0 rfl) ?_
      refine lv_iconst (v := (4 : Int32)) hx hb dX2_madeOver_13 (by decide) ?_
      refine lv_irem hx hb dX2_madeOver_14 (by decide) ?_
      refine lv_istore_n (lv' := [(2, .int (p0 - p0 / (4 : Int32) * (4 : Int32))), (0, .int p0), (1, .int p1)]) hx hb dX2_madeOver_15 rfl hl (by decide) rfl (fun ls hl => ?_)
      refine lv_iload_n hx hb dX2_madeOver_16 rfl (lv_at hl 0 rfl) ?_
      refine lv_iconst (v := (1 : Int32)) hx hb dX2_madeOver_17 (by decide) ?_
      refine lv_icmp_le (tgt := 29) hx hb dX2_madeOver_18 (by decide) (fun c3 => ?_) (fun c3 => ?_)
      · have hf := g_ifT c3 hf
        refine lv_iload_n hx hb dX2_madeOver_29 rfl (lv_at hl 1 rfl) ?_
        cases hf
        exact g_iretR hx hb hr hlocks dX2_madeOver_30
      · have hf := g_ifF c3 hf
        refine lv_iload_n hx hb dX2_madeOver_21 rfl (lv_at hl 1 rfl) ?_
        refine lv_iload_n hx hb dX2_madeOver_22 rfl (lv_at hl 0 rfl) ?_
        refine lv_isub hx hb dX2_madeOver_23 ?_
        refine lv_iconst (v := (1 : Int32)) hx hb dX2_madeOver_24 (by decide) ?_
        refine lv_iadd hx hb dX2_madeOver_25 ?_
        refine lv_goto (tgt := 30) hx hb dX2_madeOver_26 (by decide) ?_
        cases hf
        exact g_iretR hx hb hr hlocks dX2_madeOver_30
    · have hf := g_ifT c2 hf
      refine lv_iload_n hx hb dX2_madeOver_10 rfl (lv_at hl 0 rfl) ?_
      cases hf
      exact g_iretR hx hb hr hlocks dX2_madeOver_11
-- TwoShapes$Row.number(III)I
abbrev rmX2_number : Room := { frames := 0, cells := 0, slots := 0, locals := 0 }
def fX2_number (p0 : Int32) (p1 : Int32) (p2 : Int32) : Option (Int32) := (if p1 = (1 : Int32) then (if p2 = (0 : Int32) then some ((p0 / (4 : Int32))) else some ((p0 - p0 / (4 : Int32) * (4 : Int32)))) else (if p2 = (2 : Int32) then some ((p0 - p0 / (4 : Int32) * (4 : Int32))) else (if p2 = (0 : Int32) then some (((p0 / (4 : Int32)) / (10 : Int32))) else some (((p0 / (4 : Int32)) - (p0 / (4 : Int32)) / (10 : Int32) * (10 : Int32))))))
set_option maxHeartbeats 4000000 in
set_option maxRecDepth 100000 in
theorem qX2_number (l : Launch) (G : gT)  {p0 : Int32} {p1 : Int32} {p2 : Int32} {u : Int32} (hf : fX2_number p0 p1 p2 = some u) : gR l G yX2_number wsX2_number rmX2_number [.int p0, .int p1, .int p2] [] (some (.int u)) := by
  refine gR.of (cc := cX2_number) (maxL := 5) (ret := (some .int)) (by decide) rfl (Nat.le_of_ble_eq_true rfl) ?_
  intro p e s m below meth c C0 hP ls hl
  obtain ⟨hx, hb, hr, hts, hown, hlocks, hml, hK⟩ := id C0
  have hl : lv_has ls 5 [(0, .int p0), (1, .int p1), (2, .int p2)] := hl
  have hP : va_P G.1 vwCl [] s.heap := hP
  unfold fX2_number at hf
  refine lv_iload_n hx hb dX2_number_0 rfl (lv_at hl 0 rfl) ?_
  refine lv_iconst (v := (4 : Int32)) hx hb dX2_number_1 (by decide) ?_
  refine lv_idiv hx hb dX2_number_2 (by decide) ?_
  refine lv_istore_n (lv' := [(3, .int (p0 / (4 : Int32))), (0, .int p0), (1, .int p1), (2, .int p2)]) hx hb dX2_number_3 rfl hl (by decide) rfl (fun ls hl => ?_)
  refine lv_iload_n hx hb dX2_number_4 rfl (lv_at hl 1 rfl) ?_
  refine lv_iconst (v := (4 : Int32)) hx hb dX2_number_5 (by decide) ?_
  refine lv_irem hx hb dX2_number_6 (by decide) ?_
  refine lv_istore (lv' := [(4, .int (p0 - p0 / (4 : Int32) * (4 : Int32))), (3, .int (p0 / (4 : Int32))), (0, .int p0), (1, .int p1), (2, .int p2)]) hx hb dX2_number_7 hl (by decide) rfl (fun ls hl => ?_)
  refine lv_iload_n hx hb dX2_number_9 rfl (lv_at hl 3 rfl) ?_
  refine lv_iconst (v := (1 : Int32)) hx hb dX2_number_10 (by decide) ?_
  refine lv_icmp_ne (tgt := 25) hx hb dX2_number_11 (by decide) (fun c1 => ?_) (fun c1 => ?_)
  · have hf := g_ifF c1 hf
    refine lv_iload_n hx hb dX2_number_25 rfl (lv_at hl 4 rfl) ?_
    refine lv_iconst (v := (2 : Int32)) hx hb dX2_number_26 (by decide) ?_
    refine lv_icmp_ne (tgt := 33) hx hb dX2_number_27 (by decide) (fun c2 => ?_) (fun c2 => ?_)
    · have hf := g_ifF c2 hf
      refine lv_iload_n hx hb dX2_number_33 rfl (lv_at hl 4 rfl) ?_
      refine lv_if_ne (tgt := 44) hx hb dX2_number_34 (by decide) (fun c3 => ?_) (fun c3 => ?_)
      · have hf := g_ifF c3 hf
        refine lv_iload_n hx hb dX2_number_44 rfl (lv_at hl 1 rfl) ?_
        refine lv_bipush (v := (10 : Int32)) hx hb dX2_number_45 (by decide) ?_
        refine lv_irem hx hb dX2_number_47 (by decide) ?_
        cases hf
        exact g_iretR hx hb hr hlocks dX2_number_48
      · have hf := g_ifT c3 hf
        refine lv_iload_n hx hb dX2_number_37 rfl (lv_at hl 1 rfl) ?_
        refine lv_bipush (v := (10 : Int32)) hx hb dX2_number_38 (by decide) ?_
        refine lv_idiv hx hb dX2_number_40 (by decide) ?_
        refine lv_goto (tgt := 48) hx hb dX2_number_41 (by decide) ?_
        cases hf
        exact g_iretR hx hb hr hlocks dX2_number_48
    · have hf := g_ifT c2 hf
      refine lv_iload hx hb dX2_number_30 (lv_at hl 0 rfl) ?_
      cases hf
      exact g_iretR hx hb hr hlocks dX2_number_32
  · have hf := g_ifT c1 hf
    refine lv_iload_n hx hb dX2_number_14 rfl (lv_at hl 4 rfl) ?_
    refine lv_if_ne (tgt := 22) hx hb dX2_number_15 (by decide) (fun c4 => ?_) (fun c4 => ?_)
    · have hf := g_ifF c4 hf
      refine lv_iload hx hb dX2_number_22 (lv_at hl 0 rfl) ?_
      cases hf
      exact g_iretR hx hb hr hlocks dX2_number_24
    · have hf := g_ifT c4 hf
      refine lv_iload_n hx hb dX2_number_18 rfl (lv_at hl 1 rfl) ?_
      refine lv_goto (tgt := 24) hx hb dX2_number_19 (by decide) ?_
      cases hf
      exact g_iretR hx hb hr hlocks dX2_number_24
-- TwoShapes$Shape.clear()V
abbrev rmX3_clear : Room := { frames := 0, cells := 0, slots := 0, locals := 0 }
def fX3_clear_b2 : Nat → Int32 → Int32 → (Nat → Int32) → (Nat → Int32) → Option ((Nat → Int32) × (Nat → Int32))
  | 0, _, _, _, _ => none
  | n + 1, nu, x1, ver, row => (if (31 : Int32) ≤ x1 then some (ver, row) else g_gd (g_in x1 31) (g_gd (g_in x1 31) (fX3_clear_b2 n nu (x1 + (1 : Int32)) (upd ver x1.toNatClampNeg (0 : Int32)) (upd row x1.toNatClampNeg (-1 : Int32)))))
set_option maxHeartbeats 4000000 in
set_option maxRecDepth 100000 in
theorem kX3_clear_b2 {p : Program} {l : Launch} {e : Env} {s : State} {m : MethodId} {args : Array Value} {below : List Frame} {meth : Method} {c : Code} {G : gT} {h0 h1 h2 : Nat} {w0 : va_W} (C0 : gX p s m args meth c cX3_clear 2 none RX3 G) :
    ∀ (n : Nat) (nu : Int32) (x1 : Int32) (ver : Nat → Int32) (row : Nat → Int32) (u : (Nat → Int32) × (Nat → Int32)), fX3_clear_b2 n nu x1 ver row = some u → ∀ (H : Heap) (locs : List Loc), va_P G.1 vwCl [(h0, .inr (2, [.int nu, .ref h1, .ref h2])), (h1, .inl (G.2.1, 31, .inl ver)), (h2, .inl (G.2.1, 31, .inl row))] H → va_D (va_A w0 s.heap.size) [(h0, .inr (2, [.int nu, .ref h1, .ref h2])), (h1, .inl (G.2.1, 31, .inl ver)), (h2, .inl (G.2.1, 31, .inl row))] → va_S (va_A w0 s.heap.size) s.heap H locs → ∀ ls, lv_has ls 2 [(0, .ref h0), (1, .int x1)] → gW p l e (headSpec wsX3_clear rmX3_clear).room s m args below meth c G w0 none (shapeW G h0 h1 h2 nu u.1 u.2) H locs 2 ls [] := by
  obtain ⟨hx, hb, hr, hts, hown, hlocks, hml, hK⟩ := id C0
  have hA : ∀ q : Nat, s.heap.size ≤ q → va_A w0 s.heap.size q := fun q h => Or.inr h
  intro n
  induction n with
  | zero =>
    intro nu x1 ver row u hf H locs hP hD hS ls hl
    have hf : (none : Option ((Nat → Int32) × (Nat → Int32))) = some u := hf
    cases hf
  | succ n ih =>
    intro nu x1 ver row u hf H locs hP hD hS ls hl
    rw [fX3_clear_b2] at hf
    refine lv_iload_n hx hb dX3_clear_2 rfl (lv_at hl 1 rfl) ?_
    refine lv_bipush (v := (31 : Int32)) hx hb dX3_clear_3 (by decide) ?_
    refine lv_icmp_ge (tgt := 28) hx hb dX3_clear_5 (by decide) (fun c1 => ?_) (fun c1 => ?_)
    · have hf := g_ifT c1 hf
      cases hf
      exact g_vretC hx hb hr hlocks hP hD hS dX3_clear_28
    · have hf := g_ifF c1 hf
      refine lv_aload_n hx hb dX3_clear_8 rfl (lv_at hl 0 rfl) ?_
      refine va_get (D := G.1) (ci := 2) (v := .ref h1) (C := RX3) (T := TX3) (N := 3) hx hb hts hX3 hown hK.1 hP 0 rfl rfl 1 (by decide) (hts _ tw_85) (fun _ h9 => h9) rfl dX3_clear_9 ?_
      refine lv_iload_n hx hb dX3_clear_12 rfl (lv_at hl 1 rfl) ?_
      refine lv_iconst (v := (0 : Int32)) hx hb dX3_clear_13 (by decide) ?_
      obtain ⟨g2, hf⟩ := g_gdS hf
      refine va_iast hx hb hK.1 hP hD hS 1 0 rfl rfl (g_in_vp g2) dX3_clear_14 (fun H locs hP hD hS => ?_)
      have hP : va_P G.1 vwCl [(h0, .inr (2, [.int nu, .ref h1, .ref h2])), (h1, .inl (G.2.1, 31, .inl (upd ver x1.toNatClampNeg (0 : Int32)))), (h2, .inl (G.2.1, 31, .inl row))] H := hP
      have hD : va_D (va_A w0 s.heap.size) [(h0, .inr (2, [.int nu, .ref h1, .ref h2])), (h1, .inl (G.2.1, 31, .inl (upd ver x1.toNatClampNeg (0 : Int32)))), (h2, .inl (G.2.1, 31, .inl row))] := hD
      refine lv_aload_n hx hb dX3_clear_15 rfl (lv_at hl 0 rfl) ?_
      refine va_get (D := G.1) (ci := 2) (v := .ref h2) (C := RX3) (T := TX3) (N := 3) hx hb hts hX3 hown hK.1 hP 0 rfl rfl 2 (by decide) (hts _ tw_88) (fun _ h9 => h9) rfl dX3_clear_16 ?_
      refine lv_iload_n hx hb dX3_clear_19 rfl (lv_at hl 1 rfl) ?_
      refine lv_iconst (v := (-1 : Int32)) hx hb dX3_clear_20 (by decide) ?_
      obtain ⟨g3, hf⟩ := g_gdS hf
      refine va_iast hx hb hK.1 hP hD hS 2 0 rfl rfl (g_in_vp g3) dX3_clear_21 (fun H locs hP hD hS => ?_)
      have hP : va_P G.1 vwCl [(h0, .inr (2, [.int nu, .ref h1, .ref h2])), (h1, .inl (G.2.1, 31, .inl (upd ver x1.toNatClampNeg (0 : Int32)))), (h2, .inl (G.2.1, 31, .inl (upd row x1.toNatClampNeg (-1 : Int32))))] H := hP
      have hD : va_D (va_A w0 s.heap.size) [(h0, .inr (2, [.int nu, .ref h1, .ref h2])), (h1, .inl (G.2.1, 31, .inl (upd ver x1.toNatClampNeg (0 : Int32)))), (h2, .inl (G.2.1, 31, .inl (upd row x1.toNatClampNeg (-1 : Int32))))] := hD
      refine lv_iinc (v := (x1 + (1 : Int32))) (lv' := [(1, .int (x1 + (1 : Int32))), (0, .ref h0)]) hx hb dX3_clear_22 hl (k := 1) rfl rfl (by decide) rfl (fun ls hl => ?_)
      refine lv_goto (tgt := 2) hx hb dX3_clear_25 (by decide) ?_
      exact ih _ _ _ _ _ hf _ _ hP hD hS ls (lv_sub hl [1, 0] rfl)
def fX3_clear (nu : Int32) (ver : Nat → Int32) (row : Nat → Int32) : Option ((Nat → Int32) × (Nat → Int32)) := fX3_clear_b2 2000 nu (0 : Int32) ver row
set_option maxHeartbeats 4000000 in
set_option maxRecDepth 100000 in
theorem qX3_clear (l : Launch) (G : gT) (h0 h1 h2 : Nat) {nu : Int32} {ver : Nat → Int32} {row : Nat → Int32} {u : (Nat → Int32) × (Nat → Int32)} (hf : fX3_clear nu ver row = some u) : gC l G yX3_clear wsX3_clear rmX3_clear [.ref h0] (shapeW G h0 h1 h2 nu ver row) none (shapeW G h0 h1 h2 nu u.1 u.2) := by
  refine gC.of (cc := cX3_clear) (maxL := 2) (ret := none) (by decide) rfl (Nat.le_of_ble_eq_true rfl) ?_
  intro p e s m below meth c C0 hP hD hS ls hl
  obtain ⟨hx, hb, hr, hts, hown, hlocks, hml, hK⟩ := id C0
  have hl : lv_has ls 2 [(0, .ref h0)] := hl
  have hA : ∀ q : Nat, s.heap.size ≤ q → va_A (shapeW G h0 h1 h2 nu ver row) s.heap.size q := fun q h => Or.inr h
  have hP : va_P G.1 vwCl [(h0, .inr (2, [.int nu, .ref h1, .ref h2])), (h1, .inl (G.2.1, 31, .inl ver)), (h2, .inl (G.2.1, 31, .inl row))] s.heap := hP
  have hD : va_D (va_A (shapeW G h0 h1 h2 nu ver row) s.heap.size) [(h0, .inr (2, [.int nu, .ref h1, .ref h2])), (h1, .inl (G.2.1, 31, .inl ver)), (h2, .inl (G.2.1, 31, .inl row))] := hD
  unfold fX3_clear at hf
  refine lv_iconst (v := (0 : Int32)) hx hb dX3_clear_0 (by decide) ?_
  refine lv_istore_n (lv' := [(1, .int (0 : Int32)), (0, .ref h0)]) hx hb dX3_clear_1 rfl hl (by decide) rfl (fun ls hl => ?_)
  exact kX3_clear_b2 C0 2000 _ _ _ _ _ hf _ _ hP hD hS ls (lv_sub hl [1, 0] rfl)
-- TwoShapes$Shape.copyFrom(LTwoShapes$Shape;)V
abbrev rmX3_copyFrom : Room := { frames := 1, cells := 0, slots := 0, locals := 40 }
def fX3_copyFrom (nu : Int32) (onu : Int32) (ver : Nat → Int32) (row : Nat → Int32) (over : Nat → Int32) (orow : Nat → Int32) : Option ((Nat → Int32) × (Nat → Int32) × (Nat → Int32) × (Nat → Int32)) := some ((va_cpy over ver 0 0 31), (va_cpy orow row 0 0 31), over, orow)
set_option maxHeartbeats 4000000 in
set_option maxRecDepth 100000 in
theorem qX3_copyFrom (l : Launch) (G : gT) (h0 h1 h2 : Nat) (k0 k1 k2 : Nat) {nu : Int32} {onu : Int32} {ver : Nat → Int32} {row : Nat → Int32} {over : Nat → Int32} {orow : Nat → Int32} {u : (Nat → Int32) × (Nat → Int32) × (Nat → Int32) × (Nat → Int32)} (hf : fX3_copyFrom nu onu ver row over orow = some u) : gC l G yX3_copyFrom wsX3_copyFrom rmX3_copyFrom [.ref h0, .ref k0] (shapeW G h0 h1 h2 nu ver row ++ shapeW G k0 k1 k2 onu over orow) none (shapeW G h0 h1 h2 nu u.1 u.2.1 ++ shapeW G k0 k1 k2 onu u.2.2.1 u.2.2.2) := by
  refine gC.of (cc := cX3_copyFrom) (maxL := 2) (ret := none) (by decide) rfl (Nat.le_of_ble_eq_true rfl) ?_
  intro p e s m below meth c C0 hP hD hS ls hl
  obtain ⟨hx, hb, hr, hts, hown, hlocks, hml, hK⟩ := id C0
  have hl : lv_has ls 2 [(0, .ref h0), (1, .ref k0)] := hl
  have hA : ∀ q : Nat, s.heap.size ≤ q → va_A (shapeW G h0 h1 h2 nu ver row ++ shapeW G k0 k1 k2 onu over orow) s.heap.size q := fun q h => Or.inr h
  have hP : va_P G.1 vwCl [(h0, .inr (2, [.int nu, .ref h1, .ref h2])), (h1, .inl (G.2.1, 31, .inl ver)), (h2, .inl (G.2.1, 31, .inl row)), (k0, .inr (2, [.int onu, .ref k1, .ref k2])), (k1, .inl (G.2.1, 31, .inl over)), (k2, .inl (G.2.1, 31, .inl orow))] s.heap := hP
  have hD : va_D (va_A (shapeW G h0 h1 h2 nu ver row ++ shapeW G k0 k1 k2 onu over orow) s.heap.size) [(h0, .inr (2, [.int nu, .ref h1, .ref h2])), (h1, .inl (G.2.1, 31, .inl ver)), (h2, .inl (G.2.1, 31, .inl row)), (k0, .inr (2, [.int onu, .ref k1, .ref k2])), (k1, .inl (G.2.1, 31, .inl over)), (k2, .inl (G.2.1, 31, .inl orow))] := hD
  unfold fX3_copyFrom at hf
  refine lv_aload_n hx hb dX3_copyFrom_0 rfl (lv_at hl 1 rfl) ?_
  refine va_get (D := G.1) (ci := 2) (v := .ref k1) (C := RX3) (T := TX3) (N := 3) hx hb hts hX3 hown hK.1 hP 3 rfl rfl 1 (by decide) (hts _ tw_85) (fun _ h9 => h9) rfl dX3_copyFrom_1 ?_
  refine lv_iconst (v := (0 : Int32)) hx hb dX3_copyFrom_4 (by decide) ?_
  refine lv_aload_n hx hb dX3_copyFrom_5 rfl (lv_at hl 0 rfl) ?_
  refine va_get (D := G.1) (ci := 2) (v := .ref h1) (C := RX3) (T := TX3) (N := 3) hx hb hts hX3 hown hK.1 hP 0 rfl rfl 1 (by decide) (hts _ tw_85) (fun _ h9 => h9) rfl dX3_copyFrom_6 ?_
  refine lv_iconst (v := (0 : Int32)) hx hb dX3_copyFrom_9 (by decide) ?_
  refine lv_bipush (v := (31 : Int32)) hx hb dX3_copyFrom_10 (by decide) ?_
  refine va_copyi hx hb (by rw [hml]; exact hl.1.symm) hown (hts _ tw_232) (hts _ tw_234) (hts _ tw_233) (hts _ tw_55) hK.1 hP hD hS 4 1 0 0 (ty := .int) rfl rfl rfl rfl rfl (by decide) (by decide) (by decide) (by decide) (by decide) (fun _ _ => rfl) (by decide) (by decide) dX3_copyFrom_12 (fun H locs hP hD hS => ?_)
  have hP : va_P G.1 vwCl [(h0, .inr (2, [.int nu, .ref h1, .ref h2])), (h1, .inl (G.2.1, 31, .inl (va_cpy over ver 0 0 31))), (h2, .inl (G.2.1, 31, .inl row)), (k0, .inr (2, [.int onu, .ref k1, .ref k2])), (k1, .inl (G.2.1, 31, .inl over)), (k2, .inl (G.2.1, 31, .inl orow))] H := hP
  have hD : va_D (va_A (shapeW G h0 h1 h2 nu ver row ++ shapeW G k0 k1 k2 onu over orow) s.heap.size) [(h0, .inr (2, [.int nu, .ref h1, .ref h2])), (h1, .inl (G.2.1, 31, .inl (va_cpy over ver 0 0 31))), (h2, .inl (G.2.1, 31, .inl row)), (k0, .inr (2, [.int onu, .ref k1, .ref k2])), (k1, .inl (G.2.1, 31, .inl over)), (k2, .inl (G.2.1, 31, .inl orow))] := hD
  refine lv_aload_n hx hb dX3_copyFrom_15 rfl (lv_at hl 1 rfl) ?_
  refine va_get (D := G.1) (ci := 2) (v := .ref k2) (C := RX3) (T := TX3) (N := 3) hx hb hts hX3 hown hK.1 hP 3 rfl rfl 2 (by decide) (hts _ tw_88) (fun _ h9 => h9) rfl dX3_copyFrom_16 ?_
  refine lv_iconst (v := (0 : Int32)) hx hb dX3_copyFrom_19 (by decide) ?_
  refine lv_aload_n hx hb dX3_copyFrom_20 rfl (lv_at hl 0 rfl) ?_
  refine va_get (D := G.1) (ci := 2) (v := .ref h2) (C := RX3) (T := TX3) (N := 3) hx hb hts hX3 hown hK.1 hP 0 rfl rfl 2 (by decide) (hts _ tw_88) (fun _ h9 => h9) rfl dX3_copyFrom_21 ?_
  refine lv_iconst (v := (0 : Int32)) hx hb dX3_copyFrom_24 (by decide) ?_
  refine lv_bipush (v := (31 : Int32)) hx hb dX3_copyFrom_25 (by decide) ?_
  refine va_copyi hx hb (by rw [hml]; exact hl.1.symm) hown (hts _ tw_232) (hts _ tw_234) (hts _ tw_233) (hts _ tw_55) hK.1 hP hD hS 5 2 0 0 (ty := .int) rfl rfl rfl rfl rfl (by decide) (by decide) (by decide) (by decide) (by decide) (fun _ _ => rfl) (by decide) (by decide) dX3_copyFrom_27 (fun H locs hP hD hS => ?_)
  have hP : va_P G.1 vwCl [(h0, .inr (2, [.int nu, .ref h1, .ref h2])), (h1, .inl (G.2.1, 31, .inl (va_cpy over ver 0 0 31))), (h2, .inl (G.2.1, 31, .inl (va_cpy orow row 0 0 31))), (k0, .inr (2, [.int onu, .ref k1, .ref k2])), (k1, .inl (G.2.1, 31, .inl over)), (k2, .inl (G.2.1, 31, .inl orow))] H := hP
  have hD : va_D (va_A (shapeW G h0 h1 h2 nu ver row ++ shapeW G k0 k1 k2 onu over orow) s.heap.size) [(h0, .inr (2, [.int nu, .ref h1, .ref h2])), (h1, .inl (G.2.1, 31, .inl (va_cpy over ver 0 0 31))), (h2, .inl (G.2.1, 31, .inl (va_cpy orow row 0 0 31))), (k0, .inr (2, [.int onu, .ref k1, .ref k2])), (k1, .inl (G.2.1, 31, .inl over)), (k2, .inl (G.2.1, 31, .inl orow))] := hD
  cases hf
  exact g_vretC hx hb hr hlocks hP hD hS dX3_copyFrom_30
-- TwoShapes$Shape.take(III)V
abbrev rmX3_take : Room := { frames := 1, cells := 0, slots := 0, locals := 22 }
def fX3_take (p0 : Int32) (p1 : Int32) (p2 : Int32) (nu : Int32) (ver : Nat → Int32) (row : Nat → Int32) : Option ((Nat → Int32) × (Nat → Int32)) := g_gd (g_in p0 31) ((if p1 < (ver p0.toNatClampNeg) then some (ver, row) else g_gd (g_in p0 31) (((fX2_madeOver p2 nu).bind fun r4 => g_gd (g_in p0 31) (some ((upd ver p0.toNatClampNeg p1), (upd row p0.toNatClampNeg r4)))))))
set_option maxHeartbeats 4000000 in
set_option maxRecDepth 100000 in
theorem qX3_take (l : Launch) (G : gT) (h0 h1 h2 : Nat) {p0 : Int32} {p1 : Int32} {p2 : Int32} {nu : Int32} {ver : Nat → Int32} {row : Nat → Int32} {u : (Nat → Int32) × (Nat → Int32)} (hf : fX3_take p0 p1 p2 nu ver row = some u) : gC l G yX3_take wsX3_take rmX3_take [.ref h0, .int p0, .int p1, .int p2] (shapeW G h0 h1 h2 nu ver row) none (shapeW G h0 h1 h2 nu u.1 u.2) := by
  refine gC.of (cc := cX3_take) (maxL := 4) (ret := none) (by decide) rfl (Nat.le_of_ble_eq_true rfl) ?_
  intro p e s m below meth c C0 hP hD hS ls hl
  obtain ⟨hx, hb, hr, hts, hown, hlocks, hml, hK⟩ := id C0
  have hl : lv_has ls 4 [(0, .ref h0), (1, .int p0), (2, .int p1), (3, .int p2)] := hl
  have hA : ∀ q : Nat, s.heap.size ≤ q → va_A (shapeW G h0 h1 h2 nu ver row) s.heap.size q := fun q h => Or.inr h
  have hP : va_P G.1 vwCl [(h0, .inr (2, [.int nu, .ref h1, .ref h2])), (h1, .inl (G.2.1, 31, .inl ver)), (h2, .inl (G.2.1, 31, .inl row))] s.heap := hP
  have hD : va_D (va_A (shapeW G h0 h1 h2 nu ver row) s.heap.size) [(h0, .inr (2, [.int nu, .ref h1, .ref h2])), (h1, .inl (G.2.1, 31, .inl ver)), (h2, .inl (G.2.1, 31, .inl row))] := hD
  unfold fX3_take at hf
  refine lv_iload_n hx hb dX3_take_0 rfl (lv_at hl 2 rfl) ?_
  refine lv_aload_n hx hb dX3_take_1 rfl (lv_at hl 0 rfl) ?_
  refine va_get (D := G.1) (ci := 2) (v := .ref h1) (C := RX3) (T := TX3) (N := 3) hx hb hts hX3 hown hK.1 hP 0 rfl rfl 1 (by decide) (hts _ tw_85) (fun _ h9 => h9) rfl dX3_take_2 ?_
  refine lv_iload_n hx hb dX3_take_5 rfl (lv_at hl 1 rfl) ?_
  obtain ⟨g1, hf⟩ := g_gdS hf
  refine va_iald hx hb hK.1 hP 1 0 rfl rfl (g_in_vp g1) dX3_take_6 ?_
  refine lv_icmp_lt (tgt := 31) hx hb dX3_take_7 (by decide) (fun c2 => ?_) (fun c2 => ?_)
  · have hf := g_ifT c2 hf
    cases hf
    exact g_vretC hx hb hr hlocks hP hD hS dX3_take_31
  · have hf := g_ifF c2 hf
    refine lv_aload_n hx hb dX3_take_10 rfl (lv_at hl 0 rfl) ?_
    refine va_get (D := G.1) (ci := 2) (v := .ref h1) (C := RX3) (T := TX3) (N := 3) hx hb hts hX3 hown hK.1 hP 0 rfl rfl 1 (by decide) (hts _ tw_85) (fun _ h9 => h9) rfl dX3_take_11 ?_
    refine lv_iload_n hx hb dX3_take_14 rfl (lv_at hl 1 rfl) ?_
    refine lv_iload_n hx hb dX3_take_15 rfl (lv_at hl 2 rfl) ?_
    obtain ⟨g3, hf⟩ := g_gdS hf
    refine va_iast hx hb hK.1 hP hD hS 1 0 rfl rfl (g_in_vp g3) dX3_take_16 (fun H locs hP hD hS => ?_)
    have hP : va_P G.1 vwCl [(h0, .inr (2, [.int nu, .ref h1, .ref h2])), (h1, .inl (G.2.1, 31, .inl (upd ver p0.toNatClampNeg p1))), (h2, .inl (G.2.1, 31, .inl row))] H := hP
    have hD : va_D (va_A (shapeW G h0 h1 h2 nu ver row) s.heap.size) [(h0, .inr (2, [.int nu, .ref h1, .ref h2])), (h1, .inl (G.2.1, 31, .inl (upd ver p0.toNatClampNeg p1))), (h2, .inl (G.2.1, 31, .inl row))] := hD
    refine lv_aload_n hx hb dX3_take_17 rfl (lv_at hl 0 rfl) ?_
    refine va_get (D := G.1) (ci := 2) (v := .ref h2) (C := RX3) (T := TX3) (N := 3) hx hb hts hX3 hown hK.1 hP 0 rfl rfl 2 (by decide) (hts _ tw_88) (fun _ h9 => h9) rfl dX3_take_18 ?_
    refine lv_iload_n hx hb dX3_take_21 rfl (lv_at hl 1 rfl) ?_
    refine lv_iload_n hx hb dX3_take_22 rfl (lv_at hl 3 rfl) ?_
    refine lv_aload_n hx hb dX3_take_23 rfl (lv_at hl 0 rfl) ?_
    refine va_get (D := G.1) (ci := 2) (v := .int nu) (C := RX3) (T := TX3) (N := 3) hx hb hts hX3 hown hK.1 hP 0 rfl rfl 0 (by decide) (hts _ tw_84) (fun _ h9 => h9) rfl dX3_take_24 ?_
    obtain ⟨r4, e5, hf⟩ := g_bdS hf
    refine g_contR (st1 := [.int r4, .int p0, .ref h2]) (g_runSR (As := [.int p2, .int nu]) (rest := [.int p0, .ref h2]) ⟨hx, hb, hml, hown, hts⟩ (qX2_madeOver l G e5) (va_cwS 2 hts (TB_S TB_id tw_337 tw_271 tw_56 tw_272) rfl rfl rfl (by decide +kernel) ⟨Nat.le_of_ble_eq_true rfl, Nat.le_of_ble_eq_true rfl⟩) hK (hP.sub [] rfl) rfl hl.1 rfl (Nat.le_of_ble_eq_true rfl) dX3_take_27) rfl ?_
    obtain ⟨g6, hf⟩ := g_gdS hf
    refine va_iast hx hb hK.1 hP hD hS 2 0 rfl rfl (g_in_vp g6) dX3_take_30 (fun H locs hP hD hS => ?_)
    have hP : va_P G.1 vwCl [(h0, .inr (2, [.int nu, .ref h1, .ref h2])), (h1, .inl (G.2.1, 31, .inl (upd ver p0.toNatClampNeg p1))), (h2, .inl (G.2.1, 31, .inl (upd row p0.toNatClampNeg r4)))] H := hP
    have hD : va_D (va_A (shapeW G h0 h1 h2 nu ver row) s.heap.size) [(h0, .inr (2, [.int nu, .ref h1, .ref h2])), (h1, .inl (G.2.1, 31, .inl (upd ver p0.toNatClampNeg p1))), (h2, .inl (G.2.1, 31, .inl (upd row p0.toNatClampNeg r4)))] := hD
    cases hf
    exact g_vretC hx hb hr hlocks hP hD hS dX3_take_31
-- TwoShapes$Shape.takeFrom(LTwoShapes$Shape;I)V
abbrev rmX3_takeFrom : Room := { frames := 2, cells := 0, slots := 0, locals := 45 }
def fX3_takeFrom (p1 : Int32) (nu : Int32) (onu : Int32) (ver : Nat → Int32) (row : Nat → Int32) (over : Nat → Int32) (orow : Nat → Int32) : Option ((Nat → Int32) × (Nat → Int32) × (Nat → Int32) × (Nat → Int32)) := g_gd (g_in p1 31) (g_gd (g_in p1 31) (((fX3_take p1 (over p1.toNatClampNeg) (orow p1.toNatClampNeg) nu ver row).bind fun r3 => some (r3.1, r3.2, over, orow))))
set_option maxHeartbeats 4000000 in
set_option maxRecDepth 100000 in
theorem qX3_takeFrom (l : Launch) (G : gT) (h0 h1 h2 : Nat) (k0 k1 k2 : Nat) {p1 : Int32} {nu : Int32} {onu : Int32} {ver : Nat → Int32} {row : Nat → Int32} {over : Nat → Int32} {orow : Nat → Int32} {u : (Nat → Int32) × (Nat → Int32) × (Nat → Int32) × (Nat → Int32)} (hf : fX3_takeFrom p1 nu onu ver row over orow = some u) : gC l G yX3_takeFrom wsX3_takeFrom rmX3_takeFrom [.ref h0, .ref k0, .int p1] (shapeW G h0 h1 h2 nu ver row ++ shapeW G k0 k1 k2 onu over orow) none (shapeW G h0 h1 h2 nu u.1 u.2.1 ++ shapeW G k0 k1 k2 onu u.2.2.1 u.2.2.2) := by
  refine gC.of (cc := cX3_takeFrom) (maxL := 3) (ret := none) (by decide) rfl (Nat.le_of_ble_eq_true rfl) ?_
  intro p e s m below meth c C0 hP hD hS ls hl
  obtain ⟨hx, hb, hr, hts, hown, hlocks, hml, hK⟩ := id C0
  have hl : lv_has ls 3 [(0, .ref h0), (1, .ref k0), (2, .int p1)] := hl
  have hA : ∀ q : Nat, s.heap.size ≤ q → va_A (shapeW G h0 h1 h2 nu ver row ++ shapeW G k0 k1 k2 onu over orow) s.heap.size q := fun q h => Or.inr h
  have hP : va_P G.1 vwCl [(h0, .inr (2, [.int nu, .ref h1, .ref h2])), (h1, .inl (G.2.1, 31, .inl ver)), (h2, .inl (G.2.1, 31, .inl row)), (k0, .inr (2, [.int onu, .ref k1, .ref k2])), (k1, .inl (G.2.1, 31, .inl over)), (k2, .inl (G.2.1, 31, .inl orow))] s.heap := hP
  have hD : va_D (va_A (shapeW G h0 h1 h2 nu ver row ++ shapeW G k0 k1 k2 onu over orow) s.heap.size) [(h0, .inr (2, [.int nu, .ref h1, .ref h2])), (h1, .inl (G.2.1, 31, .inl ver)), (h2, .inl (G.2.1, 31, .inl row)), (k0, .inr (2, [.int onu, .ref k1, .ref k2])), (k1, .inl (G.2.1, 31, .inl over)), (k2, .inl (G.2.1, 31, .inl orow))] := hD
  unfold fX3_takeFrom at hf
  refine lv_aload_n hx hb dX3_takeFrom_0 rfl (lv_at hl 0 rfl) ?_
  refine lv_iload_n hx hb dX3_takeFrom_1 rfl (lv_at hl 2 rfl) ?_
  refine lv_aload_n hx hb dX3_takeFrom_2 rfl (lv_at hl 1 rfl) ?_
  refine va_get (D := G.1) (ci := 2) (v := .ref k1) (C := RX3) (T := TX3) (N := 3) hx hb hts hX3 hown hK.1 hP 3 rfl rfl 1 (by decide) (hts _ tw_85) (fun _ h9 => h9) rfl dX3_takeFrom_3 ?_
  refine lv_iload_n hx hb dX3_takeFrom_6 rfl (lv_at hl 2 rfl) ?_
  obtain ⟨g1, hf⟩ := g_gdS hf
  refine va_iald hx hb hK.1 hP 4 0 rfl rfl (g_in_vp g1) dX3_takeFrom_7 ?_
  refine lv_aload_n hx hb dX3_takeFrom_8 rfl (lv_at hl 1 rfl) ?_
  refine va_get (D := G.1) (ci := 2) (v := .ref k2) (C := RX3) (T := TX3) (N := 3) hx hb hts hX3 hown hK.1 hP 3 rfl rfl 2 (by decide) (hts _ tw_88) (fun _ h9 => h9) rfl dX3_takeFrom_9 ?_
  refine lv_iload_n hx hb dX3_takeFrom_12 rfl (lv_at hl 2 rfl) ?_
  obtain ⟨g2, hf⟩ := g_gdS hf
  refine va_iald hx hb hK.1 hP 5 0 rfl rfl (g_in_vp g2) dX3_takeFrom_13 ?_
  obtain ⟨r3, e4, hf⟩ := g_bdS hf
  refine g_contC (st1 := []) (g_runVC (As := [.int p1, .int (over p1.toNatClampNeg), .int (orow p1.toNatClampNeg)]) (rest := []) ⟨hx, hb, hml, hown, hts⟩ (qX3_take l G h0 h1 h2 e4) (cwV 3 hts (TB_V TB_id tw_397 tw_334 tw_335 tw_51 tw_336) rfl rfl rfl (by decide +kernel) ⟨Nat.le_of_ble_eq_true rfl, Nat.le_of_ble_eq_true rfl⟩) hK (hP.sub [0, 1, 2] rfl) (hD.sub [0, 1, 2] (by decide) rfl) 0 rfl rfl rfl hl.1 rfl (Nat.le_of_ble_eq_true rfl) dX3_takeFrom_14) rfl hP hD hS hA [0, 1, 2] rfl rfl (fun H locs hP hD hS => ?_)
  have hP : va_P G.1 vwCl [(h0, .inr (2, [.int nu, .ref h1, .ref h2])), (h1, .inl (G.2.1, 31, .inl r3.1)), (h2, .inl (G.2.1, 31, .inl r3.2)), (k0, .inr (2, [.int onu, .ref k1, .ref k2])), (k1, .inl (G.2.1, 31, .inl over)), (k2, .inl (G.2.1, 31, .inl orow))] H := hP
  have hD : va_D (va_A (shapeW G h0 h1 h2 nu ver row ++ shapeW G k0 k1 k2 onu over orow) s.heap.size) [(h0, .inr (2, [.int nu, .ref h1, .ref h2])), (h1, .inl (G.2.1, 31, .inl r3.1)), (h2, .inl (G.2.1, 31, .inl r3.2)), (k0, .inr (2, [.int onu, .ref k1, .ref k2])), (k1, .inl (G.2.1, 31, .inl over)), (k2, .inl (G.2.1, 31, .inl orow))] := hD
  cases hf
  exact g_vretC hx hb hr hlocks hP hD hS dX3_takeFrom_17
-- TwoShapes$Shape.rows()I
abbrev rmX3_rows : Room := { frames := 0, cells := 0, slots := 0, locals := 0 }
def fX3_rows_b4 : Nat → Int32 → Int32 → Int32 → (Nat → Int32) → (Nat → Int32) → Option (Int32)
  | 0, _, _, _, _, _ => none
  | n + 1, nu, x1, x2, ver, row => (if (31 : Int32) ≤ x2 then some (x1) else g_gd (g_in x2 31) ((if (row x2.toNatClampNeg) = (-1 : Int32) then fX3_rows_b4 n nu (x1 + (0 : Int32)) (x2 + (1 : Int32)) ver row else fX3_rows_b4 n nu (x1 + (1 : Int32)) (x2 + (1 : Int32)) ver row)))
set_option maxHeartbeats 4000000 in
set_option maxRecDepth 100000 in
theorem kX3_rows_b4 {p : Program} {l : Launch} {e : Env} {s : State} {m : MethodId} {args : Array Value} {below : List Frame} {meth : Method} {c : Code} {G : gT} {h0 h1 h2 : Nat} (C0 : gX p s m args meth c cX3_rows 3 (some .int) RX3 G) :
    ∀ (n : Nat) (nu : Int32) (x1 : Int32) (x2 : Int32) (ver : Nat → Int32) (row : Nat → Int32) (u : Int32), fX3_rows_b4 n nu x1 x2 ver row = some u → va_P G.1 vwCl [(h0, .inr (2, [.int nu, .ref h1, .ref h2])), (h1, .inl (G.2.1, 31, .inl ver)), (h2, .inl (G.2.1, 31, .inl row))] s.heap → ∀ ls, lv_has ls 3 [(0, .ref h0), (1, .int x1), (2, .int x2)] → gV p l e (headSpec wsX3_rows rmX3_rows).room s m args below meth c (some (.int u)) 4 ls [] := by
  obtain ⟨hx, hb, hr, hts, hown, hlocks, hml, hK⟩ := id C0
  intro n
  induction n with
  | zero =>
    intro nu x1 x2 ver row u hf hP ls hl
    have hf : (none : Option (Int32)) = some u := hf
    cases hf
  | succ n ih =>
    intro nu x1 x2 ver row u hf hP ls hl
    rw [fX3_rows_b4] at hf
    refine lv_iload_n hx hb dX3_rows_4 rfl (lv_at hl 2 rfl) ?_
    refine lv_bipush (v := (31 : Int32)) hx hb dX3_rows_5 (by decide) ?_
    refine lv_icmp_ge (tgt := 34) hx hb dX3_rows_7 (by decide) (fun c1 => ?_) (fun c1 => ?_)
    · have hf := g_ifT c1 hf
      refine lv_iload_n hx hb dX3_rows_34 rfl (lv_at hl 1 rfl) ?_
      cases hf
      exact g_iretR hx hb hr hlocks dX3_rows_35
    · have hf := g_ifF c1 hf
      refine lv_iload_n hx hb dX3_rows_10 rfl (lv_at hl 1 rfl) ?_
      refine lv_aload_n hx hb dX3_rows_11 rfl (lv_at hl 0 rfl) ?_
      refine va_get (D := G.1) (ci := 2) (v := .ref h2) (C := RX3) (T := TX3) (N := 3) hx hb hts hX3 hown hK.1 hP 0 rfl rfl 2 (by decide) (hts _ tw_88) (fun _ h9 => h9) rfl dX3_rows_12 ?_
      refine lv_iload_n hx hb dX3_rows_15 rfl (lv_at hl 2 rfl) ?_
      obtain ⟨g2, hf⟩ := g_gdS hf
      refine va_iald hx hb hK.1 hP 2 0 rfl rfl (g_in_vp g2) dX3_rows_16 ?_
      refine lv_iconst (v := (-1 : Int32)) hx hb dX3_rows_17 (by decide) ?_
      refine lv_icmp_ne (tgt := 25) hx hb dX3_rows_18 (by decide) (fun c3 => ?_) (fun c3 => ?_)
      · have hf := g_ifF c3 hf
        refine lv_iconst (v := (1 : Int32)) hx hb dX3_rows_25 (by decide) ?_
        refine lv_iadd hx hb dX3_rows_26 ?_
        refine lv_istore_n (lv' := [(1, .int (x1 + (1 : Int32))), (0, .ref h0), (2, .int x2)]) hx hb dX3_rows_27 rfl hl (by decide) rfl (fun ls hl => ?_)
        refine lv_iinc (v := (x2 + (1 : Int32))) (lv' := [(2, .int (x2 + (1 : Int32))), (1, .int (x1 + (1 : Int32))), (0, .ref h0)]) hx hb dX3_rows_28 hl (k := 2) rfl rfl (by decide) rfl (fun ls hl => ?_)
        refine lv_goto (tgt := 4) hx hb dX3_rows_31 (by decide) ?_
        exact ih _ _ _ _ _ _ hf hP ls (lv_sub hl [2, 1, 0] rfl)
      · have hf := g_ifT c3 hf
        refine lv_iconst (v := (0 : Int32)) hx hb dX3_rows_21 (by decide) ?_
        refine lv_goto (tgt := 26) hx hb dX3_rows_22 (by decide) ?_
        refine lv_iadd hx hb dX3_rows_26 ?_
        refine lv_istore_n (lv' := [(1, .int (x1 + (0 : Int32))), (0, .ref h0), (2, .int x2)]) hx hb dX3_rows_27 rfl hl (by decide) rfl (fun ls hl => ?_)
        refine lv_iinc (v := (x2 + (1 : Int32))) (lv' := [(2, .int (x2 + (1 : Int32))), (1, .int (x1 + (0 : Int32))), (0, .ref h0)]) hx hb dX3_rows_28 hl (k := 2) rfl rfl (by decide) rfl (fun ls hl => ?_)
        refine lv_goto (tgt := 4) hx hb dX3_rows_31 (by decide) ?_
        exact ih _ _ _ _ _ _ hf hP ls (lv_sub hl [2, 1, 0] rfl)
def fX3_rows (nu : Int32) (ver : Nat → Int32) (row : Nat → Int32) : Option (Int32) := fX3_rows_b4 2000 nu (0 : Int32) (0 : Int32) ver row
set_option maxHeartbeats 4000000 in
set_option maxRecDepth 100000 in
theorem qX3_rows (l : Launch) (G : gT) (h0 h1 h2 : Nat) {nu : Int32} {ver : Nat → Int32} {row : Nat → Int32} {u : Int32} (hf : fX3_rows nu ver row = some u) : gR l G yX3_rows wsX3_rows rmX3_rows [.ref h0] (shapeW G h0 h1 h2 nu ver row) (some (.int u)) := by
  refine gR.of (cc := cX3_rows) (maxL := 3) (ret := (some .int)) (by decide) rfl (Nat.le_of_ble_eq_true rfl) ?_
  intro p e s m below meth c C0 hP ls hl
  obtain ⟨hx, hb, hr, hts, hown, hlocks, hml, hK⟩ := id C0
  have hl : lv_has ls 3 [(0, .ref h0)] := hl
  have hP : va_P G.1 vwCl [(h0, .inr (2, [.int nu, .ref h1, .ref h2])), (h1, .inl (G.2.1, 31, .inl ver)), (h2, .inl (G.2.1, 31, .inl row))] s.heap := hP
  unfold fX3_rows at hf
  refine lv_iconst (v := (0 : Int32)) hx hb dX3_rows_0 (by decide) ?_
  refine lv_istore_n (lv' := [(1, .int (0 : Int32)), (0, .ref h0)]) hx hb dX3_rows_1 rfl hl (by decide) rfl (fun ls hl => ?_)
  refine lv_iconst (v := (0 : Int32)) hx hb dX3_rows_2 (by decide) ?_
  refine lv_istore_n (lv' := [(2, .int (0 : Int32)), (1, .int (0 : Int32)), (0, .ref h0)]) hx hb dX3_rows_3 rfl hl (by decide) rfl (fun ls hl => ?_)
  exact kX3_rows_b4 C0 2000 _ _ _ _ _ _ hf hP ls (lv_sub hl [2, 1, 0] rfl)
-- TwoShapes$Shape.strangeRows()I
abbrev rmX3_strangeRows : Room := { frames := 1, cells := 0, slots := 0, locals := 20 }
def fX3_strangeRows_b4 : Nat → Int32 → Int32 → Int32 → (Nat → Int32) → (Nat → Int32) → Option (Int32)
  | 0, _, _, _, _, _ => none
  | n + 1, nu, x1, x2, ver, row => (if (31 : Int32) ≤ x2 then some (x1) else g_gd (g_in x2 31) (((fX2_isStrange (row x2.toNatClampNeg)).bind fun r3 => (if r3 = (0 : Int32) then fX3_strangeRows_b4 n nu (x1 + (0 : Int32)) (x2 + (1 : Int32)) ver row else fX3_strangeRows_b4 n nu (x1 + (1 : Int32)) (x2 + (1 : Int32)) ver row))))
set_option maxHeartbeats 4000000 in
set_option maxRecDepth 100000 in
theorem kX3_strangeRows_b4 {p : Program} {l : Launch} {e : Env} {s : State} {m : MethodId} {args : Array Value} {below : List Frame} {meth : Method} {c : Code} {G : gT} {h0 h1 h2 : Nat} (C0 : gX p s m args meth c cX3_strangeRows 3 (some .int) RX3 G) :
    ∀ (n : Nat) (nu : Int32) (x1 : Int32) (x2 : Int32) (ver : Nat → Int32) (row : Nat → Int32) (u : Int32), fX3_strangeRows_b4 n nu x1 x2 ver row = some u → va_P G.1 vwCl [(h0, .inr (2, [.int nu, .ref h1, .ref h2])), (h1, .inl (G.2.1, 31, .inl ver)), (h2, .inl (G.2.1, 31, .inl row))] s.heap → ∀ ls, lv_has ls 3 [(0, .ref h0), (1, .int x1), (2, .int x2)] → gV p l e (headSpec wsX3_strangeRows rmX3_strangeRows).room s m args below meth c (some (.int u)) 4 ls [] := by
  obtain ⟨hx, hb, hr, hts, hown, hlocks, hml, hK⟩ := id C0
  intro n
  induction n with
  | zero =>
    intro nu x1 x2 ver row u hf hP ls hl
    have hf : (none : Option (Int32)) = some u := hf
    cases hf
  | succ n ih =>
    intro nu x1 x2 ver row u hf hP ls hl
    rw [fX3_strangeRows_b4] at hf
    refine lv_iload_n hx hb dX3_strangeRows_4 rfl (lv_at hl 2 rfl) ?_
    refine lv_bipush (v := (31 : Int32)) hx hb dX3_strangeRows_5 (by decide) ?_
    refine lv_icmp_ge (tgt := 36) hx hb dX3_strangeRows_7 (by decide) (fun c1 => ?_) (fun c1 => ?_)
    · have hf := g_ifT c1 hf
      refine lv_iload_n hx hb dX3_strangeRows_36 rfl (lv_at hl 1 rfl) ?_
      cases hf
      exact g_iretR hx hb hr hlocks dX3_strangeRows_37
    · have hf := g_ifF c1 hf
      refine lv_iload_n hx hb dX3_strangeRows_10 rfl (lv_at hl 1 rfl) ?_
      refine lv_aload_n hx hb dX3_strangeRows_11 rfl (lv_at hl 0 rfl) ?_
      refine va_get (D := G.1) (ci := 2) (v := .ref h2) (C := RX3) (T := TX3) (N := 3) hx hb hts hX3 hown hK.1 hP 0 rfl rfl 2 (by decide) (hts _ tw_88) (fun _ h9 => h9) rfl dX3_strangeRows_12 ?_
      refine lv_iload_n hx hb dX3_strangeRows_15 rfl (lv_at hl 2 rfl) ?_
      obtain ⟨g2, hf⟩ := g_gdS hf
      refine va_iald hx hb hK.1 hP 2 0 rfl rfl (g_in_vp g2) dX3_strangeRows_16 ?_
      obtain ⟨r3, e4, hf⟩ := g_bdS hf
      refine g_contR (st1 := [.int r3, .int x1]) (g_runSR (As := [.int (row x2.toNatClampNeg)]) (rest := [.int x1]) ⟨hx, hb, hml, hown, hts⟩ (qX2_isStrange l G e4) (va_cwS 1 hts (TB_S TB_id tw_298 tw_299 tw_56 tw_300) rfl rfl rfl (by decide +kernel) ⟨Nat.le_of_ble_eq_true rfl, Nat.le_of_ble_eq_true rfl⟩) hK (hP.sub [] rfl) rfl hl.1 rfl (Nat.le_of_ble_eq_true rfl) dX3_strangeRows_17) rfl ?_
      refine lv_if_eq (tgt := 27) hx hb dX3_strangeRows_20 (by decide) (fun c5 => ?_) (fun c5 => ?_)
      · have hf := g_ifT c5 hf
        refine lv_iconst (v := (0 : Int32)) hx hb dX3_strangeRows_27 (by decide) ?_
        refine lv_iadd hx hb dX3_strangeRows_28 ?_
        refine lv_istore_n (lv' := [(1, .int (x1 + (0 : Int32))), (0, .ref h0), (2, .int x2)]) hx hb dX3_strangeRows_29 rfl hl (by decide) rfl (fun ls hl => ?_)
        refine lv_iinc (v := (x2 + (1 : Int32))) (lv' := [(2, .int (x2 + (1 : Int32))), (1, .int (x1 + (0 : Int32))), (0, .ref h0)]) hx hb dX3_strangeRows_30 hl (k := 2) rfl rfl (by decide) rfl (fun ls hl => ?_)
        refine lv_goto (tgt := 4) hx hb dX3_strangeRows_33 (by decide) ?_
        exact ih _ _ _ _ _ _ hf hP ls (lv_sub hl [2, 1, 0] rfl)
      · have hf := g_ifF c5 hf
        refine lv_iconst (v := (1 : Int32)) hx hb dX3_strangeRows_23 (by decide) ?_
        refine lv_goto (tgt := 28) hx hb dX3_strangeRows_24 (by decide) ?_
        refine lv_iadd hx hb dX3_strangeRows_28 ?_
        refine lv_istore_n (lv' := [(1, .int (x1 + (1 : Int32))), (0, .ref h0), (2, .int x2)]) hx hb dX3_strangeRows_29 rfl hl (by decide) rfl (fun ls hl => ?_)
        refine lv_iinc (v := (x2 + (1 : Int32))) (lv' := [(2, .int (x2 + (1 : Int32))), (1, .int (x1 + (1 : Int32))), (0, .ref h0)]) hx hb dX3_strangeRows_30 hl (k := 2) rfl rfl (by decide) rfl (fun ls hl => ?_)
        refine lv_goto (tgt := 4) hx hb dX3_strangeRows_33 (by decide) ?_
        exact ih _ _ _ _ _ _ hf hP ls (lv_sub hl [2, 1, 0] rfl)
def fX3_strangeRows (nu : Int32) (ver : Nat → Int32) (row : Nat → Int32) : Option (Int32) := fX3_strangeRows_b4 2000 nu (0 : Int32) (0 : Int32) ver row
set_option maxHeartbeats 4000000 in
set_option maxRecDepth 100000 in
theorem qX3_strangeRows (l : Launch) (G : gT) (h0 h1 h2 : Nat) {nu : Int32} {ver : Nat → Int32} {row : Nat → Int32} {u : Int32} (hf : fX3_strangeRows nu ver row = some u) : gR l G yX3_strangeRows wsX3_strangeRows rmX3_strangeRows [.ref h0] (shapeW G h0 h1 h2 nu ver row) (some (.int u)) := by
  refine gR.of (cc := cX3_strangeRows) (maxL := 3) (ret := (some .int)) (by decide) rfl (Nat.le_of_ble_eq_true rfl) ?_
  intro p e s m below meth c C0 hP ls hl
  obtain ⟨hx, hb, hr, hts, hown, hlocks, hml, hK⟩ := id C0
  have hl : lv_has ls 3 [(0, .ref h0)] := hl
  have hP : va_P G.1 vwCl [(h0, .inr (2, [.int nu, .ref h1, .ref h2])), (h1, .inl (G.2.1, 31, .inl ver)), (h2, .inl (G.2.1, 31, .inl row))] s.heap := hP
  unfold fX3_strangeRows at hf
  refine lv_iconst (v := (0 : Int32)) hx hb dX3_strangeRows_0 (by decide) ?_
  refine lv_istore_n (lv' := [(1, .int (0 : Int32)), (0, .ref h0)]) hx hb dX3_strangeRows_1 rfl hl (by decide) rfl (fun ls hl => ?_)
  refine lv_iconst (v := (0 : Int32)) hx hb dX3_strangeRows_2 (by decide) ?_
  refine lv_istore_n (lv' := [(2, .int (0 : Int32)), (1, .int (0 : Int32)), (0, .ref h0)]) hx hb dX3_strangeRows_3 rfl hl (by decide) rfl (fun ls hl => ?_)
  exact kX3_strangeRows_b4 C0 2000 _ _ _ _ _ _ hf hP ls (lv_sub hl [2, 1, 0] rfl)
-- TwoShapes$Shape.known()I
abbrev rmX3_known : Room := { frames := 0, cells := 0, slots := 0, locals := 0 }
def fX3_known_b4 : Nat → Int32 → Int32 → Int32 → (Nat → Int32) → (Nat → Int32) → Option (Int32)
  | 0, _, _, _, _, _ => none
  | n + 1, nu, x1, x2, ver, row => (if (31 : Int32) ≤ x2 then some (x1) else g_gd (g_in x2 31) ((if (ver x2.toNatClampNeg) = (0 : Int32) then fX3_known_b4 n nu (x1 + (0 : Int32)) (x2 + (1 : Int32)) ver row else fX3_known_b4 n nu (x1 + (1 : Int32)) (x2 + (1 : Int32)) ver row)))
set_option maxHeartbeats 4000000 in
set_option maxRecDepth 100000 in
theorem kX3_known_b4 {p : Program} {l : Launch} {e : Env} {s : State} {m : MethodId} {args : Array Value} {below : List Frame} {meth : Method} {c : Code} {G : gT} {h0 h1 h2 : Nat} (C0 : gX p s m args meth c cX3_known 3 (some .int) RX3 G) :
    ∀ (n : Nat) (nu : Int32) (x1 : Int32) (x2 : Int32) (ver : Nat → Int32) (row : Nat → Int32) (u : Int32), fX3_known_b4 n nu x1 x2 ver row = some u → va_P G.1 vwCl [(h0, .inr (2, [.int nu, .ref h1, .ref h2])), (h1, .inl (G.2.1, 31, .inl ver)), (h2, .inl (G.2.1, 31, .inl row))] s.heap → ∀ ls, lv_has ls 3 [(0, .ref h0), (1, .int x1), (2, .int x2)] → gV p l e (headSpec wsX3_known rmX3_known).room s m args below meth c (some (.int u)) 4 ls [] := by
  obtain ⟨hx, hb, hr, hts, hown, hlocks, hml, hK⟩ := id C0
  intro n
  induction n with
  | zero =>
    intro nu x1 x2 ver row u hf hP ls hl
    have hf : (none : Option (Int32)) = some u := hf
    cases hf
  | succ n ih =>
    intro nu x1 x2 ver row u hf hP ls hl
    rw [fX3_known_b4] at hf
    refine lv_iload_n hx hb dX3_known_4 rfl (lv_at hl 2 rfl) ?_
    refine lv_bipush (v := (31 : Int32)) hx hb dX3_known_5 (by decide) ?_
    refine lv_icmp_ge (tgt := 33) hx hb dX3_known_7 (by decide) (fun c1 => ?_) (fun c1 => ?_)
    · have hf := g_ifT c1 hf
      refine lv_iload_n hx hb dX3_known_33 rfl (lv_at hl 1 rfl) ?_
      cases hf
      exact g_iretR hx hb hr hlocks dX3_known_34
    · have hf := g_ifF c1 hf
      refine lv_iload_n hx hb dX3_known_10 rfl (lv_at hl 1 rfl) ?_
      refine lv_aload_n hx hb dX3_known_11 rfl (lv_at hl 0 rfl) ?_
      refine va_get (D := G.1) (ci := 2) (v := .ref h1) (C := RX3) (T := TX3) (N := 3) hx hb hts hX3 hown hK.1 hP 0 rfl rfl 1 (by decide) (hts _ tw_85) (fun _ h9 => h9) rfl dX3_known_12 ?_
      refine lv_iload_n hx hb dX3_known_15 rfl (lv_at hl 2 rfl) ?_
      obtain ⟨g2, hf⟩ := g_gdS hf
      refine va_iald hx hb hK.1 hP 1 0 rfl rfl (g_in_vp g2) dX3_known_16 ?_
      refine lv_if_ne (tgt := 24) hx hb dX3_known_17 (by decide) (fun c3 => ?_) (fun c3 => ?_)
      · have hf := g_ifF c3 hf
        refine lv_iconst (v := (1 : Int32)) hx hb dX3_known_24 (by decide) ?_
        refine lv_iadd hx hb dX3_known_25 ?_
        refine lv_istore_n (lv' := [(1, .int (x1 + (1 : Int32))), (0, .ref h0), (2, .int x2)]) hx hb dX3_known_26 rfl hl (by decide) rfl (fun ls hl => ?_)
        refine lv_iinc (v := (x2 + (1 : Int32))) (lv' := [(2, .int (x2 + (1 : Int32))), (1, .int (x1 + (1 : Int32))), (0, .ref h0)]) hx hb dX3_known_27 hl (k := 2) rfl rfl (by decide) rfl (fun ls hl => ?_)
        refine lv_goto (tgt := 4) hx hb dX3_known_30 (by decide) ?_
        exact ih _ _ _ _ _ _ hf hP ls (lv_sub hl [2, 1, 0] rfl)
      · have hf := g_ifT c3 hf
        refine lv_iconst (v := (0 : Int32)) hx hb dX3_known_20 (by decide) ?_
        refine lv_goto (tgt := 25) hx hb dX3_known_21 (by decide) ?_
        refine lv_iadd hx hb dX3_known_25 ?_
        refine lv_istore_n (lv' := [(1, .int (x1 + (0 : Int32))), (0, .ref h0), (2, .int x2)]) hx hb dX3_known_26 rfl hl (by decide) rfl (fun ls hl => ?_)
        refine lv_iinc (v := (x2 + (1 : Int32))) (lv' := [(2, .int (x2 + (1 : Int32))), (1, .int (x1 + (0 : Int32))), (0, .ref h0)]) hx hb dX3_known_27 hl (k := 2) rfl rfl (by decide) rfl (fun ls hl => ?_)
        refine lv_goto (tgt := 4) hx hb dX3_known_30 (by decide) ?_
        exact ih _ _ _ _ _ _ hf hP ls (lv_sub hl [2, 1, 0] rfl)
def fX3_known (nu : Int32) (ver : Nat → Int32) (row : Nat → Int32) : Option (Int32) := fX3_known_b4 2000 nu (0 : Int32) (0 : Int32) ver row
set_option maxHeartbeats 4000000 in
set_option maxRecDepth 100000 in
theorem qX3_known (l : Launch) (G : gT) (h0 h1 h2 : Nat) {nu : Int32} {ver : Nat → Int32} {row : Nat → Int32} {u : Int32} (hf : fX3_known nu ver row = some u) : gR l G yX3_known wsX3_known rmX3_known [.ref h0] (shapeW G h0 h1 h2 nu ver row) (some (.int u)) := by
  refine gR.of (cc := cX3_known) (maxL := 3) (ret := (some .int)) (by decide) rfl (Nat.le_of_ble_eq_true rfl) ?_
  intro p e s m below meth c C0 hP ls hl
  obtain ⟨hx, hb, hr, hts, hown, hlocks, hml, hK⟩ := id C0
  have hl : lv_has ls 3 [(0, .ref h0)] := hl
  have hP : va_P G.1 vwCl [(h0, .inr (2, [.int nu, .ref h1, .ref h2])), (h1, .inl (G.2.1, 31, .inl ver)), (h2, .inl (G.2.1, 31, .inl row))] s.heap := hP
  unfold fX3_known at hf
  refine lv_iconst (v := (0 : Int32)) hx hb dX3_known_0 (by decide) ?_
  refine lv_istore_n (lv' := [(1, .int (0 : Int32)), (0, .ref h0)]) hx hb dX3_known_1 rfl hl (by decide) rfl (fun ls hl => ?_)
  refine lv_iconst (v := (0 : Int32)) hx hb dX3_known_2 (by decide) ?_
  refine lv_istore_n (lv' := [(2, .int (0 : Int32)), (1, .int (0 : Int32)), (0, .ref h0)]) hx hb dX3_known_3 rfl hl (by decide) rfl (fun ls hl => ?_)
  exact kX3_known_b4 C0 2000 _ _ _ _ _ _ hf hP ls (lv_sub hl [2, 1, 0] rfl)
-- TwoShapes$Queue.copyFrom(LTwoShapes$Queue;)V
abbrev rmX1_copyFrom : Room := { frames := 1, cells := 0, slots := 0, locals := 40 }
def fX1_copyFrom (len : Int32) (qk : Nat → Int32) (qv : Nat → Int32) (qr : Nat → Int32) (olen : Int32) (oqk : Nat → Int32) (oqv : Nat → Int32) (oqr : Nat → Int32) : Option (Int32 × (Nat → Int32) × (Nat → Int32) × (Nat → Int32) × Int32 × (Nat → Int32) × (Nat → Int32) × (Nat → Int32)) := some (olen, (va_cpy oqk qk 0 0 8), (va_cpy oqv qv 0 0 8), (va_cpy oqr qr 0 0 8), olen, oqk, oqv, oqr)
set_option maxHeartbeats 4000000 in
set_option maxRecDepth 100000 in
theorem qX1_copyFrom (l : Launch) (G : gT) (h0 h1 h2 h3 : Nat) (k0 k1 k2 k3 : Nat) {len : Int32} {qk : Nat → Int32} {qv : Nat → Int32} {qr : Nat → Int32} {olen : Int32} {oqk : Nat → Int32} {oqv : Nat → Int32} {oqr : Nat → Int32} {u : Int32 × (Nat → Int32) × (Nat → Int32) × (Nat → Int32) × Int32 × (Nat → Int32) × (Nat → Int32) × (Nat → Int32)} (hf : fX1_copyFrom len qk qv qr olen oqk oqv oqr = some u) : gC l G yX1_copyFrom wsX1_copyFrom rmX1_copyFrom [.ref h0, .ref k0] (queueW G h0 h1 h2 h3 len qk qv qr ++ queueW G k0 k1 k2 k3 olen oqk oqv oqr) none (queueW G h0 h1 h2 h3 u.1 u.2.1 u.2.2.1 u.2.2.2.1 ++ queueW G k0 k1 k2 k3 u.2.2.2.2.1 u.2.2.2.2.2.1 u.2.2.2.2.2.2.1 u.2.2.2.2.2.2.2) := by
  refine gC.of (cc := cX1_copyFrom) (maxL := 2) (ret := none) (by decide) rfl (Nat.le_of_ble_eq_true rfl) ?_
  intro p e s m below meth c C0 hP hD hS ls hl
  obtain ⟨hx, hb, hr, hts, hown, hlocks, hml, hK⟩ := id C0
  have hl : lv_has ls 2 [(0, .ref h0), (1, .ref k0)] := hl
  have hA : ∀ q : Nat, s.heap.size ≤ q → va_A (queueW G h0 h1 h2 h3 len qk qv qr ++ queueW G k0 k1 k2 k3 olen oqk oqv oqr) s.heap.size q := fun q h => Or.inr h
  have hP : va_P G.1 vwCl [(h0, .inr (1, [.int len, .ref h1, .ref h2, .ref h3])), (h1, .inl (G.2.1, 8, .inl qk)), (h2, .inl (G.2.1, 8, .inl qv)), (h3, .inl (G.2.1, 8, .inl qr)), (k0, .inr (1, [.int olen, .ref k1, .ref k2, .ref k3])), (k1, .inl (G.2.1, 8, .inl oqk)), (k2, .inl (G.2.1, 8, .inl oqv)), (k3, .inl (G.2.1, 8, .inl oqr))] s.heap := hP
  have hD : va_D (va_A (queueW G h0 h1 h2 h3 len qk qv qr ++ queueW G k0 k1 k2 k3 olen oqk oqv oqr) s.heap.size) [(h0, .inr (1, [.int len, .ref h1, .ref h2, .ref h3])), (h1, .inl (G.2.1, 8, .inl qk)), (h2, .inl (G.2.1, 8, .inl qv)), (h3, .inl (G.2.1, 8, .inl qr)), (k0, .inr (1, [.int olen, .ref k1, .ref k2, .ref k3])), (k1, .inl (G.2.1, 8, .inl oqk)), (k2, .inl (G.2.1, 8, .inl oqv)), (k3, .inl (G.2.1, 8, .inl oqr))] := hD
  unfold fX1_copyFrom at hf
  refine lv_aload_n hx hb dX1_copyFrom_0 rfl (lv_at hl 0 rfl) ?_
  refine lv_aload_n hx hb dX1_copyFrom_1 rfl (lv_at hl 1 rfl) ?_
  refine va_get (D := G.1) (ci := 1) (v := .int olen) (C := RX1) (T := TX1) (N := 4) hx hb hts hX1 hown hK.1 hP 4 rfl rfl 0 (by decide) (hts _ tw_105) (fun _ h9 => h9) rfl dX1_copyFrom_2 ?_
  refine va_put (D := G.1) (ci := 1) (v := .int olen) (ty := .int) (C := RX1) (T := TX1) (N := 4) hx hb hts hX1 tyX1 tyX1_ok nmX1 hown hK.1 hP hD hS 0 rfl rfl 0 (by decide) (hts _ tw_105) (fun _ h9 => h9) rfl (by decide +kernel) rfl rfl (Nat.le_of_ble_eq_true rfl) dX1_copyFrom_5 (fun H locs hP hD hS => ?_)
  have hP : va_P G.1 vwCl [(h0, .inr (1, [.int olen, .ref h1, .ref h2, .ref h3])), (h1, .inl (G.2.1, 8, .inl qk)), (h2, .inl (G.2.1, 8, .inl qv)), (h3, .inl (G.2.1, 8, .inl qr)), (k0, .inr (1, [.int olen, .ref k1, .ref k2, .ref k3])), (k1, .inl (G.2.1, 8, .inl oqk)), (k2, .inl (G.2.1, 8, .inl oqv)), (k3, .inl (G.2.1, 8, .inl oqr))] H := hP
  have hD : va_D (va_A (queueW G h0 h1 h2 h3 len qk qv qr ++ queueW G k0 k1 k2 k3 olen oqk oqv oqr) s.heap.size) [(h0, .inr (1, [.int olen, .ref h1, .ref h2, .ref h3])), (h1, .inl (G.2.1, 8, .inl qk)), (h2, .inl (G.2.1, 8, .inl qv)), (h3, .inl (G.2.1, 8, .inl qr)), (k0, .inr (1, [.int olen, .ref k1, .ref k2, .ref k3])), (k1, .inl (G.2.1, 8, .inl oqk)), (k2, .inl (G.2.1, 8, .inl oqv)), (k3, .inl (G.2.1, 8, .inl oqr))] := hD
  refine lv_aload_n hx hb dX1_copyFrom_8 rfl (lv_at hl 1 rfl) ?_
  refine va_get (D := G.1) (ci := 1) (v := .ref k1) (C := RX1) (T := TX1) (N := 4) hx hb hts hX1 hown hK.1 hP 4 rfl rfl 1 (by decide) (hts _ tw_108) (fun _ h9 => h9) rfl dX1_copyFrom_9 ?_
  refine lv_iconst (v := (0 : Int32)) hx hb dX1_copyFrom_12 (by decide) ?_
  refine lv_aload_n hx hb dX1_copyFrom_13 rfl (lv_at hl 0 rfl) ?_
  refine va_get (D := G.1) (ci := 1) (v := .ref h1) (C := RX1) (T := TX1) (N := 4) hx hb hts hX1 hown hK.1 hP 0 rfl rfl 1 (by decide) (hts _ tw_108) (fun _ h9 => h9) rfl dX1_copyFrom_14 ?_
  refine lv_iconst (v := (0 : Int32)) hx hb dX1_copyFrom_17 (by decide) ?_
  refine lv_bipush (v := (8 : Int32)) hx hb dX1_copyFrom_18 (by decide) ?_
  refine va_copyi hx hb (by rw [hml]; exact hl.1.symm) hown (hts _ tw_239) (hts _ tw_234) (hts _ tw_233) (hts _ tw_55) hK.1 hP hD hS 5 1 0 0 (ty := .int) rfl rfl rfl rfl rfl (by decide) (by decide) (by decide) (by decide) (by decide) (fun _ _ => rfl) (by decide) (by decide) dX1_copyFrom_20 (fun H locs hP hD hS => ?_)
  have hP : va_P G.1 vwCl [(h0, .inr (1, [.int olen, .ref h1, .ref h2, .ref h3])), (h1, .inl (G.2.1, 8, .inl (va_cpy oqk qk 0 0 8))), (h2, .inl (G.2.1, 8, .inl qv)), (h3, .inl (G.2.1, 8, .inl qr)), (k0, .inr (1, [.int olen, .ref k1, .ref k2, .ref k3])), (k1, .inl (G.2.1, 8, .inl oqk)), (k2, .inl (G.2.1, 8, .inl oqv)), (k3, .inl (G.2.1, 8, .inl oqr))] H := hP
  have hD : va_D (va_A (queueW G h0 h1 h2 h3 len qk qv qr ++ queueW G k0 k1 k2 k3 olen oqk oqv oqr) s.heap.size) [(h0, .inr (1, [.int olen, .ref h1, .ref h2, .ref h3])), (h1, .inl (G.2.1, 8, .inl (va_cpy oqk qk 0 0 8))), (h2, .inl (G.2.1, 8, .inl qv)), (h3, .inl (G.2.1, 8, .inl qr)), (k0, .inr (1, [.int olen, .ref k1, .ref k2, .ref k3])), (k1, .inl (G.2.1, 8, .inl oqk)), (k2, .inl (G.2.1, 8, .inl oqv)), (k3, .inl (G.2.1, 8, .inl oqr))] := hD
  refine lv_aload_n hx hb dX1_copyFrom_23 rfl (lv_at hl 1 rfl) ?_
  refine va_get (D := G.1) (ci := 1) (v := .ref k2) (C := RX1) (T := TX1) (N := 4) hx hb hts hX1 hown hK.1 hP 4 rfl rfl 2 (by decide) (hts _ tw_111) (fun _ h9 => h9) rfl dX1_copyFrom_24 ?_
  refine lv_iconst (v := (0 : Int32)) hx hb dX1_copyFrom_27 (by decide) ?_
  refine lv_aload_n hx hb dX1_copyFrom_28 rfl (lv_at hl 0 rfl) ?_
  refine va_get (D := G.1) (ci := 1) (v := .ref h2) (C := RX1) (T := TX1) (N := 4) hx hb hts hX1 hown hK.1 hP 0 rfl rfl 2 (by decide) (hts _ tw_111) (fun _ h9 => h9) rfl dX1_copyFrom_29 ?_
  refine lv_iconst (v := (0 : Int32)) hx hb dX1_copyFrom_32 (by decide) ?_
  refine lv_bipush (v := (8 : Int32)) hx hb dX1_copyFrom_33 (by decide) ?_
  refine va_copyi hx hb (by rw [hml]; exact hl.1.symm) hown (hts _ tw_239) (hts _ tw_234) (hts _ tw_233) (hts _ tw_55) hK.1 hP hD hS 6 2 0 0 (ty := .int) rfl rfl rfl rfl rfl (by decide) (by decide) (by decide) (by decide) (by decide) (fun _ _ => rfl) (by decide) (by decide) dX1_copyFrom_35 (fun H locs hP hD hS => ?_)
  have hP : va_P G.1 vwCl [(h0, .inr (1, [.int olen, .ref h1, .ref h2, .ref h3])), (h1, .inl (G.2.1, 8, .inl (va_cpy oqk qk 0 0 8))), (h2, .inl (G.2.1, 8, .inl (va_cpy oqv qv 0 0 8))), (h3, .inl (G.2.1, 8, .inl qr)), (k0, .inr (1, [.int olen, .ref k1, .ref k2, .ref k3])), (k1, .inl (G.2.1, 8, .inl oqk)), (k2, .inl (G.2.1, 8, .inl oqv)), (k3, .inl (G.2.1, 8, .inl oqr))] H := hP
  have hD : va_D (va_A (queueW G h0 h1 h2 h3 len qk qv qr ++ queueW G k0 k1 k2 k3 olen oqk oqv oqr) s.heap.size) [(h0, .inr (1, [.int olen, .ref h1, .ref h2, .ref h3])), (h1, .inl (G.2.1, 8, .inl (va_cpy oqk qk 0 0 8))), (h2, .inl (G.2.1, 8, .inl (va_cpy oqv qv 0 0 8))), (h3, .inl (G.2.1, 8, .inl qr)), (k0, .inr (1, [.int olen, .ref k1, .ref k2, .ref k3])), (k1, .inl (G.2.1, 8, .inl oqk)), (k2, .inl (G.2.1, 8, .inl oqv)), (k3, .inl (G.2.1, 8, .inl oqr))] := hD
  refine lv_aload_n hx hb dX1_copyFrom_38 rfl (lv_at hl 1 rfl) ?_
  refine va_get (D := G.1) (ci := 1) (v := .ref k3) (C := RX1) (T := TX1) (N := 4) hx hb hts hX1 hown hK.1 hP 4 rfl rfl 3 (by decide) (hts _ tw_114) (fun _ h9 => h9) rfl dX1_copyFrom_39 ?_
  refine lv_iconst (v := (0 : Int32)) hx hb dX1_copyFrom_42 (by decide) ?_
  refine lv_aload_n hx hb dX1_copyFrom_43 rfl (lv_at hl 0 rfl) ?_
  refine va_get (D := G.1) (ci := 1) (v := .ref h3) (C := RX1) (T := TX1) (N := 4) hx hb hts hX1 hown hK.1 hP 0 rfl rfl 3 (by decide) (hts _ tw_114) (fun _ h9 => h9) rfl dX1_copyFrom_44 ?_
  refine lv_iconst (v := (0 : Int32)) hx hb dX1_copyFrom_47 (by decide) ?_
  refine lv_bipush (v := (8 : Int32)) hx hb dX1_copyFrom_48 (by decide) ?_
  refine va_copyi hx hb (by rw [hml]; exact hl.1.symm) hown (hts _ tw_239) (hts _ tw_234) (hts _ tw_233) (hts _ tw_55) hK.1 hP hD hS 7 3 0 0 (ty := .int) rfl rfl rfl rfl rfl (by decide) (by decide) (by decide) (by decide) (by decide) (fun _ _ => rfl) (by decide) (by decide) dX1_copyFrom_50 (fun H locs hP hD hS => ?_)
  have hP : va_P G.1 vwCl [(h0, .inr (1, [.int olen, .ref h1, .ref h2, .ref h3])), (h1, .inl (G.2.1, 8, .inl (va_cpy oqk qk 0 0 8))), (h2, .inl (G.2.1, 8, .inl (va_cpy oqv qv 0 0 8))), (h3, .inl (G.2.1, 8, .inl (va_cpy oqr qr 0 0 8))), (k0, .inr (1, [.int olen, .ref k1, .ref k2, .ref k3])), (k1, .inl (G.2.1, 8, .inl oqk)), (k2, .inl (G.2.1, 8, .inl oqv)), (k3, .inl (G.2.1, 8, .inl oqr))] H := hP
  have hD : va_D (va_A (queueW G h0 h1 h2 h3 len qk qv qr ++ queueW G k0 k1 k2 k3 olen oqk oqv oqr) s.heap.size) [(h0, .inr (1, [.int olen, .ref h1, .ref h2, .ref h3])), (h1, .inl (G.2.1, 8, .inl (va_cpy oqk qk 0 0 8))), (h2, .inl (G.2.1, 8, .inl (va_cpy oqv qv 0 0 8))), (h3, .inl (G.2.1, 8, .inl (va_cpy oqr qr 0 0 8))), (k0, .inr (1, [.int olen, .ref k1, .ref k2, .ref k3])), (k1, .inl (G.2.1, 8, .inl oqk)), (k2, .inl (G.2.1, 8, .inl oqv)), (k3, .inl (G.2.1, 8, .inl oqr))] := hD
  cases hf
  exact g_vretC hx hb hr hlocks hP hD hS dX1_copyFrom_53
-- TwoShapes$Queue.append(III)V
abbrev rmX1_append : Room := { frames := 0, cells := 0, slots := 0, locals := 0 }
def fX1_append (p0 : Int32) (p1 : Int32) (p2 : Int32) (len : Int32) (qk : Nat → Int32) (qv : Nat → Int32) (qr : Nat → Int32) : Option (Int32 × (Nat → Int32) × (Nat → Int32) × (Nat → Int32)) := (if (8 : Int32) ≤ len then some (len, qk, qv, qr) else g_gd (g_in len 8) (g_gd (g_in len 8) (g_gd (g_in len 8) (some ((len + (1 : Int32)), (upd qk len.toNatClampNeg p0), (upd qv len.toNatClampNeg p1), (upd qr len.toNatClampNeg p2))))))
set_option maxHeartbeats 4000000 in
set_option maxRecDepth 100000 in
theorem qX1_append (l : Launch) (G : gT) (h0 h1 h2 h3 : Nat) {p0 : Int32} {p1 : Int32} {p2 : Int32} {len : Int32} {qk : Nat → Int32} {qv : Nat → Int32} {qr : Nat → Int32} {u : Int32 × (Nat → Int32) × (Nat → Int32) × (Nat → Int32)} (hf : fX1_append p0 p1 p2 len qk qv qr = some u) : gC l G yX1_append wsX1_append rmX1_append [.ref h0, .int p0, .int p1, .int p2] (queueW G h0 h1 h2 h3 len qk qv qr) none (queueW G h0 h1 h2 h3 u.1 u.2.1 u.2.2.1 u.2.2.2) := by
  refine gC.of (cc := cX1_append) (maxL := 4) (ret := none) (by decide) rfl (Nat.le_of_ble_eq_true rfl) ?_
  intro p e s m below meth c C0 hP hD hS ls hl
  obtain ⟨hx, hb, hr, hts, hown, hlocks, hml, hK⟩ := id C0
  have hl : lv_has ls 4 [(0, .ref h0), (1, .int p0), (2, .int p1), (3, .int p2)] := hl
  have hA : ∀ q : Nat, s.heap.size ≤ q → va_A (queueW G h0 h1 h2 h3 len qk qv qr) s.heap.size q := fun q h => Or.inr h
  have hP : va_P G.1 vwCl [(h0, .inr (1, [.int len, .ref h1, .ref h2, .ref h3])), (h1, .inl (G.2.1, 8, .inl qk)), (h2, .inl (G.2.1, 8, .inl qv)), (h3, .inl (G.2.1, 8, .inl qr))] s.heap := hP
  have hD : va_D (va_A (queueW G h0 h1 h2 h3 len qk qv qr) s.heap.size) [(h0, .inr (1, [.int len, .ref h1, .ref h2, .ref h3])), (h1, .inl (G.2.1, 8, .inl qk)), (h2, .inl (G.2.1, 8, .inl qv)), (h3, .inl (G.2.1, 8, .inl qr))] := hD
  unfold fX1_append at hf
  refine lv_aload_n hx hb dX1_append_0 rfl (lv_at hl 0 rfl) ?_
  refine va_get (D := G.1) (ci := 1) (v := .int len) (C := RX1) (T := TX1) (N := 4) hx hb hts hX1 hown hK.1 hP 0 rfl rfl 0 (by decide) (hts _ tw_105) (fun _ h9 => h9) rfl dX1_append_1 ?_
  refine lv_bipush (v := (8 : Int32)) hx hb dX1_append_4 (by decide) ?_
  refine lv_icmp_ge (tgt := 49) hx hb dX1_append_6 (by decide) (fun c1 => ?_) (fun c1 => ?_)
  · have hf := g_ifT c1 hf
    cases hf
    exact g_vretC hx hb hr hlocks hP hD hS dX1_append_49
  · have hf := g_ifF c1 hf
    refine lv_aload_n hx hb dX1_append_9 rfl (lv_at hl 0 rfl) ?_
    refine va_get (D := G.1) (ci := 1) (v := .ref h1) (C := RX1) (T := TX1) (N := 4) hx hb hts hX1 hown hK.1 hP 0 rfl rfl 1 (by decide) (hts _ tw_108) (fun _ h9 => h9) rfl dX1_append_10 ?_
    refine lv_aload_n hx hb dX1_append_13 rfl (lv_at hl 0 rfl) ?_
    refine va_get (D := G.1) (ci := 1) (v := .int len) (C := RX1) (T := TX1) (N := 4) hx hb hts hX1 hown hK.1 hP 0 rfl rfl 0 (by decide) (hts _ tw_105) (fun _ h9 => h9) rfl dX1_append_14 ?_
    refine lv_iload_n hx hb dX1_append_17 rfl (lv_at hl 1 rfl) ?_
    obtain ⟨g2, hf⟩ := g_gdS hf
    refine va_iast hx hb hK.1 hP hD hS 1 0 rfl rfl (g_in_vp g2) dX1_append_18 (fun H locs hP hD hS => ?_)
    have hP : va_P G.1 vwCl [(h0, .inr (1, [.int len, .ref h1, .ref h2, .ref h3])), (h1, .inl (G.2.1, 8, .inl (upd qk len.toNatClampNeg p0))), (h2, .inl (G.2.1, 8, .inl qv)), (h3, .inl (G.2.1, 8, .inl qr))] H := hP
    have hD : va_D (va_A (queueW G h0 h1 h2 h3 len qk qv qr) s.heap.size) [(h0, .inr (1, [.int len, .ref h1, .ref h2, .ref h3])), (h1, .inl (G.2.1, 8, .inl (upd qk len.toNatClampNeg p0))), (h2, .inl (G.2.1, 8, .inl qv)), (h3, .inl (G.2.1, 8, .inl qr))] := hD
    refine lv_aload_n hx hb dX1_append_19 rfl (lv_at hl 0 rfl) ?_
    refine va_get (D := G.1) (ci := 1) (v := .ref h2) (C := RX1) (T := TX1) (N := 4) hx hb hts hX1 hown hK.1 hP 0 rfl rfl 2 (by decide) (hts _ tw_111) (fun _ h9 => h9) rfl dX1_append_20 ?_
    refine lv_aload_n hx hb dX1_append_23 rfl (lv_at hl 0 rfl) ?_
    refine va_get (D := G.1) (ci := 1) (v := .int len) (C := RX1) (T := TX1) (N := 4) hx hb hts hX1 hown hK.1 hP 0 rfl rfl 0 (by decide) (hts _ tw_105) (fun _ h9 => h9) rfl dX1_append_24 ?_
    refine lv_iload_n hx hb dX1_append_27 rfl (lv_at hl 2 rfl) ?_
    obtain ⟨g3, hf⟩ := g_gdS hf
    refine va_iast hx hb hK.1 hP hD hS 2 0 rfl rfl (g_in_vp g3) dX1_append_28 (fun H locs hP hD hS => ?_)
    have hP : va_P G.1 vwCl [(h0, .inr (1, [.int len, .ref h1, .ref h2, .ref h3])), (h1, .inl (G.2.1, 8, .inl (upd qk len.toNatClampNeg p0))), (h2, .inl (G.2.1, 8, .inl (upd qv len.toNatClampNeg p1))), (h3, .inl (G.2.1, 8, .inl qr))] H := hP
    have hD : va_D (va_A (queueW G h0 h1 h2 h3 len qk qv qr) s.heap.size) [(h0, .inr (1, [.int len, .ref h1, .ref h2, .ref h3])), (h1, .inl (G.2.1, 8, .inl (upd qk len.toNatClampNeg p0))), (h2, .inl (G.2.1, 8, .inl (upd qv len.toNatClampNeg p1))), (h3, .inl (G.2.1, 8, .inl qr))] := hD
    refine lv_aload_n hx hb dX1_append_29 rfl (lv_at hl 0 rfl) ?_
    refine va_get (D := G.1) (ci := 1) (v := .ref h3) (C := RX1) (T := TX1) (N := 4) hx hb hts hX1 hown hK.1 hP 0 rfl rfl 3 (by decide) (hts _ tw_114) (fun _ h9 => h9) rfl dX1_append_30 ?_
    refine lv_aload_n hx hb dX1_append_33 rfl (lv_at hl 0 rfl) ?_
    refine va_get (D := G.1) (ci := 1) (v := .int len) (C := RX1) (T := TX1) (N := 4) hx hb hts hX1 hown hK.1 hP 0 rfl rfl 0 (by decide) (hts _ tw_105) (fun _ h9 => h9) rfl dX1_append_34 ?_
    refine lv_iload_n hx hb dX1_append_37 rfl (lv_at hl 3 rfl) ?_
    obtain ⟨g4, hf⟩ := g_gdS hf
    refine va_iast hx hb hK.1 hP hD hS 3 0 rfl rfl (g_in_vp g4) dX1_append_38 (fun H locs hP hD hS => ?_)
    have hP : va_P G.1 vwCl [(h0, .inr (1, [.int len, .ref h1, .ref h2, .ref h3])), (h1, .inl (G.2.1, 8, .inl (upd qk len.toNatClampNeg p0))), (h2, .inl (G.2.1, 8, .inl (upd qv len.toNatClampNeg p1))), (h3, .inl (G.2.1, 8, .inl (upd qr len.toNatClampNeg p2)))] H := hP
    have hD : va_D (va_A (queueW G h0 h1 h2 h3 len qk qv qr) s.heap.size) [(h0, .inr (1, [.int len, .ref h1, .ref h2, .ref h3])), (h1, .inl (G.2.1, 8, .inl (upd qk len.toNatClampNeg p0))), (h2, .inl (G.2.1, 8, .inl (upd qv len.toNatClampNeg p1))), (h3, .inl (G.2.1, 8, .inl (upd qr len.toNatClampNeg p2)))] := hD
    refine lv_aload_n hx hb dX1_append_39 rfl (lv_at hl 0 rfl) ?_
    refine lv_dup hx hb dX1_append_40 rfl ?_
    refine va_get (D := G.1) (ci := 1) (v := .int len) (C := RX1) (T := TX1) (N := 4) hx hb hts hX1 hown hK.1 hP 0 rfl rfl 0 (by decide) (hts _ tw_105) (fun _ h9 => h9) rfl dX1_append_41 ?_
    refine lv_iconst (v := (1 : Int32)) hx hb dX1_append_44 (by decide) ?_
    refine lv_iadd hx hb dX1_append_45 ?_
    refine va_put (D := G.1) (ci := 1) (v := .int (len + (1 : Int32))) (ty := .int) (C := RX1) (T := TX1) (N := 4) hx hb hts hX1 tyX1 tyX1_ok nmX1 hown hK.1 hP hD hS 0 rfl rfl 0 (by decide) (hts _ tw_105) (fun _ h9 => h9) rfl (by decide +kernel) rfl rfl (Nat.le_of_ble_eq_true rfl) dX1_append_46 (fun H locs hP hD hS => ?_)
    have hP : va_P G.1 vwCl [(h0, .inr (1, [.int (len + (1 : Int32)), .ref h1, .ref h2, .ref h3])), (h1, .inl (G.2.1, 8, .inl (upd qk len.toNatClampNeg p0))), (h2, .inl (G.2.1, 8, .inl (upd qv len.toNatClampNeg p1))), (h3, .inl (G.2.1, 8, .inl (upd qr len.toNatClampNeg p2)))] H := hP
    have hD : va_D (va_A (queueW G h0 h1 h2 h3 len qk qv qr) s.heap.size) [(h0, .inr (1, [.int (len + (1 : Int32)), .ref h1, .ref h2, .ref h3])), (h1, .inl (G.2.1, 8, .inl (upd qk len.toNatClampNeg p0))), (h2, .inl (G.2.1, 8, .inl (upd qv len.toNatClampNeg p1))), (h3, .inl (G.2.1, 8, .inl (upd qr len.toNatClampNeg p2)))] := hD
    cases hf
    exact g_vretC hx hb hr hlocks hP hD hS dX1_append_49
-- TwoShapes$Queue.shorten(I)V
abbrev rmX1_shorten : Room := { frames := 1, cells := 0, slots := 0, locals := 14 }
def fX1_shorten_b13 : Nat → Int32 → Int32 → Int32 → Int32 → (Nat → Int32) → (Nat → Int32) → (Nat → Int32) → Option (Int32 × (Nat → Int32) × (Nat → Int32) × (Nat → Int32))
  | 0, _, _, _, _, _, _, _ => none
  | n + 1, x1, x2, x3, len, qk, qv, qr => (if x2 ≤ x3 then some (x2, qk, qv, qr) else g_gd (g_in (x3 + x1) 8) (g_gd (g_in x3 8) (g_gd (g_in (x3 + x1) 8) (g_gd (g_in x3 8) (g_gd (g_in (x3 + x1) 8) (g_gd (g_in x3 8) (fX1_shorten_b13 n x1 x2 (x3 + (1 : Int32)) len (upd qk x3.toNatClampNeg (qk (x3 + x1).toNatClampNeg)) (upd qv x3.toNatClampNeg (qv (x3 + x1).toNatClampNeg)) (upd qr x3.toNatClampNeg (qr (x3 + x1).toNatClampNeg)))))))))
set_option maxHeartbeats 4000000 in
set_option maxRecDepth 100000 in
theorem kX1_shorten_b13 {p : Program} {l : Launch} {e : Env} {s : State} {m : MethodId} {args : Array Value} {below : List Frame} {meth : Method} {c : Code} {G : gT} {h0 h1 h2 h3 : Nat} {w0 : va_W} (C0 : gX p s m args meth c cX1_shorten 4 none RX1 G) :
    ∀ (n : Nat) (x1 : Int32) (x2 : Int32) (x3 : Int32) (len : Int32) (qk : Nat → Int32) (qv : Nat → Int32) (qr : Nat → Int32) (u : Int32 × (Nat → Int32) × (Nat → Int32) × (Nat → Int32)), fX1_shorten_b13 n x1 x2 x3 len qk qv qr = some u → ∀ (H : Heap) (locs : List Loc), va_P G.1 vwCl [(h0, .inr (1, [.int len, .ref h1, .ref h2, .ref h3])), (h1, .inl (G.2.1, 8, .inl qk)), (h2, .inl (G.2.1, 8, .inl qv)), (h3, .inl (G.2.1, 8, .inl qr))] H → va_D (va_A w0 s.heap.size) [(h0, .inr (1, [.int len, .ref h1, .ref h2, .ref h3])), (h1, .inl (G.2.1, 8, .inl qk)), (h2, .inl (G.2.1, 8, .inl qv)), (h3, .inl (G.2.1, 8, .inl qr))] → va_S (va_A w0 s.heap.size) s.heap H locs → ∀ ls, lv_has ls 4 [(0, .ref h0), (1, .int x1), (2, .int x2), (3, .int x3)] → gW p l e (headSpec wsX1_shorten rmX1_shorten).room s m args below meth c G w0 none (queueW G h0 h1 h2 h3 u.1 u.2.1 u.2.2.1 u.2.2.2) H locs 13 ls [] := by
  obtain ⟨hx, hb, hr, hts, hown, hlocks, hml, hK⟩ := id C0
  have hA : ∀ q : Nat, s.heap.size ≤ q → va_A w0 s.heap.size q := fun q h => Or.inr h
  intro n
  induction n with
  | zero =>
    intro x1 x2 x3 len qk qv qr u hf H locs hP hD hS ls hl
    have hf : (none : Option (Int32 × (Nat → Int32) × (Nat → Int32) × (Nat → Int32))) = some u := hf
    cases hf
  | succ n ih =>
    intro x1 x2 x3 len qk qv qr u hf H locs hP hD hS ls hl
    rw [fX1_shorten_b13] at hf
    refine lv_iload_n hx hb dX1_shorten_13 rfl (lv_at hl 3 rfl) ?_
    refine lv_iload_n hx hb dX1_shorten_14 rfl (lv_at hl 2 rfl) ?_
    refine lv_icmp_ge (tgt := 66) hx hb dX1_shorten_15 (by decide) (fun c1 => ?_) (fun c1 => ?_)
    · have hf := g_ifT c1 hf
      refine lv_aload_n hx hb dX1_shorten_66 rfl (lv_at hl 0 rfl) ?_
      refine lv_iload_n hx hb dX1_shorten_67 rfl (lv_at hl 2 rfl) ?_
      refine va_put (D := G.1) (ci := 1) (v := .int x2) (ty := .int) (C := RX1) (T := TX1) (N := 4) hx hb hts hX1 tyX1 tyX1_ok nmX1 hown hK.1 hP hD hS 0 rfl rfl 0 (by decide) (hts _ tw_105) (fun _ h9 => h9) rfl (by decide +kernel) rfl rfl (Nat.le_of_ble_eq_true rfl) dX1_shorten_68 (fun H locs hP hD hS => ?_)
      have hP : va_P G.1 vwCl [(h0, .inr (1, [.int x2, .ref h1, .ref h2, .ref h3])), (h1, .inl (G.2.1, 8, .inl qk)), (h2, .inl (G.2.1, 8, .inl qv)), (h3, .inl (G.2.1, 8, .inl qr))] H := hP
      have hD : va_D (va_A w0 s.heap.size) [(h0, .inr (1, [.int x2, .ref h1, .ref h2, .ref h3])), (h1, .inl (G.2.1, 8, .inl qk)), (h2, .inl (G.2.1, 8, .inl qv)), (h3, .inl (G.2.1, 8, .inl qr))] := hD
      cases hf
      exact g_vretC hx hb hr hlocks hP hD hS dX1_shorten_71
    · have hf := g_ifF c1 hf
      refine lv_aload_n hx hb dX1_shorten_18 rfl (lv_at hl 0 rfl) ?_
      refine va_get (D := G.1) (ci := 1) (v := .ref h1) (C := RX1) (T := TX1) (N := 4) hx hb hts hX1 hown hK.1 hP 0 rfl rfl 1 (by decide) (hts _ tw_108) (fun _ h9 => h9) rfl dX1_shorten_19 ?_
      refine lv_iload_n hx hb dX1_shorten_22 rfl (lv_at hl 3 rfl) ?_
      refine lv_aload_n hx hb dX1_shorten_23 rfl (lv_at hl 0 rfl) ?_
      refine va_get (D := G.1) (ci := 1) (v := .ref h1) (C := RX1) (T := TX1) (N := 4) hx hb hts hX1 hown hK.1 hP 0 rfl rfl 1 (by decide) (hts _ tw_108) (fun _ h9 => h9) rfl dX1_shorten_24 ?_
      refine lv_iload_n hx hb dX1_shorten_27 rfl (lv_at hl 3 rfl) ?_
      refine lv_iload_n hx hb dX1_shorten_28 rfl (lv_at hl 1 rfl) ?_
      refine lv_iadd hx hb dX1_shorten_29 ?_
      obtain ⟨g2, hf⟩ := g_gdS hf
      refine va_iald hx hb hK.1 hP 1 0 rfl rfl (g_in_vp g2) dX1_shorten_30 ?_
      obtain ⟨g3, hf⟩ := g_gdS hf
      refine va_iast hx hb hK.1 hP hD hS 1 0 rfl rfl (g_in_vp g3) dX1_shorten_31 (fun H locs hP hD hS => ?_)
      have hP : va_P G.1 vwCl [(h0, .inr (1, [.int len, .ref h1, .ref h2, .ref h3])), (h1, .inl (G.2.1, 8, .inl (upd qk x3.toNatClampNeg (qk (x3 + x1).toNatClampNeg)))), (h2, .inl (G.2.1, 8, .inl qv)), (h3, .inl (G.2.1, 8, .inl qr))] H := hP
      have hD : va_D (va_A w0 s.heap.size) [(h0, .inr (1, [.int len, .ref h1, .ref h2, .ref h3])), (h1, .inl (G.2.1, 8, .inl (upd qk x3.toNatClampNeg (qk (x3 + x1).toNatClampNeg)))), (h2, .inl (G.2.1, 8, .inl qv)), (h3, .inl (G.2.1, 8, .inl qr))] := hD
      refine lv_aload_n hx hb dX1_shorten_32 rfl (lv_at hl 0 rfl) ?_
      refine va_get (D := G.1) (ci := 1) (v := .ref h2) (C := RX1) (T := TX1) (N := 4) hx hb hts hX1 hown hK.1 hP 0 rfl rfl 2 (by decide) (hts _ tw_111) (fun _ h9 => h9) rfl dX1_shorten_33 ?_
      refine lv_iload_n hx hb dX1_shorten_36 rfl (lv_at hl 3 rfl) ?_
      refine lv_aload_n hx hb dX1_shorten_37 rfl (lv_at hl 0 rfl) ?_
      refine va_get (D := G.1) (ci := 1) (v := .ref h2) (C := RX1) (T := TX1) (N := 4) hx hb hts hX1 hown hK.1 hP 0 rfl rfl 2 (by decide) (hts _ tw_111) (fun _ h9 => h9) rfl dX1_shorten_38 ?_
      refine lv_iload_n hx hb dX1_shorten_41 rfl (lv_at hl 3 rfl) ?_
      refine lv_iload_n hx hb dX1_shorten_42 rfl (lv_at hl 1 rfl) ?_
      refine lv_iadd hx hb dX1_shorten_43 ?_
      obtain ⟨g4, hf⟩ := g_gdS hf
      refine va_iald hx hb hK.1 hP 2 0 rfl rfl (g_in_vp g4) dX1_shorten_44 ?_
      obtain ⟨g5, hf⟩ := g_gdS hf
      refine va_iast hx hb hK.1 hP hD hS 2 0 rfl rfl (g_in_vp g5) dX1_shorten_45 (fun H locs hP hD hS => ?_)
      have hP : va_P G.1 vwCl [(h0, .inr (1, [.int len, .ref h1, .ref h2, .ref h3])), (h1, .inl (G.2.1, 8, .inl (upd qk x3.toNatClampNeg (qk (x3 + x1).toNatClampNeg)))), (h2, .inl (G.2.1, 8, .inl (upd qv x3.toNatClampNeg (qv (x3 + x1).toNatClampNeg)))), (h3, .inl (G.2.1, 8, .inl qr))] H := hP
      have hD : va_D (va_A w0 s.heap.size) [(h0, .inr (1, [.int len, .ref h1, .ref h2, .ref h3])), (h1, .inl (G.2.1, 8, .inl (upd qk x3.toNatClampNeg (qk (x3 + x1).toNatClampNeg)))), (h2, .inl (G.2.1, 8, .inl (upd qv x3.toNatClampNeg (qv (x3 + x1).toNatClampNeg)))), (h3, .inl (G.2.1, 8, .inl qr))] := hD
      refine lv_aload_n hx hb dX1_shorten_46 rfl (lv_at hl 0 rfl) ?_
      refine va_get (D := G.1) (ci := 1) (v := .ref h3) (C := RX1) (T := TX1) (N := 4) hx hb hts hX1 hown hK.1 hP 0 rfl rfl 3 (by decide) (hts _ tw_114) (fun _ h9 => h9) rfl dX1_shorten_47 ?_
      refine lv_iload_n hx hb dX1_shorten_50 rfl (lv_at hl 3 rfl) ?_
      refine lv_aload_n hx hb dX1_shorten_51 rfl (lv_at hl 0 rfl) ?_
      refine va_get (D := G.1) (ci := 1) (v := .ref h3) (C := RX1) (T := TX1) (N := 4) hx hb hts hX1 hown hK.1 hP 0 rfl rfl 3 (by decide) (hts _ tw_114) (fun _ h9 => h9) rfl dX1_shorten_52 ?_
      refine lv_iload_n hx hb dX1_shorten_55 rfl (lv_at hl 3 rfl) ?_
      refine lv_iload_n hx hb dX1_shorten_56 rfl (lv_at hl 1 rfl) ?_
      refine lv_iadd hx hb dX1_shorten_57 ?_
      obtain ⟨g6, hf⟩ := g_gdS hf
      refine va_iald hx hb hK.1 hP 3 0 rfl rfl (g_in_vp g6) dX1_shorten_58 ?_
      obtain ⟨g7, hf⟩ := g_gdS hf
      refine va_iast hx hb hK.1 hP hD hS 3 0 rfl rfl (g_in_vp g7) dX1_shorten_59 (fun H locs hP hD hS => ?_)
      have hP : va_P G.1 vwCl [(h0, .inr (1, [.int len, .ref h1, .ref h2, .ref h3])), (h1, .inl (G.2.1, 8, .inl (upd qk x3.toNatClampNeg (qk (x3 + x1).toNatClampNeg)))), (h2, .inl (G.2.1, 8, .inl (upd qv x3.toNatClampNeg (qv (x3 + x1).toNatClampNeg)))), (h3, .inl (G.2.1, 8, .inl (upd qr x3.toNatClampNeg (qr (x3 + x1).toNatClampNeg))))] H := hP
      have hD : va_D (va_A w0 s.heap.size) [(h0, .inr (1, [.int len, .ref h1, .ref h2, .ref h3])), (h1, .inl (G.2.1, 8, .inl (upd qk x3.toNatClampNeg (qk (x3 + x1).toNatClampNeg)))), (h2, .inl (G.2.1, 8, .inl (upd qv x3.toNatClampNeg (qv (x3 + x1).toNatClampNeg)))), (h3, .inl (G.2.1, 8, .inl (upd qr x3.toNatClampNeg (qr (x3 + x1).toNatClampNeg))))] := hD
      refine lv_iinc (v := (x3 + (1 : Int32))) (lv' := [(3, .int (x3 + (1 : Int32))), (0, .ref h0), (1, .int x1), (2, .int x2)]) hx hb dX1_shorten_60 hl (k := 3) rfl rfl (by decide) rfl (fun ls hl => ?_)
      refine lv_goto (tgt := 13) hx hb dX1_shorten_63 (by decide) ?_
      exact ih _ _ _ _ _ _ _ _ hf _ _ hP hD hS ls (lv_sub hl [1, 2, 3, 0] rfl)
def fX1_shorten (p0 : Int32) (len : Int32) (qk : Nat → Int32) (qv : Nat → Int32) (qr : Nat → Int32) : Option (Int32 × (Nat → Int32) × (Nat → Int32) × (Nat → Int32)) := fX1_shorten_b13 2000 p0 (if (0 : Int32) < (len - p0) then (len - p0) else (0 : Int32)) (0 : Int32) len qk qv qr
set_option maxHeartbeats 4000000 in
set_option maxRecDepth 100000 in
theorem qX1_shorten (l : Launch) (G : gT) (h0 h1 h2 h3 : Nat) {p0 : Int32} {len : Int32} {qk : Nat → Int32} {qv : Nat → Int32} {qr : Nat → Int32} {u : Int32 × (Nat → Int32) × (Nat → Int32) × (Nat → Int32)} (hf : fX1_shorten p0 len qk qv qr = some u) : gC l G yX1_shorten wsX1_shorten rmX1_shorten [.ref h0, .int p0] (queueW G h0 h1 h2 h3 len qk qv qr) none (queueW G h0 h1 h2 h3 u.1 u.2.1 u.2.2.1 u.2.2.2) := by
  refine gC.of (cc := cX1_shorten) (maxL := 4) (ret := none) (by decide) rfl (Nat.le_of_ble_eq_true rfl) ?_
  intro p e s m below meth c C0 hP hD hS ls hl
  obtain ⟨hx, hb, hr, hts, hown, hlocks, hml, hK⟩ := id C0
  have hl : lv_has ls 4 [(0, .ref h0), (1, .int p0)] := hl
  have hA : ∀ q : Nat, s.heap.size ≤ q → va_A (queueW G h0 h1 h2 h3 len qk qv qr) s.heap.size q := fun q h => Or.inr h
  have hP : va_P G.1 vwCl [(h0, .inr (1, [.int len, .ref h1, .ref h2, .ref h3])), (h1, .inl (G.2.1, 8, .inl qk)), (h2, .inl (G.2.1, 8, .inl qv)), (h3, .inl (G.2.1, 8, .inl qr))] s.heap := hP
  have hD : va_D (va_A (queueW G h0 h1 h2 h3 len qk qv qr) s.heap.size) [(h0, .inr (1, [.int len, .ref h1, .ref h2, .ref h3])), (h1, .inl (G.2.1, 8, .inl qk)), (h2, .inl (G.2.1, 8, .inl qv)), (h3, .inl (G.2.1, 8, .inl qr))] := hD
  unfold fX1_shorten at hf
  refine lv_iconst (v := (0 : Int32)) hx hb dX1_shorten_0 (by decide) ?_
  refine lv_aload_n hx hb dX1_shorten_1 rfl (lv_at hl 0 rfl) ?_
  refine va_get (D := G.1) (ci := 1) (v := .int len) (C := RX1) (T := TX1) (N := 4) hx hb hts hX1 hown hK.1 hP 0 rfl rfl 0 (by decide) (hts _ tw_105) (fun _ h9 => h9) rfl dX1_shorten_2 ?_
  refine lv_iload_n hx hb dX1_shorten_5 rfl (lv_at hl 1 rfl) ?_
  refine lv_isub hx hb dX1_shorten_6 ?_
  refine va_mmax hx hb (by rw [hml]; exact hl.1.symm) hown (hts _ tw_382) (hts _ tw_383) (hts _ tw_57) (hts _ tw_384) (by decide) (by decide) (Nat.zero_le _) (Nat.zero_le _) dX1_shorten_7 ?_
  refine lv_istore_n (lv' := [(2, .int (if (0 : Int32) < (len - p0) then (len - p0) else (0 : Int32))), (0, .ref h0), (1, .int p0)]) hx hb dX1_shorten_10 rfl hl (by decide) rfl (fun ls hl => ?_)
  refine lv_iconst (v := (0 : Int32)) hx hb dX1_shorten_11 (by decide) ?_
  refine lv_istore_n (lv' := [(3, .int (0 : Int32)), (2, .int (if (0 : Int32) < (len - p0) then (len - p0) else (0 : Int32))), (0, .ref h0), (1, .int p0)]) hx hb dX1_shorten_12 rfl hl (by decide) rfl (fun ls hl => ?_)
  exact kX1_shorten_b13 C0 2000 _ _ _ _ _ _ _ _ hf _ _ hP hD hS ls (lv_sub hl [2, 3, 1, 0] rfl)
-- TwoShapes$Queue.latestOf(I)I
abbrev rmX1_latestOf : Room := { frames := 0, cells := 0, slots := 0, locals := 0 }
def fX1_latestOf_b7 : Nat → Int32 → Int32 → Int32 → (Nat → Int32) → (Nat → Int32) → (Nat → Int32) → Option (Int32)
  | 0, _, _, _, _, _, _ => none
  | n + 1, x1, x2, len, qk, qv, qr => (if x2 < (0 : Int32) then some ((-1 : Int32)) else g_gd (g_in x2 8) ((if (qk x2.toNatClampNeg) = x1 then some (x2) else fX1_latestOf_b7 n x1 (x2 + (-1 : Int32)) len qk qv qr)))
set_option maxHeartbeats 4000000 in
set_option maxRecDepth 100000 in
theorem kX1_latestOf_b7 {p : Program} {l : Launch} {e : Env} {s : State} {m : MethodId} {args : Array Value} {below : List Frame} {meth : Method} {c : Code} {G : gT} {h0 h1 h2 h3 : Nat} (C0 : gX p s m args meth c cX1_latestOf 3 (some .int) RX1 G) :
    ∀ (n : Nat) (x1 : Int32) (x2 : Int32) (len : Int32) (qk : Nat → Int32) (qv : Nat → Int32) (qr : Nat → Int32) (u : Int32), fX1_latestOf_b7 n x1 x2 len qk qv qr = some u → va_P G.1 vwCl [(h0, .inr (1, [.int len, .ref h1, .ref h2, .ref h3])), (h1, .inl (G.2.1, 8, .inl qk)), (h2, .inl (G.2.1, 8, .inl qv)), (h3, .inl (G.2.1, 8, .inl qr))] s.heap → ∀ ls, lv_has ls 3 [(0, .ref h0), (1, .int x1), (2, .int x2)] → gV p l e (headSpec wsX1_latestOf rmX1_latestOf).room s m args below meth c (some (.int u)) 7 ls [] := by
  obtain ⟨hx, hb, hr, hts, hown, hlocks, hml, hK⟩ := id C0
  intro n
  induction n with
  | zero =>
    intro x1 x2 len qk qv qr u hf hP ls hl
    have hf : (none : Option (Int32)) = some u := hf
    cases hf
  | succ n ih =>
    intro x1 x2 len qk qv qr u hf hP ls hl
    rw [fX1_latestOf_b7] at hf
    refine lv_iload_n hx hb dX1_latestOf_7 rfl (lv_at hl 2 rfl) ?_
    refine lv_if_lt (tgt := 29) hx hb dX1_latestOf_8 (by decide) (fun c1 => ?_) (fun c1 => ?_)
    · have hf := g_ifT c1 hf
      refine lv_iconst (v := (-1 : Int32)) hx hb dX1_latestOf_29 (by decide) ?_
      cases hf
      exact g_iretR hx hb hr hlocks dX1_latestOf_30
    · have hf := g_ifF c1 hf
      refine lv_aload_n hx hb dX1_latestOf_11 rfl (lv_at hl 0 rfl) ?_
      refine va_get (D := G.1) (ci := 1) (v := .ref h1) (C := RX1) (T := TX1) (N := 4) hx hb hts hX1 hown hK.1 hP 0 rfl rfl 1 (by decide) (hts _ tw_108) (fun _ h9 => h9) rfl dX1_latestOf_12 ?_
      refine lv_iload_n hx hb dX1_latestOf_15 rfl (lv_at hl 2 rfl) ?_
      obtain ⟨g2, hf⟩ := g_gdS hf
      refine va_iald hx hb hK.1 hP 1 0 rfl rfl (g_in_vp g2) dX1_latestOf_16 ?_
      refine lv_iload_n hx hb dX1_latestOf_17 rfl (lv_at hl 1 rfl) ?_
      refine lv_icmp_ne (tgt := 23) hx hb dX1_latestOf_18 (by decide) (fun c3 => ?_) (fun c3 => ?_)
      · have hf := g_ifF c3 hf
        refine lv_iinc (v := (x2 + (-1 : Int32))) (lv' := [(2, .int (x2 + (-1 : Int32))), (0, .ref h0), (1, .int x1)]) hx hb dX1_latestOf_23 hl (k := 2) rfl rfl (by decide) rfl (fun ls hl => ?_)
        refine lv_goto (tgt := 7) hx hb dX1_latestOf_26 (by decide) ?_
        exact ih _ _ _ _ _ _ _ hf hP ls (lv_sub hl [1, 2, 0] rfl)
      · have hf := g_ifT c3 hf
        refine lv_iload_n hx hb dX1_latestOf_21 rfl (lv_at hl 2 rfl) ?_
        cases hf
        exact g_iretR hx hb hr hlocks dX1_latestOf_22
def fX1_latestOf (p0 : Int32) (len : Int32) (qk : Nat → Int32) (qv : Nat → Int32) (qr : Nat → Int32) : Option (Int32) := fX1_latestOf_b7 2000 p0 (len - (1 : Int32)) len qk qv qr
set_option maxHeartbeats 4000000 in
set_option maxRecDepth 100000 in
theorem qX1_latestOf (l : Launch) (G : gT) (h0 h1 h2 h3 : Nat) {p0 : Int32} {len : Int32} {qk : Nat → Int32} {qv : Nat → Int32} {qr : Nat → Int32} {u : Int32} (hf : fX1_latestOf p0 len qk qv qr = some u) : gR l G yX1_latestOf wsX1_latestOf rmX1_latestOf [.ref h0, .int p0] (queueW G h0 h1 h2 h3 len qk qv qr) (some (.int u)) := by
  refine gR.of (cc := cX1_latestOf) (maxL := 3) (ret := (some .int)) (by decide) rfl (Nat.le_of_ble_eq_true rfl) ?_
  intro p e s m below meth c C0 hP ls hl
  obtain ⟨hx, hb, hr, hts, hown, hlocks, hml, hK⟩ := id C0
  have hl : lv_has ls 3 [(0, .ref h0), (1, .int p0)] := hl
  have hP : va_P G.1 vwCl [(h0, .inr (1, [.int len, .ref h1, .ref h2, .ref h3])), (h1, .inl (G.2.1, 8, .inl qk)), (h2, .inl (G.2.1, 8, .inl qv)), (h3, .inl (G.2.1, 8, .inl qr))] s.heap := hP
  unfold fX1_latestOf at hf
  refine lv_aload_n hx hb dX1_latestOf_0 rfl (lv_at hl 0 rfl) ?_
  refine va_get (D := G.1) (ci := 1) (v := .int len) (C := RX1) (T := TX1) (N := 4) hx hb hts hX1 hown hK.1 hP 0 rfl rfl 0 (by decide) (hts _ tw_105) (fun _ h9 => h9) rfl dX1_latestOf_1 ?_
  refine lv_iconst (v := (1 : Int32)) hx hb dX1_latestOf_4 (by decide) ?_
  refine lv_isub hx hb dX1_latestOf_5 ?_
  refine lv_istore_n (lv' := [(2, .int (len - (1 : Int32))), (0, .ref h0), (1, .int p0)]) hx hb dX1_latestOf_6 rfl hl (by decide) rfl (fun ls hl => ?_)
  exact kX1_latestOf_b7 C0 2000 _ _ _ _ _ _ _ hf hP ls (lv_sub hl [1, 2, 0] rfl)
end
section
-- TwoShapes$Table.hasBoth()Z
abbrev rmX4_hasBoth : Room := { frames := 0, cells := 0, slots := 0, locals := 0 }
def fX4_hasBoth (ph : Int32) (la : Int32) (po : Int32) (lo : Int32) (ov : Nat → Int32) (orr : Nat → Int32) (nv : Nat → Int32) (nr : Nat → Int32) (ql : Int32) (qk : Nat → Int32) (qv : Nat → Int32) (qr : Nat → Int32) (wr : Nat → Int32) (wa : Int32) (wc : Nat → Int32) (wk : Nat → Int32) : Option (Int32) := (if ph = (1 : Int32) then some ((1 : Int32)) else (if ph = (2 : Int32) then some ((1 : Int32)) else some ((0 : Int32))))
set_option maxHeartbeats 4000000 in
set_option maxRecDepth 100000 in
theorem qX4_hasBoth (l : Launch) (G : gT) (a : Nat → Nat) {ph : Int32} {la : Int32} {po : Int32} {lo : Int32} {ov : Nat → Int32} {orr : Nat → Int32} {nv : Nat → Int32} {nr : Nat → Int32} {ql : Int32} {qk : Nat → Int32} {qv : Nat → Int32} {qr : Nat → Int32} {wr : Nat → Int32} {wa : Int32} {wc : Nat → Int32} {wk : Nat → Int32} {u : Int32} (hf : fX4_hasBoth ph la po lo ov orr nv nr ql qk qv qr wr wa wc wk = some u) : gR l G yX4_hasBoth wsX4_hasBoth rmX4_hasBoth [.ref (a 0)] (tabW G a ph la po lo ov orr nv nr ql qk qv qr wr wa wc wk) (some (.int u)) := by
  refine gR.of (cc := cX4_hasBoth) (maxL := 1) (ret := (some .boolean)) (by decide) rfl (Nat.le_of_ble_eq_true rfl) ?_
  intro p e s m below meth c C0 hP ls hl
  obtain ⟨hx, hb, hr, hts, hown, hlocks, hml, hK⟩ := id C0
  have hl : lv_has ls 1 [(0, .ref (a 0))] := hl
  have hP : va_P G.1 vwCl [((a 0), .inr (3, [.int ph, .int la, .int po, .int lo, .ref (a 1), .ref (a 4), .ref (a 7), .ref (a 11), .int wa, .ref (a 12), .ref (a 13)])), ((a 1), .inr (2, [.int 0, .ref (a 2), .ref (a 3)])), ((a 2), .inl (G.2.1, 31, .inl ov)), ((a 3), .inl (G.2.1, 31, .inl orr)), ((a 4), .inr (2, [.int 1, .ref (a 5), .ref (a 6)])), ((a 5), .inl (G.2.1, 31, .inl nv)), ((a 6), .inl (G.2.1, 31, .inl nr)), ((a 7), .inr (1, [.int ql, .ref (a 8), .ref (a 9), .ref (a 10)])), ((a 8), .inl (G.2.1, 8, .inl qk)), ((a 9), .inl (G.2.1, 8, .inl qv)), ((a 10), .inl (G.2.1, 8, .inl qr)), ((a 11), .inl (G.2.1, 31, .inl wr)), ((a 12), .inl (G.2.1, 3, .inl wc)), ((a 13), .inl (G.2.1, 3, .inl wk))] s.heap := hP
  unfold fX4_hasBoth at hf
  refine lv_aload_n hx hb dX4_hasBoth_0 rfl (lv_at hl 0 rfl) ?_
  refine va_get (D := G.1) (ci := 3) (v := .int ph) (C := RX4) (T := TX4) (N := 11) hx hb hts hX4 hown hK.1 hP 0 rfl rfl 0 (by decide) (hts _ tw_126) (fun _ h9 => h9) rfl dX4_hasBoth_1 ?_
  refine lv_iconst (v := (1 : Int32)) hx hb dX4_hasBoth_4 (by decide) ?_
  refine lv_icmp_eq (tgt := 16) hx hb dX4_hasBoth_5 (by decide) (fun c1 => ?_) (fun c1 => ?_)
  · have hf := g_ifT c1 hf
    refine lv_iconst (v := (1 : Int32)) hx hb dX4_hasBoth_16 (by decide) ?_
    refine lv_goto (tgt := 21) hx hb dX4_hasBoth_17 (by decide) ?_
    cases hf
    exact g_zretR hx hb hr hlocks rfl dX4_hasBoth_21
  · have hf := g_ifF c1 hf
    refine lv_aload_n hx hb dX4_hasBoth_8 rfl (lv_at hl 0 rfl) ?_
    refine va_get (D := G.1) (ci := 3) (v := .int ph) (C := RX4) (T := TX4) (N := 11) hx hb hts hX4 hown hK.1 hP 0 rfl rfl 0 (by decide) (hts _ tw_126) (fun _ h9 => h9) rfl dX4_hasBoth_9 ?_
    refine lv_iconst (v := (2 : Int32)) hx hb dX4_hasBoth_12 (by decide) ?_
    refine lv_icmp_ne (tgt := 20) hx hb dX4_hasBoth_13 (by decide) (fun c2 => ?_) (fun c2 => ?_)
    · have hf := g_ifF c2 hf
      refine lv_iconst (v := (0 : Int32)) hx hb dX4_hasBoth_20 (by decide) ?_
      cases hf
      exact g_zretR hx hb hr hlocks rfl dX4_hasBoth_21
    · have hf := g_ifT c2 hf
      refine lv_iconst (v := (1 : Int32)) hx hb dX4_hasBoth_16 (by decide) ?_
      refine lv_goto (tgt := 21) hx hb dX4_hasBoth_17 (by decide) ?_
      cases hf
      exact g_zretR hx hb hr hlocks rfl dX4_hasBoth_21
-- TwoShapes$Table.isThere(I)Z
abbrev rmX4_isThere : Room := { frames := 0, cells := 0, slots := 0, locals := 0 }
def fX4_isThere (p0 : Int32) (ph : Int32) (la : Int32) (po : Int32) (lo : Int32) (ov : Nat → Int32) (orr : Nat → Int32) (nv : Nat → Int32) (nr : Nat → Int32) (ql : Int32) (qk : Nat → Int32) (qv : Nat → Int32) (qr : Nat → Int32) (wr : Nat → Int32) (wa : Int32) (wc : Nat → Int32) (wk : Nat → Int32) : Option (Int32) := (if p0 = (0 : Int32) then (if ph = (3 : Int32) then some ((0 : Int32)) else some ((1 : Int32))) else (if ph = (0 : Int32) then some ((0 : Int32)) else some ((1 : Int32))))
set_option maxHeartbeats 4000000 in
set_option maxRecDepth 100000 in
theorem qX4_isThere (l : Launch) (G : gT) (a : Nat → Nat) {p0 : Int32} {ph : Int32} {la : Int32} {po : Int32} {lo : Int32} {ov : Nat → Int32} {orr : Nat → Int32} {nv : Nat → Int32} {nr : Nat → Int32} {ql : Int32} {qk : Nat → Int32} {qv : Nat → Int32} {qr : Nat → Int32} {wr : Nat → Int32} {wa : Int32} {wc : Nat → Int32} {wk : Nat → Int32} {u : Int32} (hf : fX4_isThere p0 ph la po lo ov orr nv nr ql qk qv qr wr wa wc wk = some u) : gR l G yX4_isThere wsX4_isThere rmX4_isThere [.ref (a 0), .int p0] (tabW G a ph la po lo ov orr nv nr ql qk qv qr wr wa wc wk) (some (.int u)) := by
  refine gR.of (cc := cX4_isThere) (maxL := 2) (ret := (some .boolean)) (by decide) rfl (Nat.le_of_ble_eq_true rfl) ?_
  intro p e s m below meth c C0 hP ls hl
  obtain ⟨hx, hb, hr, hts, hown, hlocks, hml, hK⟩ := id C0
  have hl : lv_has ls 2 [(0, .ref (a 0)), (1, .int p0)] := hl
  have hP : va_P G.1 vwCl [((a 0), .inr (3, [.int ph, .int la, .int po, .int lo, .ref (a 1), .ref (a 4), .ref (a 7), .ref (a 11), .int wa, .ref (a 12), .ref (a 13)])), ((a 1), .inr (2, [.int 0, .ref (a 2), .ref (a 3)])), ((a 2), .inl (G.2.1, 31, .inl ov)), ((a 3), .inl (G.2.1, 31, .inl orr)), ((a 4), .inr (2, [.int 1, .ref (a 5), .ref (a 6)])), ((a 5), .inl (G.2.1, 31, .inl nv)), ((a 6), .inl (G.2.1, 31, .inl nr)), ((a 7), .inr (1, [.int ql, .ref (a 8), .ref (a 9), .ref (a 10)])), ((a 8), .inl (G.2.1, 8, .inl qk)), ((a 9), .inl (G.2.1, 8, .inl qv)), ((a 10), .inl (G.2.1, 8, .inl qr)), ((a 11), .inl (G.2.1, 31, .inl wr)), ((a 12), .inl (G.2.1, 3, .inl wc)), ((a 13), .inl (G.2.1, 3, .inl wk))] s.heap := hP
  unfold fX4_isThere at hf
  refine lv_iload_n hx hb dX4_isThere_0 rfl (lv_at hl 1 rfl) ?_
  refine lv_if_ne (tgt := 20) hx hb dX4_isThere_1 (by decide) (fun c1 => ?_) (fun c1 => ?_)
  · have hf := g_ifF c1 hf
    refine lv_aload_n hx hb dX4_isThere_20 rfl (lv_at hl 0 rfl) ?_
    refine va_get (D := G.1) (ci := 3) (v := .int ph) (C := RX4) (T := TX4) (N := 11) hx hb hts hX4 hown hK.1 hP 0 rfl rfl 0 (by decide) (hts _ tw_126) (fun _ h9 => h9) rfl dX4_isThere_21 ?_
    refine lv_if_eq (tgt := 31) hx hb dX4_isThere_24 (by decide) (fun c2 => ?_) (fun c2 => ?_)
    · have hf := g_ifT c2 hf
      refine lv_iconst (v := (0 : Int32)) hx hb dX4_isThere_31 (by decide) ?_
      cases hf
      exact g_zretR hx hb hr hlocks rfl dX4_isThere_32
    · have hf := g_ifF c2 hf
      refine lv_iconst (v := (1 : Int32)) hx hb dX4_isThere_27 (by decide) ?_
      refine lv_goto (tgt := 32) hx hb dX4_isThere_28 (by decide) ?_
      cases hf
      exact g_zretR hx hb hr hlocks rfl dX4_isThere_32
  · have hf := g_ifT c1 hf
    refine lv_aload_n hx hb dX4_isThere_4 rfl (lv_at hl 0 rfl) ?_
    refine va_get (D := G.1) (ci := 3) (v := .int ph) (C := RX4) (T := TX4) (N := 11) hx hb hts hX4 hown hK.1 hP 0 rfl rfl 0 (by decide) (hts _ tw_126) (fun _ h9 => h9) rfl dX4_isThere_5 ?_
    refine lv_iconst (v := (3 : Int32)) hx hb dX4_isThere_8 (by decide) ?_
    refine lv_icmp_eq (tgt := 16) hx hb dX4_isThere_9 (by decide) (fun c3 => ?_) (fun c3 => ?_)
    · have hf := g_ifT c3 hf
      refine lv_iconst (v := (0 : Int32)) hx hb dX4_isThere_16 (by decide) ?_
      refine lv_goto (tgt := 32) hx hb dX4_isThere_17 (by decide) ?_
      cases hf
      exact g_zretR hx hb hr hlocks rfl dX4_isThere_32
    · have hf := g_ifF c3 hf
      refine lv_iconst (v := (1 : Int32)) hx hb dX4_isThere_12 (by decide) ?_
      refine lv_goto (tgt := 32) hx hb dX4_isThere_13 (by decide) ?_
      cases hf
      exact g_zretR hx hb hr hlocks rfl dX4_isThere_32
-- TwoShapes$Table.first()I
abbrev rmX4_first : Room := { frames := 0, cells := 0, slots := 0, locals := 0 }
def fX4_first (ph : Int32) (la : Int32) (po : Int32) (lo : Int32) (ov : Nat → Int32) (orr : Nat → Int32) (nv : Nat → Int32) (nr : Nat → Int32) (ql : Int32) (qk : Nat → Int32) (qv : Nat → Int32) (qr : Nat → Int32) (wr : Nat → Int32) (wa : Int32) (wc : Nat → Int32) (wk : Nat → Int32) : Option (Int32) := (if ph = (0 : Int32) then some ((0 : Int32)) else (if ph = (1 : Int32) then some ((0 : Int32)) else some ((1 : Int32))))
set_option maxHeartbeats 4000000 in
set_option maxRecDepth 100000 in
theorem qX4_first (l : Launch) (G : gT) (a : Nat → Nat) {ph : Int32} {la : Int32} {po : Int32} {lo : Int32} {ov : Nat → Int32} {orr : Nat → Int32} {nv : Nat → Int32} {nr : Nat → Int32} {ql : Int32} {qk : Nat → Int32} {qv : Nat → Int32} {qr : Nat → Int32} {wr : Nat → Int32} {wa : Int32} {wc : Nat → Int32} {wk : Nat → Int32} {u : Int32} (hf : fX4_first ph la po lo ov orr nv nr ql qk qv qr wr wa wc wk = some u) : gR l G yX4_first wsX4_first rmX4_first [.ref (a 0)] (tabW G a ph la po lo ov orr nv nr ql qk qv qr wr wa wc wk) (some (.int u)) := by
  refine gR.of (cc := cX4_first) (maxL := 1) (ret := (some .int)) (by decide) rfl (Nat.le_of_ble_eq_true rfl) ?_
  intro p e s m below meth c C0 hP ls hl
  obtain ⟨hx, hb, hr, hts, hown, hlocks, hml, hK⟩ := id C0
  have hl : lv_has ls 1 [(0, .ref (a 0))] := hl
  have hP : va_P G.1 vwCl [((a 0), .inr (3, [.int ph, .int la, .int po, .int lo, .ref (a 1), .ref (a 4), .ref (a 7), .ref (a 11), .int wa, .ref (a 12), .ref (a 13)])), ((a 1), .inr (2, [.int 0, .ref (a 2), .ref (a 3)])), ((a 2), .inl (G.2.1, 31, .inl ov)), ((a 3), .inl (G.2.1, 31, .inl orr)), ((a 4), .inr (2, [.int 1, .ref (a 5), .ref (a 6)])), ((a 5), .inl (G.2.1, 31, .inl nv)), ((a 6), .inl (G.2.1, 31, .inl nr)), ((a 7), .inr (1, [.int ql, .ref (a 8), .ref (a 9), .ref (a 10)])), ((a 8), .inl (G.2.1, 8, .inl qk)), ((a 9), .inl (G.2.1, 8, .inl qv)), ((a 10), .inl (G.2.1, 8, .inl qr)), ((a 11), .inl (G.2.1, 31, .inl wr)), ((a 12), .inl (G.2.1, 3, .inl wc)), ((a 13), .inl (G.2.1, 3, .inl wk))] s.heap := hP
  unfold fX4_first at hf
  refine lv_aload_n hx hb dX4_first_0 rfl (lv_at hl 0 rfl) ?_
  refine va_get (D := G.1) (ci := 3) (v := .int ph) (C := RX4) (T := TX4) (N := 11) hx hb hts hX4 hown hK.1 hP 0 rfl rfl 0 (by decide) (hts _ tw_126) (fun _ h9 => h9) rfl dX4_first_1 ?_
  refine lv_if_eq (tgt := 15) hx hb dX4_first_4 (by decide) (fun c1 => ?_) (fun c1 => ?_)
  · have hf := g_ifT c1 hf
    refine lv_iconst (v := (0 : Int32)) hx hb dX4_first_15 (by decide) ?_
    refine lv_goto (tgt := 20) hx hb dX4_first_16 (by decide) ?_
    cases hf
    exact g_iretR hx hb hr hlocks dX4_first_20
  · have hf := g_ifF c1 hf
    refine lv_aload_n hx hb dX4_first_7 rfl (lv_at hl 0 rfl) ?_
    refine va_get (D := G.1) (ci := 3) (v := .int ph) (C := RX4) (T := TX4) (N := 11) hx hb hts hX4 hown hK.1 hP 0 rfl rfl 0 (by decide) (hts _ tw_126) (fun _ h9 => h9) rfl dX4_first_8 ?_
    refine lv_iconst (v := (1 : Int32)) hx hb dX4_first_11 (by decide) ?_
    refine lv_icmp_ne (tgt := 19) hx hb dX4_first_12 (by decide) (fun c2 => ?_) (fun c2 => ?_)
    · have hf := g_ifF c2 hf
      refine lv_iconst (v := (1 : Int32)) hx hb dX4_first_19 (by decide) ?_
      cases hf
      exact g_iretR hx hb hr hlocks dX4_first_20
    · have hf := g_ifT c2 hf
      refine lv_iconst (v := (0 : Int32)) hx hb dX4_first_15 (by decide) ?_
      refine lv_goto (tgt := 20) hx hb dX4_first_16 (by decide) ?_
      cases hf
      exact g_iretR hx hb hr hlocks dX4_first_20
-- TwoShapes$Table.other(I)I
abbrev rmX4_other : Room := { frames := 0, cells := 0, slots := 0, locals := 0 }
def fX4_other (p0 : Int32) (ph : Int32) (la : Int32) (po : Int32) (lo : Int32) (ov : Nat → Int32) (orr : Nat → Int32) (nv : Nat → Int32) (nr : Nat → Int32) (ql : Int32) (qk : Nat → Int32) (qv : Nat → Int32) (qr : Nat → Int32) (wr : Nat → Int32) (wa : Int32) (wc : Nat → Int32) (wk : Nat → Int32) : Option (Int32) := (if p0 = (0 : Int32) then some ((1 : Int32)) else some ((0 : Int32)))
set_option maxHeartbeats 4000000 in
set_option maxRecDepth 100000 in
theorem qX4_other (l : Launch) (G : gT) (a : Nat → Nat) {p0 : Int32} {ph : Int32} {la : Int32} {po : Int32} {lo : Int32} {ov : Nat → Int32} {orr : Nat → Int32} {nv : Nat → Int32} {nr : Nat → Int32} {ql : Int32} {qk : Nat → Int32} {qv : Nat → Int32} {qr : Nat → Int32} {wr : Nat → Int32} {wa : Int32} {wc : Nat → Int32} {wk : Nat → Int32} {u : Int32} (hf : fX4_other p0 ph la po lo ov orr nv nr ql qk qv qr wr wa wc wk = some u) : gR l G yX4_other wsX4_other rmX4_other [.ref (a 0), .int p0] (tabW G a ph la po lo ov orr nv nr ql qk qv qr wr wa wc wk) (some (.int u)) := by
  refine gR.of (cc := cX4_other) (maxL := 2) (ret := (some .int)) (by decide) rfl (Nat.le_of_ble_eq_true rfl) ?_
  intro p e s m below meth c C0 hP ls hl
  obtain ⟨hx, hb, hr, hts, hown, hlocks, hml, hK⟩ := id C0
  have hl : lv_has ls 2 [(0, .ref (a 0)), (1, .int p0)] := hl
  have hP : va_P G.1 vwCl [((a 0), .inr (3, [.int ph, .int la, .int po, .int lo, .ref (a 1), .ref (a 4), .ref (a 7), .ref (a 11), .int wa, .ref (a 12), .ref (a 13)])), ((a 1), .inr (2, [.int 0, .ref (a 2), .ref (a 3)])), ((a 2), .inl (G.2.1, 31, .inl ov)), ((a 3), .inl (G.2.1, 31, .inl orr)), ((a 4), .inr (2, [.int 1, .ref (a 5), .ref (a 6)])), ((a 5), .inl (G.2.1, 31, .inl nv)), ((a 6), .inl (G.2.1, 31, .inl nr)), ((a 7), .inr (1, [.int ql, .ref (a 8), .ref (a 9), .ref (a 10)])), ((a 8), .inl (G.2.1, 8, .inl qk)), ((a 9), .inl (G.2.1, 8, .inl qv)), ((a 10), .inl (G.2.1, 8, .inl qr)), ((a 11), .inl (G.2.1, 31, .inl wr)), ((a 12), .inl (G.2.1, 3, .inl wc)), ((a 13), .inl (G.2.1, 3, .inl wk))] s.heap := hP
  unfold fX4_other at hf
  refine lv_iload_n hx hb dX4_other_0 rfl (lv_at hl 1 rfl) ?_
  refine lv_if_ne (tgt := 8) hx hb dX4_other_1 (by decide) (fun c1 => ?_) (fun c1 => ?_)
  · have hf := g_ifF c1 hf
    refine lv_iconst (v := (0 : Int32)) hx hb dX4_other_8 (by decide) ?_
    cases hf
    exact g_iretR hx hb hr hlocks dX4_other_9
  · have hf := g_ifT c1 hf
    refine lv_iconst (v := (1 : Int32)) hx hb dX4_other_4 (by decide) ?_
    refine lv_goto (tgt := 9) hx hb dX4_other_5 (by decide) ?_
    cases hf
    exact g_iretR hx hb hr hlocks dX4_other_9
-- TwoShapes$Table.second()I
abbrev rmX4_second : Room := { frames := 1, cells := 0, slots := 0, locals := 21 }
def fX4_second (ph : Int32) (la : Int32) (po : Int32) (lo : Int32) (ov : Nat → Int32) (orr : Nat → Int32) (nv : Nat → Int32) (nr : Nat → Int32) (ql : Int32) (qk : Nat → Int32) (qv : Nat → Int32) (qr : Nat → Int32) (wr : Nat → Int32) (wa : Int32) (wc : Nat → Int32) (wk : Nat → Int32) : Option (Int32) := ((fX4_first ph la po lo ov orr nv nr ql qk qv qr wr wa wc wk).bind fun r1 => ((fX4_other r1 ph la po lo ov orr nv nr ql qk qv qr wr wa wc wk).bind fun r3 => some (r3)))
set_option maxHeartbeats 4000000 in
set_option maxRecDepth 100000 in
theorem qX4_second (l : Launch) (G : gT) (a : Nat → Nat) {ph : Int32} {la : Int32} {po : Int32} {lo : Int32} {ov : Nat → Int32} {orr : Nat → Int32} {nv : Nat → Int32} {nr : Nat → Int32} {ql : Int32} {qk : Nat → Int32} {qv : Nat → Int32} {qr : Nat → Int32} {wr : Nat → Int32} {wa : Int32} {wc : Nat → Int32} {wk : Nat → Int32} {u : Int32} (hf : fX4_second ph la po lo ov orr nv nr ql qk qv qr wr wa wc wk = some u) : gR l G yX4_second wsX4_second rmX4_second [.ref (a 0)] (tabW G a ph la po lo ov orr nv nr ql qk qv qr wr wa wc wk) (some (.int u)) := by
  refine gR.of (cc := cX4_second) (maxL := 1) (ret := (some .int)) (by decide) rfl (Nat.le_of_ble_eq_true rfl) ?_
  intro p e s m below meth c C0 hP ls hl
  obtain ⟨hx, hb, hr, hts, hown, hlocks, hml, hK⟩ := id C0
  have hl : lv_has ls 1 [(0, .ref (a 0))] := hl
  have hP : va_P G.1 vwCl [((a 0), .inr (3, [.int ph, .int la, .int po, .int lo, .ref (a 1), .ref (a 4), .ref (a 7), .ref (a 11), .int wa, .ref (a 12), .ref (a 13)])), ((a 1), .inr (2, [.int 0, .ref (a 2), .ref (a 3)])), ((a 2), .inl (G.2.1, 31, .inl ov)), ((a 3), .inl (G.2.1, 31, .inl orr)), ((a 4), .inr (2, [.int 1, .ref (a 5), .ref (a 6)])), ((a 5), .inl (G.2.1, 31, .inl nv)), ((a 6), .inl (G.2.1, 31, .inl nr)), ((a 7), .inr (1, [.int ql, .ref (a 8), .ref (a 9), .ref (a 10)])), ((a 8), .inl (G.2.1, 8, .inl qk)), ((a 9), .inl (G.2.1, 8, .inl qv)), ((a 10), .inl (G.2.1, 8, .inl qr)), ((a 11), .inl (G.2.1, 31, .inl wr)), ((a 12), .inl (G.2.1, 3, .inl wc)), ((a 13), .inl (G.2.1, 3, .inl wk))] s.heap := hP
  unfold fX4_second at hf
  refine lv_aload_n hx hb dX4_second_0 rfl (lv_at hl 0 rfl) ?_
  refine lv_aload_n hx hb dX4_second_1 rfl (lv_at hl 0 rfl) ?_
  obtain ⟨r1, e2, hf⟩ := g_bdS hf
  refine g_contR (st1 := [.int r1, .ref (a 0)]) (g_runVR (As := []) (rest := [.ref (a 0)]) ⟨hx, hb, hml, hown, hts⟩ (qX4_first l G a e2) (cwV 0 hts (TB_V TB_id tw_325 tw_326 tw_327 tw_50 tw_328) rfl rfl rfl (by decide +kernel) ⟨Nat.le_of_ble_eq_true rfl, Nat.le_of_ble_eq_true rfl⟩) hK (hP.sub [0, 1, 2, 3, 4, 5, 6, 7, 8, 9, 10, 11, 12, 13] rfl) 0 rfl rfl rfl hl.1 rfl (Nat.le_of_ble_eq_true rfl) dX4_second_2) rfl ?_
  obtain ⟨r3, e4, hf⟩ := g_bdS hf
  refine g_contR (st1 := [.int r3]) (g_runVR (As := [.int r1]) (rest := []) ⟨hx, hb, hml, hown, hts⟩ (qX4_other l G a e4) (cwV 1 hts (TB_V TB_id tw_374 tw_375 tw_376 tw_50 tw_377) rfl rfl rfl (by decide +kernel) ⟨Nat.le_of_ble_eq_true rfl, Nat.le_of_ble_eq_true rfl⟩) hK (hP.sub [0, 1, 2, 3, 4, 5, 6, 7, 8, 9, 10, 11, 12, 13] rfl) 0 rfl rfl rfl hl.1 rfl (Nat.le_of_ble_eq_true rfl) dX4_second_5) rfl ?_
  cases hf
  exact g_iretR hx hb hr hlocks dX4_second_8
-- TwoShapes$Table.shape(I)LTwoShapes$Shape;
abbrev rmX4_shape : Room := { frames := 0, cells := 0, slots := 0, locals := 0 }
def fX4_shape (p0 : Int32) (ph : Int32) (la : Int32) (po : Int32) (lo : Int32) (ov : Nat → Int32) (orr : Nat → Int32) (nv : Nat → Int32) (nr : Nat → Int32) (ql : Int32) (qk : Nat → Int32) (qv : Nat → Int32) (qr : Nat → Int32) (wr : Nat → Int32) (wa : Int32) (wc : Nat → Int32) (wk : Nat → Int32) : Option (Nat) := (if p0 = (0 : Int32) then some (1) else some (4))
set_option maxHeartbeats 4000000 in
set_option maxRecDepth 100000 in
theorem qX4_shape (l : Launch) (G : gT) (a : Nat → Nat) {p0 : Int32} {ph : Int32} {la : Int32} {po : Int32} {lo : Int32} {ov : Nat → Int32} {orr : Nat → Int32} {nv : Nat → Int32} {nr : Nat → Int32} {ql : Int32} {qk : Nat → Int32} {qv : Nat → Int32} {qr : Nat → Int32} {wr : Nat → Int32} {wa : Int32} {wc : Nat → Int32} {wk : Nat → Int32} {u : Nat} (hf : fX4_shape p0 ph la po lo ov orr nv nr ql qk qv qr wr wa wc wk = some u) : gR l G yX4_shape wsX4_shape rmX4_shape [.ref (a 0), .int p0] (tabW G a ph la po lo ov orr nv nr ql qk qv qr wr wa wc wk) (some (.ref (a u))) := by
  refine gR.of (cc := cX4_shape) (maxL := 2) (ret := (some (.object "TwoShapes$Shape"))) (by decide) rfl (Nat.le_of_ble_eq_true rfl) ?_
  intro p e s m below meth c C0 hP ls hl
  obtain ⟨hx, hb, hr, hts, hown, hlocks, hml, hK⟩ := id C0
  have hl : lv_has ls 2 [(0, .ref (a 0)), (1, .int p0)] := hl
  have hP : va_P G.1 vwCl [((a 0), .inr (3, [.int ph, .int la, .int po, .int lo, .ref (a 1), .ref (a 4), .ref (a 7), .ref (a 11), .int wa, .ref (a 12), .ref (a 13)])), ((a 1), .inr (2, [.int 0, .ref (a 2), .ref (a 3)])), ((a 2), .inl (G.2.1, 31, .inl ov)), ((a 3), .inl (G.2.1, 31, .inl orr)), ((a 4), .inr (2, [.int 1, .ref (a 5), .ref (a 6)])), ((a 5), .inl (G.2.1, 31, .inl nv)), ((a 6), .inl (G.2.1, 31, .inl nr)), ((a 7), .inr (1, [.int ql, .ref (a 8), .ref (a 9), .ref (a 10)])), ((a 8), .inl (G.2.1, 8, .inl qk)), ((a 9), .inl (G.2.1, 8, .inl qv)), ((a 10), .inl (G.2.1, 8, .inl qr)), ((a 11), .inl (G.2.1, 31, .inl wr)), ((a 12), .inl (G.2.1, 3, .inl wc)), ((a 13), .inl (G.2.1, 3, .inl wk))] s.heap := hP
  unfold fX4_shape at hf
  refine lv_iload_n hx hb dX4_shape_0 rfl (lv_at hl 1 rfl) ?_
  refine lv_if_ne (tgt := 11) hx hb dX4_shape_1 (by decide) (fun c1 => ?_) (fun c1 => ?_)
  · have hf := g_ifF c1 hf
    refine lv_aload_n hx hb dX4_shape_11 rfl (lv_at hl 0 rfl) ?_
    refine va_get (D := G.1) (ci := 3) (v := .ref (a 4)) (C := RX4) (T := TX4) (N := 11) hx hb hts hX4 hown hK.1 hP 0 rfl rfl 5 (by decide) (hts _ tw_136) (fun _ h9 => h9) rfl dX4_shape_12 ?_
    cases hf
    exact g_aretR hx hb hr hlocks dX4_shape_15
  · have hf := g_ifT c1 hf
    refine lv_aload_n hx hb dX4_shape_4 rfl (lv_at hl 0 rfl) ?_
    refine va_get (D := G.1) (ci := 3) (v := .ref (a 1)) (C := RX4) (T := TX4) (N := 11) hx hb hts hX4 hown hK.1 hP 0 rfl rfl 4 (by decide) (hts _ tw_134) (fun _ h9 => h9) rfl dX4_shape_5 ?_
    refine lv_goto (tgt := 15) hx hb dX4_shape_8 (by decide) ?_
    cases hf
    exact g_aretR hx hb hr hlocks dX4_shape_15
-- TwoShapes$Table.startChange()I
abbrev rmX4_startChange : Room := { frames := 1, cells := 0, slots := 0, locals := 22 }
def fX4_startChange (ph : Int32) (la : Int32) (po : Int32) (lo : Int32) (ov : Nat → Int32) (orr : Nat → Int32) (nv : Nat → Int32) (nr : Nat → Int32) (ql : Int32) (qk : Nat → Int32) (qv : Nat → Int32) (qr : Nat → Int32) (wr : Nat → Int32) (wa : Int32) (wc : Nat → Int32) (wk : Nat → Int32) : Option (Int32 × Int32 × Int32 × Int32 × Int32 × (Nat → Int32) × (Nat → Int32) × (Nat → Int32) × (Nat → Int32) × Int32 × (Nat → Int32) × (Nat → Int32) × (Nat → Int32) × (Nat → Int32) × Int32 × (Nat → Int32) × (Nat → Int32)) := (if ph = (0 : Int32) then ((fX3_rows 0 ov orr).bind fun r2 => some (r2, (1 : Int32), la, (0 : Int32), lo, ov, orr, nv, nr, ql, qk, qv, qr, wr, wa, wc, wk)) else some ((-1000002 : Int32), ph, la, po, lo, ov, orr, nv, nr, ql, qk, qv, qr, wr, wa, wc, wk))
set_option maxHeartbeats 4000000 in
set_option maxRecDepth 100000 in
theorem qX4_startChange (l : Launch) (G : gT) (a : Nat → Nat) {ph : Int32} {la : Int32} {po : Int32} {lo : Int32} {ov : Nat → Int32} {orr : Nat → Int32} {nv : Nat → Int32} {nr : Nat → Int32} {ql : Int32} {qk : Nat → Int32} {qv : Nat → Int32} {qr : Nat → Int32} {wr : Nat → Int32} {wa : Int32} {wc : Nat → Int32} {wk : Nat → Int32} {u : Int32 × Int32 × Int32 × Int32 × Int32 × (Nat → Int32) × (Nat → Int32) × (Nat → Int32) × (Nat → Int32) × Int32 × (Nat → Int32) × (Nat → Int32) × (Nat → Int32) × (Nat → Int32) × Int32 × (Nat → Int32) × (Nat → Int32)} (hf : fX4_startChange ph la po lo ov orr nv nr ql qk qv qr wr wa wc wk = some u) : gC l G yX4_startChange wsX4_startChange rmX4_startChange [.ref (a 0)] (tabW G a ph la po lo ov orr nv nr ql qk qv qr wr wa wc wk) (some (.int u.1)) (tabW G a u.2.1 u.2.2.1 u.2.2.2.1 u.2.2.2.2.1 u.2.2.2.2.2.1 u.2.2.2.2.2.2.1 u.2.2.2.2.2.2.2.1 u.2.2.2.2.2.2.2.2.1 u.2.2.2.2.2.2.2.2.2.1 u.2.2.2.2.2.2.2.2.2.2.1 u.2.2.2.2.2.2.2.2.2.2.2.1 u.2.2.2.2.2.2.2.2.2.2.2.2.1 u.2.2.2.2.2.2.2.2.2.2.2.2.2.1 u.2.2.2.2.2.2.2.2.2.2.2.2.2.2.1 u.2.2.2.2.2.2.2.2.2.2.2.2.2.2.2.1 u.2.2.2.2.2.2.2.2.2.2.2.2.2.2.2.2) := by
  refine gC.of (cc := cX4_startChange) (maxL := 1) (ret := (some .int)) (by decide) rfl (Nat.le_of_ble_eq_true rfl) ?_
  intro p e s m below meth c C0 hP hD hS ls hl
  obtain ⟨hx, hb, hr, hts, hown, hlocks, hml, hK⟩ := id C0
  have hl : lv_has ls 1 [(0, .ref (a 0))] := hl
  have hA : ∀ q : Nat, s.heap.size ≤ q → va_A (tabW G a ph la po lo ov orr nv nr ql qk qv qr wr wa wc wk) s.heap.size q := fun q h => Or.inr h
  have hP : va_P G.1 vwCl [((a 0), .inr (3, [.int ph, .int la, .int po, .int lo, .ref (a 1), .ref (a 4), .ref (a 7), .ref (a 11), .int wa, .ref (a 12), .ref (a 13)])), ((a 1), .inr (2, [.int 0, .ref (a 2), .ref (a 3)])), ((a 2), .inl (G.2.1, 31, .inl ov)), ((a 3), .inl (G.2.1, 31, .inl orr)), ((a 4), .inr (2, [.int 1, .ref (a 5), .ref (a 6)])), ((a 5), .inl (G.2.1, 31, .inl nv)), ((a 6), .inl (G.2.1, 31, .inl nr)), ((a 7), .inr (1, [.int ql, .ref (a 8), .ref (a 9), .ref (a 10)])), ((a 8), .inl (G.2.1, 8, .inl qk)), ((a 9), .inl (G.2.1, 8, .inl qv)), ((a 10), .inl (G.2.1, 8, .inl qr)), ((a 11), .inl (G.2.1, 31, .inl wr)), ((a 12), .inl (G.2.1, 3, .inl wc)), ((a 13), .inl (G.2.1, 3, .inl wk))] s.heap := hP
  have hD : va_D (va_A (tabW G a ph la po lo ov orr nv nr ql qk qv qr wr wa wc wk) s.heap.size) [((a 0), .inr (3, [.int ph, .int la, .int po, .int lo, .ref (a 1), .ref (a 4), .ref (a 7), .ref (a 11), .int wa, .ref (a 12), .ref (a 13)])), ((a 1), .inr (2, [.int 0, .ref (a 2), .ref (a 3)])), ((a 2), .inl (G.2.1, 31, .inl ov)), ((a 3), .inl (G.2.1, 31, .inl orr)), ((a 4), .inr (2, [.int 1, .ref (a 5), .ref (a 6)])), ((a 5), .inl (G.2.1, 31, .inl nv)), ((a 6), .inl (G.2.1, 31, .inl nr)), ((a 7), .inr (1, [.int ql, .ref (a 8), .ref (a 9), .ref (a 10)])), ((a 8), .inl (G.2.1, 8, .inl qk)), ((a 9), .inl (G.2.1, 8, .inl qv)), ((a 10), .inl (G.2.1, 8, .inl qr)), ((a 11), .inl (G.2.1, 31, .inl wr)), ((a 12), .inl (G.2.1, 3, .inl wc)), ((a 13), .inl (G.2.1, 3, .inl wk))] := hD
  unfold fX4_startChange at hf
  refine lv_aload_n hx hb dX4_startChange_0 rfl (lv_at hl 0 rfl) ?_
  refine va_get (D := G.1) (ci := 3) (v := .int ph) (C := RX4) (T := TX4) (N := 11) hx hb hts hX4 hown hK.1 hP 0 rfl rfl 0 (by decide) (hts _ tw_126) (fun _ h9 => h9) rfl dX4_startChange_1 ?_
  refine lv_if_eq (tgt := 10) hx hb dX4_startChange_4 (by decide) (fun c1 => ?_) (fun c1 => ?_)
  · have hf := g_ifT c1 hf
    refine lv_aload_n hx hb dX4_startChange_10 rfl (lv_at hl 0 rfl) ?_
    refine lv_iconst (v := (1 : Int32)) hx hb dX4_startChange_11 (by decide) ?_
    refine va_put (D := G.1) (ci := 3) (v := .int (1 : Int32)) (ty := .int) (C := RX4) (T := TX4) (N := 11) hx hb hts hX4 tyX4 tyX4_ok nmX4 hown hK.1 hP hD hS 0 rfl rfl 0 (by decide) (hts _ tw_126) (fun _ h9 => h9) rfl (by decide +kernel) rfl rfl (Nat.le_of_ble_eq_true rfl) dX4_startChange_12 (fun H locs hP hD hS => ?_)
    have hP : va_P G.1 vwCl [((a 0), .inr (3, [.int (1 : Int32), .int la, .int po, .int lo, .ref (a 1), .ref (a 4), .ref (a 7), .ref (a 11), .int wa, .ref (a 12), .ref (a 13)])), ((a 1), .inr (2, [.int 0, .ref (a 2), .ref (a 3)])), ((a 2), .inl (G.2.1, 31, .inl ov)), ((a 3), .inl (G.2.1, 31, .inl orr)), ((a 4), .inr (2, [.int 1, .ref (a 5), .ref (a 6)])), ((a 5), .inl (G.2.1, 31, .inl nv)), ((a 6), .inl (G.2.1, 31, .inl nr)), ((a 7), .inr (1, [.int ql, .ref (a 8), .ref (a 9), .ref (a 10)])), ((a 8), .inl (G.2.1, 8, .inl qk)), ((a 9), .inl (G.2.1, 8, .inl qv)), ((a 10), .inl (G.2.1, 8, .inl qr)), ((a 11), .inl (G.2.1, 31, .inl wr)), ((a 12), .inl (G.2.1, 3, .inl wc)), ((a 13), .inl (G.2.1, 3, .inl wk))] H := hP
    have hD : va_D (va_A (tabW G a ph la po lo ov orr nv nr ql qk qv qr wr wa wc wk) s.heap.size) [((a 0), .inr (3, [.int (1 : Int32), .int la, .int po, .int lo, .ref (a 1), .ref (a 4), .ref (a 7), .ref (a 11), .int wa, .ref (a 12), .ref (a 13)])), ((a 1), .inr (2, [.int 0, .ref (a 2), .ref (a 3)])), ((a 2), .inl (G.2.1, 31, .inl ov)), ((a 3), .inl (G.2.1, 31, .inl orr)), ((a 4), .inr (2, [.int 1, .ref (a 5), .ref (a 6)])), ((a 5), .inl (G.2.1, 31, .inl nv)), ((a 6), .inl (G.2.1, 31, .inl nr)), ((a 7), .inr (1, [.int ql, .ref (a 8), .ref (a 9), .ref (a 10)])), ((a 8), .inl (G.2.1, 8, .inl qk)), ((a 9), .inl (G.2.1, 8, .inl qv)), ((a 10), .inl (G.2.1, 8, .inl qr)), ((a 11), .inl (G.2.1, 31, .inl wr)), ((a 12), .inl (G.2.1, 3, .inl wc)), ((a 13), .inl (G.2.1, 3, .inl wk))] := hD
    refine lv_aload_n hx hb dX4_startChange_15 rfl (lv_at hl 0 rfl) ?_
    refine lv_iconst (v := (0 : Int32)) hx hb dX4_startChange_16 (by decide) ?_
    refine va_put (D := G.1) (ci := 3) (v := .int (0 : Int32)) (ty := .int) (C := RX4) (T := TX4) (N := 11) hx hb hts hX4 tyX4 tyX4_ok nmX4 hown hK.1 hP hD hS 0 rfl rfl 2 (by decide) (hts _ tw_130) (fun _ h9 => h9) rfl (by decide +kernel) rfl rfl (Nat.le_of_ble_eq_true rfl) dX4_startChange_17 (fun H locs hP hD hS => ?_)
    have hP : va_P G.1 vwCl [((a 0), .inr (3, [.int (1 : Int32), .int la, .int (0 : Int32), .int lo, .ref (a 1), .ref (a 4), .ref (a 7), .ref (a 11), .int wa, .ref (a 12), .ref (a 13)])), ((a 1), .inr (2, [.int 0, .ref (a 2), .ref (a 3)])), ((a 2), .inl (G.2.1, 31, .inl ov)), ((a 3), .inl (G.2.1, 31, .inl orr)), ((a 4), .inr (2, [.int 1, .ref (a 5), .ref (a 6)])), ((a 5), .inl (G.2.1, 31, .inl nv)), ((a 6), .inl (G.2.1, 31, .inl nr)), ((a 7), .inr (1, [.int ql, .ref (a 8), .ref (a 9), .ref (a 10)])), ((a 8), .inl (G.2.1, 8, .inl qk)), ((a 9), .inl (G.2.1, 8, .inl qv)), ((a 10), .inl (G.2.1, 8, .inl qr)), ((a 11), .inl (G.2.1, 31, .inl wr)), ((a 12), .inl (G.2.1, 3, .inl wc)), ((a 13), .inl (G.2.1, 3, .inl wk))] H := hP
    have hD : va_D (va_A (tabW G a ph la po lo ov orr nv nr ql qk qv qr wr wa wc wk) s.heap.size) [((a 0), .inr (3, [.int (1 : Int32), .int la, .int (0 : Int32), .int lo, .ref (a 1), .ref (a 4), .ref (a 7), .ref (a 11), .int wa, .ref (a 12), .ref (a 13)])), ((a 1), .inr (2, [.int 0, .ref (a 2), .ref (a 3)])), ((a 2), .inl (G.2.1, 31, .inl ov)), ((a 3), .inl (G.2.1, 31, .inl orr)), ((a 4), .inr (2, [.int 1, .ref (a 5), .ref (a 6)])), ((a 5), .inl (G.2.1, 31, .inl nv)), ((a 6), .inl (G.2.1, 31, .inl nr)), ((a 7), .inr (1, [.int ql, .ref (a 8), .ref (a 9), .ref (a 10)])), ((a 8), .inl (G.2.1, 8, .inl qk)), ((a 9), .inl (G.2.1, 8, .inl qv)), ((a 10), .inl (G.2.1, 8, .inl qr)), ((a 11), .inl (G.2.1, 31, .inl wr)), ((a 12), .inl (G.2.1, 3, .inl wc)), ((a 13), .inl (G.2.1, 3, .inl wk))] := hD
    refine lv_aload_n hx hb dX4_startChange_20 rfl (lv_at hl 0 rfl) ?_
    refine va_get (D := G.1) (ci := 3) (v := .ref (a 1)) (C := RX4) (T := TX4) (N := 11) hx hb hts hX4 hown hK.1 hP 0 rfl rfl 4 (by decide) (hts _ tw_134) (fun _ h9 => h9) rfl dX4_startChange_21 ?_
    obtain ⟨r2, e3, hf⟩ := g_bdS hf
    refine g_contR (st1 := [.int r2]) (g_runVR (As := []) (rest := []) ⟨hx, hb, hml, hown, hts⟩ (qX3_rows l G (a 1) (a 2) (a 3) e3) (cwV 0 hts (TB_V TB_id tw_246 tw_247 tw_248 tw_51 tw_249) rfl rfl rfl (by decide +kernel) ⟨Nat.le_of_ble_eq_true rfl, Nat.le_of_ble_eq_true rfl⟩) hK (hP.sub [1, 2, 3] rfl) 0 rfl rfl rfl hl.1 rfl (Nat.le_of_ble_eq_true rfl) dX4_startChange_24) rfl ?_
    cases hf
    exact g_iretC hx hb hr hlocks hP hD hS dX4_startChange_27
  · have hf := g_ifF c1 hf
    refine lv_ldc (v := (-1000002 : Int32)) hx hb hown (hts _ tw_245) dX4_startChange_7 ?_
    cases hf
    exact g_iretC hx hb hr hlocks hP hD hS dX4_startChange_9
-- TwoShapes$Table.differing()I
abbrev rmX4_differing : Room := { frames := 1, cells := 0, slots := 0, locals := 22 }
def fX4_differing_b4 : Nat → Int32 → Int32 → Int32 → Int32 → Int32 → Int32 → (Nat → Int32) → (Nat → Int32) → (Nat → Int32) → (Nat → Int32) → Int32 → (Nat → Int32) → (Nat → Int32) → (Nat → Int32) → (Nat → Int32) → Int32 → (Nat → Int32) → (Nat → Int32) → Option (Int32)
  | 0, _, _, _, _, _, _, _, _, _, _, _, _, _, _, _, _, _, _ => none
  | n + 1, x1, x2, ph, la, po, lo, ov, orr, nv, nr, ql, qk, qv, qr, wr, wa, wc, wk => (if (31 : Int32) ≤ x2 then some (x1) else g_gd (g_in x2 31) (g_gd (g_in x2 31) ((if (ov x2.toNatClampNeg) = (nv x2.toNatClampNeg) then g_gd (g_in x2 31) (g_gd (g_in x2 31) (((fX2_madeOver (nr x2.toNatClampNeg) (0 : Int32)).bind fun r8 => (if (orr x2.toNatClampNeg) = r8 then fX4_differing_b4 n x1 (x2 + (1 : Int32)) ph la po lo ov orr nv nr ql qk qv qr wr wa wc wk else fX4_differing_b4 n (x1 ||| ((1 : Int32) <<< (x2 &&& 31))) (x2 + (1 : Int32)) ph la po lo ov orr nv nr ql qk qv qr wr wa wc wk)))) else fX4_differing_b4 n (x1 ||| ((1 : Int32) <<< (x2 &&& 31))) (x2 + (1 : Int32)) ph la po lo ov orr nv nr ql qk qv qr wr wa wc wk))))
set_option maxHeartbeats 4000000 in
set_option maxRecDepth 100000 in
theorem kX4_differing_b4 {p : Program} {l : Launch} {e : Env} {s : State} {m : MethodId} {args : Array Value} {below : List Frame} {meth : Method} {c : Code} {G : gT} {a : Nat → Nat} (C0 : gX p s m args meth c cX4_differing 4 (some .int) RX4 G) :
    ∀ (n : Nat) (x1 : Int32) (x2 : Int32) (ph : Int32) (la : Int32) (po : Int32) (lo : Int32) (ov : Nat → Int32) (orr : Nat → Int32) (nv : Nat → Int32) (nr : Nat → Int32) (ql : Int32) (qk : Nat → Int32) (qv : Nat → Int32) (qr : Nat → Int32) (wr : Nat → Int32) (wa : Int32) (wc : Nat → Int32) (wk : Nat → Int32) (u : Int32), fX4_differing_b4 n x1 x2 ph la po lo ov orr nv nr ql qk qv qr wr wa wc wk = some u → va_P G.1 vwCl [((a 0), .inr (3, [.int ph, .int la, .int po, .int lo, .ref (a 1), .ref (a 4), .ref (a 7), .ref (a 11), .int wa, .ref (a 12), .ref (a 13)])), ((a 1), .inr (2, [.int 0, .ref (a 2), .ref (a 3)])), ((a 2), .inl (G.2.1, 31, .inl ov)), ((a 3), .inl (G.2.1, 31, .inl orr)), ((a 4), .inr (2, [.int 1, .ref (a 5), .ref (a 6)])), ((a 5), .inl (G.2.1, 31, .inl nv)), ((a 6), .inl (G.2.1, 31, .inl nr)), ((a 7), .inr (1, [.int ql, .ref (a 8), .ref (a 9), .ref (a 10)])), ((a 8), .inl (G.2.1, 8, .inl qk)), ((a 9), .inl (G.2.1, 8, .inl qv)), ((a 10), .inl (G.2.1, 8, .inl qr)), ((a 11), .inl (G.2.1, 31, .inl wr)), ((a 12), .inl (G.2.1, 3, .inl wc)), ((a 13), .inl (G.2.1, 3, .inl wk))] s.heap → ∀ ls, lv_has ls 4 [(0, .ref (a 0)), (1, .int x1), (2, .int x2)] → gV p l e (headSpec wsX4_differing rmX4_differing).room s m args below meth c (some (.int u)) 4 ls [] := by
  obtain ⟨hx, hb, hr, hts, hown, hlocks, hml, hK⟩ := id C0
  intro n
  induction n with
  | zero =>
    intro x1 x2 ph la po lo ov orr nv nr ql qk qv qr wr wa wc wk u hf hP ls hl
    have hf : (none : Option (Int32)) = some u := hf
    cases hf
  | succ n ih =>
    intro x1 x2 ph la po lo ov orr nv nr ql qk qv qr wr wa wc wk u hf hP ls hl
    rw [fX4_differing_b4] at hf
    refine lv_iload_n hx hb dX4_differing_4 rfl (lv_at hl 2 rfl) ?_
    refine lv_bipush (v := (31 : Int32)) hx hb dX4_differing_5 (by decide) ?_
    refine lv_icmp_ge (tgt := 78) hx hb dX4_differing_7 (by decide) (fun c1 => ?_) (fun c1 => ?_)
    · have hf := g_ifT c1 hf
      refine lv_iload_n hx hb dX4_differing_78 rfl (lv_at hl 1 rfl) ?_
      cases hf
      exact g_iretR hx hb hr hlocks dX4_differing_79
    · have hf := g_ifF c1 hf
      refine lv_aload_n hx hb dX4_differing_10 rfl (lv_at hl 0 rfl) ?_
      refine va_get (D := G.1) (ci := 3) (v := .ref (a 1)) (C := RX4) (T := TX4) (N := 11) hx hb hts hX4 hown hK.1 hP 0 rfl rfl 4 (by decide) (hts _ tw_134) (fun _ h9 => h9) rfl dX4_differing_11 ?_
      refine va_get (D := G.1) (ci := 2) (v := .ref (a 2)) (C := RX3) (T := TX3) (N := 3) hx hb hts hX3 hown hK.1 hP 1 rfl rfl 1 (by decide) (hts _ tw_87) (fun _ h9 => h9) rfl dX4_differing_14 ?_
      refine lv_iload_n hx hb dX4_differing_17 rfl (lv_at hl 2 rfl) ?_
      obtain ⟨g2, hf⟩ := g_gdS hf
      refine va_iald hx hb hK.1 hP 2 0 rfl rfl (g_in_vp g2) dX4_differing_18 ?_
      refine lv_aload_n hx hb dX4_differing_19 rfl (lv_at hl 0 rfl) ?_
      refine va_get (D := G.1) (ci := 3) (v := .ref (a 4)) (C := RX4) (T := TX4) (N := 11) hx hb hts hX4 hown hK.1 hP 0 rfl rfl 5 (by decide) (hts _ tw_136) (fun _ h9 => h9) rfl dX4_differing_20 ?_
      refine va_get (D := G.1) (ci := 2) (v := .ref (a 5)) (C := RX3) (T := TX3) (N := 3) hx hb hts hX3 hown hK.1 hP 4 rfl rfl 1 (by decide) (hts _ tw_87) (fun _ h9 => h9) rfl dX4_differing_23 ?_
      refine lv_iload_n hx hb dX4_differing_26 rfl (lv_at hl 2 rfl) ?_
      obtain ⟨g3, hf⟩ := g_gdS hf
      refine va_iald hx hb hK.1 hP 5 0 rfl rfl (g_in_vp g3) dX4_differing_27 ?_
      refine lv_icmp_eq (tgt := 35) hx hb dX4_differing_28 (by decide) (fun c4 => ?_) (fun c4 => ?_)
      · have hf := g_ifT c4 hf
        refine lv_iconst (v := (0 : Int32)) hx hb dX4_differing_35 (by decide) ?_
        refine lv_istore_n (lv' := [(3, .int (0 : Int32)), (0, .ref (a 0)), (1, .int x1), (2, .int x2)]) hx hb dX4_differing_36 rfl hl (by decide) rfl (fun ls hl => ?_)
        refine lv_iload_n hx hb dX4_differing_37 rfl (lv_at hl 0 rfl) ?_
        refine lv_if_ne (tgt := 66) hx hb dX4_differing_38 (by decide) (fun c_ => absurd c_ (by decide)) (fun _ => ?_)
        refine lv_aload_n hx hb dX4_differing_41 rfl (lv_at hl 1 rfl) ?_
        refine va_get (D := G.1) (ci := 3) (v := .ref (a 1)) (C := RX4) (T := TX4) (N := 11) hx hb hts hX4 hown hK.1 hP 0 rfl rfl 4 (by decide) (hts _ tw_134) (fun _ h9 => h9) rfl dX4_differing_42 ?_
        refine va_get (D := G.1) (ci := 2) (v := .ref (a 3)) (C := RX3) (T := TX3) (N := 3) hx hb hts hX3 hown hK.1 hP 1 rfl rfl 2 (by decide) (hts _ tw_90) (fun _ h9 => h9) rfl dX4_differing_45 ?_
        refine lv_iload_n hx hb dX4_differing_48 rfl (lv_at hl 3 rfl) ?_
        obtain ⟨g6, hf⟩ := g_gdS hf
        refine va_iald hx hb hK.1 hP 3 0 rfl rfl (g_in_vp g6) dX4_differing_49 ?_
        refine lv_aload_n hx hb dX4_differing_50 rfl (lv_at hl 1 rfl) ?_
        refine va_get (D := G.1) (ci := 3) (v := .ref (a 4)) (C := RX4) (T := TX4) (N := 11) hx hb hts hX4 hown hK.1 hP 0 rfl rfl 5 (by decide) (hts _ tw_136) (fun _ h9 => h9) rfl dX4_differing_51 ?_
        refine va_get (D := G.1) (ci := 2) (v := .ref (a 6)) (C := RX3) (T := TX3) (N := 3) hx hb hts hX3 hown hK.1 hP 4 rfl rfl 2 (by decide) (hts _ tw_90) (fun _ h9 => h9) rfl dX4_differing_54 ?_
        refine lv_iload_n hx hb dX4_differing_57 rfl (lv_at hl 3 rfl) ?_
        obtain ⟨g7, hf⟩ := g_gdS hf
        refine va_iald hx hb hK.1 hP 6 0 rfl rfl (g_in_vp g7) dX4_differing_58 ?_
        refine lv_iconst (v := (0 : Int32)) hx hb dX4_differing_59 (by decide) ?_
        obtain ⟨r8, e9, hf⟩ := g_bdS hf
        refine g_contR (st1 := [.int r8, .int (orr x2.toNatClampNeg)]) (g_runSR (As := [.int (nr x2.toNatClampNeg), .int (0 : Int32)]) (rest := [.int (orr x2.toNatClampNeg)]) ⟨hx, hb, hml, hown, hts⟩ (qX2_madeOver l G e9) (va_cwS 2 hts (TB_S TB_id tw_270 tw_271 tw_56 tw_272) rfl rfl rfl (by decide +kernel) ⟨Nat.le_of_ble_eq_true rfl, Nat.le_of_ble_eq_true rfl⟩) hK (hP.sub [] rfl) rfl hl.1 rfl (Nat.le_of_ble_eq_true rfl) dX4_differing_60) rfl ?_
        refine lv_icmp_eq (tgt := 72) hx hb dX4_differing_63 (by decide) (fun c10 => ?_) (fun c10 => ?_)
        · have hf := g_ifT c10 hf
          refine lv_iinc (v := (x2 + (1 : Int32))) (lv' := [(2, .int (x2 + (1 : Int32))), (3, .int (0 : Int32)), (0, .ref (a 0)), (1, .int x1)]) hx hb dX4_differing_72 hl (k := 3) rfl rfl (by decide) rfl (fun ls hl => ?_)
          refine lv_goto (tgt := 4) hx hb dX4_differing_75 (by decide) ?_
          exact ih _ _ _ _ _ _ _ _ _ _ _ _ _ _ _ _ _ _ _ hf hP ls (lv_sub hl [2, 3, 0] rfl)
        · have hf := g_ifF c10 hf
          refine lv_iload_n hx hb dX4_differing_66 rfl (lv_at hl 2 rfl) ?_
          refine lv_iconst (v := (1 : Int32)) hx hb dX4_differing_67 (by decide) ?_
          refine lv_iload_n hx hb dX4_differing_68 rfl (lv_at hl 3 rfl) ?_
          refine lv_ishl hx hb dX4_differing_69 ?_
          refine lv_ior hx hb dX4_differing_70 ?_
          refine lv_istore_n (lv' := [(1, .int (x1 ||| ((1 : Int32) <<< (x2 &&& 31)))), (3, .int (0 : Int32)), (0, .ref (a 0)), (2, .int x2)]) hx hb dX4_differing_71 rfl hl (by decide) rfl (fun ls hl => ?_)
          refine lv_iinc (v := (x2 + (1 : Int32))) (lv' := [(2, .int (x2 + (1 : Int32))), (1, .int (x1 ||| ((1 : Int32) <<< (x2 &&& 31)))), (3, .int (0 : Int32)), (0, .ref (a 0))]) hx hb dX4_differing_72 hl (k := 3) rfl rfl (by decide) rfl (fun ls hl => ?_)
          refine lv_goto (tgt := 4) hx hb dX4_differing_75 (by decide) ?_
          exact ih _ _ _ _ _ _ _ _ _ _ _ _ _ _ _ _ _ _ _ hf hP ls (lv_sub hl [3, 1, 0] rfl)
      · have hf := g_ifF c4 hf
        refine lv_iconst (v := (1 : Int32)) hx hb dX4_differing_31 (by decide) ?_
        refine lv_goto (tgt := 36) hx hb dX4_differing_32 (by decide) ?_
        refine lv_istore_n (lv' := [(3, .int (1 : Int32)), (0, .ref (a 0)), (1, .int x1), (2, .int x2)]) hx hb dX4_differing_36 rfl hl (by decide) rfl (fun ls hl => ?_)
        refine lv_iload_n hx hb dX4_differing_37 rfl (lv_at hl 0 rfl) ?_
        refine lv_if_ne (tgt := 66) hx hb dX4_differing_38 (by decide) (fun _ => ?_) (fun c_ => absurd c_ (by decide))
        refine lv_iload_n hx hb dX4_differing_66 rfl (lv_at hl 2 rfl) ?_
        refine lv_iconst (v := (1 : Int32)) hx hb dX4_differing_67 (by decide) ?_
        refine lv_iload_n hx hb dX4_differing_68 rfl (lv_at hl 3 rfl) ?_
        refine lv_ishl hx hb dX4_differing_69 ?_
        refine lv_ior hx hb dX4_differing_70 ?_
        refine lv_istore_n (lv' := [(1, .int (x1 ||| ((1 : Int32) <<< (x2 &&& 31)))), (3, .int (1 : Int32)), (0, .ref (a 0)), (2, .int x2)]) hx hb dX4_differing_71 rfl hl (by decide) rfl (fun ls hl => ?_)
        refine lv_iinc (v := (x2 + (1 : Int32))) (lv' := [(2, .int (x2 + (1 : Int32))), (1, .int (x1 ||| ((1 : Int32) <<< (x2 &&& 31)))), (3, .int (1 : Int32)), (0, .ref (a 0))]) hx hb dX4_differing_72 hl (k := 3) rfl rfl (by decide) rfl (fun ls hl => ?_)
        refine lv_goto (tgt := 4) hx hb dX4_differing_75 (by decide) ?_
        exact ih _ _ _ _ _ _ _ _ _ _ _ _ _ _ _ _ _ _ _ hf hP ls (lv_sub hl [3, 1, 0] rfl)
def fX4_differing (ph : Int32) (la : Int32) (po : Int32) (lo : Int32) (ov : Nat → Int32) (orr : Nat → Int32) (nv : Nat → Int32) (nr : Nat → Int32) (ql : Int32) (qk : Nat → Int32) (qv : Nat → Int32) (qr : Nat → Int32) (wr : Nat → Int32) (wa : Int32) (wc : Nat → Int32) (wk : Nat → Int32) : Option (Int32) := fX4_differing_b4 2000 (0 : Int32) (0 : Int32) ph la po lo ov orr nv nr ql qk qv qr wr wa wc wk
set_option maxHeartbeats 4000000 in
set_option maxRecDepth 100000 in
theorem qX4_differing (l : Launch) (G : gT) (a : Nat → Nat) {ph : Int32} {la : Int32} {po : Int32} {lo : Int32} {ov : Nat → Int32} {orr : Nat → Int32} {nv : Nat → Int32} {nr : Nat → Int32} {ql : Int32} {qk : Nat → Int32} {qv : Nat → Int32} {qr : Nat → Int32} {wr : Nat → Int32} {wa : Int32} {wc : Nat → Int32} {wk : Nat → Int32} {u : Int32} (hf : fX4_differing ph la po lo ov orr nv nr ql qk qv qr wr wa wc wk = some u) : gR l G yX4_differing wsX4_differing rmX4_differing [.ref (a 0)] (tabW G a ph la po lo ov orr nv nr ql qk qv qr wr wa wc wk) (some (.int u)) := by
  refine gR.of (cc := cX4_differing) (maxL := 4) (ret := (some .int)) (by decide) rfl (Nat.le_of_ble_eq_true rfl) ?_
  intro p e s m below meth c C0 hP ls hl
  obtain ⟨hx, hb, hr, hts, hown, hlocks, hml, hK⟩ := id C0
  have hl : lv_has ls 4 [(0, .ref (a 0))] := hl
  have hP : va_P G.1 vwCl [((a 0), .inr (3, [.int ph, .int la, .int po, .int lo, .ref (a 1), .ref (a 4), .ref (a 7), .ref (a 11), .int wa, .ref (a 12), .ref (a 13)])), ((a 1), .inr (2, [.int 0, .ref (a 2), .ref (a 3)])), ((a 2), .inl (G.2.1, 31, .inl ov)), ((a 3), .inl (G.2.1, 31, .inl orr)), ((a 4), .inr (2, [.int 1, .ref (a 5), .ref (a 6)])), ((a 5), .inl (G.2.1, 31, .inl nv)), ((a 6), .inl (G.2.1, 31, .inl nr)), ((a 7), .inr (1, [.int ql, .ref (a 8), .ref (a 9), .ref (a 10)])), ((a 8), .inl (G.2.1, 8, .inl qk)), ((a 9), .inl (G.2.1, 8, .inl qv)), ((a 10), .inl (G.2.1, 8, .inl qr)), ((a 11), .inl (G.2.1, 31, .inl wr)), ((a 12), .inl (G.2.1, 3, .inl wc)), ((a 13), .inl (G.2.1, 3, .inl wk))] s.heap := hP
  unfold fX4_differing at hf
  refine lv_iconst (v := (0 : Int32)) hx hb dX4_differing_0 (by decide) ?_
  refine lv_istore_n (lv' := [(1, .int (0 : Int32)), (0, .ref (a 0))]) hx hb dX4_differing_1 rfl hl (by decide) rfl (fun ls hl => ?_)
  refine lv_iconst (v := (0 : Int32)) hx hb dX4_differing_2 (by decide) ?_
  refine lv_istore_n (lv' := [(2, .int (0 : Int32)), (1, .int (0 : Int32)), (0, .ref (a 0))]) hx hb dX4_differing_3 rfl hl (by decide) rfl (fun ls hl => ?_)
  exact kX4_differing_b4 C0 2000 _ _ _ _ _ _ _ _ _ _ _ _ _ _ _ _ _ _ _ hf hP ls (lv_sub hl [2, 1, 0] rfl)
-- TwoShapes$Table.isReady()Z
abbrev rmX4_isReady : Room := { frames := 2, cells := 0, slots := 0, locals := 45 }
def fX4_isReady (ph : Int32) (la : Int32) (po : Int32) (lo : Int32) (ov : Nat → Int32) (orr : Nat → Int32) (nv : Nat → Int32) (nr : Nat → Int32) (ql : Int32) (qk : Nat → Int32) (qv : Nat → Int32) (qr : Nat → Int32) (wr : Nat → Int32) (wa : Int32) (wc : Nat → Int32) (wk : Nat → Int32) : Option (Int32) := (if ph = (1 : Int32) then (if po = (31 : Int32) then (if ql = (0 : Int32) then ((fX4_differing ph la po lo ov orr nv nr ql qk qv qr wr wa wc wk).bind fun r4 => (if r4 = (0 : Int32) then some ((1 : Int32)) else some ((0 : Int32)))) else some ((0 : Int32))) else some ((0 : Int32))) else some ((0 : Int32)))
set_option maxHeartbeats 4000000 in
set_option maxRecDepth 100000 in
theorem qX4_isReady (l : Launch) (G : gT) (a : Nat → Nat) {ph : Int32} {la : Int32} {po : Int32} {lo : Int32} {ov : Nat → Int32} {orr : Nat → Int32} {nv : Nat → Int32} {nr : Nat → Int32} {ql : Int32} {qk : Nat → Int32} {qv : Nat → Int32} {qr : Nat → Int32} {wr : Nat → Int32} {wa : Int32} {wc : Nat → Int32} {wk : Nat → Int32} {u : Int32} (hf : fX4_isReady ph la po lo ov orr nv nr ql qk qv qr wr wa wc wk = some u) : gR l G yX4_isReady wsX4_isReady rmX4_isReady [.ref (a 0)] (tabW G a ph la po lo ov orr nv nr ql qk qv qr wr wa wc wk) (some (.int u)) := by
  refine gR.of (cc := cX4_isReady) (maxL := 1) (ret := (some .boolean)) (by decide) rfl (Nat.le_of_ble_eq_true rfl) ?_
  intro p e s m below meth c C0 hP ls hl
  obtain ⟨hx, hb, hr, hts, hown, hlocks, hml, hK⟩ := id C0
  have hl : lv_has ls 1 [(0, .ref (a 0))] := hl
  have hP : va_P G.1 vwCl [((a 0), .inr (3, [.int ph, .int la, .int po, .int lo, .ref (a 1), .ref (a 4), .ref (a 7), .ref (a 11), .int wa, .ref (a 12), .ref (a 13)])), ((a 1), .inr (2, [.int 0, .ref (a 2), .ref (a 3)])), ((a 2), .inl (G.2.1, 31, .inl ov)), ((a 3), .inl (G.2.1, 31, .inl orr)), ((a 4), .inr (2, [.int 1, .ref (a 5), .ref (a 6)])), ((a 5), .inl (G.2.1, 31, .inl nv)), ((a 6), .inl (G.2.1, 31, .inl nr)), ((a 7), .inr (1, [.int ql, .ref (a 8), .ref (a 9), .ref (a 10)])), ((a 8), .inl (G.2.1, 8, .inl qk)), ((a 9), .inl (G.2.1, 8, .inl qv)), ((a 10), .inl (G.2.1, 8, .inl qr)), ((a 11), .inl (G.2.1, 31, .inl wr)), ((a 12), .inl (G.2.1, 3, .inl wc)), ((a 13), .inl (G.2.1, 3, .inl wk))] s.heap := hP
  unfold fX4_isReady at hf
  refine lv_aload_n hx hb dX4_isReady_0 rfl (lv_at hl 0 rfl) ?_
  refine va_get (D := G.1) (ci := 3) (v := .int ph) (C := RX4) (T := TX4) (N := 11) hx hb hts hX4 hown hK.1 hP 0 rfl rfl 0 (by decide) (hts _ tw_126) (fun _ h9 => h9) rfl dX4_isReady_1 ?_
  refine lv_iconst (v := (1 : Int32)) hx hb dX4_isReady_4 (by decide) ?_
  refine lv_icmp_ne (tgt := 38) hx hb dX4_isReady_5 (by decide) (fun c1 => ?_) (fun c1 => ?_)
  · have hf := g_ifF c1 hf
    refine lv_iconst (v := (0 : Int32)) hx hb dX4_isReady_38 (by decide) ?_
    cases hf
    exact g_zretR hx hb hr hlocks rfl dX4_isReady_39
  · have hf := g_ifT c1 hf
    refine lv_aload_n hx hb dX4_isReady_8 rfl (lv_at hl 0 rfl) ?_
    refine va_get (D := G.1) (ci := 3) (v := .int po) (C := RX4) (T := TX4) (N := 11) hx hb hts hX4 hown hK.1 hP 0 rfl rfl 2 (by decide) (hts _ tw_130) (fun _ h9 => h9) rfl dX4_isReady_9 ?_
    refine lv_bipush (v := (31 : Int32)) hx hb dX4_isReady_12 (by decide) ?_
    refine lv_icmp_ne (tgt := 38) hx hb dX4_isReady_14 (by decide) (fun c2 => ?_) (fun c2 => ?_)
    · have hf := g_ifF c2 hf
      refine lv_iconst (v := (0 : Int32)) hx hb dX4_isReady_38 (by decide) ?_
      cases hf
      exact g_zretR hx hb hr hlocks rfl dX4_isReady_39
    · have hf := g_ifT c2 hf
      refine lv_aload_n hx hb dX4_isReady_17 rfl (lv_at hl 0 rfl) ?_
      refine va_get (D := G.1) (ci := 3) (v := .ref (a 7)) (C := RX4) (T := TX4) (N := 11) hx hb hts hX4 hown hK.1 hP 0 rfl rfl 6 (by decide) (hts _ tw_138) (fun _ h9 => h9) rfl dX4_isReady_18 ?_
      refine va_get (D := G.1) (ci := 1) (v := .int ql) (C := RX1) (T := TX1) (N := 4) hx hb hts hX1 hown hK.1 hP 7 rfl rfl 0 (by decide) (hts _ tw_106) (fun _ h9 => h9) rfl dX4_isReady_21 ?_
      refine lv_if_ne (tgt := 38) hx hb dX4_isReady_24 (by decide) (fun c3 => ?_) (fun c3 => ?_)
      · have hf := g_ifF c3 hf
        refine lv_iconst (v := (0 : Int32)) hx hb dX4_isReady_38 (by decide) ?_
        cases hf
        exact g_zretR hx hb hr hlocks rfl dX4_isReady_39
      · have hf := g_ifT c3 hf
        refine lv_aload_n hx hb dX4_isReady_27 rfl (lv_at hl 0 rfl) ?_
        obtain ⟨r4, e5, hf⟩ := g_bdS hf
        refine g_contR (st1 := [.int r4]) (g_runVR (As := []) (rest := []) ⟨hx, hb, hml, hown, hts⟩ (qX4_differing l G a e5) (cwV 0 hts (TB_V TB_id tw_266 tw_267 tw_268 tw_50 tw_269) rfl rfl rfl (by decide +kernel) ⟨Nat.le_of_ble_eq_true rfl, Nat.le_of_ble_eq_true rfl⟩) hK (hP.sub [0, 1, 2, 3, 4, 5, 6, 7, 8, 9, 10, 11, 12, 13] rfl) 0 rfl rfl rfl hl.1 rfl (Nat.le_of_ble_eq_true rfl) dX4_isReady_28) rfl ?_
        refine lv_if_ne (tgt := 38) hx hb dX4_isReady_31 (by decide) (fun c6 => ?_) (fun c6 => ?_)
        · have hf := g_ifF c6 hf
          refine lv_iconst (v := (0 : Int32)) hx hb dX4_isReady_38 (by decide) ?_
          cases hf
          exact g_zretR hx hb hr hlocks rfl dX4_isReady_39
        · have hf := g_ifT c6 hf
          refine lv_iconst (v := (1 : Int32)) hx hb dX4_isReady_34 (by decide) ?_
          refine lv_goto (tgt := 39) hx hb dX4_isReady_35 (by decide) ?_
          cases hf
          exact g_zretR hx hb hr hlocks rfl dX4_isReady_39
-- TwoShapes$Table.turnOver()I
abbrev rmX4_turnOver : Room := { frames := 3, cells := 0, slots := 0, locals := 65 }
def fX4_turnOver (ph : Int32) (la : Int32) (po : Int32) (lo : Int32) (ov : Nat → Int32) (orr : Nat → Int32) (nv : Nat → Int32) (nr : Nat → Int32) (ql : Int32) (qk : Nat → Int32) (qv : Nat → Int32) (qr : Nat → Int32) (wr : Nat → Int32) (wa : Int32) (wc : Nat → Int32) (wk : Nat → Int32) : Option (Int32 × Int32 × Int32 × Int32 × Int32 × (Nat → Int32) × (Nat → Int32) × (Nat → Int32) × (Nat → Int32) × Int32 × (Nat → Int32) × (Nat → Int32) × (Nat → Int32) × (Nat → Int32) × Int32 × (Nat → Int32) × (Nat → Int32)) := ((fX4_isReady ph la po lo ov orr nv nr ql qk qv qr wr wa wc wk).bind fun r1 => (if r1 = (0 : Int32) then some ((-1000002 : Int32), ph, la, po, lo, ov, orr, nv, nr, ql, qk, qv, qr, wr, wa, wc, wk) else ((fX3_rows 1 nv nr).bind fun r4 => some (r4, (2 : Int32), la, po, lo, ov, orr, nv, nr, ql, qk, qv, qr, wr, wa, wc, wk))))
set_option maxHeartbeats 4000000 in
set_option maxRecDepth 100000 in
theorem qX4_turnOver (l : Launch) (G : gT) (a : Nat → Nat) {ph : Int32} {la : Int32} {po : Int32} {lo : Int32} {ov : Nat → Int32} {orr : Nat → Int32} {nv : Nat → Int32} {nr : Nat → Int32} {ql : Int32} {qk : Nat → Int32} {qv : Nat → Int32} {qr : Nat → Int32} {wr : Nat → Int32} {wa : Int32} {wc : Nat → Int32} {wk : Nat → Int32} {u : Int32 × Int32 × Int32 × Int32 × Int32 × (Nat → Int32) × (Nat → Int32) × (Nat → Int32) × (Nat → Int32) × Int32 × (Nat → Int32) × (Nat → Int32) × (Nat → Int32) × (Nat → Int32) × Int32 × (Nat → Int32) × (Nat → Int32)} (hf : fX4_turnOver ph la po lo ov orr nv nr ql qk qv qr wr wa wc wk = some u) : gC l G yX4_turnOver wsX4_turnOver rmX4_turnOver [.ref (a 0)] (tabW G a ph la po lo ov orr nv nr ql qk qv qr wr wa wc wk) (some (.int u.1)) (tabW G a u.2.1 u.2.2.1 u.2.2.2.1 u.2.2.2.2.1 u.2.2.2.2.2.1 u.2.2.2.2.2.2.1 u.2.2.2.2.2.2.2.1 u.2.2.2.2.2.2.2.2.1 u.2.2.2.2.2.2.2.2.2.1 u.2.2.2.2.2.2.2.2.2.2.1 u.2.2.2.2.2.2.2.2.2.2.2.1 u.2.2.2.2.2.2.2.2.2.2.2.2.1 u.2.2.2.2.2.2.2.2.2.2.2.2.2.1 u.2.2.2.2.2.2.2.2.2.2.2.2.2.2.1 u.2.2.2.2.2.2.2.2.2.2.2.2.2.2.2.1 u.2.2.2.2.2.2.2.2.2.2.2.2.2.2.2.2) := by
  refine gC.of (cc := cX4_turnOver) (maxL := 1) (ret := (some .int)) (by decide) rfl (Nat.le_of_ble_eq_true rfl) ?_
  intro p e s m below meth c C0 hP hD hS ls hl
  obtain ⟨hx, hb, hr, hts, hown, hlocks, hml, hK⟩ := id C0
  have hl : lv_has ls 1 [(0, .ref (a 0))] := hl
  have hA : ∀ q : Nat, s.heap.size ≤ q → va_A (tabW G a ph la po lo ov orr nv nr ql qk qv qr wr wa wc wk) s.heap.size q := fun q h => Or.inr h
  have hP : va_P G.1 vwCl [((a 0), .inr (3, [.int ph, .int la, .int po, .int lo, .ref (a 1), .ref (a 4), .ref (a 7), .ref (a 11), .int wa, .ref (a 12), .ref (a 13)])), ((a 1), .inr (2, [.int 0, .ref (a 2), .ref (a 3)])), ((a 2), .inl (G.2.1, 31, .inl ov)), ((a 3), .inl (G.2.1, 31, .inl orr)), ((a 4), .inr (2, [.int 1, .ref (a 5), .ref (a 6)])), ((a 5), .inl (G.2.1, 31, .inl nv)), ((a 6), .inl (G.2.1, 31, .inl nr)), ((a 7), .inr (1, [.int ql, .ref (a 8), .ref (a 9), .ref (a 10)])), ((a 8), .inl (G.2.1, 8, .inl qk)), ((a 9), .inl (G.2.1, 8, .inl qv)), ((a 10), .inl (G.2.1, 8, .inl qr)), ((a 11), .inl (G.2.1, 31, .inl wr)), ((a 12), .inl (G.2.1, 3, .inl wc)), ((a 13), .inl (G.2.1, 3, .inl wk))] s.heap := hP
  have hD : va_D (va_A (tabW G a ph la po lo ov orr nv nr ql qk qv qr wr wa wc wk) s.heap.size) [((a 0), .inr (3, [.int ph, .int la, .int po, .int lo, .ref (a 1), .ref (a 4), .ref (a 7), .ref (a 11), .int wa, .ref (a 12), .ref (a 13)])), ((a 1), .inr (2, [.int 0, .ref (a 2), .ref (a 3)])), ((a 2), .inl (G.2.1, 31, .inl ov)), ((a 3), .inl (G.2.1, 31, .inl orr)), ((a 4), .inr (2, [.int 1, .ref (a 5), .ref (a 6)])), ((a 5), .inl (G.2.1, 31, .inl nv)), ((a 6), .inl (G.2.1, 31, .inl nr)), ((a 7), .inr (1, [.int ql, .ref (a 8), .ref (a 9), .ref (a 10)])), ((a 8), .inl (G.2.1, 8, .inl qk)), ((a 9), .inl (G.2.1, 8, .inl qv)), ((a 10), .inl (G.2.1, 8, .inl qr)), ((a 11), .inl (G.2.1, 31, .inl wr)), ((a 12), .inl (G.2.1, 3, .inl wc)), ((a 13), .inl (G.2.1, 3, .inl wk))] := hD
  unfold fX4_turnOver at hf
  refine lv_aload_n hx hb dX4_turnOver_0 rfl (lv_at hl 0 rfl) ?_
  obtain ⟨r1, e2, hf⟩ := g_bdS hf
  refine g_contR (st1 := [.int r1]) (g_runVR (As := []) (rest := []) ⟨hx, hb, hml, hown, hts⟩ (qX4_isReady l G a e2) (cwV 0 hts (TB_V TB_id tw_262 tw_263 tw_264 tw_50 tw_265) rfl rfl rfl (by decide +kernel) ⟨Nat.le_of_ble_eq_true rfl, Nat.le_of_ble_eq_true rfl⟩) hK (hP.sub [0, 1, 2, 3, 4, 5, 6, 7, 8, 9, 10, 11, 12, 13] rfl) 0 rfl rfl rfl hl.1 rfl (Nat.le_of_ble_eq_true rfl) dX4_turnOver_1) rfl ?_
  refine lv_if_ne (tgt := 10) hx hb dX4_turnOver_4 (by decide) (fun c3 => ?_) (fun c3 => ?_)
  · have hf := g_ifF c3 hf
    refine lv_aload_n hx hb dX4_turnOver_10 rfl (lv_at hl 0 rfl) ?_
    refine lv_iconst (v := (2 : Int32)) hx hb dX4_turnOver_11 (by decide) ?_
    refine va_put (D := G.1) (ci := 3) (v := .int (2 : Int32)) (ty := .int) (C := RX4) (T := TX4) (N := 11) hx hb hts hX4 tyX4 tyX4_ok nmX4 hown hK.1 hP hD hS 0 rfl rfl 0 (by decide) (hts _ tw_126) (fun _ h9 => h9) rfl (by decide +kernel) rfl rfl (Nat.le_of_ble_eq_true rfl) dX4_turnOver_12 (fun H locs hP hD hS => ?_)
    have hP : va_P G.1 vwCl [((a 0), .inr (3, [.int (2 : Int32), .int la, .int po, .int lo, .ref (a 1), .ref (a 4), .ref (a 7), .ref (a 11), .int wa, .ref (a 12), .ref (a 13)])), ((a 1), .inr (2, [.int 0, .ref (a 2), .ref (a 3)])), ((a 2), .inl (G.2.1, 31, .inl ov)), ((a 3), .inl (G.2.1, 31, .inl orr)), ((a 4), .inr (2, [.int 1, .ref (a 5), .ref (a 6)])), ((a 5), .inl (G.2.1, 31, .inl nv)), ((a 6), .inl (G.2.1, 31, .inl nr)), ((a 7), .inr (1, [.int ql, .ref (a 8), .ref (a 9), .ref (a 10)])), ((a 8), .inl (G.2.1, 8, .inl qk)), ((a 9), .inl (G.2.1, 8, .inl qv)), ((a 10), .inl (G.2.1, 8, .inl qr)), ((a 11), .inl (G.2.1, 31, .inl wr)), ((a 12), .inl (G.2.1, 3, .inl wc)), ((a 13), .inl (G.2.1, 3, .inl wk))] H := hP
    have hD : va_D (va_A (tabW G a ph la po lo ov orr nv nr ql qk qv qr wr wa wc wk) s.heap.size) [((a 0), .inr (3, [.int (2 : Int32), .int la, .int po, .int lo, .ref (a 1), .ref (a 4), .ref (a 7), .ref (a 11), .int wa, .ref (a 12), .ref (a 13)])), ((a 1), .inr (2, [.int 0, .ref (a 2), .ref (a 3)])), ((a 2), .inl (G.2.1, 31, .inl ov)), ((a 3), .inl (G.2.1, 31, .inl orr)), ((a 4), .inr (2, [.int 1, .ref (a 5), .ref (a 6)])), ((a 5), .inl (G.2.1, 31, .inl nv)), ((a 6), .inl (G.2.1, 31, .inl nr)), ((a 7), .inr (1, [.int ql, .ref (a 8), .ref (a 9), .ref (a 10)])), ((a 8), .inl (G.2.1, 8, .inl qk)), ((a 9), .inl (G.2.1, 8, .inl qv)), ((a 10), .inl (G.2.1, 8, .inl qr)), ((a 11), .inl (G.2.1, 31, .inl wr)), ((a 12), .inl (G.2.1, 3, .inl wc)), ((a 13), .inl (G.2.1, 3, .inl wk))] := hD
    refine lv_aload_n hx hb dX4_turnOver_15 rfl (lv_at hl 0 rfl) ?_
    refine va_get (D := G.1) (ci := 3) (v := .ref (a 4)) (C := RX4) (T := TX4) (N := 11) hx hb hts hX4 hown hK.1 hP 0 rfl rfl 5 (by decide) (hts _ tw_136) (fun _ h9 => h9) rfl dX4_turnOver_16 ?_
    obtain ⟨r4, e5, hf⟩ := g_bdS hf
    refine g_contR (st1 := [.int r4]) (g_runVR (As := []) (rest := []) ⟨hx, hb, hml, hown, hts⟩ (qX3_rows l G (a 4) (a 5) (a 6) e5) (cwV 0 hts (TB_V TB_id tw_246 tw_247 tw_248 tw_51 tw_249) rfl rfl rfl (by decide +kernel) ⟨Nat.le_of_ble_eq_true rfl, Nat.le_of_ble_eq_true rfl⟩) hK (hP.sub [4, 5, 6] rfl) 0 rfl rfl rfl hl.1 rfl (Nat.le_of_ble_eq_true rfl) dX4_turnOver_19) rfl ?_
    cases hf
    exact g_iretC hx hb hr hlocks hP hD hS dX4_turnOver_22
  · have hf := g_ifT c3 hf
    refine lv_ldc (v := (-1000002 : Int32)) hx hb hown (hts _ tw_245) dX4_turnOver_7 ?_
    cases hf
    exact g_iretC hx hb hr hlocks hP hD hS dX4_turnOver_9
-- TwoShapes$Table.turnBack()I
abbrev rmX4_turnBack : Room := { frames := 1, cells := 0, slots := 0, locals := 21 }
def fX4_turnBack (ph : Int32) (la : Int32) (po : Int32) (lo : Int32) (ov : Nat → Int32) (orr : Nat → Int32) (nv : Nat → Int32) (nr : Nat → Int32) (ql : Int32) (qk : Nat → Int32) (qv : Nat → Int32) (qr : Nat → Int32) (wr : Nat → Int32) (wa : Int32) (wc : Nat → Int32) (wk : Nat → Int32) : Option (Int32 × Int32 × Int32 × Int32 × Int32 × (Nat → Int32) × (Nat → Int32) × (Nat → Int32) × (Nat → Int32) × Int32 × (Nat → Int32) × (Nat → Int32) × (Nat → Int32) × (Nat → Int32) × Int32 × (Nat → Int32) × (Nat → Int32)) := ((fX4_hasBoth ph la po lo ov orr nv nr ql qk qv qr wr wa wc wk).bind fun r1 => (if r1 = (0 : Int32) then some ((-1000002 : Int32), ph, la, po, lo, ov, orr, nv, nr, ql, qk, qv, qr, wr, wa, wc, wk) else (if ql = (0 : Int32) then (if ph = (2 : Int32) then some ((1 : Int32), (1 : Int32), la, (31 : Int32), lo, ov, orr, nv, nr, ql, qk, qv, qr, wr, wa, wc, wk) else ((fX3_clear 1 nv nr).bind fun r6 => some ((0 : Int32), (0 : Int32), la, po, lo, ov, orr, r6.1, r6.2, ql, qk, qv, qr, wr, wa, wc, wk))) else some ((-1000002 : Int32), ph, la, po, lo, ov, orr, nv, nr, ql, qk, qv, qr, wr, wa, wc, wk))))
set_option maxHeartbeats 4000000 in
set_option maxRecDepth 100000 in
theorem qX4_turnBack (l : Launch) (G : gT) (a : Nat → Nat) {ph : Int32} {la : Int32} {po : Int32} {lo : Int32} {ov : Nat → Int32} {orr : Nat → Int32} {nv : Nat → Int32} {nr : Nat → Int32} {ql : Int32} {qk : Nat → Int32} {qv : Nat → Int32} {qr : Nat → Int32} {wr : Nat → Int32} {wa : Int32} {wc : Nat → Int32} {wk : Nat → Int32} {u : Int32 × Int32 × Int32 × Int32 × Int32 × (Nat → Int32) × (Nat → Int32) × (Nat → Int32) × (Nat → Int32) × Int32 × (Nat → Int32) × (Nat → Int32) × (Nat → Int32) × (Nat → Int32) × Int32 × (Nat → Int32) × (Nat → Int32)} (hf : fX4_turnBack ph la po lo ov orr nv nr ql qk qv qr wr wa wc wk = some u) : gC l G yX4_turnBack wsX4_turnBack rmX4_turnBack [.ref (a 0)] (tabW G a ph la po lo ov orr nv nr ql qk qv qr wr wa wc wk) (some (.int u.1)) (tabW G a u.2.1 u.2.2.1 u.2.2.2.1 u.2.2.2.2.1 u.2.2.2.2.2.1 u.2.2.2.2.2.2.1 u.2.2.2.2.2.2.2.1 u.2.2.2.2.2.2.2.2.1 u.2.2.2.2.2.2.2.2.2.1 u.2.2.2.2.2.2.2.2.2.2.1 u.2.2.2.2.2.2.2.2.2.2.2.1 u.2.2.2.2.2.2.2.2.2.2.2.2.1 u.2.2.2.2.2.2.2.2.2.2.2.2.2.1 u.2.2.2.2.2.2.2.2.2.2.2.2.2.2.1 u.2.2.2.2.2.2.2.2.2.2.2.2.2.2.2.1 u.2.2.2.2.2.2.2.2.2.2.2.2.2.2.2.2) := by
  refine gC.of (cc := cX4_turnBack) (maxL := 1) (ret := (some .int)) (by decide) rfl (Nat.le_of_ble_eq_true rfl) ?_
  intro p e s m below meth c C0 hP hD hS ls hl
  obtain ⟨hx, hb, hr, hts, hown, hlocks, hml, hK⟩ := id C0
  have hl : lv_has ls 1 [(0, .ref (a 0))] := hl
  have hA : ∀ q : Nat, s.heap.size ≤ q → va_A (tabW G a ph la po lo ov orr nv nr ql qk qv qr wr wa wc wk) s.heap.size q := fun q h => Or.inr h
  have hP : va_P G.1 vwCl [((a 0), .inr (3, [.int ph, .int la, .int po, .int lo, .ref (a 1), .ref (a 4), .ref (a 7), .ref (a 11), .int wa, .ref (a 12), .ref (a 13)])), ((a 1), .inr (2, [.int 0, .ref (a 2), .ref (a 3)])), ((a 2), .inl (G.2.1, 31, .inl ov)), ((a 3), .inl (G.2.1, 31, .inl orr)), ((a 4), .inr (2, [.int 1, .ref (a 5), .ref (a 6)])), ((a 5), .inl (G.2.1, 31, .inl nv)), ((a 6), .inl (G.2.1, 31, .inl nr)), ((a 7), .inr (1, [.int ql, .ref (a 8), .ref (a 9), .ref (a 10)])), ((a 8), .inl (G.2.1, 8, .inl qk)), ((a 9), .inl (G.2.1, 8, .inl qv)), ((a 10), .inl (G.2.1, 8, .inl qr)), ((a 11), .inl (G.2.1, 31, .inl wr)), ((a 12), .inl (G.2.1, 3, .inl wc)), ((a 13), .inl (G.2.1, 3, .inl wk))] s.heap := hP
  have hD : va_D (va_A (tabW G a ph la po lo ov orr nv nr ql qk qv qr wr wa wc wk) s.heap.size) [((a 0), .inr (3, [.int ph, .int la, .int po, .int lo, .ref (a 1), .ref (a 4), .ref (a 7), .ref (a 11), .int wa, .ref (a 12), .ref (a 13)])), ((a 1), .inr (2, [.int 0, .ref (a 2), .ref (a 3)])), ((a 2), .inl (G.2.1, 31, .inl ov)), ((a 3), .inl (G.2.1, 31, .inl orr)), ((a 4), .inr (2, [.int 1, .ref (a 5), .ref (a 6)])), ((a 5), .inl (G.2.1, 31, .inl nv)), ((a 6), .inl (G.2.1, 31, .inl nr)), ((a 7), .inr (1, [.int ql, .ref (a 8), .ref (a 9), .ref (a 10)])), ((a 8), .inl (G.2.1, 8, .inl qk)), ((a 9), .inl (G.2.1, 8, .inl qv)), ((a 10), .inl (G.2.1, 8, .inl qr)), ((a 11), .inl (G.2.1, 31, .inl wr)), ((a 12), .inl (G.2.1, 3, .inl wc)), ((a 13), .inl (G.2.1, 3, .inl wk))] := hD
  unfold fX4_turnBack at hf
  refine lv_aload_n hx hb dX4_turnBack_0 rfl (lv_at hl 0 rfl) ?_
  obtain ⟨r1, e2, hf⟩ := g_bdS hf
  refine g_contR (st1 := [.int r1]) (g_runVR (As := []) (rest := []) ⟨hx, hb, hml, hown, hts⟩ (qX4_hasBoth l G a e2) (cwV 0 hts (TB_V TB_id tw_281 tw_282 tw_283 tw_50 tw_284) rfl rfl rfl (by decide +kernel) ⟨Nat.le_of_ble_eq_true rfl, Nat.le_of_ble_eq_true rfl⟩) hK (hP.sub [0, 1, 2, 3, 4, 5, 6, 7, 8, 9, 10, 11, 12, 13] rfl) 0 rfl rfl rfl hl.1 rfl (Nat.le_of_ble_eq_true rfl) dX4_turnBack_1) rfl ?_
  refine lv_if_eq (tgt := 17) hx hb dX4_turnBack_4 (by decide) (fun c3 => ?_) (fun c3 => ?_)
  · have hf := g_ifT c3 hf
    refine lv_ldc (v := (-1000002 : Int32)) hx hb hown (hts _ tw_245) dX4_turnBack_17 ?_
    cases hf
    exact g_iretC hx hb hr hlocks hP hD hS dX4_turnBack_19
  · have hf := g_ifF c3 hf
    refine lv_aload_n hx hb dX4_turnBack_7 rfl (lv_at hl 0 rfl) ?_
    refine va_get (D := G.1) (ci := 3) (v := .ref (a 7)) (C := RX4) (T := TX4) (N := 11) hx hb hts hX4 hown hK.1 hP 0 rfl rfl 6 (by decide) (hts _ tw_138) (fun _ h9 => h9) rfl dX4_turnBack_8 ?_
    refine va_get (D := G.1) (ci := 1) (v := .int ql) (C := RX1) (T := TX1) (N := 4) hx hb hts hX1 hown hK.1 hP 7 rfl rfl 0 (by decide) (hts _ tw_106) (fun _ h9 => h9) rfl dX4_turnBack_11 ?_
    refine lv_if_eq (tgt := 20) hx hb dX4_turnBack_14 (by decide) (fun c4 => ?_) (fun c4 => ?_)
    · have hf := g_ifT c4 hf
      refine lv_aload_n hx hb dX4_turnBack_20 rfl (lv_at hl 0 rfl) ?_
      refine va_get (D := G.1) (ci := 3) (v := .int ph) (C := RX4) (T := TX4) (N := 11) hx hb hts hX4 hown hK.1 hP 0 rfl rfl 0 (by decide) (hts _ tw_126) (fun _ h9 => h9) rfl dX4_turnBack_21 ?_
      refine lv_iconst (v := (2 : Int32)) hx hb dX4_turnBack_24 (by decide) ?_
      refine lv_icmp_ne (tgt := 42) hx hb dX4_turnBack_25 (by decide) (fun c5 => ?_) (fun c5 => ?_)
      · have hf := g_ifF c5 hf
        refine lv_aload_n hx hb dX4_turnBack_42 rfl (lv_at hl 0 rfl) ?_
        refine lv_iconst (v := (0 : Int32)) hx hb dX4_turnBack_43 (by decide) ?_
        refine va_put (D := G.1) (ci := 3) (v := .int (0 : Int32)) (ty := .int) (C := RX4) (T := TX4) (N := 11) hx hb hts hX4 tyX4 tyX4_ok nmX4 hown hK.1 hP hD hS 0 rfl rfl 0 (by decide) (hts _ tw_126) (fun _ h9 => h9) rfl (by decide +kernel) rfl rfl (Nat.le_of_ble_eq_true rfl) dX4_turnBack_44 (fun H locs hP hD hS => ?_)
        have hP : va_P G.1 vwCl [((a 0), .inr (3, [.int (0 : Int32), .int la, .int po, .int lo, .ref (a 1), .ref (a 4), .ref (a 7), .ref (a 11), .int wa, .ref (a 12), .ref (a 13)])), ((a 1), .inr (2, [.int 0, .ref (a 2), .ref (a 3)])), ((a 2), .inl (G.2.1, 31, .inl ov)), ((a 3), .inl (G.2.1, 31, .inl orr)), ((a 4), .inr (2, [.int 1, .ref (a 5), .ref (a 6)])), ((a 5), .inl (G.2.1, 31, .inl nv)), ((a 6), .inl (G.2.1, 31, .inl nr)), ((a 7), .inr (1, [.int ql, .ref (a 8), .ref (a 9), .ref (a 10)])), ((a 8), .inl (G.2.1, 8, .inl qk)), ((a 9), .inl (G.2.1, 8, .inl qv)), ((a 10), .inl (G.2.1, 8, .inl qr)), ((a 11), .inl (G.2.1, 31, .inl wr)), ((a 12), .inl (G.2.1, 3, .inl wc)), ((a 13), .inl (G.2.1, 3, .inl wk))] H := hP
        have hD : va_D (va_A (tabW G a ph la po lo ov orr nv nr ql qk qv qr wr wa wc wk) s.heap.size) [((a 0), .inr (3, [.int (0 : Int32), .int la, .int po, .int lo, .ref (a 1), .ref (a 4), .ref (a 7), .ref (a 11), .int wa, .ref (a 12), .ref (a 13)])), ((a 1), .inr (2, [.int 0, .ref (a 2), .ref (a 3)])), ((a 2), .inl (G.2.1, 31, .inl ov)), ((a 3), .inl (G.2.1, 31, .inl orr)), ((a 4), .inr (2, [.int 1, .ref (a 5), .ref (a 6)])), ((a 5), .inl (G.2.1, 31, .inl nv)), ((a 6), .inl (G.2.1, 31, .inl nr)), ((a 7), .inr (1, [.int ql, .ref (a 8), .ref (a 9), .ref (a 10)])), ((a 8), .inl (G.2.1, 8, .inl qk)), ((a 9), .inl (G.2.1, 8, .inl qv)), ((a 10), .inl (G.2.1, 8, .inl qr)), ((a 11), .inl (G.2.1, 31, .inl wr)), ((a 12), .inl (G.2.1, 3, .inl wc)), ((a 13), .inl (G.2.1, 3, .inl wk))] := hD
        refine lv_aload_n hx hb dX4_turnBack_47 rfl (lv_at hl 0 rfl) ?_
        refine va_get (D := G.1) (ci := 3) (v := .ref (a 4)) (C := RX4) (T := TX4) (N := 11) hx hb hts hX4 hown hK.1 hP 0 rfl rfl 5 (by decide) (hts _ tw_136) (fun _ h9 => h9) rfl dX4_turnBack_48 ?_
        obtain ⟨r6, e7, hf⟩ := g_bdS hf
        refine g_contC (st1 := []) (g_runVC (As := []) (rest := []) ⟨hx, hb, hml, hown, hts⟩ (qX3_clear l G (a 4) (a 5) (a 6) e7) (cwV 0 hts (TB_V TB_id tw_285 tw_81 tw_82 tw_51 tw_83) rfl rfl rfl (by decide +kernel) ⟨Nat.le_of_ble_eq_true rfl, Nat.le_of_ble_eq_true rfl⟩) hK (hP.sub [4, 5, 6] rfl) (hD.sub [4, 5, 6] (by decide) rfl) 0 rfl rfl rfl hl.1 rfl (Nat.le_of_ble_eq_true rfl) dX4_turnBack_51) rfl hP hD hS hA [4, 5, 6] rfl rfl (fun H locs hP hD hS => ?_)
        have hP : va_P G.1 vwCl [((a 0), .inr (3, [.int (0 : Int32), .int la, .int po, .int lo, .ref (a 1), .ref (a 4), .ref (a 7), .ref (a 11), .int wa, .ref (a 12), .ref (a 13)])), ((a 1), .inr (2, [.int 0, .ref (a 2), .ref (a 3)])), ((a 2), .inl (G.2.1, 31, .inl ov)), ((a 3), .inl (G.2.1, 31, .inl orr)), ((a 4), .inr (2, [.int 1, .ref (a 5), .ref (a 6)])), ((a 5), .inl (G.2.1, 31, .inl r6.1)), ((a 6), .inl (G.2.1, 31, .inl r6.2)), ((a 7), .inr (1, [.int ql, .ref (a 8), .ref (a 9), .ref (a 10)])), ((a 8), .inl (G.2.1, 8, .inl qk)), ((a 9), .inl (G.2.1, 8, .inl qv)), ((a 10), .inl (G.2.1, 8, .inl qr)), ((a 11), .inl (G.2.1, 31, .inl wr)), ((a 12), .inl (G.2.1, 3, .inl wc)), ((a 13), .inl (G.2.1, 3, .inl wk))] H := hP
        have hD : va_D (va_A (tabW G a ph la po lo ov orr nv nr ql qk qv qr wr wa wc wk) s.heap.size) [((a 0), .inr (3, [.int (0 : Int32), .int la, .int po, .int lo, .ref (a 1), .ref (a 4), .ref (a 7), .ref (a 11), .int wa, .ref (a 12), .ref (a 13)])), ((a 1), .inr (2, [.int 0, .ref (a 2), .ref (a 3)])), ((a 2), .inl (G.2.1, 31, .inl ov)), ((a 3), .inl (G.2.1, 31, .inl orr)), ((a 4), .inr (2, [.int 1, .ref (a 5), .ref (a 6)])), ((a 5), .inl (G.2.1, 31, .inl r6.1)), ((a 6), .inl (G.2.1, 31, .inl r6.2)), ((a 7), .inr (1, [.int ql, .ref (a 8), .ref (a 9), .ref (a 10)])), ((a 8), .inl (G.2.1, 8, .inl qk)), ((a 9), .inl (G.2.1, 8, .inl qv)), ((a 10), .inl (G.2.1, 8, .inl qr)), ((a 11), .inl (G.2.1, 31, .inl wr)), ((a 12), .inl (G.2.1, 3, .inl wc)), ((a 13), .inl (G.2.1, 3, .inl wk))] := hD
        refine lv_aload_n hx hb dX4_turnBack_54 rfl (lv_at hl 0 rfl) ?_
        refine va_get (D := G.1) (ci := 3) (v := .int (0 : Int32)) (C := RX4) (T := TX4) (N := 11) hx hb hts hX4 hown hK.1 hP 0 rfl rfl 0 (by decide) (hts _ tw_126) (fun _ h9 => h9) rfl dX4_turnBack_55 ?_
        cases hf
        exact g_iretC hx hb hr hlocks hP hD hS dX4_turnBack_58
      · have hf := g_ifT c5 hf
        refine lv_aload_n hx hb dX4_turnBack_28 rfl (lv_at hl 0 rfl) ?_
        refine lv_iconst (v := (1 : Int32)) hx hb dX4_turnBack_29 (by decide) ?_
        refine va_put (D := G.1) (ci := 3) (v := .int (1 : Int32)) (ty := .int) (C := RX4) (T := TX4) (N := 11) hx hb hts hX4 tyX4 tyX4_ok nmX4 hown hK.1 hP hD hS 0 rfl rfl 0 (by decide) (hts _ tw_126) (fun _ h9 => h9) rfl (by decide +kernel) rfl rfl (Nat.le_of_ble_eq_true rfl) dX4_turnBack_30 (fun H locs hP hD hS => ?_)
        have hP : va_P G.1 vwCl [((a 0), .inr (3, [.int (1 : Int32), .int la, .int po, .int lo, .ref (a 1), .ref (a 4), .ref (a 7), .ref (a 11), .int wa, .ref (a 12), .ref (a 13)])), ((a 1), .inr (2, [.int 0, .ref (a 2), .ref (a 3)])), ((a 2), .inl (G.2.1, 31, .inl ov)), ((a 3), .inl (G.2.1, 31, .inl orr)), ((a 4), .inr (2, [.int 1, .ref (a 5), .ref (a 6)])), ((a 5), .inl (G.2.1, 31, .inl nv)), ((a 6), .inl (G.2.1, 31, .inl nr)), ((a 7), .inr (1, [.int ql, .ref (a 8), .ref (a 9), .ref (a 10)])), ((a 8), .inl (G.2.1, 8, .inl qk)), ((a 9), .inl (G.2.1, 8, .inl qv)), ((a 10), .inl (G.2.1, 8, .inl qr)), ((a 11), .inl (G.2.1, 31, .inl wr)), ((a 12), .inl (G.2.1, 3, .inl wc)), ((a 13), .inl (G.2.1, 3, .inl wk))] H := hP
        have hD : va_D (va_A (tabW G a ph la po lo ov orr nv nr ql qk qv qr wr wa wc wk) s.heap.size) [((a 0), .inr (3, [.int (1 : Int32), .int la, .int po, .int lo, .ref (a 1), .ref (a 4), .ref (a 7), .ref (a 11), .int wa, .ref (a 12), .ref (a 13)])), ((a 1), .inr (2, [.int 0, .ref (a 2), .ref (a 3)])), ((a 2), .inl (G.2.1, 31, .inl ov)), ((a 3), .inl (G.2.1, 31, .inl orr)), ((a 4), .inr (2, [.int 1, .ref (a 5), .ref (a 6)])), ((a 5), .inl (G.2.1, 31, .inl nv)), ((a 6), .inl (G.2.1, 31, .inl nr)), ((a 7), .inr (1, [.int ql, .ref (a 8), .ref (a 9), .ref (a 10)])), ((a 8), .inl (G.2.1, 8, .inl qk)), ((a 9), .inl (G.2.1, 8, .inl qv)), ((a 10), .inl (G.2.1, 8, .inl qr)), ((a 11), .inl (G.2.1, 31, .inl wr)), ((a 12), .inl (G.2.1, 3, .inl wc)), ((a 13), .inl (G.2.1, 3, .inl wk))] := hD
        refine lv_aload_n hx hb dX4_turnBack_33 rfl (lv_at hl 0 rfl) ?_
        refine lv_bipush (v := (31 : Int32)) hx hb dX4_turnBack_34 (by decide) ?_
        refine va_put (D := G.1) (ci := 3) (v := .int (31 : Int32)) (ty := .int) (C := RX4) (T := TX4) (N := 11) hx hb hts hX4 tyX4 tyX4_ok nmX4 hown hK.1 hP hD hS 0 rfl rfl 2 (by decide) (hts _ tw_130) (fun _ h9 => h9) rfl (by decide +kernel) rfl rfl (Nat.le_of_ble_eq_true rfl) dX4_turnBack_36 (fun H locs hP hD hS => ?_)
        have hP : va_P G.1 vwCl [((a 0), .inr (3, [.int (1 : Int32), .int la, .int (31 : Int32), .int lo, .ref (a 1), .ref (a 4), .ref (a 7), .ref (a 11), .int wa, .ref (a 12), .ref (a 13)])), ((a 1), .inr (2, [.int 0, .ref (a 2), .ref (a 3)])), ((a 2), .inl (G.2.1, 31, .inl ov)), ((a 3), .inl (G.2.1, 31, .inl orr)), ((a 4), .inr (2, [.int 1, .ref (a 5), .ref (a 6)])), ((a 5), .inl (G.2.1, 31, .inl nv)), ((a 6), .inl (G.2.1, 31, .inl nr)), ((a 7), .inr (1, [.int ql, .ref (a 8), .ref (a 9), .ref (a 10)])), ((a 8), .inl (G.2.1, 8, .inl qk)), ((a 9), .inl (G.2.1, 8, .inl qv)), ((a 10), .inl (G.2.1, 8, .inl qr)), ((a 11), .inl (G.2.1, 31, .inl wr)), ((a 12), .inl (G.2.1, 3, .inl wc)), ((a 13), .inl (G.2.1, 3, .inl wk))] H := hP
        have hD : va_D (va_A (tabW G a ph la po lo ov orr nv nr ql qk qv qr wr wa wc wk) s.heap.size) [((a 0), .inr (3, [.int (1 : Int32), .int la, .int (31 : Int32), .int lo, .ref (a 1), .ref (a 4), .ref (a 7), .ref (a 11), .int wa, .ref (a 12), .ref (a 13)])), ((a 1), .inr (2, [.int 0, .ref (a 2), .ref (a 3)])), ((a 2), .inl (G.2.1, 31, .inl ov)), ((a 3), .inl (G.2.1, 31, .inl orr)), ((a 4), .inr (2, [.int 1, .ref (a 5), .ref (a 6)])), ((a 5), .inl (G.2.1, 31, .inl nv)), ((a 6), .inl (G.2.1, 31, .inl nr)), ((a 7), .inr (1, [.int ql, .ref (a 8), .ref (a 9), .ref (a 10)])), ((a 8), .inl (G.2.1, 8, .inl qk)), ((a 9), .inl (G.2.1, 8, .inl qv)), ((a 10), .inl (G.2.1, 8, .inl qr)), ((a 11), .inl (G.2.1, 31, .inl wr)), ((a 12), .inl (G.2.1, 3, .inl wc)), ((a 13), .inl (G.2.1, 3, .inl wk))] := hD
        refine lv_goto (tgt := 54) hx hb dX4_turnBack_39 (by decide) ?_
        refine lv_aload_n hx hb dX4_turnBack_54 rfl (lv_at hl 0 rfl) ?_
        refine va_get (D := G.1) (ci := 3) (v := .int (1 : Int32)) (C := RX4) (T := TX4) (N := 11) hx hb hts hX4 hown hK.1 hP 0 rfl rfl 0 (by decide) (hts _ tw_126) (fun _ h9 => h9) rfl dX4_turnBack_55 ?_
        cases hf
        exact g_iretC hx hb hr hlocks hP hD hS dX4_turnBack_58
    · have hf := g_ifF c4 hf
      refine lv_ldc (v := (-1000002 : Int32)) hx hb hown (hts _ tw_245) dX4_turnBack_17 ?_
      cases hf
      exact g_iretC hx hb hr hlocks hP hD hS dX4_turnBack_19
-- TwoShapes$Table.dropOld()I
abbrev rmX4_dropOld : Room := { frames := 2, cells := 0, slots := 0, locals := 45 }
def fX4_dropOld (ph : Int32) (la : Int32) (po : Int32) (lo : Int32) (ov : Nat → Int32) (orr : Nat → Int32) (nv : Nat → Int32) (nr : Nat → Int32) (ql : Int32) (qk : Nat → Int32) (qv : Nat → Int32) (qr : Nat → Int32) (wr : Nat → Int32) (wa : Int32) (wc : Nat → Int32) (wk : Nat → Int32) : Option (Int32 × Int32 × Int32 × Int32 × Int32 × (Nat → Int32) × (Nat → Int32) × (Nat → Int32) × (Nat → Int32) × Int32 × (Nat → Int32) × (Nat → Int32) × (Nat → Int32) × (Nat → Int32) × Int32 × (Nat → Int32) × (Nat → Int32)) := (if ph = (2 : Int32) then (if ql = (0 : Int32) then ((fX4_differing ph la po lo ov orr nv nr ql qk qv qr wr wa wc wk).bind fun r3 => (if r3 = (0 : Int32) then ((fX3_clear 0 ov orr).bind fun r6 => ((fX3_strangeRows 1 nv nr).bind fun r8 => some (r8, (3 : Int32), la, po, lo, r6.1, r6.2, nv, nr, ql, qk, qv, qr, wr, wa, wc, wk))) else some ((-1000002 : Int32), ph, la, po, lo, ov, orr, nv, nr, ql, qk, qv, qr, wr, wa, wc, wk))) else some ((-1000002 : Int32), ph, la, po, lo, ov, orr, nv, nr, ql, qk, qv, qr, wr, wa, wc, wk)) else some ((-1000002 : Int32), ph, la, po, lo, ov, orr, nv, nr, ql, qk, qv, qr, wr, wa, wc, wk))
set_option maxHeartbeats 4000000 in
set_option maxRecDepth 100000 in
theorem qX4_dropOld (l : Launch) (G : gT) (a : Nat → Nat) {ph : Int32} {la : Int32} {po : Int32} {lo : Int32} {ov : Nat → Int32} {orr : Nat → Int32} {nv : Nat → Int32} {nr : Nat → Int32} {ql : Int32} {qk : Nat → Int32} {qv : Nat → Int32} {qr : Nat → Int32} {wr : Nat → Int32} {wa : Int32} {wc : Nat → Int32} {wk : Nat → Int32} {u : Int32 × Int32 × Int32 × Int32 × Int32 × (Nat → Int32) × (Nat → Int32) × (Nat → Int32) × (Nat → Int32) × Int32 × (Nat → Int32) × (Nat → Int32) × (Nat → Int32) × (Nat → Int32) × Int32 × (Nat → Int32) × (Nat → Int32)} (hf : fX4_dropOld ph la po lo ov orr nv nr ql qk qv qr wr wa wc wk = some u) : gC l G yX4_dropOld wsX4_dropOld rmX4_dropOld [.ref (a 0)] (tabW G a ph la po lo ov orr nv nr ql qk qv qr wr wa wc wk) (some (.int u.1)) (tabW G a u.2.1 u.2.2.1 u.2.2.2.1 u.2.2.2.2.1 u.2.2.2.2.2.1 u.2.2.2.2.2.2.1 u.2.2.2.2.2.2.2.1 u.2.2.2.2.2.2.2.2.1 u.2.2.2.2.2.2.2.2.2.1 u.2.2.2.2.2.2.2.2.2.2.1 u.2.2.2.2.2.2.2.2.2.2.2.1 u.2.2.2.2.2.2.2.2.2.2.2.2.1 u.2.2.2.2.2.2.2.2.2.2.2.2.2.1 u.2.2.2.2.2.2.2.2.2.2.2.2.2.2.1 u.2.2.2.2.2.2.2.2.2.2.2.2.2.2.2.1 u.2.2.2.2.2.2.2.2.2.2.2.2.2.2.2.2) := by
  refine gC.of (cc := cX4_dropOld) (maxL := 1) (ret := (some .int)) (by decide) rfl (Nat.le_of_ble_eq_true rfl) ?_
  intro p e s m below meth c C0 hP hD hS ls hl
  obtain ⟨hx, hb, hr, hts, hown, hlocks, hml, hK⟩ := id C0
  have hl : lv_has ls 1 [(0, .ref (a 0))] := hl
  have hA : ∀ q : Nat, s.heap.size ≤ q → va_A (tabW G a ph la po lo ov orr nv nr ql qk qv qr wr wa wc wk) s.heap.size q := fun q h => Or.inr h
  have hP : va_P G.1 vwCl [((a 0), .inr (3, [.int ph, .int la, .int po, .int lo, .ref (a 1), .ref (a 4), .ref (a 7), .ref (a 11), .int wa, .ref (a 12), .ref (a 13)])), ((a 1), .inr (2, [.int 0, .ref (a 2), .ref (a 3)])), ((a 2), .inl (G.2.1, 31, .inl ov)), ((a 3), .inl (G.2.1, 31, .inl orr)), ((a 4), .inr (2, [.int 1, .ref (a 5), .ref (a 6)])), ((a 5), .inl (G.2.1, 31, .inl nv)), ((a 6), .inl (G.2.1, 31, .inl nr)), ((a 7), .inr (1, [.int ql, .ref (a 8), .ref (a 9), .ref (a 10)])), ((a 8), .inl (G.2.1, 8, .inl qk)), ((a 9), .inl (G.2.1, 8, .inl qv)), ((a 10), .inl (G.2.1, 8, .inl qr)), ((a 11), .inl (G.2.1, 31, .inl wr)), ((a 12), .inl (G.2.1, 3, .inl wc)), ((a 13), .inl (G.2.1, 3, .inl wk))] s.heap := hP
  have hD : va_D (va_A (tabW G a ph la po lo ov orr nv nr ql qk qv qr wr wa wc wk) s.heap.size) [((a 0), .inr (3, [.int ph, .int la, .int po, .int lo, .ref (a 1), .ref (a 4), .ref (a 7), .ref (a 11), .int wa, .ref (a 12), .ref (a 13)])), ((a 1), .inr (2, [.int 0, .ref (a 2), .ref (a 3)])), ((a 2), .inl (G.2.1, 31, .inl ov)), ((a 3), .inl (G.2.1, 31, .inl orr)), ((a 4), .inr (2, [.int 1, .ref (a 5), .ref (a 6)])), ((a 5), .inl (G.2.1, 31, .inl nv)), ((a 6), .inl (G.2.1, 31, .inl nr)), ((a 7), .inr (1, [.int ql, .ref (a 8), .ref (a 9), .ref (a 10)])), ((a 8), .inl (G.2.1, 8, .inl qk)), ((a 9), .inl (G.2.1, 8, .inl qv)), ((a 10), .inl (G.2.1, 8, .inl qr)), ((a 11), .inl (G.2.1, 31, .inl wr)), ((a 12), .inl (G.2.1, 3, .inl wc)), ((a 13), .inl (G.2.1, 3, .inl wk))] := hD
  unfold fX4_dropOld at hf
  refine lv_aload_n hx hb dX4_dropOld_0 rfl (lv_at hl 0 rfl) ?_
  refine va_get (D := G.1) (ci := 3) (v := .int ph) (C := RX4) (T := TX4) (N := 11) hx hb hts hX4 hown hK.1 hP 0 rfl rfl 0 (by decide) (hts _ tw_126) (fun _ h9 => h9) rfl dX4_dropOld_1 ?_
  refine lv_iconst (v := (2 : Int32)) hx hb dX4_dropOld_4 (by decide) ?_
  refine lv_icmp_ne (tgt := 25) hx hb dX4_dropOld_5 (by decide) (fun c1 => ?_) (fun c1 => ?_)
  · have hf := g_ifF c1 hf
    refine lv_ldc (v := (-1000002 : Int32)) hx hb hown (hts _ tw_245) dX4_dropOld_25 ?_
    cases hf
    exact g_iretC hx hb hr hlocks hP hD hS dX4_dropOld_27
  · have hf := g_ifT c1 hf
    refine lv_aload_n hx hb dX4_dropOld_8 rfl (lv_at hl 0 rfl) ?_
    refine va_get (D := G.1) (ci := 3) (v := .ref (a 7)) (C := RX4) (T := TX4) (N := 11) hx hb hts hX4 hown hK.1 hP 0 rfl rfl 6 (by decide) (hts _ tw_138) (fun _ h9 => h9) rfl dX4_dropOld_9 ?_
    refine va_get (D := G.1) (ci := 1) (v := .int ql) (C := RX1) (T := TX1) (N := 4) hx hb hts hX1 hown hK.1 hP 7 rfl rfl 0 (by decide) (hts _ tw_106) (fun _ h9 => h9) rfl dX4_dropOld_12 ?_
    refine lv_if_ne (tgt := 25) hx hb dX4_dropOld_15 (by decide) (fun c2 => ?_) (fun c2 => ?_)
    · have hf := g_ifF c2 hf
      refine lv_ldc (v := (-1000002 : Int32)) hx hb hown (hts _ tw_245) dX4_dropOld_25 ?_
      cases hf
      exact g_iretC hx hb hr hlocks hP hD hS dX4_dropOld_27
    · have hf := g_ifT c2 hf
      refine lv_aload_n hx hb dX4_dropOld_18 rfl (lv_at hl 0 rfl) ?_
      obtain ⟨r3, e4, hf⟩ := g_bdS hf
      refine g_contR (st1 := [.int r3]) (g_runVR (As := []) (rest := []) ⟨hx, hb, hml, hown, hts⟩ (qX4_differing l G a e4) (cwV 0 hts (TB_V TB_id tw_266 tw_267 tw_268 tw_50 tw_269) rfl rfl rfl (by decide +kernel) ⟨Nat.le_of_ble_eq_true rfl, Nat.le_of_ble_eq_true rfl⟩) hK (hP.sub [0, 1, 2, 3, 4, 5, 6, 7, 8, 9, 10, 11, 12, 13] rfl) 0 rfl rfl rfl hl.1 rfl (Nat.le_of_ble_eq_true rfl) dX4_dropOld_19) rfl ?_
      refine lv_if_eq (tgt := 28) hx hb dX4_dropOld_22 (by decide) (fun c5 => ?_) (fun c5 => ?_)
      · have hf := g_ifT c5 hf
        refine lv_aload_n hx hb dX4_dropOld_28 rfl (lv_at hl 0 rfl) ?_
        refine lv_iconst (v := (3 : Int32)) hx hb dX4_dropOld_29 (by decide) ?_
        refine va_put (D := G.1) (ci := 3) (v := .int (3 : Int32)) (ty := .int) (C := RX4) (T := TX4) (N := 11) hx hb hts hX4 tyX4 tyX4_ok nmX4 hown hK.1 hP hD hS 0 rfl rfl 0 (by decide) (hts _ tw_126) (fun _ h9 => h9) rfl (by decide +kernel) rfl rfl (Nat.le_of_ble_eq_true rfl) dX4_dropOld_30 (fun H locs hP hD hS => ?_)
        have hP : va_P G.1 vwCl [((a 0), .inr (3, [.int (3 : Int32), .int la, .int po, .int lo, .ref (a 1), .ref (a 4), .ref (a 7), .ref (a 11), .int wa, .ref (a 12), .ref (a 13)])), ((a 1), .inr (2, [.int 0, .ref (a 2), .ref (a 3)])), ((a 2), .inl (G.2.1, 31, .inl ov)), ((a 3), .inl (G.2.1, 31, .inl orr)), ((a 4), .inr (2, [.int 1, .ref (a 5), .ref (a 6)])), ((a 5), .inl (G.2.1, 31, .inl nv)), ((a 6), .inl (G.2.1, 31, .inl nr)), ((a 7), .inr (1, [.int ql, .ref (a 8), .ref (a 9), .ref (a 10)])), ((a 8), .inl (G.2.1, 8, .inl qk)), ((a 9), .inl (G.2.1, 8, .inl qv)), ((a 10), .inl (G.2.1, 8, .inl qr)), ((a 11), .inl (G.2.1, 31, .inl wr)), ((a 12), .inl (G.2.1, 3, .inl wc)), ((a 13), .inl (G.2.1, 3, .inl wk))] H := hP
        have hD : va_D (va_A (tabW G a ph la po lo ov orr nv nr ql qk qv qr wr wa wc wk) s.heap.size) [((a 0), .inr (3, [.int (3 : Int32), .int la, .int po, .int lo, .ref (a 1), .ref (a 4), .ref (a 7), .ref (a 11), .int wa, .ref (a 12), .ref (a 13)])), ((a 1), .inr (2, [.int 0, .ref (a 2), .ref (a 3)])), ((a 2), .inl (G.2.1, 31, .inl ov)), ((a 3), .inl (G.2.1, 31, .inl orr)), ((a 4), .inr (2, [.int 1, .ref (a 5), .ref (a 6)])), ((a 5), .inl (G.2.1, 31, .inl nv)), ((a 6), .inl (G.2.1, 31, .inl nr)), ((a 7), .inr (1, [.int ql, .ref (a 8), .ref (a 9), .ref (a 10)])), ((a 8), .inl (G.2.1, 8, .inl qk)), ((a 9), .inl (G.2.1, 8, .inl qv)), ((a 10), .inl (G.2.1, 8, .inl qr)), ((a 11), .inl (G.2.1, 31, .inl wr)), ((a 12), .inl (G.2.1, 3, .inl wc)), ((a 13), .inl (G.2.1, 3, .inl wk))] := hD
        refine lv_aload_n hx hb dX4_dropOld_33 rfl (lv_at hl 0 rfl) ?_
        refine va_get (D := G.1) (ci := 3) (v := .ref (a 1)) (C := RX4) (T := TX4) (N := 11) hx hb hts hX4 hown hK.1 hP 0 rfl rfl 4 (by decide) (hts _ tw_134) (fun _ h9 => h9) rfl dX4_dropOld_34 ?_
        obtain ⟨r6, e7, hf⟩ := g_bdS hf
        refine g_contC (st1 := []) (g_runVC (As := []) (rest := []) ⟨hx, hb, hml, hown, hts⟩ (qX3_clear l G (a 1) (a 2) (a 3) e7) (cwV 0 hts (TB_V TB_id tw_285 tw_81 tw_82 tw_51 tw_83) rfl rfl rfl (by decide +kernel) ⟨Nat.le_of_ble_eq_true rfl, Nat.le_of_ble_eq_true rfl⟩) hK (hP.sub [1, 2, 3] rfl) (hD.sub [1, 2, 3] (by decide) rfl) 0 rfl rfl rfl hl.1 rfl (Nat.le_of_ble_eq_true rfl) dX4_dropOld_37) rfl hP hD hS hA [1, 2, 3] rfl rfl (fun H locs hP hD hS => ?_)
        have hP : va_P G.1 vwCl [((a 0), .inr (3, [.int (3 : Int32), .int la, .int po, .int lo, .ref (a 1), .ref (a 4), .ref (a 7), .ref (a 11), .int wa, .ref (a 12), .ref (a 13)])), ((a 1), .inr (2, [.int 0, .ref (a 2), .ref (a 3)])), ((a 2), .inl (G.2.1, 31, .inl r6.1)), ((a 3), .inl (G.2.1, 31, .inl r6.2)), ((a 4), .inr (2, [.int 1, .ref (a 5), .ref (a 6)])), ((a 5), .inl (G.2.1, 31, .inl nv)), ((a 6), .inl (G.2.1, 31, .inl nr)), ((a 7), .inr (1, [.int ql, .ref (a 8), .ref (a 9), .ref (a 10)])), ((a 8), .inl (G.2.1, 8, .inl qk)), ((a 9), .inl (G.2.1, 8, .inl qv)), ((a 10), .inl (G.2.1, 8, .inl qr)), ((a 11), .inl (G.2.1, 31, .inl wr)), ((a 12), .inl (G.2.1, 3, .inl wc)), ((a 13), .inl (G.2.1, 3, .inl wk))] H := hP
        have hD : va_D (va_A (tabW G a ph la po lo ov orr nv nr ql qk qv qr wr wa wc wk) s.heap.size) [((a 0), .inr (3, [.int (3 : Int32), .int la, .int po, .int lo, .ref (a 1), .ref (a 4), .ref (a 7), .ref (a 11), .int wa, .ref (a 12), .ref (a 13)])), ((a 1), .inr (2, [.int 0, .ref (a 2), .ref (a 3)])), ((a 2), .inl (G.2.1, 31, .inl r6.1)), ((a 3), .inl (G.2.1, 31, .inl r6.2)), ((a 4), .inr (2, [.int 1, .ref (a 5), .ref (a 6)])), ((a 5), .inl (G.2.1, 31, .inl nv)), ((a 6), .inl (G.2.1, 31, .inl nr)), ((a 7), .inr (1, [.int ql, .ref (a 8), .ref (a 9), .ref (a 10)])), ((a 8), .inl (G.2.1, 8, .inl qk)), ((a 9), .inl (G.2.1, 8, .inl qv)), ((a 10), .inl (G.2.1, 8, .inl qr)), ((a 11), .inl (G.2.1, 31, .inl wr)), ((a 12), .inl (G.2.1, 3, .inl wc)), ((a 13), .inl (G.2.1, 3, .inl wk))] := hD
        refine lv_aload_n hx hb dX4_dropOld_40 rfl (lv_at hl 0 rfl) ?_
        refine va_get (D := G.1) (ci := 3) (v := .ref (a 4)) (C := RX4) (T := TX4) (N := 11) hx hb hts hX4 hown hK.1 hP 0 rfl rfl 5 (by decide) (hts _ tw_136) (fun _ h9 => h9) rfl dX4_dropOld_41 ?_
        obtain ⟨r8, e9, hf⟩ := g_bdS hf
        refine g_contR (st1 := [.int r8]) (g_runVR (As := []) (rest := []) ⟨hx, hb, hml, hown, hts⟩ (qX3_strangeRows l G (a 4) (a 5) (a 6) e9) (cwV 0 hts (TB_V TB_id tw_294 tw_295 tw_296 tw_51 tw_297) rfl rfl rfl (by decide +kernel) ⟨Nat.le_of_ble_eq_true rfl, Nat.le_of_ble_eq_true rfl⟩) hK (hP.sub [4, 5, 6] rfl) 0 rfl rfl rfl hl.1 rfl (Nat.le_of_ble_eq_true rfl) dX4_dropOld_44) rfl ?_
        cases hf
        exact g_iretC hx hb hr hlocks hP hD hS dX4_dropOld_47
      · have hf := g_ifF c5 hf
        refine lv_ldc (v := (-1000002 : Int32)) hx hb hown (hts _ tw_245) dX4_dropOld_25 ?_
        cases hf
        exact g_iretC hx hb hr hlocks hP hD hS dX4_dropOld_27
-- TwoShapes$Table.put(II)I
abbrev rmX4_put : Room := { frames := 2, cells := 0, slots := 0, locals := 45 }
def fX4_put_b24 (x1 : Int32) (x2 : Int32) (t0 : Int32) (ph : Int32) (la : Int32) (po : Int32) (lo : Int32) (ov : Nat → Int32) (orr : Nat → Int32) (nv : Nat → Int32) (nr : Nat → Int32) (ql : Int32) (qk : Nat → Int32) (qv : Nat → Int32) (qr : Nat → Int32) (wr : Nat → Int32) (wa : Int32) (wc : Nat → Int32) (wk : Nat → Int32) : Option (Int32 × Int32 × Int32 × Int32 × Int32 × (Nat → Int32) × (Nat → Int32) × (Nat → Int32) × (Nat → Int32) × Int32 × (Nat → Int32) × (Nat → Int32) × (Nat → Int32) × (Nat → Int32) × Int32 × (Nat → Int32) × (Nat → Int32)) := (if t0 = (0 : Int32) then (if la < (100000 : Int32) then g_gd (g_in x1 31) (((fX4_first ph (la + (1 : Int32)) po lo ov orr nv nr ql qk qv qr (upd wr x1.toNatClampNeg (la + (1 : Int32))) wa wc wk).bind fun r7 => ((fX4_shape r7 ph (la + (1 : Int32)) po lo ov orr nv nr ql qk qv qr (upd wr x1.toNatClampNeg (la + (1 : Int32))) wa wc wk).bind fun r9 => (if r9 = 1 then ((fX3_take x1 (la + (1 : Int32)) x2 0 ov orr).bind fun r12 => ((fX4_hasBoth ph (la + (1 : Int32)) po lo r12.1 r12.2 nv nr ql qk qv qr (upd wr x1.toNatClampNeg (la + (1 : Int32))) wa wc wk).bind fun r14 => (if r14 = (0 : Int32) then some ((la + (1 : Int32)), ph, (la + (1 : Int32)), po, lo, r12.1, r12.2, nv, nr, ql, qk, qv, qr, (upd wr x1.toNatClampNeg (la + (1 : Int32))), wa, wc, wk) else ((fX1_append x1 (la + (1 : Int32)) x2 ql qk qv qr).bind fun r17 => some ((la + (1 : Int32)), ph, (la + (1 : Int32)), po, lo, r12.1, r12.2, nv, nr, r17.1, r17.2.1, r17.2.2.1, r17.2.2.2, (upd wr x1.toNatClampNeg (la + (1 : Int32))), wa, wc, wk))))) else (if r9 = 4 then ((fX3_take x1 (la + (1 : Int32)) x2 1 nv nr).bind fun r20 => ((fX4_hasBoth ph (la + (1 : Int32)) po lo ov orr r20.1 r20.2 ql qk qv qr (upd wr x1.toNatClampNeg (la + (1 : Int32))) wa wc wk).bind fun r22 => (if r22 = (0 : Int32) then some ((la + (1 : Int32)), ph, (la + (1 : Int32)), po, lo, ov, orr, r20.1, r20.2, ql, qk, qv, qr, (upd wr x1.toNatClampNeg (la + (1 : Int32))), wa, wc, wk) else ((fX1_append x1 (la + (1 : Int32)) x2 ql qk qv qr).bind fun r25 => some ((la + (1 : Int32)), ph, (la + (1 : Int32)), po, lo, ov, orr, r20.1, r20.2, r25.1, r25.2.1, r25.2.2.1, r25.2.2.2, (upd wr x1.toNatClampNeg (la + (1 : Int32))), wa, wc, wk))))) else none))))) else some ((-1000003 : Int32), ph, la, po, lo, ov, orr, nv, nr, ql, qk, qv, qr, wr, wa, wc, wk)) else some ((-1000003 : Int32), ph, la, po, lo, ov, orr, nv, nr, ql, qk, qv, qr, wr, wa, wc, wk))
set_option maxHeartbeats 4000000 in
set_option maxRecDepth 100000 in
theorem kX4_put_b24 {p : Program} {l : Launch} {e : Env} {s : State} {m : MethodId} {args : Array Value} {below : List Frame} {meth : Method} {c : Code} {G : gT} {a : Nat → Nat} {w0 : va_W} (C0 : gX p s m args meth c cX4_put 4 (some .int) RX4 G) :
    ∀ (x1 : Int32) (x2 : Int32) (t0 : Int32) (ph : Int32) (la : Int32) (po : Int32) (lo : Int32) (ov : Nat → Int32) (orr : Nat → Int32) (nv : Nat → Int32) (nr : Nat → Int32) (ql : Int32) (qk : Nat → Int32) (qv : Nat → Int32) (qr : Nat → Int32) (wr : Nat → Int32) (wa : Int32) (wc : Nat → Int32) (wk : Nat → Int32) (u : Int32 × Int32 × Int32 × Int32 × Int32 × (Nat → Int32) × (Nat → Int32) × (Nat → Int32) × (Nat → Int32) × Int32 × (Nat → Int32) × (Nat → Int32) × (Nat → Int32) × (Nat → Int32) × Int32 × (Nat → Int32) × (Nat → Int32)), fX4_put_b24 x1 x2 t0 ph la po lo ov orr nv nr ql qk qv qr wr wa wc wk = some u → ∀ (H : Heap) (locs : List Loc), va_P G.1 vwCl [((a 0), .inr (3, [.int ph, .int la, .int po, .int lo, .ref (a 1), .ref (a 4), .ref (a 7), .ref (a 11), .int wa, .ref (a 12), .ref (a 13)])), ((a 1), .inr (2, [.int 0, .ref (a 2), .ref (a 3)])), ((a 2), .inl (G.2.1, 31, .inl ov)), ((a 3), .inl (G.2.1, 31, .inl orr)), ((a 4), .inr (2, [.int 1, .ref (a 5), .ref (a 6)])), ((a 5), .inl (G.2.1, 31, .inl nv)), ((a 6), .inl (G.2.1, 31, .inl nr)), ((a 7), .inr (1, [.int ql, .ref (a 8), .ref (a 9), .ref (a 10)])), ((a 8), .inl (G.2.1, 8, .inl qk)), ((a 9), .inl (G.2.1, 8, .inl qv)), ((a 10), .inl (G.2.1, 8, .inl qr)), ((a 11), .inl (G.2.1, 31, .inl wr)), ((a 12), .inl (G.2.1, 3, .inl wc)), ((a 13), .inl (G.2.1, 3, .inl wk))] H → va_D (va_A w0 s.heap.size) [((a 0), .inr (3, [.int ph, .int la, .int po, .int lo, .ref (a 1), .ref (a 4), .ref (a 7), .ref (a 11), .int wa, .ref (a 12), .ref (a 13)])), ((a 1), .inr (2, [.int 0, .ref (a 2), .ref (a 3)])), ((a 2), .inl (G.2.1, 31, .inl ov)), ((a 3), .inl (G.2.1, 31, .inl orr)), ((a 4), .inr (2, [.int 1, .ref (a 5), .ref (a 6)])), ((a 5), .inl (G.2.1, 31, .inl nv)), ((a 6), .inl (G.2.1, 31, .inl nr)), ((a 7), .inr (1, [.int ql, .ref (a 8), .ref (a 9), .ref (a 10)])), ((a 8), .inl (G.2.1, 8, .inl qk)), ((a 9), .inl (G.2.1, 8, .inl qv)), ((a 10), .inl (G.2.1, 8, .inl qr)), ((a 11), .inl (G.2.1, 31, .inl wr)), ((a 12), .inl (G.2.1, 3, .inl wc)), ((a 13), .inl (G.2.1, 3, .inl wk))] → va_S (va_A w0 s.heap.size) s.heap H locs → ∀ ls, lv_has ls 4 [(0, .ref (a 0)), (1, .int x1), (2, .int x2)] → gW p l e (headSpec wsX4_put rmX4_put).room s m args below meth c G w0 (some (.int u.1)) (tabW G a u.2.1 u.2.2.1 u.2.2.2.1 u.2.2.2.2.1 u.2.2.2.2.2.1 u.2.2.2.2.2.2.1 u.2.2.2.2.2.2.2.1 u.2.2.2.2.2.2.2.2.1 u.2.2.2.2.2.2.2.2.2.1 u.2.2.2.2.2.2.2.2.2.2.1 u.2.2.2.2.2.2.2.2.2.2.2.1 u.2.2.2.2.2.2.2.2.2.2.2.2.1 u.2.2.2.2.2.2.2.2.2.2.2.2.2.1 u.2.2.2.2.2.2.2.2.2.2.2.2.2.2.1 u.2.2.2.2.2.2.2.2.2.2.2.2.2.2.2.1 u.2.2.2.2.2.2.2.2.2.2.2.2.2.2.2.2) H locs 24 ls [.int t0] := by
  obtain ⟨hx, hb, hr, hts, hown, hlocks, hml, hK⟩ := id C0
  have hA : ∀ q : Nat, s.heap.size ≤ q → va_A w0 s.heap.size q := fun q h => Or.inr h
  intro x1 x2 t0 ph la po lo ov orr nv nr ql qk qv qr wr wa wc wk u hf H locs hP hD hS ls hl
  unfold fX4_put_b24 at hf
  refine lv_istore_n (lv' := [(3, .int t0), (0, .ref (a 0)), (1, .int x1), (2, .int x2)]) hx hb dX4_put_24 rfl hl (by decide) rfl (fun ls hl => ?_)
  refine lv_iload_n hx hb dX4_put_25 rfl (lv_at hl 0 rfl) ?_
  refine lv_if_ne (tgt := 38) hx hb dX4_put_26 (by decide) (fun c4 => ?_) (fun c4 => ?_)
  · have hf := g_ifF c4 hf
    refine lv_ldc (v := (-1000003 : Int32)) hx hb hown (hts _ tw_324) dX4_put_38 ?_
    cases hf
    exact g_iretC hx hb hr hlocks hP hD hS dX4_put_40
  · have hf := g_ifT c4 hf
    refine lv_aload_n hx hb dX4_put_29 rfl (lv_at hl 1 rfl) ?_
    refine va_get (D := G.1) (ci := 3) (v := .int la) (C := RX4) (T := TX4) (N := 11) hx hb hts hX4 hown hK.1 hP 0 rfl rfl 1 (by decide) (hts _ tw_128) (fun _ h9 => h9) rfl dX4_put_30 ?_
    refine lv_ldc (v := (100000 : Int32)) hx hb hown (hts _ tw_323) dX4_put_33 ?_
    refine lv_icmp_lt (tgt := 41) hx hb dX4_put_35 (by decide) (fun c5 => ?_) (fun c5 => ?_)
    · have hf := g_ifT c5 hf
      refine lv_aload_n hx hb dX4_put_41 rfl (lv_at hl 1 rfl) ?_
      refine lv_dup hx hb dX4_put_42 rfl ?_
      refine va_get (D := G.1) (ci := 3) (v := .int la) (C := RX4) (T := TX4) (N := 11) hx hb hts hX4 hown hK.1 hP 0 rfl rfl 1 (by decide) (hts _ tw_128) (fun _ h9 => h9) rfl dX4_put_43 ?_
      refine lv_iconst (v := (1 : Int32)) hx hb dX4_put_46 (by decide) ?_
      refine lv_iadd hx hb dX4_put_47 ?_
      refine va_put (D := G.1) (ci := 3) (v := .int (la + (1 : Int32))) (ty := .int) (C := RX4) (T := TX4) (N := 11) hx hb hts hX4 tyX4 tyX4_ok nmX4 hown hK.1 hP hD hS 0 rfl rfl 1 (by decide) (hts _ tw_128) (fun _ h9 => h9) rfl (by decide +kernel) rfl rfl (Nat.le_of_ble_eq_true rfl) dX4_put_48 (fun H locs hP hD hS => ?_)
      have hP : va_P G.1 vwCl [((a 0), .inr (3, [.int ph, .int (la + (1 : Int32)), .int po, .int lo, .ref (a 1), .ref (a 4), .ref (a 7), .ref (a 11), .int wa, .ref (a 12), .ref (a 13)])), ((a 1), .inr (2, [.int 0, .ref (a 2), .ref (a 3)])), ((a 2), .inl (G.2.1, 31, .inl ov)), ((a 3), .inl (G.2.1, 31, .inl orr)), ((a 4), .inr (2, [.int 1, .ref (a 5), .ref (a 6)])), ((a 5), .inl (G.2.1, 31, .inl nv)), ((a 6), .inl (G.2.1, 31, .inl nr)), ((a 7), .inr (1, [.int ql, .ref (a 8), .ref (a 9), .ref (a 10)])), ((a 8), .inl (G.2.1, 8, .inl qk)), ((a 9), .inl (G.2.1, 8, .inl qv)), ((a 10), .inl (G.2.1, 8, .inl qr)), ((a 11), .inl (G.2.1, 31, .inl wr)), ((a 12), .inl (G.2.1, 3, .inl wc)), ((a 13), .inl (G.2.1, 3, .inl wk))] H := hP
      have hD : va_D (va_A w0 s.heap.size) [((a 0), .inr (3, [.int ph, .int (la + (1 : Int32)), .int po, .int lo, .ref (a 1), .ref (a 4), .ref (a 7), .ref (a 11), .int wa, .ref (a 12), .ref (a 13)])), ((a 1), .inr (2, [.int 0, .ref (a 2), .ref (a 3)])), ((a 2), .inl (G.2.1, 31, .inl ov)), ((a 3), .inl (G.2.1, 31, .inl orr)), ((a 4), .inr (2, [.int 1, .ref (a 5), .ref (a 6)])), ((a 5), .inl (G.2.1, 31, .inl nv)), ((a 6), .inl (G.2.1, 31, .inl nr)), ((a 7), .inr (1, [.int ql, .ref (a 8), .ref (a 9), .ref (a 10)])), ((a 8), .inl (G.2.1, 8, .inl qk)), ((a 9), .inl (G.2.1, 8, .inl qv)), ((a 10), .inl (G.2.1, 8, .inl qr)), ((a 11), .inl (G.2.1, 31, .inl wr)), ((a 12), .inl (G.2.1, 3, .inl wc)), ((a 13), .inl (G.2.1, 3, .inl wk))] := hD
      refine lv_aload_n hx hb dX4_put_51 rfl (lv_at hl 1 rfl) ?_
      refine va_get (D := G.1) (ci := 3) (v := .ref (a 11)) (C := RX4) (T := TX4) (N := 11) hx hb hts hX4 hown hK.1 hP 0 rfl rfl 7 (by decide) (hts _ tw_140) (fun _ h9 => h9) rfl dX4_put_52 ?_
      refine lv_iload_n hx hb dX4_put_55 rfl (lv_at hl 2 rfl) ?_
      refine lv_aload_n hx hb dX4_put_56 rfl (lv_at hl 1 rfl) ?_
      refine va_get (D := G.1) (ci := 3) (v := .int (la + (1 : Int32))) (C := RX4) (T := TX4) (N := 11) hx hb hts hX4 hown hK.1 hP 0 rfl rfl 1 (by decide) (hts _ tw_128) (fun _ h9 => h9) rfl dX4_put_57 ?_
      obtain ⟨g6, hf⟩ := g_gdS hf
      refine va_iast hx hb hK.1 hP hD hS 11 0 rfl rfl (g_in_vp g6) dX4_put_60 (fun H locs hP hD hS => ?_)
      have hP : va_P G.1 vwCl [((a 0), .inr (3, [.int ph, .int (la + (1 : Int32)), .int po, .int lo, .ref (a 1), .ref (a 4), .ref (a 7), .ref (a 11), .int wa, .ref (a 12), .ref (a 13)])), ((a 1), .inr (2, [.int 0, .ref (a 2), .ref (a 3)])), ((a 2), .inl (G.2.1, 31, .inl ov)), ((a 3), .inl (G.2.1, 31, .inl orr)), ((a 4), .inr (2, [.int 1, .ref (a 5), .ref (a 6)])), ((a 5), .inl (G.2.1, 31, .inl nv)), ((a 6), .inl (G.2.1, 31, .inl nr)), ((a 7), .inr (1, [.int ql, .ref (a 8), .ref (a 9), .ref (a 10)])), ((a 8), .inl (G.2.1, 8, .inl qk)), ((a 9), .inl (G.2.1, 8, .inl qv)), ((a 10), .inl (G.2.1, 8, .inl qr)), ((a 11), .inl (G.2.1, 31, .inl (upd wr x1.toNatClampNeg (la + (1 : Int32))))), ((a 12), .inl (G.2.1, 3, .inl wc)), ((a 13), .inl (G.2.1, 3, .inl wk))] H := hP
      have hD : va_D (va_A w0 s.heap.size) [((a 0), .inr (3, [.int ph, .int (la + (1 : Int32)), .int po, .int lo, .ref (a 1), .ref (a 4), .ref (a 7), .ref (a 11), .int wa, .ref (a 12), .ref (a 13)])), ((a 1), .inr (2, [.int 0, .ref (a 2), .ref (a 3)])), ((a 2), .inl (G.2.1, 31, .inl ov)), ((a 3), .inl (G.2.1, 31, .inl orr)), ((a 4), .inr (2, [.int 1, .ref (a 5), .ref (a 6)])), ((a 5), .inl (G.2.1, 31, .inl nv)), ((a 6), .inl (G.2.1, 31, .inl nr)), ((a 7), .inr (1, [.int ql, .ref (a 8), .ref (a 9), .ref (a 10)])), ((a 8), .inl (G.2.1, 8, .inl qk)), ((a 9), .inl (G.2.1, 8, .inl qv)), ((a 10), .inl (G.2.1, 8, .inl qr)), ((a 11), .inl (G.2.1, 31, .inl (upd wr x1.toNatClampNeg (la + (1 : Int32))))), ((a 12), .inl (G.2.1, 3, .inl wc)), ((a 13), .inl (G.2.1, 3, .inl wk))] := hD
      refine lv_aload_n hx hb dX4_put_61 rfl (lv_at hl 1 rfl) ?_
      refine lv_aload_n hx hb dX4_put_62 rfl (lv_at hl 1 rfl) ?_
      obtain ⟨r7, e8, hf⟩ := g_bdS hf
      refine g_contR (st1 := [.int r7, .ref (a 0)]) (g_runVR (As := []) (rest := [.ref (a 0)]) ⟨hx, hb, hml, hown, hts⟩ (qX4_first l G a e8) (cwV 0 hts (TB_V TB_id tw_325 tw_326 tw_327 tw_50 tw_328) rfl rfl rfl (by decide +kernel) ⟨Nat.le_of_ble_eq_true rfl, Nat.le_of_ble_eq_true rfl⟩) hK (hP.sub [0, 1, 2, 3, 4, 5, 6, 7, 8, 9, 10, 11, 12, 13] rfl) 0 rfl rfl rfl hl.1 rfl (Nat.le_of_ble_eq_true rfl) dX4_put_63) rfl ?_
      obtain ⟨r9, e10, hf⟩ := g_bdS hf
      refine g_contR (st1 := [.ref (a r9)]) (g_runVR (As := [.int r7]) (rest := []) ⟨hx, hb, hml, hown, hts⟩ (qX4_shape l G a e10) (cwV 1 hts (TB_V TB_id tw_329 tw_330 tw_331 tw_50 tw_332) rfl rfl rfl (by decide +kernel) ⟨Nat.le_of_ble_eq_true rfl, Nat.le_of_ble_eq_true rfl⟩) hK (hP.sub [0, 1, 2, 3, 4, 5, 6, 7, 8, 9, 10, 11, 12, 13] rfl) 0 rfl rfl rfl hl.1 rfl (Nat.le_of_ble_eq_true rfl) dX4_put_66) rfl ?_
      by_cases c11 : r9 = 1
      · have hf := g_ifT c11 hf
        subst c11
        refine lv_iload_n hx hb dX4_put_69 rfl (lv_at hl 2 rfl) ?_
        refine lv_aload_n hx hb dX4_put_70 rfl (lv_at hl 1 rfl) ?_
        refine va_get (D := G.1) (ci := 3) (v := .int (la + (1 : Int32))) (C := RX4) (T := TX4) (N := 11) hx hb hts hX4 hown hK.1 hP 0 rfl rfl 1 (by decide) (hts _ tw_128) (fun _ h9 => h9) rfl dX4_put_71 ?_
        refine lv_iload_n hx hb dX4_put_74 rfl (lv_at hl 3 rfl) ?_
        obtain ⟨r12, e13, hf⟩ := g_bdS hf
        refine g_contC (st1 := []) (g_runVC (As := [.int x1, .int (la + (1 : Int32)), .int x2]) (rest := []) ⟨hx, hb, hml, hown, hts⟩ (qX3_take l G (a 1) (a 2) (a 3) e13) (cwV 3 hts (TB_V TB_id tw_333 tw_334 tw_335 tw_51 tw_336) rfl rfl rfl (by decide +kernel) ⟨Nat.le_of_ble_eq_true rfl, Nat.le_of_ble_eq_true rfl⟩) hK (hP.sub [1, 2, 3] rfl) (hD.sub [1, 2, 3] (by decide) rfl) 0 rfl rfl rfl hl.1 rfl (Nat.le_of_ble_eq_true rfl) dX4_put_75) rfl hP hD hS hA [1, 2, 3] rfl rfl (fun H locs hP hD hS => ?_)
        have hP : va_P G.1 vwCl [((a 0), .inr (3, [.int ph, .int (la + (1 : Int32)), .int po, .int lo, .ref (a 1), .ref (a 4), .ref (a 7), .ref (a 11), .int wa, .ref (a 12), .ref (a 13)])), ((a 1), .inr (2, [.int 0, .ref (a 2), .ref (a 3)])), ((a 2), .inl (G.2.1, 31, .inl r12.1)), ((a 3), .inl (G.2.1, 31, .inl r12.2)), ((a 4), .inr (2, [.int 1, .ref (a 5), .ref (a 6)])), ((a 5), .inl (G.2.1, 31, .inl nv)), ((a 6), .inl (G.2.1, 31, .inl nr)), ((a 7), .inr (1, [.int ql, .ref (a 8), .ref (a 9), .ref (a 10)])), ((a 8), .inl (G.2.1, 8, .inl qk)), ((a 9), .inl (G.2.1, 8, .inl qv)), ((a 10), .inl (G.2.1, 8, .inl qr)), ((a 11), .inl (G.2.1, 31, .inl (upd wr x1.toNatClampNeg (la + (1 : Int32))))), ((a 12), .inl (G.2.1, 3, .inl wc)), ((a 13), .inl (G.2.1, 3, .inl wk))] H := hP
        have hD : va_D (va_A w0 s.heap.size) [((a 0), .inr (3, [.int ph, .int (la + (1 : Int32)), .int po, .int lo, .ref (a 1), .ref (a 4), .ref (a 7), .ref (a 11), .int wa, .ref (a 12), .ref (a 13)])), ((a 1), .inr (2, [.int 0, .ref (a 2), .ref (a 3)])), ((a 2), .inl (G.2.1, 31, .inl r12.1)), ((a 3), .inl (G.2.1, 31, .inl r12.2)), ((a 4), .inr (2, [.int 1, .ref (a 5), .ref (a 6)])), ((a 5), .inl (G.2.1, 31, .inl nv)), ((a 6), .inl (G.2.1, 31, .inl nr)), ((a 7), .inr (1, [.int ql, .ref (a 8), .ref (a 9), .ref (a 10)])), ((a 8), .inl (G.2.1, 8, .inl qk)), ((a 9), .inl (G.2.1, 8, .inl qv)), ((a 10), .inl (G.2.1, 8, .inl qr)), ((a 11), .inl (G.2.1, 31, .inl (upd wr x1.toNatClampNeg (la + (1 : Int32))))), ((a 12), .inl (G.2.1, 3, .inl wc)), ((a 13), .inl (G.2.1, 3, .inl wk))] := hD
        refine lv_aload_n hx hb dX4_put_78 rfl (lv_at hl 1 rfl) ?_
        obtain ⟨r14, e15, hf⟩ := g_bdS hf
        refine g_contR (st1 := [.int r14]) (g_runVR (As := []) (rest := []) ⟨hx, hb, hml, hown, hts⟩ (qX4_hasBoth l G a e15) (cwV 0 hts (TB_V TB_id tw_281 tw_282 tw_283 tw_50 tw_284) rfl rfl rfl (by decide +kernel) ⟨Nat.le_of_ble_eq_true rfl, Nat.le_of_ble_eq_true rfl⟩) hK (hP.sub [0, 1, 2, 3, 4, 5, 6, 7, 8, 9, 10, 11, 12, 13] rfl) 0 rfl rfl rfl hl.1 rfl (Nat.le_of_ble_eq_true rfl) dX4_put_79) rfl ?_
        refine lv_if_eq (tgt := 98) hx hb dX4_put_82 (by decide) (fun c16 => ?_) (fun c16 => ?_)
        · have hf := g_ifT c16 hf
          refine lv_aload_n hx hb dX4_put_98 rfl (lv_at hl 1 rfl) ?_
          refine va_get (D := G.1) (ci := 3) (v := .int (la + (1 : Int32))) (C := RX4) (T := TX4) (N := 11) hx hb hts hX4 hown hK.1 hP 0 rfl rfl 1 (by decide) (hts _ tw_128) (fun _ h9 => h9) rfl dX4_put_99 ?_
          cases hf
          exact g_iretC hx hb hr hlocks hP hD hS dX4_put_102
        · have hf := g_ifF c16 hf
          refine lv_aload_n hx hb dX4_put_85 rfl (lv_at hl 1 rfl) ?_
          refine va_get (D := G.1) (ci := 3) (v := .ref (a 7)) (C := RX4) (T := TX4) (N := 11) hx hb hts hX4 hown hK.1 hP 0 rfl rfl 6 (by decide) (hts _ tw_138) (fun _ h9 => h9) rfl dX4_put_86 ?_
          refine lv_iload_n hx hb dX4_put_89 rfl (lv_at hl 2 rfl) ?_
          refine lv_aload_n hx hb dX4_put_90 rfl (lv_at hl 1 rfl) ?_
          refine va_get (D := G.1) (ci := 3) (v := .int (la + (1 : Int32))) (C := RX4) (T := TX4) (N := 11) hx hb hts hX4 hown hK.1 hP 0 rfl rfl 1 (by decide) (hts _ tw_128) (fun _ h9 => h9) rfl dX4_put_91 ?_
          refine lv_iload_n hx hb dX4_put_94 rfl (lv_at hl 3 rfl) ?_
          obtain ⟨r17, e18, hf⟩ := g_bdS hf
          refine g_contC (st1 := []) (g_runVC (As := [.int x1, .int (la + (1 : Int32)), .int x2]) (rest := []) ⟨hx, hb, hml, hown, hts⟩ (qX1_append l G (a 7) (a 8) (a 9) (a 10) e18) (cwV 3 hts (TB_V TB_id tw_338 tw_339 tw_340 tw_52 tw_341) rfl rfl rfl (by decide +kernel) ⟨Nat.le_of_ble_eq_true rfl, Nat.le_of_ble_eq_true rfl⟩) hK (hP.sub [7, 8, 9, 10] rfl) (hD.sub [7, 8, 9, 10] (by decide) rfl) 0 rfl rfl rfl hl.1 rfl (Nat.le_of_ble_eq_true rfl) dX4_put_95) rfl hP hD hS hA [7, 8, 9, 10] rfl rfl (fun H locs hP hD hS => ?_)
          have hP : va_P G.1 vwCl [((a 0), .inr (3, [.int ph, .int (la + (1 : Int32)), .int po, .int lo, .ref (a 1), .ref (a 4), .ref (a 7), .ref (a 11), .int wa, .ref (a 12), .ref (a 13)])), ((a 1), .inr (2, [.int 0, .ref (a 2), .ref (a 3)])), ((a 2), .inl (G.2.1, 31, .inl r12.1)), ((a 3), .inl (G.2.1, 31, .inl r12.2)), ((a 4), .inr (2, [.int 1, .ref (a 5), .ref (a 6)])), ((a 5), .inl (G.2.1, 31, .inl nv)), ((a 6), .inl (G.2.1, 31, .inl nr)), ((a 7), .inr (1, [.int r17.1, .ref (a 8), .ref (a 9), .ref (a 10)])), ((a 8), .inl (G.2.1, 8, .inl r17.2.1)), ((a 9), .inl (G.2.1, 8, .inl r17.2.2.1)), ((a 10), .inl (G.2.1, 8, .inl r17.2.2.2)), ((a 11), .inl (G.2.1, 31, .inl (upd wr x1.toNatClampNeg (la + (1 : Int32))))), ((a 12), .inl (G.2.1, 3, .inl wc)), ((a 13), .inl (G.2.1, 3, .inl wk))] H := hP
          have hD : va_D (va_A w0 s.heap.size) [((a 0), .inr (3, [.int ph, .int (la + (1 : Int32)), .int po, .int lo, .ref (a 1), .ref (a 4), .ref (a 7), .ref (a 11), .int wa, .ref (a 12), .ref (a 13)])), ((a 1), .inr (2, [.int 0, .ref (a 2), .ref (a 3)])), ((a 2), .inl (G.2.1, 31, .inl r12.1)), ((a 3), .inl (G.2.1, 31, .inl r12.2)), ((a 4), .inr (2, [.int 1, .ref (a 5), .ref (a 6)])), ((a 5), .inl (G.2.1, 31, .inl nv)), ((a 6), .inl (G.2.1, 31, .inl nr)), ((a 7), .inr (1, [.int r17.1, .ref (a 8), .ref (a 9), .ref (a 10)])), ((a 8), .inl (G.2.1, 8, .inl r17.2.1)), ((a 9), .inl (G.2.1, 8, .inl r17.2.2.1)), ((a 10), .inl (G.2.1, 8, .inl r17.2.2.2)), ((a 11), .inl (G.2.1, 31, .inl (upd wr x1.toNatClampNeg (la + (1 : Int32))))), ((a 12), .inl (G.2.1, 3, .inl wc)), ((a 13), .inl (G.2.1, 3, .inl wk))] := hD
          refine lv_aload_n hx hb dX4_put_98 rfl (lv_at hl 1 rfl) ?_
          refine va_get (D := G.1) (ci := 3) (v := .int (la + (1 : Int32))) (C := RX4) (T := TX4) (N := 11) hx hb hts hX4 hown hK.1 hP 0 rfl rfl 1 (by decide) (hts _ tw_128) (fun _ h9 => h9) rfl dX4_put_99 ?_
          cases hf
          exact g_iretC hx hb hr hlocks hP hD hS dX4_put_102
      have hf := g_ifF c11 hf
      by_cases c19 : r9 = 4
      · have hf := g_ifT c19 hf
        subst c19
        refine lv_iload_n hx hb dX4_put_69 rfl (lv_at hl 2 rfl) ?_
        refine lv_aload_n hx hb dX4_put_70 rfl (lv_at hl 1 rfl) ?_
        refine va_get (D := G.1) (ci := 3) (v := .int (la + (1 : Int32))) (C := RX4) (T := TX4) (N := 11) hx hb hts hX4 hown hK.1 hP 0 rfl rfl 1 (by decide) (hts _ tw_128) (fun _ h9 => h9) rfl dX4_put_71 ?_
        refine lv_iload_n hx hb dX4_put_74 rfl (lv_at hl 3 rfl) ?_
        obtain ⟨r20, e21, hf⟩ := g_bdS hf
        refine g_contC (st1 := []) (g_runVC (As := [.int x1, .int (la + (1 : Int32)), .int x2]) (rest := []) ⟨hx, hb, hml, hown, hts⟩ (qX3_take l G (a 4) (a 5) (a 6) e21) (cwV 3 hts (TB_V TB_id tw_333 tw_334 tw_335 tw_51 tw_336) rfl rfl rfl (by decide +kernel) ⟨Nat.le_of_ble_eq_true rfl, Nat.le_of_ble_eq_true rfl⟩) hK (hP.sub [4, 5, 6] rfl) (hD.sub [4, 5, 6] (by decide) rfl) 0 rfl rfl rfl hl.1 rfl (Nat.le_of_ble_eq_true rfl) dX4_put_75) rfl hP hD hS hA [4, 5, 6] rfl rfl (fun H locs hP hD hS => ?_)
        have hP : va_P G.1 vwCl [((a 0), .inr (3, [.int ph, .int (la + (1 : Int32)), .int po, .int lo, .ref (a 1), .ref (a 4), .ref (a 7), .ref (a 11), .int wa, .ref (a 12), .ref (a 13)])), ((a 1), .inr (2, [.int 0, .ref (a 2), .ref (a 3)])), ((a 2), .inl (G.2.1, 31, .inl ov)), ((a 3), .inl (G.2.1, 31, .inl orr)), ((a 4), .inr (2, [.int 1, .ref (a 5), .ref (a 6)])), ((a 5), .inl (G.2.1, 31, .inl r20.1)), ((a 6), .inl (G.2.1, 31, .inl r20.2)), ((a 7), .inr (1, [.int ql, .ref (a 8), .ref (a 9), .ref (a 10)])), ((a 8), .inl (G.2.1, 8, .inl qk)), ((a 9), .inl (G.2.1, 8, .inl qv)), ((a 10), .inl (G.2.1, 8, .inl qr)), ((a 11), .inl (G.2.1, 31, .inl (upd wr x1.toNatClampNeg (la + (1 : Int32))))), ((a 12), .inl (G.2.1, 3, .inl wc)), ((a 13), .inl (G.2.1, 3, .inl wk))] H := hP
        have hD : va_D (va_A w0 s.heap.size) [((a 0), .inr (3, [.int ph, .int (la + (1 : Int32)), .int po, .int lo, .ref (a 1), .ref (a 4), .ref (a 7), .ref (a 11), .int wa, .ref (a 12), .ref (a 13)])), ((a 1), .inr (2, [.int 0, .ref (a 2), .ref (a 3)])), ((a 2), .inl (G.2.1, 31, .inl ov)), ((a 3), .inl (G.2.1, 31, .inl orr)), ((a 4), .inr (2, [.int 1, .ref (a 5), .ref (a 6)])), ((a 5), .inl (G.2.1, 31, .inl r20.1)), ((a 6), .inl (G.2.1, 31, .inl r20.2)), ((a 7), .inr (1, [.int ql, .ref (a 8), .ref (a 9), .ref (a 10)])), ((a 8), .inl (G.2.1, 8, .inl qk)), ((a 9), .inl (G.2.1, 8, .inl qv)), ((a 10), .inl (G.2.1, 8, .inl qr)), ((a 11), .inl (G.2.1, 31, .inl (upd wr x1.toNatClampNeg (la + (1 : Int32))))), ((a 12), .inl (G.2.1, 3, .inl wc)), ((a 13), .inl (G.2.1, 3, .inl wk))] := hD
        refine lv_aload_n hx hb dX4_put_78 rfl (lv_at hl 1 rfl) ?_
        obtain ⟨r22, e23, hf⟩ := g_bdS hf
        refine g_contR (st1 := [.int r22]) (g_runVR (As := []) (rest := []) ⟨hx, hb, hml, hown, hts⟩ (qX4_hasBoth l G a e23) (cwV 0 hts (TB_V TB_id tw_281 tw_282 tw_283 tw_50 tw_284) rfl rfl rfl (by decide +kernel) ⟨Nat.le_of_ble_eq_true rfl, Nat.le_of_ble_eq_true rfl⟩) hK (hP.sub [0, 1, 2, 3, 4, 5, 6, 7, 8, 9, 10, 11, 12, 13] rfl) 0 rfl rfl rfl hl.1 rfl (Nat.le_of_ble_eq_true rfl) dX4_put_79) rfl ?_
        refine lv_if_eq (tgt := 98) hx hb dX4_put_82 (by decide) (fun c24 => ?_) (fun c24 => ?_)
        · have hf := g_ifT c24 hf
          refine lv_aload_n hx hb dX4_put_98 rfl (lv_at hl 1 rfl) ?_
          refine va_get (D := G.1) (ci := 3) (v := .int (la + (1 : Int32))) (C := RX4) (T := TX4) (N := 11) hx hb hts hX4 hown hK.1 hP 0 rfl rfl 1 (by decide) (hts _ tw_128) (fun _ h9 => h9) rfl dX4_put_99 ?_
          cases hf
          exact g_iretC hx hb hr hlocks hP hD hS dX4_put_102
        · have hf := g_ifF c24 hf
          refine lv_aload_n hx hb dX4_put_85 rfl (lv_at hl 1 rfl) ?_
          refine va_get (D := G.1) (ci := 3) (v := .ref (a 7)) (C := RX4) (T := TX4) (N := 11) hx hb hts hX4 hown hK.1 hP 0 rfl rfl 6 (by decide) (hts _ tw_138) (fun _ h9 => h9) rfl dX4_put_86 ?_
          refine lv_iload_n hx hb dX4_put_89 rfl (lv_at hl 2 rfl) ?_
          refine lv_aload_n hx hb dX4_put_90 rfl (lv_at hl 1 rfl) ?_
          refine va_get (D := G.1) (ci := 3) (v := .int (la + (1 : Int32))) (C := RX4) (T := TX4) (N := 11) hx hb hts hX4 hown hK.1 hP 0 rfl rfl 1 (by decide) (hts _ tw_128) (fun _ h9 => h9) rfl dX4_put_91 ?_
          refine lv_iload_n hx hb dX4_put_94 rfl (lv_at hl 3 rfl) ?_
          obtain ⟨r25, e26, hf⟩ := g_bdS hf
          refine g_contC (st1 := []) (g_runVC (As := [.int x1, .int (la + (1 : Int32)), .int x2]) (rest := []) ⟨hx, hb, hml, hown, hts⟩ (qX1_append l G (a 7) (a 8) (a 9) (a 10) e26) (cwV 3 hts (TB_V TB_id tw_338 tw_339 tw_340 tw_52 tw_341) rfl rfl rfl (by decide +kernel) ⟨Nat.le_of_ble_eq_true rfl, Nat.le_of_ble_eq_true rfl⟩) hK (hP.sub [7, 8, 9, 10] rfl) (hD.sub [7, 8, 9, 10] (by decide) rfl) 0 rfl rfl rfl hl.1 rfl (Nat.le_of_ble_eq_true rfl) dX4_put_95) rfl hP hD hS hA [7, 8, 9, 10] rfl rfl (fun H locs hP hD hS => ?_)
          have hP : va_P G.1 vwCl [((a 0), .inr (3, [.int ph, .int (la + (1 : Int32)), .int po, .int lo, .ref (a 1), .ref (a 4), .ref (a 7), .ref (a 11), .int wa, .ref (a 12), .ref (a 13)])), ((a 1), .inr (2, [.int 0, .ref (a 2), .ref (a 3)])), ((a 2), .inl (G.2.1, 31, .inl ov)), ((a 3), .inl (G.2.1, 31, .inl orr)), ((a 4), .inr (2, [.int 1, .ref (a 5), .ref (a 6)])), ((a 5), .inl (G.2.1, 31, .inl r20.1)), ((a 6), .inl (G.2.1, 31, .inl r20.2)), ((a 7), .inr (1, [.int r25.1, .ref (a 8), .ref (a 9), .ref (a 10)])), ((a 8), .inl (G.2.1, 8, .inl r25.2.1)), ((a 9), .inl (G.2.1, 8, .inl r25.2.2.1)), ((a 10), .inl (G.2.1, 8, .inl r25.2.2.2)), ((a 11), .inl (G.2.1, 31, .inl (upd wr x1.toNatClampNeg (la + (1 : Int32))))), ((a 12), .inl (G.2.1, 3, .inl wc)), ((a 13), .inl (G.2.1, 3, .inl wk))] H := hP
          have hD : va_D (va_A w0 s.heap.size) [((a 0), .inr (3, [.int ph, .int (la + (1 : Int32)), .int po, .int lo, .ref (a 1), .ref (a 4), .ref (a 7), .ref (a 11), .int wa, .ref (a 12), .ref (a 13)])), ((a 1), .inr (2, [.int 0, .ref (a 2), .ref (a 3)])), ((a 2), .inl (G.2.1, 31, .inl ov)), ((a 3), .inl (G.2.1, 31, .inl orr)), ((a 4), .inr (2, [.int 1, .ref (a 5), .ref (a 6)])), ((a 5), .inl (G.2.1, 31, .inl r20.1)), ((a 6), .inl (G.2.1, 31, .inl r20.2)), ((a 7), .inr (1, [.int r25.1, .ref (a 8), .ref (a 9), .ref (a 10)])), ((a 8), .inl (G.2.1, 8, .inl r25.2.1)), ((a 9), .inl (G.2.1, 8, .inl r25.2.2.1)), ((a 10), .inl (G.2.1, 8, .inl r25.2.2.2)), ((a 11), .inl (G.2.1, 31, .inl (upd wr x1.toNatClampNeg (la + (1 : Int32))))), ((a 12), .inl (G.2.1, 3, .inl wc)), ((a 13), .inl (G.2.1, 3, .inl wk))] := hD
          refine lv_aload_n hx hb dX4_put_98 rfl (lv_at hl 1 rfl) ?_
          refine va_get (D := G.1) (ci := 3) (v := .int (la + (1 : Int32))) (C := RX4) (T := TX4) (N := 11) hx hb hts hX4 hown hK.1 hP 0 rfl rfl 1 (by decide) (hts _ tw_128) (fun _ h9 => h9) rfl dX4_put_99 ?_
          cases hf
          exact g_iretC hx hb hr hlocks hP hD hS dX4_put_102
      have hf := g_ifF c19 hf
      cases hf
    · have hf := g_ifF c5 hf
      refine lv_ldc (v := (-1000003 : Int32)) hx hb hown (hts _ tw_324) dX4_put_38 ?_
      cases hf
      exact g_iretC hx hb hr hlocks hP hD hS dX4_put_40
def fX4_put_b23 (x1 : Int32) (x2 : Int32) (ph : Int32) (la : Int32) (po : Int32) (lo : Int32) (ov : Nat → Int32) (orr : Nat → Int32) (nv : Nat → Int32) (nr : Nat → Int32) (ql : Int32) (qk : Nat → Int32) (qv : Nat → Int32) (qr : Nat → Int32) (wr : Nat → Int32) (wa : Int32) (wc : Nat → Int32) (wk : Nat → Int32) : Option (Int32 × Int32 × Int32 × Int32 × Int32 × (Nat → Int32) × (Nat → Int32) × (Nat → Int32) × (Nat → Int32) × Int32 × (Nat → Int32) × (Nat → Int32) × (Nat → Int32) × (Nat → Int32) × Int32 × (Nat → Int32) × (Nat → Int32)) := fX4_put_b24 x1 x2 (0 : Int32) ph la po lo ov orr nv nr ql qk qv qr wr wa wc wk
set_option maxHeartbeats 4000000 in
set_option maxRecDepth 100000 in
theorem kX4_put_b23 {p : Program} {l : Launch} {e : Env} {s : State} {m : MethodId} {args : Array Value} {below : List Frame} {meth : Method} {c : Code} {G : gT} {a : Nat → Nat} {w0 : va_W} (C0 : gX p s m args meth c cX4_put 4 (some .int) RX4 G) :
    ∀ (x1 : Int32) (x2 : Int32) (ph : Int32) (la : Int32) (po : Int32) (lo : Int32) (ov : Nat → Int32) (orr : Nat → Int32) (nv : Nat → Int32) (nr : Nat → Int32) (ql : Int32) (qk : Nat → Int32) (qv : Nat → Int32) (qr : Nat → Int32) (wr : Nat → Int32) (wa : Int32) (wc : Nat → Int32) (wk : Nat → Int32) (u : Int32 × Int32 × Int32 × Int32 × Int32 × (Nat → Int32) × (Nat → Int32) × (Nat → Int32) × (Nat → Int32) × Int32 × (Nat → Int32) × (Nat → Int32) × (Nat → Int32) × (Nat → Int32) × Int32 × (Nat → Int32) × (Nat → Int32)), fX4_put_b23 x1 x2 ph la po lo ov orr nv nr ql qk qv qr wr wa wc wk = some u → ∀ (H : Heap) (locs : List Loc), va_P G.1 vwCl [((a 0), .inr (3, [.int ph, .int la, .int po, .int lo, .ref (a 1), .ref (a 4), .ref (a 7), .ref (a 11), .int wa, .ref (a 12), .ref (a 13)])), ((a 1), .inr (2, [.int 0, .ref (a 2), .ref (a 3)])), ((a 2), .inl (G.2.1, 31, .inl ov)), ((a 3), .inl (G.2.1, 31, .inl orr)), ((a 4), .inr (2, [.int 1, .ref (a 5), .ref (a 6)])), ((a 5), .inl (G.2.1, 31, .inl nv)), ((a 6), .inl (G.2.1, 31, .inl nr)), ((a 7), .inr (1, [.int ql, .ref (a 8), .ref (a 9), .ref (a 10)])), ((a 8), .inl (G.2.1, 8, .inl qk)), ((a 9), .inl (G.2.1, 8, .inl qv)), ((a 10), .inl (G.2.1, 8, .inl qr)), ((a 11), .inl (G.2.1, 31, .inl wr)), ((a 12), .inl (G.2.1, 3, .inl wc)), ((a 13), .inl (G.2.1, 3, .inl wk))] H → va_D (va_A w0 s.heap.size) [((a 0), .inr (3, [.int ph, .int la, .int po, .int lo, .ref (a 1), .ref (a 4), .ref (a 7), .ref (a 11), .int wa, .ref (a 12), .ref (a 13)])), ((a 1), .inr (2, [.int 0, .ref (a 2), .ref (a 3)])), ((a 2), .inl (G.2.1, 31, .inl ov)), ((a 3), .inl (G.2.1, 31, .inl orr)), ((a 4), .inr (2, [.int 1, .ref (a 5), .ref (a 6)])), ((a 5), .inl (G.2.1, 31, .inl nv)), ((a 6), .inl (G.2.1, 31, .inl nr)), ((a 7), .inr (1, [.int ql, .ref (a 8), .ref (a 9), .ref (a 10)])), ((a 8), .inl (G.2.1, 8, .inl qk)), ((a 9), .inl (G.2.1, 8, .inl qv)), ((a 10), .inl (G.2.1, 8, .inl qr)), ((a 11), .inl (G.2.1, 31, .inl wr)), ((a 12), .inl (G.2.1, 3, .inl wc)), ((a 13), .inl (G.2.1, 3, .inl wk))] → va_S (va_A w0 s.heap.size) s.heap H locs → ∀ ls, lv_has ls 4 [(0, .ref (a 0)), (1, .int x1), (2, .int x2)] → gW p l e (headSpec wsX4_put rmX4_put).room s m args below meth c G w0 (some (.int u.1)) (tabW G a u.2.1 u.2.2.1 u.2.2.2.1 u.2.2.2.2.1 u.2.2.2.2.2.1 u.2.2.2.2.2.2.1 u.2.2.2.2.2.2.2.1 u.2.2.2.2.2.2.2.2.1 u.2.2.2.2.2.2.2.2.2.1 u.2.2.2.2.2.2.2.2.2.2.1 u.2.2.2.2.2.2.2.2.2.2.2.1 u.2.2.2.2.2.2.2.2.2.2.2.2.1 u.2.2.2.2.2.2.2.2.2.2.2.2.2.1 u.2.2.2.2.2.2.2.2.2.2.2.2.2.2.1 u.2.2.2.2.2.2.2.2.2.2.2.2.2.2.2.1 u.2.2.2.2.2.2.2.2.2.2.2.2.2.2.2.2) H locs 23 ls [] := by
  obtain ⟨hx, hb, hr, hts, hown, hlocks, hml, hK⟩ := id C0
  have hA : ∀ q : Nat, s.heap.size ≤ q → va_A w0 s.heap.size q := fun q h => Or.inr h
  intro x1 x2 ph la po lo ov orr nv nr ql qk qv qr wr wa wc wk u hf H locs hP hD hS ls hl
  unfold fX4_put_b23 at hf
  refine lv_iconst (v := (0 : Int32)) hx hb dX4_put_23 (by decide) ?_
  exact kX4_put_b24 C0 _ _ _ _ _ _ _ _ _ _ _ _ _ _ _ _ _ _ _ _ hf _ _ hP hD hS ls (lv_sub hl [0, 1, 2] rfl)
def fX4_put (p0 : Int32) (p1 : Int32) (ph : Int32) (la : Int32) (po : Int32) (lo : Int32) (ov : Nat → Int32) (orr : Nat → Int32) (nv : Nat → Int32) (nr : Nat → Int32) (ql : Int32) (qk : Nat → Int32) (qv : Nat → Int32) (qr : Nat → Int32) (wr : Nat → Int32) (wa : Int32) (wc : Nat → Int32) (wk : Nat → Int32) : Option (Int32 × Int32 × Int32 × Int32 × Int32 × (Nat → Int32) × (Nat → Int32) × (Nat → Int32) × (Nat → Int32) × Int32 × (Nat → Int32) × (Nat → Int32) × (Nat → Int32) × (Nat → Int32) × Int32 × (Nat → Int32) × (Nat → Int32)) := ((fX4_hasBoth ph la po lo ov orr nv nr ql qk qv qr wr wa wc wk).bind fun r1 => (if r1 = (0 : Int32) then fX4_put_b23 p0 p1 ph la po lo ov orr nv nr ql qk qv qr wr wa wc wk else (if ql < (8 : Int32) then fX4_put_b23 p0 p1 ph la po lo ov orr nv nr ql qk qv qr wr wa wc wk else fX4_put_b24 p0 p1 (1 : Int32) ph la po lo ov orr nv nr ql qk qv qr wr wa wc wk)))
set_option maxHeartbeats 4000000 in
set_option maxRecDepth 100000 in
theorem qX4_put (l : Launch) (G : gT) (a : Nat → Nat) {p0 : Int32} {p1 : Int32} {ph : Int32} {la : Int32} {po : Int32} {lo : Int32} {ov : Nat → Int32} {orr : Nat → Int32} {nv : Nat → Int32} {nr : Nat → Int32} {ql : Int32} {qk : Nat → Int32} {qv : Nat → Int32} {qr : Nat → Int32} {wr : Nat → Int32} {wa : Int32} {wc : Nat → Int32} {wk : Nat → Int32} {u : Int32 × Int32 × Int32 × Int32 × Int32 × (Nat → Int32) × (Nat → Int32) × (Nat → Int32) × (Nat → Int32) × Int32 × (Nat → Int32) × (Nat → Int32) × (Nat → Int32) × (Nat → Int32) × Int32 × (Nat → Int32) × (Nat → Int32)} (hf : fX4_put p0 p1 ph la po lo ov orr nv nr ql qk qv qr wr wa wc wk = some u) : gC l G yX4_put wsX4_put rmX4_put [.ref (a 0), .int p0, .int p1] (tabW G a ph la po lo ov orr nv nr ql qk qv qr wr wa wc wk) (some (.int u.1)) (tabW G a u.2.1 u.2.2.1 u.2.2.2.1 u.2.2.2.2.1 u.2.2.2.2.2.1 u.2.2.2.2.2.2.1 u.2.2.2.2.2.2.2.1 u.2.2.2.2.2.2.2.2.1 u.2.2.2.2.2.2.2.2.2.1 u.2.2.2.2.2.2.2.2.2.2.1 u.2.2.2.2.2.2.2.2.2.2.2.1 u.2.2.2.2.2.2.2.2.2.2.2.2.1 u.2.2.2.2.2.2.2.2.2.2.2.2.2.1 u.2.2.2.2.2.2.2.2.2.2.2.2.2.2.1 u.2.2.2.2.2.2.2.2.2.2.2.2.2.2.2.1 u.2.2.2.2.2.2.2.2.2.2.2.2.2.2.2.2) := by
  refine gC.of (cc := cX4_put) (maxL := 4) (ret := (some .int)) (by decide) rfl (Nat.le_of_ble_eq_true rfl) ?_
  intro p e s m below meth c C0 hP hD hS ls hl
  obtain ⟨hx, hb, hr, hts, hown, hlocks, hml, hK⟩ := id C0
  have hl : lv_has ls 4 [(0, .ref (a 0)), (1, .int p0), (2, .int p1)] := hl
  have hA : ∀ q : Nat, s.heap.size ≤ q → va_A (tabW G a ph la po lo ov orr nv nr ql qk qv qr wr wa wc wk) s.heap.size q := fun q h => Or.inr h
  have hP : va_P G.1 vwCl [((a 0), .inr (3, [.int ph, .int la, .int po, .int lo, .ref (a 1), .ref (a 4), .ref (a 7), .ref (a 11), .int wa, .ref (a 12), .ref (a 13)])), ((a 1), .inr (2, [.int 0, .ref (a 2), .ref (a 3)])), ((a 2), .inl (G.2.1, 31, .inl ov)), ((a 3), .inl (G.2.1, 31, .inl orr)), ((a 4), .inr (2, [.int 1, .ref (a 5), .ref (a 6)])), ((a 5), .inl (G.2.1, 31, .inl nv)), ((a 6), .inl (G.2.1, 31, .inl nr)), ((a 7), .inr (1, [.int ql, .ref (a 8), .ref (a 9), .ref (a 10)])), ((a 8), .inl (G.2.1, 8, .inl qk)), ((a 9), .inl (G.2.1, 8, .inl qv)), ((a 10), .inl (G.2.1, 8, .inl qr)), ((a 11), .inl (G.2.1, 31, .inl wr)), ((a 12), .inl (G.2.1, 3, .inl wc)), ((a 13), .inl (G.2.1, 3, .inl wk))] s.heap := hP
  have hD : va_D (va_A (tabW G a ph la po lo ov orr nv nr ql qk qv qr wr wa wc wk) s.heap.size) [((a 0), .inr (3, [.int ph, .int la, .int po, .int lo, .ref (a 1), .ref (a 4), .ref (a 7), .ref (a 11), .int wa, .ref (a 12), .ref (a 13)])), ((a 1), .inr (2, [.int 0, .ref (a 2), .ref (a 3)])), ((a 2), .inl (G.2.1, 31, .inl ov)), ((a 3), .inl (G.2.1, 31, .inl orr)), ((a 4), .inr (2, [.int 1, .ref (a 5), .ref (a 6)])), ((a 5), .inl (G.2.1, 31, .inl nv)), ((a 6), .inl (G.2.1, 31, .inl nr)), ((a 7), .inr (1, [.int ql, .ref (a 8), .ref (a 9), .ref (a 10)])), ((a 8), .inl (G.2.1, 8, .inl qk)), ((a 9), .inl (G.2.1, 8, .inl qv)), ((a 10), .inl (G.2.1, 8, .inl qr)), ((a 11), .inl (G.2.1, 31, .inl wr)), ((a 12), .inl (G.2.1, 3, .inl wc)), ((a 13), .inl (G.2.1, 3, .inl wk))] := hD
  unfold fX4_put at hf
  refine lv_aload_n hx hb dX4_put_0 rfl (lv_at hl 0 rfl) ?_
  obtain ⟨r1, e2, hf⟩ := g_bdS hf
  refine g_contR (st1 := [.int r1]) (g_runVR (As := []) (rest := []) ⟨hx, hb, hml, hown, hts⟩ (qX4_hasBoth l G a e2) (cwV 0 hts (TB_V TB_id tw_281 tw_282 tw_283 tw_50 tw_284) rfl rfl rfl (by decide +kernel) ⟨Nat.le_of_ble_eq_true rfl, Nat.le_of_ble_eq_true rfl⟩) hK (hP.sub [0, 1, 2, 3, 4, 5, 6, 7, 8, 9, 10, 11, 12, 13] rfl) 0 rfl rfl rfl hl.1 rfl (Nat.le_of_ble_eq_true rfl) dX4_put_1) rfl ?_
  refine lv_if_eq (tgt := 23) hx hb dX4_put_4 (by decide) (fun c3 => ?_) (fun c3 => ?_)
  · have hf := g_ifT c3 hf
    exact kX4_put_b23 C0 _ _ _ _ _ _ _ _ _ _ _ _ _ _ _ _ _ _ _ hf _ _ hP hD hS ls (lv_sub hl [0, 1, 2] rfl)
  · have hf := g_ifF c3 hf
    refine lv_aload_n hx hb dX4_put_7 rfl (lv_at hl 0 rfl) ?_
    refine va_get (D := G.1) (ci := 3) (v := .ref (a 7)) (C := RX4) (T := TX4) (N := 11) hx hb hts hX4 hown hK.1 hP 0 rfl rfl 6 (by decide) (hts _ tw_138) (fun _ h9 => h9) rfl dX4_put_8 ?_
    refine va_get (D := G.1) (ci := 1) (v := .int ql) (C := RX1) (T := TX1) (N := 4) hx hb hts hX1 hown hK.1 hP 7 rfl rfl 0 (by decide) (hts _ tw_106) (fun _ h9 => h9) rfl dX4_put_11 ?_
    refine lv_bipush (v := (8 : Int32)) hx hb dX4_put_14 (by decide) ?_
    refine lv_icmp_lt (tgt := 23) hx hb dX4_put_16 (by decide) (fun c27 => ?_) (fun c27 => ?_)
    · have hf := g_ifT c27 hf
      exact kX4_put_b23 C0 _ _ _ _ _ _ _ _ _ _ _ _ _ _ _ _ _ _ _ hf _ _ hP hD hS ls (lv_sub hl [0, 1, 2] rfl)
    · have hf := g_ifF c27 hf
      refine lv_iconst (v := (1 : Int32)) hx hb dX4_put_19 (by decide) ?_
      refine lv_goto (tgt := 24) hx hb dX4_put_20 (by decide) ?_
      exact kX4_put_b24 C0 _ _ _ _ _ _ _ _ _ _ _ _ _ _ _ _ _ _ _ _ hf _ _ hP hD hS ls (lv_sub hl [0, 1, 2] rfl)
-- TwoShapes$Table.putOld(IIII)I
abbrev rmX4_putOld : Room := { frames := 3, cells := 0, slots := 0, locals := 68 }
def fX4_putOld (p0 : Int32) (p1 : Int32) (p2 : Int32) (p3 : Int32) (ph : Int32) (la : Int32) (po : Int32) (lo : Int32) (ov : Nat → Int32) (orr : Nat → Int32) (nv : Nat → Int32) (nr : Nat → Int32) (ql : Int32) (qk : Nat → Int32) (qv : Nat → Int32) (qr : Nat → Int32) (wr : Nat → Int32) (wa : Int32) (wc : Nat → Int32) (wk : Nat → Int32) : Option (Int32 × Int32 × Int32 × Int32 × Int32 × (Nat → Int32) × (Nat → Int32) × (Nat → Int32) × (Nat → Int32) × Int32 × (Nat → Int32) × (Nat → Int32) × (Nat → Int32) × (Nat → Int32) × Int32 × (Nat → Int32) × (Nat → Int32)) := ((fX5_isBelow p0 (31 : Int32)).bind fun r1 => (if r1 = (0 : Int32) then some ((-1000001 : Int32), ph, la, po, lo, ov, orr, nv, nr, ql, qk, qv, qr, wr, wa, wc, wk) else ((fX5_isBelow p1 (100 : Int32)).bind fun r4 => (if r4 = (0 : Int32) then some ((-1000001 : Int32), ph, la, po, lo, ov, orr, nv, nr, ql, qk, qv, qr, wr, wa, wc, wk) else ((fX5_isBelow p2 (10 : Int32)).bind fun r7 => (if r7 = (0 : Int32) then some ((-1000001 : Int32), ph, la, po, lo, ov, orr, nv, nr, ql, qk, qv, qr, wr, wa, wc, wk) else ((fX5_isBelow p3 (2 : Int32)).bind fun r10 => (if r10 = (0 : Int32) then some ((-1000001 : Int32), ph, la, po, lo, ov, orr, nv, nr, ql, qk, qv, qr, wr, wa, wc, wk) else ((fX2_ofOld p1 p2 p3).bind fun r13 => ((fX4_put p0 r13 ph la po lo ov orr nv nr ql qk qv qr wr wa wc wk).bind fun r15 => some (r15.1, r15.2.1, r15.2.2.1, r15.2.2.2.1, r15.2.2.2.2.1, r15.2.2.2.2.2.1, r15.2.2.2.2.2.2.1, r15.2.2.2.2.2.2.2.1, r15.2.2.2.2.2.2.2.2.1, r15.2.2.2.2.2.2.2.2.2.1, r15.2.2.2.2.2.2.2.2.2.2.1, r15.2.2.2.2.2.2.2.2.2.2.2.1, r15.2.2.2.2.2.2.2.2.2.2.2.2.1, r15.2.2.2.2.2.2.2.2.2.2.2.2.2.1, r15.2.2.2.2.2.2.2.2.2.2.2.2.2.2.1, r15.2.2.2.2.2.2.2.2.2.2.2.2.2.2.2.1, r15.2.2.2.2.2.2.2.2.2.2.2.2.2.2.2.2)))))))))))
set_option maxHeartbeats 4000000 in
set_option maxRecDepth 100000 in
theorem qX4_putOld (l : Launch) (G : gT) (a : Nat → Nat) {p0 : Int32} {p1 : Int32} {p2 : Int32} {p3 : Int32} {ph : Int32} {la : Int32} {po : Int32} {lo : Int32} {ov : Nat → Int32} {orr : Nat → Int32} {nv : Nat → Int32} {nr : Nat → Int32} {ql : Int32} {qk : Nat → Int32} {qv : Nat → Int32} {qr : Nat → Int32} {wr : Nat → Int32} {wa : Int32} {wc : Nat → Int32} {wk : Nat → Int32} {u : Int32 × Int32 × Int32 × Int32 × Int32 × (Nat → Int32) × (Nat → Int32) × (Nat → Int32) × (Nat → Int32) × Int32 × (Nat → Int32) × (Nat → Int32) × (Nat → Int32) × (Nat → Int32) × Int32 × (Nat → Int32) × (Nat → Int32)} (hf : fX4_putOld p0 p1 p2 p3 ph la po lo ov orr nv nr ql qk qv qr wr wa wc wk = some u) : gC l G yX4_putOld wsX4_putOld rmX4_putOld [.ref (a 0), .int p0, .int p1, .int p2, .int p3] (tabW G a ph la po lo ov orr nv nr ql qk qv qr wr wa wc wk) (some (.int u.1)) (tabW G a u.2.1 u.2.2.1 u.2.2.2.1 u.2.2.2.2.1 u.2.2.2.2.2.1 u.2.2.2.2.2.2.1 u.2.2.2.2.2.2.2.1 u.2.2.2.2.2.2.2.2.1 u.2.2.2.2.2.2.2.2.2.1 u.2.2.2.2.2.2.2.2.2.2.1 u.2.2.2.2.2.2.2.2.2.2.2.1 u.2.2.2.2.2.2.2.2.2.2.2.2.1 u.2.2.2.2.2.2.2.2.2.2.2.2.2.1 u.2.2.2.2.2.2.2.2.2.2.2.2.2.2.1 u.2.2.2.2.2.2.2.2.2.2.2.2.2.2.2.1 u.2.2.2.2.2.2.2.2.2.2.2.2.2.2.2.2) := by
  refine gC.of (cc := cX4_putOld) (maxL := 5) (ret := (some .int)) (by decide) rfl (Nat.le_of_ble_eq_true rfl) ?_
  intro p e s m below meth c C0 hP hD hS ls hl
  obtain ⟨hx, hb, hr, hts, hown, hlocks, hml, hK⟩ := id C0
  have hl : lv_has ls 5 [(0, .ref (a 0)), (1, .int p0), (2, .int p1), (3, .int p2), (4, .int p3)] := hl
  have hA : ∀ q : Nat, s.heap.size ≤ q → va_A (tabW G a ph la po lo ov orr nv nr ql qk qv qr wr wa wc wk) s.heap.size q := fun q h => Or.inr h
  have hP : va_P G.1 vwCl [((a 0), .inr (3, [.int ph, .int la, .int po, .int lo, .ref (a 1), .ref (a 4), .ref (a 7), .ref (a 11), .int wa, .ref (a 12), .ref (a 13)])), ((a 1), .inr (2, [.int 0, .ref (a 2), .ref (a 3)])), ((a 2), .inl (G.2.1, 31, .inl ov)), ((a 3), .inl (G.2.1, 31, .inl orr)), ((a 4), .inr (2, [.int 1, .ref (a 5), .ref (a 6)])), ((a 5), .inl (G.2.1, 31, .inl nv)), ((a 6), .inl (G.2.1, 31, .inl nr)), ((a 7), .inr (1, [.int ql, .ref (a 8), .ref (a 9), .ref (a 10)])), ((a 8), .inl (G.2.1, 8, .inl qk)), ((a 9), .inl (G.2.1, 8, .inl qv)), ((a 10), .inl (G.2.1, 8, .inl qr)), ((a 11), .inl (G.2.1, 31, .inl wr)), ((a 12), .inl (G.2.1, 3, .inl wc)), ((a 13), .inl (G.2.1, 3, .inl wk))] s.heap := hP
  have hD : va_D (va_A (tabW G a ph la po lo ov orr nv nr ql qk qv qr wr wa wc wk) s.heap.size) [((a 0), .inr (3, [.int ph, .int la, .int po, .int lo, .ref (a 1), .ref (a 4), .ref (a 7), .ref (a 11), .int wa, .ref (a 12), .ref (a 13)])), ((a 1), .inr (2, [.int 0, .ref (a 2), .ref (a 3)])), ((a 2), .inl (G.2.1, 31, .inl ov)), ((a 3), .inl (G.2.1, 31, .inl orr)), ((a 4), .inr (2, [.int 1, .ref (a 5), .ref (a 6)])), ((a 5), .inl (G.2.1, 31, .inl nv)), ((a 6), .inl (G.2.1, 31, .inl nr)), ((a 7), .inr (1, [.int ql, .ref (a 8), .ref (a 9), .ref (a 10)])), ((a 8), .inl (G.2.1, 8, .inl qk)), ((a 9), .inl (G.2.1, 8, .inl qv)), ((a 10), .inl (G.2.1, 8, .inl qr)), ((a 11), .inl (G.2.1, 31, .inl wr)), ((a 12), .inl (G.2.1, 3, .inl wc)), ((a 13), .inl (G.2.1, 3, .inl wk))] := hD
  unfold fX4_putOld at hf
  refine lv_iload_n hx hb dX4_putOld_0 rfl (lv_at hl 1 rfl) ?_
  refine lv_bipush (v := (31 : Int32)) hx hb dX4_putOld_1 (by decide) ?_
  obtain ⟨r1, e2, hf⟩ := g_bdS hf
  refine g_contR (st1 := [.int r1]) (g_runSNR (As := [.int p0, .int (31 : Int32)]) (rest := []) ⟨hx, hb, hml, hown, hts⟩ (qX5_isBelow l G e2) ⟨va_cnB 2 hts (TB_C TB_id tw_311) rfl rfl rfl hK.2.1 (hts _ tw_49) (by decide +kernel) ⟨Nat.le_of_ble_eq_true rfl, Nat.le_of_ble_eq_true rfl⟩, hts _ tw_310, trivial⟩ hK (hP.sub [] rfl) rfl hl.1 rfl (Nat.le_of_ble_eq_true rfl) dX4_putOld_3) rfl ?_
  refine lv_if_eq (tgt := 36) hx hb dX4_putOld_6 (by decide) (fun c3 => ?_) (fun c3 => ?_)
  · have hf := g_ifT c3 hf
    refine lv_ldc (v := (-1000001 : Int32)) hx hb hown (hts _ tw_312) dX4_putOld_36 ?_
    cases hf
    exact g_iretC hx hb hr hlocks hP hD hS dX4_putOld_38
  · have hf := g_ifF c3 hf
    refine lv_iload_n hx hb dX4_putOld_9 rfl (lv_at hl 2 rfl) ?_
    refine lv_bipush (v := (100 : Int32)) hx hb dX4_putOld_10 (by decide) ?_
    obtain ⟨r4, e5, hf⟩ := g_bdS hf
    refine g_contR (st1 := [.int r4]) (g_runSNR (As := [.int p1, .int (100 : Int32)]) (rest := []) ⟨hx, hb, hml, hown, hts⟩ (qX5_isBelow l G e5) ⟨va_cnB 2 hts (TB_C TB_id tw_311) rfl rfl rfl hK.2.1 (hts _ tw_49) (by decide +kernel) ⟨Nat.le_of_ble_eq_true rfl, Nat.le_of_ble_eq_true rfl⟩, hts _ tw_310, trivial⟩ hK (hP.sub [] rfl) rfl hl.1 rfl (Nat.le_of_ble_eq_true rfl) dX4_putOld_12) rfl ?_
    refine lv_if_eq (tgt := 36) hx hb dX4_putOld_15 (by decide) (fun c6 => ?_) (fun c6 => ?_)
    · have hf := g_ifT c6 hf
      refine lv_ldc (v := (-1000001 : Int32)) hx hb hown (hts _ tw_312) dX4_putOld_36 ?_
      cases hf
      exact g_iretC hx hb hr hlocks hP hD hS dX4_putOld_38
    · have hf := g_ifF c6 hf
      refine lv_iload_n hx hb dX4_putOld_18 rfl (lv_at hl 3 rfl) ?_
      refine lv_bipush (v := (10 : Int32)) hx hb dX4_putOld_19 (by decide) ?_
      obtain ⟨r7, e8, hf⟩ := g_bdS hf
      refine g_contR (st1 := [.int r7]) (g_runSNR (As := [.int p2, .int (10 : Int32)]) (rest := []) ⟨hx, hb, hml, hown, hts⟩ (qX5_isBelow l G e8) ⟨va_cnB 2 hts (TB_C TB_id tw_311) rfl rfl rfl hK.2.1 (hts _ tw_49) (by decide +kernel) ⟨Nat.le_of_ble_eq_true rfl, Nat.le_of_ble_eq_true rfl⟩, hts _ tw_310, trivial⟩ hK (hP.sub [] rfl) rfl hl.1 rfl (Nat.le_of_ble_eq_true rfl) dX4_putOld_21) rfl ?_
      refine lv_if_eq (tgt := 36) hx hb dX4_putOld_24 (by decide) (fun c9 => ?_) (fun c9 => ?_)
      · have hf := g_ifT c9 hf
        refine lv_ldc (v := (-1000001 : Int32)) hx hb hown (hts _ tw_312) dX4_putOld_36 ?_
        cases hf
        exact g_iretC hx hb hr hlocks hP hD hS dX4_putOld_38
      · have hf := g_ifF c9 hf
        refine lv_iload hx hb dX4_putOld_27 (lv_at hl 4 rfl) ?_
        refine lv_iconst (v := (2 : Int32)) hx hb dX4_putOld_29 (by decide) ?_
        obtain ⟨r10, e11, hf⟩ := g_bdS hf
        refine g_contR (st1 := [.int r10]) (g_runSNR (As := [.int p3, .int (2 : Int32)]) (rest := []) ⟨hx, hb, hml, hown, hts⟩ (qX5_isBelow l G e11) ⟨va_cnB 2 hts (TB_C TB_id tw_311) rfl rfl rfl hK.2.1 (hts _ tw_49) (by decide +kernel) ⟨Nat.le_of_ble_eq_true rfl, Nat.le_of_ble_eq_true rfl⟩, hts _ tw_310, trivial⟩ hK (hP.sub [] rfl) rfl hl.1 rfl (Nat.le_of_ble_eq_true rfl) dX4_putOld_30) rfl ?_
        refine lv_if_ne (tgt := 39) hx hb dX4_putOld_33 (by decide) (fun c12 => ?_) (fun c12 => ?_)
        · have hf := g_ifF c12 hf
          refine lv_aload_n hx hb dX4_putOld_39 rfl (lv_at hl 0 rfl) ?_
          refine lv_iload_n hx hb dX4_putOld_40 rfl (lv_at hl 1 rfl) ?_
          refine lv_iload_n hx hb dX4_putOld_41 rfl (lv_at hl 2 rfl) ?_
          refine lv_iload_n hx hb dX4_putOld_42 rfl (lv_at hl 3 rfl) ?_
          refine lv_iload hx hb dX4_putOld_43 (lv_at hl 4 rfl) ?_
          obtain ⟨r13, e14, hf⟩ := g_bdS hf
          refine g_contR (st1 := [.int r13, .int p0, .ref (a 0)]) (g_runSR (As := [.int p1, .int p2, .int p3]) (rest := [.int p0, .ref (a 0)]) ⟨hx, hb, hml, hown, hts⟩ (qX2_ofOld l G e14) (va_cwS 3 hts (TB_S TB_id tw_313 tw_314 tw_56 tw_315) rfl rfl rfl (by decide +kernel) ⟨Nat.le_of_ble_eq_true rfl, Nat.le_of_ble_eq_true rfl⟩) hK (hP.sub [] rfl) rfl hl.1 rfl (Nat.le_of_ble_eq_true rfl) dX4_putOld_45) rfl ?_
          obtain ⟨r15, e16, hf⟩ := g_bdS hf
          refine g_contC (st1 := [.int r15.1]) (g_runVC (As := [.int p0, .int r13]) (rest := []) ⟨hx, hb, hml, hown, hts⟩ (qX4_put l G a e16) (cwV 2 hts (TB_V TB_id tw_319 tw_321 tw_2 tw_50 tw_322) rfl rfl rfl (by decide +kernel) ⟨Nat.le_of_ble_eq_true rfl, Nat.le_of_ble_eq_true rfl⟩) hK (hP.sub [0, 1, 2, 3, 4, 5, 6, 7, 8, 9, 10, 11, 12, 13] rfl) (hD.sub [0, 1, 2, 3, 4, 5, 6, 7, 8, 9, 10, 11, 12, 13] (by decide) rfl) 0 rfl rfl rfl hl.1 rfl (Nat.le_of_ble_eq_true rfl) dX4_putOld_48) rfl hP hD hS hA [0, 1, 2, 3, 4, 5, 6, 7, 8, 9, 10, 11, 12, 13] rfl rfl (fun H locs hP hD hS => ?_)
          have hP : va_P G.1 vwCl [((a 0), .inr (3, [.int r15.2.1, .int r15.2.2.1, .int r15.2.2.2.1, .int r15.2.2.2.2.1, .ref (a 1), .ref (a 4), .ref (a 7), .ref (a 11), .int r15.2.2.2.2.2.2.2.2.2.2.2.2.2.2.1, .ref (a 12), .ref (a 13)])), ((a 1), .inr (2, [.int 0, .ref (a 2), .ref (a 3)])), ((a 2), .inl (G.2.1, 31, .inl r15.2.2.2.2.2.1)), ((a 3), .inl (G.2.1, 31, .inl r15.2.2.2.2.2.2.1)), ((a 4), .inr (2, [.int 1, .ref (a 5), .ref (a 6)])), ((a 5), .inl (G.2.1, 31, .inl r15.2.2.2.2.2.2.2.1)), ((a 6), .inl (G.2.1, 31, .inl r15.2.2.2.2.2.2.2.2.1)), ((a 7), .inr (1, [.int r15.2.2.2.2.2.2.2.2.2.1, .ref (a 8), .ref (a 9), .ref (a 10)])), ((a 8), .inl (G.2.1, 8, .inl r15.2.2.2.2.2.2.2.2.2.2.1)), ((a 9), .inl (G.2.1, 8, .inl r15.2.2.2.2.2.2.2.2.2.2.2.1)), ((a 10), .inl (G.2.1, 8, .inl r15.2.2.2.2.2.2.2.2.2.2.2.2.1)), ((a 11), .inl (G.2.1, 31, .inl r15.2.2.2.2.2.2.2.2.2.2.2.2.2.1)), ((a 12), .inl (G.2.1, 3, .inl r15.2.2.2.2.2.2.2.2.2.2.2.2.2.2.2.1)), ((a 13), .inl (G.2.1, 3, .inl r15.2.2.2.2.2.2.2.2.2.2.2.2.2.2.2.2))] H := hP
          have hD : va_D (va_A (tabW G a ph la po lo ov orr nv nr ql qk qv qr wr wa wc wk) s.heap.size) [((a 0), .inr (3, [.int r15.2.1, .int r15.2.2.1, .int r15.2.2.2.1, .int r15.2.2.2.2.1, .ref (a 1), .ref (a 4), .ref (a 7), .ref (a 11), .int r15.2.2.2.2.2.2.2.2.2.2.2.2.2.2.1, .ref (a 12), .ref (a 13)])), ((a 1), .inr (2, [.int 0, .ref (a 2), .ref (a 3)])), ((a 2), .inl (G.2.1, 31, .inl r15.2.2.2.2.2.1)), ((a 3), .inl (G.2.1, 31, .inl r15.2.2.2.2.2.2.1)), ((a 4), .inr (2, [.int 1, .ref (a 5), .ref (a 6)])), ((a 5), .inl (G.2.1, 31, .inl r15.2.2.2.2.2.2.2.1)), ((a 6), .inl (G.2.1, 31, .inl r15.2.2.2.2.2.2.2.2.1)), ((a 7), .inr (1, [.int r15.2.2.2.2.2.2.2.2.2.1, .ref (a 8), .ref (a 9), .ref (a 10)])), ((a 8), .inl (G.2.1, 8, .inl r15.2.2.2.2.2.2.2.2.2.2.1)), ((a 9), .inl (G.2.1, 8, .inl r15.2.2.2.2.2.2.2.2.2.2.2.1)), ((a 10), .inl (G.2.1, 8, .inl r15.2.2.2.2.2.2.2.2.2.2.2.2.1)), ((a 11), .inl (G.2.1, 31, .inl r15.2.2.2.2.2.2.2.2.2.2.2.2.2.1)), ((a 12), .inl (G.2.1, 3, .inl r15.2.2.2.2.2.2.2.2.2.2.2.2.2.2.2.1)), ((a 13), .inl (G.2.1, 3, .inl r15.2.2.2.2.2.2.2.2.2.2.2.2.2.2.2.2))] := hD
          cases hf
          exact g_iretC hx hb hr hlocks hP hD hS dX4_putOld_51
        · have hf := g_ifT c12 hf
          refine lv_ldc (v := (-1000001 : Int32)) hx hb hown (hts _ tw_312) dX4_putOld_36 ?_
          cases hf
          exact g_iretC hx hb hr hlocks hP hD hS dX4_putOld_38
-- TwoShapes$Table.putNew(III)I
abbrev rmX4_putNew : Room := { frames := 3, cells := 0, slots := 0, locals := 68 }
def fX4_putNew (p0 : Int32) (p1 : Int32) (p2 : Int32) (ph : Int32) (la : Int32) (po : Int32) (lo : Int32) (ov : Nat → Int32) (orr : Nat → Int32) (nv : Nat → Int32) (nr : Nat → Int32) (ql : Int32) (qk : Nat → Int32) (qv : Nat → Int32) (qr : Nat → Int32) (wr : Nat → Int32) (wa : Int32) (wc : Nat → Int32) (wk : Nat → Int32) : Option (Int32 × Int32 × Int32 × Int32 × Int32 × (Nat → Int32) × (Nat → Int32) × (Nat → Int32) × (Nat → Int32) × Int32 × (Nat → Int32) × (Nat → Int32) × (Nat → Int32) × (Nat → Int32) × Int32 × (Nat → Int32) × (Nat → Int32)) := ((fX5_isBelow p0 (31 : Int32)).bind fun r1 => (if r1 = (0 : Int32) then some ((-1000001 : Int32), ph, la, po, lo, ov, orr, nv, nr, ql, qk, qv, qr, wr, wa, wc, wk) else ((fX5_isBelow p1 (1000 : Int32)).bind fun r4 => (if r4 = (0 : Int32) then some ((-1000001 : Int32), ph, la, po, lo, ov, orr, nv, nr, ql, qk, qv, qr, wr, wa, wc, wk) else ((fX5_isBelow p2 (4 : Int32)).bind fun r7 => (if r7 = (0 : Int32) then some ((-1000001 : Int32), ph, la, po, lo, ov, orr, nv, nr, ql, qk, qv, qr, wr, wa, wc, wk) else ((fX2_ofNew p1 p2).bind fun r10 => ((fX4_put p0 r10 ph la po lo ov orr nv nr ql qk qv qr wr wa wc wk).bind fun r12 => some (r12.1, r12.2.1, r12.2.2.1, r12.2.2.2.1, r12.2.2.2.2.1, r12.2.2.2.2.2.1, r12.2.2.2.2.2.2.1, r12.2.2.2.2.2.2.2.1, r12.2.2.2.2.2.2.2.2.1, r12.2.2.2.2.2.2.2.2.2.1, r12.2.2.2.2.2.2.2.2.2.2.1, r12.2.2.2.2.2.2.2.2.2.2.2.1, r12.2.2.2.2.2.2.2.2.2.2.2.2.1, r12.2.2.2.2.2.2.2.2.2.2.2.2.2.1, r12.2.2.2.2.2.2.2.2.2.2.2.2.2.2.1, r12.2.2.2.2.2.2.2.2.2.2.2.2.2.2.2.1, r12.2.2.2.2.2.2.2.2.2.2.2.2.2.2.2.2)))))))))
set_option maxHeartbeats 4000000 in
set_option maxRecDepth 100000 in
theorem qX4_putNew (l : Launch) (G : gT) (a : Nat → Nat) {p0 : Int32} {p1 : Int32} {p2 : Int32} {ph : Int32} {la : Int32} {po : Int32} {lo : Int32} {ov : Nat → Int32} {orr : Nat → Int32} {nv : Nat → Int32} {nr : Nat → Int32} {ql : Int32} {qk : Nat → Int32} {qv : Nat → Int32} {qr : Nat → Int32} {wr : Nat → Int32} {wa : Int32} {wc : Nat → Int32} {wk : Nat → Int32} {u : Int32 × Int32 × Int32 × Int32 × Int32 × (Nat → Int32) × (Nat → Int32) × (Nat → Int32) × (Nat → Int32) × Int32 × (Nat → Int32) × (Nat → Int32) × (Nat → Int32) × (Nat → Int32) × Int32 × (Nat → Int32) × (Nat → Int32)} (hf : fX4_putNew p0 p1 p2 ph la po lo ov orr nv nr ql qk qv qr wr wa wc wk = some u) : gC l G yX4_putNew wsX4_putNew rmX4_putNew [.ref (a 0), .int p0, .int p1, .int p2] (tabW G a ph la po lo ov orr nv nr ql qk qv qr wr wa wc wk) (some (.int u.1)) (tabW G a u.2.1 u.2.2.1 u.2.2.2.1 u.2.2.2.2.1 u.2.2.2.2.2.1 u.2.2.2.2.2.2.1 u.2.2.2.2.2.2.2.1 u.2.2.2.2.2.2.2.2.1 u.2.2.2.2.2.2.2.2.2.1 u.2.2.2.2.2.2.2.2.2.2.1 u.2.2.2.2.2.2.2.2.2.2.2.1 u.2.2.2.2.2.2.2.2.2.2.2.2.1 u.2.2.2.2.2.2.2.2.2.2.2.2.2.1 u.2.2.2.2.2.2.2.2.2.2.2.2.2.2.1 u.2.2.2.2.2.2.2.2.2.2.2.2.2.2.2.1 u.2.2.2.2.2.2.2.2.2.2.2.2.2.2.2.2) := by
  refine gC.of (cc := cX4_putNew) (maxL := 4) (ret := (some .int)) (by decide) rfl (Nat.le_of_ble_eq_true rfl) ?_
  intro p e s m below meth c C0 hP hD hS ls hl
  obtain ⟨hx, hb, hr, hts, hown, hlocks, hml, hK⟩ := id C0
  have hl : lv_has ls 4 [(0, .ref (a 0)), (1, .int p0), (2, .int p1), (3, .int p2)] := hl
  have hA : ∀ q : Nat, s.heap.size ≤ q → va_A (tabW G a ph la po lo ov orr nv nr ql qk qv qr wr wa wc wk) s.heap.size q := fun q h => Or.inr h
  have hP : va_P G.1 vwCl [((a 0), .inr (3, [.int ph, .int la, .int po, .int lo, .ref (a 1), .ref (a 4), .ref (a 7), .ref (a 11), .int wa, .ref (a 12), .ref (a 13)])), ((a 1), .inr (2, [.int 0, .ref (a 2), .ref (a 3)])), ((a 2), .inl (G.2.1, 31, .inl ov)), ((a 3), .inl (G.2.1, 31, .inl orr)), ((a 4), .inr (2, [.int 1, .ref (a 5), .ref (a 6)])), ((a 5), .inl (G.2.1, 31, .inl nv)), ((a 6), .inl (G.2.1, 31, .inl nr)), ((a 7), .inr (1, [.int ql, .ref (a 8), .ref (a 9), .ref (a 10)])), ((a 8), .inl (G.2.1, 8, .inl qk)), ((a 9), .inl (G.2.1, 8, .inl qv)), ((a 10), .inl (G.2.1, 8, .inl qr)), ((a 11), .inl (G.2.1, 31, .inl wr)), ((a 12), .inl (G.2.1, 3, .inl wc)), ((a 13), .inl (G.2.1, 3, .inl wk))] s.heap := hP
  have hD : va_D (va_A (tabW G a ph la po lo ov orr nv nr ql qk qv qr wr wa wc wk) s.heap.size) [((a 0), .inr (3, [.int ph, .int la, .int po, .int lo, .ref (a 1), .ref (a 4), .ref (a 7), .ref (a 11), .int wa, .ref (a 12), .ref (a 13)])), ((a 1), .inr (2, [.int 0, .ref (a 2), .ref (a 3)])), ((a 2), .inl (G.2.1, 31, .inl ov)), ((a 3), .inl (G.2.1, 31, .inl orr)), ((a 4), .inr (2, [.int 1, .ref (a 5), .ref (a 6)])), ((a 5), .inl (G.2.1, 31, .inl nv)), ((a 6), .inl (G.2.1, 31, .inl nr)), ((a 7), .inr (1, [.int ql, .ref (a 8), .ref (a 9), .ref (a 10)])), ((a 8), .inl (G.2.1, 8, .inl qk)), ((a 9), .inl (G.2.1, 8, .inl qv)), ((a 10), .inl (G.2.1, 8, .inl qr)), ((a 11), .inl (G.2.1, 31, .inl wr)), ((a 12), .inl (G.2.1, 3, .inl wc)), ((a 13), .inl (G.2.1, 3, .inl wk))] := hD
  unfold fX4_putNew at hf
  refine lv_iload_n hx hb dX4_putNew_0 rfl (lv_at hl 1 rfl) ?_
  refine lv_bipush (v := (31 : Int32)) hx hb dX4_putNew_1 (by decide) ?_
  obtain ⟨r1, e2, hf⟩ := g_bdS hf
  refine g_contR (st1 := [.int r1]) (g_runSNR (As := [.int p0, .int (31 : Int32)]) (rest := []) ⟨hx, hb, hml, hown, hts⟩ (qX5_isBelow l G e2) ⟨va_cnB 2 hts (TB_C TB_id tw_311) rfl rfl rfl hK.2.1 (hts _ tw_49) (by decide +kernel) ⟨Nat.le_of_ble_eq_true rfl, Nat.le_of_ble_eq_true rfl⟩, hts _ tw_310, trivial⟩ hK (hP.sub [] rfl) rfl hl.1 rfl (Nat.le_of_ble_eq_true rfl) dX4_putNew_3) rfl ?_
  refine lv_if_eq (tgt := 27) hx hb dX4_putNew_6 (by decide) (fun c3 => ?_) (fun c3 => ?_)
  · have hf := g_ifT c3 hf
    refine lv_ldc (v := (-1000001 : Int32)) hx hb hown (hts _ tw_312) dX4_putNew_27 ?_
    cases hf
    exact g_iretC hx hb hr hlocks hP hD hS dX4_putNew_29
  · have hf := g_ifF c3 hf
    refine lv_iload_n hx hb dX4_putNew_9 rfl (lv_at hl 2 rfl) ?_
    refine lv_sipush (v := (1000 : Int32)) hx hb dX4_putNew_10 (by decide) ?_
    obtain ⟨r4, e5, hf⟩ := g_bdS hf
    refine g_contR (st1 := [.int r4]) (g_runSNR (As := [.int p1, .int (1000 : Int32)]) (rest := []) ⟨hx, hb, hml, hown, hts⟩ (qX5_isBelow l G e5) ⟨va_cnB 2 hts (TB_C TB_id tw_311) rfl rfl rfl hK.2.1 (hts _ tw_49) (by decide +kernel) ⟨Nat.le_of_ble_eq_true rfl, Nat.le_of_ble_eq_true rfl⟩, hts _ tw_310, trivial⟩ hK (hP.sub [] rfl) rfl hl.1 rfl (Nat.le_of_ble_eq_true rfl) dX4_putNew_13) rfl ?_
    refine lv_if_eq (tgt := 27) hx hb dX4_putNew_16 (by decide) (fun c6 => ?_) (fun c6 => ?_)
    · have hf := g_ifT c6 hf
      refine lv_ldc (v := (-1000001 : Int32)) hx hb hown (hts _ tw_312) dX4_putNew_27 ?_
      cases hf
      exact g_iretC hx hb hr hlocks hP hD hS dX4_putNew_29
    · have hf := g_ifF c6 hf
      refine lv_iload_n hx hb dX4_putNew_19 rfl (lv_at hl 3 rfl) ?_
      refine lv_iconst (v := (4 : Int32)) hx hb dX4_putNew_20 (by decide) ?_
      obtain ⟨r7, e8, hf⟩ := g_bdS hf
      refine g_contR (st1 := [.int r7]) (g_runSNR (As := [.int p2, .int (4 : Int32)]) (rest := []) ⟨hx, hb, hml, hown, hts⟩ (qX5_isBelow l G e8) ⟨va_cnB 2 hts (TB_C TB_id tw_311) rfl rfl rfl hK.2.1 (hts _ tw_49) (by decide +kernel) ⟨Nat.le_of_ble_eq_true rfl, Nat.le_of_ble_eq_true rfl⟩, hts _ tw_310, trivial⟩ hK (hP.sub [] rfl) rfl hl.1 rfl (Nat.le_of_ble_eq_true rfl) dX4_putNew_21) rfl ?_
      refine lv_if_ne (tgt := 30) hx hb dX4_putNew_24 (by decide) (fun c9 => ?_) (fun c9 => ?_)
      · have hf := g_ifF c9 hf
        refine lv_aload_n hx hb dX4_putNew_30 rfl (lv_at hl 0 rfl) ?_
        refine lv_iload_n hx hb dX4_putNew_31 rfl (lv_at hl 1 rfl) ?_
        refine lv_iload_n hx hb dX4_putNew_32 rfl (lv_at hl 2 rfl) ?_
        refine lv_iload_n hx hb dX4_putNew_33 rfl (lv_at hl 3 rfl) ?_
        obtain ⟨r10, e11, hf⟩ := g_bdS hf
        refine g_contR (st1 := [.int r10, .int p0, .ref (a 0)]) (g_runSR (As := [.int p1, .int p2]) (rest := [.int p0, .ref (a 0)]) ⟨hx, hb, hml, hown, hts⟩ (qX2_ofNew l G e11) (va_cwS 2 hts (TB_S TB_id tw_350 tw_317 tw_56 tw_318) rfl rfl rfl (by decide +kernel) ⟨Nat.le_of_ble_eq_true rfl, Nat.le_of_ble_eq_true rfl⟩) hK (hP.sub [] rfl) rfl hl.1 rfl (Nat.le_of_ble_eq_true rfl) dX4_putNew_34) rfl ?_
        obtain ⟨r12, e13, hf⟩ := g_bdS hf
        refine g_contC (st1 := [.int r12.1]) (g_runVC (As := [.int p0, .int r10]) (rest := []) ⟨hx, hb, hml, hown, hts⟩ (qX4_put l G a e13) (cwV 2 hts (TB_V TB_id tw_319 tw_321 tw_2 tw_50 tw_322) rfl rfl rfl (by decide +kernel) ⟨Nat.le_of_ble_eq_true rfl, Nat.le_of_ble_eq_true rfl⟩) hK (hP.sub [0, 1, 2, 3, 4, 5, 6, 7, 8, 9, 10, 11, 12, 13] rfl) (hD.sub [0, 1, 2, 3, 4, 5, 6, 7, 8, 9, 10, 11, 12, 13] (by decide) rfl) 0 rfl rfl rfl hl.1 rfl (Nat.le_of_ble_eq_true rfl) dX4_putNew_37) rfl hP hD hS hA [0, 1, 2, 3, 4, 5, 6, 7, 8, 9, 10, 11, 12, 13] rfl rfl (fun H locs hP hD hS => ?_)
        have hP : va_P G.1 vwCl [((a 0), .inr (3, [.int r12.2.1, .int r12.2.2.1, .int r12.2.2.2.1, .int r12.2.2.2.2.1, .ref (a 1), .ref (a 4), .ref (a 7), .ref (a 11), .int r12.2.2.2.2.2.2.2.2.2.2.2.2.2.2.1, .ref (a 12), .ref (a 13)])), ((a 1), .inr (2, [.int 0, .ref (a 2), .ref (a 3)])), ((a 2), .inl (G.2.1, 31, .inl r12.2.2.2.2.2.1)), ((a 3), .inl (G.2.1, 31, .inl r12.2.2.2.2.2.2.1)), ((a 4), .inr (2, [.int 1, .ref (a 5), .ref (a 6)])), ((a 5), .inl (G.2.1, 31, .inl r12.2.2.2.2.2.2.2.1)), ((a 6), .inl (G.2.1, 31, .inl r12.2.2.2.2.2.2.2.2.1)), ((a 7), .inr (1, [.int r12.2.2.2.2.2.2.2.2.2.1, .ref (a 8), .ref (a 9), .ref (a 10)])), ((a 8), .inl (G.2.1, 8, .inl r12.2.2.2.2.2.2.2.2.2.2.1)), ((a 9), .inl (G.2.1, 8, .inl r12.2.2.2.2.2.2.2.2.2.2.2.1)), ((a 10), .inl (G.2.1, 8, .inl r12.2.2.2.2.2.2.2.2.2.2.2.2.1)), ((a 11), .inl (G.2.1, 31, .inl r12.2.2.2.2.2.2.2.2.2.2.2.2.2.1)), ((a 12), .inl (G.2.1, 3, .inl r12.2.2.2.2.2.2.2.2.2.2.2.2.2.2.2.1)), ((a 13), .inl (G.2.1, 3, .inl r12.2.2.2.2.2.2.2.2.2.2.2.2.2.2.2.2))] H := hP
        have hD : va_D (va_A (tabW G a ph la po lo ov orr nv nr ql qk qv qr wr wa wc wk) s.heap.size) [((a 0), .inr (3, [.int r12.2.1, .int r12.2.2.1, .int r12.2.2.2.1, .int r12.2.2.2.2.1, .ref (a 1), .ref (a 4), .ref (a 7), .ref (a 11), .int r12.2.2.2.2.2.2.2.2.2.2.2.2.2.2.1, .ref (a 12), .ref (a 13)])), ((a 1), .inr (2, [.int 0, .ref (a 2), .ref (a 3)])), ((a 2), .inl (G.2.1, 31, .inl r12.2.2.2.2.2.1)), ((a 3), .inl (G.2.1, 31, .inl r12.2.2.2.2.2.2.1)), ((a 4), .inr (2, [.int 1, .ref (a 5), .ref (a 6)])), ((a 5), .inl (G.2.1, 31, .inl r12.2.2.2.2.2.2.2.1)), ((a 6), .inl (G.2.1, 31, .inl r12.2.2.2.2.2.2.2.2.1)), ((a 7), .inr (1, [.int r12.2.2.2.2.2.2.2.2.2.1, .ref (a 8), .ref (a 9), .ref (a 10)])), ((a 8), .inl (G.2.1, 8, .inl r12.2.2.2.2.2.2.2.2.2.2.1)), ((a 9), .inl (G.2.1, 8, .inl r12.2.2.2.2.2.2.2.2.2.2.2.1)), ((a 10), .inl (G.2.1, 8, .inl r12.2.2.2.2.2.2.2.2.2.2.2.2.1)), ((a 11), .inl (G.2.1, 31, .inl r12.2.2.2.2.2.2.2.2.2.2.2.2.2.1)), ((a 12), .inl (G.2.1, 3, .inl r12.2.2.2.2.2.2.2.2.2.2.2.2.2.2.2.1)), ((a 13), .inl (G.2.1, 3, .inl r12.2.2.2.2.2.2.2.2.2.2.2.2.2.2.2.2))] := hD
        cases hf
        exact g_iretC hx hb hr hlocks hP hD hS dX4_putNew_40
      · have hf := g_ifT c9 hf
        refine lv_ldc (v := (-1000001 : Int32)) hx hb hown (hts _ tw_312) dX4_putNew_27 ?_
        cases hf
        exact g_iretC hx hb hr hlocks hP hD hS dX4_putNew_29
-- TwoShapes$Table.takeAway(I)I
abbrev rmX4_takeAway : Room := { frames := 3, cells := 0, slots := 0, locals := 68 }
def fX4_takeAway (p0 : Int32) (ph : Int32) (la : Int32) (po : Int32) (lo : Int32) (ov : Nat → Int32) (orr : Nat → Int32) (nv : Nat → Int32) (nr : Nat → Int32) (ql : Int32) (qk : Nat → Int32) (qv : Nat → Int32) (qr : Nat → Int32) (wr : Nat → Int32) (wa : Int32) (wc : Nat → Int32) (wk : Nat → Int32) : Option (Int32 × Int32 × Int32 × Int32 × Int32 × (Nat → Int32) × (Nat → Int32) × (Nat → Int32) × (Nat → Int32) × Int32 × (Nat → Int32) × (Nat → Int32) × (Nat → Int32) × (Nat → Int32) × Int32 × (Nat → Int32) × (Nat → Int32)) := ((fX5_isBelow p0 (31 : Int32)).bind fun r1 => (if r1 = (0 : Int32) then some ((-1000001 : Int32), ph, la, po, lo, ov, orr, nv, nr, ql, qk, qv, qr, wr, wa, wc, wk) else ((fX4_first ph la po lo ov orr nv nr ql qk qv qr wr wa wc wk).bind fun r4 => ((fX4_shape r4 ph la po lo ov orr nv nr ql qk qv qr wr wa wc wk).bind fun r6 => (if r6 = 1 then g_gd (g_in p0 31) ((if (orr p0.toNatClampNeg) = (-1 : Int32) then some ((-1000002 : Int32), ph, la, po, lo, ov, orr, nv, nr, ql, qk, qv, qr, wr, wa, wc, wk) else ((fX4_put p0 (-1 : Int32) ph la po lo ov orr nv nr ql qk qv qr wr wa wc wk).bind fun r11 => some (r11.1, r11.2.1, r11.2.2.1, r11.2.2.2.1, r11.2.2.2.2.1, r11.2.2.2.2.2.1, r11.2.2.2.2.2.2.1, r11.2.2.2.2.2.2.2.1, r11.2.2.2.2.2.2.2.2.1, r11.2.2.2.2.2.2.2.2.2.1, r11.2.2.2.2.2.2.2.2.2.2.1, r11.2.2.2.2.2.2.2.2.2.2.2.1, r11.2.2.2.2.2.2.2.2.2.2.2.2.1, r11.2.2.2.2.2.2.2.2.2.2.2.2.2.1, r11.2.2.2.2.2.2.2.2.2.2.2.2.2.2.1, r11.2.2.2.2.2.2.2.2.2.2.2.2.2.2.2.1, r11.2.2.2.2.2.2.2.2.2.2.2.2.2.2.2.2)))) else (if r6 = 4 then g_gd (g_in p0 31) ((if (nr p0.toNatClampNeg) = (-1 : Int32) then some ((-1000002 : Int32), ph, la, po, lo, ov, orr, nv, nr, ql, qk, qv, qr, wr, wa, wc, wk) else ((fX4_put p0 (-1 : Int32) ph la po lo ov orr nv nr ql qk qv qr wr wa wc wk).bind fun r16 => some (r16.1, r16.2.1, r16.2.2.1, r16.2.2.2.1, r16.2.2.2.2.1, r16.2.2.2.2.2.1, r16.2.2.2.2.2.2.1, r16.2.2.2.2.2.2.2.1, r16.2.2.2.2.2.2.2.2.1, r16.2.2.2.2.2.2.2.2.2.1, r16.2.2.2.2.2.2.2.2.2.2.1, r16.2.2.2.2.2.2.2.2.2.2.2.1, r16.2.2.2.2.2.2.2.2.2.2.2.2.1, r16.2.2.2.2.2.2.2.2.2.2.2.2.2.1, r16.2.2.2.2.2.2.2.2.2.2.2.2.2.2.1, r16.2.2.2.2.2.2.2.2.2.2.2.2.2.2.2.1, r16.2.2.2.2.2.2.2.2.2.2.2.2.2.2.2.2)))) else none))))))
set_option maxHeartbeats 4000000 in
set_option maxRecDepth 100000 in
theorem qX4_takeAway (l : Launch) (G : gT) (a : Nat → Nat) {p0 : Int32} {ph : Int32} {la : Int32} {po : Int32} {lo : Int32} {ov : Nat → Int32} {orr : Nat → Int32} {nv : Nat → Int32} {nr : Nat → Int32} {ql : Int32} {qk : Nat → Int32} {qv : Nat → Int32} {qr : Nat → Int32} {wr : Nat → Int32} {wa : Int32} {wc : Nat → Int32} {wk : Nat → Int32} {u : Int32 × Int32 × Int32 × Int32 × Int32 × (Nat → Int32) × (Nat → Int32) × (Nat → Int32) × (Nat → Int32) × Int32 × (Nat → Int32) × (Nat → Int32) × (Nat → Int32) × (Nat → Int32) × Int32 × (Nat → Int32) × (Nat → Int32)} (hf : fX4_takeAway p0 ph la po lo ov orr nv nr ql qk qv qr wr wa wc wk = some u) : gC l G yX4_takeAway wsX4_takeAway rmX4_takeAway [.ref (a 0), .int p0] (tabW G a ph la po lo ov orr nv nr ql qk qv qr wr wa wc wk) (some (.int u.1)) (tabW G a u.2.1 u.2.2.1 u.2.2.2.1 u.2.2.2.2.1 u.2.2.2.2.2.1 u.2.2.2.2.2.2.1 u.2.2.2.2.2.2.2.1 u.2.2.2.2.2.2.2.2.1 u.2.2.2.2.2.2.2.2.2.1 u.2.2.2.2.2.2.2.2.2.2.1 u.2.2.2.2.2.2.2.2.2.2.2.1 u.2.2.2.2.2.2.2.2.2.2.2.2.1 u.2.2.2.2.2.2.2.2.2.2.2.2.2.1 u.2.2.2.2.2.2.2.2.2.2.2.2.2.2.1 u.2.2.2.2.2.2.2.2.2.2.2.2.2.2.2.1 u.2.2.2.2.2.2.2.2.2.2.2.2.2.2.2.2) := by
  refine gC.of (cc := cX4_takeAway) (maxL := 2) (ret := (some .int)) (by decide) rfl (Nat.le_of_ble_eq_true rfl) ?_
  intro p e s m below meth c C0 hP hD hS ls hl
  obtain ⟨hx, hb, hr, hts, hown, hlocks, hml, hK⟩ := id C0
  have hl : lv_has ls 2 [(0, .ref (a 0)), (1, .int p0)] := hl
  have hA : ∀ q : Nat, s.heap.size ≤ q → va_A (tabW G a ph la po lo ov orr nv nr ql qk qv qr wr wa wc wk) s.heap.size q := fun q h => Or.inr h
  have hP : va_P G.1 vwCl [((a 0), .inr (3, [.int ph, .int la, .int po, .int lo, .ref (a 1), .ref (a 4), .ref (a 7), .ref (a 11), .int wa, .ref (a 12), .ref (a 13)])), ((a 1), .inr (2, [.int 0, .ref (a 2), .ref (a 3)])), ((a 2), .inl (G.2.1, 31, .inl ov)), ((a 3), .inl (G.2.1, 31, .inl orr)), ((a 4), .inr (2, [.int 1, .ref (a 5), .ref (a 6)])), ((a 5), .inl (G.2.1, 31, .inl nv)), ((a 6), .inl (G.2.1, 31, .inl nr)), ((a 7), .inr (1, [.int ql, .ref (a 8), .ref (a 9), .ref (a 10)])), ((a 8), .inl (G.2.1, 8, .inl qk)), ((a 9), .inl (G.2.1, 8, .inl qv)), ((a 10), .inl (G.2.1, 8, .inl qr)), ((a 11), .inl (G.2.1, 31, .inl wr)), ((a 12), .inl (G.2.1, 3, .inl wc)), ((a 13), .inl (G.2.1, 3, .inl wk))] s.heap := hP
  have hD : va_D (va_A (tabW G a ph la po lo ov orr nv nr ql qk qv qr wr wa wc wk) s.heap.size) [((a 0), .inr (3, [.int ph, .int la, .int po, .int lo, .ref (a 1), .ref (a 4), .ref (a 7), .ref (a 11), .int wa, .ref (a 12), .ref (a 13)])), ((a 1), .inr (2, [.int 0, .ref (a 2), .ref (a 3)])), ((a 2), .inl (G.2.1, 31, .inl ov)), ((a 3), .inl (G.2.1, 31, .inl orr)), ((a 4), .inr (2, [.int 1, .ref (a 5), .ref (a 6)])), ((a 5), .inl (G.2.1, 31, .inl nv)), ((a 6), .inl (G.2.1, 31, .inl nr)), ((a 7), .inr (1, [.int ql, .ref (a 8), .ref (a 9), .ref (a 10)])), ((a 8), .inl (G.2.1, 8, .inl qk)), ((a 9), .inl (G.2.1, 8, .inl qv)), ((a 10), .inl (G.2.1, 8, .inl qr)), ((a 11), .inl (G.2.1, 31, .inl wr)), ((a 12), .inl (G.2.1, 3, .inl wc)), ((a 13), .inl (G.2.1, 3, .inl wk))] := hD
  unfold fX4_takeAway at hf
  refine lv_iload_n hx hb dX4_takeAway_0 rfl (lv_at hl 1 rfl) ?_
  refine lv_bipush (v := (31 : Int32)) hx hb dX4_takeAway_1 (by decide) ?_
  obtain ⟨r1, e2, hf⟩ := g_bdS hf
  refine g_contR (st1 := [.int r1]) (g_runSNR (As := [.int p0, .int (31 : Int32)]) (rest := []) ⟨hx, hb, hml, hown, hts⟩ (qX5_isBelow l G e2) ⟨va_cnB 2 hts (TB_C TB_id tw_311) rfl rfl rfl hK.2.1 (hts _ tw_49) (by decide +kernel) ⟨Nat.le_of_ble_eq_true rfl, Nat.le_of_ble_eq_true rfl⟩, hts _ tw_310, trivial⟩ hK (hP.sub [] rfl) rfl hl.1 rfl (Nat.le_of_ble_eq_true rfl) dX4_takeAway_3) rfl ?_
  refine lv_if_ne (tgt := 12) hx hb dX4_takeAway_6 (by decide) (fun c3 => ?_) (fun c3 => ?_)
  · have hf := g_ifF c3 hf
    refine lv_aload_n hx hb dX4_takeAway_12 rfl (lv_at hl 0 rfl) ?_
    refine lv_aload_n hx hb dX4_takeAway_13 rfl (lv_at hl 0 rfl) ?_
    obtain ⟨r4, e5, hf⟩ := g_bdS hf
    refine g_contR (st1 := [.int r4, .ref (a 0)]) (g_runVR (As := []) (rest := [.ref (a 0)]) ⟨hx, hb, hml, hown, hts⟩ (qX4_first l G a e5) (cwV 0 hts (TB_V TB_id tw_325 tw_326 tw_327 tw_50 tw_328) rfl rfl rfl (by decide +kernel) ⟨Nat.le_of_ble_eq_true rfl, Nat.le_of_ble_eq_true rfl⟩) hK (hP.sub [0, 1, 2, 3, 4, 5, 6, 7, 8, 9, 10, 11, 12, 13] rfl) 0 rfl rfl rfl hl.1 rfl (Nat.le_of_ble_eq_true rfl) dX4_takeAway_14) rfl ?_
    obtain ⟨r6, e7, hf⟩ := g_bdS hf
    refine g_contR (st1 := [.ref (a r6)]) (g_runVR (As := [.int r4]) (rest := []) ⟨hx, hb, hml, hown, hts⟩ (qX4_shape l G a e7) (cwV 1 hts (TB_V TB_id tw_329 tw_330 tw_331 tw_50 tw_332) rfl rfl rfl (by decide +kernel) ⟨Nat.le_of_ble_eq_true rfl, Nat.le_of_ble_eq_true rfl⟩) hK (hP.sub [0, 1, 2, 3, 4, 5, 6, 7, 8, 9, 10, 11, 12, 13] rfl) 0 rfl rfl rfl hl.1 rfl (Nat.le_of_ble_eq_true rfl) dX4_takeAway_17) rfl ?_
    by_cases c8 : r6 = 1
    · have hf := g_ifT c8 hf
      subst c8
      refine va_get (D := G.1) (ci := 2) (v := .ref (a 3)) (C := RX3) (T := TX3) (N := 3) hx hb hts hX3 hown hK.1 hP 1 rfl rfl 2 (by decide) (hts _ tw_90) (fun _ h9 => h9) rfl dX4_takeAway_20 ?_
      refine lv_iload_n hx hb dX4_takeAway_23 rfl (lv_at hl 1 rfl) ?_
      obtain ⟨g9, hf⟩ := g_gdS hf
      refine va_iald hx hb hK.1 hP 3 0 rfl rfl (g_in_vp g9) dX4_takeAway_24 ?_
      refine lv_iconst (v := (-1 : Int32)) hx hb dX4_takeAway_25 (by decide) ?_
      refine lv_icmp_ne (tgt := 32) hx hb dX4_takeAway_26 (by decide) (fun c10 => ?_) (fun c10 => ?_)
      · have hf := g_ifF c10 hf
        refine lv_aload_n hx hb dX4_takeAway_32 rfl (lv_at hl 0 rfl) ?_
        refine lv_iload_n hx hb dX4_takeAway_33 rfl (lv_at hl 1 rfl) ?_
        refine lv_iconst (v := (-1 : Int32)) hx hb dX4_takeAway_34 (by decide) ?_
        obtain ⟨r11, e12, hf⟩ := g_bdS hf
        refine g_contC (st1 := [.int r11.1]) (g_runVC (As := [.int p0, .int (-1 : Int32)]) (rest := []) ⟨hx, hb, hml, hown, hts⟩ (qX4_put l G a e12) (cwV 2 hts (TB_V TB_id tw_319 tw_321 tw_2 tw_50 tw_322) rfl rfl rfl (by decide +kernel) ⟨Nat.le_of_ble_eq_true rfl, Nat.le_of_ble_eq_true rfl⟩) hK (hP.sub [0, 1, 2, 3, 4, 5, 6, 7, 8, 9, 10, 11, 12, 13] rfl) (hD.sub [0, 1, 2, 3, 4, 5, 6, 7, 8, 9, 10, 11, 12, 13] (by decide) rfl) 0 rfl rfl rfl hl.1 rfl (Nat.le_of_ble_eq_true rfl) dX4_takeAway_35) rfl hP hD hS hA [0, 1, 2, 3, 4, 5, 6, 7, 8, 9, 10, 11, 12, 13] rfl rfl (fun H locs hP hD hS => ?_)
        have hP : va_P G.1 vwCl [((a 0), .inr (3, [.int r11.2.1, .int r11.2.2.1, .int r11.2.2.2.1, .int r11.2.2.2.2.1, .ref (a 1), .ref (a 4), .ref (a 7), .ref (a 11), .int r11.2.2.2.2.2.2.2.2.2.2.2.2.2.2.1, .ref (a 12), .ref (a 13)])), ((a 1), .inr (2, [.int 0, .ref (a 2), .ref (a 3)])), ((a 2), .inl (G.2.1, 31, .inl r11.2.2.2.2.2.1)), ((a 3), .inl (G.2.1, 31, .inl r11.2.2.2.2.2.2.1)), ((a 4), .inr (2, [.int 1, .ref (a 5), .ref (a 6)])), ((a 5), .inl (G.2.1, 31, .inl r11.2.2.2.2.2.2.2.1)), ((a 6), .inl (G.2.1, 31, .inl r11.2.2.2.2.2.2.2.2.1)), ((a 7), .inr (1, [.int r11.2.2.2.2.2.2.2.2.2.1, .ref (a 8), .ref (a 9), .ref (a 10)])), ((a 8), .inl (G.2.1, 8, .inl r11.2.2.2.2.2.2.2.2.2.2.1)), ((a 9), .inl (G.2.1, 8, .inl r11.2.2.2.2.2.2.2.2.2.2.2.1)), ((a 10), .inl (G.2.1, 8, .inl r11.2.2.2.2.2.2.2.2.2.2.2.2.1)), ((a 11), .inl (G.2.1, 31, .inl r11.2.2.2.2.2.2.2.2.2.2.2.2.2.1)), ((a 12), .inl (G.2.1, 3, .inl r11.2.2.2.2.2.2.2.2.2.2.2.2.2.2.2.1)), ((a 13), .inl (G.2.1, 3, .inl r11.2.2.2.2.2.2.2.2.2.2.2.2.2.2.2.2))] H := hP
        have hD : va_D (va_A (tabW G a ph la po lo ov orr nv nr ql qk qv qr wr wa wc wk) s.heap.size) [((a 0), .inr (3, [.int r11.2.1, .int r11.2.2.1, .int r11.2.2.2.1, .int r11.2.2.2.2.1, .ref (a 1), .ref (a 4), .ref (a 7), .ref (a 11), .int r11.2.2.2.2.2.2.2.2.2.2.2.2.2.2.1, .ref (a 12), .ref (a 13)])), ((a 1), .inr (2, [.int 0, .ref (a 2), .ref (a 3)])), ((a 2), .inl (G.2.1, 31, .inl r11.2.2.2.2.2.1)), ((a 3), .inl (G.2.1, 31, .inl r11.2.2.2.2.2.2.1)), ((a 4), .inr (2, [.int 1, .ref (a 5), .ref (a 6)])), ((a 5), .inl (G.2.1, 31, .inl r11.2.2.2.2.2.2.2.1)), ((a 6), .inl (G.2.1, 31, .inl r11.2.2.2.2.2.2.2.2.1)), ((a 7), .inr (1, [.int r11.2.2.2.2.2.2.2.2.2.1, .ref (a 8), .ref (a 9), .ref (a 10)])), ((a 8), .inl (G.2.1, 8, .inl r11.2.2.2.2.2.2.2.2.2.2.1)), ((a 9), .inl (G.2.1, 8, .inl r11.2.2.2.2.2.2.2.2.2.2.2.1)), ((a 10), .inl (G.2.1, 8, .inl r11.2.2.2.2.2.2.2.2.2.2.2.2.1)), ((a 11), .inl (G.2.1, 31, .inl r11.2.2.2.2.2.2.2.2.2.2.2.2.2.1)), ((a 12), .inl (G.2.1, 3, .inl r11.2.2.2.2.2.2.2.2.2.2.2.2.2.2.2.1)), ((a 13), .inl (G.2.1, 3, .inl r11.2.2.2.2.2.2.2.2.2.2.2.2.2.2.2.2))] := hD
        cases hf
        exact g_iretC hx hb hr hlocks hP hD hS dX4_takeAway_38
      · have hf := g_ifT c10 hf
        refine lv_ldc (v := (-1000002 : Int32)) hx hb hown (hts _ tw_245) dX4_takeAway_29 ?_
        cases hf
        exact g_iretC hx hb hr hlocks hP hD hS dX4_takeAway_31
    have hf := g_ifF c8 hf
    by_cases c13 : r6 = 4
    · have hf := g_ifT c13 hf
      subst c13
      refine va_get (D := G.1) (ci := 2) (v := .ref (a 6)) (C := RX3) (T := TX3) (N := 3) hx hb hts hX3 hown hK.1 hP 4 rfl rfl 2 (by decide) (hts _ tw_90) (fun _ h9 => h9) rfl dX4_takeAway_20 ?_
      refine lv_iload_n hx hb dX4_takeAway_23 rfl (lv_at hl 1 rfl) ?_
      obtain ⟨g14, hf⟩ := g_gdS hf
      refine va_iald hx hb hK.1 hP 6 0 rfl rfl (g_in_vp g14) dX4_takeAway_24 ?_
      refine lv_iconst (v := (-1 : Int32)) hx hb dX4_takeAway_25 (by decide) ?_
      refine lv_icmp_ne (tgt := 32) hx hb dX4_takeAway_26 (by decide) (fun c15 => ?_) (fun c15 => ?_)
      · have hf := g_ifF c15 hf
        refine lv_aload_n hx hb dX4_takeAway_32 rfl (lv_at hl 0 rfl) ?_
        refine lv_iload_n hx hb dX4_takeAway_33 rfl (lv_at hl 1 rfl) ?_
        refine lv_iconst (v := (-1 : Int32)) hx hb dX4_takeAway_34 (by decide) ?_
        obtain ⟨r16, e17, hf⟩ := g_bdS hf
        refine g_contC (st1 := [.int r16.1]) (g_runVC (As := [.int p0, .int (-1 : Int32)]) (rest := []) ⟨hx, hb, hml, hown, hts⟩ (qX4_put l G a e17) (cwV 2 hts (TB_V TB_id tw_319 tw_321 tw_2 tw_50 tw_322) rfl rfl rfl (by decide +kernel) ⟨Nat.le_of_ble_eq_true rfl, Nat.le_of_ble_eq_true rfl⟩) hK (hP.sub [0, 1, 2, 3, 4, 5, 6, 7, 8, 9, 10, 11, 12, 13] rfl) (hD.sub [0, 1, 2, 3, 4, 5, 6, 7, 8, 9, 10, 11, 12, 13] (by decide) rfl) 0 rfl rfl rfl hl.1 rfl (Nat.le_of_ble_eq_true rfl) dX4_takeAway_35) rfl hP hD hS hA [0, 1, 2, 3, 4, 5, 6, 7, 8, 9, 10, 11, 12, 13] rfl rfl (fun H locs hP hD hS => ?_)
        have hP : va_P G.1 vwCl [((a 0), .inr (3, [.int r16.2.1, .int r16.2.2.1, .int r16.2.2.2.1, .int r16.2.2.2.2.1, .ref (a 1), .ref (a 4), .ref (a 7), .ref (a 11), .int r16.2.2.2.2.2.2.2.2.2.2.2.2.2.2.1, .ref (a 12), .ref (a 13)])), ((a 1), .inr (2, [.int 0, .ref (a 2), .ref (a 3)])), ((a 2), .inl (G.2.1, 31, .inl r16.2.2.2.2.2.1)), ((a 3), .inl (G.2.1, 31, .inl r16.2.2.2.2.2.2.1)), ((a 4), .inr (2, [.int 1, .ref (a 5), .ref (a 6)])), ((a 5), .inl (G.2.1, 31, .inl r16.2.2.2.2.2.2.2.1)), ((a 6), .inl (G.2.1, 31, .inl r16.2.2.2.2.2.2.2.2.1)), ((a 7), .inr (1, [.int r16.2.2.2.2.2.2.2.2.2.1, .ref (a 8), .ref (a 9), .ref (a 10)])), ((a 8), .inl (G.2.1, 8, .inl r16.2.2.2.2.2.2.2.2.2.2.1)), ((a 9), .inl (G.2.1, 8, .inl r16.2.2.2.2.2.2.2.2.2.2.2.1)), ((a 10), .inl (G.2.1, 8, .inl r16.2.2.2.2.2.2.2.2.2.2.2.2.1)), ((a 11), .inl (G.2.1, 31, .inl r16.2.2.2.2.2.2.2.2.2.2.2.2.2.1)), ((a 12), .inl (G.2.1, 3, .inl r16.2.2.2.2.2.2.2.2.2.2.2.2.2.2.2.1)), ((a 13), .inl (G.2.1, 3, .inl r16.2.2.2.2.2.2.2.2.2.2.2.2.2.2.2.2))] H := hP
        have hD : va_D (va_A (tabW G a ph la po lo ov orr nv nr ql qk qv qr wr wa wc wk) s.heap.size) [((a 0), .inr (3, [.int r16.2.1, .int r16.2.2.1, .int r16.2.2.2.1, .int r16.2.2.2.2.1, .ref (a 1), .ref (a 4), .ref (a 7), .ref (a 11), .int r16.2.2.2.2.2.2.2.2.2.2.2.2.2.2.1, .ref (a 12), .ref (a 13)])), ((a 1), .inr (2, [.int 0, .ref (a 2), .ref (a 3)])), ((a 2), .inl (G.2.1, 31, .inl r16.2.2.2.2.2.1)), ((a 3), .inl (G.2.1, 31, .inl r16.2.2.2.2.2.2.1)), ((a 4), .inr (2, [.int 1, .ref (a 5), .ref (a 6)])), ((a 5), .inl (G.2.1, 31, .inl r16.2.2.2.2.2.2.2.1)), ((a 6), .inl (G.2.1, 31, .inl r16.2.2.2.2.2.2.2.2.1)), ((a 7), .inr (1, [.int r16.2.2.2.2.2.2.2.2.2.1, .ref (a 8), .ref (a 9), .ref (a 10)])), ((a 8), .inl (G.2.1, 8, .inl r16.2.2.2.2.2.2.2.2.2.2.1)), ((a 9), .inl (G.2.1, 8, .inl r16.2.2.2.2.2.2.2.2.2.2.2.1)), ((a 10), .inl (G.2.1, 8, .inl r16.2.2.2.2.2.2.2.2.2.2.2.2.1)), ((a 11), .inl (G.2.1, 31, .inl r16.2.2.2.2.2.2.2.2.2.2.2.2.2.1)), ((a 12), .inl (G.2.1, 3, .inl r16.2.2.2.2.2.2.2.2.2.2.2.2.2.2.2.1)), ((a 13), .inl (G.2.1, 3, .inl r16.2.2.2.2.2.2.2.2.2.2.2.2.2.2.2.2))] := hD
        cases hf
        exact g_iretC hx hb hr hlocks hP hD hS dX4_takeAway_38
      · have hf := g_ifT c15 hf
        refine lv_ldc (v := (-1000002 : Int32)) hx hb hown (hts _ tw_245) dX4_takeAway_29 ?_
        cases hf
        exact g_iretC hx hb hr hlocks hP hD hS dX4_takeAway_31
    have hf := g_ifF c13 hf
    cases hf
  · have hf := g_ifT c3 hf
    refine lv_ldc (v := (-1000001 : Int32)) hx hb hown (hts _ tw_312) dX4_takeAway_9 ?_
    cases hf
    exact g_iretC hx hb hr hlocks hP hD hS dX4_takeAway_11
end
