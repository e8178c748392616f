-- ===== PART A: goes FIRST, ahead of the names: the tables' words, and 'selects' of the private methods out of them =====
/-- a private method of a class that the tables say can be made, by its rows of tables_1 -/
def lw_okq (q : MethodName × Nat) : Prop := (q.1.cls ≠ "java/lang/invoke/MethodHandle" ∧ q.1.cls ≠ "java/lang/invoke/VarHandle") ∧ Cond.instantiable q.1.cls q.2 ∈ tables_1 ∧ Cond.privateMethod q.1 ∈ tables_1 ∧ Cond.instanceMethod q.1 ∈ tables_1
theorem lw_p0 : lw_okq (⟨"BannisterCabinet", "layOut", "()Z"⟩, 8) := ⟨⟨by decide +kernel, by decide +kernel⟩, List.mem_of_getElem? (i := 18) (by decide +kernel), List.mem_of_getElem? (i := 237) (by decide +kernel), List.mem_of_getElem? (i := 238) (by decide +kernel)⟩
theorem lw_p1 : lw_okq (⟨"BannisterCabinet$Reader", "readNumbers", "(LBannisterCabinet$Text;I)I"⟩, 5) := ⟨⟨by decide +kernel, by decide +kernel⟩, List.mem_of_getElem? (i := 43) (by decide +kernel), List.mem_of_getElem? (i := 256) (by decide +kernel), List.mem_of_getElem? (i := 257) (by decide +kernel)⟩
theorem lw_p2 : lw_okq (⟨"BannisterCabinet$Reader", "addNumber", "(I)Z"⟩, 5) := ⟨⟨by decide +kernel, by decide +kernel⟩, List.mem_of_getElem? (i := 43) (by decide +kernel), List.mem_of_getElem? (i := 260) (by decide +kernel), List.mem_of_getElem? (i := 261) (by decide +kernel)⟩
theorem lw_p3 : lw_okq (⟨"BannisterCabinet$Reader", "takeItem", "(C)Z"⟩, 5) := ⟨⟨by decide +kernel, by decide +kernel⟩, List.mem_of_getElem? (i := 43) (by decide +kernel), List.mem_of_getElem? (i := 264) (by decide +kernel), List.mem_of_getElem? (i := 265) (by decide +kernel)⟩
theorem lw_p4 : lw_okq (⟨"BannisterCabinet$Reader", "takeSteps", "()Z"⟩, 5) := ⟨⟨by decide +kernel, by decide +kernel⟩, List.mem_of_getElem? (i := 43) (by decide +kernel), List.mem_of_getElem? (i := 268) (by decide +kernel), List.mem_of_getElem? (i := 269) (by decide +kernel)⟩
theorem lw_p5 : lw_okq (⟨"BannisterCabinet$Reader", "takeWax", "()Z"⟩, 5) := ⟨⟨by decide +kernel, by decide +kernel⟩, List.mem_of_getElem? (i := 43) (by decide +kernel), List.mem_of_getElem? (i := 275) (by decide +kernel), List.mem_of_getElem? (i := 276) (by decide +kernel)⟩
theorem lw_p6 : lw_okq (⟨"BannisterCabinet$Reader", "takeKnob", "()Z"⟩, 5) := ⟨⟨by decide +kernel, by decide +kernel⟩, List.mem_of_getElem? (i := 43) (by decide +kernel), List.mem_of_getElem? (i := 283) (by decide +kernel), List.mem_of_getElem? (i := 284) (by decide +kernel)⟩
theorem lw_p7 : lw_okq (⟨"BannisterCabinet$Reader", "tellsOneStep", "()Z"⟩, 5) := ⟨⟨by decide +kernel, by decide +kernel⟩, List.mem_of_getElem? (i := 43) (by decide +kernel), List.mem_of_getElem? (i := 287) (by decide +kernel), List.mem_of_getElem? (i := 288) (by decide +kernel)⟩
theorem lw_p8 : lw_okq (⟨"BannisterCabinet$Reader", "takeTurning", "()Z"⟩, 5) := ⟨⟨by decide +kernel, by decide +kernel⟩, List.mem_of_getElem? (i := 43) (by decide +kernel), List.mem_of_getElem? (i := 291) (by decide +kernel), List.mem_of_getElem? (i := 292) (by decide +kernel)⟩
theorem lw_p9 : lw_okq (⟨"BannisterCabinet$Reader", "takeMinister", "()Z"⟩, 5) := ⟨⟨by decide +kernel, by decide +kernel⟩, List.mem_of_getElem? (i := 43) (by decide +kernel), List.mem_of_getElem? (i := 295) (by decide +kernel), List.mem_of_getElem? (i := 296) (by decide +kernel)⟩
theorem lw_p10 : lw_okq (⟨"BannisterCabinet$Reader", "takeFunds", "()Z"⟩, 5) := ⟨⟨by decide +kernel, by decide +kernel⟩, List.mem_of_getElem? (i := 43) (by decide +kernel), List.mem_of_getElem? (i := 299) (by decide +kernel), List.mem_of_getElem? (i := 300) (by decide +kernel)⟩
theorem lw_p11 : lw_okq (⟨"BannisterCabinet$Standing", "takeTurn", "(I)V"⟩, 7) := ⟨⟨by decide +kernel, by decide +kernel⟩, List.mem_of_getElem? (i := 83) (by decide +kernel), List.mem_of_getElem? (i := 412) (by decide +kernel), List.mem_of_getElem? (i := 413) (by decide +kernel)⟩
theorem lw_p12 : lw_okq (⟨"BannisterCabinet$Standing", "comeDown", "(II)V"⟩, 7) := ⟨⟨by decide +kernel, by decide +kernel⟩, List.mem_of_getElem? (i := 83) (by decide +kernel), List.mem_of_getElem? (i := 417) (by decide +kernel), List.mem_of_getElem? (i := 418) (by decide +kernel)⟩
theorem lw_p13 : lw_okq (⟨"BannisterCabinet", "governsByWax", "(IIII)Z"⟩, 8) := ⟨⟨by decide +kernel, by decide +kernel⟩, List.mem_of_getElem? (i := 18) (by decide +kernel), List.mem_of_getElem? (i := 484) (by decide +kernel), List.mem_of_getElem? (i := 485) (by decide +kernel)⟩
theorem lw_p14 : lw_okq (⟨"BannisterCabinet", "holdsBySand", "(III)Z"⟩, 8) := ⟨⟨by decide +kernel, by decide +kernel⟩, List.mem_of_getElem? (i := 18) (by decide +kernel), List.mem_of_getElem? (i := 492) (by decide +kernel), List.mem_of_getElem? (i := 493) (by decide +kernel)⟩
theorem lw_p15 : lw_okq (⟨"BannisterCabinet", "smallestCabinet", "()I"⟩, 8) := ⟨⟨by decide +kernel, by decide +kernel⟩, List.mem_of_getElem? (i := 18) (by decide +kernel), List.mem_of_getElem? (i := 500) (by decide +kernel), List.mem_of_getElem? (i := 501) (by decide +kernel)⟩
def lw_privs_1 : List (MethodName × Nat) := [(⟨"BannisterCabinet", "layOut", "()Z"⟩, 8), (⟨"BannisterCabinet$Reader", "readNumbers", "(LBannisterCabinet$Text;I)I"⟩, 5), (⟨"BannisterCabinet$Reader", "addNumber", "(I)Z"⟩, 5), (⟨"BannisterCabinet$Reader", "takeItem", "(C)Z"⟩, 5), (⟨"BannisterCabinet$Reader", "takeSteps", "()Z"⟩, 5), (⟨"BannisterCabinet$Reader", "takeWax", "()Z"⟩, 5), (⟨"BannisterCabinet$Reader", "takeKnob", "()Z"⟩, 5), (⟨"BannisterCabinet$Reader", "tellsOneStep", "()Z"⟩, 5), (⟨"BannisterCabinet$Reader", "takeTurning", "()Z"⟩, 5), (⟨"BannisterCabinet$Reader", "takeMinister", "()Z"⟩, 5), (⟨"BannisterCabinet$Reader", "takeFunds", "()Z"⟩, 5), (⟨"BannisterCabinet$Standing", "takeTurn", "(I)V"⟩, 7), (⟨"BannisterCabinet$Standing", "comeDown", "(II)V"⟩, 7), (⟨"BannisterCabinet", "governsByWax", "(IIII)Z"⟩, 8), (⟨"BannisterCabinet", "holdsBySand", "(III)Z"⟩, 8), (⟨"BannisterCabinet", "smallestCabinet", "()I"⟩, 8)]
theorem lw_r1 : ∀ q ∈ lw_privs_1, lw_okq q := List.forall_mem_cons.mpr ⟨lw_p0, List.forall_mem_cons.mpr ⟨lw_p1, List.forall_mem_cons.mpr ⟨lw_p2, List.forall_mem_cons.mpr ⟨lw_p3, List.forall_mem_cons.mpr ⟨lw_p4, List.forall_mem_cons.mpr ⟨lw_p5, List.forall_mem_cons.mpr ⟨lw_p6, List.forall_mem_cons.mpr ⟨lw_p7, List.forall_mem_cons.mpr ⟨lw_p8, List.forall_mem_cons.mpr ⟨lw_p9, List.forall_mem_cons.mpr ⟨lw_p10, List.forall_mem_cons.mpr ⟨lw_p11, List.forall_mem_cons.mpr ⟨lw_p12, List.forall_mem_cons.mpr ⟨lw_p13, List.forall_mem_cons.mpr ⟨lw_p14, List.forall_mem_cons.mpr ⟨lw_p15, fun _ h => absurd h List.not_mem_nil⟩⟩⟩⟩⟩⟩⟩⟩⟩⟩⟩⟩⟩⟩⟩⟩
theorem lw_p16 : lw_okq (⟨"BannisterCabinet", "bitIfSeen", "(I)I"⟩, 8) := ⟨⟨by decide +kernel, by decide +kernel⟩, List.mem_of_getElem? (i := 18) (by decide +kernel), List.mem_of_getElem? (i := 530) (by decide +kernel), List.mem_of_getElem? (i := 531) (by decide +kernel)⟩
theorem lw_p17 : lw_okq (⟨"BannisterCabinet", "governsByPath", "(III)Z"⟩, 8) := ⟨⟨by decide +kernel, by decide +kernel⟩, List.mem_of_getElem? (i := 18) (by decide +kernel), List.mem_of_getElem? (i := 552) (by decide +kernel), List.mem_of_getElem? (i := 553) (by decide +kernel)⟩
theorem lw_p18 : lw_okq (⟨"BannisterCabinetModel", "empty", "()V"⟩, 16) := ⟨⟨by decide +kernel, by decide +kernel⟩, List.mem_of_getElem? (i := 596) (by decide +kernel), List.mem_of_getElem? (i := 602) (by decide +kernel), List.mem_of_getElem? (i := 603) (by decide +kernel)⟩
theorem lw_p19 : lw_okq (⟨"BannisterCabinetModel", "firstOne", "(III)V"⟩, 16) := ⟨⟨by decide +kernel, by decide +kernel⟩, List.mem_of_getElem? (i := 596) (by decide +kernel), List.mem_of_getElem? (i := 606) (by decide +kernel), List.mem_of_getElem? (i := 607) (by decide +kernel)⟩
theorem lw_p20 : lw_okq (⟨"BannisterCabinetModel", "begin", "()V"⟩, 16) := ⟨⟨by decide +kernel, by decide +kernel⟩, List.mem_of_getElem? (i := 596) (by decide +kernel), List.mem_of_getElem? (i := 610) (by decide +kernel), List.mem_of_getElem? (i := 611) (by decide +kernel)⟩
theorem lw_p21 : lw_okq (⟨"BannisterCabinetModel", "readAll", "()I"⟩, 16) := ⟨⟨by decide +kernel, by decide +kernel⟩, List.mem_of_getElem? (i := 596) (by decide +kernel), List.mem_of_getElem? (i := 680) (by decide +kernel), List.mem_of_getElem? (i := 681) (by decide +kernel)⟩
theorem lw_p22 : lw_okq (⟨"BannisterCabinetModel", "item", "()Z"⟩, 16) := ⟨⟨by decide +kernel, by decide +kernel⟩, List.mem_of_getElem? (i := 596) (by decide +kernel), List.mem_of_getElem? (i := 684) (by decide +kernel), List.mem_of_getElem? (i := 685) (by decide +kernel)⟩
theorem lw_p23 : lw_okq (⟨"BannisterCabinetModel", "letterAt", "(I)I"⟩, 16) := ⟨⟨by decide +kernel, by decide +kernel⟩, List.mem_of_getElem? (i := 596) (by decide +kernel), List.mem_of_getElem? (i := 688) (by decide +kernel), List.mem_of_getElem? (i := 689) (by decide +kernel)⟩
theorem lw_p24 : lw_okq (⟨"BannisterCabinetModel", "numbers", "(I)Z"⟩, 16) := ⟨⟨by decide +kernel, by decide +kernel⟩, List.mem_of_getElem? (i := 596) (by decide +kernel), List.mem_of_getElem? (i := 692) (by decide +kernel), List.mem_of_getElem? (i := 693) (by decide +kernel)⟩
theorem lw_p25 : lw_okq (⟨"BannisterCabinetModel", "ministerItem", "()Z"⟩, 16) := ⟨⟨by decide +kernel, by decide +kernel⟩, List.mem_of_getElem? (i := 596) (by decide +kernel), List.mem_of_getElem? (i := 701) (by decide +kernel), List.mem_of_getElem? (i := 702) (by decide +kernel)⟩
theorem lw_p26 : lw_okq (⟨"BannisterCabinetModel", "isOne", "(I)Z"⟩, 16) := ⟨⟨by decide +kernel, by decide +kernel⟩, List.mem_of_getElem? (i := 596) (by decide +kernel), List.mem_of_getElem? (i := 713) (by decide +kernel), List.mem_of_getElem? (i := 714) (by decide +kernel)⟩
theorem lw_p27 : lw_okq (⟨"BannisterCabinetModel", "aside", "()V"⟩, 16) := ⟨⟨by decide +kernel, by decide +kernel⟩, List.mem_of_getElem? (i := 596) (by decide +kernel), List.mem_of_getElem? (i := 718) (by decide +kernel), List.mem_of_getElem? (i := 719) (by decide +kernel)⟩
theorem lw_p28 : lw_okq (⟨"BannisterCabinetModel", "lack", "(I)I"⟩, 16) := ⟨⟨by decide +kernel, by decide +kernel⟩, List.mem_of_getElem? (i := 596) (by decide +kernel), List.mem_of_getElem? (i := 722) (by decide +kernel), List.mem_of_getElem? (i := 723) (by decide +kernel)⟩
theorem lw_p29 : lw_okq (⟨"BannisterCabinetModel", "isStep", "(I)Z"⟩, 16) := ⟨⟨by decide +kernel, by decide +kernel⟩, List.mem_of_getElem? (i := 596) (by decide +kernel), List.mem_of_getElem? (i := 730) (by decide +kernel), List.mem_of_getElem? (i := 731) (by decide +kernel)⟩
theorem lw_p30 : lw_okq (⟨"BannisterCabinetModel", "note", "()V"⟩, 16) := ⟨⟨by decide +kernel, by decide +kernel⟩, List.mem_of_getElem? (i := 596) (by decide +kernel), List.mem_of_getElem? (i := 739) (by decide +kernel), List.mem_of_getElem? (i := 740) (by decide +kernel)⟩
theorem lw_p31 : lw_okq (⟨"BannisterCabinetModel", "goYears", "(I)V"⟩, 16) := ⟨⟨by decide +kernel, by decide +kernel⟩, List.mem_of_getElem? (i := 596) (by decide +kernel), List.mem_of_getElem? (i := 743) (by decide +kernel), List.mem_of_getElem? (i := 744) (by decide +kernel)⟩
def lw_privs_2 : List (MethodName × Nat) := [(⟨"BannisterCabinet", "bitIfSeen", "(I)I"⟩, 8), (⟨"BannisterCabinet", "governsByPath", "(III)Z"⟩, 8), (⟨"BannisterCabinetModel", "empty", "()V"⟩, 16), (⟨"BannisterCabinetModel", "firstOne", "(III)V"⟩, 16), (⟨"BannisterCabinetModel", "begin", "()V"⟩, 16), (⟨"BannisterCabinetModel", "readAll", "()I"⟩, 16), (⟨"BannisterCabinetModel", "item", "()Z"⟩, 16), (⟨"BannisterCabinetModel", "letterAt", "(I)I"⟩, 16), (⟨"BannisterCabinetModel", "numbers", "(I)Z"⟩, 16), (⟨"BannisterCabinetModel", "ministerItem", "()Z"⟩, 16), (⟨"BannisterCabinetModel", "isOne", "(I)Z"⟩, 16), (⟨"BannisterCabinetModel", "aside", "()V"⟩, 16), (⟨"BannisterCabinetModel", "lack", "(I)I"⟩, 16), (⟨"BannisterCabinetModel", "isStep", "(I)Z"⟩, 16), (⟨"BannisterCabinetModel", "note", "()V"⟩, 16), (⟨"BannisterCabinetModel", "goYears", "(I)V"⟩, 16)]
theorem lw_r2 : ∀ q ∈ lw_privs_2, lw_okq q := List.forall_mem_cons.mpr ⟨lw_p16, List.forall_mem_cons.mpr ⟨lw_p17, List.forall_mem_cons.mpr ⟨lw_p18, List.forall_mem_cons.mpr ⟨lw_p19, List.forall_mem_cons.mpr ⟨lw_p20, List.forall_mem_cons.mpr ⟨lw_p21, List.forall_mem_cons.mpr ⟨lw_p22, List.forall_mem_cons.mpr ⟨lw_p23, List.forall_mem_cons.mpr ⟨lw_p24, List.forall_mem_cons.mpr ⟨lw_p25, List.forall_mem_cons.mpr ⟨lw_p26, List.forall_mem_cons.mpr ⟨lw_p27, List.forall_mem_cons.mpr ⟨lw_p28, List.forall_mem_cons.mpr ⟨lw_p29, List.forall_mem_cons.mpr ⟨lw_p30, List.forall_mem_cons.mpr ⟨lw_p31, fun _ h => absurd h List.not_mem_nil⟩⟩⟩⟩⟩⟩⟩⟩⟩⟩⟩⟩⟩⟩⟩⟩
theorem lw_p32 : lw_okq (⟨"BannisterCabinetModel", "goYear", "()V"⟩, 16) := ⟨⟨by decide +kernel, by decide +kernel⟩, List.mem_of_getElem? (i := 596) (by decide +kernel), List.mem_of_getElem? (i := 747) (by decide +kernel), List.mem_of_getElem? (i := 748) (by decide +kernel)⟩
theorem lw_p33 : lw_okq (⟨"BannisterCabinetModel", "goOne", "(I)V"⟩, 16) := ⟨⟨by decide +kernel, by decide +kernel⟩, List.mem_of_getElem? (i := 596) (by decide +kernel), List.mem_of_getElem? (i := 751) (by decide +kernel), List.mem_of_getElem? (i := 752) (by decide +kernel)⟩
theorem lw_p34 : lw_okq (⟨"BannisterCabinetModel", "slideDown", "(II)V"⟩, 16) := ⟨⟨by decide +kernel, by decide +kernel⟩, List.mem_of_getElem? (i := 596) (by decide +kernel), List.mem_of_getElem? (i := 755) (by decide +kernel), List.mem_of_getElem? (i := 756) (by decide +kernel)⟩
theorem lw_p35 : lw_okq (⟨"BannisterCabinetModel", "stops", "(II)Z"⟩, 16) := ⟨⟨by decide +kernel, by decide +kernel⟩, List.mem_of_getElem? (i := 596) (by decide +kernel), List.mem_of_getElem? (i := 759) (by decide +kernel), List.mem_of_getElem? (i := 760) (by decide +kernel)⟩
theorem lw_p36 : lw_okq (⟨"BannisterCabinetModel", "governor", "()I"⟩, 16) := ⟨⟨by decide +kernel, by decide +kernel⟩, List.mem_of_getElem? (i := 596) (by decide +kernel), List.mem_of_getElem? (i := 766) (by decide +kernel), List.mem_of_getElem? (i := 767) (by decide +kernel)⟩
theorem lw_p37 : lw_okq (⟨"BannisterCabinetModel", "take", "()V"⟩, 16) := ⟨⟨by decide +kernel, by decide +kernel⟩, List.mem_of_getElem? (i := 596) (by decide +kernel), List.mem_of_getElem? (i := 770) (by decide +kernel), List.mem_of_getElem? (i := 771) (by decide +kernel)⟩
theorem lw_p38 : lw_okq (⟨"BannisterCabinetModel", "governsWith", "(IIII)Z"⟩, 16) := ⟨⟨by decide +kernel, by decide +kernel⟩, List.mem_of_getElem? (i := 596) (by decide +kernel), List.mem_of_getElem? (i := 815) (by decide +kernel), List.mem_of_getElem? (i := 816) (by decide +kernel)⟩
theorem lw_p39 : lw_okq (⟨"BannisterCabinetModel", "holds", "(III)Z"⟩, 16) := ⟨⟨by decide +kernel, by decide +kernel⟩, List.mem_of_getElem? (i := 596) (by decide +kernel), List.mem_of_getElem? (i := 823) (by decide +kernel), List.mem_of_getElem? (i := 824) (by decide +kernel)⟩
theorem lw_p40 : lw_okq (⟨"BannisterCabinetModel", "weight", "(I)I"⟩, 16) := ⟨⟨by decide +kernel, by decide +kernel⟩, List.mem_of_getElem? (i := 596) (by decide +kernel), List.mem_of_getElem? (i := 834) (by decide +kernel), List.mem_of_getElem? (i := 835) (by decide +kernel)⟩
theorem lw_p41 : lw_okq (⟨"BannisterCabinetModel", "isSeen", "()Z"⟩, 16) := ⟨⟨by decide +kernel, by decide +kernel⟩, List.mem_of_getElem? (i := 596) (by decide +kernel), List.mem_of_getElem? (i := 850) (by decide +kernel), List.mem_of_getElem? (i := 851) (by decide +kernel)⟩
theorem lw_p42 : lw_okq (⟨"BannisterCabinetModel", "more", "(II)V"⟩, 16) := ⟨⟨by decide +kernel, by decide +kernel⟩, List.mem_of_getElem? (i := 596) (by decide +kernel), List.mem_of_getElem? (i := 864) (by decide +kernel), List.mem_of_getElem? (i := 865) (by decide +kernel)⟩
theorem lw_p43 : lw_okq (⟨"BannisterCabinetModel", "waxInAll", "()I"⟩, 16) := ⟨⟨by decide +kernel, by decide +kernel⟩, List.mem_of_getElem? (i := 596) (by decide +kernel), List.mem_of_getElem? (i := 889) (by decide +kernel), List.mem_of_getElem? (i := 890) (by decide +kernel)⟩
def lw_privs_3 : List (MethodName × Nat) := [(⟨"BannisterCabinetModel", "goYear", "()V"⟩, 16), (⟨"BannisterCabinetModel", "goOne", "(I)V"⟩, 16), (⟨"BannisterCabinetModel", "slideDown", "(II)V"⟩, 16), (⟨"BannisterCabinetModel", "stops", "(II)Z"⟩, 16), (⟨"BannisterCabinetModel", "governor", "()I"⟩, 16), (⟨"BannisterCabinetModel", "take", "()V"⟩, 16), (⟨"BannisterCabinetModel", "governsWith", "(IIII)Z"⟩, 16), (⟨"BannisterCabinetModel", "holds", "(III)Z"⟩, 16), (⟨"BannisterCabinetModel", "weight", "(I)I"⟩, 16), (⟨"BannisterCabinetModel", "isSeen", "()Z"⟩, 16), (⟨"BannisterCabinetModel", "more", "(II)V"⟩, 16), (⟨"BannisterCabinetModel", "waxInAll", "()I"⟩, 16)]
theorem lw_r3 : ∀ q ∈ lw_privs_3, lw_okq q := List.forall_mem_cons.mpr ⟨lw_p32, List.forall_mem_cons.mpr ⟨lw_p33, List.forall_mem_cons.mpr ⟨lw_p34, List.forall_mem_cons.mpr ⟨lw_p35, List.forall_mem_cons.mpr ⟨lw_p36, List.forall_mem_cons.mpr ⟨lw_p37, List.forall_mem_cons.mpr ⟨lw_p38, List.forall_mem_cons.mpr ⟨lw_p39, List.forall_mem_cons.mpr ⟨lw_p40, List.forall_mem_cons.mpr ⟨lw_p41, List.forall_mem_cons.mpr ⟨lw_p42, List.forall_mem_cons.mpr ⟨lw_p43, fun _ h => absurd h List.not_mem_nil⟩⟩⟩⟩⟩⟩⟩⟩⟩⟩⟩⟩
def lw_privs : List (MethodName × Nat) := lw_privs_1 ++ (lw_privs_2 ++ (lw_privs_3))
def lw_tbl : List Cond := k2_sels lw_privs ++ tables_1
theorem lw_privs_ok : ∀ q ∈ lw_privs, lw_okq q := by
  show ∀ q ∈ lw_privs_1 ++ (lw_privs_2 ++ (lw_privs_3)), lw_okq q
  exact List.forall_mem_append.mpr ⟨lw_r1, List.forall_mem_append.mpr ⟨lw_r2, lw_r3⟩⟩
-- ===== end of PART A; then your names; then what follows =====
def RX0 : String := "BannisterCabinet$Plan"
def TX0 : u_T := fun k => match k with
  | 0 => ("BannisterCabinet$Plan", "kind", "[I", true)
  | 1 => ("BannisterCabinet$Plan", "ministers", "I", false)
  | 2 => ("BannisterCabinet$Plan", "steps", "I", false)
  | 3 => ("BannisterCabinet$Plan", "knobs", "I", false)
  | _ => ("BannisterCabinet$Plan", "turns", "I", false)
def tyX0 : Nat → FieldType := fun k => match k with
  | 0 => .array .int
  | 1 => .int
  | 2 => .int
  | 3 => .int
  | _ => .int
theorem nmX0 : ∀ a, a < 5 → ∀ b, b < 5 → a ≠ b → (TX0 a).2.1 ≠ (TX0 b).2.1 := by decide +kernel
theorem tyX0_ok : ∀ k, k < 5 → parseFieldDescriptor (TX0 k).2.2.1 = some (tyX0 k) := by decide +kernel
abbrev cX0_init : ByteArray := prog_2_method_1_code
def yX0_init : MethodName := ⟨RX0, "<init>", "()V"⟩
abbrev cX0_clear : ByteArray := prog_2_method_2_code
def yX0_clear : MethodName := ⟨RX0, "clear", "()V"⟩
abbrev cX0_copy : ByteArray := prog_2_method_3_code
def yX0_copy : MethodName := ⟨RX0, "copy", "(LBannisterCabinet$Plan;)V"⟩
abbrev cX0_hasMinister : ByteArray := prog_2_method_4_code
def yX0_hasMinister : MethodName := ⟨RX0, "hasMinister", "(I)Z"⟩
abbrev cX0_hasStep : ByteArray := prog_2_method_5_code
def yX0_hasStep : MethodName := ⟨RX0, "hasStep", "(I)Z"⟩
abbrev cX0_isTop : ByteArray := prog_2_method_6_code
def yX0_isTop : MethodName := ⟨RX0, "isTop", "(I)Z"⟩
abbrev cX0_hasKnob : ByteArray := prog_2_method_7_code
def yX0_hasKnob : MethodName := ⟨RX0, "hasKnob", "(I)Z"⟩
abbrev cX0_hasTurn : ByteArray := prog_2_method_8_code
def yX0_hasTurn : MethodName := ⟨RX0, "hasTurn", "(I)Z"⟩
def RX1 : String := "BannisterCabinet$Reader"
def TX1 : u_T := fun k => match k with
  | 0 => ("BannisterCabinet$Reader", "plan", "LBannisterCabinet$Plan;", true)
  | 1 => ("BannisterCabinet$Reader", "start", "LBannisterCabinet$Standing;", true)
  | 2 => ("BannisterCabinet$Reader", "numbers", "[I", true)
  | 3 => ("BannisterCabinet$Reader", "numbersRead", "I", false)
  | _ => ("BannisterCabinet$Reader", "onlySteps", "Z", false)
def tyX1 : Nat → FieldType := fun k => match k with
  | 0 => .object "BannisterCabinet$Plan"
  | 1 => .object "BannisterCabinet$Standing"
  | 2 => .array .int
  | 3 => .int
  | _ => .boolean
theorem nmX1 : ∀ a, a < 5 → ∀ b, b < 5 → a ≠ b → (TX1 a).2.1 ≠ (TX1 b).2.1 := by decide +kernel
theorem tyX1_ok : ∀ k, k < 5 → parseFieldDescriptor (TX1 k).2.2.1 = some (tyX1 k) := by decide +kernel
abbrev cX1_init : ByteArray := prog_3_method_1_code
def yX1_init : MethodName := ⟨RX1, "<init>", "()V"⟩
abbrev cX1_firstFault : ByteArray := prog_3_method_2_code
def yX1_firstFault : MethodName := ⟨RX1, "firstFault", "(LBannisterCabinet$Text;)I"⟩
abbrev cX1_readNumbers : ByteArray := prog_3_method_3_code
def yX1_readNumbers : MethodName := ⟨RX1, "readNumbers", "(LBannisterCabinet$Text;I)I"⟩
abbrev cX1_addNumber : ByteArray := prog_3_method_4_code
def yX1_addNumber : MethodName := ⟨RX1, "addNumber", "(I)Z"⟩
abbrev cX1_takeItem : ByteArray := prog_3_method_5_code
def yX1_takeItem : MethodName := ⟨RX1, "takeItem", "(C)Z"⟩
abbrev cX1_takeSteps : ByteArray := prog_3_method_6_code
def yX1_takeSteps : MethodName := ⟨RX1, "takeSteps", "()Z"⟩
abbrev cX1_takeWax : ByteArray := prog_3_method_7_code
def yX1_takeWax : MethodName := ⟨RX1, "takeWax", "()Z"⟩
abbrev cX1_takeKnob : ByteArray := prog_3_method_8_code
def yX1_takeKnob : MethodName := ⟨RX1, "takeKnob", "()Z"⟩
abbrev cX1_takeTurning : ByteArray := prog_3_method_9_code
def yX1_takeTurning : MethodName := ⟨RX1, "takeTurning", "()Z"⟩
abbrev cX1_tellsOneStep : ByteArray := prog_3_method_10_code
def yX1_tellsOneStep : MethodName := ⟨RX1, "tellsOneStep", "()Z"⟩
abbrev cX1_takeMinister : ByteArray := prog_3_method_11_code
def yX1_takeMinister : MethodName := ⟨RX1, "takeMinister", "()Z"⟩
abbrev cX1_takeFunds : ByteArray := prog_3_method_12_code
def yX1_takeFunds : MethodName := ⟨RX1, "takeFunds", "()Z"⟩
def RX2 : String := "BannisterCabinet$Shelf"
def TX2 : u_T := fun k => match k with
  | 0 => ("BannisterCabinet$Shelf", "rows", "[LBannisterCabinet$Standing;", true)
  | 1 => ("BannisterCabinet$Shelf", "size", "I", false)
  | _ => ("BannisterCabinet$Shelf", "next", "I", false)
def tyX2 : Nat → FieldType := fun k => match k with
  | 0 => .array (.object "BannisterCabinet$Standing")
  | 1 => .int
  | _ => .int
theorem nmX2 : ∀ a, a < 3 → ∀ b, b < 3 → a ≠ b → (TX2 a).2.1 ≠ (TX2 b).2.1 := by decide +kernel
theorem tyX2_ok : ∀ k, k < 3 → parseFieldDescriptor (TX2 k).2.2.1 = some (tyX2 k) := by decide +kernel
abbrev cX2_init : ByteArray := prog_4_method_1_code
def yX2_init : MethodName := ⟨RX2, "<init>", "(LBannisterCabinet$Plan;I)V"⟩
abbrev cX2_isFull : ByteArray := prog_4_method_2_code
def yX2_isFull : MethodName := ⟨RX2, "isFull", "()Z"⟩
abbrev cX2_put : ByteArray := prog_4_method_3_code
def yX2_put : MethodName := ⟨RX2, "put", "(LBannisterCabinet$Standing;)V"⟩
abbrev cX2_takeLatest : ByteArray := prog_4_method_4_code
def yX2_takeLatest : MethodName := ⟨RX2, "takeLatest", "(LBannisterCabinet$Standing;)Z"⟩
def RX3 : String := "BannisterCabinet$Sightings"
def TX3 : u_T := fun k => match k with
  | 0 => ("BannisterCabinet$Sightings", "who", "[I", true)
  | 1 => ("BannisterCabinet$Sightings", "where", "[I", true)
  | _ => ("BannisterCabinet$Sightings", "size", "I", false)
def tyX3 : Nat → FieldType := fun k => match k with
  | 0 => .array .int
  | 1 => .array .int
  | _ => .int
theorem nmX3 : ∀ a, a < 3 → ∀ b, b < 3 → a ≠ b → (TX3 a).2.1 ≠ (TX3 b).2.1 := by decide +kernel
theorem tyX3_ok : ∀ k, k < 3 → parseFieldDescriptor (TX3 k).2.2.1 = some (tyX3 k) := by decide +kernel
abbrev cX3_init : ByteArray := prog_5_method_1_code
def yX3_init : MethodName := ⟨RX3, "<init>", "()V"⟩
abbrev cX3_add : ByteArray := prog_5_method_2_code
def yX3_add : MethodName := ⟨RX3, "add", "(II)Z"⟩
abbrev cX3_allHoldIn : ByteArray := prog_5_method_3_code
def yX3_allHoldIn : MethodName := ⟨RX3, "allHoldIn", "(LBannisterCabinet$Standing;)Z"⟩
def RX4 : String := "BannisterCabinet$Standing"
def TX4 : u_T := fun k => match k with
  | 0 => ("BannisterCabinet$Standing", "plan", "LBannisterCabinet$Plan;", true)
  | 1 => ("BannisterCabinet$Standing", "wax", "[I", true)
  | 2 => ("BannisterCabinet$Standing", "place", "[I", true)
  | 3 => ("BannisterCabinet$Standing", "grip", "[I", true)
  | 4 => ("BannisterCabinet$Standing", "reign", "[I", true)
  | 5 => ("BannisterCabinet$Standing", "funds", "I", false)
  | _ => ("BannisterCabinet$Standing", "year", "I", false)
def tyX4 : Nat → FieldType := fun k => match k with
  | 0 => .object "BannisterCabinet$Plan"
  | 1 => .array .int
  | 2 => .array .int
  | 3 => .array .int
  | 4 => .array .int
  | 5 => .int
  | _ => .int
theorem nmX4 : ∀ a, a < 7 → ∀ b, b < 7 → a ≠ b → (TX4 a).2.1 ≠ (TX4 b).2.1 := by decide +kernel
theorem tyX4_ok : ∀ k, k < 7 → parseFieldDescriptor (TX4 k).2.2.1 = some (tyX4 k) := by decide +kernel
abbrev cX4_init : ByteArray := prog_6_method_1_code
def yX4_init : MethodName := ⟨RX4, "<init>", "(LBannisterCabinet$Plan;)V"⟩
abbrev cX4_clear : ByteArray := prog_6_method_2_code
def yX4_clear : MethodName := ⟨RX4, "clear", "()V"⟩
abbrev cX4_copy : ByteArray := prog_6_method_3_code
def yX4_copy : MethodName := ⟨RX4, "copy", "(LBannisterCabinet$Standing;)V"⟩
abbrev cX4_governor : ByteArray := prog_6_method_4_code
def yX4_governor : MethodName := ⟨RX4, "governor", "()I"⟩
abbrev cX4_howManyOn : ByteArray := prog_6_method_5_code
def yX4_howManyOn : MethodName := ⟨RX4, "howManyOn", "(I)I"⟩
abbrev cX4_allWax : ByteArray := prog_6_method_6_code
def yX4_allWax : MethodName := ⟨RX4, "allWax", "()I"⟩
abbrev cX4_weightOfSet : ByteArray := prog_6_method_7_code
def yX4_weightOfSet : MethodName := ⟨RX4, "weightOfSet", "(I)I"⟩
abbrev cX4_addWax : ByteArray := prog_6_method_8_code
def yX4_addWax : MethodName := ⟨RX4, "addWax", "(II)V"⟩
abbrev cX4_goOn : ByteArray := prog_6_method_9_code
def yX4_goOn : MethodName := ⟨RX4, "goOn", "(I)V"⟩
abbrev cX4_oneYear : ByteArray := prog_6_method_10_code
def yX4_oneYear : MethodName := ⟨RX4, "oneYear", "()V"⟩
abbrev cX4_slipsAtHisTurn : ByteArray := prog_6_method_11_code
def yX4_slipsAtHisTurn : MethodName := ⟨RX4, "slipsAtHisTurn", "(I)Z"⟩
abbrev cX4_speedOf : ByteArray := prog_6_method_12_code
def yX4_speedOf : MethodName := ⟨RX4, "speedOf", "(I)I"⟩
abbrev cX4_takeTurn : ByteArray := prog_6_method_13_code
def yX4_takeTurn : MethodName := ⟨RX4, "takeTurn", "(I)V"⟩
abbrev cX4_comeDown : ByteArray := prog_6_method_14_code
def yX4_comeDown : MethodName := ⟨RX4, "comeDown", "(II)V"⟩
abbrev cX4_weather : ByteArray := prog_6_method_15_code
def yX4_weather : MethodName := ⟨RX4, "weather", "(I)V"⟩
def RX5 : String := "BannisterCabinet$Text"
def TX5 : u_T := fun k => match k with
  | 0 => ("BannisterCabinet$Text", "letters", "[C", true)
  | _ => ("BannisterCabinet$Text", "length", "I", false)
def tyX5 : Nat → FieldType := fun k => match k with
  | 0 => .array .char
  | _ => .int
theorem nmX5 : ∀ a, a < 2 → ∀ b, b < 2 → a ≠ b → (TX5 a).2.1 ≠ (TX5 b).2.1 := by decide +kernel
theorem tyX5_ok : ∀ k, k < 2 → parseFieldDescriptor (TX5 k).2.2.1 = some (tyX5 k) := by decide +kernel
abbrev cX5_init : ByteArray := prog_7_method_1_code
def yX5_init : MethodName := ⟨RX5, "<init>", "()V"⟩
abbrev cX5_add : ByteArray := prog_7_method_2_code
def yX5_add : MethodName := ⟨RX5, "add", "(C)Z"⟩
def RX6 : String := "BannisterCabinet"
def TX6 : u_T := fun k => match k with
  | 0 => ("BannisterCabinet", "text", "LBannisterCabinet$Text;", true)
  | 1 => ("BannisterCabinet", "reader", "LBannisterCabinet$Reader;", true)
  | 2 => ("BannisterCabinet", "plan", "LBannisterCabinet$Plan;", true)
  | 3 => ("BannisterCabinet", "now", "LBannisterCabinet$Standing;", true)
  | 4 => ("BannisterCabinet", "trial", "LBannisterCabinet$Standing;", true)
  | 5 => ("BannisterCabinet", "undoable", "LBannisterCabinet$Shelf;", true)
  | 6 => ("BannisterCabinet", "kept", "LBannisterCabinet$Shelf;", true)
  | _ => ("BannisterCabinet", "sightings", "LBannisterCabinet$Sightings;", true)
def tyX6 : Nat → FieldType := fun k => match k with
  | 0 => .object "BannisterCabinet$Text"
  | 1 => .object "BannisterCabinet$Reader"
  | 2 => .object "BannisterCabinet$Plan"
  | 3 => .object "BannisterCabinet$Standing"
  | 4 => .object "BannisterCabinet$Standing"
  | 5 => .object "BannisterCabinet$Shelf"
  | 6 => .object "BannisterCabinet$Shelf"
  | _ => .object "BannisterCabinet$Sightings"
theorem nmX6 : ∀ a, a < 8 → ∀ b, b < 8 → a ≠ b → (TX6 a).2.1 ≠ (TX6 b).2.1 := by decide +kernel
theorem tyX6_ok : ∀ k, k < 8 → parseFieldDescriptor (TX6 k).2.2.1 = some (tyX6 k) := by decide +kernel
abbrev cX6_init : ByteArray := prog_1_method_1_code
def yX6_init : MethodName := ⟨RX6, "<init>", "()V"⟩
abbrev cX6_write : ByteArray := prog_1_method_2_code
def yX6_write : MethodName := ⟨RX6, "write", "(I)I"⟩
abbrev cX6_wipe : ByteArray := prog_1_method_3_code
def yX6_wipe : MethodName := ⟨RX6, "wipe", "()I"⟩
abbrev cX6_fault : ByteArray := prog_1_method_4_code
def yX6_fault : MethodName := ⟨RX6, "fault", "()I"⟩
abbrev cX6_lay : ByteArray := prog_1_method_5_code
def yX6_lay : MethodName := ⟨RX6, "lay", "()I"⟩
abbrev cX6_minister : ByteArray := prog_1_method_6_code
def yX6_minister : MethodName := ⟨RX6, "minister", "(II)I"⟩
abbrev cX6_step : ByteArray := prog_1_method_7_code
def yX6_step : MethodName := ⟨RX6, "step", "(II)I"⟩
abbrev cX6_pass : ByteArray := prog_1_method_8_code
def yX6_pass : MethodName := ⟨RX6, "pass", "(I)I"⟩
abbrev cX6_wax : ByteArray := prog_1_method_9_code
def yX6_wax : MethodName := ⟨RX6, "wax", "(I)I"⟩
abbrev cX6_sand : ByteArray := prog_1_method_10_code
def yX6_sand : MethodName := ⟨RX6, "sand", "(I)I"⟩
abbrev cX6_help : ByteArray := prog_1_method_11_code
def yX6_help : MethodName := ⟨RX6, "help", "(I)I"⟩
abbrev cX6_undo : ByteArray := prog_1_method_12_code
def yX6_undo : MethodName := ⟨RX6, "undo", "()I"⟩
abbrev cX6_governs : ByteArray := prog_1_method_13_code
def yX6_governs : MethodName := ⟨RX6, "governs", "()I"⟩
abbrev cX6_behind : ByteArray := prog_1_method_14_code
def yX6_behind : MethodName := ⟨RX6, "behind", "(III)I"⟩
abbrev cX6_slide : ByteArray := prog_1_method_15_code
def yX6_slide : MethodName := ⟨RX6, "slide", "(I)I"⟩
abbrev cX6_top : ByteArray := prog_1_method_16_code
def yX6_top : MethodName := ⟨RX6, "top", "(I)I"⟩
abbrev cX6_topple : ByteArray := prog_1_method_17_code
def yX6_topple : MethodName := ⟨RX6, "topple", "(I)I"⟩
abbrev cX6_plot : ByteArray := prog_1_method_18_code
def yX6_plot : MethodName := ⟨RX6, "plot", "(III)I"⟩
abbrev cX6_hold : ByteArray := prog_1_method_19_code
def yX6_hold : MethodName := ⟨RX6, "hold", "(II)I"⟩
abbrev cX6_cabinet : ByteArray := prog_1_method_20_code
def yX6_cabinet : MethodName := ⟨RX6, "cabinet", "(I)I"⟩
abbrev cX6_seen : ByteArray := prog_1_method_21_code
def yX6_seen : MethodName := ⟨RX6, "seen", "(II)I"⟩
abbrev cX6_forget : ByteArray := prog_1_method_22_code
def yX6_forget : MethodName := ⟨RX6, "forget", "()I"⟩
abbrev cX6_waxes : ByteArray := prog_1_method_23_code
def yX6_waxes : MethodName := ⟨RX6, "waxes", "(I)I"⟩
abbrev cX6_grips : ByteArray := prog_1_method_24_code
def yX6_grips : MethodName := ⟨RX6, "grips", "(I)I"⟩
abbrev cX6_likely : ByteArray := prog_1_method_25_code
def yX6_likely : MethodName := ⟨RX6, "likely", "(IIII)I"⟩
abbrev cX6_century : ByteArray := prog_1_method_26_code
def yX6_century : MethodName := ⟨RX6, "century", "(III)I"⟩
abbrev cX6_keep : ByteArray := prog_1_method_27_code
def yX6_keep : MethodName := ⟨RX6, "keep", "()I"⟩
abbrev cX6_back : ByteArray := prog_1_method_28_code
def yX6_back : MethodName := ⟨RX6, "back", "()I"⟩
abbrev cX6_count : ByteArray := prog_1_method_29_code
def yX6_count : MethodName := ⟨RX6, "count", "(I)I"⟩
abbrev cX6_layOut : ByteArray := prog_1_method_30_code
def yX6_layOut : MethodName := ⟨RX6, "layOut", "()Z"⟩
abbrev cX6_governsByWax : ByteArray := prog_1_method_31_code
def yX6_governsByWax : MethodName := ⟨RX6, "governsByWax", "(IIII)Z"⟩
abbrev cX6_holdsBySand : ByteArray := prog_1_method_32_code
def yX6_holdsBySand : MethodName := ⟨RX6, "holdsBySand", "(III)Z"⟩
abbrev cX6_smallestCabinet : ByteArray := prog_1_method_33_code
def yX6_smallestCabinet : MethodName := ⟨RX6, "smallestCabinet", "()I"⟩
abbrev cX6_bitIfSeen : ByteArray := prog_1_method_34_code
def yX6_bitIfSeen : MethodName := ⟨RX6, "bitIfSeen", "(I)I"⟩
abbrev cX6_weightOf : ByteArray := prog_1_method_35_code
def yX6_weightOf : MethodName := ⟨RX6, "weightOf", "(III)I"⟩
abbrev cX6_governsByPath : ByteArray := prog_1_method_36_code
def yX6_governsByPath : MethodName := ⟨RX6, "governsByPath", "(III)Z"⟩
abbrev cX6_draw : ByteArray := prog_1_method_37_code
def yX6_draw : MethodName := ⟨RX6, "draw", "(II)I"⟩
abbrev cX6_power : ByteArray := prog_1_method_38_code
def yX6_power : MethodName := ⟨RX6, "power", "(II)I"⟩
abbrev cX6_commonDivisor : ByteArray := prog_1_method_39_code
def yX6_commonDivisor : MethodName := ⟨RX6, "commonDivisor", "(II)I"⟩
abbrev cX6_within : ByteArray := prog_1_method_40_code
def yX6_within : MethodName := ⟨RX6, "within", "(III)Z"⟩
def RX7 : String := "BannisterCabinetModel"
def TX7 : u_T := fun k => match k with
  | 0 => ("BannisterCabinetModel", "length", "I", false)
  | 1 => ("BannisterCabinetModel", "text", "[I", true)
  | 2 => ("BannisterCabinetModel", "told", "[I", true)
  | 3 => ("BannisterCabinetModel", "read", "[I", true)
  | 4 => ("BannisterCabinetModel", "hasItem", "Z", false)
  | 5 => ("BannisterCabinetModel", "now", "[I", true)
  | 6 => ("BannisterCabinetModel", "readRow", "[I", true)
  | 7 => ("BannisterCabinetModel", "side", "[I", true)
  | 8 => ("BannisterCabinetModel", "before", "[I", true)
  | 9 => ("BannisterCabinetModel", "undoMany", "I", false)
  | 10 => ("BannisterCabinetModel", "kept", "[I", true)
  | 11 => ("BannisterCabinetModel", "keptMany", "I", false)
  | 12 => ("BannisterCabinetModel", "seen", "[I", true)
  | 13 => ("BannisterCabinetModel", "seenMany", "I", false)
  | 14 => ("BannisterCabinetModel", "spot", "I", false)
  | _ => ("BannisterCabinetModel", "number", "[I", true)
def tyX7 : Nat → FieldType := fun k => match k with
  | 0 => .int
  | 1 => .array .int
  | 2 => .array .int
  | 3 => .array .int
  | 4 => .boolean
  | 5 => .array .int
  | 6 => .array .int
  | 7 => .array .int
  | 8 => .array .int
  | 9 => .int
  | 10 => .array .int
  | 11 => .int
  | 12 => .array .int
  | 13 => .int
  | 14 => .int
  | _ => .array .int
theorem nmX7 : ∀ a, a < 16 → ∀ b, b < 16 → a ≠ b → (TX7 a).2.1 ≠ (TX7 b).2.1 := by decide +kernel
theorem tyX7_ok : ∀ k, k < 16 → parseFieldDescriptor (TX7 k).2.2.1 = some (tyX7 k) := by decide +kernel
abbrev cX7_init : ByteArray := prog_9_method_1_code
def yX7_init : MethodName := ⟨RX7, "<init>", "()V"⟩
abbrev cX7_firstOne : ByteArray := prog_9_method_2_code
def yX7_firstOne : MethodName := ⟨RX7, "firstOne", "(III)V"⟩
abbrev cX7_in : ByteArray := prog_9_method_3_code
def yX7_in : MethodName := ⟨RX7, "in", "(JJJ)Z"⟩
abbrev cX7_has : ByteArray := prog_9_method_4_code
def yX7_has : MethodName := ⟨RX7, "has", "(II)Z"⟩
abbrev cX7_ones : ByteArray := prog_9_method_5_code
def yX7_ones : MethodName := ⟨RX7, "ones", "(I)I"⟩
abbrev cX7_empty : ByteArray := prog_9_method_6_code
def yX7_empty : MethodName := ⟨RX7, "empty", "()V"⟩
abbrev cX7_write : ByteArray := prog_9_method_7_code
def yX7_write : MethodName := ⟨RX7, "write", "(I)I"⟩
abbrev cX7_wipe : ByteArray := prog_9_method_8_code
def yX7_wipe : MethodName := ⟨RX7, "wipe", "()I"⟩
abbrev cX7_letterAt : ByteArray := prog_9_method_9_code
def yX7_letterAt : MethodName := ⟨RX7, "letterAt", "(I)I"⟩
abbrev cX7_numbers : ByteArray := prog_9_method_10_code
def yX7_numbers : MethodName := ⟨RX7, "numbers", "(I)Z"⟩
abbrev cX7_ministerItem : ByteArray := prog_9_method_11_code
def yX7_ministerItem : MethodName := ⟨RX7, "ministerItem", "()Z"⟩
abbrev cX7_item : ByteArray := prog_9_method_12_code
def yX7_item : MethodName := ⟨RX7, "item", "()Z"⟩
abbrev cX7_readAll : ByteArray := prog_9_method_13_code
def yX7_readAll : MethodName := ⟨RX7, "readAll", "()I"⟩
abbrev cX7_fault : ByteArray := prog_9_method_14_code
def yX7_fault : MethodName := ⟨RX7, "fault", "()I"⟩
abbrev cX7_lay : ByteArray := prog_9_method_15_code
def yX7_lay : MethodName := ⟨RX7, "lay", "()I"⟩
abbrev cX7_begin : ByteArray := prog_9_method_16_code
def yX7_begin : MethodName := ⟨RX7, "begin", "()V"⟩
abbrev cX7_isOne : ByteArray := prog_9_method_17_code
def yX7_isOne : MethodName := ⟨RX7, "isOne", "(I)Z"⟩
abbrev cX7_isStep : ByteArray := prog_9_method_18_code
def yX7_isStep : MethodName := ⟨RX7, "isStep", "(I)Z"⟩
abbrev cX7_aside : ByteArray := prog_9_method_19_code
def yX7_aside : MethodName := ⟨RX7, "aside", "()V"⟩
abbrev cX7_lack : ByteArray := prog_9_method_20_code
def yX7_lack : MethodName := ⟨RX7, "lack", "(I)I"⟩
abbrev cX7_stops : ByteArray := prog_9_method_21_code
def yX7_stops : MethodName := ⟨RX7, "stops", "(II)Z"⟩
abbrev cX7_slideDown : ByteArray := prog_9_method_22_code
def yX7_slideDown : MethodName := ⟨RX7, "slideDown", "(II)V"⟩
abbrev cX7_goOne : ByteArray := prog_9_method_23_code
def yX7_goOne : MethodName := ⟨RX7, "goOne", "(I)V"⟩
abbrev cX7_governor : ByteArray := prog_9_method_24_code
def yX7_governor : MethodName := ⟨RX7, "governor", "()I"⟩
abbrev cX7_goYear : ByteArray := prog_9_method_25_code
def yX7_goYear : MethodName := ⟨RX7, "goYear", "()V"⟩
abbrev cX7_goYears : ByteArray := prog_9_method_26_code
def yX7_goYears : MethodName := ⟨RX7, "goYears", "(I)V"⟩
abbrev cX7_take : ByteArray := prog_9_method_27_code
def yX7_take : MethodName := ⟨RX7, "take", "()V"⟩
abbrev cX7_minister : ByteArray := prog_9_method_28_code
def yX7_minister : MethodName := ⟨RX7, "minister", "(II)I"⟩
abbrev cX7_step : ByteArray := prog_9_method_29_code
def yX7_step : MethodName := ⟨RX7, "step", "(II)I"⟩
abbrev cX7_note : ByteArray := prog_9_method_30_code
def yX7_note : MethodName := ⟨RX7, "note", "()V"⟩
abbrev cX7_pass : ByteArray := prog_9_method_31_code
def yX7_pass : MethodName := ⟨RX7, "pass", "(I)I"⟩
abbrev cX7_wax : ByteArray := prog_9_method_32_code
def yX7_wax : MethodName := ⟨RX7, "wax", "(I)I"⟩
abbrev cX7_sand : ByteArray := prog_9_method_33_code
def yX7_sand : MethodName := ⟨RX7, "sand", "(I)I"⟩
abbrev cX7_help : ByteArray := prog_9_method_34_code
def yX7_help : MethodName := ⟨RX7, "help", "(I)I"⟩
abbrev cX7_undo : ByteArray := prog_9_method_35_code
def yX7_undo : MethodName := ⟨RX7, "undo", "()I"⟩
abbrev cX7_governs : ByteArray := prog_9_method_36_code
def yX7_governs : MethodName := ⟨RX7, "governs", "()I"⟩
abbrev cX7_behind : ByteArray := prog_9_method_37_code
def yX7_behind : MethodName := ⟨RX7, "behind", "(III)I"⟩
abbrev cX7_slide : ByteArray := prog_9_method_38_code
def yX7_slide : MethodName := ⟨RX7, "slide", "(I)I"⟩
abbrev cX7_top : ByteArray := prog_9_method_39_code
def yX7_top : MethodName := ⟨RX7, "top", "(I)I"⟩
abbrev cX7_topple : ByteArray := prog_9_method_40_code
def yX7_topple : MethodName := ⟨RX7, "topple", "(I)I"⟩
abbrev cX7_governsWith : ByteArray := prog_9_method_41_code
def yX7_governsWith : MethodName := ⟨RX7, "governsWith", "(IIII)Z"⟩
abbrev cX7_plot : ByteArray := prog_9_method_42_code
def yX7_plot : MethodName := ⟨RX7, "plot", "(III)I"⟩
abbrev cX7_holds : ByteArray := prog_9_method_43_code
def yX7_holds : MethodName := ⟨RX7, "holds", "(III)Z"⟩
abbrev cX7_hold : ByteArray := prog_9_method_44_code
def yX7_hold : MethodName := ⟨RX7, "hold", "(II)I"⟩
abbrev cX7_weight : ByteArray := prog_9_method_45_code
def yX7_weight : MethodName := ⟨RX7, "weight", "(I)I"⟩
abbrev cX7_cabinet : ByteArray := prog_9_method_46_code
def yX7_cabinet : MethodName := ⟨RX7, "cabinet", "(I)I"⟩
abbrev cX7_seen : ByteArray := prog_9_method_47_code
def yX7_seen : MethodName := ⟨RX7, "seen", "(II)I"⟩
abbrev cX7_forget : ByteArray := prog_9_method_48_code
def yX7_forget : MethodName := ⟨RX7, "forget", "()I"⟩
abbrev cX7_isSeen : ByteArray := prog_9_method_49_code
def yX7_isSeen : MethodName := ⟨RX7, "isSeen", "()Z"⟩
abbrev cX7_waxes : ByteArray := prog_9_method_50_code
def yX7_waxes : MethodName := ⟨RX7, "waxes", "(I)I"⟩
abbrev cX7_grips : ByteArray := prog_9_method_51_code
def yX7_grips : MethodName := ⟨RX7, "grips", "(I)I"⟩
abbrev cX7_more : ByteArray := prog_9_method_52_code
def yX7_more : MethodName := ⟨RX7, "more", "(II)V"⟩
abbrev cX7_likely : ByteArray := prog_9_method_53_code
def yX7_likely : MethodName := ⟨RX7, "likely", "(IIII)I"⟩
abbrev cX7_century : ByteArray := prog_9_method_54_code
def yX7_century : MethodName := ⟨RX7, "century", "(III)I"⟩
abbrev cX7_keep : ByteArray := prog_9_method_55_code
def yX7_keep : MethodName := ⟨RX7, "keep", "()I"⟩
abbrev cX7_back : ByteArray := prog_9_method_56_code
def yX7_back : MethodName := ⟨RX7, "back", "()I"⟩
abbrev cX7_waxInAll : ByteArray := prog_9_method_57_code
def yX7_waxInAll : MethodName := ⟨RX7, "waxInAll", "()I"⟩
abbrev cX7_count : ByteArray := prog_9_method_58_code
def yX7_count : MethodName := ⟨RX7, "count", "(I)I"⟩
def RJ6 : String := "java/lang/Integer"
abbrev cJ6_bitCount_0f7a4 : ByteArray := prog_10_method_49_code
def yJ6_bitCount_0f7a4 : MethodName := ⟨RJ6, "bitCount", "(I)I"⟩
def RJ9 : String := "java/lang/Math"
abbrev cJ9_max_7cf53 : ByteArray := prog_11_method_65_code
def yJ9_max_7cf53 : MethodName := ⟨RJ9, "max", "(II)I"⟩
abbrev cJ9_min_7cf53 : ByteArray := prog_11_method_69_code
def yJ9_min_7cf53 : MethodName := ⟨RJ9, "min", "(II)I"⟩
def RJ0 : String := "java/lang/String"
abbrev cJ0_length_8abf5 : ByteArray := prog_12_method_54_code
def yJ0_length_8abf5 : MethodName := ⟨RJ0, "length", "()I"⟩
abbrev cJ0_charAt_5068e : ByteArray := prog_12_method_56_code
def yJ0_charAt_5068e : MethodName := ⟨RJ0, "charAt", "(I)C"⟩
abbrev cJ0_coder_7d493 : ByteArray := prog_12_method_152_code
def yJ0_coder_7d493 : MethodName := ⟨RJ0, "coder", "()B"⟩
abbrev cJ0_isLatin1_aae02 : ByteArray := prog_12_method_154_code
def yJ0_isLatin1_aae02 : MethodName := ⟨RJ0, "isLatin1", "()Z"⟩
abbrev cJ0_checkIndex_df160 : ByteArray := prog_12_method_155_code
def yJ0_checkIndex_df160 : MethodName := ⟨RJ0, "checkIndex", "(II)V"⟩
def RJ1 : String := "java/lang/StringLatin1"
abbrev cJ1_charAt_3b067 : ByteArray := prog_13_method_2_code
def yJ1_charAt_3b067 : MethodName := ⟨RJ1, "charAt", "([BI)C"⟩
def RJ2 : String := "java/lang/StringUTF16"
abbrev cJ2_getChar_3b067 : ByteArray := prog_14_method_5_code
def yJ2_getChar_3b067 : MethodName := ⟨RJ2, "getChar", "([BI)C"⟩
abbrev cJ2_length_9d52b : ByteArray := prog_14_method_6_code
def yJ2_length_9d52b : MethodName := ⟨RJ2, "length", "([B)I"⟩
abbrev cJ2_charAt_3b067 : ByteArray := prog_14_method_83_code
def yJ2_charAt_3b067 : MethodName := ⟨RJ2, "charAt", "([BI)C"⟩
abbrev cJ2_checkIndex_2214a : ByteArray := prog_14_method_91_code
def yJ2_checkIndex_2214a : MethodName := ⟨RJ2, "checkIndex", "(I[B)V"⟩
def RJ10 : String := "java/lang/System"
def RJ7 : String := "java/util/Arrays"
abbrev cJ7_fill_53178 : ByteArray := prog_16_method_103_code
def yJ7_fill_53178 : MethodName := ⟨RJ7, "fill", "([II)V"⟩
def RJ3 : String := "jdk/internal/util/Preconditions"
abbrev cJ3_checkIndex_8e157 : ByteArray := prog_17_method_11_code
def yJ3_checkIndex_8e157 : MethodName := ⟨RJ3, "checkIndex", "(IILjava/util/function/BiFunction;)I"⟩
def RL : String := "BannisterCabinetLaw"
abbrev cL_law : ByteArray := code
def yL_law : MethodName := ⟨RL, "law", "([I)Z"⟩
abbrev vwCl : List vw_C := [(RX0, TX0, 5), (RX1, TX1, 5), (RX2, TX2, 3), (RX3, TX3, 3), (RX4, TX4, 7), (RX5, TX5, 2), (RX6, TX6, 8), (RX7, TX7, 16)]
