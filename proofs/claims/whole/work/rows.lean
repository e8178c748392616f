section
-- ===== PART A: goes FIRST, ahead of the names: the tables' words, and 'selects' of the private methods out of them =====
/-- a private method of a class that the tables say can be made, by its rows of tables_1 -/
def lw_okq (q : MethodName × Nat) : Prop := (q.1.cls ≠ "java/lang/invoke/MethodHandle" ∧ q.1.cls ≠ "java/lang/invoke/VarHandle") ∧ Cond.instantiable q.1.cls q.2 ∈ tables_1 ∧ Cond.privateMethod q.1 ∈ tables_1 ∧ Cond.instanceMethod q.1 ∈ tables_1
theorem lw_p0 : lw_okq (⟨"BannisterCabinet", "layOut", "()Z"⟩, 8) := ⟨⟨by decide +kernel, by decide +kernel⟩, List.mem_of_getElem? (i := 18) (by decide +kernel), List.mem_of_getElem? (i := 237) (by decide +kernel), List.mem_of_getElem? (i := 238) (by decide +kernel)⟩
theorem lw_p1 : lw_okq (⟨"BannisterCabinet$Reader", "readNumbers", "(LBannisterCabinet$Text;I)I"⟩, 5) := ⟨⟨by decide +kernel, by decide +kernel⟩, List.mem_of_getElem? (i := 43) (by decide +kernel), List.mem_of_getElem? (i := 256) (by decide +kernel), List.mem_of_getElem? (i := 257) (by decide +kernel)⟩
theorem lw_p2 : lw_okq (⟨"BannisterCabinet$Reader", "addNumber", "(I)Z"⟩, 5) := ⟨⟨by decide +kernel, by decide +kernel⟩, List.mem_of_getElem? (i := 43) (by decide +kernel), List.mem_of_getElem? (i := 260) (by decide +kernel), List.mem_of_getElem? (i := 261) (by decide +kernel)⟩
theorem lw_p3 : lw_okq (⟨"BannisterCabinet$Reader", "takeItem", "(C)Z"⟩, 5) := ⟨⟨by decide +kernel, by decide +kernel⟩, List.mem_of_getElem? (i := 43) (by decide +kernel), List.mem_of_getElem? (i := 264) (by decide +kernel), List.mem_of_getElem? (i := 265) (by decide +kernel)⟩
theorem lw_p4 : lw_okq (⟨"BannisterCabinet$Reader", "takeSteps", "()Z"⟩, 5) := ⟨⟨by decide +kernel, by decide +kernel⟩, List.mem_of_getElem? (i := 43) (by decide +kernel), List.mem_of_getElem? (i := 268) (by decide +kernel), List.mem_of_getElem? (i := 269) (by decide +kernel)⟩
theorem lw_p5 : lw_okq (⟨"BannisterCabinet$Reader", "takeWax", "()Z"⟩, 5) := ⟨⟨by decide +kernel, by decide +kernel⟩, List.mem_of_getElem? (i := 43) (by decide +kernel), List.mem_of_getElem? (i := 275) (by decide +kernel), List.mem_of_getElem? (i := 276) (by decide +kernel)⟩
theorem lw_p6 : lw_okq (⟨"BannisterCabinet$Reader", "takeKnob", "()Z"⟩, 5) := ⟨⟨by decide +kernel, by decide +kernel⟩, List.mem_of_getElem? (i := 43) (by decide +kernel), List.mem_of_getElem? (i := 283) (by decide +kernel), List.mem_of_getElem? (i := 284) (by decide +kernel)⟩
theorem lw_p7 : lw_okq (⟨"BannisterCabinet$Reader", "tellsOneStep", "()Z"⟩, 5) := ⟨⟨by decide +kernel, by decide +kernel⟩, List.mem_of_getElem? (i := 43) (by decide +kernel), List.mem_of_getElem? (i := 287) (by decide +kernel), List.mem_of_getElem? (i := 288) (by decide +kernel)⟩
theorem lw_p8 : lw_okq (⟨"BannisterCabinet$Reader", "takeTurning", "()Z"⟩, 5) := ⟨⟨by decide +kernel, by decide +kernel⟩, List.mem_of_getElem? (i := 43) (by decide +kernel), List.mem_of_getElem? (i := 291) (by decide +kernel), List.mem_of_getElem? (i := 292) (by decide +kernel)⟩
theorem lw_p9 : lw_okq (⟨"BannisterCabinet$Reader", "takeMinister", "()Z"⟩, 5) := ⟨⟨by decide +kernel, by decide +kernel⟩, List.mem_of_getElem? (i := 43) (by decide +kernel), List.mem_of_getElem? (i := 295) (by decide +kernel), List.mem_of_getElem? (i := 296) (by decide +kernel)⟩
theorem lw_p10 : lw_okq (⟨"BannisterCabinet$Reader", "takeFunds", "()Z"⟩, 5) := ⟨⟨by decide +kernel, by decide +kernel⟩, List.mem_of_getElem? (i := 43) (by decide +kernel), List.mem_of_getElem? (i := 299) (by decide +kernel), List.mem_of_getElem? (i := 300) (by decide +kernel)⟩
theorem lw_p11 : lw_okq (⟨"BannisterCabinet$Standing", "takeTurn", "(I)V"⟩, 7) := ⟨⟨by decide +kernel, by decide +kernel⟩, List.mem_of_getElem? (i := 83) (by decide +kernel), List.mem_of_getElem? (i := 412) (by decide +kernel), List.mem_of_getElem? (i := 413) (by decide +kernel)⟩
theorem lw_p12 : lw_okq (⟨"BannisterCabinet$Standing", "comeDown", "(II)V"⟩, 7) := ⟨⟨by decide +kernel, by decide +kernel⟩, List.mem_of_getElem? (i := 83) (by decide +kernel), List.mem_of_getElem? (i := 417) (by decide +kernel), List.mem_of_getElem? (i := 418) (by decide +kernel)⟩
theorem lw_p13 : lw_okq (⟨"BannisterCabinet", "governsByWax", "(IIII)Z"⟩, 8) := ⟨⟨by decide +kernel, by decide +kernel⟩, List.mem_of_getElem? (i := 18) (by decide +kernel), List.mem_of_getElem? (i := 484) (by decide +kernel), List.mem_of_getElem? (i := 485) (by decide +kernel)⟩
theorem lw_p14 : lw_okq (⟨"BannisterCabinet", "holdsBySand", "(III)Z"⟩, 8) := ⟨⟨by decide +kernel, by decide +kernel⟩, List.mem_of_getElem? (i := 18) (by decide +kernel), List.mem_of_getElem? (i := 492) (by decide +kernel), List.mem_of_getElem? (i := 493) (by decide +kernel)⟩
theorem lw_p15 : lw_okq (⟨"BannisterCabinet", "smallestCabinet", "()I"⟩, 8) := ⟨⟨by decide +kernel, by decide +kernel⟩, List.mem_of_getElem? (i := 18) (by decide +kernel), List.mem_of_getElem? (i := 500) (by decide +kernel), List.mem_of_getElem? (i := 501) (by decide +kernel)⟩
def lw_privs_1 : List (MethodName × Nat) := [(⟨"BannisterCabinet", "layOut", "()Z"⟩, 8), (⟨"BannisterCabinet$Reader", "readNumbers", "(LBannisterCabinet$Text;I)I"⟩, 5), (⟨"BannisterCabinet$Reader", "addNumber", "(I)Z"⟩, 5), (⟨"BannisterCabinet$Reader", "takeItem", "(C)Z"⟩, 5), (⟨"BannisterCabinet$Reader", "takeSteps", "()Z"⟩, 5), (⟨"BannisterCabinet$Reader", "takeWax", "()Z"⟩, 5), (⟨"BannisterCabinet$Reader", "takeKnob", "()Z"⟩, 5), (⟨"BannisterCabinet$Reader", "tellsOneStep", "()Z"⟩, 5), (⟨"BannisterCabinet$Reader", "takeTurning", "()Z"⟩, 5), (⟨"BannisterCabinet$Reader", "takeMinister", "()Z"⟩, 5), (⟨"BannisterCabinet$Reader", "takeFunds", "()Z"⟩, 5), (⟨"BannisterCabinet$Standing", "takeTurn", "(I)V"⟩, 7), (⟨"BannisterCabinet$Standing", "comeDown", "(II)V"⟩, 7), (⟨"BannisterCabinet", "governsByWax", "(IIII)Z"⟩, 8), (⟨"BannisterCabinet", "holdsBySand", "(III)Z"⟩, 8), (⟨"BannisterCabinet", "smallestCabinet", "()I"⟩, 8)]
theorem lw_r1 : ∀ q ∈ lw_privs_1, lw_okq q := List.forall_mem_cons.mpr ⟨lw_p0, List.forall_mem_cons.mpr ⟨lw_p1, List.forall_mem_cons.mpr ⟨lw_p2, List.forall_mem_cons.mpr ⟨lw_p3, List.forall_mem_cons.mpr ⟨lw_p4, List.forall_mem_cons.mpr ⟨lw_p5, List.forall_mem_cons.mpr ⟨lw_p6, List.forall_mem_cons.mpr ⟨lw_p7, List.forall_mem_cons.mpr ⟨lw_p8, List.forall_mem_cons.mpr ⟨lw_p9, List.forall_mem_cons.mpr ⟨lw_p10, List.forall_mem_cons.mpr ⟨lw_p11, List.forall_mem_cons.mpr ⟨lw_p12, List.forall_mem_cons.mpr ⟨lw_p13, List.forall_mem_cons.mpr ⟨lw_p14, List.forall_mem_cons.mpr ⟨lw_p15, fun _ h => absurd h List.not_mem_nil⟩⟩⟩⟩⟩⟩⟩⟩⟩⟩⟩⟩⟩⟩⟩⟩
theorem lw_p16 : lw_okq (⟨"BannisterCabinet", "bitIfSeen", "(I)I"⟩, 8) := ⟨⟨by decide +kernel, by decide +kernel⟩, List.mem_of_getElem? (i := 18) (by decide +kernel), List.mem_of_getElem? (i := 530) (by decide +kernel), List.mem_of_getElem? (i := 531) (by decide +kernel)⟩
theorem lw_p17 : lw_okq (⟨"BannisterCabinet", "governsByPath", "(III)Z"⟩, 8) := ⟨⟨by decide +kernel, by decide +kernel⟩, List.mem_of_getElem? (i := 18) (by decide +kernel), List.mem_of_getElem? (i := 552) (by decide +kernel), List.mem_of_getElem? (i := 553) (by decide +kernel)⟩
theorem lw_p18 : lw_okq (⟨"BannisterCabinetModel", "empty", "()V"⟩, 16) := ⟨⟨by decide +kernel, by decide +kernel⟩, List.mem_of_getElem? (i := 596) (by decide +kernel), List.mem_of_getElem? (i := 602) (by decide +kernel), List.mem_of_getElem? (i := 603) (by decide +kernel)⟩
theorem lw_p19 : lw_okq (⟨"BannisterCabinetModel", "firstOne", "(III)V"⟩, 16) := ⟨⟨by decide +kernel, by decide +kernel⟩, List.mem_of_getElem? (i := 596) (by decide +kernel), List.mem_of_getElem? (i := 606) (by decide +kernel), List.mem_of_getElem? (i := 607) (by decide +kernel)⟩
theorem lw_p20 : lw_okq (⟨"BannisterCabinetModel", "begin", "()V"⟩, 16) := ⟨⟨by decide +kernel, by decide +kernel⟩, List.mem_of_getElem? (i := 596) (by decide +kernel), List.mem_of_getElem? (i := 610) (by decide +kernel), List.mem_of_getElem? (i := 611) (by decide +kernel)⟩
theorem lw_p21 : lw_okq (⟨"BannisterCabinetModel", "readAll", "()I"⟩, 16) := ⟨⟨by decide +kernel, by decide +kernel⟩, List.mem_of_getElem? (i := 596) (by decide +kernel), List.mem_of_getElem? (i := 680) (by decide +kernel), List.mem_of_getElem? (i := 681) (by decide +kernel)⟩
theorem lw_p22 : lw_okq (⟨"BannisterCabinetModel", "item", "()Z"⟩, 16) := ⟨⟨by decide +kernel, by decide +kernel⟩, List.mem_of_getElem? (i := 596) (by decide +kernel), List.mem_of_getElem? (i := 684) (by decide +kernel), List.mem_of_getElem? (i := 685) (by decide +kernel)⟩
theorem lw_p23 : lw_okq (⟨"BannisterCabinetModel", "letterAt", "(I)I"⟩, 16) := ⟨⟨by decide +kernel, by decide +kernel⟩, List.mem_of_getElem? (i := 596) (by decide +kernel), List.mem_of_getElem? (i := 688) (by decide +kernel), List.mem_of_getElem? (i := 689) (by decide +kernel)⟩
theorem lw_p24 : lw_okq (⟨"BannisterCabinetModel", "numbers", "(I)Z"⟩, 16) := ⟨⟨by decide +kernel, by decide +kernel⟩, List.mem_of_getElem? (i := 596) (by decide +kernel), List.mem_of_getElem? (i := 692) (by decide +kernel), List.mem_of_getElem? (i := 693) (by decide +kernel)⟩
theorem lw_p25 : lw_okq (⟨"BannisterCabinetModel", "ministerItem", "()Z"⟩, 16) := ⟨⟨by decide +kernel, by decide +kernel⟩, List.mem_of_getElem? (i := 596) (by decide +kernel), List.mem_of_getElem? (i := 701) (by decide +kernel), List.mem_of_getElem? (i := 702) (by decide +kernel)⟩
theorem lw_p26 : lw_okq (⟨"BannisterCabinetModel", "isOne", "(I)Z"⟩, 16) := ⟨⟨by decide +kernel, by decide +kernel⟩, List.mem_of_getElem? (i := 596) (by decide +kernel), List.mem_of_getElem? (i := 713) (by decide +kernel), List.mem_of_getElem? (i := 714) (by decide +kernel)⟩
theorem lw_p27 : lw_okq (⟨"BannisterCabinetModel", "aside", "()V"⟩, 16) := ⟨⟨by decide +kernel, by decide +kernel⟩, List.mem_of_getElem? (i := 596) (by decide +kernel), List.mem_of_getElem? (i := 718) (by decide +kernel), List.mem_of_getElem? (i := 719) (by decide +kernel)⟩
theorem lw_p28 : lw_okq (⟨"BannisterCabinetModel", "lack", "(I)I"⟩, 16) := ⟨⟨by decide +kernel, by decide +kernel⟩, List.mem_of_getElem? (i := 596) (by decide +kernel), List.mem_of_getElem? (i := 722) (by decide +kernel), List.mem_of_getElem? (i := 723) (by decide +kernel)⟩
theorem lw_p29 : lw_okq (⟨"BannisterCabinetModel", "isStep", "(I)Z"⟩, 16) := ⟨⟨by decide +kernel, by decide +kernel⟩, List.mem_of_getElem? (i := 596) (by decide +kernel), List.mem_of_getElem? (i := 730) (by decide +kernel), List.mem_of_getElem? (i := 731) (by decide +kernel)⟩
theorem lw_p30 : lw_okq (⟨"BannisterCabinetModel", "note", "()V"⟩, 16) := ⟨⟨by decide +kernel, by decide +kernel⟩, List.mem_of_getElem? (i := 596) (by decide +kernel), List.mem_of_getElem? (i := 739) (by decide +kernel), List.mem_of_getElem? (i := 740) (by decide +kernel)⟩
theorem lw_p31 : lw_okq (⟨"BannisterCabinetModel", "goYears", "(I)V"⟩, 16) := ⟨⟨by decide +kernel, by decide +kernel⟩, List.mem_of_getElem? (i := 596) (by decide +kernel), List.mem_of_getElem? (i := 743) (by decide +kernel), List.mem_of_getElem? (i := 744) (by decide +kernel)⟩
def lw_privs_2 : List (MethodName × Nat) := [(⟨"BannisterCabinet", "bitIfSeen", "(I)I"⟩, 8), (⟨"BannisterCabinet", "governsByPath", "(III)Z"⟩, 8), (⟨"BannisterCabinetModel", "empty", "()V"⟩, 16), (⟨"BannisterCabinetModel", "firstOne", "(III)V"⟩, 16), (⟨"BannisterCabinetModel", "begin", "()V"⟩, 16), (⟨"BannisterCabinetModel", "readAll", "()I"⟩, 16), (⟨"BannisterCabinetModel", "item", "()Z"⟩, 16), (⟨"BannisterCabinetModel", "letterAt", "(I)I"⟩, 16), (⟨"BannisterCabinetModel", "numbers", "(I)Z"⟩, 16), (⟨"BannisterCabinetModel", "ministerItem", "()Z"⟩, 16), (⟨"BannisterCabinetModel", "isOne", "(I)Z"⟩, 16), (⟨"BannisterCabinetModel", "aside", "()V"⟩, 16), (⟨"BannisterCabinetModel", "lack", "(I)I"⟩, 16), (⟨"BannisterCabinetModel", "isStep", "(I)Z"⟩, 16), (⟨"BannisterCabinetModel", "note", "()V"⟩, 16), (⟨"BannisterCabinetModel", "goYears", "(I)V"⟩, 16)]
theorem lw_r2 : ∀ q ∈ lw_privs_2, lw_okq q := List.forall_mem_cons.mpr ⟨lw_p16, List.forall_mem_cons.mpr ⟨lw_p17, List.forall_mem_cons.mpr ⟨lw_p18, List.forall_mem_cons.mpr ⟨lw_p19, List.forall_mem_cons.mpr ⟨lw_p20, List.forall_mem_cons.mpr ⟨lw_p21, List.forall_mem_cons.mpr ⟨lw_p22, List.forall_mem_cons.mpr ⟨lw_p23, List.forall_mem_cons.mpr ⟨lw_p24, List.forall_mem_cons.mpr ⟨lw_p25, List.forall_mem_cons.mpr ⟨lw_p26, List.forall_mem_cons.mpr ⟨lw_p27, List.forall_mem_cons.mpr ⟨lw_p28, List.forall_mem_cons.mpr ⟨lw_p29, List.forall_mem_cons.mpr ⟨lw_p30, List.forall_mem_cons.mpr ⟨lw_p31, fun _ h => absurd h List.not_mem_nil⟩⟩⟩⟩⟩⟩⟩⟩⟩⟩⟩⟩⟩⟩⟩⟩
theorem lw_p32 : lw_okq (⟨"BannisterCabinetModel", "goYear", "()V"⟩, 16) := ⟨⟨by decide +kernel, by decide +kernel⟩, List.mem_of_getElem? (i := 596) (by decide +kernel), List.mem_of_getElem? (i := 747) (by decide +kernel), List.mem_of_getElem? (i := 748) (by decide +kernel)⟩
theorem lw_p33 : lw_okq (⟨"BannisterCabinetModel", "goOne", "(I)V"⟩, 16) := ⟨⟨by decide +kernel, by decide +kernel⟩, List.mem_of_getElem? (i := 596) (by decide +kernel), List.mem_of_getElem? (i := 751) (by decide +kernel), List.mem_of_getElem? (i := 752) (by decide +kernel)⟩
theorem lw_p34 : lw_okq (⟨"BannisterCabinetModel", "slideDown", "(II)V"⟩, 16) := ⟨⟨by decide +kernel, by decide +kernel⟩, List.mem_of_getElem? (i := 596) (by decide +kernel), List.mem_of_getElem? (i := 755) (by decide +kernel), List.mem_of_getElem? (i := 756) (by decide +kernel)⟩
theorem lw_p35 : lw_okq (⟨"BannisterCabinetModel", "stops", "(II)Z"⟩, 16) := ⟨⟨by decide +kernel, by decide +kernel⟩, List.mem_of_getElem? (i := 596) (by decide +kernel), List.mem_of_getElem? (i := 759) (by decide +kernel), List.mem_of_getElem? (i := 760) (by decide +kernel)⟩
theorem lw_p36 : lw_okq (⟨"BannisterCabinetModel", "governor", "()I"⟩, 16) := ⟨⟨by decide +kernel, by decide +kernel⟩, List.mem_of_getElem? (i := 596) (by decide +kernel), List.mem_of_getElem? (i := 766) (by decide +kernel), List.mem_of_getElem? (i := 767) (by decide +kernel)⟩
theorem lw_p37 : lw_okq (⟨"BannisterCabinetModel", "take", "()V"⟩, 16) := ⟨⟨by decide +kernel, by decide +kernel⟩, List.mem_of_getElem? (i := 596) (by decide +kernel), List.mem_of_getElem? (i := 770) (by decide +kernel), List.mem_of_getElem? (i := 771) (by decide +kernel)⟩
theorem lw_p38 : lw_okq (⟨"BannisterCabinetModel", "governsWith", "(IIII)Z"⟩, 16) := ⟨⟨by decide +kernel, by decide +kernel⟩, List.mem_of_getElem? (i := 596) (by decide +kernel), List.mem_of_getElem? (i := 815) (by decide +kernel), List.mem_of_getElem? (i := 816) (by decide +kernel)⟩
theorem lw_p39 : lw_okq (⟨"BannisterCabinetModel", "holds", "(III)Z"⟩, 16) := ⟨⟨by decide +kernel, by decide +kernel⟩, List.mem_of_getElem? (i := 596) (by decide +kernel), List.mem_of_getElem? (i := 823) (by decide +kernel), List.mem_of_getElem? (i := 824) (by decide +kernel)⟩
theorem lw_p40 : lw_okq (⟨"BannisterCabinetModel", "weight", "(I)I"⟩, 16) := ⟨⟨by decide +kernel, by decide +kernel⟩, List.mem_of_getElem? (i := 596) (by decide +kernel), List.mem_of_getElem? (i := 834) (by decide +kernel), List.mem_of_getElem? (i := 835) (by decide +kernel)⟩
theorem lw_p41 : lw_okq (⟨"BannisterCabinetModel", "isSeen", "()Z"⟩, 16) := ⟨⟨by decide +kernel, by decide +kernel⟩, List.mem_of_getElem? (i := 596) (by decide +kernel), List.mem_of_getElem? (i := 850) (by decide +kernel), List.mem_of_getElem? (i := 851) (by decide +kernel)⟩
theorem lw_p42 : lw_okq (⟨"BannisterCabinetModel", "more", "(II)V"⟩, 16) := ⟨⟨by decide +kernel, by decide +kernel⟩, List.mem_of_getElem? (i := 596) (by decide +kernel), List.mem_of_getElem? (i := 864) (by decide +kernel), List.mem_of_getElem? (i := 865) (by decide +kernel)⟩
theorem lw_p43 : lw_okq (⟨"BannisterCabinetModel", "waxInAll", "()I"⟩, 16) := ⟨⟨by decide +kernel, by decide +kernel⟩, List.mem_of_getElem? (i := 596) (by decide +kernel), List.mem_of_getElem? (i := 889) (by decide +kernel), List.mem_of_getElem? (i := 890) (by decide +kernel)⟩
def lw_privs_3 : List (MethodName × Nat) := [(⟨"BannisterCabinetModel", "goYear", "()V"⟩, 16), (⟨"BannisterCabinetModel", "goOne", "(I)V"⟩, 16), (⟨"BannisterCabinetModel", "slideDown", "(II)V"⟩, 16), (⟨"BannisterCabinetModel", "stops", "(II)Z"⟩, 16), (⟨"BannisterCabinetModel", "governor", "()I"⟩, 16), (⟨"BannisterCabinetModel", "take", "()V"⟩, 16), (⟨"BannisterCabinetModel", "governsWith", "(IIII)Z"⟩, 16), (⟨"BannisterCabinetModel", "holds", "(III)Z"⟩, 16), (⟨"BannisterCabinetModel", "weight", "(I)I"⟩, 16), (⟨"BannisterCabinetModel", "isSeen", "()Z"⟩, 16), (⟨"BannisterCabinetModel", "more", "(II)V"⟩, 16), (⟨"BannisterCabinetModel", "waxInAll", "()I"⟩, 16)]
theorem lw_r3 : ∀ q ∈ lw_privs_3, lw_okq q := List.forall_mem_cons.mpr ⟨lw_p32, List.forall_mem_cons.mpr ⟨lw_p33, List.forall_mem_cons.mpr ⟨lw_p34, List.forall_mem_cons.mpr ⟨lw_p35, List.forall_mem_cons.mpr ⟨lw_p36, List.forall_mem_cons.mpr ⟨lw_p37, List.forall_mem_cons.mpr ⟨lw_p38, List.forall_mem_cons.mpr ⟨lw_p39, List.forall_mem_cons.mpr ⟨lw_p40, List.forall_mem_cons.mpr ⟨lw_p41, List.forall_mem_cons.mpr ⟨lw_p42, List.forall_mem_cons.mpr ⟨lw_p43, fun _ h => absurd h List.not_mem_nil⟩⟩⟩⟩⟩⟩⟩⟩⟩⟩⟩⟩
def lw_privs : List (MethodName × Nat) := lw_privs_1 ++ (lw_privs_2 ++ (lw_privs_3))
def lw_tbl : List Cond := k2_sels lw_privs ++ tables_1
theorem lw_privs_ok : ∀ q ∈ lw_privs, lw_okq q := by
  show ∀ q ∈ lw_privs_1 ++ (lw_privs_2 ++ (lw_privs_3)), lw_okq q
  exact List.forall_mem_append.mpr ⟨lw_r1, List.forall_mem_append.mpr ⟨lw_r2, lw_r3⟩⟩
-- ===== end of PART A; then your names; then what follows =====
def RX0 : String := "BannisterCabinet$Plan"
def TX0 : u_T := fun k => match k with
  | 0 => ("BannisterCabinet$Plan", "kind", "[I", true)
  | 1 => ("BannisterCabinet$Plan", "ministers", "I", false)
  | 2 => ("BannisterCabinet$Plan", "steps", "I", false)
  | 3 => ("BannisterCabinet$Plan", "knobs", "I", false)
  | _ => ("BannisterCabinet$Plan", "turns", "I", false)
def tyX0 : Nat → FieldType := fun k => match k with
  | 0 => .array .int
  | 1 => .int
  | 2 => .int
  | 3 => .int
  | _ => .int
theorem nmX0 : ∀ a, a < 5 → ∀ b, b < 5 → a ≠ b → (TX0 a).2.1 ≠ (TX0 b).2.1 := by decide +kernel
theorem tyX0_ok : ∀ k, k < 5 → parseFieldDescriptor (TX0 k).2.2.1 = some (tyX0 k) := by decide +kernel
abbrev cX0_init : ByteArray := prog_2_method_1_code
def yX0_init : MethodName := ⟨RX0, "<init>", "()V"⟩
abbrev cX0_clear : ByteArray := prog_2_method_2_code
def yX0_clear : MethodName := ⟨RX0, "clear", "()V"⟩
abbrev cX0_copy : ByteArray := prog_2_method_3_code
def yX0_copy : MethodName := ⟨RX0, "copy", "(LBannisterCabinet$Plan;)V"⟩
abbrev cX0_hasMinister : ByteArray := prog_2_method_4_code
def yX0_hasMinister : MethodName := ⟨RX0, "hasMinister", "(I)Z"⟩
abbrev cX0_hasStep : ByteArray := prog_2_method_5_code
def yX0_hasStep : MethodName := ⟨RX0, "hasStep", "(I)Z"⟩
abbrev cX0_isTop : ByteArray := prog_2_method_6_code
def yX0_isTop : MethodName := ⟨RX0, "isTop", "(I)Z"⟩
abbrev cX0_hasKnob : ByteArray := prog_2_method_7_code
def yX0_hasKnob : MethodName := ⟨RX0, "hasKnob", "(I)Z"⟩
abbrev cX0_hasTurn : ByteArray := prog_2_method_8_code
def yX0_hasTurn : MethodName := ⟨RX0, "hasTurn", "(I)Z"⟩
def RX1 : String := "BannisterCabinet$Reader"
def TX1 : u_T := fun k => match k with
  | 0 => ("BannisterCabinet$Reader", "plan", "LBannisterCabinet$Plan;", true)
  | 1 => ("BannisterCabinet$Reader", "start", "LBannisterCabinet$Standing;", true)
  | 2 => ("BannisterCabinet$Reader", "numbers", "[I", true)
  | 3 => ("BannisterCabinet$Reader", "numbersRead", "I", false)
  | _ => ("BannisterCabinet$Reader", "onlySteps", "Z", false)
def tyX1 : Nat → FieldType := fun k => match k with
  | 0 => .object "BannisterCabinet$Plan"
  | 1 => .object "BannisterCabinet$Standing"
  | 2 => .array .int
  | 3 => .int
  | _ => .boolean
theorem nmX1 : ∀ a, a < 5 → ∀ b, b < 5 → a ≠ b → (TX1 a).2.1 ≠ (TX1 b).2.1 := by decide +kernel
theorem tyX1_ok : ∀ k, k < 5 → parseFieldDescriptor (TX1 k).2.2.1 = some (tyX1 k) := by decide +kernel
abbrev cX1_init : ByteArray := prog_3_method_1_code
def yX1_init : MethodName := ⟨RX1, "<init>", "()V"⟩
abbrev cX1_firstFault : ByteArray := prog_3_method_2_code
def yX1_firstFault : MethodName := ⟨RX1, "firstFault", "(LBannisterCabinet$Text;)I"⟩
abbrev cX1_readNumbers : ByteArray := prog_3_method_3_code
def yX1_readNumbers : MethodName := ⟨RX1, "readNumbers", "(LBannisterCabinet$Text;I)I"⟩
abbrev cX1_addNumber : ByteArray := prog_3_method_4_code
def yX1_addNumber : MethodName := ⟨RX1, "addNumber", "(I)Z"⟩
abbrev cX1_takeItem : ByteArray := prog_3_method_5_code
def yX1_takeItem : MethodName := ⟨RX1, "takeItem", "(C)Z"⟩
abbrev cX1_takeSteps : ByteArray := prog_3_method_6_code
def yX1_takeSteps : MethodName := ⟨RX1, "takeSteps", "()Z"⟩
abbrev cX1_takeWax : ByteArray := prog_3_method_7_code
def yX1_takeWax : MethodName := ⟨RX1, "takeWax", "()Z"⟩
abbrev cX1_takeKnob : ByteArray := prog_3_method_8_code
def yX1_takeKnob : MethodName := ⟨RX1, "takeKnob", "()Z"⟩
abbrev cX1_takeTurning : ByteArray := prog_3_method_9_code
def yX1_takeTurning : MethodName := ⟨RX1, "takeTurning", "()Z"⟩
abbrev cX1_tellsOneStep : ByteArray := prog_3_method_10_code
def yX1_tellsOneStep : MethodName := ⟨RX1, "tellsOneStep", "()Z"⟩
abbrev cX1_takeMinister : ByteArray := prog_3_method_11_code
def yX1_takeMinister : MethodName := ⟨RX1, "takeMinister", "()Z"⟩
abbrev cX1_takeFunds : ByteArray := prog_3_method_12_code
def yX1_takeFunds : MethodName := ⟨RX1, "takeFunds", "()Z"⟩
def RX2 : String := "BannisterCabinet$Shelf"
def TX2 : u_T := fun k => match k with
  | 0 => ("BannisterCabinet$Shelf", "rows", "[LBannisterCabinet$Standing;", true)
  | 1 => ("BannisterCabinet$Shelf", "size", "I", false)
  | _ => ("BannisterCabinet$Shelf", "next", "I", false)
def tyX2 : Nat → FieldType := fun k => match k with
  | 0 => .array (.object "BannisterCabinet$Standing")
  | 1 => .int
  | _ => .int
theorem nmX2 : ∀ a, a < 3 → ∀ b, b < 3 → a ≠ b → (TX2 a).2.1 ≠ (TX2 b).2.1 := by decide +kernel
theorem tyX2_ok : ∀ k, k < 3 → parseFieldDescriptor (TX2 k).2.2.1 = some (tyX2 k) := by decide +kernel
abbrev cX2_init : ByteArray := prog_4_method_1_code
def yX2_init : MethodName := ⟨RX2, "<init>", "(LBannisterCabinet$Plan;I)V"⟩
abbrev cX2_isFull : ByteArray := prog_4_method_2_code
def yX2_isFull : MethodName := ⟨RX2, "isFull", "()Z"⟩
abbrev cX2_put : ByteArray := prog_4_method_3_code
def yX2_put : MethodName := ⟨RX2, "put", "(LBannisterCabinet$Standing;)V"⟩
abbrev cX2_takeLatest : ByteArray := prog_4_method_4_code
def yX2_takeLatest : MethodName := ⟨RX2, "takeLatest", "(LBannisterCabinet$Standing;)Z"⟩
def RX3 : String := "BannisterCabinet$Sightings"
def TX3 : u_T := fun k => match k with
  | 0 => ("BannisterCabinet$Sightings", "who", "[I", true)
  | 1 => ("BannisterCabinet$Sightings", "where", "[I", true)
  | _ => ("BannisterCabinet$Sightings", "size", "I", false)
def tyX3 : Nat → FieldType := fun k => match k with
  | 0 => .array .int
  | 1 => .array .int
  | _ => .int
theorem nmX3 : ∀ a, a < 3 → ∀ b, b < 3 → a ≠ b → (TX3 a).2.1 ≠ (TX3 b).2.1 := by decide +kernel
theorem tyX3_ok : ∀ k, k < 3 → parseFieldDescriptor (TX3 k).2.2.1 = some (tyX3 k) := by decide +kernel
abbrev cX3_init : ByteArray := prog_5_method_1_code
def yX3_init : MethodName := ⟨RX3, "<init>", "()V"⟩
abbrev cX3_add : ByteArray := prog_5_method_2_code
def yX3_add : MethodName := ⟨RX3, "add", "(II)Z"⟩
abbrev cX3_allHoldIn : ByteArray := prog_5_method_3_code
def yX3_allHoldIn : MethodName := ⟨RX3, "allHoldIn", "(LBannisterCabinet$Standing;)Z"⟩
def RX4 : String := "BannisterCabinet$Standing"
def TX4 : u_T := fun k => match k with
  | 0 => ("BannisterCabinet$Standing", "plan", "LBannisterCabinet$Plan;", true)
  | 1 => ("BannisterCabinet$Standing", "wax", "[I", true)
  | 2 => ("BannisterCabinet$Standing", "place", "[I", true)
  | 3 => ("BannisterCabinet$Standing", "grip", "[I", true)
  | 4 => ("BannisterCabinet$Standing", "reign", "[I", true)
  | 5 => ("BannisterCabinet$Standing", "funds", "I", false)
  | _ => ("BannisterCabinet$Standing", "year", "I", false)
def tyX4 : Nat → FieldType := fun k => match k with
  | 0 => .object "BannisterCabinet$Plan"
  | 1 => .array .int
  | 2 => .array .int
  | 3 => .array .int
  | 4 => .array .int
  | 5 => .int
  | _ => .int
theorem nmX4 : ∀ a, a < 7 → ∀ b, b < 7 → a ≠ b → (TX4 a).2.1 ≠ (TX4 b).2.1 := by decide +kernel
theorem tyX4_ok : ∀ k, k < 7 → parseFieldDescriptor (TX4 k).2.2.1 = some (tyX4 k) := by decide +kernel
abbrev cX4_init : ByteArray := prog_6_method_1_code
def yX4_init : MethodName := ⟨RX4, "<init>", "(LBannisterCabinet$Plan;)V"⟩
abbrev cX4_clear : ByteArray := prog_6_method_2_code
def yX4_clear : MethodName := ⟨RX4, "clear", "()V"⟩
abbrev cX4_copy : ByteArray := prog_6_method_3_code
def yX4_copy : MethodName := ⟨RX4, "copy", "(LBannisterCabinet$Standing;)V"⟩
abbrev cX4_governor : ByteArray := prog_6_method_4_code
def yX4_governor : MethodName := ⟨RX4, "governor", "()I"⟩
abbrev cX4_howManyOn : ByteArray := prog_6_method_5_code
def yX4_howManyOn : MethodName := ⟨RX4, "howManyOn", "(I)I"⟩
abbrev cX4_allWax : ByteArray := prog_6_method_6_code
def yX4_allWax : MethodName := ⟨RX4, "allWax", "()I"⟩
abbrev cX4_weightOfSet : ByteArray := prog_6_method_7_code
def yX4_weightOfSet : MethodName := ⟨RX4, "weightOfSet", "(I)I"⟩
abbrev cX4_addWax : ByteArray := prog_6_method_8_code
def yX4_addWax : MethodName := ⟨RX4, "addWax", "(II)V"⟩
abbrev cX4_goOn : ByteArray := prog_6_method_9_code
def yX4_goOn : MethodName := ⟨RX4, "goOn", "(I)V"⟩
abbrev cX4_oneYear : ByteArray := prog_6_method_10_code
def yX4_oneYear : MethodName := ⟨RX4, "oneYear", "()V"⟩
abbrev cX4_slipsAtHisTurn : ByteArray := prog_6_method_11_code
def yX4_slipsAtHisTurn : MethodName := ⟨RX4, "slipsAtHisTurn", "(I)Z"⟩
abbrev cX4_speedOf : ByteArray := prog_6_method_12_code
def yX4_speedOf : MethodName := ⟨RX4, "speedOf", "(I)I"⟩
abbrev cX4_takeTurn : ByteArray := prog_6_method_13_code
def yX4_takeTurn : MethodName := ⟨RX4, "takeTurn", "(I)V"⟩
abbrev cX4_comeDown : ByteArray := prog_6_method_14_code
def yX4_comeDown : MethodName := ⟨RX4, "comeDown", "(II)V"⟩
abbrev cX4_weather : ByteArray := prog_6_method_15_code
def yX4_weather : MethodName := ⟨RX4, "weather", "(I)V"⟩
def RX5 : String := "BannisterCabinet$Text"
def TX5 : u_T := fun k => match k with
  | 0 => ("BannisterCabinet$Text", "letters", "[C", true)
  | _ => ("BannisterCabinet$Text", "length", "I", false)
def tyX5 : Nat → FieldType := fun k => match k with
  | 0 => .array .char
  | _ => .int
theorem nmX5 : ∀ a, a < 2 → ∀ b, b < 2 → a ≠ b → (TX5 a).2.1 ≠ (TX5 b).2.1 := by decide +kernel
theorem tyX5_ok : ∀ k, k < 2 → parseFieldDescriptor (TX5 k).2.2.1 = some (tyX5 k) := by decide +kernel
abbrev cX5_init : ByteArray := prog_7_method_1_code
def yX5_init : MethodName := ⟨RX5, "<init>", "()V"⟩
abbrev cX5_add : ByteArray := prog_7_method_2_code
def yX5_add : MethodName := ⟨RX5, "add", "(C)Z"⟩
def RX6 : String := "BannisterCabinet"
def TX6 : u_T := fun k => match k with
  | 0 => ("BannisterCabinet", "text", "LBannisterCabinet$Text;", true)
  | 1 => ("BannisterCabinet", "reader", "LBannisterCabinet$Reader;", true)
  | 2 => ("BannisterCabinet", "plan", "LBannisterCabinet$Plan;", true)
  | 3 => ("BannisterCabinet", "now", "LBannisterCabinet$Standing;", true)
  | 4 => ("BannisterCabinet", "trial", "LBannisterCabinet$Standing;", true)
  | 5 => ("BannisterCabinet", "undoable", "LBannisterCabinet$Shelf;", true)
  | 6 => ("BannisterCabinet", "kept", "LBannisterCabinet$Shelf;", true)
  | _ => ("BannisterCabinet", "sightings", "LBannisterCabinet$Sightings;", true)
def tyX6 : Nat → FieldType := fun k => match k with
  | 0 => .object "BannisterCabinet$Text"
  | 1 => .object "BannisterCabinet$Reader"
  | 2 => .object "BannisterCabinet$Plan"
  | 3 => .object "BannisterCabinet$Standing"
  | 4 => .object "BannisterCabinet$Standing"
  | 5 => .object "BannisterCabinet$Shelf"
  | 6 => .object "BannisterCabinet$Shelf"
  | _ => .object "BannisterCabinet$Sightings"
theorem nmX6 : ∀ a, a < 8 → ∀ b, b < 8 → a ≠ b → (TX6 a).2.1 ≠ (TX6 b).2.1 := by decide +kernel
theorem tyX6_ok : ∀ k, k < 8 → parseFieldDescriptor (TX6 k).2.2.1 = some (tyX6 k) := by decide +kernel
abbrev cX6_init : ByteArray := prog_1_method_1_code
def yX6_init : MethodName := ⟨RX6, "<init>", "()V"⟩
abbrev cX6_write : ByteArray := prog_1_method_2_code
def yX6_write : MethodName := ⟨RX6, "write", "(I)I"⟩
abbrev cX6_wipe : ByteArray := prog_1_method_3_code
def yX6_wipe : MethodName := ⟨RX6, "wipe", "()I"⟩
abbrev cX6_fault : ByteArray := prog_1_method_4_code
def yX6_fault : MethodName := ⟨RX6, "fault", "()I"⟩
abbrev cX6_lay : ByteArray := prog_1_method_5_code
def yX6_lay : MethodName := ⟨RX6, "lay", "()I"⟩
abbrev cX6_minister : ByteArray := prog_1_method_6_code
def yX6_minister : MethodName := ⟨RX6, "minister", "(II)I"⟩
abbrev cX6_step : ByteArray := prog_1_method_7_code
def yX6_step : MethodName := ⟨RX6, "step", "(II)I"⟩
abbrev cX6_pass : ByteArray := prog_1_method_8_code
def yX6_pass : MethodName := ⟨RX6, "pass", "(I)I"⟩
abbrev cX6_wax : ByteArray := prog_1_method_9_code
def yX6_wax : MethodName := ⟨RX6, "wax", "(I)I"⟩
abbrev cX6_sand : ByteArray := prog_1_method_10_code
def yX6_sand : MethodName := ⟨RX6, "sand", "(I)I"⟩
abbrev cX6_help : ByteArray := prog_1_method_11_code
def yX6_help : MethodName := ⟨RX6, "help", "(I)I"⟩
abbrev cX6_undo : ByteArray := prog_1_method_12_code
def yX6_undo : MethodName := ⟨RX6, "undo", "()I"⟩
abbrev cX6_governs : ByteArray := prog_1_method_13_code
def yX6_governs : MethodName := ⟨RX6, "governs", "()I"⟩
abbrev cX6_behind : ByteArray := prog_1_method_14_code
def yX6_behind : MethodName := ⟨RX6, "behind", "(III)I"⟩
abbrev cX6_slide : ByteArray := prog_1_method_15_code
def yX6_slide : MethodName := ⟨RX6, "slide", "(I)I"⟩
abbrev cX6_top : ByteArray := prog_1_method_16_code
def yX6_top : MethodName := ⟨RX6, "top", "(I)I"⟩
abbrev cX6_topple : ByteArray := prog_1_method_17_code
def yX6_topple : MethodName := ⟨RX6, "topple", "(I)I"⟩
abbrev cX6_plot : ByteArray := prog_1_method_18_code
def yX6_plot : MethodName := ⟨RX6, "plot", "(III)I"⟩
abbrev cX6_hold : ByteArray := prog_1_method_19_code
def yX6_hold : MethodName := ⟨RX6, "hold", "(II)I"⟩
abbrev cX6_cabinet : ByteArray := prog_1_method_20_code
def yX6_cabinet : MethodName := ⟨RX6, "cabinet", "(I)I"⟩
abbrev cX6_seen : ByteArray := prog_1_method_21_code
def yX6_seen : MethodName := ⟨RX6, "seen", "(II)I"⟩
abbrev cX6_forget : ByteArray := prog_1_method_22_code
def yX6_forget : MethodName := ⟨RX6, "forget", "()I"⟩
abbrev cX6_waxes : ByteArray := prog_1_method_23_code
def yX6_waxes : MethodName := ⟨RX6, "waxes", "(I)I"⟩
abbrev cX6_grips : ByteArray := prog_1_method_24_code
def yX6_grips : MethodName := ⟨RX6, "grips", "(I)I"⟩
abbrev cX6_likely : ByteArray := prog_1_method_25_code
def yX6_likely : MethodName := ⟨RX6, "likely", "(IIII)I"⟩
abbrev cX6_century : ByteArray := prog_1_method_26_code
def yX6_century : MethodName := ⟨RX6, "century", "(III)I"⟩
abbrev cX6_keep : ByteArray := prog_1_method_27_code
def yX6_keep : MethodName := ⟨RX6, "keep", "()I"⟩
abbrev cX6_back : ByteArray := prog_1_method_28_code
def yX6_back : MethodName := ⟨RX6, "back", "()I"⟩
abbrev cX6_count : ByteArray := prog_1_method_29_code
def yX6_count : MethodName := ⟨RX6, "count", "(I)I"⟩
abbrev cX6_layOut : ByteArray := prog_1_method_30_code
def yX6_layOut : MethodName := ⟨RX6, "layOut", "()Z"⟩
abbrev cX6_governsByWax : ByteArray := prog_1_method_31_code
def yX6_governsByWax : MethodName := ⟨RX6, "governsByWax", "(IIII)Z"⟩
abbrev cX6_holdsBySand : ByteArray := prog_1_method_32_code
def yX6_holdsBySand : MethodName := ⟨RX6, "holdsBySand", "(III)Z"⟩
abbrev cX6_smallestCabinet : ByteArray := prog_1_method_33_code
def yX6_smallestCabinet : MethodName := ⟨RX6, "smallestCabinet", "()I"⟩
abbrev cX6_bitIfSeen : ByteArray := prog_1_method_34_code
def yX6_bitIfSeen : MethodName := ⟨RX6, "bitIfSeen", "(I)I"⟩
abbrev cX6_weightOf : ByteArray := prog_1_method_35_code
def yX6_weightOf : MethodName := ⟨RX6, "weightOf", "(III)I"⟩
abbrev cX6_governsByPath : ByteArray := prog_1_method_36_code
def yX6_governsByPath : MethodName := ⟨RX6, "governsByPath", "(III)Z"⟩
abbrev cX6_draw : ByteArray := prog_1_method_37_code
def yX6_draw : MethodName := ⟨RX6, "draw", "(II)I"⟩
abbrev cX6_power : ByteArray := prog_1_method_38_code
def yX6_power : MethodName := ⟨RX6, "power", "(II)I"⟩
abbrev cX6_commonDivisor : ByteArray := prog_1_method_39_code
def yX6_commonDivisor : MethodName := ⟨RX6, "commonDivisor", "(II)I"⟩
abbrev cX6_within : ByteArray := prog_1_method_40_code
def yX6_within : MethodName := ⟨RX6, "within", "(III)Z"⟩
def RX7 : String := "BannisterCabinetModel"
def TX7 : u_T := fun k => match k with
  | 0 => ("BannisterCabinetModel", "length", "I", false)
  | 1 => ("BannisterCabinetModel", "text", "[I", true)
  | 2 => ("BannisterCabinetModel", "told", "[I", true)
  | 3 => ("BannisterCabinetModel", "read", "[I", true)
  | 4 => ("BannisterCabinetModel", "hasItem", "Z", false)
  | 5 => ("BannisterCabinetModel", "now", "[I", true)
  | 6 => ("BannisterCabinetModel", "readRow", "[I", true)
  | 7 => ("BannisterCabinetModel", "side", "[I", true)
  | 8 => ("BannisterCabinetModel", "before", "[I", true)
  | 9 => ("BannisterCabinetModel", "undoMany", "I", false)
  | 10 => ("BannisterCabinetModel", "kept", "[I", true)
  | 11 => ("BannisterCabinetModel", "keptMany", "I", false)
  | 12 => ("BannisterCabinetModel", "seen", "[I", true)
  | 13 => ("BannisterCabinetModel", "seenMany", "I", false)
  | 14 => ("BannisterCabinetModel", "spot", "I", false)
  | _ => ("BannisterCabinetModel", "number", "[I", true)
def tyX7 : Nat → FieldType := fun k => match k with
  | 0 => .int
  | 1 => .array .int
  | 2 => .array .int
  | 3 => .array .int
  | 4 => .boolean
  | 5 => .array .int
  | 6 => .array .int
  | 7 => .array .int
  | 8 => .array .int
  | 9 => .int
  | 10 => .array .int
  | 11 => .int
  | 12 => .array .int
  | 13 => .int
  | 14 => .int
  | _ => .array .int
theorem nmX7 : ∀ a, a < 16 → ∀ b, b < 16 → a ≠ b → (TX7 a).2.1 ≠ (TX7 b).2.1 := by decide +kernel
theorem tyX7_ok : ∀ k, k < 16 → parseFieldDescriptor (TX7 k).2.2.1 = some (tyX7 k) := by decide +kernel
abbrev cX7_init : ByteArray := prog_9_method_1_code
def yX7_init : MethodName := ⟨RX7, "<init>", "()V"⟩
abbrev cX7_firstOne : ByteArray := prog_9_method_2_code
def yX7_firstOne : MethodName := ⟨RX7, "firstOne", "(III)V"⟩
abbrev cX7_in : ByteArray := prog_9_method_3_code
def yX7_in : MethodName := ⟨RX7, "in", "(JJJ)Z"⟩
abbrev cX7_has : ByteArray := prog_9_method_4_code
def yX7_has : MethodName := ⟨RX7, "has", "(II)Z"⟩
abbrev cX7_ones : ByteArray := prog_9_method_5_code
def yX7_ones : MethodName := ⟨RX7, "ones", "(I)I"⟩
abbrev cX7_empty : ByteArray := prog_9_method_6_code
def yX7_empty : MethodName := ⟨RX7, "empty", "()V"⟩
abbrev cX7_write : ByteArray := prog_9_method_7_code
def yX7_write : MethodName := ⟨RX7, "write", "(I)I"⟩
abbrev cX7_wipe : ByteArray := prog_9_method_8_code
def yX7_wipe : MethodName := ⟨RX7, "wipe", "()I"⟩
abbrev cX7_letterAt : ByteArray := prog_9_method_9_code
def yX7_letterAt : MethodName := ⟨RX7, "letterAt", "(I)I"⟩
abbrev cX7_numbers : ByteArray := prog_9_method_10_code
def yX7_numbers : MethodName := ⟨RX7, "numbers", "(I)Z"⟩
abbrev cX7_ministerItem : ByteArray := prog_9_method_11_code
def yX7_ministerItem : MethodName := ⟨RX7, "ministerItem", "()Z"⟩
abbrev cX7_item : ByteArray := prog_9_method_12_code
def yX7_item : MethodName := ⟨RX7, "item", "()Z"⟩
abbrev cX7_readAll : ByteArray := prog_9_method_13_code
def yX7_readAll : MethodName := ⟨RX7, "readAll", "()I"⟩
abbrev cX7_fault : ByteArray := prog_9_method_14_code
def yX7_fault : MethodName := ⟨RX7, "fault", "()I"⟩
abbrev cX7_lay : ByteArray := prog_9_method_15_code
def yX7_lay : MethodName := ⟨RX7, "lay", "()I"⟩
abbrev cX7_begin : ByteArray := prog_9_method_16_code
def yX7_begin : MethodName := ⟨RX7, "begin", "()V"⟩
abbrev cX7_isOne : ByteArray := prog_9_method_17_code
def yX7_isOne : MethodName := ⟨RX7, "isOne", "(I)Z"⟩
abbrev cX7_isStep : ByteArray := prog_9_method_18_code
def yX7_isStep : MethodName := ⟨RX7, "isStep", "(I)Z"⟩
abbrev cX7_aside : ByteArray := prog_9_method_19_code
def yX7_aside : MethodName := ⟨RX7, "aside", "()V"⟩
abbrev cX7_lack : ByteArray := prog_9_method_20_code
def yX7_lack : MethodName := ⟨RX7, "lack", "(I)I"⟩
abbrev cX7_stops : ByteArray := prog_9_method_21_code
def yX7_stops : MethodName := ⟨RX7, "stops", "(II)Z"⟩
abbrev cX7_slideDown : ByteArray := prog_9_method_22_code
def yX7_slideDown : MethodName := ⟨RX7, "slideDown", "(II)V"⟩
abbrev cX7_goOne : ByteArray := prog_9_method_23_code
def yX7_goOne : MethodName := ⟨RX7, "goOne", "(I)V"⟩
abbrev cX7_governor : ByteArray := prog_9_method_24_code
def yX7_governor : MethodName := ⟨RX7, "governor", "()I"⟩
abbrev cX7_goYear : ByteArray := prog_9_method_25_code
def yX7_goYear : MethodName := ⟨RX7, "goYear", "()V"⟩
abbrev cX7_goYears : ByteArray := prog_9_method_26_code
def yX7_goYears : MethodName := ⟨RX7, "goYears", "(I)V"⟩
abbrev cX7_take : ByteArray := prog_9_method_27_code
def yX7_take : MethodName := ⟨RX7, "take", "()V"⟩
abbrev cX7_minister : ByteArray := prog_9_method_28_code
def yX7_minister : MethodName := ⟨RX7, "minister", "(II)I"⟩
abbrev cX7_step : ByteArray := prog_9_method_29_code
def yX7_step : MethodName := ⟨RX7, "step", "(II)I"⟩
abbrev cX7_note : ByteArray := prog_9_method_30_code
def yX7_note : MethodName := ⟨RX7, "note", "()V"⟩
abbrev cX7_pass : ByteArray := prog_9_method_31_code
def yX7_pass : MethodName := ⟨RX7, "pass", "(I)I"⟩
abbrev cX7_wax : ByteArray := prog_9_method_32_code
def yX7_wax : MethodName := ⟨RX7, "wax", "(I)I"⟩
abbrev cX7_sand : ByteArray := prog_9_method_33_code
def yX7_sand : MethodName := ⟨RX7, "sand", "(I)I"⟩
abbrev cX7_help : ByteArray := prog_9_method_34_code
def yX7_help : MethodName := ⟨RX7, "help", "(I)I"⟩
abbrev cX7_undo : ByteArray := prog_9_method_35_code
def yX7_undo : MethodName := ⟨RX7, "undo", "()I"⟩
abbrev cX7_governs : ByteArray := prog_9_method_36_code
def yX7_governs : MethodName := ⟨RX7, "governs", "()I"⟩
abbrev cX7_behind : ByteArray := prog_9_method_37_code
def yX7_behind : MethodName := ⟨RX7, "behind", "(III)I"⟩
abbrev cX7_slide : ByteArray := prog_9_method_38_code
def yX7_slide : MethodName := ⟨RX7, "slide", "(I)I"⟩
abbrev cX7_top : ByteArray := prog_9_method_39_code
def yX7_top : MethodName := ⟨RX7, "top", "(I)I"⟩
abbrev cX7_topple : ByteArray := prog_9_method_40_code
def yX7_topple : MethodName := ⟨RX7, "topple", "(I)I"⟩
abbrev cX7_governsWith : ByteArray := prog_9_method_41_code
def yX7_governsWith : MethodName := ⟨RX7, "governsWith", "(IIII)Z"⟩
abbrev cX7_plot : ByteArray := prog_9_method_42_code
def yX7_plot : MethodName := ⟨RX7, "plot", "(III)I"⟩
abbrev cX7_holds : ByteArray := prog_9_method_43_code
def yX7_holds : MethodName := ⟨RX7, "holds", "(III)Z"⟩
abbrev cX7_hold : ByteArray := prog_9_method_44_code
def yX7_hold : MethodName := ⟨RX7, "hold", "(II)I"⟩
abbrev cX7_weight : ByteArray := prog_9_method_45_code
def yX7_weight : MethodName := ⟨RX7, "weight", "(I)I"⟩
abbrev cX7_cabinet : ByteArray := prog_9_method_46_code
def yX7_cabinet : MethodName := ⟨RX7, "cabinet", "(I)I"⟩
abbrev cX7_seen : ByteArray := prog_9_method_47_code
def yX7_seen : MethodName := ⟨RX7, "seen", "(II)I"⟩
abbrev cX7_forget : ByteArray := prog_9_method_48_code
def yX7_forget : MethodName := ⟨RX7, "forget", "()I"⟩
abbrev cX7_isSeen : ByteArray := prog_9_method_49_code
def yX7_isSeen : MethodName := ⟨RX7, "isSeen", "()Z"⟩
abbrev cX7_waxes : ByteArray := prog_9_method_50_code
def yX7_waxes : MethodName := ⟨RX7, "waxes", "(I)I"⟩
abbrev cX7_grips : ByteArray := prog_9_method_51_code
def yX7_grips : MethodName := ⟨RX7, "grips", "(I)I"⟩
abbrev cX7_more : ByteArray := prog_9_method_52_code
def yX7_more : MethodName := ⟨RX7, "more", "(II)V"⟩
abbrev cX7_likely : ByteArray := prog_9_method_53_code
def yX7_likely : MethodName := ⟨RX7, "likely", "(IIII)I"⟩
abbrev cX7_century : ByteArray := prog_9_method_54_code
def yX7_century : MethodName := ⟨RX7, "century", "(III)I"⟩
abbrev cX7_keep : ByteArray := prog_9_method_55_code
def yX7_keep : MethodName := ⟨RX7, "keep", "()I"⟩
abbrev cX7_back : ByteArray := prog_9_method_56_code
def yX7_back : MethodName := ⟨RX7, "back", "()I"⟩
abbrev cX7_waxInAll : ByteArray := prog_9_method_57_code
def yX7_waxInAll : MethodName := ⟨RX7, "waxInAll", "()I"⟩
abbrev cX7_count : ByteArray := prog_9_method_58_code
def yX7_count : MethodName := ⟨RX7, "count", "(I)I"⟩
def RJ6 : String := "java/lang/Integer"
abbrev cJ6_bitCount_0f7a4 : ByteArray := prog_10_method_49_code
def yJ6_bitCount_0f7a4 : MethodName := ⟨RJ6, "bitCount", "(I)I"⟩
def RJ9 : String := "java/lang/Math"
abbrev cJ9_max_7cf53 : ByteArray := prog_11_method_65_code
def yJ9_max_7cf53 : MethodName := ⟨RJ9, "max", "(II)I"⟩
abbrev cJ9_min_7cf53 : ByteArray := prog_11_method_69_code
def yJ9_min_7cf53 : MethodName := ⟨RJ9, "min", "(II)I"⟩
def RJ0 : String := "java/lang/String"
abbrev cJ0_length_8abf5 : ByteArray := prog_12_method_54_code
def yJ0_length_8abf5 : MethodName := ⟨RJ0, "length", "()I"⟩
abbrev cJ0_charAt_5068e : ByteArray := prog_12_method_56_code
def yJ0_charAt_5068e : MethodName := ⟨RJ0, "charAt", "(I)C"⟩
abbrev cJ0_coder_7d493 : ByteArray := prog_12_method_152_code
def yJ0_coder_7d493 : MethodName := ⟨RJ0, "coder", "()B"⟩
abbrev cJ0_isLatin1_aae02 : ByteArray := prog_12_method_154_code
def yJ0_isLatin1_aae02 : MethodName := ⟨RJ0, "isLatin1", "()Z"⟩
abbrev cJ0_checkIndex_df160 : ByteArray := prog_12_method_155_code
def yJ0_checkIndex_df160 : MethodName := ⟨RJ0, "checkIndex", "(II)V"⟩
def RJ1 : String := "java/lang/StringLatin1"
abbrev cJ1_charAt_3b067 : ByteArray := prog_13_method_2_code
def yJ1_charAt_3b067 : MethodName := ⟨RJ1, "charAt", "([BI)C"⟩
def RJ2 : String := "java/lang/StringUTF16"
abbrev cJ2_getChar_3b067 : ByteArray := prog_14_method_5_code
def yJ2_getChar_3b067 : MethodName := ⟨RJ2, "getChar", "([BI)C"⟩
abbrev cJ2_length_9d52b : ByteArray := prog_14_method_6_code
def yJ2_length_9d52b : MethodName := ⟨RJ2, "length", "([B)I"⟩
abbrev cJ2_charAt_3b067 : ByteArray := prog_14_method_83_code
def yJ2_charAt_3b067 : MethodName := ⟨RJ2, "charAt", "([BI)C"⟩
abbrev cJ2_checkIndex_2214a : ByteArray := prog_14_method_91_code
def yJ2_checkIndex_2214a : MethodName := ⟨RJ2, "checkIndex", "(I[B)V"⟩
def RJ10 : String := "java/lang/System"
def RJ7 : String := "java/util/Arrays"
abbrev cJ7_fill_53178 : ByteArray := prog_16_method_103_code
def yJ7_fill_53178 : MethodName := ⟨RJ7, "fill", "([II)V"⟩
def RJ3 : String := "jdk/internal/util/Preconditions"
abbrev cJ3_checkIndex_8e157 : ByteArray := prog_17_method_11_code
def yJ3_checkIndex_8e157 : MethodName := ⟨RJ3, "checkIndex", "(IILjava/util/function/BiFunction;)I"⟩
def RL : String := "BannisterCabinetLaw"
abbrev cL_law : ByteArray := code
def yL_law : MethodName := ⟨RL, "law", "([I)Z"⟩
abbrev vwCl : List vw_C := [(RX0, TX0, 5), (RX1, TX1, 5), (RX2, TX2, 3), (RX3, TX3, 3), (RX4, TX4, 7), (RX5, TX5, 2), (RX6, TX6, 8), (RX7, TX7, 16)]
end
section
theorem dX0_init_0 : decode cX0_init 0 = .ok (.aload_n 0, 1) := by decide +kernel
theorem dX0_init_1 : decode cX0_init 1 = .ok (.invokespecial 3, 3) := by decide +kernel
theorem dX0_init_4 : decode cX0_init 4 = .ok (.aload_n 0, 1) := by decide +kernel
theorem dX0_init_5 : decode cX0_init 5 = .ok (.bipush 7, 2) := by decide +kernel
theorem dX0_init_7 : decode cX0_init 7 = .ok (.newarray .int, 2) := by decide +kernel
theorem dX0_init_9 : decode cX0_init 9 = .ok (.putfield 9, 3) := by decide +kernel
theorem dX0_init_12 : decode cX0_init 12 = .ok (.aload_n 0, 1) := by decide +kernel
theorem dX0_init_13 : decode cX0_init 13 = .ok (.iconst 0, 1) := by decide +kernel
theorem dX0_init_14 : decode cX0_init 14 = .ok (.putfield 15, 3) := by decide +kernel
theorem dX0_init_17 : decode cX0_init 17 = .ok (.aload_n 0, 1) := by decide +kernel
theorem dX0_init_18 : decode cX0_init 18 = .ok (.bipush 10, 2) := by decide +kernel
theorem dX0_init_20 : decode cX0_init 20 = .ok (.putfield 19, 3) := by decide +kernel
theorem dX0_init_23 : decode cX0_init 23 = .ok (.aload_n 0, 1) := by decide +kernel
theorem dX0_init_24 : decode cX0_init 24 = .ok (.iconst 0, 1) := by decide +kernel
theorem dX0_init_25 : decode cX0_init 25 = .ok (.putfield 22, 3) := by decide +kernel
theorem dX0_init_28 : decode cX0_init 28 = .ok (.aload_n 0, 1) := by decide +kernel
theorem dX0_init_29 : decode cX0_init 29 = .ok (.iconst 0, 1) := by decide +kernel
theorem dX0_init_30 : decode cX0_init 30 = .ok (.putfield 25, 3) := by decide +kernel
theorem dX0_init_33 : decode cX0_init 33 = .ok (.return_, 1) := by decide +kernel
theorem dX0_clear_0 : decode cX0_clear 0 = .ok (.aload_n 0, 1) := by decide +kernel
theorem dX0_clear_1 : decode cX0_clear 1 = .ok (.iconst 0, 1) := by decide +kernel
theorem dX0_clear_2 : decode cX0_clear 2 = .ok (.putfield 15, 3) := by decide +kernel
theorem dX0_clear_5 : decode cX0_clear 5 = .ok (.aload_n 0, 1) := by decide +kernel
theorem dX0_clear_6 : decode cX0_clear 6 = .ok (.bipush 10, 2) := by decide +kernel
theorem dX0_clear_8 : decode cX0_clear 8 = .ok (.putfield 19, 3) := by decide +kernel
theorem dX0_clear_11 : decode cX0_clear 11 = .ok (.aload_n 0, 1) := by decide +kernel
theorem dX0_clear_12 : decode cX0_clear 12 = .ok (.iconst 0, 1) := by decide +kernel
theorem dX0_clear_13 : decode cX0_clear 13 = .ok (.putfield 22, 3) := by decide +kernel
theorem dX0_clear_16 : decode cX0_clear 16 = .ok (.aload_n 0, 1) := by decide +kernel
theorem dX0_clear_17 : decode cX0_clear 17 = .ok (.iconst 0, 1) := by decide +kernel
theorem dX0_clear_18 : decode cX0_clear 18 = .ok (.putfield 25, 3) := by decide +kernel
theorem dX0_clear_21 : decode cX0_clear 21 = .ok (.return_, 1) := by decide +kernel
theorem dX0_copy_0 : decode cX0_copy 0 = .ok (.aload_n 1, 1) := by decide +kernel
theorem dX0_copy_1 : decode cX0_copy 1 = .ok (.getfield 9, 3) := by decide +kernel
theorem dX0_copy_4 : decode cX0_copy 4 = .ok (.iconst 0, 1) := by decide +kernel
theorem dX0_copy_5 : decode cX0_copy 5 = .ok (.aload_n 0, 1) := by decide +kernel
theorem dX0_copy_6 : decode cX0_copy 6 = .ok (.getfield 9, 3) := by decide +kernel
theorem dX0_copy_9 : decode cX0_copy 9 = .ok (.iconst 0, 1) := by decide +kernel
theorem dX0_copy_10 : decode cX0_copy 10 = .ok (.aload_n 0, 1) := by decide +kernel
theorem dX0_copy_11 : decode cX0_copy 11 = .ok (.getfield 9, 3) := by decide +kernel
theorem dX0_copy_14 : decode cX0_copy 14 = .ok (.arraylength, 1) := by decide +kernel
theorem dX0_copy_15 : decode cX0_copy 15 = .ok (.invokestatic 28, 3) := by decide +kernel
theorem dX0_copy_18 : decode cX0_copy 18 = .ok (.aload_n 0, 1) := by decide +kernel
theorem dX0_copy_19 : decode cX0_copy 19 = .ok (.aload_n 1, 1) := by decide +kernel
theorem dX0_copy_20 : decode cX0_copy 20 = .ok (.getfield 15, 3) := by decide +kernel
theorem dX0_copy_23 : decode cX0_copy 23 = .ok (.putfield 15, 3) := by decide +kernel
theorem dX0_copy_26 : decode cX0_copy 26 = .ok (.aload_n 0, 1) := by decide +kernel
theorem dX0_copy_27 : decode cX0_copy 27 = .ok (.aload_n 1, 1) := by decide +kernel
theorem dX0_copy_28 : decode cX0_copy 28 = .ok (.getfield 19, 3) := by decide +kernel
theorem dX0_copy_31 : decode cX0_copy 31 = .ok (.putfield 19, 3) := by decide +kernel
theorem dX0_copy_34 : decode cX0_copy 34 = .ok (.aload_n 0, 1) := by decide +kernel
theorem dX0_copy_35 : decode cX0_copy 35 = .ok (.aload_n 1, 1) := by decide +kernel
theorem dX0_copy_36 : decode cX0_copy 36 = .ok (.getfield 22, 3) := by decide +kernel
theorem dX0_copy_39 : decode cX0_copy 39 = .ok (.putfield 22, 3) := by decide +kernel
theorem dX0_copy_42 : decode cX0_copy 42 = .ok (.aload_n 0, 1) := by decide +kernel
theorem dX0_copy_43 : decode cX0_copy 43 = .ok (.aload_n 1, 1) := by decide +kernel
theorem dX0_copy_44 : decode cX0_copy 44 = .ok (.getfield 25, 3) := by decide +kernel
theorem dX0_copy_47 : decode cX0_copy 47 = .ok (.putfield 25, 3) := by decide +kernel
theorem dX0_copy_50 : decode cX0_copy 50 = .ok (.return_, 1) := by decide +kernel
theorem dX0_hasMinister_0 : decode cX0_hasMinister 0 = .ok (.iload_n 1, 1) := by decide +kernel
theorem dX0_hasMinister_1 : decode cX0_hasMinister 1 = .ok (.ifCond .lt 15, 3) := by decide +kernel
theorem dX0_hasMinister_4 : decode cX0_hasMinister 4 = .ok (.iload_n 1, 1) := by decide +kernel
theorem dX0_hasMinister_5 : decode cX0_hasMinister 5 = .ok (.aload_n 0, 1) := by decide +kernel
theorem dX0_hasMinister_6 : decode cX0_hasMinister 6 = .ok (.getfield 15, 3) := by decide +kernel
theorem dX0_hasMinister_9 : decode cX0_hasMinister 9 = .ok (.if_icmp .ge 7, 3) := by decide +kernel
theorem dX0_hasMinister_12 : decode cX0_hasMinister 12 = .ok (.iconst 1, 1) := by decide +kernel
theorem dX0_hasMinister_13 : decode cX0_hasMinister 13 = .ok (.goto 4, 3) := by decide +kernel
theorem dX0_hasMinister_16 : decode cX0_hasMinister 16 = .ok (.iconst 0, 1) := by decide +kernel
theorem dX0_hasMinister_17 : decode cX0_hasMinister 17 = .ok (.ireturn, 1) := by decide +kernel
theorem dX0_hasStep_0 : decode cX0_hasStep 0 = .ok (.iload_n 1, 1) := by decide +kernel
theorem dX0_hasStep_1 : decode cX0_hasStep 1 = .ok (.ifCond .lt 15, 3) := by decide +kernel
theorem dX0_hasStep_4 : decode cX0_hasStep 4 = .ok (.iload_n 1, 1) := by decide +kernel
theorem dX0_hasStep_5 : decode cX0_hasStep 5 = .ok (.aload_n 0, 1) := by decide +kernel
theorem dX0_hasStep_6 : decode cX0_hasStep 6 = .ok (.getfield 19, 3) := by decide +kernel
theorem dX0_hasStep_9 : decode cX0_hasStep 9 = .ok (.if_icmp .ge 7, 3) := by decide +kernel
theorem dX0_hasStep_12 : decode cX0_hasStep 12 = .ok (.iconst 1, 1) := by decide +kernel
theorem dX0_hasStep_13 : decode cX0_hasStep 13 = .ok (.goto 4, 3) := by decide +kernel
theorem dX0_hasStep_16 : decode cX0_hasStep 16 = .ok (.iconst 0, 1) := by decide +kernel
theorem dX0_hasStep_17 : decode cX0_hasStep 17 = .ok (.ireturn, 1) := by decide +kernel
theorem dX0_isTop_0 : decode cX0_isTop 0 = .ok (.iload_n 1, 1) := by decide +kernel
theorem dX0_isTop_1 : decode cX0_isTop 1 = .ok (.aload_n 0, 1) := by decide +kernel
theorem dX0_isTop_2 : decode cX0_isTop 2 = .ok (.getfield 19, 3) := by decide +kernel
theorem dX0_isTop_5 : decode cX0_isTop 5 = .ok (.iconst 1, 1) := by decide +kernel
theorem dX0_isTop_6 : decode cX0_isTop 6 = .ok (.isub, 1) := by decide +kernel
theorem dX0_isTop_7 : decode cX0_isTop 7 = .ok (.if_icmp .ne 7, 3) := by decide +kernel
theorem dX0_isTop_10 : decode cX0_isTop 10 = .ok (.iconst 1, 1) := by decide +kernel
theorem dX0_isTop_11 : decode cX0_isTop 11 = .ok (.goto 4, 3) := by decide +kernel
theorem dX0_isTop_14 : decode cX0_isTop 14 = .ok (.iconst 0, 1) := by decide +kernel
theorem dX0_isTop_15 : decode cX0_isTop 15 = .ok (.ireturn, 1) := by decide +kernel
theorem dX0_hasKnob_0 : decode cX0_hasKnob 0 = .ok (.aload_n 0, 1) := by decide +kernel
theorem dX0_hasKnob_1 : decode cX0_hasKnob 1 = .ok (.getfield 22, 3) := by decide +kernel
theorem dX0_hasKnob_4 : decode cX0_hasKnob 4 = .ok (.iload_n 1, 1) := by decide +kernel
theorem dX0_hasKnob_5 : decode cX0_hasKnob 5 = .ok (.ishr, 1) := by decide +kernel
theorem dX0_hasKnob_6 : decode cX0_hasKnob 6 = .ok (.iconst 1, 1) := by decide +kernel
theorem dX0_hasKnob_7 : decode cX0_hasKnob 7 = .ok (.iand, 1) := by decide +kernel
theorem dX0_hasKnob_8 : decode cX0_hasKnob 8 = .ok (.iconst 1, 1) := by decide +kernel
theorem dX0_hasKnob_9 : decode cX0_hasKnob 9 = .ok (.if_icmp .ne 7, 3) := by decide +kernel
theorem dX0_hasKnob_12 : decode cX0_hasKnob 12 = .ok (.iconst 1, 1) := by decide +kernel
theorem dX0_hasKnob_13 : decode cX0_hasKnob 13 = .ok (.goto 4, 3) := by decide +kernel
theorem dX0_hasKnob_16 : decode cX0_hasKnob 16 = .ok (.iconst 0, 1) := by decide +kernel
theorem dX0_hasKnob_17 : decode cX0_hasKnob 17 = .ok (.ireturn, 1) := by decide +kernel
theorem dX0_hasTurn_0 : decode cX0_hasTurn 0 = .ok (.aload_n 0, 1) := by decide +kernel
theorem dX0_hasTurn_1 : decode cX0_hasTurn 1 = .ok (.getfield 25, 3) := by decide +kernel
theorem dX0_hasTurn_4 : decode cX0_hasTurn 4 = .ok (.iload_n 1, 1) := by decide +kernel
theorem dX0_hasTurn_5 : decode cX0_hasTurn 5 = .ok (.ishr, 1) := by decide +kernel
theorem dX0_hasTurn_6 : decode cX0_hasTurn 6 = .ok (.iconst 1, 1) := by decide +kernel
theorem dX0_hasTurn_7 : decode cX0_hasTurn 7 = .ok (.iand, 1) := by decide +kernel
theorem dX0_hasTurn_8 : decode cX0_hasTurn 8 = .ok (.iconst 1, 1) := by decide +kernel
theorem dX0_hasTurn_9 : decode cX0_hasTurn 9 = .ok (.if_icmp .ne 7, 3) := by decide +kernel
theorem dX0_hasTurn_12 : decode cX0_hasTurn 12 = .ok (.iconst 1, 1) := by decide +kernel
theorem dX0_hasTurn_13 : decode cX0_hasTurn 13 = .ok (.goto 4, 3) := by decide +kernel
theorem dX0_hasTurn_16 : decode cX0_hasTurn 16 = .ok (.iconst 0, 1) := by decide +kernel
theorem dX0_hasTurn_17 : decode cX0_hasTurn 17 = .ok (.ireturn, 1) := by decide +kernel
theorem dX1_init_0 : decode cX1_init 0 = .ok (.aload_n 0, 1) := by decide +kernel
theorem dX1_init_1 : decode cX1_init 1 = .ok (.invokespecial 3, 3) := by decide +kernel
theorem dX1_init_4 : decode cX1_init 4 = .ok (.aload_n 0, 1) := by decide +kernel
theorem dX1_init_5 : decode cX1_init 5 = .ok (.new 9, 3) := by decide +kernel
theorem dX1_init_8 : decode cX1_init 8 = .ok (.dup, 1) := by decide +kernel
theorem dX1_init_9 : decode cX1_init 9 = .ok (.invokespecial 11, 3) := by decide +kernel
theorem dX1_init_12 : decode cX1_init 12 = .ok (.putfield 12, 3) := by decide +kernel
theorem dX1_init_15 : decode cX1_init 15 = .ok (.aload_n 0, 1) := by decide +kernel
theorem dX1_init_16 : decode cX1_init 16 = .ok (.new 18, 3) := by decide +kernel
theorem dX1_init_19 : decode cX1_init 19 = .ok (.dup, 1) := by decide +kernel
theorem dX1_init_20 : decode cX1_init 20 = .ok (.aload_n 0, 1) := by decide +kernel
theorem dX1_init_21 : decode cX1_init 21 = .ok (.getfield 12, 3) := by decide +kernel
theorem dX1_init_24 : decode cX1_init 24 = .ok (.invokespecial 20, 3) := by decide +kernel
theorem dX1_init_27 : decode cX1_init 27 = .ok (.putfield 23, 3) := by decide +kernel
theorem dX1_init_30 : decode cX1_init 30 = .ok (.aload_n 0, 1) := by decide +kernel
theorem dX1_init_31 : decode cX1_init 31 = .ok (.iconst 3, 1) := by decide +kernel
theorem dX1_init_32 : decode cX1_init 32 = .ok (.newarray .int, 2) := by decide +kernel
theorem dX1_init_34 : decode cX1_init 34 = .ok (.putfield 27, 3) := by decide +kernel
theorem dX1_init_37 : decode cX1_init 37 = .ok (.aload_n 0, 1) := by decide +kernel
theorem dX1_init_38 : decode cX1_init 38 = .ok (.iconst 0, 1) := by decide +kernel
theorem dX1_init_39 : decode cX1_init 39 = .ok (.putfield 31, 3) := by decide +kernel
theorem dX1_init_42 : decode cX1_init 42 = .ok (.aload_n 0, 1) := by decide +kernel
theorem dX1_init_43 : decode cX1_init 43 = .ok (.iconst 1, 1) := by decide +kernel
theorem dX1_init_44 : decode cX1_init 44 = .ok (.putfield 35, 3) := by decide +kernel
theorem dX1_init_47 : decode cX1_init 47 = .ok (.return_, 1) := by decide +kernel
theorem dX1_firstFault_0 : decode cX1_firstFault 0 = .ok (.aload_n 0, 1) := by decide +kernel
theorem dX1_firstFault_1 : decode cX1_firstFault 1 = .ok (.getfield 12, 3) := by decide +kernel
theorem dX1_firstFault_4 : decode cX1_firstFault 4 = .ok (.invokevirtual 39, 3) := by decide +kernel
theorem dX1_firstFault_7 : decode cX1_firstFault 7 = .ok (.aload_n 0, 1) := by decide +kernel
theorem dX1_firstFault_8 : decode cX1_firstFault 8 = .ok (.getfield 23, 3) := by decide +kernel
theorem dX1_firstFault_11 : decode cX1_firstFault 11 = .ok (.invokevirtual 42, 3) := by decide +kernel
theorem dX1_firstFault_14 : decode cX1_firstFault 14 = .ok (.aload_n 0, 1) := by decide +kernel
theorem dX1_firstFault_15 : decode cX1_firstFault 15 = .ok (.iconst 1, 1) := by decide +kernel
theorem dX1_firstFault_16 : decode cX1_firstFault 16 = .ok (.putfield 35, 3) := by decide +kernel
theorem dX1_firstFault_19 : decode cX1_firstFault 19 = .ok (.iconst 0, 1) := by decide +kernel
theorem dX1_firstFault_20 : decode cX1_firstFault 20 = .ok (.istore_n 2, 1) := by decide +kernel
theorem dX1_firstFault_21 : decode cX1_firstFault 21 = .ok (.iconst 0, 1) := by decide +kernel
theorem dX1_firstFault_22 : decode cX1_firstFault 22 = .ok (.istore_n 3, 1) := by decide +kernel
theorem dX1_firstFault_23 : decode cX1_firstFault 23 = .ok (.iload_n 3, 1) := by decide +kernel
theorem dX1_firstFault_24 : decode cX1_firstFault 24 = .ok (.aload_n 1, 1) := by decide +kernel
theorem dX1_firstFault_25 : decode cX1_firstFault 25 = .ok (.getfield 43, 3) := by decide +kernel
theorem dX1_firstFault_28 : decode cX1_firstFault 28 = .ok (.if_icmp .ge 52, 3) := by decide +kernel
theorem dX1_firstFault_31 : decode cX1_firstFault 31 = .ok (.iload_n 2, 1) := by decide +kernel
theorem dX1_firstFault_32 : decode cX1_firstFault 32 = .ok (.aload_n 1, 1) := by decide +kernel
theorem dX1_firstFault_33 : decode cX1_firstFault 33 = .ok (.getfield 43, 3) := by decide +kernel
theorem dX1_firstFault_36 : decode cX1_firstFault 36 = .ok (.if_icmp .ge 44, 3) := by decide +kernel
theorem dX1_firstFault_39 : decode cX1_firstFault 39 = .ok (.aload_n 0, 1) := by decide +kernel
theorem dX1_firstFault_40 : decode cX1_firstFault 40 = .ok (.aload_n 1, 1) := by decide +kernel
theorem dX1_firstFault_41 : decode cX1_firstFault 41 = .ok (.iload_n 2, 1) := by decide +kernel
theorem dX1_firstFault_42 : decode cX1_firstFault 42 = .ok (.iconst 1, 1) := by decide +kernel
theorem dX1_firstFault_43 : decode cX1_firstFault 43 = .ok (.iadd, 1) := by decide +kernel
theorem dX1_firstFault_44 : decode cX1_firstFault 44 = .ok (.invokevirtual 48, 3) := by decide +kernel
theorem dX1_firstFault_47 : decode cX1_firstFault 47 = .ok (.istore 4, 2) := by decide +kernel
theorem dX1_firstFault_49 : decode cX1_firstFault 49 = .ok (.iload 4, 2) := by decide +kernel
theorem dX1_firstFault_51 : decode cX1_firstFault 51 = .ok (.bipush (-4), 2) := by decide +kernel
theorem dX1_firstFault_53 : decode cX1_firstFault 53 = .ok (.if_icmp .eq 16, 3) := by decide +kernel
theorem dX1_firstFault_56 : decode cX1_firstFault 56 = .ok (.aload_n 0, 1) := by decide +kernel
theorem dX1_firstFault_57 : decode cX1_firstFault 57 = .ok (.aload_n 1, 1) := by decide +kernel
theorem dX1_firstFault_58 : decode cX1_firstFault 58 = .ok (.getfield 52, 3) := by decide +kernel
theorem dX1_firstFault_61 : decode cX1_firstFault 61 = .ok (.iload_n 2, 1) := by decide +kernel
theorem dX1_firstFault_62 : decode cX1_firstFault 62 = .ok (.caload, 1) := by decide +kernel
theorem dX1_firstFault_63 : decode cX1_firstFault 63 = .ok (.invokevirtual 56, 3) := by decide +kernel
theorem dX1_firstFault_66 : decode cX1_firstFault 66 = .ok (.ifCond .ne 5, 3) := by decide +kernel
theorem dX1_firstFault_69 : decode cX1_firstFault 69 = .ok (.iload_n 2, 1) := by decide +kernel
theorem dX1_firstFault_70 : decode cX1_firstFault 70 = .ok (.ireturn, 1) := by decide +kernel
theorem dX1_firstFault_71 : decode cX1_firstFault 71 = .ok (.iload 4, 2) := by decide +kernel
theorem dX1_firstFault_73 : decode cX1_firstFault 73 = .ok (.istore_n 2, 1) := by decide +kernel
theorem dX1_firstFault_74 : decode cX1_firstFault 74 = .ok (.iinc 3 1, 3) := by decide +kernel
theorem dX1_firstFault_77 : decode cX1_firstFault 77 = .ok (.goto (-54), 3) := by decide +kernel
theorem dX1_firstFault_80 : decode cX1_firstFault 80 = .ok (.bipush (-4), 2) := by decide +kernel
theorem dX1_firstFault_82 : decode cX1_firstFault 82 = .ok (.ireturn, 1) := by decide +kernel
theorem dX1_readNumbers_0 : decode cX1_readNumbers 0 = .ok (.aload_n 0, 1) := by decide +kernel
theorem dX1_readNumbers_1 : decode cX1_readNumbers 1 = .ok (.iconst 0, 1) := by decide +kernel
theorem dX1_readNumbers_2 : decode cX1_readNumbers 2 = .ok (.putfield 31, 3) := by decide +kernel
theorem dX1_readNumbers_5 : decode cX1_readNumbers 5 = .ok (.iconst 0, 1) := by decide +kernel
theorem dX1_readNumbers_6 : decode cX1_readNumbers 6 = .ok (.istore_n 3, 1) := by decide +kernel
theorem dX1_readNumbers_7 : decode cX1_readNumbers 7 = .ok (.iconst 0, 1) := by decide +kernel
theorem dX1_readNumbers_8 : decode cX1_readNumbers 8 = .ok (.istore 4, 2) := by decide +kernel
theorem dX1_readNumbers_10 : decode cX1_readNumbers 10 = .ok (.iload_n 2, 1) := by decide +kernel
theorem dX1_readNumbers_11 : decode cX1_readNumbers 11 = .ok (.istore 5, 2) := by decide +kernel
theorem dX1_readNumbers_13 : decode cX1_readNumbers 13 = .ok (.iload 5, 2) := by decide +kernel
theorem dX1_readNumbers_15 : decode cX1_readNumbers 15 = .ok (.aload_n 1, 1) := by decide +kernel
theorem dX1_readNumbers_16 : decode cX1_readNumbers 16 = .ok (.getfield 43, 3) := by decide +kernel
theorem dX1_readNumbers_19 : decode cX1_readNumbers 19 = .ok (.if_icmp .ge 105, 3) := by decide +kernel
theorem dX1_readNumbers_22 : decode cX1_readNumbers 22 = .ok (.aload_n 1, 1) := by decide +kernel
theorem dX1_readNumbers_23 : decode cX1_readNumbers 23 = .ok (.getfield 52, 3) := by decide +kernel
theorem dX1_readNumbers_26 : decode cX1_readNumbers 26 = .ok (.iload 5, 2) := by decide +kernel
theorem dX1_readNumbers_28 : decode cX1_readNumbers 28 = .ok (.caload, 1) := by decide +kernel
theorem dX1_readNumbers_29 : decode cX1_readNumbers 29 = .ok (.istore 6, 2) := by decide +kernel
theorem dX1_readNumbers_31 : decode cX1_readNumbers 31 = .ok (.iload 6, 2) := by decide +kernel
theorem dX1_readNumbers_33 : decode cX1_readNumbers 33 = .ok (.bipush 48, 2) := by decide +kernel
theorem dX1_readNumbers_35 : decode cX1_readNumbers 35 = .ok (.if_icmp .lt 33, 3) := by decide +kernel
theorem dX1_readNumbers_38 : decode cX1_readNumbers 38 = .ok (.iload 6, 2) := by decide +kernel
theorem dX1_readNumbers_40 : decode cX1_readNumbers 40 = .ok (.bipush 57, 2) := by decide +kernel
theorem dX1_readNumbers_42 : decode cX1_readNumbers 42 = .ok (.if_icmp .gt 26, 3) := by decide +kernel
theorem dX1_readNumbers_45 : decode cX1_readNumbers 45 = .ok (.iload 4, 2) := by decide +kernel
theorem dX1_readNumbers_47 : decode cX1_readNumbers 47 = .ok (.iconst 2, 1) := by decide +kernel
theorem dX1_readNumbers_48 : decode cX1_readNumbers 48 = .ok (.if_icmp .ge 20, 3) := by decide +kernel
theorem dX1_readNumbers_51 : decode cX1_readNumbers 51 = .ok (.bipush 10, 2) := by decide +kernel
theorem dX1_readNumbers_53 : decode cX1_readNumbers 53 = .ok (.iload_n 3, 1) := by decide +kernel
theorem dX1_readNumbers_54 : decode cX1_readNumbers 54 = .ok (.imul, 1) := by decide +kernel
theorem dX1_readNumbers_55 : decode cX1_readNumbers 55 = .ok (.iload 6, 2) := by decide +kernel
theorem dX1_readNumbers_57 : decode cX1_readNumbers 57 = .ok (.iadd, 1) := by decide +kernel
theorem dX1_readNumbers_58 : decode cX1_readNumbers 58 = .ok (.bipush 48, 2) := by decide +kernel
theorem dX1_readNumbers_60 : decode cX1_readNumbers 60 = .ok (.isub, 1) := by decide +kernel
theorem dX1_readNumbers_61 : decode cX1_readNumbers 61 = .ok (.istore_n 3, 1) := by decide +kernel
theorem dX1_readNumbers_62 : decode cX1_readNumbers 62 = .ok (.iinc 4 1, 3) := by decide +kernel
theorem dX1_readNumbers_65 : decode cX1_readNumbers 65 = .ok (.goto 53, 3) := by decide +kernel
theorem dX1_readNumbers_68 : decode cX1_readNumbers 68 = .ok (.iload 6, 2) := by decide +kernel
theorem dX1_readNumbers_70 : decode cX1_readNumbers 70 = .ok (.bipush 44, 2) := by decide +kernel
theorem dX1_readNumbers_72 : decode cX1_readNumbers 72 = .ok (.if_icmp .eq 10, 3) := by decide +kernel
theorem dX1_readNumbers_75 : decode cX1_readNumbers 75 = .ok (.iload 6, 2) := by decide +kernel
theorem dX1_readNumbers_77 : decode cX1_readNumbers 77 = .ok (.bipush 59, 2) := by decide +kernel
theorem dX1_readNumbers_79 : decode cX1_readNumbers 79 = .ok (.if_icmp .ne 36, 3) := by decide +kernel
theorem dX1_readNumbers_82 : decode cX1_readNumbers 82 = .ok (.iload 4, 2) := by decide +kernel
theorem dX1_readNumbers_84 : decode cX1_readNumbers 84 = .ok (.ifCond .le 31, 3) := by decide +kernel
theorem dX1_readNumbers_87 : decode cX1_readNumbers 87 = .ok (.aload_n 0, 1) := by decide +kernel
theorem dX1_readNumbers_88 : decode cX1_readNumbers 88 = .ok (.iload_n 3, 1) := by decide +kernel
theorem dX1_readNumbers_89 : decode cX1_readNumbers 89 = .ok (.invokevirtual 60, 3) := by decide +kernel
theorem dX1_readNumbers_92 : decode cX1_readNumbers 92 = .ok (.ifCond .eq 23, 3) := by decide +kernel
theorem dX1_readNumbers_95 : decode cX1_readNumbers 95 = .ok (.iload 6, 2) := by decide +kernel
theorem dX1_readNumbers_97 : decode cX1_readNumbers 97 = .ok (.bipush 59, 2) := by decide +kernel
theorem dX1_readNumbers_99 : decode cX1_readNumbers 99 = .ok (.if_icmp .ne 8, 3) := by decide +kernel
theorem dX1_readNumbers_102 : decode cX1_readNumbers 102 = .ok (.iload 5, 2) := by decide +kernel
theorem dX1_readNumbers_104 : decode cX1_readNumbers 104 = .ok (.iconst 1, 1) := by decide +kernel
theorem dX1_readNumbers_105 : decode cX1_readNumbers 105 = .ok (.iadd, 1) := by decide +kernel
theorem dX1_readNumbers_106 : decode cX1_readNumbers 106 = .ok (.ireturn, 1) := by decide +kernel
theorem dX1_readNumbers_107 : decode cX1_readNumbers 107 = .ok (.iconst 0, 1) := by decide +kernel
theorem dX1_readNumbers_108 : decode cX1_readNumbers 108 = .ok (.istore_n 3, 1) := by decide +kernel
theorem dX1_readNumbers_109 : decode cX1_readNumbers 109 = .ok (.iconst 0, 1) := by decide +kernel
theorem dX1_readNumbers_110 : decode cX1_readNumbers 110 = .ok (.istore 4, 2) := by decide +kernel
theorem dX1_readNumbers_112 : decode cX1_readNumbers 112 = .ok (.goto 6, 3) := by decide +kernel
theorem dX1_readNumbers_115 : decode cX1_readNumbers 115 = .ok (.bipush (-4), 2) := by decide +kernel
theorem dX1_readNumbers_117 : decode cX1_readNumbers 117 = .ok (.ireturn, 1) := by decide +kernel
theorem dX1_readNumbers_118 : decode cX1_readNumbers 118 = .ok (.iinc 5 1, 3) := by decide +kernel
theorem dX1_readNumbers_121 : decode cX1_readNumbers 121 = .ok (.goto (-108), 3) := by decide +kernel
theorem dX1_readNumbers_124 : decode cX1_readNumbers 124 = .ok (.bipush (-4), 2) := by decide +kernel
theorem dX1_readNumbers_126 : decode cX1_readNumbers 126 = .ok (.ireturn, 1) := by decide +kernel
theorem dX1_addNumber_0 : decode cX1_addNumber 0 = .ok (.aload_n 0, 1) := by decide +kernel
theorem dX1_addNumber_1 : decode cX1_addNumber 1 = .ok (.getfield 31, 3) := by decide +kernel
theorem dX1_addNumber_4 : decode cX1_addNumber 4 = .ok (.aload_n 0, 1) := by decide +kernel
theorem dX1_addNumber_5 : decode cX1_addNumber 5 = .ok (.getfield 27, 3) := by decide +kernel
theorem dX1_addNumber_8 : decode cX1_addNumber 8 = .ok (.arraylength, 1) := by decide +kernel
theorem dX1_addNumber_9 : decode cX1_addNumber 9 = .ok (.if_icmp .lt 5, 3) := by decide +kernel
theorem dX1_addNumber_12 : decode cX1_addNumber 12 = .ok (.iconst 0, 1) := by decide +kernel
theorem dX1_addNumber_13 : decode cX1_addNumber 13 = .ok (.ireturn, 1) := by decide +kernel
theorem dX1_addNumber_14 : decode cX1_addNumber 14 = .ok (.aload_n 0, 1) := by decide +kernel
theorem dX1_addNumber_15 : decode cX1_addNumber 15 = .ok (.getfield 27, 3) := by decide +kernel
theorem dX1_addNumber_18 : decode cX1_addNumber 18 = .ok (.aload_n 0, 1) := by decide +kernel
theorem dX1_addNumber_19 : decode cX1_addNumber 19 = .ok (.getfield 31, 3) := by decide +kernel
theorem dX1_addNumber_22 : decode cX1_addNumber 22 = .ok (.iload_n 1, 1) := by decide +kernel
theorem dX1_addNumber_23 : decode cX1_addNumber 23 = .ok (.iastore, 1) := by decide +kernel
theorem dX1_addNumber_24 : decode cX1_addNumber 24 = .ok (.aload_n 0, 1) := by decide +kernel
theorem dX1_addNumber_25 : decode cX1_addNumber 25 = .ok (.dup, 1) := by decide +kernel
theorem dX1_addNumber_26 : decode cX1_addNumber 26 = .ok (.getfield 31, 3) := by decide +kernel
theorem dX1_addNumber_29 : decode cX1_addNumber 29 = .ok (.iconst 1, 1) := by decide +kernel
theorem dX1_addNumber_30 : decode cX1_addNumber 30 = .ok (.iadd, 1) := by decide +kernel
theorem dX1_addNumber_31 : decode cX1_addNumber 31 = .ok (.putfield 31, 3) := by decide +kernel
theorem dX1_addNumber_34 : decode cX1_addNumber 34 = .ok (.iconst 1, 1) := by decide +kernel
theorem dX1_addNumber_35 : decode cX1_addNumber 35 = .ok (.ireturn, 1) := by decide +kernel
theorem dX1_takeItem_0 : decode cX1_takeItem 0 = .ok (.iload_n 1, 1) := by decide +kernel
theorem dX1_takeItem_1 : decode cX1_takeItem 1 = .ok (.bipush 115, 2) := by decide +kernel
theorem dX1_takeItem_3 : decode cX1_takeItem 3 = .ok (.if_icmp .ne 23, 3) := by decide +kernel
theorem dX1_takeItem_6 : decode cX1_takeItem 6 = .ok (.aload_n 0, 1) := by decide +kernel
theorem dX1_takeItem_7 : decode cX1_takeItem 7 = .ok (.getfield 35, 3) := by decide +kernel
theorem dX1_takeItem_10 : decode cX1_takeItem 10 = .ok (.ifCond .eq 14, 3) := by decide +kernel
theorem dX1_takeItem_13 : decode cX1_takeItem 13 = .ok (.aload_n 0, 1) := by decide +kernel
theorem dX1_takeItem_14 : decode cX1_takeItem 14 = .ok (.invokevirtual 64, 3) := by decide +kernel
theorem dX1_takeItem_17 : decode cX1_takeItem 17 = .ok (.ifCond .eq 7, 3) := by decide +kernel
theorem dX1_takeItem_20 : decode cX1_takeItem 20 = .ok (.iconst 1, 1) := by decide +kernel
theorem dX1_takeItem_21 : decode cX1_takeItem 21 = .ok (.goto 4, 3) := by decide +kernel
theorem dX1_takeItem_24 : decode cX1_takeItem 24 = .ok (.iconst 0, 1) := by decide +kernel
theorem dX1_takeItem_25 : decode cX1_takeItem 25 = .ok (.ireturn, 1) := by decide +kernel
theorem dX1_takeItem_26 : decode cX1_takeItem 26 = .ok (.aload_n 0, 1) := by decide +kernel
theorem dX1_takeItem_27 : decode cX1_takeItem 27 = .ok (.iconst 0, 1) := by decide +kernel
theorem dX1_takeItem_28 : decode cX1_takeItem 28 = .ok (.putfield 35, 3) := by decide +kernel
theorem dX1_takeItem_31 : decode cX1_takeItem 31 = .ok (.iload_n 1, 1) := by decide +kernel
theorem dX1_takeItem_32 : decode cX1_takeItem 32 = .ok (.lookupswitch 77 #[(102, 72), (107, 57), (109, 67), (116, 62), (119, 52)], 52) := by decide +kernel
theorem dX1_takeItem_84 : decode cX1_takeItem 84 = .ok (.aload_n 0, 1) := by decide +kernel
theorem dX1_takeItem_85 : decode cX1_takeItem 85 = .ok (.invokevirtual 68, 3) := by decide +kernel
theorem dX1_takeItem_88 : decode cX1_takeItem 88 = .ok (.ireturn, 1) := by decide +kernel
theorem dX1_takeItem_89 : decode cX1_takeItem 89 = .ok (.aload_n 0, 1) := by decide +kernel
theorem dX1_takeItem_90 : decode cX1_takeItem 90 = .ok (.invokevirtual 71, 3) := by decide +kernel
theorem dX1_takeItem_93 : decode cX1_takeItem 93 = .ok (.ireturn, 1) := by decide +kernel
theorem dX1_takeItem_94 : decode cX1_takeItem 94 = .ok (.aload_n 0, 1) := by decide +kernel
theorem dX1_takeItem_95 : decode cX1_takeItem 95 = .ok (.invokevirtual 74, 3) := by decide +kernel
theorem dX1_takeItem_98 : decode cX1_takeItem 98 = .ok (.ireturn, 1) := by decide +kernel
theorem dX1_takeItem_99 : decode cX1_takeItem 99 = .ok (.aload_n 0, 1) := by decide +kernel
theorem dX1_takeItem_100 : decode cX1_takeItem 100 = .ok (.invokevirtual 77, 3) := by decide +kernel
theorem dX1_takeItem_103 : decode cX1_takeItem 103 = .ok (.ireturn, 1) := by decide +kernel
theorem dX1_takeItem_104 : decode cX1_takeItem 104 = .ok (.aload_n 0, 1) := by decide +kernel
theorem dX1_takeItem_105 : decode cX1_takeItem 105 = .ok (.invokevirtual 80, 3) := by decide +kernel
theorem dX1_takeItem_108 : decode cX1_takeItem 108 = .ok (.ireturn, 1) := by decide +kernel
theorem dX1_takeItem_109 : decode cX1_takeItem 109 = .ok (.iconst 0, 1) := by decide +kernel
theorem dX1_takeItem_110 : decode cX1_takeItem 110 = .ok (.ireturn, 1) := by decide +kernel
theorem dX1_takeSteps_0 : decode cX1_takeSteps 0 = .ok (.aload_n 0, 1) := by decide +kernel
theorem dX1_takeSteps_1 : decode cX1_takeSteps 1 = .ok (.getfield 31, 3) := by decide +kernel
theorem dX1_takeSteps_4 : decode cX1_takeSteps 4 = .ok (.iconst 1, 1) := by decide +kernel
theorem dX1_takeSteps_5 : decode cX1_takeSteps 5 = .ok (.if_icmp .ne 18, 3) := by decide +kernel
theorem dX1_takeSteps_8 : decode cX1_takeSteps 8 = .ok (.aload_n 0, 1) := by decide +kernel
theorem dX1_takeSteps_9 : decode cX1_takeSteps 9 = .ok (.getfield 27, 3) := by decide +kernel
theorem dX1_takeSteps_12 : decode cX1_takeSteps 12 = .ok (.iconst 0, 1) := by decide +kernel
theorem dX1_takeSteps_13 : decode cX1_takeSteps 13 = .ok (.iaload, 1) := by decide +kernel
theorem dX1_takeSteps_14 : decode cX1_takeSteps 14 = .ok (.iconst 3, 1) := by decide +kernel
theorem dX1_takeSteps_15 : decode cX1_takeSteps 15 = .ok (.bipush 16, 2) := by decide +kernel
theorem dX1_takeSteps_17 : decode cX1_takeSteps 17 = .ok (.invokestatic 83, 3) := by decide +kernel
theorem dX1_takeSteps_20 : decode cX1_takeSteps 20 = .ok (.ifCond .ne 5, 3) := by decide +kernel
theorem dX1_takeSteps_23 : decode cX1_takeSteps 23 = .ok (.iconst 0, 1) := by decide +kernel
theorem dX1_takeSteps_24 : decode cX1_takeSteps 24 = .ok (.ireturn, 1) := by decide +kernel
theorem dX1_takeSteps_25 : decode cX1_takeSteps 25 = .ok (.aload_n 0, 1) := by decide +kernel
theorem dX1_takeSteps_26 : decode cX1_takeSteps 26 = .ok (.getfield 12, 3) := by decide +kernel
theorem dX1_takeSteps_29 : decode cX1_takeSteps 29 = .ok (.aload_n 0, 1) := by decide +kernel
theorem dX1_takeSteps_30 : decode cX1_takeSteps 30 = .ok (.getfield 27, 3) := by decide +kernel
theorem dX1_takeSteps_33 : decode cX1_takeSteps 33 = .ok (.iconst 0, 1) := by decide +kernel
theorem dX1_takeSteps_34 : decode cX1_takeSteps 34 = .ok (.iaload, 1) := by decide +kernel
theorem dX1_takeSteps_35 : decode cX1_takeSteps 35 = .ok (.putfield 87, 3) := by decide +kernel
theorem dX1_takeSteps_38 : decode cX1_takeSteps 38 = .ok (.iconst 1, 1) := by decide +kernel
theorem dX1_takeSteps_39 : decode cX1_takeSteps 39 = .ok (.ireturn, 1) := by decide +kernel
theorem dX1_takeWax_0 : decode cX1_takeWax 0 = .ok (.aload_n 0, 1) := by decide +kernel
theorem dX1_takeWax_1 : decode cX1_takeWax 1 = .ok (.getfield 27, 3) := by decide +kernel
theorem dX1_takeWax_4 : decode cX1_takeWax 4 = .ok (.iconst 0, 1) := by decide +kernel
theorem dX1_takeWax_5 : decode cX1_takeWax 5 = .ok (.iaload, 1) := by decide +kernel
theorem dX1_takeWax_6 : decode cX1_takeWax 6 = .ok (.istore_n 1, 1) := by decide +kernel
theorem dX1_takeWax_7 : decode cX1_takeWax 7 = .ok (.aload_n 0, 1) := by decide +kernel
theorem dX1_takeWax_8 : decode cX1_takeWax 8 = .ok (.getfield 31, 3) := by decide +kernel
theorem dX1_takeWax_11 : decode cX1_takeWax 11 = .ok (.iconst 2, 1) := by decide +kernel
theorem dX1_takeWax_12 : decode cX1_takeWax 12 = .ok (.if_icmp .ne 25, 3) := by decide +kernel
theorem dX1_takeWax_15 : decode cX1_takeWax 15 = .ok (.aload_n 0, 1) := by decide +kernel
theorem dX1_takeWax_16 : decode cX1_takeWax 16 = .ok (.getfield 12, 3) := by decide +kernel
theorem dX1_takeWax_19 : decode cX1_takeWax 19 = .ok (.iload_n 1, 1) := by decide +kernel
theorem dX1_takeWax_20 : decode cX1_takeWax 20 = .ok (.invokevirtual 90, 3) := by decide +kernel
theorem dX1_takeWax_23 : decode cX1_takeWax 23 = .ok (.ifCond .eq 14, 3) := by decide +kernel
theorem dX1_takeWax_26 : decode cX1_takeWax 26 = .ok (.aload_n 0, 1) := by decide +kernel
theorem dX1_takeWax_27 : decode cX1_takeWax 27 = .ok (.getfield 27, 3) := by decide +kernel
theorem dX1_takeWax_30 : decode cX1_takeWax 30 = .ok (.iconst 1, 1) := by decide +kernel
theorem dX1_takeWax_31 : decode cX1_takeWax 31 = .ok (.iaload, 1) := by decide +kernel
theorem dX1_takeWax_32 : decode cX1_takeWax 32 = .ok (.bipush 9, 2) := by decide +kernel
theorem dX1_takeWax_34 : decode cX1_takeWax 34 = .ok (.if_icmp .le 5, 3) := by decide +kernel
theorem dX1_takeWax_37 : decode cX1_takeWax 37 = .ok (.iconst 0, 1) := by decide +kernel
theorem dX1_takeWax_38 : decode cX1_takeWax 38 = .ok (.ireturn, 1) := by decide +kernel
theorem dX1_takeWax_39 : decode cX1_takeWax 39 = .ok (.aload_n 0, 1) := by decide +kernel
theorem dX1_takeWax_40 : decode cX1_takeWax 40 = .ok (.getfield 23, 3) := by decide +kernel
theorem dX1_takeWax_43 : decode cX1_takeWax 43 = .ok (.getfield 93, 3) := by decide +kernel
theorem dX1_takeWax_46 : decode cX1_takeWax 46 = .ok (.iload_n 1, 1) := by decide +kernel
theorem dX1_takeWax_47 : decode cX1_takeWax 47 = .ok (.aload_n 0, 1) := by decide +kernel
theorem dX1_takeWax_48 : decode cX1_takeWax 48 = .ok (.getfield 27, 3) := by decide +kernel
theorem dX1_takeWax_51 : decode cX1_takeWax 51 = .ok (.iconst 1, 1) := by decide +kernel
theorem dX1_takeWax_52 : decode cX1_takeWax 52 = .ok (.iaload, 1) := by decide +kernel
theorem dX1_takeWax_53 : decode cX1_takeWax 53 = .ok (.iastore, 1) := by decide +kernel
theorem dX1_takeWax_54 : decode cX1_takeWax 54 = .ok (.iconst 1, 1) := by decide +kernel
theorem dX1_takeWax_55 : decode cX1_takeWax 55 = .ok (.ireturn, 1) := by decide +kernel
theorem dX1_takeKnob_0 : decode cX1_takeKnob 0 = .ok (.aload_n 0, 1) := by decide +kernel
theorem dX1_takeKnob_1 : decode cX1_takeKnob 1 = .ok (.invokevirtual 96, 3) := by decide +kernel
theorem dX1_takeKnob_4 : decode cX1_takeKnob 4 = .ok (.ifCond .ne 5, 3) := by decide +kernel
theorem dX1_takeKnob_7 : decode cX1_takeKnob 7 = .ok (.iconst 0, 1) := by decide +kernel
theorem dX1_takeKnob_8 : decode cX1_takeKnob 8 = .ok (.ireturn, 1) := by decide +kernel
theorem dX1_takeKnob_9 : decode cX1_takeKnob 9 = .ok (.aload_n 0, 1) := by decide +kernel
theorem dX1_takeKnob_10 : decode cX1_takeKnob 10 = .ok (.getfield 12, 3) := by decide +kernel
theorem dX1_takeKnob_13 : decode cX1_takeKnob 13 = .ok (.dup, 1) := by decide +kernel
theorem dX1_takeKnob_14 : decode cX1_takeKnob 14 = .ok (.getfield 99, 3) := by decide +kernel
theorem dX1_takeKnob_17 : decode cX1_takeKnob 17 = .ok (.iconst 1, 1) := by decide +kernel
theorem dX1_takeKnob_18 : decode cX1_takeKnob 18 = .ok (.aload_n 0, 1) := by decide +kernel
theorem dX1_takeKnob_19 : decode cX1_takeKnob 19 = .ok (.getfield 27, 3) := by decide +kernel
theorem dX1_takeKnob_22 : decode cX1_takeKnob 22 = .ok (.iconst 0, 1) := by decide +kernel
theorem dX1_takeKnob_23 : decode cX1_takeKnob 23 = .ok (.iaload, 1) := by decide +kernel
theorem dX1_takeKnob_24 : decode cX1_takeKnob 24 = .ok (.ishl, 1) := by decide +kernel
theorem dX1_takeKnob_25 : decode cX1_takeKnob 25 = .ok (.ior, 1) := by decide +kernel
theorem dX1_takeKnob_26 : decode cX1_takeKnob 26 = .ok (.putfield 99, 3) := by decide +kernel
theorem dX1_takeKnob_29 : decode cX1_takeKnob 29 = .ok (.iconst 1, 1) := by decide +kernel
theorem dX1_takeKnob_30 : decode cX1_takeKnob 30 = .ok (.ireturn, 1) := by decide +kernel
theorem dX1_takeTurning_0 : decode cX1_takeTurning 0 = .ok (.aload_n 0, 1) := by decide +kernel
theorem dX1_takeTurning_1 : decode cX1_takeTurning 1 = .ok (.invokevirtual 96, 3) := by decide +kernel
theorem dX1_takeTurning_4 : decode cX1_takeTurning 4 = .ok (.ifCond .ne 5, 3) := by decide +kernel
theorem dX1_takeTurning_7 : decode cX1_takeTurning 7 = .ok (.iconst 0, 1) := by decide +kernel
theorem dX1_takeTurning_8 : decode cX1_takeTurning 8 = .ok (.ireturn, 1) := by decide +kernel
theorem dX1_takeTurning_9 : decode cX1_takeTurning 9 = .ok (.aload_n 0, 1) := by decide +kernel
theorem dX1_takeTurning_10 : decode cX1_takeTurning 10 = .ok (.getfield 12, 3) := by decide +kernel
theorem dX1_takeTurning_13 : decode cX1_takeTurning 13 = .ok (.dup, 1) := by decide +kernel
theorem dX1_takeTurning_14 : decode cX1_takeTurning 14 = .ok (.getfield 102, 3) := by decide +kernel
theorem dX1_takeTurning_17 : decode cX1_takeTurning 17 = .ok (.iconst 1, 1) := by decide +kernel
theorem dX1_takeTurning_18 : decode cX1_takeTurning 18 = .ok (.aload_n 0, 1) := by decide +kernel
theorem dX1_takeTurning_19 : decode cX1_takeTurning 19 = .ok (.getfield 27, 3) := by decide +kernel
theorem dX1_takeTurning_22 : decode cX1_takeTurning 22 = .ok (.iconst 0, 1) := by decide +kernel
theorem dX1_takeTurning_23 : decode cX1_takeTurning 23 = .ok (.iaload, 1) := by decide +kernel
theorem dX1_takeTurning_24 : decode cX1_takeTurning 24 = .ok (.ishl, 1) := by decide +kernel
theorem dX1_takeTurning_25 : decode cX1_takeTurning 25 = .ok (.ior, 1) := by decide +kernel
theorem dX1_takeTurning_26 : decode cX1_takeTurning 26 = .ok (.putfield 102, 3) := by decide +kernel
theorem dX1_takeTurning_29 : decode cX1_takeTurning 29 = .ok (.iconst 1, 1) := by decide +kernel
theorem dX1_takeTurning_30 : decode cX1_takeTurning 30 = .ok (.ireturn, 1) := by decide +kernel
theorem dX1_tellsOneStep_0 : decode cX1_tellsOneStep 0 = .ok (.aload_n 0, 1) := by decide +kernel
theorem dX1_tellsOneStep_1 : decode cX1_tellsOneStep 1 = .ok (.getfield 31, 3) := by decide +kernel
theorem dX1_tellsOneStep_4 : decode cX1_tellsOneStep 4 = .ok (.iconst 1, 1) := by decide +kernel
theorem dX1_tellsOneStep_5 : decode cX1_tellsOneStep 5 = .ok (.if_icmp .ne 23, 3) := by decide +kernel
theorem dX1_tellsOneStep_8 : decode cX1_tellsOneStep 8 = .ok (.aload_n 0, 1) := by decide +kernel
theorem dX1_tellsOneStep_9 : decode cX1_tellsOneStep 9 = .ok (.getfield 12, 3) := by decide +kernel
theorem dX1_tellsOneStep_12 : decode cX1_tellsOneStep 12 = .ok (.aload_n 0, 1) := by decide +kernel
theorem dX1_tellsOneStep_13 : decode cX1_tellsOneStep 13 = .ok (.getfield 27, 3) := by decide +kernel
theorem dX1_tellsOneStep_16 : decode cX1_tellsOneStep 16 = .ok (.iconst 0, 1) := by decide +kernel
theorem dX1_tellsOneStep_17 : decode cX1_tellsOneStep 17 = .ok (.iaload, 1) := by decide +kernel
theorem dX1_tellsOneStep_18 : decode cX1_tellsOneStep 18 = .ok (.invokevirtual 90, 3) := by decide +kernel
theorem dX1_tellsOneStep_21 : decode cX1_tellsOneStep 21 = .ok (.ifCond .eq 7, 3) := by decide +kernel
theorem dX1_tellsOneStep_24 : decode cX1_tellsOneStep 24 = .ok (.iconst 1, 1) := by decide +kernel
theorem dX1_tellsOneStep_25 : decode cX1_tellsOneStep 25 = .ok (.goto 4, 3) := by decide +kernel
theorem dX1_tellsOneStep_28 : decode cX1_tellsOneStep 28 = .ok (.iconst 0, 1) := by decide +kernel
theorem dX1_tellsOneStep_29 : decode cX1_tellsOneStep 29 = .ok (.ireturn, 1) := by decide +kernel
theorem dX1_takeMinister_0 : decode cX1_takeMinister 0 = .ok (.aload_n 0, 1) := by decide +kernel
theorem dX1_takeMinister_1 : decode cX1_takeMinister 1 = .ok (.getfield 12, 3) := by decide +kernel
theorem dX1_takeMinister_4 : decode cX1_takeMinister 4 = .ok (.getfield 105, 3) := by decide +kernel
theorem dX1_takeMinister_7 : decode cX1_takeMinister 7 = .ok (.istore_n 1, 1) := by decide +kernel
theorem dX1_takeMinister_8 : decode cX1_takeMinister 8 = .ok (.aload_n 0, 1) := by decide +kernel
theorem dX1_takeMinister_9 : decode cX1_takeMinister 9 = .ok (.getfield 31, 3) := by decide +kernel
theorem dX1_takeMinister_12 : decode cX1_takeMinister 12 = .ok (.iconst 3, 1) := by decide +kernel
theorem dX1_takeMinister_13 : decode cX1_takeMinister 13 = .ok (.if_icmp .ne 46, 3) := by decide +kernel
theorem dX1_takeMinister_16 : decode cX1_takeMinister 16 = .ok (.iload_n 1, 1) := by decide +kernel
theorem dX1_takeMinister_17 : decode cX1_takeMinister 17 = .ok (.bipush 7, 2) := by decide +kernel
theorem dX1_takeMinister_19 : decode cX1_takeMinister 19 = .ok (.if_icmp .ge 40, 3) := by decide +kernel
theorem dX1_takeMinister_22 : decode cX1_takeMinister 22 = .ok (.aload_n 0, 1) := by decide +kernel
theorem dX1_takeMinister_23 : decode cX1_takeMinister 23 = .ok (.getfield 27, 3) := by decide +kernel
theorem dX1_takeMinister_26 : decode cX1_takeMinister 26 = .ok (.iconst 0, 1) := by decide +kernel
theorem dX1_takeMinister_27 : decode cX1_takeMinister 27 = .ok (.iaload, 1) := by decide +kernel
theorem dX1_takeMinister_28 : decode cX1_takeMinister 28 = .ok (.iconst 3, 1) := by decide +kernel
theorem dX1_takeMinister_29 : decode cX1_takeMinister 29 = .ok (.if_icmp .gt 30, 3) := by decide +kernel
theorem dX1_takeMinister_32 : decode cX1_takeMinister 32 = .ok (.aload_n 0, 1) := by decide +kernel
theorem dX1_takeMinister_33 : decode cX1_takeMinister 33 = .ok (.getfield 12, 3) := by decide +kernel
theorem dX1_takeMinister_36 : decode cX1_takeMinister 36 = .ok (.aload_n 0, 1) := by decide +kernel
theorem dX1_takeMinister_37 : decode cX1_takeMinister 37 = .ok (.getfield 27, 3) := by decide +kernel
theorem dX1_takeMinister_40 : decode cX1_takeMinister 40 = .ok (.iconst 1, 1) := by decide +kernel
theorem dX1_takeMinister_41 : decode cX1_takeMinister 41 = .ok (.iaload, 1) := by decide +kernel
theorem dX1_takeMinister_42 : decode cX1_takeMinister 42 = .ok (.invokevirtual 90, 3) := by decide +kernel
theorem dX1_takeMinister_45 : decode cX1_takeMinister 45 = .ok (.ifCond .eq 14, 3) := by decide +kernel
theorem dX1_takeMinister_48 : decode cX1_takeMinister 48 = .ok (.aload_n 0, 1) := by decide +kernel
theorem dX1_takeMinister_49 : decode cX1_takeMinister 49 = .ok (.getfield 27, 3) := by decide +kernel
theorem dX1_takeMinister_52 : decode cX1_takeMinister 52 = .ok (.iconst 2, 1) := by decide +kernel
theorem dX1_takeMinister_53 : decode cX1_takeMinister 53 = .ok (.iaload, 1) := by decide +kernel
theorem dX1_takeMinister_54 : decode cX1_takeMinister 54 = .ok (.bipush 9, 2) := by decide +kernel
theorem dX1_takeMinister_56 : decode cX1_takeMinister 56 = .ok (.if_icmp .le 5, 3) := by decide +kernel
theorem dX1_takeMinister_59 : decode cX1_takeMinister 59 = .ok (.iconst 0, 1) := by decide +kernel
theorem dX1_takeMinister_60 : decode cX1_takeMinister 60 = .ok (.ireturn, 1) := by decide +kernel
theorem dX1_takeMinister_61 : decode cX1_takeMinister 61 = .ok (.aload_n 0, 1) := by decide +kernel
theorem dX1_takeMinister_62 : decode cX1_takeMinister 62 = .ok (.getfield 12, 3) := by decide +kernel
theorem dX1_takeMinister_65 : decode cX1_takeMinister 65 = .ok (.getfield 108, 3) := by decide +kernel
theorem dX1_takeMinister_68 : decode cX1_takeMinister 68 = .ok (.iload_n 1, 1) := by decide +kernel
theorem dX1_takeMinister_69 : decode cX1_takeMinister 69 = .ok (.aload_n 0, 1) := by decide +kernel
theorem dX1_takeMinister_70 : decode cX1_takeMinister 70 = .ok (.getfield 27, 3) := by decide +kernel
theorem dX1_takeMinister_73 : decode cX1_takeMinister 73 = .ok (.iconst 0, 1) := by decide +kernel
theorem dX1_takeMinister_74 : decode cX1_takeMinister 74 = .ok (.iaload, 1) := by decide +kernel
theorem dX1_takeMinister_75 : decode cX1_takeMinister 75 = .ok (.iastore, 1) := by decide +kernel
theorem dX1_takeMinister_76 : decode cX1_takeMinister 76 = .ok (.aload_n 0, 1) := by decide +kernel
theorem dX1_takeMinister_77 : decode cX1_takeMinister 77 = .ok (.getfield 23, 3) := by decide +kernel
theorem dX1_takeMinister_80 : decode cX1_takeMinister 80 = .ok (.getfield 111, 3) := by decide +kernel
theorem dX1_takeMinister_83 : decode cX1_takeMinister 83 = .ok (.iload_n 1, 1) := by decide +kernel
theorem dX1_takeMinister_84 : decode cX1_takeMinister 84 = .ok (.aload_n 0, 1) := by decide +kernel
theorem dX1_takeMinister_85 : decode cX1_takeMinister 85 = .ok (.getfield 27, 3) := by decide +kernel
theorem dX1_takeMinister_88 : decode cX1_takeMinister 88 = .ok (.iconst 1, 1) := by decide +kernel
theorem dX1_takeMinister_89 : decode cX1_takeMinister 89 = .ok (.iaload, 1) := by decide +kernel
theorem dX1_takeMinister_90 : decode cX1_takeMinister 90 = .ok (.iastore, 1) := by decide +kernel
theorem dX1_takeMinister_91 : decode cX1_takeMinister 91 = .ok (.aload_n 0, 1) := by decide +kernel
theorem dX1_takeMinister_92 : decode cX1_takeMinister 92 = .ok (.getfield 23, 3) := by decide +kernel
theorem dX1_takeMinister_95 : decode cX1_takeMinister 95 = .ok (.getfield 114, 3) := by decide +kernel
theorem dX1_takeMinister_98 : decode cX1_takeMinister 98 = .ok (.iload_n 1, 1) := by decide +kernel
theorem dX1_takeMinister_99 : decode cX1_takeMinister 99 = .ok (.aload_n 0, 1) := by decide +kernel
theorem dX1_takeMinister_100 : decode cX1_takeMinister 100 = .ok (.getfield 27, 3) := by decide +kernel
theorem dX1_takeMinister_103 : decode cX1_takeMinister 103 = .ok (.iconst 2, 1) := by decide +kernel
theorem dX1_takeMinister_104 : decode cX1_takeMinister 104 = .ok (.iaload, 1) := by decide +kernel
theorem dX1_takeMinister_105 : decode cX1_takeMinister 105 = .ok (.iastore, 1) := by decide +kernel
theorem dX1_takeMinister_106 : decode cX1_takeMinister 106 = .ok (.aload_n 0, 1) := by decide +kernel
theorem dX1_takeMinister_107 : decode cX1_takeMinister 107 = .ok (.getfield 12, 3) := by decide +kernel
theorem dX1_takeMinister_110 : decode cX1_takeMinister 110 = .ok (.dup, 1) := by decide +kernel
theorem dX1_takeMinister_111 : decode cX1_takeMinister 111 = .ok (.getfield 105, 3) := by decide +kernel
theorem dX1_takeMinister_114 : decode cX1_takeMinister 114 = .ok (.iconst 1, 1) := by decide +kernel
theorem dX1_takeMinister_115 : decode cX1_takeMinister 115 = .ok (.iadd, 1) := by decide +kernel
theorem dX1_takeMinister_116 : decode cX1_takeMinister 116 = .ok (.putfield 105, 3) := by decide +kernel
theorem dX1_takeMinister_119 : decode cX1_takeMinister 119 = .ok (.iconst 1, 1) := by decide +kernel
theorem dX1_takeMinister_120 : decode cX1_takeMinister 120 = .ok (.ireturn, 1) := by decide +kernel
theorem dX1_takeFunds_0 : decode cX1_takeFunds 0 = .ok (.aload_n 0, 1) := by decide +kernel
theorem dX1_takeFunds_1 : decode cX1_takeFunds 1 = .ok (.getfield 31, 3) := by decide +kernel
theorem dX1_takeFunds_4 : decode cX1_takeFunds 4 = .ok (.iconst 1, 1) := by decide +kernel
theorem dX1_takeFunds_5 : decode cX1_takeFunds 5 = .ok (.if_icmp .eq 5, 3) := by decide +kernel
theorem dX1_takeFunds_8 : decode cX1_takeFunds 8 = .ok (.iconst 0, 1) := by decide +kernel
theorem dX1_takeFunds_9 : decode cX1_takeFunds 9 = .ok (.ireturn, 1) := by decide +kernel
theorem dX1_takeFunds_10 : decode cX1_takeFunds 10 = .ok (.aload_n 0, 1) := by decide +kernel
theorem dX1_takeFunds_11 : decode cX1_takeFunds 11 = .ok (.getfield 23, 3) := by decide +kernel
theorem dX1_takeFunds_14 : decode cX1_takeFunds 14 = .ok (.aload_n 0, 1) := by decide +kernel
theorem dX1_takeFunds_15 : decode cX1_takeFunds 15 = .ok (.getfield 27, 3) := by decide +kernel
theorem dX1_takeFunds_18 : decode cX1_takeFunds 18 = .ok (.iconst 0, 1) := by decide +kernel
theorem dX1_takeFunds_19 : decode cX1_takeFunds 19 = .ok (.iaload, 1) := by decide +kernel
theorem dX1_takeFunds_20 : decode cX1_takeFunds 20 = .ok (.putfield 117, 3) := by decide +kernel
theorem dX1_takeFunds_23 : decode cX1_takeFunds 23 = .ok (.iconst 1, 1) := by decide +kernel
theorem dX1_takeFunds_24 : decode cX1_takeFunds 24 = .ok (.ireturn, 1) := by decide +kernel
theorem dX2_init_0 : decode cX2_init 0 = .ok (.aload_n 0, 1) := by decide +kernel
theorem dX2_init_1 : decode cX2_init 1 = .ok (.invokespecial 1, 3) := by decide +kernel
theorem dX2_init_4 : decode cX2_init 4 = .ok (.aload_n 0, 1) := by decide +kernel
theorem dX2_init_5 : decode cX2_init 5 = .ok (.iconst 0, 1) := by decide +kernel
theorem dX2_init_6 : decode cX2_init 6 = .ok (.putfield 7, 3) := by decide +kernel
theorem dX2_init_9 : decode cX2_init 9 = .ok (.aload_n 0, 1) := by decide +kernel
theorem dX2_init_10 : decode cX2_init 10 = .ok (.iconst 0, 1) := by decide +kernel
theorem dX2_init_11 : decode cX2_init 11 = .ok (.putfield 13, 3) := by decide +kernel
theorem dX2_init_14 : decode cX2_init 14 = .ok (.aload_n 0, 1) := by decide +kernel
theorem dX2_init_15 : decode cX2_init 15 = .ok (.iconst 1, 1) := by decide +kernel
theorem dX2_init_16 : decode cX2_init 16 = .ok (.iload_n 2, 1) := by decide +kernel
theorem dX2_init_17 : decode cX2_init 17 = .ok (.invokestatic 16, 3) := by decide +kernel
theorem dX2_init_20 : decode cX2_init 20 = .ok (.anewarray 22, 3) := by decide +kernel
theorem dX2_init_23 : decode cX2_init 23 = .ok (.putfield 24, 3) := by decide +kernel
theorem dX2_init_26 : decode cX2_init 26 = .ok (.iconst 0, 1) := by decide +kernel
theorem dX2_init_27 : decode cX2_init 27 = .ok (.istore_n 3, 1) := by decide +kernel
theorem dX2_init_28 : decode cX2_init 28 = .ok (.iload_n 3, 1) := by decide +kernel
theorem dX2_init_29 : decode cX2_init 29 = .ok (.aload_n 0, 1) := by decide +kernel
theorem dX2_init_30 : decode cX2_init 30 = .ok (.getfield 24, 3) := by decide +kernel
theorem dX2_init_33 : decode cX2_init 33 = .ok (.arraylength, 1) := by decide +kernel
theorem dX2_init_34 : decode cX2_init 34 = .ok (.if_icmp .ge 23, 3) := by decide +kernel
theorem dX2_init_37 : decode cX2_init 37 = .ok (.aload_n 0, 1) := by decide +kernel
theorem dX2_init_38 : decode cX2_init 38 = .ok (.getfield 24, 3) := by decide +kernel
theorem dX2_init_41 : decode cX2_init 41 = .ok (.iload_n 3, 1) := by decide +kernel
theorem dX2_init_42 : decode cX2_init 42 = .ok (.new 22, 3) := by decide +kernel
theorem dX2_init_45 : decode cX2_init 45 = .ok (.dup, 1) := by decide +kernel
theorem dX2_init_46 : decode cX2_init 46 = .ok (.aload_n 1, 1) := by decide +kernel
theorem dX2_init_47 : decode cX2_init 47 = .ok (.invokespecial 28, 3) := by decide +kernel
theorem dX2_init_50 : decode cX2_init 50 = .ok (.aastore, 1) := by decide +kernel
theorem dX2_init_51 : decode cX2_init 51 = .ok (.iinc 3 1, 3) := by decide +kernel
theorem dX2_init_54 : decode cX2_init 54 = .ok (.goto (-26), 3) := by decide +kernel
theorem dX2_init_57 : decode cX2_init 57 = .ok (.return_, 1) := by decide +kernel
theorem dX2_isFull_0 : decode cX2_isFull 0 = .ok (.aload_n 0, 1) := by decide +kernel
theorem dX2_isFull_1 : decode cX2_isFull 1 = .ok (.getfield 7, 3) := by decide +kernel
theorem dX2_isFull_4 : decode cX2_isFull 4 = .ok (.aload_n 0, 1) := by decide +kernel
theorem dX2_isFull_5 : decode cX2_isFull 5 = .ok (.getfield 24, 3) := by decide +kernel
theorem dX2_isFull_8 : decode cX2_isFull 8 = .ok (.arraylength, 1) := by decide +kernel
theorem dX2_isFull_9 : decode cX2_isFull 9 = .ok (.if_icmp .lt 7, 3) := by decide +kernel
theorem dX2_isFull_12 : decode cX2_isFull 12 = .ok (.iconst 1, 1) := by decide +kernel
theorem dX2_isFull_13 : decode cX2_isFull 13 = .ok (.goto 4, 3) := by decide +kernel
theorem dX2_isFull_16 : decode cX2_isFull 16 = .ok (.iconst 0, 1) := by decide +kernel
theorem dX2_isFull_17 : decode cX2_isFull 17 = .ok (.ireturn, 1) := by decide +kernel
theorem dX2_put_0 : decode cX2_put 0 = .ok (.aload_n 0, 1) := by decide +kernel
theorem dX2_put_1 : decode cX2_put 1 = .ok (.getfield 24, 3) := by decide +kernel
theorem dX2_put_4 : decode cX2_put 4 = .ok (.aload_n 0, 1) := by decide +kernel
theorem dX2_put_5 : decode cX2_put 5 = .ok (.getfield 13, 3) := by decide +kernel
theorem dX2_put_8 : decode cX2_put 8 = .ok (.aaload, 1) := by decide +kernel
theorem dX2_put_9 : decode cX2_put 9 = .ok (.aload_n 1, 1) := by decide +kernel
theorem dX2_put_10 : decode cX2_put 10 = .ok (.invokevirtual 31, 3) := by decide +kernel
theorem dX2_put_13 : decode cX2_put 13 = .ok (.aload_n 0, 1) := by decide +kernel
theorem dX2_put_14 : decode cX2_put 14 = .ok (.aload_n 0, 1) := by decide +kernel
theorem dX2_put_15 : decode cX2_put 15 = .ok (.getfield 13, 3) := by decide +kernel
theorem dX2_put_18 : decode cX2_put 18 = .ok (.iconst 1, 1) := by decide +kernel
theorem dX2_put_19 : decode cX2_put 19 = .ok (.iadd, 1) := by decide +kernel
theorem dX2_put_20 : decode cX2_put 20 = .ok (.aload_n 0, 1) := by decide +kernel
theorem dX2_put_21 : decode cX2_put 21 = .ok (.getfield 24, 3) := by decide +kernel
theorem dX2_put_24 : decode cX2_put 24 = .ok (.arraylength, 1) := by decide +kernel
theorem dX2_put_25 : decode cX2_put 25 = .ok (.if_icmp .ge 12, 3) := by decide +kernel
theorem dX2_put_28 : decode cX2_put 28 = .ok (.aload_n 0, 1) := by decide +kernel
theorem dX2_put_29 : decode cX2_put 29 = .ok (.getfield 13, 3) := by decide +kernel
theorem dX2_put_32 : decode cX2_put 32 = .ok (.iconst 1, 1) := by decide +kernel
theorem dX2_put_33 : decode cX2_put 33 = .ok (.iadd, 1) := by decide +kernel
theorem dX2_put_34 : decode cX2_put 34 = .ok (.goto 4, 3) := by decide +kernel
theorem dX2_put_37 : decode cX2_put 37 = .ok (.iconst 0, 1) := by decide +kernel
theorem dX2_put_38 : decode cX2_put 38 = .ok (.putfield 13, 3) := by decide +kernel
theorem dX2_put_41 : decode cX2_put 41 = .ok (.aload_n 0, 1) := by decide +kernel
theorem dX2_put_42 : decode cX2_put 42 = .ok (.aload_n 0, 1) := by decide +kernel
theorem dX2_put_43 : decode cX2_put 43 = .ok (.getfield 7, 3) := by decide +kernel
theorem dX2_put_46 : decode cX2_put 46 = .ok (.iconst 1, 1) := by decide +kernel
theorem dX2_put_47 : decode cX2_put 47 = .ok (.iadd, 1) := by decide +kernel
theorem dX2_put_48 : decode cX2_put 48 = .ok (.aload_n 0, 1) := by decide +kernel
theorem dX2_put_49 : decode cX2_put 49 = .ok (.getfield 24, 3) := by decide +kernel
theorem dX2_put_52 : decode cX2_put 52 = .ok (.arraylength, 1) := by decide +kernel
theorem dX2_put_53 : decode cX2_put 53 = .ok (.invokestatic 35, 3) := by decide +kernel
theorem dX2_put_56 : decode cX2_put 56 = .ok (.putfield 7, 3) := by decide +kernel
theorem dX2_put_59 : decode cX2_put 59 = .ok (.return_, 1) := by decide +kernel
theorem dX2_takeLatest_0 : decode cX2_takeLatest 0 = .ok (.aload_n 0, 1) := by decide +kernel
theorem dX2_takeLatest_1 : decode cX2_takeLatest 1 = .ok (.getfield 7, 3) := by decide +kernel
theorem dX2_takeLatest_4 : decode cX2_takeLatest 4 = .ok (.ifCond .ne 5, 3) := by decide +kernel
theorem dX2_takeLatest_7 : decode cX2_takeLatest 7 = .ok (.iconst 0, 1) := by decide +kernel
theorem dX2_takeLatest_8 : decode cX2_takeLatest 8 = .ok (.ireturn, 1) := by decide +kernel
theorem dX2_takeLatest_9 : decode cX2_takeLatest 9 = .ok (.aload_n 0, 1) := by decide +kernel
theorem dX2_takeLatest_10 : decode cX2_takeLatest 10 = .ok (.aload_n 0, 1) := by decide +kernel
theorem dX2_takeLatest_11 : decode cX2_takeLatest 11 = .ok (.getfield 13, 3) := by decide +kernel
theorem dX2_takeLatest_14 : decode cX2_takeLatest 14 = .ok (.ifCond .le 12, 3) := by decide +kernel
theorem dX2_takeLatest_17 : decode cX2_takeLatest 17 = .ok (.aload_n 0, 1) := by decide +kernel
theorem dX2_takeLatest_18 : decode cX2_takeLatest 18 = .ok (.getfield 13, 3) := by decide +kernel
theorem dX2_takeLatest_21 : decode cX2_takeLatest 21 = .ok (.iconst 1, 1) := by decide +kernel
theorem dX2_takeLatest_22 : decode cX2_takeLatest 22 = .ok (.isub, 1) := by decide +kernel
theorem dX2_takeLatest_23 : decode cX2_takeLatest 23 = .ok (.goto 10, 3) := by decide +kernel
theorem dX2_takeLatest_26 : decode cX2_takeLatest 26 = .ok (.aload_n 0, 1) := by decide +kernel
theorem dX2_takeLatest_27 : decode cX2_takeLatest 27 = .ok (.getfield 24, 3) := by decide +kernel
theorem dX2_takeLatest_30 : decode cX2_takeLatest 30 = .ok (.arraylength, 1) := by decide +kernel
theorem dX2_takeLatest_31 : decode cX2_takeLatest 31 = .ok (.iconst 1, 1) := by decide +kernel
theorem dX2_takeLatest_32 : decode cX2_takeLatest 32 = .ok (.isub, 1) := by decide +kernel
theorem dX2_takeLatest_33 : decode cX2_takeLatest 33 = .ok (.putfield 13, 3) := by decide +kernel
theorem dX2_takeLatest_36 : decode cX2_takeLatest 36 = .ok (.aload_n 1, 1) := by decide +kernel
theorem dX2_takeLatest_37 : decode cX2_takeLatest 37 = .ok (.aload_n 0, 1) := by decide +kernel
theorem dX2_takeLatest_38 : decode cX2_takeLatest 38 = .ok (.getfield 24, 3) := by decide +kernel
theorem dX2_takeLatest_41 : decode cX2_takeLatest 41 = .ok (.aload_n 0, 1) := by decide +kernel
theorem dX2_takeLatest_42 : decode cX2_takeLatest 42 = .ok (.getfield 13, 3) := by decide +kernel
theorem dX2_takeLatest_45 : decode cX2_takeLatest 45 = .ok (.aaload, 1) := by decide +kernel
theorem dX2_takeLatest_46 : decode cX2_takeLatest 46 = .ok (.invokevirtual 31, 3) := by decide +kernel
theorem dX2_takeLatest_49 : decode cX2_takeLatest 49 = .ok (.aload_n 0, 1) := by decide +kernel
theorem dX2_takeLatest_50 : decode cX2_takeLatest 50 = .ok (.dup, 1) := by decide +kernel
theorem dX2_takeLatest_51 : decode cX2_takeLatest 51 = .ok (.getfield 7, 3) := by decide +kernel
theorem dX2_takeLatest_54 : decode cX2_takeLatest 54 = .ok (.iconst 1, 1) := by decide +kernel
theorem dX2_takeLatest_55 : decode cX2_takeLatest 55 = .ok (.isub, 1) := by decide +kernel
theorem dX2_takeLatest_56 : decode cX2_takeLatest 56 = .ok (.putfield 7, 3) := by decide +kernel
theorem dX2_takeLatest_59 : decode cX2_takeLatest 59 = .ok (.iconst 1, 1) := by decide +kernel
theorem dX2_takeLatest_60 : decode cX2_takeLatest 60 = .ok (.ireturn, 1) := by decide +kernel
theorem dX3_init_0 : decode cX3_init 0 = .ok (.aload_n 0, 1) := by decide +kernel
theorem dX3_init_1 : decode cX3_init 1 = .ok (.invokespecial 3, 3) := by decide +kernel
theorem dX3_init_4 : decode cX3_init 4 = .ok (.aload_n 0, 1) := by decide +kernel
theorem dX3_init_5 : decode cX3_init 5 = .ok (.bipush 6, 2) := by decide +kernel
theorem dX3_init_7 : decode cX3_init 7 = .ok (.newarray .int, 2) := by decide +kernel
theorem dX3_init_9 : decode cX3_init 9 = .ok (.putfield 9, 3) := by decide +kernel
theorem dX3_init_12 : decode cX3_init 12 = .ok (.aload_n 0, 1) := by decide +kernel
theorem dX3_init_13 : decode cX3_init 13 = .ok (.bipush 6, 2) := by decide +kernel
theorem dX3_init_15 : decode cX3_init 15 = .ok (.newarray .int, 2) := by decide +kernel
theorem dX3_init_17 : decode cX3_init 17 = .ok (.putfield 15, 3) := by decide +kernel
theorem dX3_init_20 : decode cX3_init 20 = .ok (.aload_n 0, 1) := by decide +kernel
theorem dX3_init_21 : decode cX3_init 21 = .ok (.iconst 0, 1) := by decide +kernel
theorem dX3_init_22 : decode cX3_init 22 = .ok (.putfield 18, 3) := by decide +kernel
theorem dX3_init_25 : decode cX3_init 25 = .ok (.return_, 1) := by decide +kernel
theorem dX3_add_0 : decode cX3_add 0 = .ok (.aload_n 0, 1) := by decide +kernel
theorem dX3_add_1 : decode cX3_add 1 = .ok (.getfield 18, 3) := by decide +kernel
theorem dX3_add_4 : decode cX3_add 4 = .ok (.bipush 6, 2) := by decide +kernel
theorem dX3_add_6 : decode cX3_add 6 = .ok (.if_icmp .lt 5, 3) := by decide +kernel
theorem dX3_add_9 : decode cX3_add 9 = .ok (.iconst 0, 1) := by decide +kernel
theorem dX3_add_10 : decode cX3_add 10 = .ok (.ireturn, 1) := by decide +kernel
theorem dX3_add_11 : decode cX3_add 11 = .ok (.aload_n 0, 1) := by decide +kernel
theorem dX3_add_12 : decode cX3_add 12 = .ok (.getfield 9, 3) := by decide +kernel
theorem dX3_add_15 : decode cX3_add 15 = .ok (.aload_n 0, 1) := by decide +kernel
theorem dX3_add_16 : decode cX3_add 16 = .ok (.getfield 18, 3) := by decide +kernel
theorem dX3_add_19 : decode cX3_add 19 = .ok (.iload_n 1, 1) := by decide +kernel
theorem dX3_add_20 : decode cX3_add 20 = .ok (.iastore, 1) := by decide +kernel
theorem dX3_add_21 : decode cX3_add 21 = .ok (.aload_n 0, 1) := by decide +kernel
theorem dX3_add_22 : decode cX3_add 22 = .ok (.getfield 15, 3) := by decide +kernel
theorem dX3_add_25 : decode cX3_add 25 = .ok (.aload_n 0, 1) := by decide +kernel
theorem dX3_add_26 : decode cX3_add 26 = .ok (.getfield 18, 3) := by decide +kernel
theorem dX3_add_29 : decode cX3_add 29 = .ok (.iload_n 2, 1) := by decide +kernel
theorem dX3_add_30 : decode cX3_add 30 = .ok (.iastore, 1) := by decide +kernel
theorem dX3_add_31 : decode cX3_add 31 = .ok (.aload_n 0, 1) := by decide +kernel
theorem dX3_add_32 : decode cX3_add 32 = .ok (.dup, 1) := by decide +kernel
theorem dX3_add_33 : decode cX3_add 33 = .ok (.getfield 18, 3) := by decide +kernel
theorem dX3_add_36 : decode cX3_add 36 = .ok (.iconst 1, 1) := by decide +kernel
theorem dX3_add_37 : decode cX3_add 37 = .ok (.iadd, 1) := by decide +kernel
theorem dX3_add_38 : decode cX3_add 38 = .ok (.putfield 18, 3) := by decide +kernel
theorem dX3_add_41 : decode cX3_add 41 = .ok (.iconst 1, 1) := by decide +kernel
theorem dX3_add_42 : decode cX3_add 42 = .ok (.ireturn, 1) := by decide +kernel
theorem dX3_allHoldIn_0 : decode cX3_allHoldIn 0 = .ok (.iconst 0, 1) := by decide +kernel
theorem dX3_allHoldIn_1 : decode cX3_allHoldIn 1 = .ok (.istore_n 2, 1) := by decide +kernel
theorem dX3_allHoldIn_2 : decode cX3_allHoldIn 2 = .ok (.iload_n 2, 1) := by decide +kernel
theorem dX3_allHoldIn_3 : decode cX3_allHoldIn 3 = .ok (.aload_n 0, 1) := by decide +kernel
theorem dX3_allHoldIn_4 : decode cX3_allHoldIn 4 = .ok (.getfield 18, 3) := by decide +kernel
theorem dX3_allHoldIn_7 : decode cX3_allHoldIn 7 = .ok (.if_icmp .ge 31, 3) := by decide +kernel
theorem dX3_allHoldIn_10 : decode cX3_allHoldIn 10 = .ok (.aload_n 1, 1) := by decide +kernel
theorem dX3_allHoldIn_11 : decode cX3_allHoldIn 11 = .ok (.getfield 22, 3) := by decide +kernel
theorem dX3_allHoldIn_14 : decode cX3_allHoldIn 14 = .ok (.aload_n 0, 1) := by decide +kernel
theorem dX3_allHoldIn_15 : decode cX3_allHoldIn 15 = .ok (.getfield 9, 3) := by decide +kernel
theorem dX3_allHoldIn_18 : decode cX3_allHoldIn 18 = .ok (.iload_n 2, 1) := by decide +kernel
theorem dX3_allHoldIn_19 : decode cX3_allHoldIn 19 = .ok (.iaload, 1) := by decide +kernel
theorem dX3_allHoldIn_20 : decode cX3_allHoldIn 20 = .ok (.iaload, 1) := by decide +kernel
theorem dX3_allHoldIn_21 : decode cX3_allHoldIn 21 = .ok (.aload_n 0, 1) := by decide +kernel
theorem dX3_allHoldIn_22 : decode cX3_allHoldIn 22 = .ok (.getfield 15, 3) := by decide +kernel
theorem dX3_allHoldIn_25 : decode cX3_allHoldIn 25 = .ok (.iload_n 2, 1) := by decide +kernel
theorem dX3_allHoldIn_26 : decode cX3_allHoldIn 26 = .ok (.iaload, 1) := by decide +kernel
theorem dX3_allHoldIn_27 : decode cX3_allHoldIn 27 = .ok (.if_icmp .eq 5, 3) := by decide +kernel
theorem dX3_allHoldIn_30 : decode cX3_allHoldIn 30 = .ok (.iconst 0, 1) := by decide +kernel
theorem dX3_allHoldIn_31 : decode cX3_allHoldIn 31 = .ok (.ireturn, 1) := by decide +kernel
theorem dX3_allHoldIn_32 : decode cX3_allHoldIn 32 = .ok (.iinc 2 1, 3) := by decide +kernel
theorem dX3_allHoldIn_35 : decode cX3_allHoldIn 35 = .ok (.goto (-33), 3) := by decide +kernel
theorem dX3_allHoldIn_38 : decode cX3_allHoldIn 38 = .ok (.iconst 1, 1) := by decide +kernel
theorem dX3_allHoldIn_39 : decode cX3_allHoldIn 39 = .ok (.ireturn, 1) := by decide +kernel
theorem dX4_init_0 : decode cX4_init 0 = .ok (.aload_n 0, 1) := by decide +kernel
theorem dX4_init_1 : decode cX4_init 1 = .ok (.invokespecial 3, 3) := by decide +kernel
theorem dX4_init_4 : decode cX4_init 4 = .ok (.aload_n 0, 1) := by decide +kernel
theorem dX4_init_5 : decode cX4_init 5 = .ok (.bipush 16, 2) := by decide +kernel
theorem dX4_init_7 : decode cX4_init 7 = .ok (.newarray .int, 2) := by decide +kernel
theorem dX4_init_9 : decode cX4_init 9 = .ok (.putfield 9, 3) := by decide +kernel
theorem dX4_init_12 : decode cX4_init 12 = .ok (.aload_n 0, 1) := by decide +kernel
theorem dX4_init_13 : decode cX4_init 13 = .ok (.bipush 7, 2) := by decide +kernel
theorem dX4_init_15 : decode cX4_init 15 = .ok (.newarray .int, 2) := by decide +kernel
theorem dX4_init_17 : decode cX4_init 17 = .ok (.putfield 15, 3) := by decide +kernel
theorem dX4_init_20 : decode cX4_init 20 = .ok (.aload_n 0, 1) := by decide +kernel
theorem dX4_init_21 : decode cX4_init 21 = .ok (.bipush 7, 2) := by decide +kernel
theorem dX4_init_23 : decode cX4_init 23 = .ok (.newarray .int, 2) := by decide +kernel
theorem dX4_init_25 : decode cX4_init 25 = .ok (.putfield 18, 3) := by decide +kernel
theorem dX4_init_28 : decode cX4_init 28 = .ok (.aload_n 0, 1) := by decide +kernel
theorem dX4_init_29 : decode cX4_init 29 = .ok (.bipush 7, 2) := by decide +kernel
theorem dX4_init_31 : decode cX4_init 31 = .ok (.newarray .int, 2) := by decide +kernel
theorem dX4_init_33 : decode cX4_init 33 = .ok (.putfield 21, 3) := by decide +kernel
theorem dX4_init_36 : decode cX4_init 36 = .ok (.aload_n 0, 1) := by decide +kernel
theorem dX4_init_37 : decode cX4_init 37 = .ok (.bipush 20, 2) := by decide +kernel
theorem dX4_init_39 : decode cX4_init 39 = .ok (.putfield 24, 3) := by decide +kernel
theorem dX4_init_42 : decode cX4_init 42 = .ok (.aload_n 0, 1) := by decide +kernel
theorem dX4_init_43 : decode cX4_init 43 = .ok (.iconst 0, 1) := by decide +kernel
theorem dX4_init_44 : decode cX4_init 44 = .ok (.putfield 28, 3) := by decide +kernel
theorem dX4_init_47 : decode cX4_init 47 = .ok (.aload_n 0, 1) := by decide +kernel
theorem dX4_init_48 : decode cX4_init 48 = .ok (.aload_n 1, 1) := by decide +kernel
theorem dX4_init_49 : decode cX4_init 49 = .ok (.putfield 31, 3) := by decide +kernel
theorem dX4_init_52 : decode cX4_init 52 = .ok (.return_, 1) := by decide +kernel
theorem dX4_clear_0 : decode cX4_clear 0 = .ok (.aload_n 0, 1) := by decide +kernel
theorem dX4_clear_1 : decode cX4_clear 1 = .ok (.getfield 9, 3) := by decide +kernel
theorem dX4_clear_4 : decode cX4_clear 4 = .ok (.iconst 0, 1) := by decide +kernel
theorem dX4_clear_5 : decode cX4_clear 5 = .ok (.invokestatic 35, 3) := by decide +kernel
theorem dX4_clear_8 : decode cX4_clear 8 = .ok (.aload_n 0, 1) := by decide +kernel
theorem dX4_clear_9 : decode cX4_clear 9 = .ok (.getfield 15, 3) := by decide +kernel
theorem dX4_clear_12 : decode cX4_clear 12 = .ok (.iconst 0, 1) := by decide +kernel
theorem dX4_clear_13 : decode cX4_clear 13 = .ok (.invokestatic 35, 3) := by decide +kernel
theorem dX4_clear_16 : decode cX4_clear 16 = .ok (.aload_n 0, 1) := by decide +kernel
theorem dX4_clear_17 : decode cX4_clear 17 = .ok (.getfield 18, 3) := by decide +kernel
theorem dX4_clear_20 : decode cX4_clear 20 = .ok (.iconst 0, 1) := by decide +kernel
theorem dX4_clear_21 : decode cX4_clear 21 = .ok (.invokestatic 35, 3) := by decide +kernel
theorem dX4_clear_24 : decode cX4_clear 24 = .ok (.aload_n 0, 1) := by decide +kernel
theorem dX4_clear_25 : decode cX4_clear 25 = .ok (.getfield 21, 3) := by decide +kernel
theorem dX4_clear_28 : decode cX4_clear 28 = .ok (.iconst 0, 1) := by decide +kernel
theorem dX4_clear_29 : decode cX4_clear 29 = .ok (.invokestatic 35, 3) := by decide +kernel
theorem dX4_clear_32 : decode cX4_clear 32 = .ok (.aload_n 0, 1) := by decide +kernel
theorem dX4_clear_33 : decode cX4_clear 33 = .ok (.bipush 20, 2) := by decide +kernel
theorem dX4_clear_35 : decode cX4_clear 35 = .ok (.putfield 24, 3) := by decide +kernel
theorem dX4_clear_38 : decode cX4_clear 38 = .ok (.aload_n 0, 1) := by decide +kernel
theorem dX4_clear_39 : decode cX4_clear 39 = .ok (.iconst 0, 1) := by decide +kernel
theorem dX4_clear_40 : decode cX4_clear 40 = .ok (.putfield 28, 3) := by decide +kernel
theorem dX4_clear_43 : decode cX4_clear 43 = .ok (.return_, 1) := by decide +kernel
theorem dX4_copy_0 : decode cX4_copy 0 = .ok (.aload_n 1, 1) := by decide +kernel
theorem dX4_copy_1 : decode cX4_copy 1 = .ok (.getfield 9, 3) := by decide +kernel
theorem dX4_copy_4 : decode cX4_copy 4 = .ok (.iconst 0, 1) := by decide +kernel
theorem dX4_copy_5 : decode cX4_copy 5 = .ok (.aload_n 0, 1) := by decide +kernel
theorem dX4_copy_6 : decode cX4_copy 6 = .ok (.getfield 9, 3) := by decide +kernel
theorem dX4_copy_9 : decode cX4_copy 9 = .ok (.iconst 0, 1) := by decide +kernel
theorem dX4_copy_10 : decode cX4_copy 10 = .ok (.aload_n 0, 1) := by decide +kernel
theorem dX4_copy_11 : decode cX4_copy 11 = .ok (.getfield 9, 3) := by decide +kernel
theorem dX4_copy_14 : decode cX4_copy 14 = .ok (.arraylength, 1) := by decide +kernel
theorem dX4_copy_15 : decode cX4_copy 15 = .ok (.invokestatic 41, 3) := by decide +kernel
theorem dX4_copy_18 : decode cX4_copy 18 = .ok (.aload_n 1, 1) := by decide +kernel
theorem dX4_copy_19 : decode cX4_copy 19 = .ok (.getfield 15, 3) := by decide +kernel
theorem dX4_copy_22 : decode cX4_copy 22 = .ok (.iconst 0, 1) := by decide +kernel
theorem dX4_copy_23 : decode cX4_copy 23 = .ok (.aload_n 0, 1) := by decide +kernel
theorem dX4_copy_24 : decode cX4_copy 24 = .ok (.getfield 15, 3) := by decide +kernel
theorem dX4_copy_27 : decode cX4_copy 27 = .ok (.iconst 0, 1) := by decide +kernel
theorem dX4_copy_28 : decode cX4_copy 28 = .ok (.aload_n 0, 1) := by decide +kernel
theorem dX4_copy_29 : decode cX4_copy 29 = .ok (.getfield 15, 3) := by decide +kernel
theorem dX4_copy_32 : decode cX4_copy 32 = .ok (.arraylength, 1) := by decide +kernel
theorem dX4_copy_33 : decode cX4_copy 33 = .ok (.invokestatic 41, 3) := by decide +kernel
theorem dX4_copy_36 : decode cX4_copy 36 = .ok (.aload_n 1, 1) := by decide +kernel
theorem dX4_copy_37 : decode cX4_copy 37 = .ok (.getfield 18, 3) := by decide +kernel
theorem dX4_copy_40 : decode cX4_copy 40 = .ok (.iconst 0, 1) := by decide +kernel
theorem dX4_copy_41 : decode cX4_copy 41 = .ok (.aload_n 0, 1) := by decide +kernel
theorem dX4_copy_42 : decode cX4_copy 42 = .ok (.getfield 18, 3) := by decide +kernel
theorem dX4_copy_45 : decode cX4_copy 45 = .ok (.iconst 0, 1) := by decide +kernel
theorem dX4_copy_46 : decode cX4_copy 46 = .ok (.aload_n 0, 1) := by decide +kernel
theorem dX4_copy_47 : decode cX4_copy 47 = .ok (.getfield 18, 3) := by decide +kernel
theorem dX4_copy_50 : decode cX4_copy 50 = .ok (.arraylength, 1) := by decide +kernel
theorem dX4_copy_51 : decode cX4_copy 51 = .ok (.invokestatic 41, 3) := by decide +kernel
theorem dX4_copy_54 : decode cX4_copy 54 = .ok (.aload_n 1, 1) := by decide +kernel
theorem dX4_copy_55 : decode cX4_copy 55 = .ok (.getfield 21, 3) := by decide +kernel
theorem dX4_copy_58 : decode cX4_copy 58 = .ok (.iconst 0, 1) := by decide +kernel
theorem dX4_copy_59 : decode cX4_copy 59 = .ok (.aload_n 0, 1) := by decide +kernel
theorem dX4_copy_60 : decode cX4_copy 60 = .ok (.getfield 21, 3) := by decide +kernel
theorem dX4_copy_63 : decode cX4_copy 63 = .ok (.iconst 0, 1) := by decide +kernel
theorem dX4_copy_64 : decode cX4_copy 64 = .ok (.aload_n 0, 1) := by decide +kernel
theorem dX4_copy_65 : decode cX4_copy 65 = .ok (.getfield 21, 3) := by decide +kernel
theorem dX4_copy_68 : decode cX4_copy 68 = .ok (.arraylength, 1) := by decide +kernel
theorem dX4_copy_69 : decode cX4_copy 69 = .ok (.invokestatic 41, 3) := by decide +kernel
theorem dX4_copy_72 : decode cX4_copy 72 = .ok (.aload_n 0, 1) := by decide +kernel
theorem dX4_copy_73 : decode cX4_copy 73 = .ok (.aload_n 1, 1) := by decide +kernel
theorem dX4_copy_74 : decode cX4_copy 74 = .ok (.getfield 24, 3) := by decide +kernel
theorem dX4_copy_77 : decode cX4_copy 77 = .ok (.putfield 24, 3) := by decide +kernel
theorem dX4_copy_80 : decode cX4_copy 80 = .ok (.aload_n 0, 1) := by decide +kernel
theorem dX4_copy_81 : decode cX4_copy 81 = .ok (.aload_n 1, 1) := by decide +kernel
theorem dX4_copy_82 : decode cX4_copy 82 = .ok (.getfield 28, 3) := by decide +kernel
theorem dX4_copy_85 : decode cX4_copy 85 = .ok (.putfield 28, 3) := by decide +kernel
theorem dX4_copy_88 : decode cX4_copy 88 = .ok (.return_, 1) := by decide +kernel
theorem dX4_governor_0 : decode cX4_governor 0 = .ok (.iconst 0, 1) := by decide +kernel
theorem dX4_governor_1 : decode cX4_governor 1 = .ok (.istore_n 1, 1) := by decide +kernel
theorem dX4_governor_2 : decode cX4_governor 2 = .ok (.iconst 1, 1) := by decide +kernel
theorem dX4_governor_3 : decode cX4_governor 3 = .ok (.istore_n 2, 1) := by decide +kernel
theorem dX4_governor_4 : decode cX4_governor 4 = .ok (.iload_n 2, 1) := by decide +kernel
theorem dX4_governor_5 : decode cX4_governor 5 = .ok (.aload_n 0, 1) := by decide +kernel
theorem dX4_governor_6 : decode cX4_governor 6 = .ok (.getfield 31, 3) := by decide +kernel
theorem dX4_governor_9 : decode cX4_governor 9 = .ok (.getfield 47, 3) := by decide +kernel
theorem dX4_governor_12 : decode cX4_governor 12 = .ok (.if_icmp .ge 26, 3) := by decide +kernel
theorem dX4_governor_15 : decode cX4_governor 15 = .ok (.aload_n 0, 1) := by decide +kernel
theorem dX4_governor_16 : decode cX4_governor 16 = .ok (.getfield 15, 3) := by decide +kernel
theorem dX4_governor_19 : decode cX4_governor 19 = .ok (.iload_n 2, 1) := by decide +kernel
theorem dX4_governor_20 : decode cX4_governor 20 = .ok (.iaload, 1) := by decide +kernel
theorem dX4_governor_21 : decode cX4_governor 21 = .ok (.aload_n 0, 1) := by decide +kernel
theorem dX4_governor_22 : decode cX4_governor 22 = .ok (.getfield 15, 3) := by decide +kernel
theorem dX4_governor_25 : decode cX4_governor 25 = .ok (.iload_n 1, 1) := by decide +kernel
theorem dX4_governor_26 : decode cX4_governor 26 = .ok (.iaload, 1) := by decide +kernel
theorem dX4_governor_27 : decode cX4_governor 27 = .ok (.if_icmp .le 5, 3) := by decide +kernel
theorem dX4_governor_30 : decode cX4_governor 30 = .ok (.iload_n 2, 1) := by decide +kernel
theorem dX4_governor_31 : decode cX4_governor 31 = .ok (.istore_n 1, 1) := by decide +kernel
theorem dX4_governor_32 : decode cX4_governor 32 = .ok (.iinc 2 1, 3) := by decide +kernel
theorem dX4_governor_35 : decode cX4_governor 35 = .ok (.goto (-31), 3) := by decide +kernel
theorem dX4_governor_38 : decode cX4_governor 38 = .ok (.iload_n 1, 1) := by decide +kernel
theorem dX4_governor_39 : decode cX4_governor 39 = .ok (.ireturn, 1) := by decide +kernel
theorem dX4_howManyOn_0 : decode cX4_howManyOn 0 = .ok (.iconst 0, 1) := by decide +kernel
theorem dX4_howManyOn_1 : decode cX4_howManyOn 1 = .ok (.istore_n 2, 1) := by decide +kernel
theorem dX4_howManyOn_2 : decode cX4_howManyOn 2 = .ok (.iconst 0, 1) := by decide +kernel
theorem dX4_howManyOn_3 : decode cX4_howManyOn 3 = .ok (.istore_n 3, 1) := by decide +kernel
theorem dX4_howManyOn_4 : decode cX4_howManyOn 4 = .ok (.iload_n 3, 1) := by decide +kernel
theorem dX4_howManyOn_5 : decode cX4_howManyOn 5 = .ok (.aload_n 0, 1) := by decide +kernel
theorem dX4_howManyOn_6 : decode cX4_howManyOn 6 = .ok (.getfield 31, 3) := by decide +kernel
theorem dX4_howManyOn_9 : decode cX4_howManyOn 9 = .ok (.getfield 47, 3) := by decide +kernel
theorem dX4_howManyOn_12 : decode cX4_howManyOn 12 = .ok (.if_icmp .ge 22, 3) := by decide +kernel
theorem dX4_howManyOn_15 : decode cX4_howManyOn 15 = .ok (.aload_n 0, 1) := by decide +kernel
theorem dX4_howManyOn_16 : decode cX4_howManyOn 16 = .ok (.getfield 15, 3) := by decide +kernel
theorem dX4_howManyOn_19 : decode cX4_howManyOn 19 = .ok (.iload_n 3, 1) := by decide +kernel
theorem dX4_howManyOn_20 : decode cX4_howManyOn 20 = .ok (.iaload, 1) := by decide +kernel
theorem dX4_howManyOn_21 : decode cX4_howManyOn 21 = .ok (.iload_n 1, 1) := by decide +kernel
theorem dX4_howManyOn_22 : decode cX4_howManyOn 22 = .ok (.if_icmp .ne 6, 3) := by decide +kernel
theorem dX4_howManyOn_25 : decode cX4_howManyOn 25 = .ok (.iinc 2 1, 3) := by decide +kernel
theorem dX4_howManyOn_28 : decode cX4_howManyOn 28 = .ok (.iinc 3 1, 3) := by decide +kernel
theorem dX4_howManyOn_31 : decode cX4_howManyOn 31 = .ok (.goto (-27), 3) := by decide +kernel
theorem dX4_howManyOn_34 : decode cX4_howManyOn 34 = .ok (.iload_n 2, 1) := by decide +kernel
theorem dX4_howManyOn_35 : decode cX4_howManyOn 35 = .ok (.ireturn, 1) := by decide +kernel
theorem dX4_allWax_0 : decode cX4_allWax 0 = .ok (.iconst 0, 1) := by decide +kernel
theorem dX4_allWax_1 : decode cX4_allWax 1 = .ok (.istore_n 1, 1) := by decide +kernel
theorem dX4_allWax_2 : decode cX4_allWax 2 = .ok (.iconst 0, 1) := by decide +kernel
theorem dX4_allWax_3 : decode cX4_allWax 3 = .ok (.istore_n 2, 1) := by decide +kernel
theorem dX4_allWax_4 : decode cX4_allWax 4 = .ok (.iload_n 2, 1) := by decide +kernel
theorem dX4_allWax_5 : decode cX4_allWax 5 = .ok (.aload_n 0, 1) := by decide +kernel
theorem dX4_allWax_6 : decode cX4_allWax 6 = .ok (.getfield 31, 3) := by decide +kernel
theorem dX4_allWax_9 : decode cX4_allWax 9 = .ok (.getfield 52, 3) := by decide +kernel
theorem dX4_allWax_12 : decode cX4_allWax 12 = .ok (.if_icmp .ge 18, 3) := by decide +kernel
theorem dX4_allWax_15 : decode cX4_allWax 15 = .ok (.iload_n 1, 1) := by decide +kernel
theorem dX4_allWax_16 : decode cX4_allWax 16 = .ok (.aload_n 0, 1) := by decide +kernel
theorem dX4_allWax_17 : decode cX4_allWax 17 = .ok (.getfield 9, 3) := by decide +kernel
theorem dX4_allWax_20 : decode cX4_allWax 20 = .ok (.iload_n 2, 1) := by decide +kernel
theorem dX4_allWax_21 : decode cX4_allWax 21 = .ok (.iaload, 1) := by decide +kernel
theorem dX4_allWax_22 : decode cX4_allWax 22 = .ok (.iadd, 1) := by decide +kernel
theorem dX4_allWax_23 : decode cX4_allWax 23 = .ok (.istore_n 1, 1) := by decide +kernel
theorem dX4_allWax_24 : decode cX4_allWax 24 = .ok (.iinc 2 1, 3) := by decide +kernel
theorem dX4_allWax_27 : decode cX4_allWax 27 = .ok (.goto (-23), 3) := by decide +kernel
theorem dX4_allWax_30 : decode cX4_allWax 30 = .ok (.iload_n 1, 1) := by decide +kernel
theorem dX4_allWax_31 : decode cX4_allWax 31 = .ok (.ireturn, 1) := by decide +kernel
theorem dX4_weightOfSet_0 : decode cX4_weightOfSet 0 = .ok (.iconst 0, 1) := by decide +kernel
theorem dX4_weightOfSet_1 : decode cX4_weightOfSet 1 = .ok (.istore_n 2, 1) := by decide +kernel
theorem dX4_weightOfSet_2 : decode cX4_weightOfSet 2 = .ok (.iconst 0, 1) := by decide +kernel
theorem dX4_weightOfSet_3 : decode cX4_weightOfSet 3 = .ok (.istore_n 3, 1) := by decide +kernel
theorem dX4_weightOfSet_4 : decode cX4_weightOfSet 4 = .ok (.iload_n 3, 1) := by decide +kernel
theorem dX4_weightOfSet_5 : decode cX4_weightOfSet 5 = .ok (.aload_n 0, 1) := by decide +kernel
theorem dX4_weightOfSet_6 : decode cX4_weightOfSet 6 = .ok (.getfield 31, 3) := by decide +kernel
theorem dX4_weightOfSet_9 : decode cX4_weightOfSet 9 = .ok (.getfield 47, 3) := by decide +kernel
theorem dX4_weightOfSet_12 : decode cX4_weightOfSet 12 = .ok (.if_icmp .ge 29, 3) := by decide +kernel
theorem dX4_weightOfSet_15 : decode cX4_weightOfSet 15 = .ok (.iload_n 1, 1) := by decide +kernel
theorem dX4_weightOfSet_16 : decode cX4_weightOfSet 16 = .ok (.iload_n 3, 1) := by decide +kernel
theorem dX4_weightOfSet_17 : decode cX4_weightOfSet 17 = .ok (.ishr, 1) := by decide +kernel
theorem dX4_weightOfSet_18 : decode cX4_weightOfSet 18 = .ok (.iconst 1, 1) := by decide +kernel
theorem dX4_weightOfSet_19 : decode cX4_weightOfSet 19 = .ok (.iand, 1) := by decide +kernel
theorem dX4_weightOfSet_20 : decode cX4_weightOfSet 20 = .ok (.iconst 1, 1) := by decide +kernel
theorem dX4_weightOfSet_21 : decode cX4_weightOfSet 21 = .ok (.if_icmp .ne 14, 3) := by decide +kernel
theorem dX4_weightOfSet_24 : decode cX4_weightOfSet 24 = .ok (.iload_n 2, 1) := by decide +kernel
theorem dX4_weightOfSet_25 : decode cX4_weightOfSet 25 = .ok (.aload_n 0, 1) := by decide +kernel
theorem dX4_weightOfSet_26 : decode cX4_weightOfSet 26 = .ok (.getfield 15, 3) := by decide +kernel
theorem dX4_weightOfSet_29 : decode cX4_weightOfSet 29 = .ok (.iload_n 3, 1) := by decide +kernel
theorem dX4_weightOfSet_30 : decode cX4_weightOfSet 30 = .ok (.iaload, 1) := by decide +kernel
theorem dX4_weightOfSet_31 : decode cX4_weightOfSet 31 = .ok (.iconst 1, 1) := by decide +kernel
theorem dX4_weightOfSet_32 : decode cX4_weightOfSet 32 = .ok (.iadd, 1) := by decide +kernel
theorem dX4_weightOfSet_33 : decode cX4_weightOfSet 33 = .ok (.iadd, 1) := by decide +kernel
theorem dX4_weightOfSet_34 : decode cX4_weightOfSet 34 = .ok (.istore_n 2, 1) := by decide +kernel
theorem dX4_weightOfSet_35 : decode cX4_weightOfSet 35 = .ok (.iinc 3 1, 3) := by decide +kernel
theorem dX4_weightOfSet_38 : decode cX4_weightOfSet 38 = .ok (.goto (-34), 3) := by decide +kernel
theorem dX4_weightOfSet_41 : decode cX4_weightOfSet 41 = .ok (.iload_n 2, 1) := by decide +kernel
theorem dX4_weightOfSet_42 : decode cX4_weightOfSet 42 = .ok (.ireturn, 1) := by decide +kernel
theorem dX4_addWax_0 : decode cX4_addWax 0 = .ok (.aload_n 0, 1) := by decide +kernel
theorem dX4_addWax_1 : decode cX4_addWax 1 = .ok (.getfield 31, 3) := by decide +kernel
theorem dX4_addWax_4 : decode cX4_addWax 4 = .ok (.iload_n 1, 1) := by decide +kernel
theorem dX4_addWax_5 : decode cX4_addWax 5 = .ok (.invokevirtual 55, 3) := by decide +kernel
theorem dX4_addWax_8 : decode cX4_addWax 8 = .ok (.ifCond .eq 26, 3) := by decide +kernel
theorem dX4_addWax_11 : decode cX4_addWax 11 = .ok (.aload_n 0, 1) := by decide +kernel
theorem dX4_addWax_12 : decode cX4_addWax 12 = .ok (.getfield 9, 3) := by decide +kernel
theorem dX4_addWax_15 : decode cX4_addWax 15 = .ok (.iload_n 1, 1) := by decide +kernel
theorem dX4_addWax_16 : decode cX4_addWax 16 = .ok (.iconst 0, 1) := by decide +kernel
theorem dX4_addWax_17 : decode cX4_addWax 17 = .ok (.bipush 9, 2) := by decide +kernel
theorem dX4_addWax_19 : decode cX4_addWax 19 = .ok (.aload_n 0, 1) := by decide +kernel
theorem dX4_addWax_20 : decode cX4_addWax 20 = .ok (.getfield 9, 3) := by decide +kernel
theorem dX4_addWax_23 : decode cX4_addWax 23 = .ok (.iload_n 1, 1) := by decide +kernel
theorem dX4_addWax_24 : decode cX4_addWax 24 = .ok (.iaload, 1) := by decide +kernel
theorem dX4_addWax_25 : decode cX4_addWax 25 = .ok (.iload_n 2, 1) := by decide +kernel
theorem dX4_addWax_26 : decode cX4_addWax 26 = .ok (.iadd, 1) := by decide +kernel
theorem dX4_addWax_27 : decode cX4_addWax 27 = .ok (.invokestatic 59, 3) := by decide +kernel
theorem dX4_addWax_30 : decode cX4_addWax 30 = .ok (.invokestatic 65, 3) := by decide +kernel
theorem dX4_addWax_33 : decode cX4_addWax 33 = .ok (.iastore, 1) := by decide +kernel
theorem dX4_addWax_34 : decode cX4_addWax 34 = .ok (.return_, 1) := by decide +kernel
theorem dX4_goOn_0 : decode cX4_goOn 0 = .ok (.iconst 0, 1) := by decide +kernel
theorem dX4_goOn_1 : decode cX4_goOn 1 = .ok (.istore_n 2, 1) := by decide +kernel
theorem dX4_goOn_2 : decode cX4_goOn 2 = .ok (.iload_n 2, 1) := by decide +kernel
theorem dX4_goOn_3 : decode cX4_goOn 3 = .ok (.iload_n 1, 1) := by decide +kernel
theorem dX4_goOn_4 : decode cX4_goOn 4 = .ok (.if_icmp .ge 13, 3) := by decide +kernel
theorem dX4_goOn_7 : decode cX4_goOn 7 = .ok (.aload_n 0, 1) := by decide +kernel
theorem dX4_goOn_8 : decode cX4_goOn 8 = .ok (.invokevirtual 68, 3) := by decide +kernel
theorem dX4_goOn_11 : decode cX4_goOn 11 = .ok (.iinc 2 1, 3) := by decide +kernel
theorem dX4_goOn_14 : decode cX4_goOn 14 = .ok (.goto (-12), 3) := by decide +kernel
theorem dX4_goOn_17 : decode cX4_goOn 17 = .ok (.return_, 1) := by decide +kernel
theorem dX4_oneYear_0 : decode cX4_oneYear 0 = .ok (.iconst 0, 1) := by decide +kernel
theorem dX4_oneYear_1 : decode cX4_oneYear 1 = .ok (.istore_n 1, 1) := by decide +kernel
theorem dX4_oneYear_2 : decode cX4_oneYear 2 = .ok (.iload_n 1, 1) := by decide +kernel
theorem dX4_oneYear_3 : decode cX4_oneYear 3 = .ok (.aload_n 0, 1) := by decide +kernel
theorem dX4_oneYear_4 : decode cX4_oneYear 4 = .ok (.getfield 31, 3) := by decide +kernel
theorem dX4_oneYear_7 : decode cX4_oneYear 7 = .ok (.getfield 47, 3) := by decide +kernel
theorem dX4_oneYear_10 : decode cX4_oneYear 10 = .ok (.if_icmp .ge 14, 3) := by decide +kernel
theorem dX4_oneYear_13 : decode cX4_oneYear 13 = .ok (.aload_n 0, 1) := by decide +kernel
theorem dX4_oneYear_14 : decode cX4_oneYear 14 = .ok (.iload_n 1, 1) := by decide +kernel
theorem dX4_oneYear_15 : decode cX4_oneYear 15 = .ok (.invokevirtual 71, 3) := by decide +kernel
theorem dX4_oneYear_18 : decode cX4_oneYear 18 = .ok (.iinc 1 1, 3) := by decide +kernel
theorem dX4_oneYear_21 : decode cX4_oneYear 21 = .ok (.goto (-19), 3) := by decide +kernel
theorem dX4_oneYear_24 : decode cX4_oneYear 24 = .ok (.aload_n 0, 1) := by decide +kernel
theorem dX4_oneYear_25 : decode cX4_oneYear 25 = .ok (.getfield 21, 3) := by decide +kernel
theorem dX4_oneYear_28 : decode cX4_oneYear 28 = .ok (.aload_n 0, 1) := by decide +kernel
theorem dX4_oneYear_29 : decode cX4_oneYear 29 = .ok (.invokevirtual 75, 3) := by decide +kernel
theorem dX4_oneYear_32 : decode cX4_oneYear 32 = .ok (.dup2, 1) := by decide +kernel
theorem dX4_oneYear_33 : decode cX4_oneYear 33 = .ok (.iaload, 1) := by decide +kernel
theorem dX4_oneYear_34 : decode cX4_oneYear 34 = .ok (.iconst 1, 1) := by decide +kernel
theorem dX4_oneYear_35 : decode cX4_oneYear 35 = .ok (.iadd, 1) := by decide +kernel
theorem dX4_oneYear_36 : decode cX4_oneYear 36 = .ok (.iastore, 1) := by decide +kernel
theorem dX4_oneYear_37 : decode cX4_oneYear 37 = .ok (.aload_n 0, 1) := by decide +kernel
theorem dX4_oneYear_38 : decode cX4_oneYear 38 = .ok (.bipush 99, 2) := by decide +kernel
theorem dX4_oneYear_40 : decode cX4_oneYear 40 = .ok (.aload_n 0, 1) := by decide +kernel
theorem dX4_oneYear_41 : decode cX4_oneYear 41 = .ok (.getfield 24, 3) := by decide +kernel
theorem dX4_oneYear_44 : decode cX4_oneYear 44 = .ok (.iconst 3, 1) := by decide +kernel
theorem dX4_oneYear_45 : decode cX4_oneYear 45 = .ok (.iadd, 1) := by decide +kernel
theorem dX4_oneYear_46 : decode cX4_oneYear 46 = .ok (.invokestatic 59, 3) := by decide +kernel
theorem dX4_oneYear_49 : decode cX4_oneYear 49 = .ok (.putfield 24, 3) := by decide +kernel
theorem dX4_oneYear_52 : decode cX4_oneYear 52 = .ok (.aload_n 0, 1) := by decide +kernel
theorem dX4_oneYear_53 : decode cX4_oneYear 53 = .ok (.dup, 1) := by decide +kernel
theorem dX4_oneYear_54 : decode cX4_oneYear 54 = .ok (.getfield 28, 3) := by decide +kernel
theorem dX4_oneYear_57 : decode cX4_oneYear 57 = .ok (.iconst 1, 1) := by decide +kernel
theorem dX4_oneYear_58 : decode cX4_oneYear 58 = .ok (.iadd, 1) := by decide +kernel
theorem dX4_oneYear_59 : decode cX4_oneYear 59 = .ok (.putfield 28, 3) := by decide +kernel
theorem dX4_oneYear_62 : decode cX4_oneYear 62 = .ok (.return_, 1) := by decide +kernel
theorem dX4_slipsAtHisTurn_0 : decode cX4_slipsAtHisTurn 0 = .ok (.iconst 0, 1) := by decide +kernel
theorem dX4_slipsAtHisTurn_1 : decode cX4_slipsAtHisTurn 1 = .ok (.istore_n 2, 1) := by decide +kernel
theorem dX4_slipsAtHisTurn_2 : decode cX4_slipsAtHisTurn 2 = .ok (.iload_n 2, 1) := by decide +kernel
theorem dX4_slipsAtHisTurn_3 : decode cX4_slipsAtHisTurn 3 = .ok (.iload_n 1, 1) := by decide +kernel
theorem dX4_slipsAtHisTurn_4 : decode cX4_slipsAtHisTurn 4 = .ok (.if_icmp .ge 14, 3) := by decide +kernel
theorem dX4_slipsAtHisTurn_7 : decode cX4_slipsAtHisTurn 7 = .ok (.aload_n 0, 1) := by decide +kernel
theorem dX4_slipsAtHisTurn_8 : decode cX4_slipsAtHisTurn 8 = .ok (.iload_n 2, 1) := by decide +kernel
theorem dX4_slipsAtHisTurn_9 : decode cX4_slipsAtHisTurn 9 = .ok (.invokevirtual 71, 3) := by decide +kernel
theorem dX4_slipsAtHisTurn_12 : decode cX4_slipsAtHisTurn 12 = .ok (.iinc 2 1, 3) := by decide +kernel
theorem dX4_slipsAtHisTurn_15 : decode cX4_slipsAtHisTurn 15 = .ok (.goto (-13), 3) := by decide +kernel
theorem dX4_slipsAtHisTurn_18 : decode cX4_slipsAtHisTurn 18 = .ok (.aload_n 0, 1) := by decide +kernel
theorem dX4_slipsAtHisTurn_19 : decode cX4_slipsAtHisTurn 19 = .ok (.iload_n 1, 1) := by decide +kernel
theorem dX4_slipsAtHisTurn_20 : decode cX4_slipsAtHisTurn 20 = .ok (.invokevirtual 79, 3) := by decide +kernel
theorem dX4_slipsAtHisTurn_23 : decode cX4_slipsAtHisTurn 23 = .ok (.ifCond .le 7, 3) := by decide +kernel
theorem dX4_slipsAtHisTurn_26 : decode cX4_slipsAtHisTurn 26 = .ok (.iconst 1, 1) := by decide +kernel
theorem dX4_slipsAtHisTurn_27 : decode cX4_slipsAtHisTurn 27 = .ok (.goto 4, 3) := by decide +kernel
theorem dX4_slipsAtHisTurn_30 : decode cX4_slipsAtHisTurn 30 = .ok (.iconst 0, 1) := by decide +kernel
theorem dX4_slipsAtHisTurn_31 : decode cX4_slipsAtHisTurn 31 = .ok (.ireturn, 1) := by decide +kernel
theorem dX4_speedOf_0 : decode cX4_speedOf 0 = .ok (.aload_n 0, 1) := by decide +kernel
theorem dX4_speedOf_1 : decode cX4_speedOf 1 = .ok (.getfield 15, 3) := by decide +kernel
theorem dX4_speedOf_4 : decode cX4_speedOf 4 = .ok (.iload_n 1, 1) := by decide +kernel
theorem dX4_speedOf_5 : decode cX4_speedOf 5 = .ok (.iaload, 1) := by decide +kernel
theorem dX4_speedOf_6 : decode cX4_speedOf 6 = .ok (.istore_n 2, 1) := by decide +kernel
theorem dX4_speedOf_7 : decode cX4_speedOf 7 = .ok (.aload_n 0, 1) := by decide +kernel
theorem dX4_speedOf_8 : decode cX4_speedOf 8 = .ok (.getfield 31, 3) := by decide +kernel
theorem dX4_speedOf_11 : decode cX4_speedOf 11 = .ok (.iload_n 2, 1) := by decide +kernel
theorem dX4_speedOf_12 : decode cX4_speedOf 12 = .ok (.invokevirtual 55, 3) := by decide +kernel
theorem dX4_speedOf_15 : decode cX4_speedOf 15 = .ok (.ifCond .ne 5, 3) := by decide +kernel
theorem dX4_speedOf_18 : decode cX4_speedOf 18 = .ok (.iconst 0, 1) := by decide +kernel
theorem dX4_speedOf_19 : decode cX4_speedOf 19 = .ok (.ireturn, 1) := by decide +kernel
theorem dX4_speedOf_20 : decode cX4_speedOf 20 = .ok (.aload_n 0, 1) := by decide +kernel
theorem dX4_speedOf_21 : decode cX4_speedOf 21 = .ok (.getfield 31, 3) := by decide +kernel
theorem dX4_speedOf_24 : decode cX4_speedOf 24 = .ok (.getfield 83, 3) := by decide +kernel
theorem dX4_speedOf_27 : decode cX4_speedOf 27 = .ok (.iload_n 1, 1) := by decide +kernel
theorem dX4_speedOf_28 : decode cX4_speedOf 28 = .ok (.iaload, 1) := by decide +kernel
theorem dX4_speedOf_29 : decode cX4_speedOf 29 = .ok (.iconst 3, 1) := by decide +kernel
theorem dX4_speedOf_30 : decode cX4_speedOf 30 = .ok (.if_icmp .ne 18, 3) := by decide +kernel
theorem dX4_speedOf_33 : decode cX4_speedOf 33 = .ok (.aload_n 0, 1) := by decide +kernel
theorem dX4_speedOf_34 : decode cX4_speedOf 34 = .ok (.getfield 31, 3) := by decide +kernel
theorem dX4_speedOf_37 : decode cX4_speedOf 37 = .ok (.iload_n 2, 1) := by decide +kernel
theorem dX4_speedOf_38 : decode cX4_speedOf 38 = .ok (.invokevirtual 86, 3) := by decide +kernel
theorem dX4_speedOf_41 : decode cX4_speedOf 41 = .ok (.ifCond .eq 7, 3) := by decide +kernel
theorem dX4_speedOf_44 : decode cX4_speedOf 44 = .ok (.iconst 3, 1) := by decide +kernel
theorem dX4_speedOf_45 : decode cX4_speedOf 45 = .ok (.goto 4, 3) := by decide +kernel
theorem dX4_speedOf_48 : decode cX4_speedOf 48 = .ok (.iconst 0, 1) := by decide +kernel
theorem dX4_speedOf_49 : decode cX4_speedOf 49 = .ok (.istore_n 3, 1) := by decide +kernel
theorem dX4_speedOf_50 : decode cX4_speedOf 50 = .ok (.aload_n 0, 1) := by decide +kernel
theorem dX4_speedOf_51 : decode cX4_speedOf 51 = .ok (.getfield 9, 3) := by decide +kernel
theorem dX4_speedOf_54 : decode cX4_speedOf 54 = .ok (.iload_n 2, 1) := by decide +kernel
theorem dX4_speedOf_55 : decode cX4_speedOf 55 = .ok (.iaload, 1) := by decide +kernel
theorem dX4_speedOf_56 : decode cX4_speedOf 56 = .ok (.aload_n 0, 1) := by decide +kernel
theorem dX4_speedOf_57 : decode cX4_speedOf 57 = .ok (.getfield 18, 3) := by decide +kernel
theorem dX4_speedOf_60 : decode cX4_speedOf 60 = .ok (.iload_n 1, 1) := by decide +kernel
theorem dX4_speedOf_61 : decode cX4_speedOf 61 = .ok (.iaload, 1) := by decide +kernel
theorem dX4_speedOf_62 : decode cX4_speedOf 62 = .ok (.isub, 1) := by decide +kernel
theorem dX4_speedOf_63 : decode cX4_speedOf 63 = .ok (.iload_n 3, 1) := by decide +kernel
theorem dX4_speedOf_64 : decode cX4_speedOf 64 = .ok (.isub, 1) := by decide +kernel
theorem dX4_speedOf_65 : decode cX4_speedOf 65 = .ok (.ireturn, 1) := by decide +kernel
theorem dX4_takeTurn_0 : decode cX4_takeTurn 0 = .ok (.aload_n 0, 1) := by decide +kernel
theorem dX4_takeTurn_1 : decode cX4_takeTurn 1 = .ok (.iload_n 1, 1) := by decide +kernel
theorem dX4_takeTurn_2 : decode cX4_takeTurn 2 = .ok (.invokevirtual 79, 3) := by decide +kernel
theorem dX4_takeTurn_5 : decode cX4_takeTurn 5 = .ok (.istore_n 2, 1) := by decide +kernel
theorem dX4_takeTurn_6 : decode cX4_takeTurn 6 = .ok (.iload_n 2, 1) := by decide +kernel
theorem dX4_takeTurn_7 : decode cX4_takeTurn 7 = .ok (.ifCond .le 12, 3) := by decide +kernel
theorem dX4_takeTurn_10 : decode cX4_takeTurn 10 = .ok (.aload_n 0, 1) := by decide +kernel
theorem dX4_takeTurn_11 : decode cX4_takeTurn 11 = .ok (.iload_n 1, 1) := by decide +kernel
theorem dX4_takeTurn_12 : decode cX4_takeTurn 12 = .ok (.iload_n 2, 1) := by decide +kernel
theorem dX4_takeTurn_13 : decode cX4_takeTurn 13 = .ok (.invokevirtual 89, 3) := by decide +kernel
theorem dX4_takeTurn_16 : decode cX4_takeTurn 16 = .ok (.goto 29, 3) := by decide +kernel
theorem dX4_takeTurn_19 : decode cX4_takeTurn 19 = .ok (.aload_n 0, 1) := by decide +kernel
theorem dX4_takeTurn_20 : decode cX4_takeTurn 20 = .ok (.getfield 31, 3) := by decide +kernel
theorem dX4_takeTurn_23 : decode cX4_takeTurn 23 = .ok (.aload_n 0, 1) := by decide +kernel
theorem dX4_takeTurn_24 : decode cX4_takeTurn 24 = .ok (.getfield 15, 3) := by decide +kernel
theorem dX4_takeTurn_27 : decode cX4_takeTurn 27 = .ok (.iload_n 1, 1) := by decide +kernel
theorem dX4_takeTurn_28 : decode cX4_takeTurn 28 = .ok (.iaload, 1) := by decide +kernel
theorem dX4_takeTurn_29 : decode cX4_takeTurn 29 = .ok (.invokevirtual 86, 3) := by decide +kernel
theorem dX4_takeTurn_32 : decode cX4_takeTurn 32 = .ok (.ifCond .ne 13, 3) := by decide +kernel
theorem dX4_takeTurn_35 : decode cX4_takeTurn 35 = .ok (.aload_n 0, 1) := by decide +kernel
theorem dX4_takeTurn_36 : decode cX4_takeTurn 36 = .ok (.getfield 15, 3) := by decide +kernel
theorem dX4_takeTurn_39 : decode cX4_takeTurn 39 = .ok (.iload_n 1, 1) := by decide +kernel
theorem dX4_takeTurn_40 : decode cX4_takeTurn 40 = .ok (.dup2, 1) := by decide +kernel
theorem dX4_takeTurn_41 : decode cX4_takeTurn 41 = .ok (.iaload, 1) := by decide +kernel
theorem dX4_takeTurn_42 : decode cX4_takeTurn 42 = .ok (.iconst 1, 1) := by decide +kernel
theorem dX4_takeTurn_43 : decode cX4_takeTurn 43 = .ok (.iadd, 1) := by decide +kernel
theorem dX4_takeTurn_44 : decode cX4_takeTurn 44 = .ok (.iastore, 1) := by decide +kernel
theorem dX4_takeTurn_45 : decode cX4_takeTurn 45 = .ok (.return_, 1) := by decide +kernel
theorem dX4_comeDown_0 : decode cX4_comeDown 0 = .ok (.aload_n 0, 1) := by decide +kernel
theorem dX4_comeDown_1 : decode cX4_comeDown 1 = .ok (.getfield 31, 3) := by decide +kernel
theorem dX4_comeDown_4 : decode cX4_comeDown 4 = .ok (.getfield 83, 3) := by decide +kernel
theorem dX4_comeDown_7 : decode cX4_comeDown 7 = .ok (.iload_n 1, 1) := by decide +kernel
theorem dX4_comeDown_8 : decode cX4_comeDown 8 = .ok (.iaload, 1) := by decide +kernel
theorem dX4_comeDown_9 : decode cX4_comeDown 9 = .ok (.iconst 1, 1) := by decide +kernel
theorem dX4_comeDown_10 : decode cX4_comeDown 10 = .ok (.if_icmp .ne 7, 3) := by decide +kernel
theorem dX4_comeDown_13 : decode cX4_comeDown 13 = .ok (.iconst 4, 1) := by decide +kernel
theorem dX4_comeDown_14 : decode cX4_comeDown 14 = .ok (.goto 4, 3) := by decide +kernel
theorem dX4_comeDown_17 : decode cX4_comeDown 17 = .ok (.iconst 2, 1) := by decide +kernel
theorem dX4_comeDown_18 : decode cX4_comeDown 18 = .ok (.istore_n 3, 1) := by decide +kernel
theorem dX4_comeDown_19 : decode cX4_comeDown 19 = .ok (.aload_n 0, 1) := by decide +kernel
theorem dX4_comeDown_20 : decode cX4_comeDown 20 = .ok (.getfield 31, 3) := by decide +kernel
theorem dX4_comeDown_23 : decode cX4_comeDown 23 = .ok (.getfield 83, 3) := by decide +kernel
theorem dX4_comeDown_26 : decode cX4_comeDown 26 = .ok (.iload_n 1, 1) := by decide +kernel
theorem dX4_comeDown_27 : decode cX4_comeDown 27 = .ok (.iaload, 1) := by decide +kernel
theorem dX4_comeDown_28 : decode cX4_comeDown 28 = .ok (.iconst 2, 1) := by decide +kernel
theorem dX4_comeDown_29 : decode cX4_comeDown 29 = .ok (.if_icmp .ne 7, 3) := by decide +kernel
theorem dX4_comeDown_32 : decode cX4_comeDown 32 = .ok (.iconst 1, 1) := by decide +kernel
theorem dX4_comeDown_33 : decode cX4_comeDown 33 = .ok (.goto 4, 3) := by decide +kernel
theorem dX4_comeDown_36 : decode cX4_comeDown 36 = .ok (.iconst 0, 1) := by decide +kernel
theorem dX4_comeDown_37 : decode cX4_comeDown 37 = .ok (.istore 4, 2) := by decide +kernel
theorem dX4_comeDown_39 : decode cX4_comeDown 39 = .ok (.iload_n 2, 1) := by decide +kernel
theorem dX4_comeDown_40 : decode cX4_comeDown 40 = .ok (.istore 5, 2) := by decide +kernel
theorem dX4_comeDown_42 : decode cX4_comeDown 42 = .ok (.aload_n 0, 1) := by decide +kernel
theorem dX4_comeDown_43 : decode cX4_comeDown 43 = .ok (.getfield 15, 3) := by decide +kernel
theorem dX4_comeDown_46 : decode cX4_comeDown 46 = .ok (.iload_n 1, 1) := by decide +kernel
theorem dX4_comeDown_47 : decode cX4_comeDown 47 = .ok (.iaload, 1) := by decide +kernel
theorem dX4_comeDown_48 : decode cX4_comeDown 48 = .ok (.istore 6, 2) := by decide +kernel
theorem dX4_comeDown_50 : decode cX4_comeDown 50 = .ok (.iload 6, 2) := by decide +kernel
theorem dX4_comeDown_52 : decode cX4_comeDown 52 = .ok (.ifCond .le 99, 3) := by decide +kernel
theorem dX4_comeDown_55 : decode cX4_comeDown 55 = .ok (.iload 5, 2) := by decide +kernel
theorem dX4_comeDown_57 : decode cX4_comeDown 57 = .ok (.ifCond .le 94, 3) := by decide +kernel
theorem dX4_comeDown_60 : decode cX4_comeDown 60 = .ok (.aload_n 0, 1) := by decide +kernel
theorem dX4_comeDown_61 : decode cX4_comeDown 61 = .ok (.getfield 9, 3) := by decide +kernel
theorem dX4_comeDown_64 : decode cX4_comeDown 64 = .ok (.iload 6, 2) := by decide +kernel
theorem dX4_comeDown_66 : decode cX4_comeDown 66 = .ok (.iconst 0, 1) := by decide +kernel
theorem dX4_comeDown_67 : decode cX4_comeDown 67 = .ok (.aload_n 0, 1) := by decide +kernel
theorem dX4_comeDown_68 : decode cX4_comeDown 68 = .ok (.getfield 9, 3) := by decide +kernel
theorem dX4_comeDown_71 : decode cX4_comeDown 71 = .ok (.iload 6, 2) := by decide +kernel
theorem dX4_comeDown_73 : decode cX4_comeDown 73 = .ok (.iaload, 1) := by decide +kernel
theorem dX4_comeDown_74 : decode cX4_comeDown 74 = .ok (.iconst 1, 1) := by decide +kernel
theorem dX4_comeDown_75 : decode cX4_comeDown 75 = .ok (.isub, 1) := by decide +kernel
theorem dX4_comeDown_76 : decode cX4_comeDown 76 = .ok (.invokestatic 65, 3) := by decide +kernel
theorem dX4_comeDown_79 : decode cX4_comeDown 79 = .ok (.iastore, 1) := by decide +kernel
theorem dX4_comeDown_80 : decode cX4_comeDown 80 = .ok (.aload_n 0, 1) := by decide +kernel
theorem dX4_comeDown_81 : decode cX4_comeDown 81 = .ok (.getfield 31, 3) := by decide +kernel
theorem dX4_comeDown_84 : decode cX4_comeDown 84 = .ok (.iload 6, 2) := by decide +kernel
theorem dX4_comeDown_86 : decode cX4_comeDown 86 = .ok (.iconst 1, 1) := by decide +kernel
theorem dX4_comeDown_87 : decode cX4_comeDown 87 = .ok (.isub, 1) := by decide +kernel
theorem dX4_comeDown_88 : decode cX4_comeDown 88 = .ok (.invokevirtual 93, 3) := by decide +kernel
theorem dX4_comeDown_91 : decode cX4_comeDown 91 = .ok (.ifCond .ne 22, 3) := by decide +kernel
theorem dX4_comeDown_94 : decode cX4_comeDown 94 = .ok (.iload 4, 2) := by decide +kernel
theorem dX4_comeDown_96 : decode cX4_comeDown 96 = .ok (.ifCond .eq 21, 3) := by decide +kernel
theorem dX4_comeDown_99 : decode cX4_comeDown 99 = .ok (.aload_n 0, 1) := by decide +kernel
theorem dX4_comeDown_100 : decode cX4_comeDown 100 = .ok (.getfield 31, 3) := by decide +kernel
theorem dX4_comeDown_103 : decode cX4_comeDown 103 = .ok (.iload 6, 2) := by decide +kernel
theorem dX4_comeDown_105 : decode cX4_comeDown 105 = .ok (.iconst 1, 1) := by decide +kernel
theorem dX4_comeDown_106 : decode cX4_comeDown 106 = .ok (.isub, 1) := by decide +kernel
theorem dX4_comeDown_107 : decode cX4_comeDown 107 = .ok (.invokevirtual 96, 3) := by decide +kernel
theorem dX4_comeDown_110 : decode cX4_comeDown 110 = .ok (.ifCond .eq 7, 3) := by decide +kernel
theorem dX4_comeDown_113 : decode cX4_comeDown 113 = .ok (.iconst 1, 1) := by decide +kernel
theorem dX4_comeDown_114 : decode cX4_comeDown 114 = .ok (.goto 4, 3) := by decide +kernel
theorem dX4_comeDown_117 : decode cX4_comeDown 117 = .ok (.iconst 0, 1) := by decide +kernel
theorem dX4_comeDown_118 : decode cX4_comeDown 118 = .ok (.istore 7, 2) := by decide +kernel
theorem dX4_comeDown_120 : decode cX4_comeDown 120 = .ok (.iload 7, 2) := by decide +kernel
theorem dX4_comeDown_122 : decode cX4_comeDown 122 = .ok (.ifCond .eq 7, 3) := by decide +kernel
theorem dX4_comeDown_125 : decode cX4_comeDown 125 = .ok (.iconst 0, 1) := by decide +kernel
theorem dX4_comeDown_126 : decode cX4_comeDown 126 = .ok (.goto 17, 3) := by decide +kernel
theorem dX4_comeDown_129 : decode cX4_comeDown 129 = .ok (.iload 5, 2) := by decide +kernel
theorem dX4_comeDown_131 : decode cX4_comeDown 131 = .ok (.aload_n 0, 1) := by decide +kernel
theorem dX4_comeDown_132 : decode cX4_comeDown 132 = .ok (.getfield 9, 3) := by decide +kernel
theorem dX4_comeDown_135 : decode cX4_comeDown 135 = .ok (.iload 6, 2) := by decide +kernel
theorem dX4_comeDown_137 : decode cX4_comeDown 137 = .ok (.iconst 1, 1) := by decide +kernel
theorem dX4_comeDown_138 : decode cX4_comeDown 138 = .ok (.isub, 1) := by decide +kernel
theorem dX4_comeDown_139 : decode cX4_comeDown 139 = .ok (.iaload, 1) := by decide +kernel
theorem dX4_comeDown_140 : decode cX4_comeDown 140 = .ok (.iadd, 1) := by decide +kernel
theorem dX4_comeDown_141 : decode cX4_comeDown 141 = .ok (.iload_n 3, 1) := by decide +kernel
theorem dX4_comeDown_142 : decode cX4_comeDown 142 = .ok (.isub, 1) := by decide +kernel
theorem dX4_comeDown_143 : decode cX4_comeDown 143 = .ok (.istore 5, 2) := by decide +kernel
theorem dX4_comeDown_145 : decode cX4_comeDown 145 = .ok (.iinc 6 (-1), 3) := by decide +kernel
theorem dX4_comeDown_148 : decode cX4_comeDown 148 = .ok (.goto (-98), 3) := by decide +kernel
theorem dX4_comeDown_151 : decode cX4_comeDown 151 = .ok (.aload_n 0, 1) := by decide +kernel
theorem dX4_comeDown_152 : decode cX4_comeDown 152 = .ok (.getfield 15, 3) := by decide +kernel
theorem dX4_comeDown_155 : decode cX4_comeDown 155 = .ok (.iload_n 1, 1) := by decide +kernel
theorem dX4_comeDown_156 : decode cX4_comeDown 156 = .ok (.iload 6, 2) := by decide +kernel
theorem dX4_comeDown_158 : decode cX4_comeDown 158 = .ok (.iastore, 1) := by decide +kernel
theorem dX4_comeDown_159 : decode cX4_comeDown 159 = .ok (.return_, 1) := by decide +kernel
theorem dX4_weather_0 : decode cX4_weather 0 = .ok (.aload_n 0, 1) := by decide +kernel
theorem dX4_weather_1 : decode cX4_weather 1 = .ok (.getfield 31, 3) := by decide +kernel
theorem dX4_weather_4 : decode cX4_weather 4 = .ok (.getfield 52, 3) := by decide +kernel
theorem dX4_weather_7 : decode cX4_weather 7 = .ok (.ifCond .gt 4, 3) := by decide +kernel
theorem dX4_weather_10 : decode cX4_weather 10 = .ok (.return_, 1) := by decide +kernel
theorem dX4_weather_11 : decode cX4_weather 11 = .ok (.iload_n 1, 1) := by decide +kernel
theorem dX4_weather_12 : decode cX4_weather 12 = .ok (.bipush 16, 2) := by decide +kernel
theorem dX4_weather_14 : decode cX4_weather 14 = .ok (.idiv, 1) := by decide +kernel
theorem dX4_weather_15 : decode cX4_weather 15 = .ok (.iconst 2, 1) := by decide +kernel
theorem dX4_weather_16 : decode cX4_weather 16 = .ok (.irem, 1) := by decide +kernel
theorem dX4_weather_17 : decode cX4_weather 17 = .ok (.ifCond .ne 17, 3) := by decide +kernel
theorem dX4_weather_20 : decode cX4_weather 20 = .ok (.aload_n 0, 1) := by decide +kernel
theorem dX4_weather_21 : decode cX4_weather 21 = .ok (.iload_n 1, 1) := by decide +kernel
theorem dX4_weather_22 : decode cX4_weather 22 = .ok (.aload_n 0, 1) := by decide +kernel
theorem dX4_weather_23 : decode cX4_weather 23 = .ok (.getfield 31, 3) := by decide +kernel
theorem dX4_weather_26 : decode cX4_weather 26 = .ok (.getfield 52, 3) := by decide +kernel
theorem dX4_weather_29 : decode cX4_weather 29 = .ok (.irem, 1) := by decide +kernel
theorem dX4_weather_30 : decode cX4_weather 30 = .ok (.iconst 1, 1) := by decide +kernel
theorem dX4_weather_31 : decode cX4_weather 31 = .ok (.invokevirtual 99, 3) := by decide +kernel
theorem dX4_weather_34 : decode cX4_weather 34 = .ok (.iload_n 1, 1) := by decide +kernel
theorem dX4_weather_35 : decode cX4_weather 35 = .ok (.sipush 512, 3) := by decide +kernel
theorem dX4_weather_38 : decode cX4_weather 38 = .ok (.idiv, 1) := by decide +kernel
theorem dX4_weather_39 : decode cX4_weather 39 = .ok (.iconst 3, 1) := by decide +kernel
theorem dX4_weather_40 : decode cX4_weather 40 = .ok (.irem, 1) := by decide +kernel
theorem dX4_weather_41 : decode cX4_weather 41 = .ok (.ifCond .ne 21, 3) := by decide +kernel
theorem dX4_weather_44 : decode cX4_weather 44 = .ok (.aload_n 0, 1) := by decide +kernel
theorem dX4_weather_45 : decode cX4_weather 45 = .ok (.iload_n 1, 1) := by decide +kernel
theorem dX4_weather_46 : decode cX4_weather 46 = .ok (.bipush 32, 2) := by decide +kernel
theorem dX4_weather_48 : decode cX4_weather 48 = .ok (.idiv, 1) := by decide +kernel
theorem dX4_weather_49 : decode cX4_weather 49 = .ok (.aload_n 0, 1) := by decide +kernel
theorem dX4_weather_50 : decode cX4_weather 50 = .ok (.getfield 31, 3) := by decide +kernel
theorem dX4_weather_53 : decode cX4_weather 53 = .ok (.getfield 52, 3) := by decide +kernel
theorem dX4_weather_56 : decode cX4_weather 56 = .ok (.irem, 1) := by decide +kernel
theorem dX4_weather_57 : decode cX4_weather 57 = .ok (.bipush (-2), 2) := by decide +kernel
theorem dX4_weather_59 : decode cX4_weather 59 = .ok (.invokevirtual 99, 3) := by decide +kernel
theorem dX4_weather_62 : decode cX4_weather 62 = .ok (.return_, 1) := by decide +kernel
theorem dX5_init_0 : decode cX5_init 0 = .ok (.aload_n 0, 1) := by decide +kernel
theorem dX5_init_1 : decode cX5_init 1 = .ok (.invokespecial 3, 3) := by decide +kernel
theorem dX5_init_4 : decode cX5_init 4 = .ok (.aload_n 0, 1) := by decide +kernel
theorem dX5_init_5 : decode cX5_init 5 = .ok (.sipush 200, 3) := by decide +kernel
theorem dX5_init_8 : decode cX5_init 8 = .ok (.newarray .char, 2) := by decide +kernel
theorem dX5_init_10 : decode cX5_init 10 = .ok (.putfield 9, 3) := by decide +kernel
theorem dX5_init_13 : decode cX5_init 13 = .ok (.aload_n 0, 1) := by decide +kernel
theorem dX5_init_14 : decode cX5_init 14 = .ok (.iconst 0, 1) := by decide +kernel
theorem dX5_init_15 : decode cX5_init 15 = .ok (.putfield 15, 3) := by decide +kernel
theorem dX5_init_18 : decode cX5_init 18 = .ok (.return_, 1) := by decide +kernel
theorem dX5_add_0 : decode cX5_add 0 = .ok (.aload_n 0, 1) := by decide +kernel
theorem dX5_add_1 : decode cX5_add 1 = .ok (.getfield 15, 3) := by decide +kernel
theorem dX5_add_4 : decode cX5_add 4 = .ok (.aload_n 0, 1) := by decide +kernel
theorem dX5_add_5 : decode cX5_add 5 = .ok (.getfield 9, 3) := by decide +kernel
theorem dX5_add_8 : decode cX5_add 8 = .ok (.arraylength, 1) := by decide +kernel
theorem dX5_add_9 : decode cX5_add 9 = .ok (.if_icmp .lt 5, 3) := by decide +kernel
theorem dX5_add_12 : decode cX5_add 12 = .ok (.iconst 0, 1) := by decide +kernel
theorem dX5_add_13 : decode cX5_add 13 = .ok (.ireturn, 1) := by decide +kernel
theorem dX5_add_14 : decode cX5_add 14 = .ok (.aload_n 0, 1) := by decide +kernel
theorem dX5_add_15 : decode cX5_add 15 = .ok (.getfield 9, 3) := by decide +kernel
theorem dX5_add_18 : decode cX5_add 18 = .ok (.aload_n 0, 1) := by decide +kernel
theorem dX5_add_19 : decode cX5_add 19 = .ok (.getfield 15, 3) := by decide +kernel
theorem dX5_add_22 : decode cX5_add 22 = .ok (.iload_n 1, 1) := by decide +kernel
theorem dX5_add_23 : decode cX5_add 23 = .ok (.castore, 1) := by decide +kernel
theorem dX5_add_24 : decode cX5_add 24 = .ok (.aload_n 0, 1) := by decide +kernel
theorem dX5_add_25 : decode cX5_add 25 = .ok (.dup, 1) := by decide +kernel
theorem dX5_add_26 : decode cX5_add 26 = .ok (.getfield 15, 3) := by decide +kernel
theorem dX5_add_29 : decode cX5_add 29 = .ok (.iconst 1, 1) := by decide +kernel
theorem dX5_add_30 : decode cX5_add 30 = .ok (.iadd, 1) := by decide +kernel
theorem dX5_add_31 : decode cX5_add 31 = .ok (.putfield 15, 3) := by decide +kernel
theorem dX5_add_34 : decode cX5_add 34 = .ok (.iconst 1, 1) := by decide +kernel
theorem dX5_add_35 : decode cX5_add 35 = .ok (.ireturn, 1) := by decide +kernel
theorem dX6_init_0 : decode cX6_init 0 = .ok (.aload_n 0, 1) := by decide +kernel
theorem dX6_init_1 : decode cX6_init 1 = .ok (.invokespecial 1, 3) := by decide +kernel
theorem dX6_init_4 : decode cX6_init 4 = .ok (.aload_n 0, 1) := by decide +kernel
theorem dX6_init_5 : decode cX6_init 5 = .ok (.new 7, 3) := by decide +kernel
theorem dX6_init_8 : decode cX6_init 8 = .ok (.dup, 1) := by decide +kernel
theorem dX6_init_9 : decode cX6_init 9 = .ok (.invokespecial 9, 3) := by decide +kernel
theorem dX6_init_12 : decode cX6_init 12 = .ok (.putfield 10, 3) := by decide +kernel
theorem dX6_init_15 : decode cX6_init 15 = .ok (.aload_n 0, 1) := by decide +kernel
theorem dX6_init_16 : decode cX6_init 16 = .ok (.new 16, 3) := by decide +kernel
theorem dX6_init_19 : decode cX6_init 19 = .ok (.dup, 1) := by decide +kernel
theorem dX6_init_20 : decode cX6_init 20 = .ok (.invokespecial 18, 3) := by decide +kernel
theorem dX6_init_23 : decode cX6_init 23 = .ok (.putfield 19, 3) := by decide +kernel
theorem dX6_init_26 : decode cX6_init 26 = .ok (.aload_n 0, 1) := by decide +kernel
theorem dX6_init_27 : decode cX6_init 27 = .ok (.new 23, 3) := by decide +kernel
theorem dX6_init_30 : decode cX6_init 30 = .ok (.dup, 1) := by decide +kernel
theorem dX6_init_31 : decode cX6_init 31 = .ok (.invokespecial 25, 3) := by decide +kernel
theorem dX6_init_34 : decode cX6_init 34 = .ok (.putfield 26, 3) := by decide +kernel
theorem dX6_init_37 : decode cX6_init 37 = .ok (.aload_n 0, 1) := by decide +kernel
theorem dX6_init_38 : decode cX6_init 38 = .ok (.new 30, 3) := by decide +kernel
theorem dX6_init_41 : decode cX6_init 41 = .ok (.dup, 1) := by decide +kernel
theorem dX6_init_42 : decode cX6_init 42 = .ok (.aload_n 0, 1) := by decide +kernel
theorem dX6_init_43 : decode cX6_init 43 = .ok (.getfield 26, 3) := by decide +kernel
theorem dX6_init_46 : decode cX6_init 46 = .ok (.invokespecial 32, 3) := by decide +kernel
theorem dX6_init_49 : decode cX6_init 49 = .ok (.putfield 35, 3) := by decide +kernel
theorem dX6_init_52 : decode cX6_init 52 = .ok (.aload_n 0, 1) := by decide +kernel
theorem dX6_init_53 : decode cX6_init 53 = .ok (.new 30, 3) := by decide +kernel
theorem dX6_init_56 : decode cX6_init 56 = .ok (.dup, 1) := by decide +kernel
theorem dX6_init_57 : decode cX6_init 57 = .ok (.aload_n 0, 1) := by decide +kernel
theorem dX6_init_58 : decode cX6_init 58 = .ok (.getfield 26, 3) := by decide +kernel
theorem dX6_init_61 : decode cX6_init 61 = .ok (.invokespecial 32, 3) := by decide +kernel
theorem dX6_init_64 : decode cX6_init 64 = .ok (.putfield 39, 3) := by decide +kernel
theorem dX6_init_67 : decode cX6_init 67 = .ok (.aload_n 0, 1) := by decide +kernel
theorem dX6_init_68 : decode cX6_init 68 = .ok (.new 42, 3) := by decide +kernel
theorem dX6_init_71 : decode cX6_init 71 = .ok (.dup, 1) := by decide +kernel
theorem dX6_init_72 : decode cX6_init 72 = .ok (.aload_n 0, 1) := by decide +kernel
theorem dX6_init_73 : decode cX6_init 73 = .ok (.getfield 26, 3) := by decide +kernel
theorem dX6_init_76 : decode cX6_init 76 = .ok (.bipush 8, 2) := by decide +kernel
theorem dX6_init_78 : decode cX6_init 78 = .ok (.invokespecial 44, 3) := by decide +kernel
theorem dX6_init_81 : decode cX6_init 81 = .ok (.putfield 47, 3) := by decide +kernel
theorem dX6_init_84 : decode cX6_init 84 = .ok (.aload_n 0, 1) := by decide +kernel
theorem dX6_init_85 : decode cX6_init 85 = .ok (.new 42, 3) := by decide +kernel
theorem dX6_init_88 : decode cX6_init 88 = .ok (.dup, 1) := by decide +kernel
theorem dX6_init_89 : decode cX6_init 89 = .ok (.aload_n 0, 1) := by decide +kernel
theorem dX6_init_90 : decode cX6_init 90 = .ok (.getfield 26, 3) := by decide +kernel
theorem dX6_init_93 : decode cX6_init 93 = .ok (.iconst 2, 1) := by decide +kernel
theorem dX6_init_94 : decode cX6_init 94 = .ok (.invokespecial 44, 3) := by decide +kernel
theorem dX6_init_97 : decode cX6_init 97 = .ok (.putfield 51, 3) := by decide +kernel
theorem dX6_init_100 : decode cX6_init 100 = .ok (.aload_n 0, 1) := by decide +kernel
theorem dX6_init_101 : decode cX6_init 101 = .ok (.new 54, 3) := by decide +kernel
theorem dX6_init_104 : decode cX6_init 104 = .ok (.dup, 1) := by decide +kernel
theorem dX6_init_105 : decode cX6_init 105 = .ok (.invokespecial 56, 3) := by decide +kernel
theorem dX6_init_108 : decode cX6_init 108 = .ok (.putfield 57, 3) := by decide +kernel
theorem dX6_init_111 : decode cX6_init 111 = .ok (.iconst 0, 1) := by decide +kernel
theorem dX6_init_112 : decode cX6_init 112 = .ok (.istore_n 1, 1) := by decide +kernel
theorem dX6_init_113 : decode cX6_init 113 = .ok (.iload_n 1, 1) := by decide +kernel
theorem dX6_init_114 : decode cX6_init 114 = .ok (.ldc 61, 2) := by decide +kernel
theorem dX6_init_116 : decode cX6_init 116 = .ok (.invokevirtual 63, 3) := by decide +kernel
theorem dX6_init_119 : decode cX6_init 119 = .ok (.if_icmp .ge 23, 3) := by decide +kernel
theorem dX6_init_122 : decode cX6_init 122 = .ok (.aload_n 0, 1) := by decide +kernel
theorem dX6_init_123 : decode cX6_init 123 = .ok (.getfield 10, 3) := by decide +kernel
theorem dX6_init_126 : decode cX6_init 126 = .ok (.ldc 61, 2) := by decide +kernel
theorem dX6_init_128 : decode cX6_init 128 = .ok (.iload_n 1, 1) := by decide +kernel
theorem dX6_init_129 : decode cX6_init 129 = .ok (.invokevirtual 69, 3) := by decide +kernel
theorem dX6_init_132 : decode cX6_init 132 = .ok (.invokevirtual 73, 3) := by decide +kernel
theorem dX6_init_135 : decode cX6_init 135 = .ok (.pop, 1) := by decide +kernel
theorem dX6_init_136 : decode cX6_init 136 = .ok (.iinc 1 1, 3) := by decide +kernel
theorem dX6_init_139 : decode cX6_init 139 = .ok (.goto (-26), 3) := by decide +kernel
theorem dX6_init_142 : decode cX6_init 142 = .ok (.aload_n 0, 1) := by decide +kernel
theorem dX6_init_143 : decode cX6_init 143 = .ok (.invokevirtual 77, 3) := by decide +kernel
theorem dX6_init_146 : decode cX6_init 146 = .ok (.pop, 1) := by decide +kernel
theorem dX6_init_147 : decode cX6_init 147 = .ok (.aload_n 0, 1) := by decide +kernel
theorem dX6_init_148 : decode cX6_init 148 = .ok (.getfield 10, 3) := by decide +kernel
theorem dX6_init_151 : decode cX6_init 151 = .ok (.iconst 0, 1) := by decide +kernel
theorem dX6_init_152 : decode cX6_init 152 = .ok (.putfield 81, 3) := by decide +kernel
theorem dX6_init_155 : decode cX6_init 155 = .ok (.return_, 1) := by decide +kernel
theorem dX6_write_0 : decode cX6_write 0 = .ok (.iload_n 1, 1) := by decide +kernel
theorem dX6_write_1 : decode cX6_write 1 = .ok (.bipush 32, 2) := by decide +kernel
theorem dX6_write_3 : decode cX6_write 3 = .ok (.bipush 126, 2) := by decide +kernel
theorem dX6_write_5 : decode cX6_write 5 = .ok (.invokestatic 84, 3) := by decide +kernel
theorem dX6_write_8 : decode cX6_write 8 = .ok (.ifCond .ne 5, 3) := by decide +kernel
theorem dX6_write_11 : decode cX6_write 11 = .ok (.iconst (-1), 1) := by decide +kernel
theorem dX6_write_12 : decode cX6_write 12 = .ok (.ireturn, 1) := by decide +kernel
theorem dX6_write_13 : decode cX6_write 13 = .ok (.aload_n 0, 1) := by decide +kernel
theorem dX6_write_14 : decode cX6_write 14 = .ok (.getfield 10, 3) := by decide +kernel
theorem dX6_write_17 : decode cX6_write 17 = .ok (.iload_n 1, 1) := by decide +kernel
theorem dX6_write_18 : decode cX6_write 18 = .ok (.i2c, 1) := by decide +kernel
theorem dX6_write_19 : decode cX6_write 19 = .ok (.invokevirtual 73, 3) := by decide +kernel
theorem dX6_write_22 : decode cX6_write 22 = .ok (.ifCond .eq 13, 3) := by decide +kernel
theorem dX6_write_25 : decode cX6_write 25 = .ok (.aload_n 0, 1) := by decide +kernel
theorem dX6_write_26 : decode cX6_write 26 = .ok (.getfield 10, 3) := by decide +kernel
theorem dX6_write_29 : decode cX6_write 29 = .ok (.getfield 81, 3) := by decide +kernel
theorem dX6_write_32 : decode cX6_write 32 = .ok (.goto 5, 3) := by decide +kernel
theorem dX6_write_35 : decode cX6_write 35 = .ok (.bipush (-3), 2) := by decide +kernel
theorem dX6_write_37 : decode cX6_write 37 = .ok (.ireturn, 1) := by decide +kernel
theorem dX6_wipe_0 : decode cX6_wipe 0 = .ok (.aload_n 0, 1) := by decide +kernel
theorem dX6_wipe_1 : decode cX6_wipe 1 = .ok (.getfield 10, 3) := by decide +kernel
theorem dX6_wipe_4 : decode cX6_wipe 4 = .ok (.getfield 81, 3) := by decide +kernel
theorem dX6_wipe_7 : decode cX6_wipe 7 = .ok (.istore_n 1, 1) := by decide +kernel
theorem dX6_wipe_8 : decode cX6_wipe 8 = .ok (.aload_n 0, 1) := by decide +kernel
theorem dX6_wipe_9 : decode cX6_wipe 9 = .ok (.getfield 10, 3) := by decide +kernel
theorem dX6_wipe_12 : decode cX6_wipe 12 = .ok (.iconst 0, 1) := by decide +kernel
theorem dX6_wipe_13 : decode cX6_wipe 13 = .ok (.putfield 81, 3) := by decide +kernel
theorem dX6_wipe_16 : decode cX6_wipe 16 = .ok (.iload_n 1, 1) := by decide +kernel
theorem dX6_wipe_17 : decode cX6_wipe 17 = .ok (.ireturn, 1) := by decide +kernel
theorem dX6_fault_0 : decode cX6_fault 0 = .ok (.aload_n 0, 1) := by decide +kernel
theorem dX6_fault_1 : decode cX6_fault 1 = .ok (.getfield 19, 3) := by decide +kernel
theorem dX6_fault_4 : decode cX6_fault 4 = .ok (.aload_n 0, 1) := by decide +kernel
theorem dX6_fault_5 : decode cX6_fault 5 = .ok (.getfield 10, 3) := by decide +kernel
theorem dX6_fault_8 : decode cX6_fault 8 = .ok (.invokevirtual 88, 3) := by decide +kernel
theorem dX6_fault_11 : decode cX6_fault 11 = .ok (.ireturn, 1) := by decide +kernel
theorem dX6_lay_0 : decode cX6_lay 0 = .ok (.aload_n 0, 1) := by decide +kernel
theorem dX6_lay_1 : decode cX6_lay 1 = .ok (.invokevirtual 77, 3) := by decide +kernel
theorem dX6_lay_4 : decode cX6_lay 4 = .ok (.ifCond .eq 13, 3) := by decide +kernel
theorem dX6_lay_7 : decode cX6_lay 7 = .ok (.aload_n 0, 1) := by decide +kernel
theorem dX6_lay_8 : decode cX6_lay 8 = .ok (.getfield 26, 3) := by decide +kernel
theorem dX6_lay_11 : decode cX6_lay 11 = .ok (.getfield 92, 3) := by decide +kernel
theorem dX6_lay_14 : decode cX6_lay 14 = .ok (.goto 5, 3) := by decide +kernel
theorem dX6_lay_17 : decode cX6_lay 17 = .ok (.bipush (-2), 2) := by decide +kernel
theorem dX6_lay_19 : decode cX6_lay 19 = .ok (.ireturn, 1) := by decide +kernel
theorem dX6_minister_0 : decode cX6_minister 0 = .ok (.aload_n 0, 1) := by decide +kernel
theorem dX6_minister_1 : decode cX6_minister 1 = .ok (.getfield 26, 3) := by decide +kernel
theorem dX6_minister_4 : decode cX6_minister 4 = .ok (.iload_n 1, 1) := by decide +kernel
theorem dX6_minister_5 : decode cX6_minister 5 = .ok (.invokevirtual 95, 3) := by decide +kernel
theorem dX6_minister_8 : decode cX6_minister 8 = .ok (.ifCond .ne 5, 3) := by decide +kernel
theorem dX6_minister_11 : decode cX6_minister 11 = .ok (.iconst (-1), 1) := by decide +kernel
theorem dX6_minister_12 : decode cX6_minister 12 = .ok (.ireturn, 1) := by decide +kernel
theorem dX6_minister_13 : decode cX6_minister 13 = .ok (.iload_n 2, 1) := by decide +kernel
theorem dX6_minister_14 : decode cX6_minister 14 = .ok (.tableswitch 91 0 4 #[34, 44, 54, 64, 74], 34) := by decide +kernel
theorem dX6_minister_48 : decode cX6_minister 48 = .ok (.aload_n 0, 1) := by decide +kernel
theorem dX6_minister_49 : decode cX6_minister 49 = .ok (.getfield 26, 3) := by decide +kernel
theorem dX6_minister_52 : decode cX6_minister 52 = .ok (.getfield 99, 3) := by decide +kernel
theorem dX6_minister_55 : decode cX6_minister 55 = .ok (.iload_n 1, 1) := by decide +kernel
theorem dX6_minister_56 : decode cX6_minister 56 = .ok (.iaload, 1) := by decide +kernel
theorem dX6_minister_57 : decode cX6_minister 57 = .ok (.ireturn, 1) := by decide +kernel
theorem dX6_minister_58 : decode cX6_minister 58 = .ok (.aload_n 0, 1) := by decide +kernel
theorem dX6_minister_59 : decode cX6_minister 59 = .ok (.getfield 35, 3) := by decide +kernel
theorem dX6_minister_62 : decode cX6_minister 62 = .ok (.getfield 103, 3) := by decide +kernel
theorem dX6_minister_65 : decode cX6_minister 65 = .ok (.iload_n 1, 1) := by decide +kernel
theorem dX6_minister_66 : decode cX6_minister 66 = .ok (.iaload, 1) := by decide +kernel
theorem dX6_minister_67 : decode cX6_minister 67 = .ok (.ireturn, 1) := by decide +kernel
theorem dX6_minister_68 : decode cX6_minister 68 = .ok (.aload_n 0, 1) := by decide +kernel
theorem dX6_minister_69 : decode cX6_minister 69 = .ok (.getfield 35, 3) := by decide +kernel
theorem dX6_minister_72 : decode cX6_minister 72 = .ok (.getfield 106, 3) := by decide +kernel
theorem dX6_minister_75 : decode cX6_minister 75 = .ok (.iload_n 1, 1) := by decide +kernel
theorem dX6_minister_76 : decode cX6_minister 76 = .ok (.iaload, 1) := by decide +kernel
theorem dX6_minister_77 : decode cX6_minister 77 = .ok (.ireturn, 1) := by decide +kernel
theorem dX6_minister_78 : decode cX6_minister 78 = .ok (.aload_n 0, 1) := by decide +kernel
theorem dX6_minister_79 : decode cX6_minister 79 = .ok (.getfield 35, 3) := by decide +kernel
theorem dX6_minister_82 : decode cX6_minister 82 = .ok (.getfield 109, 3) := by decide +kernel
theorem dX6_minister_85 : decode cX6_minister 85 = .ok (.iload_n 1, 1) := by decide +kernel
theorem dX6_minister_86 : decode cX6_minister 86 = .ok (.iaload, 1) := by decide +kernel
theorem dX6_minister_87 : decode cX6_minister 87 = .ok (.ireturn, 1) := by decide +kernel
theorem dX6_minister_88 : decode cX6_minister 88 = .ok (.aload_n 0, 1) := by decide +kernel
theorem dX6_minister_89 : decode cX6_minister 89 = .ok (.getfield 35, 3) := by decide +kernel
theorem dX6_minister_92 : decode cX6_minister 92 = .ok (.iload_n 1, 1) := by decide +kernel
theorem dX6_minister_93 : decode cX6_minister 93 = .ok (.invokevirtual 112, 3) := by decide +kernel
theorem dX6_minister_96 : decode cX6_minister 96 = .ok (.ifCond .le 7, 3) := by decide +kernel
theorem dX6_minister_99 : decode cX6_minister 99 = .ok (.iconst 1, 1) := by decide +kernel
theorem dX6_minister_100 : decode cX6_minister 100 = .ok (.goto 4, 3) := by decide +kernel
theorem dX6_minister_103 : decode cX6_minister 103 = .ok (.iconst 0, 1) := by decide +kernel
theorem dX6_minister_104 : decode cX6_minister 104 = .ok (.ireturn, 1) := by decide +kernel
theorem dX6_minister_105 : decode cX6_minister 105 = .ok (.iconst (-1), 1) := by decide +kernel
theorem dX6_minister_106 : decode cX6_minister 106 = .ok (.ireturn, 1) := by decide +kernel
theorem dX6_step_0 : decode cX6_step 0 = .ok (.aload_n 0, 1) := by decide +kernel
theorem dX6_step_1 : decode cX6_step 1 = .ok (.getfield 26, 3) := by decide +kernel
theorem dX6_step_4 : decode cX6_step 4 = .ok (.iload_n 1, 1) := by decide +kernel
theorem dX6_step_5 : decode cX6_step 5 = .ok (.invokevirtual 116, 3) := by decide +kernel
theorem dX6_step_8 : decode cX6_step 8 = .ok (.ifCond .ne 5, 3) := by decide +kernel
theorem dX6_step_11 : decode cX6_step 11 = .ok (.iconst (-1), 1) := by decide +kernel
theorem dX6_step_12 : decode cX6_step 12 = .ok (.ireturn, 1) := by decide +kernel
theorem dX6_step_13 : decode cX6_step 13 = .ok (.iload_n 2, 1) := by decide +kernel
theorem dX6_step_14 : decode cX6_step 14 = .ok (.tableswitch 83 0 3 #[30, 40, 57, 74], 30) := by decide +kernel
theorem dX6_step_44 : decode cX6_step 44 = .ok (.aload_n 0, 1) := by decide +kernel
theorem dX6_step_45 : decode cX6_step 45 = .ok (.getfield 35, 3) := by decide +kernel
theorem dX6_step_48 : decode cX6_step 48 = .ok (.getfield 119, 3) := by decide +kernel
theorem dX6_step_51 : decode cX6_step 51 = .ok (.iload_n 1, 1) := by decide +kernel
theorem dX6_step_52 : decode cX6_step 52 = .ok (.iaload, 1) := by decide +kernel
theorem dX6_step_53 : decode cX6_step 53 = .ok (.ireturn, 1) := by decide +kernel
theorem dX6_step_54 : decode cX6_step 54 = .ok (.aload_n 0, 1) := by decide +kernel
theorem dX6_step_55 : decode cX6_step 55 = .ok (.getfield 26, 3) := by decide +kernel
theorem dX6_step_58 : decode cX6_step 58 = .ok (.iload_n 1, 1) := by decide +kernel
theorem dX6_step_59 : decode cX6_step 59 = .ok (.invokevirtual 122, 3) := by decide +kernel
theorem dX6_step_62 : decode cX6_step 62 = .ok (.ifCond .eq 7, 3) := by decide +kernel
theorem dX6_step_65 : decode cX6_step 65 = .ok (.iconst 1, 1) := by decide +kernel
theorem dX6_step_66 : decode cX6_step 66 = .ok (.goto 4, 3) := by decide +kernel
theorem dX6_step_69 : decode cX6_step 69 = .ok (.iconst 0, 1) := by decide +kernel
theorem dX6_step_70 : decode cX6_step 70 = .ok (.ireturn, 1) := by decide +kernel
theorem dX6_step_71 : decode cX6_step 71 = .ok (.aload_n 0, 1) := by decide +kernel
theorem dX6_step_72 : decode cX6_step 72 = .ok (.getfield 26, 3) := by decide +kernel
theorem dX6_step_75 : decode cX6_step 75 = .ok (.iload_n 1, 1) := by decide +kernel
theorem dX6_step_76 : decode cX6_step 76 = .ok (.invokevirtual 125, 3) := by decide +kernel
theorem dX6_step_79 : decode cX6_step 79 = .ok (.ifCond .eq 7, 3) := by decide +kernel
theorem dX6_step_82 : decode cX6_step 82 = .ok (.iconst 1, 1) := by decide +kernel
theorem dX6_step_83 : decode cX6_step 83 = .ok (.goto 4, 3) := by decide +kernel
theorem dX6_step_86 : decode cX6_step 86 = .ok (.iconst 0, 1) := by decide +kernel
theorem dX6_step_87 : decode cX6_step 87 = .ok (.ireturn, 1) := by decide +kernel
theorem dX6_step_88 : decode cX6_step 88 = .ok (.aload_n 0, 1) := by decide +kernel
theorem dX6_step_89 : decode cX6_step 89 = .ok (.getfield 35, 3) := by decide +kernel
theorem dX6_step_92 : decode cX6_step 92 = .ok (.iload_n 1, 1) := by decide +kernel
theorem dX6_step_93 : decode cX6_step 93 = .ok (.invokevirtual 128, 3) := by decide +kernel
theorem dX6_step_96 : decode cX6_step 96 = .ok (.ireturn, 1) := by decide +kernel
theorem dX6_step_97 : decode cX6_step 97 = .ok (.iconst (-1), 1) := by decide +kernel
theorem dX6_step_98 : decode cX6_step 98 = .ok (.ireturn, 1) := by decide +kernel
theorem dX6_pass_0 : decode cX6_pass 0 = .ok (.iload_n 1, 1) := by decide +kernel
theorem dX6_pass_1 : decode cX6_pass 1 = .ok (.iconst 1, 1) := by decide +kernel
theorem dX6_pass_2 : decode cX6_pass 2 = .ok (.bipush 40, 2) := by decide +kernel
theorem dX6_pass_4 : decode cX6_pass 4 = .ok (.invokestatic 84, 3) := by decide +kernel
theorem dX6_pass_7 : decode cX6_pass 7 = .ok (.ifCond .ne 5, 3) := by decide +kernel
theorem dX6_pass_10 : decode cX6_pass 10 = .ok (.iconst (-1), 1) := by decide +kernel
theorem dX6_pass_11 : decode cX6_pass 11 = .ok (.ireturn, 1) := by decide +kernel
theorem dX6_pass_12 : decode cX6_pass 12 = .ok (.aload_n 0, 1) := by decide +kernel
theorem dX6_pass_13 : decode cX6_pass 13 = .ok (.getfield 35, 3) := by decide +kernel
theorem dX6_pass_16 : decode cX6_pass 16 = .ok (.getfield 131, 3) := by decide +kernel
theorem dX6_pass_19 : decode cX6_pass 19 = .ok (.iload_n 1, 1) := by decide +kernel
theorem dX6_pass_20 : decode cX6_pass 20 = .ok (.iadd, 1) := by decide +kernel
theorem dX6_pass_21 : decode cX6_pass 21 = .ok (.sipush 999, 3) := by decide +kernel
theorem dX6_pass_24 : decode cX6_pass 24 = .ok (.if_icmp .le 6, 3) := by decide +kernel
theorem dX6_pass_27 : decode cX6_pass 27 = .ok (.bipush (-2), 2) := by decide +kernel
theorem dX6_pass_29 : decode cX6_pass 29 = .ok (.ireturn, 1) := by decide +kernel
theorem dX6_pass_30 : decode cX6_pass 30 = .ok (.aload_n 0, 1) := by decide +kernel
theorem dX6_pass_31 : decode cX6_pass 31 = .ok (.getfield 47, 3) := by decide +kernel
theorem dX6_pass_34 : decode cX6_pass 34 = .ok (.aload_n 0, 1) := by decide +kernel
theorem dX6_pass_35 : decode cX6_pass 35 = .ok (.getfield 35, 3) := by decide +kernel
theorem dX6_pass_38 : decode cX6_pass 38 = .ok (.invokevirtual 134, 3) := by decide +kernel
theorem dX6_pass_41 : decode cX6_pass 41 = .ok (.aload_n 0, 1) := by decide +kernel
theorem dX6_pass_42 : decode cX6_pass 42 = .ok (.getfield 35, 3) := by decide +kernel
theorem dX6_pass_45 : decode cX6_pass 45 = .ok (.iload_n 1, 1) := by decide +kernel
theorem dX6_pass_46 : decode cX6_pass 46 = .ok (.invokevirtual 138, 3) := by decide +kernel
theorem dX6_pass_49 : decode cX6_pass 49 = .ok (.aload_n 0, 1) := by decide +kernel
theorem dX6_pass_50 : decode cX6_pass 50 = .ok (.getfield 35, 3) := by decide +kernel
theorem dX6_pass_53 : decode cX6_pass 53 = .ok (.getfield 131, 3) := by decide +kernel
theorem dX6_pass_56 : decode cX6_pass 56 = .ok (.ireturn, 1) := by decide +kernel
theorem dX6_wax_0 : decode cX6_wax 0 = .ok (.aload_n 0, 1) := by decide +kernel
theorem dX6_wax_1 : decode cX6_wax 1 = .ok (.getfield 26, 3) := by decide +kernel
theorem dX6_wax_4 : decode cX6_wax 4 = .ok (.iload_n 1, 1) := by decide +kernel
theorem dX6_wax_5 : decode cX6_wax 5 = .ok (.invokevirtual 116, 3) := by decide +kernel
theorem dX6_wax_8 : decode cX6_wax 8 = .ok (.ifCond .ne 5, 3) := by decide +kernel
theorem dX6_wax_11 : decode cX6_wax 11 = .ok (.iconst (-1), 1) := by decide +kernel
theorem dX6_wax_12 : decode cX6_wax 12 = .ok (.ireturn, 1) := by decide +kernel
theorem dX6_wax_13 : decode cX6_wax 13 = .ok (.aload_n 0, 1) := by decide +kernel
theorem dX6_wax_14 : decode cX6_wax 14 = .ok (.getfield 35, 3) := by decide +kernel
theorem dX6_wax_17 : decode cX6_wax 17 = .ok (.getfield 119, 3) := by decide +kernel
theorem dX6_wax_20 : decode cX6_wax 20 = .ok (.iload_n 1, 1) := by decide +kernel
theorem dX6_wax_21 : decode cX6_wax 21 = .ok (.iaload, 1) := by decide +kernel
theorem dX6_wax_22 : decode cX6_wax 22 = .ok (.bipush 9, 2) := by decide +kernel
theorem dX6_wax_24 : decode cX6_wax 24 = .ok (.if_icmp .ge 14, 3) := by decide +kernel
theorem dX6_wax_27 : decode cX6_wax 27 = .ok (.aload_n 0, 1) := by decide +kernel
theorem dX6_wax_28 : decode cX6_wax 28 = .ok (.getfield 35, 3) := by decide +kernel
theorem dX6_wax_31 : decode cX6_wax 31 = .ok (.getfield 142, 3) := by decide +kernel
theorem dX6_wax_34 : decode cX6_wax 34 = .ok (.iconst 1, 1) := by decide +kernel
theorem dX6_wax_35 : decode cX6_wax 35 = .ok (.if_icmp .ge 6, 3) := by decide +kernel
theorem dX6_wax_38 : decode cX6_wax 38 = .ok (.bipush (-2), 2) := by decide +kernel
theorem dX6_wax_40 : decode cX6_wax 40 = .ok (.ireturn, 1) := by decide +kernel
theorem dX6_wax_41 : decode cX6_wax 41 = .ok (.aload_n 0, 1) := by decide +kernel
theorem dX6_wax_42 : decode cX6_wax 42 = .ok (.getfield 47, 3) := by decide +kernel
theorem dX6_wax_45 : decode cX6_wax 45 = .ok (.aload_n 0, 1) := by decide +kernel
theorem dX6_wax_46 : decode cX6_wax 46 = .ok (.getfield 35, 3) := by decide +kernel
theorem dX6_wax_49 : decode cX6_wax 49 = .ok (.invokevirtual 134, 3) := by decide +kernel
theorem dX6_wax_52 : decode cX6_wax 52 = .ok (.aload_n 0, 1) := by decide +kernel
theorem dX6_wax_53 : decode cX6_wax 53 = .ok (.getfield 35, 3) := by decide +kernel
theorem dX6_wax_56 : decode cX6_wax 56 = .ok (.dup, 1) := by decide +kernel
theorem dX6_wax_57 : decode cX6_wax 57 = .ok (.getfield 142, 3) := by decide +kernel
theorem dX6_wax_60 : decode cX6_wax 60 = .ok (.iconst 1, 1) := by decide +kernel
theorem dX6_wax_61 : decode cX6_wax 61 = .ok (.isub, 1) := by decide +kernel
theorem dX6_wax_62 : decode cX6_wax 62 = .ok (.putfield 142, 3) := by decide +kernel
theorem dX6_wax_65 : decode cX6_wax 65 = .ok (.aload_n 0, 1) := by decide +kernel
theorem dX6_wax_66 : decode cX6_wax 66 = .ok (.getfield 35, 3) := by decide +kernel
theorem dX6_wax_69 : decode cX6_wax 69 = .ok (.iload_n 1, 1) := by decide +kernel
theorem dX6_wax_70 : decode cX6_wax 70 = .ok (.iconst 1, 1) := by decide +kernel
theorem dX6_wax_71 : decode cX6_wax 71 = .ok (.invokevirtual 145, 3) := by decide +kernel
theorem dX6_wax_74 : decode cX6_wax 74 = .ok (.aload_n 0, 1) := by decide +kernel
theorem dX6_wax_75 : decode cX6_wax 75 = .ok (.getfield 35, 3) := by decide +kernel
theorem dX6_wax_78 : decode cX6_wax 78 = .ok (.getfield 119, 3) := by decide +kernel
theorem dX6_wax_81 : decode cX6_wax 81 = .ok (.iload_n 1, 1) := by decide +kernel
theorem dX6_wax_82 : decode cX6_wax 82 = .ok (.iaload, 1) := by decide +kernel
theorem dX6_wax_83 : decode cX6_wax 83 = .ok (.ireturn, 1) := by decide +kernel
theorem dX6_sand_0 : decode cX6_sand 0 = .ok (.aload_n 0, 1) := by decide +kernel
theorem dX6_sand_1 : decode cX6_sand 1 = .ok (.getfield 26, 3) := by decide +kernel
theorem dX6_sand_4 : decode cX6_sand 4 = .ok (.iload_n 1, 1) := by decide +kernel
theorem dX6_sand_5 : decode cX6_sand 5 = .ok (.invokevirtual 116, 3) := by decide +kernel
theorem dX6_sand_8 : decode cX6_sand 8 = .ok (.ifCond .ne 5, 3) := by decide +kernel
theorem dX6_sand_11 : decode cX6_sand 11 = .ok (.iconst (-1), 1) := by decide +kernel
theorem dX6_sand_12 : decode cX6_sand 12 = .ok (.ireturn, 1) := by decide +kernel
theorem dX6_sand_13 : decode cX6_sand 13 = .ok (.aload_n 0, 1) := by decide +kernel
theorem dX6_sand_14 : decode cX6_sand 14 = .ok (.getfield 35, 3) := by decide +kernel
theorem dX6_sand_17 : decode cX6_sand 17 = .ok (.getfield 119, 3) := by decide +kernel
theorem dX6_sand_20 : decode cX6_sand 20 = .ok (.iload_n 1, 1) := by decide +kernel
theorem dX6_sand_21 : decode cX6_sand 21 = .ok (.iaload, 1) := by decide +kernel
theorem dX6_sand_22 : decode cX6_sand 22 = .ok (.ifCond .eq 14, 3) := by decide +kernel
theorem dX6_sand_25 : decode cX6_sand 25 = .ok (.aload_n 0, 1) := by decide +kernel
theorem dX6_sand_26 : decode cX6_sand 26 = .ok (.getfield 35, 3) := by decide +kernel
theorem dX6_sand_29 : decode cX6_sand 29 = .ok (.getfield 142, 3) := by decide +kernel
theorem dX6_sand_32 : decode cX6_sand 32 = .ok (.iconst 2, 1) := by decide +kernel
theorem dX6_sand_33 : decode cX6_sand 33 = .ok (.if_icmp .ge 6, 3) := by decide +kernel
theorem dX6_sand_36 : decode cX6_sand 36 = .ok (.bipush (-2), 2) := by decide +kernel
theorem dX6_sand_38 : decode cX6_sand 38 = .ok (.ireturn, 1) := by decide +kernel
theorem dX6_sand_39 : decode cX6_sand 39 = .ok (.aload_n 0, 1) := by decide +kernel
theorem dX6_sand_40 : decode cX6_sand 40 = .ok (.getfield 47, 3) := by decide +kernel
theorem dX6_sand_43 : decode cX6_sand 43 = .ok (.aload_n 0, 1) := by decide +kernel
theorem dX6_sand_44 : decode cX6_sand 44 = .ok (.getfield 35, 3) := by decide +kernel
theorem dX6_sand_47 : decode cX6_sand 47 = .ok (.invokevirtual 134, 3) := by decide +kernel
theorem dX6_sand_50 : decode cX6_sand 50 = .ok (.aload_n 0, 1) := by decide +kernel
theorem dX6_sand_51 : decode cX6_sand 51 = .ok (.getfield 35, 3) := by decide +kernel
theorem dX6_sand_54 : decode cX6_sand 54 = .ok (.dup, 1) := by decide +kernel
theorem dX6_sand_55 : decode cX6_sand 55 = .ok (.getfield 142, 3) := by decide +kernel
theorem dX6_sand_58 : decode cX6_sand 58 = .ok (.iconst 2, 1) := by decide +kernel
theorem dX6_sand_59 : decode cX6_sand 59 = .ok (.isub, 1) := by decide +kernel
theorem dX6_sand_60 : decode cX6_sand 60 = .ok (.putfield 142, 3) := by decide +kernel
theorem dX6_sand_63 : decode cX6_sand 63 = .ok (.aload_n 0, 1) := by decide +kernel
theorem dX6_sand_64 : decode cX6_sand 64 = .ok (.getfield 35, 3) := by decide +kernel
theorem dX6_sand_67 : decode cX6_sand 67 = .ok (.iload_n 1, 1) := by decide +kernel
theorem dX6_sand_68 : decode cX6_sand 68 = .ok (.bipush (-2), 2) := by decide +kernel
theorem dX6_sand_70 : decode cX6_sand 70 = .ok (.invokevirtual 145, 3) := by decide +kernel
theorem dX6_sand_73 : decode cX6_sand 73 = .ok (.aload_n 0, 1) := by decide +kernel
theorem dX6_sand_74 : decode cX6_sand 74 = .ok (.getfield 35, 3) := by decide +kernel
theorem dX6_sand_77 : decode cX6_sand 77 = .ok (.getfield 119, 3) := by decide +kernel
theorem dX6_sand_80 : decode cX6_sand 80 = .ok (.iload_n 1, 1) := by decide +kernel
theorem dX6_sand_81 : decode cX6_sand 81 = .ok (.iaload, 1) := by decide +kernel
theorem dX6_sand_82 : decode cX6_sand 82 = .ok (.ireturn, 1) := by decide +kernel
theorem dX6_help_0 : decode cX6_help 0 = .ok (.aload_n 0, 1) := by decide +kernel
theorem dX6_help_1 : decode cX6_help 1 = .ok (.getfield 26, 3) := by decide +kernel
theorem dX6_help_4 : decode cX6_help 4 = .ok (.iload_n 1, 1) := by decide +kernel
theorem dX6_help_5 : decode cX6_help 5 = .ok (.invokevirtual 95, 3) := by decide +kernel
theorem dX6_help_8 : decode cX6_help 8 = .ok (.ifCond .ne 5, 3) := by decide +kernel
theorem dX6_help_11 : decode cX6_help 11 = .ok (.iconst (-1), 1) := by decide +kernel
theorem dX6_help_12 : decode cX6_help 12 = .ok (.ireturn, 1) := by decide +kernel
theorem dX6_help_13 : decode cX6_help 13 = .ok (.aload_n 0, 1) := by decide +kernel
theorem dX6_help_14 : decode cX6_help 14 = .ok (.getfield 35, 3) := by decide +kernel
theorem dX6_help_17 : decode cX6_help 17 = .ok (.getfield 103, 3) := by decide +kernel
theorem dX6_help_20 : decode cX6_help 20 = .ok (.iload_n 1, 1) := by decide +kernel
theorem dX6_help_21 : decode cX6_help 21 = .ok (.iaload, 1) := by decide +kernel
theorem dX6_help_22 : decode cX6_help 22 = .ok (.istore_n 2, 1) := by decide +kernel
theorem dX6_help_23 : decode cX6_help 23 = .ok (.iload_n 2, 1) := by decide +kernel
theorem dX6_help_24 : decode cX6_help 24 = .ok (.ifCond .ne 6, 3) := by decide +kernel
theorem dX6_help_27 : decode cX6_help 27 = .ok (.bipush (-2), 2) := by decide +kernel
theorem dX6_help_29 : decode cX6_help 29 = .ok (.ireturn, 1) := by decide +kernel
theorem dX6_help_30 : decode cX6_help 30 = .ok (.aload_n 0, 1) := by decide +kernel
theorem dX6_help_31 : decode cX6_help 31 = .ok (.getfield 47, 3) := by decide +kernel
theorem dX6_help_34 : decode cX6_help 34 = .ok (.aload_n 0, 1) := by decide +kernel
theorem dX6_help_35 : decode cX6_help 35 = .ok (.getfield 35, 3) := by decide +kernel
theorem dX6_help_38 : decode cX6_help 38 = .ok (.invokevirtual 134, 3) := by decide +kernel
theorem dX6_help_41 : decode cX6_help 41 = .ok (.aload_n 0, 1) := by decide +kernel
theorem dX6_help_42 : decode cX6_help 42 = .ok (.getfield 35, 3) := by decide +kernel
theorem dX6_help_45 : decode cX6_help 45 = .ok (.getfield 103, 3) := by decide +kernel
theorem dX6_help_48 : decode cX6_help 48 = .ok (.iload_n 1, 1) := by decide +kernel
theorem dX6_help_49 : decode cX6_help 49 = .ok (.iconst 0, 1) := by decide +kernel
theorem dX6_help_50 : decode cX6_help 50 = .ok (.iastore, 1) := by decide +kernel
theorem dX6_help_51 : decode cX6_help 51 = .ok (.iload_n 2, 1) := by decide +kernel
theorem dX6_help_52 : decode cX6_help 52 = .ok (.ireturn, 1) := by decide +kernel
theorem dX6_undo_0 : decode cX6_undo 0 = .ok (.aload_n 0, 1) := by decide +kernel
theorem dX6_undo_1 : decode cX6_undo 1 = .ok (.getfield 47, 3) := by decide +kernel
theorem dX6_undo_4 : decode cX6_undo 4 = .ok (.aload_n 0, 1) := by decide +kernel
theorem dX6_undo_5 : decode cX6_undo 5 = .ok (.getfield 35, 3) := by decide +kernel
theorem dX6_undo_8 : decode cX6_undo 8 = .ok (.invokevirtual 149, 3) := by decide +kernel
theorem dX6_undo_11 : decode cX6_undo 11 = .ok (.ifCond .eq 13, 3) := by decide +kernel
theorem dX6_undo_14 : decode cX6_undo 14 = .ok (.aload_n 0, 1) := by decide +kernel
theorem dX6_undo_15 : decode cX6_undo 15 = .ok (.getfield 47, 3) := by decide +kernel
theorem dX6_undo_18 : decode cX6_undo 18 = .ok (.getfield 153, 3) := by decide +kernel
theorem dX6_undo_21 : decode cX6_undo 21 = .ok (.goto 5, 3) := by decide +kernel
theorem dX6_undo_24 : decode cX6_undo 24 = .ok (.bipush (-2), 2) := by decide +kernel
theorem dX6_undo_26 : decode cX6_undo 26 = .ok (.ireturn, 1) := by decide +kernel
theorem dX6_governs_0 : decode cX6_governs 0 = .ok (.aload_n 0, 1) := by decide +kernel
theorem dX6_governs_1 : decode cX6_governs 1 = .ok (.getfield 35, 3) := by decide +kernel
theorem dX6_governs_4 : decode cX6_governs 4 = .ok (.invokevirtual 156, 3) := by decide +kernel
theorem dX6_governs_7 : decode cX6_governs 7 = .ok (.ireturn, 1) := by decide +kernel
theorem dX6_behind_0 : decode cX6_behind 0 = .ok (.iload_n 1, 1) := by decide +kernel
theorem dX6_behind_1 : decode cX6_behind 1 = .ok (.iconst 0, 1) := by decide +kernel
theorem dX6_behind_2 : decode cX6_behind 2 = .ok (.bipush 40, 2) := by decide +kernel
theorem dX6_behind_4 : decode cX6_behind 4 = .ok (.invokestatic 84, 3) := by decide +kernel
theorem dX6_behind_7 : decode cX6_behind 7 = .ok (.ifCond .eq 23, 3) := by decide +kernel
theorem dX6_behind_10 : decode cX6_behind 10 = .ok (.aload_n 0, 1) := by decide +kernel
theorem dX6_behind_11 : decode cX6_behind 11 = .ok (.getfield 26, 3) := by decide +kernel
theorem dX6_behind_14 : decode cX6_behind 14 = .ok (.iload_n 2, 1) := by decide +kernel
theorem dX6_behind_15 : decode cX6_behind 15 = .ok (.invokevirtual 95, 3) := by decide +kernel
theorem dX6_behind_18 : decode cX6_behind 18 = .ok (.ifCond .eq 12, 3) := by decide +kernel
theorem dX6_behind_21 : decode cX6_behind 21 = .ok (.iload_n 3, 1) := by decide +kernel
theorem dX6_behind_22 : decode cX6_behind 22 = .ok (.iconst 0, 1) := by decide +kernel
theorem dX6_behind_23 : decode cX6_behind 23 = .ok (.iconst 2, 1) := by decide +kernel
theorem dX6_behind_24 : decode cX6_behind 24 = .ok (.invokestatic 84, 3) := by decide +kernel
theorem dX6_behind_27 : decode cX6_behind 27 = .ok (.ifCond .ne 5, 3) := by decide +kernel
theorem dX6_behind_30 : decode cX6_behind 30 = .ok (.iconst (-1), 1) := by decide +kernel
theorem dX6_behind_31 : decode cX6_behind 31 = .ok (.ireturn, 1) := by decide +kernel
theorem dX6_behind_32 : decode cX6_behind 32 = .ok (.aload_n 0, 1) := by decide +kernel
theorem dX6_behind_33 : decode cX6_behind 33 = .ok (.getfield 39, 3) := by decide +kernel
theorem dX6_behind_36 : decode cX6_behind 36 = .ok (.aload_n 0, 1) := by decide +kernel
theorem dX6_behind_37 : decode cX6_behind 37 = .ok (.getfield 35, 3) := by decide +kernel
theorem dX6_behind_40 : decode cX6_behind 40 = .ok (.invokevirtual 159, 3) := by decide +kernel
theorem dX6_behind_43 : decode cX6_behind 43 = .ok (.aload_n 0, 1) := by decide +kernel
theorem dX6_behind_44 : decode cX6_behind 44 = .ok (.getfield 39, 3) := by decide +kernel
theorem dX6_behind_47 : decode cX6_behind 47 = .ok (.iload_n 1, 1) := by decide +kernel
theorem dX6_behind_48 : decode cX6_behind 48 = .ok (.invokevirtual 138, 3) := by decide +kernel
theorem dX6_behind_51 : decode cX6_behind 51 = .ok (.iload_n 3, 1) := by decide +kernel
theorem dX6_behind_52 : decode cX6_behind 52 = .ok (.lookupswitch 46 #[(0, 28), (1, 38)], 28) := by decide +kernel
theorem dX6_behind_80 : decode cX6_behind 80 = .ok (.aload_n 0, 1) := by decide +kernel
theorem dX6_behind_81 : decode cX6_behind 81 = .ok (.getfield 39, 3) := by decide +kernel
theorem dX6_behind_84 : decode cX6_behind 84 = .ok (.getfield 103, 3) := by decide +kernel
theorem dX6_behind_87 : decode cX6_behind 87 = .ok (.iload_n 2, 1) := by decide +kernel
theorem dX6_behind_88 : decode cX6_behind 88 = .ok (.iaload, 1) := by decide +kernel
theorem dX6_behind_89 : decode cX6_behind 89 = .ok (.ireturn, 1) := by decide +kernel
theorem dX6_behind_90 : decode cX6_behind 90 = .ok (.aload_n 0, 1) := by decide +kernel
theorem dX6_behind_91 : decode cX6_behind 91 = .ok (.getfield 39, 3) := by decide +kernel
theorem dX6_behind_94 : decode cX6_behind 94 = .ok (.invokevirtual 156, 3) := by decide +kernel
theorem dX6_behind_97 : decode cX6_behind 97 = .ok (.ireturn, 1) := by decide +kernel
theorem dX6_behind_98 : decode cX6_behind 98 = .ok (.aload_n 0, 1) := by decide +kernel
theorem dX6_behind_99 : decode cX6_behind 99 = .ok (.getfield 39, 3) := by decide +kernel
theorem dX6_behind_102 : decode cX6_behind 102 = .ok (.getfield 109, 3) := by decide +kernel
theorem dX6_behind_105 : decode cX6_behind 105 = .ok (.iload_n 2, 1) := by decide +kernel
theorem dX6_behind_106 : decode cX6_behind 106 = .ok (.iaload, 1) := by decide +kernel
theorem dX6_behind_107 : decode cX6_behind 107 = .ok (.ireturn, 1) := by decide +kernel
theorem dX6_slide_0 : decode cX6_slide 0 = .ok (.aload_n 0, 1) := by decide +kernel
theorem dX6_slide_1 : decode cX6_slide 1 = .ok (.getfield 26, 3) := by decide +kernel
theorem dX6_slide_4 : decode cX6_slide 4 = .ok (.iload_n 1, 1) := by decide +kernel
theorem dX6_slide_5 : decode cX6_slide 5 = .ok (.invokevirtual 95, 3) := by decide +kernel
theorem dX6_slide_8 : decode cX6_slide 8 = .ok (.ifCond .ne 5, 3) := by decide +kernel
theorem dX6_slide_11 : decode cX6_slide 11 = .ok (.iconst (-1), 1) := by decide +kernel
theorem dX6_slide_12 : decode cX6_slide 12 = .ok (.ireturn, 1) := by decide +kernel
theorem dX6_slide_13 : decode cX6_slide 13 = .ok (.aload_n 0, 1) := by decide +kernel
theorem dX6_slide_14 : decode cX6_slide 14 = .ok (.getfield 39, 3) := by decide +kernel
theorem dX6_slide_17 : decode cX6_slide 17 = .ok (.aload_n 0, 1) := by decide +kernel
theorem dX6_slide_18 : decode cX6_slide 18 = .ok (.getfield 35, 3) := by decide +kernel
theorem dX6_slide_21 : decode cX6_slide 21 = .ok (.invokevirtual 159, 3) := by decide +kernel
theorem dX6_slide_24 : decode cX6_slide 24 = .ok (.aload_n 0, 1) := by decide +kernel
theorem dX6_slide_25 : decode cX6_slide 25 = .ok (.getfield 39, 3) := by decide +kernel
theorem dX6_slide_28 : decode cX6_slide 28 = .ok (.invokevirtual 162, 3) := by decide +kernel
theorem dX6_slide_31 : decode cX6_slide 31 = .ok (.aload_n 0, 1) := by decide +kernel
theorem dX6_slide_32 : decode cX6_slide 32 = .ok (.getfield 39, 3) := by decide +kernel
theorem dX6_slide_35 : decode cX6_slide 35 = .ok (.getfield 103, 3) := by decide +kernel
theorem dX6_slide_38 : decode cX6_slide 38 = .ok (.iload_n 1, 1) := by decide +kernel
theorem dX6_slide_39 : decode cX6_slide 39 = .ok (.iaload, 1) := by decide +kernel
theorem dX6_slide_40 : decode cX6_slide 40 = .ok (.ireturn, 1) := by decide +kernel
theorem dX6_top_0 : decode cX6_top 0 = .ok (.aload_n 0, 1) := by decide +kernel
theorem dX6_top_1 : decode cX6_top 1 = .ok (.getfield 26, 3) := by decide +kernel
theorem dX6_top_4 : decode cX6_top 4 = .ok (.iload_n 1, 1) := by decide +kernel
theorem dX6_top_5 : decode cX6_top 5 = .ok (.invokevirtual 95, 3) := by decide +kernel
theorem dX6_top_8 : decode cX6_top 8 = .ok (.ifCond .ne 5, 3) := by decide +kernel
theorem dX6_top_11 : decode cX6_top 11 = .ok (.iconst (-1), 1) := by decide +kernel
theorem dX6_top_12 : decode cX6_top 12 = .ok (.ireturn, 1) := by decide +kernel
theorem dX6_top_13 : decode cX6_top 13 = .ok (.aload_n 0, 1) := by decide +kernel
theorem dX6_top_14 : decode cX6_top 14 = .ok (.getfield 39, 3) := by decide +kernel
theorem dX6_top_17 : decode cX6_top 17 = .ok (.aload_n 0, 1) := by decide +kernel
theorem dX6_top_18 : decode cX6_top 18 = .ok (.getfield 35, 3) := by decide +kernel
theorem dX6_top_21 : decode cX6_top 21 = .ok (.invokevirtual 159, 3) := by decide +kernel
theorem dX6_top_24 : decode cX6_top 24 = .ok (.iconst 0, 1) := by decide +kernel
theorem dX6_top_25 : decode cX6_top 25 = .ok (.istore_n 2, 1) := by decide +kernel
theorem dX6_top_26 : decode cX6_top 26 = .ok (.iload_n 2, 1) := by decide +kernel
theorem dX6_top_27 : decode cX6_top 27 = .ok (.bipush 40, 2) := by decide +kernel
theorem dX6_top_29 : decode cX6_top 29 = .ok (.if_icmp .gt 37, 3) := by decide +kernel
theorem dX6_top_32 : decode cX6_top 32 = .ok (.aload_n 0, 1) := by decide +kernel
theorem dX6_top_33 : decode cX6_top 33 = .ok (.getfield 26, 3) := by decide +kernel
theorem dX6_top_36 : decode cX6_top 36 = .ok (.aload_n 0, 1) := by decide +kernel
theorem dX6_top_37 : decode cX6_top 37 = .ok (.getfield 39, 3) := by decide +kernel
theorem dX6_top_40 : decode cX6_top 40 = .ok (.getfield 103, 3) := by decide +kernel
theorem dX6_top_43 : decode cX6_top 43 = .ok (.iload_n 1, 1) := by decide +kernel
theorem dX6_top_44 : decode cX6_top 44 = .ok (.iaload, 1) := by decide +kernel
theorem dX6_top_45 : decode cX6_top 45 = .ok (.invokevirtual 165, 3) := by decide +kernel
theorem dX6_top_48 : decode cX6_top 48 = .ok (.ifCond .eq 5, 3) := by decide +kernel
theorem dX6_top_51 : decode cX6_top 51 = .ok (.iload_n 2, 1) := by decide +kernel
theorem dX6_top_52 : decode cX6_top 52 = .ok (.ireturn, 1) := by decide +kernel
theorem dX6_top_53 : decode cX6_top 53 = .ok (.aload_n 0, 1) := by decide +kernel
theorem dX6_top_54 : decode cX6_top 54 = .ok (.getfield 39, 3) := by decide +kernel
theorem dX6_top_57 : decode cX6_top 57 = .ok (.invokevirtual 162, 3) := by decide +kernel
theorem dX6_top_60 : decode cX6_top 60 = .ok (.iinc 2 1, 3) := by decide +kernel
theorem dX6_top_63 : decode cX6_top 63 = .ok (.goto (-37), 3) := by decide +kernel
theorem dX6_top_66 : decode cX6_top 66 = .ok (.bipush (-4), 2) := by decide +kernel
theorem dX6_top_68 : decode cX6_top 68 = .ok (.ireturn, 1) := by decide +kernel
theorem dX6_topple_0 : decode cX6_topple 0 = .ok (.aload_n 0, 1) := by decide +kernel
theorem dX6_topple_1 : decode cX6_topple 1 = .ok (.getfield 26, 3) := by decide +kernel
theorem dX6_topple_4 : decode cX6_topple 4 = .ok (.iload_n 1, 1) := by decide +kernel
theorem dX6_topple_5 : decode cX6_topple 5 = .ok (.invokevirtual 95, 3) := by decide +kernel
theorem dX6_topple_8 : decode cX6_topple 8 = .ok (.ifCond .ne 5, 3) := by decide +kernel
theorem dX6_topple_11 : decode cX6_topple 11 = .ok (.iconst (-1), 1) := by decide +kernel
theorem dX6_topple_12 : decode cX6_topple 12 = .ok (.ireturn, 1) := by decide +kernel
theorem dX6_topple_13 : decode cX6_topple 13 = .ok (.aload_n 0, 1) := by decide +kernel
theorem dX6_topple_14 : decode cX6_topple 14 = .ok (.getfield 35, 3) := by decide +kernel
theorem dX6_topple_17 : decode cX6_topple 17 = .ok (.getfield 103, 3) := by decide +kernel
theorem dX6_topple_20 : decode cX6_topple 20 = .ok (.iload_n 1, 1) := by decide +kernel
theorem dX6_topple_21 : decode cX6_topple 21 = .ok (.iaload, 1) := by decide +kernel
theorem dX6_topple_22 : decode cX6_topple 22 = .ok (.istore_n 2, 1) := by decide +kernel
theorem dX6_topple_23 : decode cX6_topple 23 = .ok (.aload_n 0, 1) := by decide +kernel
theorem dX6_topple_24 : decode cX6_topple 24 = .ok (.getfield 26, 3) := by decide +kernel
theorem dX6_topple_27 : decode cX6_topple 27 = .ok (.iload_n 2, 1) := by decide +kernel
theorem dX6_topple_28 : decode cX6_topple 28 = .ok (.invokevirtual 116, 3) := by decide +kernel
theorem dX6_topple_31 : decode cX6_topple 31 = .ok (.ifCond .ne 6, 3) := by decide +kernel
theorem dX6_topple_34 : decode cX6_topple 34 = .ok (.bipush (-4), 2) := by decide +kernel
theorem dX6_topple_36 : decode cX6_topple 36 = .ok (.ireturn, 1) := by decide +kernel
theorem dX6_topple_37 : decode cX6_topple 37 = .ok (.iconst 0, 1) := by decide +kernel
theorem dX6_topple_38 : decode cX6_topple 38 = .ok (.istore_n 3, 1) := by decide +kernel
theorem dX6_topple_39 : decode cX6_topple 39 = .ok (.aload_n 0, 1) := by decide +kernel
theorem dX6_topple_40 : decode cX6_topple 40 = .ok (.getfield 35, 3) := by decide +kernel
theorem dX6_topple_43 : decode cX6_topple 43 = .ok (.getfield 119, 3) := by decide +kernel
theorem dX6_topple_46 : decode cX6_topple 46 = .ok (.iload_n 2, 1) := by decide +kernel
theorem dX6_topple_47 : decode cX6_topple 47 = .ok (.iaload, 1) := by decide +kernel
theorem dX6_topple_48 : decode cX6_topple 48 = .ok (.iload_n 3, 1) := by decide +kernel
theorem dX6_topple_49 : decode cX6_topple 49 = .ok (.iadd, 1) := by decide +kernel
theorem dX6_topple_50 : decode cX6_topple 50 = .ok (.bipush 9, 2) := by decide +kernel
theorem dX6_topple_52 : decode cX6_topple 52 = .ok (.if_icmp .gt 46, 3) := by decide +kernel
theorem dX6_topple_55 : decode cX6_topple 55 = .ok (.aload_n 0, 1) := by decide +kernel
theorem dX6_topple_56 : decode cX6_topple 56 = .ok (.getfield 39, 3) := by decide +kernel
theorem dX6_topple_59 : decode cX6_topple 59 = .ok (.aload_n 0, 1) := by decide +kernel
theorem dX6_topple_60 : decode cX6_topple 60 = .ok (.getfield 35, 3) := by decide +kernel
theorem dX6_topple_63 : decode cX6_topple 63 = .ok (.invokevirtual 159, 3) := by decide +kernel
theorem dX6_topple_66 : decode cX6_topple 66 = .ok (.aload_n 0, 1) := by decide +kernel
theorem dX6_topple_67 : decode cX6_topple 67 = .ok (.getfield 39, 3) := by decide +kernel
theorem dX6_topple_70 : decode cX6_topple 70 = .ok (.getfield 119, 3) := by decide +kernel
theorem dX6_topple_73 : decode cX6_topple 73 = .ok (.iload_n 2, 1) := by decide +kernel
theorem dX6_topple_74 : decode cX6_topple 74 = .ok (.dup2, 1) := by decide +kernel
theorem dX6_topple_75 : decode cX6_topple 75 = .ok (.iaload, 1) := by decide +kernel
theorem dX6_topple_76 : decode cX6_topple 76 = .ok (.iload_n 3, 1) := by decide +kernel
theorem dX6_topple_77 : decode cX6_topple 77 = .ok (.iadd, 1) := by decide +kernel
theorem dX6_topple_78 : decode cX6_topple 78 = .ok (.iastore, 1) := by decide +kernel
theorem dX6_topple_79 : decode cX6_topple 79 = .ok (.aload_n 0, 1) := by decide +kernel
theorem dX6_topple_80 : decode cX6_topple 80 = .ok (.getfield 39, 3) := by decide +kernel
theorem dX6_topple_83 : decode cX6_topple 83 = .ok (.iload_n 1, 1) := by decide +kernel
theorem dX6_topple_84 : decode cX6_topple 84 = .ok (.invokevirtual 168, 3) := by decide +kernel
theorem dX6_topple_87 : decode cX6_topple 87 = .ok (.ifCond .eq 5, 3) := by decide +kernel
theorem dX6_topple_90 : decode cX6_topple 90 = .ok (.iload_n 3, 1) := by decide +kernel
theorem dX6_topple_91 : decode cX6_topple 91 = .ok (.ireturn, 1) := by decide +kernel
theorem dX6_topple_92 : decode cX6_topple 92 = .ok (.iinc 3 1, 3) := by decide +kernel
theorem dX6_topple_95 : decode cX6_topple 95 = .ok (.goto (-56), 3) := by decide +kernel
theorem dX6_topple_98 : decode cX6_topple 98 = .ok (.bipush (-4), 2) := by decide +kernel
theorem dX6_topple_100 : decode cX6_topple 100 = .ok (.ireturn, 1) := by decide +kernel
theorem dX6_plot_0 : decode cX6_plot 0 = .ok (.aload_n 0, 1) := by decide +kernel
theorem dX6_plot_1 : decode cX6_plot 1 = .ok (.getfield 26, 3) := by decide +kernel
theorem dX6_plot_4 : decode cX6_plot 4 = .ok (.iload_n 1, 1) := by decide +kernel
theorem dX6_plot_5 : decode cX6_plot 5 = .ok (.invokevirtual 95, 3) := by decide +kernel
theorem dX6_plot_8 : decode cX6_plot 8 = .ok (.ifCond .eq 22, 3) := by decide +kernel
theorem dX6_plot_11 : decode cX6_plot 11 = .ok (.iload_n 2, 1) := by decide +kernel
theorem dX6_plot_12 : decode cX6_plot 12 = .ok (.iconst 1, 1) := by decide +kernel
theorem dX6_plot_13 : decode cX6_plot 13 = .ok (.bipush 9, 2) := by decide +kernel
theorem dX6_plot_15 : decode cX6_plot 15 = .ok (.invokestatic 84, 3) := by decide +kernel
theorem dX6_plot_18 : decode cX6_plot 18 = .ok (.ifCond .eq 12, 3) := by decide +kernel
theorem dX6_plot_21 : decode cX6_plot 21 = .ok (.iload_n 3, 1) := by decide +kernel
theorem dX6_plot_22 : decode cX6_plot 22 = .ok (.iconst 0, 1) := by decide +kernel
theorem dX6_plot_23 : decode cX6_plot 23 = .ok (.iconst 1, 1) := by decide +kernel
theorem dX6_plot_24 : decode cX6_plot 24 = .ok (.invokestatic 84, 3) := by decide +kernel
theorem dX6_plot_27 : decode cX6_plot 27 = .ok (.ifCond .ne 5, 3) := by decide +kernel
theorem dX6_plot_30 : decode cX6_plot 30 = .ok (.iconst (-1), 1) := by decide +kernel
theorem dX6_plot_31 : decode cX6_plot 31 = .ok (.ireturn, 1) := by decide +kernel
theorem dX6_plot_32 : decode cX6_plot 32 = .ok (.aload_n 0, 1) := by decide +kernel
theorem dX6_plot_33 : decode cX6_plot 33 = .ok (.iload_n 1, 1) := by decide +kernel
theorem dX6_plot_34 : decode cX6_plot 34 = .ok (.iload_n 2, 1) := by decide +kernel
theorem dX6_plot_35 : decode cX6_plot 35 = .ok (.iconst 0, 1) := by decide +kernel
theorem dX6_plot_36 : decode cX6_plot 36 = .ok (.iconst 0, 1) := by decide +kernel
theorem dX6_plot_37 : decode cX6_plot 37 = .ok (.invokevirtual 171, 3) := by decide +kernel
theorem dX6_plot_40 : decode cX6_plot 40 = .ok (.ifCond .eq 14, 3) := by decide +kernel
theorem dX6_plot_43 : decode cX6_plot 43 = .ok (.iload_n 3, 1) := by decide +kernel
theorem dX6_plot_44 : decode cX6_plot 44 = .ok (.ifCond .ne 7, 3) := by decide +kernel
theorem dX6_plot_47 : decode cX6_plot 47 = .ok (.iconst 0, 1) := by decide +kernel
theorem dX6_plot_48 : decode cX6_plot 48 = .ok (.goto 5, 3) := by decide +kernel
theorem dX6_plot_51 : decode cX6_plot 51 = .ok (.bipush (-4), 2) := by decide +kernel
theorem dX6_plot_53 : decode cX6_plot 53 = .ok (.ireturn, 1) := by decide +kernel
theorem dX6_plot_54 : decode cX6_plot 54 = .ok (.iconst 1, 1) := by decide +kernel
theorem dX6_plot_55 : decode cX6_plot 55 = .ok (.istore 4, 2) := by decide +kernel
theorem dX6_plot_57 : decode cX6_plot 57 = .ok (.iload 4, 2) := by decide +kernel
theorem dX6_plot_59 : decode cX6_plot 59 = .ok (.bipush 9, 2) := by decide +kernel
theorem dX6_plot_61 : decode cX6_plot 61 = .ok (.if_icmp .gt 55, 3) := by decide +kernel
theorem dX6_plot_64 : decode cX6_plot 64 = .ok (.iconst 0, 1) := by decide +kernel
theorem dX6_plot_65 : decode cX6_plot 65 = .ok (.istore 5, 2) := by decide +kernel
theorem dX6_plot_67 : decode cX6_plot 67 = .ok (.iload 5, 2) := by decide +kernel
theorem dX6_plot_69 : decode cX6_plot 69 = .ok (.aload_n 0, 1) := by decide +kernel
theorem dX6_plot_70 : decode cX6_plot 70 = .ok (.getfield 26, 3) := by decide +kernel
theorem dX6_plot_73 : decode cX6_plot 73 = .ok (.getfield 175, 3) := by decide +kernel
theorem dX6_plot_76 : decode cX6_plot 76 = .ok (.if_icmp .ge 34, 3) := by decide +kernel
theorem dX6_plot_79 : decode cX6_plot 79 = .ok (.aload_n 0, 1) := by decide +kernel
theorem dX6_plot_80 : decode cX6_plot 80 = .ok (.iload_n 1, 1) := by decide +kernel
theorem dX6_plot_81 : decode cX6_plot 81 = .ok (.iload_n 2, 1) := by decide +kernel
theorem dX6_plot_82 : decode cX6_plot 82 = .ok (.iload 5, 2) := by decide +kernel
theorem dX6_plot_84 : decode cX6_plot 84 = .ok (.iload 4, 2) := by decide +kernel
theorem dX6_plot_86 : decode cX6_plot 86 = .ok (.invokevirtual 171, 3) := by decide +kernel
theorem dX6_plot_89 : decode cX6_plot 89 = .ok (.ifCond .eq 15, 3) := by decide +kernel
theorem dX6_plot_92 : decode cX6_plot 92 = .ok (.iload_n 3, 1) := by decide +kernel
theorem dX6_plot_93 : decode cX6_plot 93 = .ok (.ifCond .ne 8, 3) := by decide +kernel
theorem dX6_plot_96 : decode cX6_plot 96 = .ok (.iload 4, 2) := by decide +kernel
theorem dX6_plot_98 : decode cX6_plot 98 = .ok (.goto 5, 3) := by decide +kernel
theorem dX6_plot_101 : decode cX6_plot 101 = .ok (.iload 5, 2) := by decide +kernel
theorem dX6_plot_103 : decode cX6_plot 103 = .ok (.ireturn, 1) := by decide +kernel
theorem dX6_plot_104 : decode cX6_plot 104 = .ok (.iinc 5 1, 3) := by decide +kernel
theorem dX6_plot_107 : decode cX6_plot 107 = .ok (.goto (-40), 3) := by decide +kernel
theorem dX6_plot_110 : decode cX6_plot 110 = .ok (.iinc 4 1, 3) := by decide +kernel
theorem dX6_plot_113 : decode cX6_plot 113 = .ok (.goto (-56), 3) := by decide +kernel
theorem dX6_plot_116 : decode cX6_plot 116 = .ok (.bipush (-4), 2) := by decide +kernel
theorem dX6_plot_118 : decode cX6_plot 118 = .ok (.ireturn, 1) := by decide +kernel
theorem dX6_hold_0 : decode cX6_hold 0 = .ok (.iload_n 1, 1) := by decide +kernel
theorem dX6_hold_1 : decode cX6_hold 1 = .ok (.iconst 1, 1) := by decide +kernel
theorem dX6_hold_2 : decode cX6_hold 2 = .ok (.bipush 9, 2) := by decide +kernel
theorem dX6_hold_4 : decode cX6_hold 4 = .ok (.invokestatic 84, 3) := by decide +kernel
theorem dX6_hold_7 : decode cX6_hold 7 = .ok (.ifCond .eq 12, 3) := by decide +kernel
theorem dX6_hold_10 : decode cX6_hold 10 = .ok (.iload_n 2, 1) := by decide +kernel
theorem dX6_hold_11 : decode cX6_hold 11 = .ok (.iconst 0, 1) := by decide +kernel
theorem dX6_hold_12 : decode cX6_hold 12 = .ok (.iconst 1, 1) := by decide +kernel
theorem dX6_hold_13 : decode cX6_hold 13 = .ok (.invokestatic 84, 3) := by decide +kernel
theorem dX6_hold_16 : decode cX6_hold 16 = .ok (.ifCond .ne 5, 3) := by decide +kernel
theorem dX6_hold_19 : decode cX6_hold 19 = .ok (.iconst (-1), 1) := by decide +kernel
theorem dX6_hold_20 : decode cX6_hold 20 = .ok (.ireturn, 1) := by decide +kernel
theorem dX6_hold_21 : decode cX6_hold 21 = .ok (.aload_n 0, 1) := by decide +kernel
theorem dX6_hold_22 : decode cX6_hold 22 = .ok (.iload_n 1, 1) := by decide +kernel
theorem dX6_hold_23 : decode cX6_hold 23 = .ok (.iconst 0, 1) := by decide +kernel
theorem dX6_hold_24 : decode cX6_hold 24 = .ok (.iconst 0, 1) := by decide +kernel
theorem dX6_hold_25 : decode cX6_hold 25 = .ok (.invokevirtual 178, 3) := by decide +kernel
theorem dX6_hold_28 : decode cX6_hold 28 = .ok (.ifCond .eq 14, 3) := by decide +kernel
theorem dX6_hold_31 : decode cX6_hold 31 = .ok (.iload_n 2, 1) := by decide +kernel
theorem dX6_hold_32 : decode cX6_hold 32 = .ok (.ifCond .ne 7, 3) := by decide +kernel
theorem dX6_hold_35 : decode cX6_hold 35 = .ok (.iconst 0, 1) := by decide +kernel
theorem dX6_hold_36 : decode cX6_hold 36 = .ok (.goto 5, 3) := by decide +kernel
theorem dX6_hold_39 : decode cX6_hold 39 = .ok (.bipush (-4), 2) := by decide +kernel
theorem dX6_hold_41 : decode cX6_hold 41 = .ok (.ireturn, 1) := by decide +kernel
theorem dX6_hold_42 : decode cX6_hold 42 = .ok (.iconst 1, 1) := by decide +kernel
theorem dX6_hold_43 : decode cX6_hold 43 = .ok (.istore_n 3, 1) := by decide +kernel
theorem dX6_hold_44 : decode cX6_hold 44 = .ok (.iload_n 3, 1) := by decide +kernel
theorem dX6_hold_45 : decode cX6_hold 45 = .ok (.iconst 5, 1) := by decide +kernel
theorem dX6_hold_46 : decode cX6_hold 46 = .ok (.if_icmp .gt 52, 3) := by decide +kernel
theorem dX6_hold_49 : decode cX6_hold 49 = .ok (.iconst 0, 1) := by decide +kernel
theorem dX6_hold_50 : decode cX6_hold 50 = .ok (.istore 4, 2) := by decide +kernel
theorem dX6_hold_52 : decode cX6_hold 52 = .ok (.iload 4, 2) := by decide +kernel
theorem dX6_hold_54 : decode cX6_hold 54 = .ok (.aload_n 0, 1) := by decide +kernel
theorem dX6_hold_55 : decode cX6_hold 55 = .ok (.getfield 26, 3) := by decide +kernel
theorem dX6_hold_58 : decode cX6_hold 58 = .ok (.getfield 175, 3) := by decide +kernel
theorem dX6_hold_61 : decode cX6_hold 61 = .ok (.if_icmp .ge 31, 3) := by decide +kernel
theorem dX6_hold_64 : decode cX6_hold 64 = .ok (.aload_n 0, 1) := by decide +kernel
theorem dX6_hold_65 : decode cX6_hold 65 = .ok (.iload_n 1, 1) := by decide +kernel
theorem dX6_hold_66 : decode cX6_hold 66 = .ok (.iload 4, 2) := by decide +kernel
theorem dX6_hold_68 : decode cX6_hold 68 = .ok (.iload_n 3, 1) := by decide +kernel
theorem dX6_hold_69 : decode cX6_hold 69 = .ok (.invokevirtual 178, 3) := by decide +kernel
theorem dX6_hold_72 : decode cX6_hold 72 = .ok (.ifCond .eq 14, 3) := by decide +kernel
theorem dX6_hold_75 : decode cX6_hold 75 = .ok (.iload_n 2, 1) := by decide +kernel
theorem dX6_hold_76 : decode cX6_hold 76 = .ok (.ifCond .ne 7, 3) := by decide +kernel
theorem dX6_hold_79 : decode cX6_hold 79 = .ok (.iload_n 3, 1) := by decide +kernel
theorem dX6_hold_80 : decode cX6_hold 80 = .ok (.goto 5, 3) := by decide +kernel
theorem dX6_hold_83 : decode cX6_hold 83 = .ok (.iload 4, 2) := by decide +kernel
theorem dX6_hold_85 : decode cX6_hold 85 = .ok (.ireturn, 1) := by decide +kernel
theorem dX6_hold_86 : decode cX6_hold 86 = .ok (.iinc 4 1, 3) := by decide +kernel
theorem dX6_hold_89 : decode cX6_hold 89 = .ok (.goto (-37), 3) := by decide +kernel
theorem dX6_hold_92 : decode cX6_hold 92 = .ok (.iinc 3 1, 3) := by decide +kernel
theorem dX6_hold_95 : decode cX6_hold 95 = .ok (.goto (-51), 3) := by decide +kernel
theorem dX6_hold_98 : decode cX6_hold 98 = .ok (.bipush (-4), 2) := by decide +kernel
theorem dX6_hold_100 : decode cX6_hold 100 = .ok (.ireturn, 1) := by decide +kernel
theorem dX6_cabinet_0 : decode cX6_cabinet 0 = .ok (.iload_n 1, 1) := by decide +kernel
theorem dX6_cabinet_1 : decode cX6_cabinet 1 = .ok (.iconst 0, 1) := by decide +kernel
theorem dX6_cabinet_2 : decode cX6_cabinet 2 = .ok (.iconst 1, 1) := by decide +kernel
theorem dX6_cabinet_3 : decode cX6_cabinet 3 = .ok (.invokestatic 84, 3) := by decide +kernel
theorem dX6_cabinet_6 : decode cX6_cabinet 6 = .ok (.ifCond .ne 5, 3) := by decide +kernel
theorem dX6_cabinet_9 : decode cX6_cabinet 9 = .ok (.iconst (-1), 1) := by decide +kernel
theorem dX6_cabinet_10 : decode cX6_cabinet 10 = .ok (.ireturn, 1) := by decide +kernel
theorem dX6_cabinet_11 : decode cX6_cabinet 11 = .ok (.aload_n 0, 1) := by decide +kernel
theorem dX6_cabinet_12 : decode cX6_cabinet 12 = .ok (.invokevirtual 181, 3) := by decide +kernel
theorem dX6_cabinet_15 : decode cX6_cabinet 15 = .ok (.istore_n 2, 1) := by decide +kernel
theorem dX6_cabinet_16 : decode cX6_cabinet 16 = .ok (.iload_n 1, 1) := by decide +kernel
theorem dX6_cabinet_17 : decode cX6_cabinet 17 = .ok (.ifCond .ne 10, 3) := by decide +kernel
theorem dX6_cabinet_20 : decode cX6_cabinet 20 = .ok (.iload_n 2, 1) := by decide +kernel
theorem dX6_cabinet_21 : decode cX6_cabinet 21 = .ok (.invokestatic 184, 3) := by decide +kernel
theorem dX6_cabinet_24 : decode cX6_cabinet 24 = .ok (.goto 4, 3) := by decide +kernel
theorem dX6_cabinet_27 : decode cX6_cabinet 27 = .ok (.iload_n 2, 1) := by decide +kernel
theorem dX6_cabinet_28 : decode cX6_cabinet 28 = .ok (.ireturn, 1) := by decide +kernel
theorem dX6_seen_0 : decode cX6_seen 0 = .ok (.aload_n 0, 1) := by decide +kernel
theorem dX6_seen_1 : decode cX6_seen 1 = .ok (.getfield 26, 3) := by decide +kernel
theorem dX6_seen_4 : decode cX6_seen 4 = .ok (.iload_n 1, 1) := by decide +kernel
theorem dX6_seen_5 : decode cX6_seen 5 = .ok (.invokevirtual 95, 3) := by decide +kernel
theorem dX6_seen_8 : decode cX6_seen 8 = .ok (.ifCond .eq 14, 3) := by decide +kernel
theorem dX6_seen_11 : decode cX6_seen 11 = .ok (.aload_n 0, 1) := by decide +kernel
theorem dX6_seen_12 : decode cX6_seen 12 = .ok (.getfield 26, 3) := by decide +kernel
theorem dX6_seen_15 : decode cX6_seen 15 = .ok (.iload_n 2, 1) := by decide +kernel
theorem dX6_seen_16 : decode cX6_seen 16 = .ok (.invokevirtual 116, 3) := by decide +kernel
theorem dX6_seen_19 : decode cX6_seen 19 = .ok (.ifCond .ne 5, 3) := by decide +kernel
theorem dX6_seen_22 : decode cX6_seen 22 = .ok (.iconst (-1), 1) := by decide +kernel
theorem dX6_seen_23 : decode cX6_seen 23 = .ok (.ireturn, 1) := by decide +kernel
theorem dX6_seen_24 : decode cX6_seen 24 = .ok (.aload_n 0, 1) := by decide +kernel
theorem dX6_seen_25 : decode cX6_seen 25 = .ok (.getfield 57, 3) := by decide +kernel
theorem dX6_seen_28 : decode cX6_seen 28 = .ok (.iload_n 1, 1) := by decide +kernel
theorem dX6_seen_29 : decode cX6_seen 29 = .ok (.iload_n 2, 1) := by decide +kernel
theorem dX6_seen_30 : decode cX6_seen 30 = .ok (.invokevirtual 189, 3) := by decide +kernel
theorem dX6_seen_33 : decode cX6_seen 33 = .ok (.ifCond .eq 13, 3) := by decide +kernel
theorem dX6_seen_36 : decode cX6_seen 36 = .ok (.aload_n 0, 1) := by decide +kernel
theorem dX6_seen_37 : decode cX6_seen 37 = .ok (.getfield 57, 3) := by decide +kernel
theorem dX6_seen_40 : decode cX6_seen 40 = .ok (.getfield 192, 3) := by decide +kernel
theorem dX6_seen_43 : decode cX6_seen 43 = .ok (.goto 5, 3) := by decide +kernel
theorem dX6_seen_46 : decode cX6_seen 46 = .ok (.bipush (-3), 2) := by decide +kernel
theorem dX6_seen_48 : decode cX6_seen 48 = .ok (.ireturn, 1) := by decide +kernel
theorem dX6_forget_0 : decode cX6_forget 0 = .ok (.aload_n 0, 1) := by decide +kernel
theorem dX6_forget_1 : decode cX6_forget 1 = .ok (.getfield 57, 3) := by decide +kernel
theorem dX6_forget_4 : decode cX6_forget 4 = .ok (.getfield 192, 3) := by decide +kernel
theorem dX6_forget_7 : decode cX6_forget 7 = .ok (.istore_n 1, 1) := by decide +kernel
theorem dX6_forget_8 : decode cX6_forget 8 = .ok (.aload_n 0, 1) := by decide +kernel
theorem dX6_forget_9 : decode cX6_forget 9 = .ok (.getfield 57, 3) := by decide +kernel
theorem dX6_forget_12 : decode cX6_forget 12 = .ok (.iconst 0, 1) := by decide +kernel
theorem dX6_forget_13 : decode cX6_forget 13 = .ok (.putfield 192, 3) := by decide +kernel
theorem dX6_forget_16 : decode cX6_forget 16 = .ok (.iload_n 1, 1) := by decide +kernel
theorem dX6_forget_17 : decode cX6_forget 17 = .ok (.ireturn, 1) := by decide +kernel
theorem dX6_waxes_0 : decode cX6_waxes 0 = .ok (.aload_n 0, 1) := by decide +kernel
theorem dX6_waxes_1 : decode cX6_waxes 1 = .ok (.getfield 26, 3) := by decide +kernel
theorem dX6_waxes_4 : decode cX6_waxes 4 = .ok (.iload_n 1, 1) := by decide +kernel
theorem dX6_waxes_5 : decode cX6_waxes 5 = .ok (.invokevirtual 116, 3) := by decide +kernel
theorem dX6_waxes_8 : decode cX6_waxes 8 = .ok (.ifCond .ne 5, 3) := by decide +kernel
theorem dX6_waxes_11 : decode cX6_waxes 11 = .ok (.iconst (-1), 1) := by decide +kernel
theorem dX6_waxes_12 : decode cX6_waxes 12 = .ok (.ireturn, 1) := by decide +kernel
theorem dX6_waxes_13 : decode cX6_waxes 13 = .ok (.iconst 0, 1) := by decide +kernel
theorem dX6_waxes_14 : decode cX6_waxes 14 = .ok (.istore_n 2, 1) := by decide +kernel
theorem dX6_waxes_15 : decode cX6_waxes 15 = .ok (.iconst 0, 1) := by decide +kernel
theorem dX6_waxes_16 : decode cX6_waxes 16 = .ok (.istore_n 3, 1) := by decide +kernel
theorem dX6_waxes_17 : decode cX6_waxes 17 = .ok (.iload_n 3, 1) := by decide +kernel
theorem dX6_waxes_18 : decode cX6_waxes 18 = .ok (.bipush 9, 2) := by decide +kernel
theorem dX6_waxes_20 : decode cX6_waxes 20 = .ok (.if_icmp .gt 38, 3) := by decide +kernel
theorem dX6_waxes_23 : decode cX6_waxes 23 = .ok (.aload_n 0, 1) := by decide +kernel
theorem dX6_waxes_24 : decode cX6_waxes 24 = .ok (.getfield 39, 3) := by decide +kernel
theorem dX6_waxes_27 : decode cX6_waxes 27 = .ok (.aload_n 0, 1) := by decide +kernel
theorem dX6_waxes_28 : decode cX6_waxes 28 = .ok (.getfield 35, 3) := by decide +kernel
theorem dX6_waxes_31 : decode cX6_waxes 31 = .ok (.invokevirtual 159, 3) := by decide +kernel
theorem dX6_waxes_34 : decode cX6_waxes 34 = .ok (.aload_n 0, 1) := by decide +kernel
theorem dX6_waxes_35 : decode cX6_waxes 35 = .ok (.getfield 39, 3) := by decide +kernel
theorem dX6_waxes_38 : decode cX6_waxes 38 = .ok (.getfield 119, 3) := by decide +kernel
theorem dX6_waxes_41 : decode cX6_waxes 41 = .ok (.iload_n 1, 1) := by decide +kernel
theorem dX6_waxes_42 : decode cX6_waxes 42 = .ok (.iload_n 3, 1) := by decide +kernel
theorem dX6_waxes_43 : decode cX6_waxes 43 = .ok (.iastore, 1) := by decide +kernel
theorem dX6_waxes_44 : decode cX6_waxes 44 = .ok (.iload_n 2, 1) := by decide +kernel
theorem dX6_waxes_45 : decode cX6_waxes 45 = .ok (.aload_n 0, 1) := by decide +kernel
theorem dX6_waxes_46 : decode cX6_waxes 46 = .ok (.iload_n 3, 1) := by decide +kernel
theorem dX6_waxes_47 : decode cX6_waxes 47 = .ok (.invokevirtual 193, 3) := by decide +kernel
theorem dX6_waxes_50 : decode cX6_waxes 50 = .ok (.ior, 1) := by decide +kernel
theorem dX6_waxes_51 : decode cX6_waxes 51 = .ok (.istore_n 2, 1) := by decide +kernel
theorem dX6_waxes_52 : decode cX6_waxes 52 = .ok (.iinc 3 1, 3) := by decide +kernel
theorem dX6_waxes_55 : decode cX6_waxes 55 = .ok (.goto (-38), 3) := by decide +kernel
theorem dX6_waxes_58 : decode cX6_waxes 58 = .ok (.iload_n 2, 1) := by decide +kernel
theorem dX6_waxes_59 : decode cX6_waxes 59 = .ok (.ireturn, 1) := by decide +kernel
theorem dX6_grips_0 : decode cX6_grips 0 = .ok (.aload_n 0, 1) := by decide +kernel
theorem dX6_grips_1 : decode cX6_grips 1 = .ok (.getfield 26, 3) := by decide +kernel
theorem dX6_grips_4 : decode cX6_grips 4 = .ok (.iload_n 1, 1) := by decide +kernel
theorem dX6_grips_5 : decode cX6_grips 5 = .ok (.invokevirtual 95, 3) := by decide +kernel
theorem dX6_grips_8 : decode cX6_grips 8 = .ok (.ifCond .ne 5, 3) := by decide +kernel
theorem dX6_grips_11 : decode cX6_grips 11 = .ok (.iconst (-1), 1) := by decide +kernel
theorem dX6_grips_12 : decode cX6_grips 12 = .ok (.ireturn, 1) := by decide +kernel
theorem dX6_grips_13 : decode cX6_grips 13 = .ok (.iconst 0, 1) := by decide +kernel
theorem dX6_grips_14 : decode cX6_grips 14 = .ok (.istore_n 2, 1) := by decide +kernel
theorem dX6_grips_15 : decode cX6_grips 15 = .ok (.iconst 0, 1) := by decide +kernel
theorem dX6_grips_16 : decode cX6_grips 16 = .ok (.istore_n 3, 1) := by decide +kernel
theorem dX6_grips_17 : decode cX6_grips 17 = .ok (.iload_n 3, 1) := by decide +kernel
theorem dX6_grips_18 : decode cX6_grips 18 = .ok (.bipush 9, 2) := by decide +kernel
theorem dX6_grips_20 : decode cX6_grips 20 = .ok (.if_icmp .gt 38, 3) := by decide +kernel
theorem dX6_grips_23 : decode cX6_grips 23 = .ok (.aload_n 0, 1) := by decide +kernel
theorem dX6_grips_24 : decode cX6_grips 24 = .ok (.getfield 39, 3) := by decide +kernel
theorem dX6_grips_27 : decode cX6_grips 27 = .ok (.aload_n 0, 1) := by decide +kernel
theorem dX6_grips_28 : decode cX6_grips 28 = .ok (.getfield 35, 3) := by decide +kernel
theorem dX6_grips_31 : decode cX6_grips 31 = .ok (.invokevirtual 159, 3) := by decide +kernel
theorem dX6_grips_34 : decode cX6_grips 34 = .ok (.aload_n 0, 1) := by decide +kernel
theorem dX6_grips_35 : decode cX6_grips 35 = .ok (.getfield 39, 3) := by decide +kernel
theorem dX6_grips_38 : decode cX6_grips 38 = .ok (.getfield 106, 3) := by decide +kernel
theorem dX6_grips_41 : decode cX6_grips 41 = .ok (.iload_n 1, 1) := by decide +kernel
theorem dX6_grips_42 : decode cX6_grips 42 = .ok (.iload_n 3, 1) := by decide +kernel
theorem dX6_grips_43 : decode cX6_grips 43 = .ok (.iastore, 1) := by decide +kernel
theorem dX6_grips_44 : decode cX6_grips 44 = .ok (.iload_n 2, 1) := by decide +kernel
theorem dX6_grips_45 : decode cX6_grips 45 = .ok (.aload_n 0, 1) := by decide +kernel
theorem dX6_grips_46 : decode cX6_grips 46 = .ok (.iload_n 3, 1) := by decide +kernel
theorem dX6_grips_47 : decode cX6_grips 47 = .ok (.invokevirtual 193, 3) := by decide +kernel
theorem dX6_grips_50 : decode cX6_grips 50 = .ok (.ior, 1) := by decide +kernel
theorem dX6_grips_51 : decode cX6_grips 51 = .ok (.istore_n 2, 1) := by decide +kernel
theorem dX6_grips_52 : decode cX6_grips 52 = .ok (.iinc 3 1, 3) := by decide +kernel
theorem dX6_grips_55 : decode cX6_grips 55 = .ok (.goto (-38), 3) := by decide +kernel
theorem dX6_grips_58 : decode cX6_grips 58 = .ok (.iload_n 2, 1) := by decide +kernel
theorem dX6_grips_59 : decode cX6_grips 59 = .ok (.ireturn, 1) := by decide +kernel
theorem dX6_likely_0 : decode cX6_likely 0 = .ok (.aload_n 0, 1) := by decide +kernel
theorem dX6_likely_1 : decode cX6_likely 1 = .ok (.getfield 26, 3) := by decide +kernel
theorem dX6_likely_4 : decode cX6_likely 4 = .ok (.iload_n 1, 1) := by decide +kernel
theorem dX6_likely_5 : decode cX6_likely 5 = .ok (.invokevirtual 95, 3) := by decide +kernel
theorem dX6_likely_8 : decode cX6_likely 8 = .ok (.ifCond .eq 33, 3) := by decide +kernel
theorem dX6_likely_11 : decode cX6_likely 11 = .ok (.iload_n 2, 1) := by decide +kernel
theorem dX6_likely_12 : decode cX6_likely 12 = .ok (.iconst 0, 1) := by decide +kernel
theorem dX6_likely_13 : decode cX6_likely 13 = .ok (.bipush 6, 2) := by decide +kernel
theorem dX6_likely_15 : decode cX6_likely 15 = .ok (.invokestatic 84, 3) := by decide +kernel
theorem dX6_likely_18 : decode cX6_likely 18 = .ok (.ifCond .eq 23, 3) := by decide +kernel
theorem dX6_likely_21 : decode cX6_likely 21 = .ok (.iload_n 3, 1) := by decide +kernel
theorem dX6_likely_22 : decode cX6_likely 22 = .ok (.iconst 0, 1) := by decide +kernel
theorem dX6_likely_23 : decode cX6_likely 23 = .ok (.bipush 10, 2) := by decide +kernel
theorem dX6_likely_25 : decode cX6_likely 25 = .ok (.invokestatic 84, 3) := by decide +kernel
theorem dX6_likely_28 : decode cX6_likely 28 = .ok (.ifCond .eq 13, 3) := by decide +kernel
theorem dX6_likely_31 : decode cX6_likely 31 = .ok (.iload 4, 2) := by decide +kernel
theorem dX6_likely_33 : decode cX6_likely 33 = .ok (.iconst 0, 1) := by decide +kernel
theorem dX6_likely_34 : decode cX6_likely 34 = .ok (.iconst 1, 1) := by decide +kernel
theorem dX6_likely_35 : decode cX6_likely 35 = .ok (.invokestatic 84, 3) := by decide +kernel
theorem dX6_likely_38 : decode cX6_likely 38 = .ok (.ifCond .ne 5, 3) := by decide +kernel
theorem dX6_likely_41 : decode cX6_likely 41 = .ok (.iconst (-1), 1) := by decide +kernel
theorem dX6_likely_42 : decode cX6_likely 42 = .ok (.ireturn, 1) := by decide +kernel
theorem dX6_likely_43 : decode cX6_likely 43 = .ok (.iconst 0, 1) := by decide +kernel
theorem dX6_likely_44 : decode cX6_likely 44 = .ok (.istore 5, 2) := by decide +kernel
theorem dX6_likely_46 : decode cX6_likely 46 = .ok (.iconst 0, 1) := by decide +kernel
theorem dX6_likely_47 : decode cX6_likely 47 = .ok (.istore 6, 2) := by decide +kernel
theorem dX6_likely_49 : decode cX6_likely 49 = .ok (.iload 6, 2) := by decide +kernel
theorem dX6_likely_51 : decode cX6_likely 51 = .ok (.iconst 1, 1) := by decide +kernel
theorem dX6_likely_52 : decode cX6_likely 52 = .ok (.iload_n 2, 1) := by decide +kernel
theorem dX6_likely_53 : decode cX6_likely 53 = .ok (.ishl, 1) := by decide +kernel
theorem dX6_likely_54 : decode cX6_likely 54 = .ok (.if_icmp .ge 41, 3) := by decide +kernel
theorem dX6_likely_57 : decode cX6_likely 57 = .ok (.iload 6, 2) := by decide +kernel
theorem dX6_likely_59 : decode cX6_likely 59 = .ok (.iload_n 2, 1) := by decide +kernel
theorem dX6_likely_60 : decode cX6_likely 60 = .ok (.iload_n 3, 1) := by decide +kernel
theorem dX6_likely_61 : decode cX6_likely 61 = .ok (.invokestatic 196, 3) := by decide +kernel
theorem dX6_likely_64 : decode cX6_likely 64 = .ok (.istore 7, 2) := by decide +kernel
theorem dX6_likely_66 : decode cX6_likely 66 = .ok (.iload 7, 2) := by decide +kernel
theorem dX6_likely_68 : decode cX6_likely 68 = .ok (.ifCond .le 21, 3) := by decide +kernel
theorem dX6_likely_71 : decode cX6_likely 71 = .ok (.aload_n 0, 1) := by decide +kernel
theorem dX6_likely_72 : decode cX6_likely 72 = .ok (.iload_n 1, 1) := by decide +kernel
theorem dX6_likely_73 : decode cX6_likely 73 = .ok (.iload_n 2, 1) := by decide +kernel
theorem dX6_likely_74 : decode cX6_likely 74 = .ok (.iload 6, 2) := by decide +kernel
theorem dX6_likely_76 : decode cX6_likely 76 = .ok (.invokevirtual 200, 3) := by decide +kernel
theorem dX6_likely_79 : decode cX6_likely 79 = .ok (.ifCond .eq 10, 3) := by decide +kernel
theorem dX6_likely_82 : decode cX6_likely 82 = .ok (.iload 5, 2) := by decide +kernel
theorem dX6_likely_84 : decode cX6_likely 84 = .ok (.iload 7, 2) := by decide +kernel
theorem dX6_likely_86 : decode cX6_likely 86 = .ok (.iadd, 1) := by decide +kernel
theorem dX6_likely_87 : decode cX6_likely 87 = .ok (.istore 5, 2) := by decide +kernel
theorem dX6_likely_89 : decode cX6_likely 89 = .ok (.iinc 6 1, 3) := by decide +kernel
theorem dX6_likely_92 : decode cX6_likely 92 = .ok (.goto (-43), 3) := by decide +kernel
theorem dX6_likely_95 : decode cX6_likely 95 = .ok (.bipush 10, 2) := by decide +kernel
theorem dX6_likely_97 : decode cX6_likely 97 = .ok (.iload_n 2, 1) := by decide +kernel
theorem dX6_likely_98 : decode cX6_likely 98 = .ok (.invokestatic 203, 3) := by decide +kernel
theorem dX6_likely_101 : decode cX6_likely 101 = .ok (.istore 6, 2) := by decide +kernel
theorem dX6_likely_103 : decode cX6_likely 103 = .ok (.iload 5, 2) := by decide +kernel
theorem dX6_likely_105 : decode cX6_likely 105 = .ok (.iload 6, 2) := by decide +kernel
theorem dX6_likely_107 : decode cX6_likely 107 = .ok (.invokestatic 207, 3) := by decide +kernel
theorem dX6_likely_110 : decode cX6_likely 110 = .ok (.istore 7, 2) := by decide +kernel
theorem dX6_likely_112 : decode cX6_likely 112 = .ok (.iload 4, 2) := by decide +kernel
theorem dX6_likely_114 : decode cX6_likely 114 = .ok (.ifCond .ne 8, 3) := by decide +kernel
theorem dX6_likely_117 : decode cX6_likely 117 = .ok (.iload 5, 2) := by decide +kernel
theorem dX6_likely_119 : decode cX6_likely 119 = .ok (.goto 5, 3) := by decide +kernel
theorem dX6_likely_122 : decode cX6_likely 122 = .ok (.iload 6, 2) := by decide +kernel
theorem dX6_likely_124 : decode cX6_likely 124 = .ok (.iload 7, 2) := by decide +kernel
theorem dX6_likely_126 : decode cX6_likely 126 = .ok (.idiv, 1) := by decide +kernel
theorem dX6_likely_127 : decode cX6_likely 127 = .ok (.ireturn, 1) := by decide +kernel
theorem dX6_century_0 : decode cX6_century 0 = .ok (.iload_n 1, 1) := by decide +kernel
theorem dX6_century_1 : decode cX6_century 1 = .ok (.iconst 0, 1) := by decide +kernel
theorem dX6_century_2 : decode cX6_century 2 = .ok (.sipush 9999, 3) := by decide +kernel
theorem dX6_century_5 : decode cX6_century 5 = .ok (.invokestatic 84, 3) := by decide +kernel
theorem dX6_century_8 : decode cX6_century 8 = .ok (.ifCond .eq 22, 3) := by decide +kernel
theorem dX6_century_11 : decode cX6_century 11 = .ok (.iload_n 2, 1) := by decide +kernel
theorem dX6_century_12 : decode cX6_century 12 = .ok (.iconst 1, 1) := by decide +kernel
theorem dX6_century_13 : decode cX6_century 13 = .ok (.bipush 60, 2) := by decide +kernel
theorem dX6_century_15 : decode cX6_century 15 = .ok (.invokestatic 84, 3) := by decide +kernel
theorem dX6_century_18 : decode cX6_century 18 = .ok (.ifCond .eq 12, 3) := by decide +kernel
theorem dX6_century_21 : decode cX6_century 21 = .ok (.iload_n 3, 1) := by decide +kernel
theorem dX6_century_22 : decode cX6_century 22 = .ok (.iconst 0, 1) := by decide +kernel
theorem dX6_century_23 : decode cX6_century 23 = .ok (.iconst 1, 1) := by decide +kernel
theorem dX6_century_24 : decode cX6_century 24 = .ok (.invokestatic 84, 3) := by decide +kernel
theorem dX6_century_27 : decode cX6_century 27 = .ok (.ifCond .ne 5, 3) := by decide +kernel
theorem dX6_century_30 : decode cX6_century 30 = .ok (.iconst (-1), 1) := by decide +kernel
theorem dX6_century_31 : decode cX6_century 31 = .ok (.ireturn, 1) := by decide +kernel
theorem dX6_century_32 : decode cX6_century 32 = .ok (.aload_n 0, 1) := by decide +kernel
theorem dX6_century_33 : decode cX6_century 33 = .ok (.getfield 39, 3) := by decide +kernel
theorem dX6_century_36 : decode cX6_century 36 = .ok (.aload_n 0, 1) := by decide +kernel
theorem dX6_century_37 : decode cX6_century 37 = .ok (.getfield 35, 3) := by decide +kernel
theorem dX6_century_40 : decode cX6_century 40 = .ok (.invokevirtual 159, 3) := by decide +kernel
theorem dX6_century_43 : decode cX6_century 43 = .ok (.aload_n 0, 1) := by decide +kernel
theorem dX6_century_44 : decode cX6_century 44 = .ok (.getfield 39, 3) := by decide +kernel
theorem dX6_century_47 : decode cX6_century 47 = .ok (.invokevirtual 156, 3) := by decide +kernel
theorem dX6_century_50 : decode cX6_century 50 = .ok (.istore 4, 2) := by decide +kernel
theorem dX6_century_52 : decode cX6_century 52 = .ok (.iconst 0, 1) := by decide +kernel
theorem dX6_century_53 : decode cX6_century 53 = .ok (.istore 5, 2) := by decide +kernel
theorem dX6_century_55 : decode cX6_century 55 = .ok (.iconst 0, 1) := by decide +kernel
theorem dX6_century_56 : decode cX6_century 56 = .ok (.istore 6, 2) := by decide +kernel
theorem dX6_century_58 : decode cX6_century 58 = .ok (.iload 6, 2) := by decide +kernel
theorem dX6_century_60 : decode cX6_century 60 = .ok (.iload_n 2, 1) := by decide +kernel
theorem dX6_century_61 : decode cX6_century 61 = .ok (.if_icmp .ge 52, 3) := by decide +kernel
theorem dX6_century_64 : decode cX6_century 64 = .ok (.aload_n 0, 1) := by decide +kernel
theorem dX6_century_65 : decode cX6_century 65 = .ok (.getfield 39, 3) := by decide +kernel
theorem dX6_century_68 : decode cX6_century 68 = .ok (.iload_n 1, 1) := by decide +kernel
theorem dX6_century_69 : decode cX6_century 69 = .ok (.iload 6, 2) := by decide +kernel
theorem dX6_century_71 : decode cX6_century 71 = .ok (.invokestatic 210, 3) := by decide +kernel
theorem dX6_century_74 : decode cX6_century 74 = .ok (.invokevirtual 213, 3) := by decide +kernel
theorem dX6_century_77 : decode cX6_century 77 = .ok (.aload_n 0, 1) := by decide +kernel
theorem dX6_century_78 : decode cX6_century 78 = .ok (.getfield 39, 3) := by decide +kernel
theorem dX6_century_81 : decode cX6_century 81 = .ok (.invokevirtual 162, 3) := by decide +kernel
theorem dX6_century_84 : decode cX6_century 84 = .ok (.aload_n 0, 1) := by decide +kernel
theorem dX6_century_85 : decode cX6_century 85 = .ok (.getfield 39, 3) := by decide +kernel
theorem dX6_century_88 : decode cX6_century 88 = .ok (.invokevirtual 156, 3) := by decide +kernel
theorem dX6_century_91 : decode cX6_century 91 = .ok (.istore 7, 2) := by decide +kernel
theorem dX6_century_93 : decode cX6_century 93 = .ok (.iload 7, 2) := by decide +kernel
theorem dX6_century_95 : decode cX6_century 95 = .ok (.iload 4, 2) := by decide +kernel
theorem dX6_century_97 : decode cX6_century 97 = .ok (.if_icmp .eq 6, 3) := by decide +kernel
theorem dX6_century_100 : decode cX6_century 100 = .ok (.iinc 5 1, 3) := by decide +kernel
theorem dX6_century_103 : decode cX6_century 103 = .ok (.iload 7, 2) := by decide +kernel
theorem dX6_century_105 : decode cX6_century 105 = .ok (.istore 4, 2) := by decide +kernel
theorem dX6_century_107 : decode cX6_century 107 = .ok (.iinc 6 1, 3) := by decide +kernel
theorem dX6_century_110 : decode cX6_century 110 = .ok (.goto (-52), 3) := by decide +kernel
theorem dX6_century_113 : decode cX6_century 113 = .ok (.iload_n 3, 1) := by decide +kernel
theorem dX6_century_114 : decode cX6_century 114 = .ok (.ifCond .ne 8, 3) := by decide +kernel
theorem dX6_century_117 : decode cX6_century 117 = .ok (.iload 4, 2) := by decide +kernel
theorem dX6_century_119 : decode cX6_century 119 = .ok (.goto 5, 3) := by decide +kernel
theorem dX6_century_122 : decode cX6_century 122 = .ok (.iload 5, 2) := by decide +kernel
theorem dX6_century_124 : decode cX6_century 124 = .ok (.ireturn, 1) := by decide +kernel
theorem dX6_keep_0 : decode cX6_keep 0 = .ok (.aload_n 0, 1) := by decide +kernel
theorem dX6_keep_1 : decode cX6_keep 1 = .ok (.getfield 51, 3) := by decide +kernel
theorem dX6_keep_4 : decode cX6_keep 4 = .ok (.invokevirtual 216, 3) := by decide +kernel
theorem dX6_keep_7 : decode cX6_keep 7 = .ok (.ifCond .eq 6, 3) := by decide +kernel
theorem dX6_keep_10 : decode cX6_keep 10 = .ok (.bipush (-3), 2) := by decide +kernel
theorem dX6_keep_12 : decode cX6_keep 12 = .ok (.ireturn, 1) := by decide +kernel
theorem dX6_keep_13 : decode cX6_keep 13 = .ok (.aload_n 0, 1) := by decide +kernel
theorem dX6_keep_14 : decode cX6_keep 14 = .ok (.getfield 51, 3) := by decide +kernel
theorem dX6_keep_17 : decode cX6_keep 17 = .ok (.aload_n 0, 1) := by decide +kernel
theorem dX6_keep_18 : decode cX6_keep 18 = .ok (.getfield 35, 3) := by decide +kernel
theorem dX6_keep_21 : decode cX6_keep 21 = .ok (.invokevirtual 134, 3) := by decide +kernel
theorem dX6_keep_24 : decode cX6_keep 24 = .ok (.aload_n 0, 1) := by decide +kernel
theorem dX6_keep_25 : decode cX6_keep 25 = .ok (.getfield 51, 3) := by decide +kernel
theorem dX6_keep_28 : decode cX6_keep 28 = .ok (.getfield 153, 3) := by decide +kernel
theorem dX6_keep_31 : decode cX6_keep 31 = .ok (.ireturn, 1) := by decide +kernel
theorem dX6_back_0 : decode cX6_back 0 = .ok (.aload_n 0, 1) := by decide +kernel
theorem dX6_back_1 : decode cX6_back 1 = .ok (.getfield 51, 3) := by decide +kernel
theorem dX6_back_4 : decode cX6_back 4 = .ok (.aload_n 0, 1) := by decide +kernel
theorem dX6_back_5 : decode cX6_back 5 = .ok (.getfield 35, 3) := by decide +kernel
theorem dX6_back_8 : decode cX6_back 8 = .ok (.invokevirtual 149, 3) := by decide +kernel
theorem dX6_back_11 : decode cX6_back 11 = .ok (.ifCond .ne 6, 3) := by decide +kernel
theorem dX6_back_14 : decode cX6_back 14 = .ok (.bipush (-2), 2) := by decide +kernel
theorem dX6_back_16 : decode cX6_back 16 = .ok (.ireturn, 1) := by decide +kernel
theorem dX6_back_17 : decode cX6_back 17 = .ok (.aload_n 0, 1) := by decide +kernel
theorem dX6_back_18 : decode cX6_back 18 = .ok (.getfield 47, 3) := by decide +kernel
theorem dX6_back_21 : decode cX6_back 21 = .ok (.iconst 0, 1) := by decide +kernel
theorem dX6_back_22 : decode cX6_back 22 = .ok (.putfield 153, 3) := by decide +kernel
theorem dX6_back_25 : decode cX6_back 25 = .ok (.aload_n 0, 1) := by decide +kernel
theorem dX6_back_26 : decode cX6_back 26 = .ok (.getfield 51, 3) := by decide +kernel
theorem dX6_back_29 : decode cX6_back 29 = .ok (.getfield 153, 3) := by decide +kernel
theorem dX6_back_32 : decode cX6_back 32 = .ok (.ireturn, 1) := by decide +kernel
theorem dX6_count_0 : decode cX6_count 0 = .ok (.iload_n 1, 1) := by decide +kernel
theorem dX6_count_1 : decode cX6_count 1 = .ok (.tableswitch 123 0 8 #[51, 59, 67, 75, 83, 91, 99, 107, 115], 51) := by decide +kernel
theorem dX6_count_52 : decode cX6_count 52 = .ok (.aload_n 0, 1) := by decide +kernel
theorem dX6_count_53 : decode cX6_count 53 = .ok (.getfield 26, 3) := by decide +kernel
theorem dX6_count_56 : decode cX6_count 56 = .ok (.getfield 92, 3) := by decide +kernel
theorem dX6_count_59 : decode cX6_count 59 = .ok (.ireturn, 1) := by decide +kernel
theorem dX6_count_60 : decode cX6_count 60 = .ok (.aload_n 0, 1) := by decide +kernel
theorem dX6_count_61 : decode cX6_count 61 = .ok (.getfield 26, 3) := by decide +kernel
theorem dX6_count_64 : decode cX6_count 64 = .ok (.getfield 175, 3) := by decide +kernel
theorem dX6_count_67 : decode cX6_count 67 = .ok (.ireturn, 1) := by decide +kernel
theorem dX6_count_68 : decode cX6_count 68 = .ok (.aload_n 0, 1) := by decide +kernel
theorem dX6_count_69 : decode cX6_count 69 = .ok (.getfield 35, 3) := by decide +kernel
theorem dX6_count_72 : decode cX6_count 72 = .ok (.getfield 131, 3) := by decide +kernel
theorem dX6_count_75 : decode cX6_count 75 = .ok (.ireturn, 1) := by decide +kernel
theorem dX6_count_76 : decode cX6_count 76 = .ok (.aload_n 0, 1) := by decide +kernel
theorem dX6_count_77 : decode cX6_count 77 = .ok (.getfield 35, 3) := by decide +kernel
theorem dX6_count_80 : decode cX6_count 80 = .ok (.getfield 142, 3) := by decide +kernel
theorem dX6_count_83 : decode cX6_count 83 = .ok (.ireturn, 1) := by decide +kernel
theorem dX6_count_84 : decode cX6_count 84 = .ok (.aload_n 0, 1) := by decide +kernel
theorem dX6_count_85 : decode cX6_count 85 = .ok (.getfield 35, 3) := by decide +kernel
theorem dX6_count_88 : decode cX6_count 88 = .ok (.invokevirtual 219, 3) := by decide +kernel
theorem dX6_count_91 : decode cX6_count 91 = .ok (.ireturn, 1) := by decide +kernel
theorem dX6_count_92 : decode cX6_count 92 = .ok (.aload_n 0, 1) := by decide +kernel
theorem dX6_count_93 : decode cX6_count 93 = .ok (.getfield 57, 3) := by decide +kernel
theorem dX6_count_96 : decode cX6_count 96 = .ok (.getfield 192, 3) := by decide +kernel
theorem dX6_count_99 : decode cX6_count 99 = .ok (.ireturn, 1) := by decide +kernel
theorem dX6_count_100 : decode cX6_count 100 = .ok (.aload_n 0, 1) := by decide +kernel
theorem dX6_count_101 : decode cX6_count 101 = .ok (.getfield 47, 3) := by decide +kernel
theorem dX6_count_104 : decode cX6_count 104 = .ok (.getfield 153, 3) := by decide +kernel
theorem dX6_count_107 : decode cX6_count 107 = .ok (.ireturn, 1) := by decide +kernel
theorem dX6_count_108 : decode cX6_count 108 = .ok (.aload_n 0, 1) := by decide +kernel
theorem dX6_count_109 : decode cX6_count 109 = .ok (.getfield 51, 3) := by decide +kernel
theorem dX6_count_112 : decode cX6_count 112 = .ok (.getfield 153, 3) := by decide +kernel
theorem dX6_count_115 : decode cX6_count 115 = .ok (.ireturn, 1) := by decide +kernel
theorem dX6_count_116 : decode cX6_count 116 = .ok (.aload_n 0, 1) := by decide +kernel
theorem dX6_count_117 : decode cX6_count 117 = .ok (.getfield 10, 3) := by decide +kernel
theorem dX6_count_120 : decode cX6_count 120 = .ok (.getfield 81, 3) := by decide +kernel
theorem dX6_count_123 : decode cX6_count 123 = .ok (.ireturn, 1) := by decide +kernel
theorem dX6_count_124 : decode cX6_count 124 = .ok (.iconst (-1), 1) := by decide +kernel
theorem dX6_count_125 : decode cX6_count 125 = .ok (.ireturn, 1) := by decide +kernel
theorem dX6_layOut_0 : decode cX6_layOut 0 = .ok (.aload_n 0, 1) := by decide +kernel
theorem dX6_layOut_1 : decode cX6_layOut 1 = .ok (.getfield 19, 3) := by decide +kernel
theorem dX6_layOut_4 : decode cX6_layOut 4 = .ok (.aload_n 0, 1) := by decide +kernel
theorem dX6_layOut_5 : decode cX6_layOut 5 = .ok (.getfield 10, 3) := by decide +kernel
theorem dX6_layOut_8 : decode cX6_layOut 8 = .ok (.invokevirtual 88, 3) := by decide +kernel
theorem dX6_layOut_11 : decode cX6_layOut 11 = .ok (.bipush (-4), 2) := by decide +kernel
theorem dX6_layOut_13 : decode cX6_layOut 13 = .ok (.if_icmp .ne 16, 3) := by decide +kernel
theorem dX6_layOut_16 : decode cX6_layOut 16 = .ok (.aload_n 0, 1) := by decide +kernel
theorem dX6_layOut_17 : decode cX6_layOut 17 = .ok (.getfield 19, 3) := by decide +kernel
theorem dX6_layOut_20 : decode cX6_layOut 20 = .ok (.getfield 222, 3) := by decide +kernel
theorem dX6_layOut_23 : decode cX6_layOut 23 = .ok (.getfield 92, 3) := by decide +kernel
theorem dX6_layOut_26 : decode cX6_layOut 26 = .ok (.ifCond .ne 5, 3) := by decide +kernel
theorem dX6_layOut_29 : decode cX6_layOut 29 = .ok (.iconst 0, 1) := by decide +kernel
theorem dX6_layOut_30 : decode cX6_layOut 30 = .ok (.ireturn, 1) := by decide +kernel
theorem dX6_layOut_31 : decode cX6_layOut 31 = .ok (.aload_n 0, 1) := by decide +kernel
theorem dX6_layOut_32 : decode cX6_layOut 32 = .ok (.getfield 26, 3) := by decide +kernel
theorem dX6_layOut_35 : decode cX6_layOut 35 = .ok (.aload_n 0, 1) := by decide +kernel
theorem dX6_layOut_36 : decode cX6_layOut 36 = .ok (.getfield 19, 3) := by decide +kernel
theorem dX6_layOut_39 : decode cX6_layOut 39 = .ok (.getfield 222, 3) := by decide +kernel
theorem dX6_layOut_42 : decode cX6_layOut 42 = .ok (.invokevirtual 223, 3) := by decide +kernel
theorem dX6_layOut_45 : decode cX6_layOut 45 = .ok (.aload_n 0, 1) := by decide +kernel
theorem dX6_layOut_46 : decode cX6_layOut 46 = .ok (.getfield 35, 3) := by decide +kernel
theorem dX6_layOut_49 : decode cX6_layOut 49 = .ok (.aload_n 0, 1) := by decide +kernel
theorem dX6_layOut_50 : decode cX6_layOut 50 = .ok (.getfield 19, 3) := by decide +kernel
theorem dX6_layOut_53 : decode cX6_layOut 53 = .ok (.getfield 225, 3) := by decide +kernel
theorem dX6_layOut_56 : decode cX6_layOut 56 = .ok (.invokevirtual 159, 3) := by decide +kernel
theorem dX6_layOut_59 : decode cX6_layOut 59 = .ok (.aload_n 0, 1) := by decide +kernel
theorem dX6_layOut_60 : decode cX6_layOut 60 = .ok (.getfield 57, 3) := by decide +kernel
theorem dX6_layOut_63 : decode cX6_layOut 63 = .ok (.iconst 0, 1) := by decide +kernel
theorem dX6_layOut_64 : decode cX6_layOut 64 = .ok (.putfield 192, 3) := by decide +kernel
theorem dX6_layOut_67 : decode cX6_layOut 67 = .ok (.aload_n 0, 1) := by decide +kernel
theorem dX6_layOut_68 : decode cX6_layOut 68 = .ok (.getfield 47, 3) := by decide +kernel
theorem dX6_layOut_71 : decode cX6_layOut 71 = .ok (.iconst 0, 1) := by decide +kernel
theorem dX6_layOut_72 : decode cX6_layOut 72 = .ok (.putfield 153, 3) := by decide +kernel
theorem dX6_layOut_75 : decode cX6_layOut 75 = .ok (.aload_n 0, 1) := by decide +kernel
theorem dX6_layOut_76 : decode cX6_layOut 76 = .ok (.getfield 51, 3) := by decide +kernel
theorem dX6_layOut_79 : decode cX6_layOut 79 = .ok (.iconst 0, 1) := by decide +kernel
theorem dX6_layOut_80 : decode cX6_layOut 80 = .ok (.putfield 153, 3) := by decide +kernel
theorem dX6_layOut_83 : decode cX6_layOut 83 = .ok (.iconst 1, 1) := by decide +kernel
theorem dX6_layOut_84 : decode cX6_layOut 84 = .ok (.ireturn, 1) := by decide +kernel
theorem dX6_governsByWax_0 : decode cX6_governsByWax 0 = .ok (.aload_n 0, 1) := by decide +kernel
theorem dX6_governsByWax_1 : decode cX6_governsByWax 1 = .ok (.getfield 26, 3) := by decide +kernel
theorem dX6_governsByWax_4 : decode cX6_governsByWax 4 = .ok (.iload_n 3, 1) := by decide +kernel
theorem dX6_governsByWax_5 : decode cX6_governsByWax 5 = .ok (.invokevirtual 116, 3) := by decide +kernel
theorem dX6_governsByWax_8 : decode cX6_governsByWax 8 = .ok (.ifCond .eq 20, 3) := by decide +kernel
theorem dX6_governsByWax_11 : decode cX6_governsByWax 11 = .ok (.aload_n 0, 1) := by decide +kernel
theorem dX6_governsByWax_12 : decode cX6_governsByWax 12 = .ok (.getfield 35, 3) := by decide +kernel
theorem dX6_governsByWax_15 : decode cX6_governsByWax 15 = .ok (.getfield 119, 3) := by decide +kernel
theorem dX6_governsByWax_18 : decode cX6_governsByWax 18 = .ok (.iload_n 3, 1) := by decide +kernel
theorem dX6_governsByWax_19 : decode cX6_governsByWax 19 = .ok (.iaload, 1) := by decide +kernel
theorem dX6_governsByWax_20 : decode cX6_governsByWax 20 = .ok (.iload 4, 2) := by decide +kernel
theorem dX6_governsByWax_22 : decode cX6_governsByWax 22 = .ok (.iadd, 1) := by decide +kernel
theorem dX6_governsByWax_23 : decode cX6_governsByWax 23 = .ok (.bipush 9, 2) := by decide +kernel
theorem dX6_governsByWax_25 : decode cX6_governsByWax 25 = .ok (.if_icmp .le 5, 3) := by decide +kernel
theorem dX6_governsByWax_28 : decode cX6_governsByWax 28 = .ok (.iconst 0, 1) := by decide +kernel
theorem dX6_governsByWax_29 : decode cX6_governsByWax 29 = .ok (.ireturn, 1) := by decide +kernel
theorem dX6_governsByWax_30 : decode cX6_governsByWax 30 = .ok (.aload_n 0, 1) := by decide +kernel
theorem dX6_governsByWax_31 : decode cX6_governsByWax 31 = .ok (.getfield 39, 3) := by decide +kernel
theorem dX6_governsByWax_34 : decode cX6_governsByWax 34 = .ok (.aload_n 0, 1) := by decide +kernel
theorem dX6_governsByWax_35 : decode cX6_governsByWax 35 = .ok (.getfield 35, 3) := by decide +kernel
theorem dX6_governsByWax_38 : decode cX6_governsByWax 38 = .ok (.invokevirtual 159, 3) := by decide +kernel
theorem dX6_governsByWax_41 : decode cX6_governsByWax 41 = .ok (.aload_n 0, 1) := by decide +kernel
theorem dX6_governsByWax_42 : decode cX6_governsByWax 42 = .ok (.getfield 39, 3) := by decide +kernel
theorem dX6_governsByWax_45 : decode cX6_governsByWax 45 = .ok (.getfield 119, 3) := by decide +kernel
theorem dX6_governsByWax_48 : decode cX6_governsByWax 48 = .ok (.iload_n 3, 1) := by decide +kernel
theorem dX6_governsByWax_49 : decode cX6_governsByWax 49 = .ok (.dup2, 1) := by decide +kernel
theorem dX6_governsByWax_50 : decode cX6_governsByWax 50 = .ok (.iaload, 1) := by decide +kernel
theorem dX6_governsByWax_51 : decode cX6_governsByWax 51 = .ok (.iload 4, 2) := by decide +kernel
theorem dX6_governsByWax_53 : decode cX6_governsByWax 53 = .ok (.iadd, 1) := by decide +kernel
theorem dX6_governsByWax_54 : decode cX6_governsByWax 54 = .ok (.iastore, 1) := by decide +kernel
theorem dX6_governsByWax_55 : decode cX6_governsByWax 55 = .ok (.aload_n 0, 1) := by decide +kernel
theorem dX6_governsByWax_56 : decode cX6_governsByWax 56 = .ok (.getfield 39, 3) := by decide +kernel
theorem dX6_governsByWax_59 : decode cX6_governsByWax 59 = .ok (.iload_n 2, 1) := by decide +kernel
theorem dX6_governsByWax_60 : decode cX6_governsByWax 60 = .ok (.invokevirtual 138, 3) := by decide +kernel
theorem dX6_governsByWax_63 : decode cX6_governsByWax 63 = .ok (.aload_n 0, 1) := by decide +kernel
theorem dX6_governsByWax_64 : decode cX6_governsByWax 64 = .ok (.getfield 39, 3) := by decide +kernel
theorem dX6_governsByWax_67 : decode cX6_governsByWax 67 = .ok (.invokevirtual 156, 3) := by decide +kernel
theorem dX6_governsByWax_70 : decode cX6_governsByWax 70 = .ok (.iload_n 1, 1) := by decide +kernel
theorem dX6_governsByWax_71 : decode cX6_governsByWax 71 = .ok (.if_icmp .ne 7, 3) := by decide +kernel
theorem dX6_governsByWax_74 : decode cX6_governsByWax 74 = .ok (.iconst 1, 1) := by decide +kernel
theorem dX6_governsByWax_75 : decode cX6_governsByWax 75 = .ok (.goto 4, 3) := by decide +kernel
theorem dX6_governsByWax_78 : decode cX6_governsByWax 78 = .ok (.iconst 0, 1) := by decide +kernel
theorem dX6_governsByWax_79 : decode cX6_governsByWax 79 = .ok (.ireturn, 1) := by decide +kernel
theorem dX6_holdsBySand_0 : decode cX6_holdsBySand 0 = .ok (.aload_n 0, 1) := by decide +kernel
theorem dX6_holdsBySand_1 : decode cX6_holdsBySand 1 = .ok (.getfield 35, 3) := by decide +kernel
theorem dX6_holdsBySand_4 : decode cX6_holdsBySand 4 = .ok (.invokevirtual 156, 3) := by decide +kernel
theorem dX6_holdsBySand_7 : decode cX6_holdsBySand 7 = .ok (.istore 4, 2) := by decide +kernel
theorem dX6_holdsBySand_9 : decode cX6_holdsBySand 9 = .ok (.aload_n 0, 1) := by decide +kernel
theorem dX6_holdsBySand_10 : decode cX6_holdsBySand 10 = .ok (.getfield 39, 3) := by decide +kernel
theorem dX6_holdsBySand_13 : decode cX6_holdsBySand 13 = .ok (.aload_n 0, 1) := by decide +kernel
theorem dX6_holdsBySand_14 : decode cX6_holdsBySand 14 = .ok (.getfield 35, 3) := by decide +kernel
theorem dX6_holdsBySand_17 : decode cX6_holdsBySand 17 = .ok (.invokevirtual 159, 3) := by decide +kernel
theorem dX6_holdsBySand_20 : decode cX6_holdsBySand 20 = .ok (.aload_n 0, 1) := by decide +kernel
theorem dX6_holdsBySand_21 : decode cX6_holdsBySand 21 = .ok (.getfield 39, 3) := by decide +kernel
theorem dX6_holdsBySand_24 : decode cX6_holdsBySand 24 = .ok (.iload_n 2, 1) := by decide +kernel
theorem dX6_holdsBySand_25 : decode cX6_holdsBySand 25 = .ok (.bipush (-2), 2) := by decide +kernel
theorem dX6_holdsBySand_27 : decode cX6_holdsBySand 27 = .ok (.iload_n 3, 1) := by decide +kernel
theorem dX6_holdsBySand_28 : decode cX6_holdsBySand 28 = .ok (.imul, 1) := by decide +kernel
theorem dX6_holdsBySand_29 : decode cX6_holdsBySand 29 = .ok (.invokevirtual 145, 3) := by decide +kernel
theorem dX6_holdsBySand_32 : decode cX6_holdsBySand 32 = .ok (.iconst 0, 1) := by decide +kernel
theorem dX6_holdsBySand_33 : decode cX6_holdsBySand 33 = .ok (.istore 5, 2) := by decide +kernel
theorem dX6_holdsBySand_35 : decode cX6_holdsBySand 35 = .ok (.iload 5, 2) := by decide +kernel
theorem dX6_holdsBySand_37 : decode cX6_holdsBySand 37 = .ok (.iload_n 1, 1) := by decide +kernel
theorem dX6_holdsBySand_38 : decode cX6_holdsBySand 38 = .ok (.if_icmp .ge 30, 3) := by decide +kernel
theorem dX6_holdsBySand_41 : decode cX6_holdsBySand 41 = .ok (.aload_n 0, 1) := by decide +kernel
theorem dX6_holdsBySand_42 : decode cX6_holdsBySand 42 = .ok (.getfield 39, 3) := by decide +kernel
theorem dX6_holdsBySand_45 : decode cX6_holdsBySand 45 = .ok (.invokevirtual 162, 3) := by decide +kernel
theorem dX6_holdsBySand_48 : decode cX6_holdsBySand 48 = .ok (.aload_n 0, 1) := by decide +kernel
theorem dX6_holdsBySand_49 : decode cX6_holdsBySand 49 = .ok (.getfield 39, 3) := by decide +kernel
theorem dX6_holdsBySand_52 : decode cX6_holdsBySand 52 = .ok (.invokevirtual 156, 3) := by decide +kernel
theorem dX6_holdsBySand_55 : decode cX6_holdsBySand 55 = .ok (.iload 4, 2) := by decide +kernel
theorem dX6_holdsBySand_57 : decode cX6_holdsBySand 57 = .ok (.if_icmp .eq 5, 3) := by decide +kernel
theorem dX6_holdsBySand_60 : decode cX6_holdsBySand 60 = .ok (.iconst 0, 1) := by decide +kernel
theorem dX6_holdsBySand_61 : decode cX6_holdsBySand 61 = .ok (.ireturn, 1) := by decide +kernel
theorem dX6_holdsBySand_62 : decode cX6_holdsBySand 62 = .ok (.iinc 5 1, 3) := by decide +kernel
theorem dX6_holdsBySand_65 : decode cX6_holdsBySand 65 = .ok (.goto (-30), 3) := by decide +kernel
theorem dX6_holdsBySand_68 : decode cX6_holdsBySand 68 = .ok (.iconst 1, 1) := by decide +kernel
theorem dX6_holdsBySand_69 : decode cX6_holdsBySand 69 = .ok (.ireturn, 1) := by decide +kernel
theorem dX6_smallestCabinet_0 : decode cX6_smallestCabinet 0 = .ok (.iconst 1, 1) := by decide +kernel
theorem dX6_smallestCabinet_1 : decode cX6_smallestCabinet 1 = .ok (.aload_n 0, 1) := by decide +kernel
theorem dX6_smallestCabinet_2 : decode cX6_smallestCabinet 2 = .ok (.getfield 26, 3) := by decide +kernel
theorem dX6_smallestCabinet_5 : decode cX6_smallestCabinet 5 = .ok (.getfield 92, 3) := by decide +kernel
theorem dX6_smallestCabinet_8 : decode cX6_smallestCabinet 8 = .ok (.ishl, 1) := by decide +kernel
theorem dX6_smallestCabinet_9 : decode cX6_smallestCabinet 9 = .ok (.iconst 1, 1) := by decide +kernel
theorem dX6_smallestCabinet_10 : decode cX6_smallestCabinet 10 = .ok (.isub, 1) := by decide +kernel
theorem dX6_smallestCabinet_11 : decode cX6_smallestCabinet 11 = .ok (.istore_n 1, 1) := by decide +kernel
theorem dX6_smallestCabinet_12 : decode cX6_smallestCabinet 12 = .ok (.aload_n 0, 1) := by decide +kernel
theorem dX6_smallestCabinet_13 : decode cX6_smallestCabinet 13 = .ok (.getfield 35, 3) := by decide +kernel
theorem dX6_smallestCabinet_16 : decode cX6_smallestCabinet 16 = .ok (.iload_n 1, 1) := by decide +kernel
theorem dX6_smallestCabinet_17 : decode cX6_smallestCabinet 17 = .ok (.invokevirtual 228, 3) := by decide +kernel
theorem dX6_smallestCabinet_20 : decode cX6_smallestCabinet 20 = .ok (.istore_n 2, 1) := by decide +kernel
theorem dX6_smallestCabinet_21 : decode cX6_smallestCabinet 21 = .ok (.iload_n 1, 1) := by decide +kernel
theorem dX6_smallestCabinet_22 : decode cX6_smallestCabinet 22 = .ok (.istore_n 3, 1) := by decide +kernel
theorem dX6_smallestCabinet_23 : decode cX6_smallestCabinet 23 = .ok (.iconst 0, 1) := by decide +kernel
theorem dX6_smallestCabinet_24 : decode cX6_smallestCabinet 24 = .ok (.istore 4, 2) := by decide +kernel
theorem dX6_smallestCabinet_26 : decode cX6_smallestCabinet 26 = .ok (.iload 4, 2) := by decide +kernel
theorem dX6_smallestCabinet_28 : decode cX6_smallestCabinet 28 = .ok (.iload_n 1, 1) := by decide +kernel
theorem dX6_smallestCabinet_29 : decode cX6_smallestCabinet 29 = .ok (.if_icmp .ge 39, 3) := by decide +kernel
theorem dX6_smallestCabinet_32 : decode cX6_smallestCabinet 32 = .ok (.iconst 2, 1) := by decide +kernel
theorem dX6_smallestCabinet_33 : decode cX6_smallestCabinet 33 = .ok (.aload_n 0, 1) := by decide +kernel
theorem dX6_smallestCabinet_34 : decode cX6_smallestCabinet 34 = .ok (.getfield 35, 3) := by decide +kernel
theorem dX6_smallestCabinet_37 : decode cX6_smallestCabinet 37 = .ok (.iload 4, 2) := by decide +kernel
theorem dX6_smallestCabinet_39 : decode cX6_smallestCabinet 39 = .ok (.invokevirtual 228, 3) := by decide +kernel
theorem dX6_smallestCabinet_42 : decode cX6_smallestCabinet 42 = .ok (.imul, 1) := by decide +kernel
theorem dX6_smallestCabinet_43 : decode cX6_smallestCabinet 43 = .ok (.iload_n 2, 1) := by decide +kernel
theorem dX6_smallestCabinet_44 : decode cX6_smallestCabinet 44 = .ok (.if_icmp .le 18, 3) := by decide +kernel
theorem dX6_smallestCabinet_47 : decode cX6_smallestCabinet 47 = .ok (.iload 4, 2) := by decide +kernel
theorem dX6_smallestCabinet_49 : decode cX6_smallestCabinet 49 = .ok (.invokestatic 184, 3) := by decide +kernel
theorem dX6_smallestCabinet_52 : decode cX6_smallestCabinet 52 = .ok (.iload_n 3, 1) := by decide +kernel
theorem dX6_smallestCabinet_53 : decode cX6_smallestCabinet 53 = .ok (.invokestatic 184, 3) := by decide +kernel
theorem dX6_smallestCabinet_56 : decode cX6_smallestCabinet 56 = .ok (.if_icmp .ge 6, 3) := by decide +kernel
theorem dX6_smallestCabinet_59 : decode cX6_smallestCabinet 59 = .ok (.iload 4, 2) := by decide +kernel
theorem dX6_smallestCabinet_61 : decode cX6_smallestCabinet 61 = .ok (.istore_n 3, 1) := by decide +kernel
theorem dX6_smallestCabinet_62 : decode cX6_smallestCabinet 62 = .ok (.iinc 4 1, 3) := by decide +kernel
theorem dX6_smallestCabinet_65 : decode cX6_smallestCabinet 65 = .ok (.goto (-39), 3) := by decide +kernel
theorem dX6_smallestCabinet_68 : decode cX6_smallestCabinet 68 = .ok (.iload_n 3, 1) := by decide +kernel
theorem dX6_smallestCabinet_69 : decode cX6_smallestCabinet 69 = .ok (.ireturn, 1) := by decide +kernel
theorem dX6_bitIfSeen_0 : decode cX6_bitIfSeen 0 = .ok (.aload_n 0, 1) := by decide +kernel
theorem dX6_bitIfSeen_1 : decode cX6_bitIfSeen 1 = .ok (.getfield 39, 3) := by decide +kernel
theorem dX6_bitIfSeen_4 : decode cX6_bitIfSeen 4 = .ok (.invokevirtual 162, 3) := by decide +kernel
theorem dX6_bitIfSeen_7 : decode cX6_bitIfSeen 7 = .ok (.aload_n 0, 1) := by decide +kernel
theorem dX6_bitIfSeen_8 : decode cX6_bitIfSeen 8 = .ok (.getfield 57, 3) := by decide +kernel
theorem dX6_bitIfSeen_11 : decode cX6_bitIfSeen 11 = .ok (.aload_n 0, 1) := by decide +kernel
theorem dX6_bitIfSeen_12 : decode cX6_bitIfSeen 12 = .ok (.getfield 39, 3) := by decide +kernel
theorem dX6_bitIfSeen_15 : decode cX6_bitIfSeen 15 = .ok (.invokevirtual 231, 3) := by decide +kernel
theorem dX6_bitIfSeen_18 : decode cX6_bitIfSeen 18 = .ok (.ifCond .eq 9, 3) := by decide +kernel
theorem dX6_bitIfSeen_21 : decode cX6_bitIfSeen 21 = .ok (.iconst 1, 1) := by decide +kernel
theorem dX6_bitIfSeen_22 : decode cX6_bitIfSeen 22 = .ok (.iload_n 1, 1) := by decide +kernel
theorem dX6_bitIfSeen_23 : decode cX6_bitIfSeen 23 = .ok (.ishl, 1) := by decide +kernel
theorem dX6_bitIfSeen_24 : decode cX6_bitIfSeen 24 = .ok (.goto 4, 3) := by decide +kernel
theorem dX6_bitIfSeen_27 : decode cX6_bitIfSeen 27 = .ok (.iconst 0, 1) := by decide +kernel
theorem dX6_bitIfSeen_28 : decode cX6_bitIfSeen 28 = .ok (.ireturn, 1) := by decide +kernel
theorem dX6_weightOf_0 : decode cX6_weightOf 0 = .ok (.iload_n 0, 1) := by decide +kernel
theorem dX6_weightOf_1 : decode cX6_weightOf 1 = .ok (.invokestatic 184, 3) := by decide +kernel
theorem dX6_weightOf_4 : decode cX6_weightOf 4 = .ok (.istore_n 3, 1) := by decide +kernel
theorem dX6_weightOf_5 : decode cX6_weightOf 5 = .ok (.iload_n 2, 1) := by decide +kernel
theorem dX6_weightOf_6 : decode cX6_weightOf 6 = .ok (.iload_n 3, 1) := by decide +kernel
theorem dX6_weightOf_7 : decode cX6_weightOf 7 = .ok (.invokestatic 203, 3) := by decide +kernel
theorem dX6_weightOf_10 : decode cX6_weightOf 10 = .ok (.bipush 10, 2) := by decide +kernel
theorem dX6_weightOf_12 : decode cX6_weightOf 12 = .ok (.iload_n 2, 1) := by decide +kernel
theorem dX6_weightOf_13 : decode cX6_weightOf 13 = .ok (.isub, 1) := by decide +kernel
theorem dX6_weightOf_14 : decode cX6_weightOf 14 = .ok (.iload_n 1, 1) := by decide +kernel
theorem dX6_weightOf_15 : decode cX6_weightOf 15 = .ok (.iload_n 3, 1) := by decide +kernel
theorem dX6_weightOf_16 : decode cX6_weightOf 16 = .ok (.isub, 1) := by decide +kernel
theorem dX6_weightOf_17 : decode cX6_weightOf 17 = .ok (.invokestatic 203, 3) := by decide +kernel
theorem dX6_weightOf_20 : decode cX6_weightOf 20 = .ok (.imul, 1) := by decide +kernel
theorem dX6_weightOf_21 : decode cX6_weightOf 21 = .ok (.ireturn, 1) := by decide +kernel
theorem dX6_governsByPath_0 : decode cX6_governsByPath 0 = .ok (.aload_n 0, 1) := by decide +kernel
theorem dX6_governsByPath_1 : decode cX6_governsByPath 1 = .ok (.getfield 39, 3) := by decide +kernel
theorem dX6_governsByPath_4 : decode cX6_governsByPath 4 = .ok (.aload_n 0, 1) := by decide +kernel
theorem dX6_governsByPath_5 : decode cX6_governsByPath 5 = .ok (.getfield 35, 3) := by decide +kernel
theorem dX6_governsByPath_8 : decode cX6_governsByPath 8 = .ok (.invokevirtual 159, 3) := by decide +kernel
theorem dX6_governsByPath_11 : decode cX6_governsByPath 11 = .ok (.iconst 0, 1) := by decide +kernel
theorem dX6_governsByPath_12 : decode cX6_governsByPath 12 = .ok (.istore 4, 2) := by decide +kernel
theorem dX6_governsByPath_14 : decode cX6_governsByPath 14 = .ok (.iload 4, 2) := by decide +kernel
theorem dX6_governsByPath_16 : decode cX6_governsByPath 16 = .ok (.iload_n 2, 1) := by decide +kernel
theorem dX6_governsByPath_17 : decode cX6_governsByPath 17 = .ok (.if_icmp .ge 49, 3) := by decide +kernel
theorem dX6_governsByPath_20 : decode cX6_governsByPath 20 = .ok (.iload_n 3, 1) := by decide +kernel
theorem dX6_governsByPath_21 : decode cX6_governsByPath 21 = .ok (.iload 4, 2) := by decide +kernel
theorem dX6_governsByPath_23 : decode cX6_governsByPath 23 = .ok (.ishr, 1) := by decide +kernel
theorem dX6_governsByPath_24 : decode cX6_governsByPath 24 = .ok (.iconst 1, 1) := by decide +kernel
theorem dX6_governsByPath_25 : decode cX6_governsByPath 25 = .ok (.iand, 1) := by decide +kernel
theorem dX6_governsByPath_26 : decode cX6_governsByPath 26 = .ok (.iconst 1, 1) := by decide +kernel
theorem dX6_governsByPath_27 : decode cX6_governsByPath 27 = .ok (.if_icmp .ne 26, 3) := by decide +kernel
theorem dX6_governsByPath_30 : decode cX6_governsByPath 30 = .ok (.aload_n 0, 1) := by decide +kernel
theorem dX6_governsByPath_31 : decode cX6_governsByPath 31 = .ok (.getfield 39, 3) := by decide +kernel
theorem dX6_governsByPath_34 : decode cX6_governsByPath 34 = .ok (.aload_n 0, 1) := by decide +kernel
theorem dX6_governsByPath_35 : decode cX6_governsByPath 35 = .ok (.getfield 39, 3) := by decide +kernel
theorem dX6_governsByPath_38 : decode cX6_governsByPath 38 = .ok (.getfield 103, 3) := by decide +kernel
theorem dX6_governsByPath_41 : decode cX6_governsByPath 41 = .ok (.aload_n 0, 1) := by decide +kernel
theorem dX6_governsByPath_42 : decode cX6_governsByPath 42 = .ok (.getfield 39, 3) := by decide +kernel
theorem dX6_governsByPath_45 : decode cX6_governsByPath 45 = .ok (.invokevirtual 156, 3) := by decide +kernel
theorem dX6_governsByPath_48 : decode cX6_governsByPath 48 = .ok (.iaload, 1) := by decide +kernel
theorem dX6_governsByPath_49 : decode cX6_governsByPath 49 = .ok (.iconst 2, 1) := by decide +kernel
theorem dX6_governsByPath_50 : decode cX6_governsByPath 50 = .ok (.invokevirtual 145, 3) := by decide +kernel
theorem dX6_governsByPath_53 : decode cX6_governsByPath 53 = .ok (.aload_n 0, 1) := by decide +kernel
theorem dX6_governsByPath_54 : decode cX6_governsByPath 54 = .ok (.getfield 39, 3) := by decide +kernel
theorem dX6_governsByPath_57 : decode cX6_governsByPath 57 = .ok (.invokevirtual 162, 3) := by decide +kernel
theorem dX6_governsByPath_60 : decode cX6_governsByPath 60 = .ok (.iinc 4 1, 3) := by decide +kernel
theorem dX6_governsByPath_63 : decode cX6_governsByPath 63 = .ok (.goto (-49), 3) := by decide +kernel
theorem dX6_governsByPath_66 : decode cX6_governsByPath 66 = .ok (.aload_n 0, 1) := by decide +kernel
theorem dX6_governsByPath_67 : decode cX6_governsByPath 67 = .ok (.getfield 39, 3) := by decide +kernel
theorem dX6_governsByPath_70 : decode cX6_governsByPath 70 = .ok (.invokevirtual 156, 3) := by decide +kernel
theorem dX6_governsByPath_73 : decode cX6_governsByPath 73 = .ok (.iload_n 1, 1) := by decide +kernel
theorem dX6_governsByPath_74 : decode cX6_governsByPath 74 = .ok (.if_icmp .ne 7, 3) := by decide +kernel
theorem dX6_governsByPath_77 : decode cX6_governsByPath 77 = .ok (.iconst 1, 1) := by decide +kernel
theorem dX6_governsByPath_78 : decode cX6_governsByPath 78 = .ok (.goto 4, 3) := by decide +kernel
theorem dX6_governsByPath_81 : decode cX6_governsByPath 81 = .ok (.iconst 0, 1) := by decide +kernel
theorem dX6_governsByPath_82 : decode cX6_governsByPath 82 = .ok (.ireturn, 1) := by decide +kernel
theorem dX6_draw_0 : decode cX6_draw 0 = .ok (.ldc2_w 234, 3) := by decide +kernel
theorem dX6_draw_3 : decode cX6_draw 3 = .ok (.iload_n 0, 1) := by decide +kernel
theorem dX6_draw_4 : decode cX6_draw 4 = .ok (.i2l, 1) := by decide +kernel
theorem dX6_draw_5 : decode cX6_draw 5 = .ok (.lmul, 1) := by decide +kernel
theorem dX6_draw_6 : decode cX6_draw 6 = .ok (.ldc2_w 236, 3) := by decide +kernel
theorem dX6_draw_9 : decode cX6_draw 9 = .ok (.iload_n 1, 1) := by decide +kernel
theorem dX6_draw_10 : decode cX6_draw 10 = .ok (.i2l, 1) := by decide +kernel
theorem dX6_draw_11 : decode cX6_draw 11 = .ok (.lmul, 1) := by decide +kernel
theorem dX6_draw_12 : decode cX6_draw 12 = .ok (.ladd, 1) := by decide +kernel
theorem dX6_draw_13 : decode cX6_draw 13 = .ok (.lconst 1, 1) := by decide +kernel
theorem dX6_draw_14 : decode cX6_draw 14 = .ok (.ladd, 1) := by decide +kernel
theorem dX6_draw_15 : decode cX6_draw 15 = .ok (.lstore_n 2, 1) := by decide +kernel
theorem dX6_draw_16 : decode cX6_draw 16 = .ok (.lload_n 2, 1) := by decide +kernel
theorem dX6_draw_17 : decode cX6_draw 17 = .ok (.lload_n 2, 1) := by decide +kernel
theorem dX6_draw_18 : decode cX6_draw 18 = .ok (.lmul, 1) := by decide +kernel
theorem dX6_draw_19 : decode cX6_draw 19 = .ok (.ldc2_w 238, 3) := by decide +kernel
theorem dX6_draw_22 : decode cX6_draw 22 = .ok (.lrem, 1) := by decide +kernel
theorem dX6_draw_23 : decode cX6_draw 23 = .ok (.ldc2_w 240, 3) := by decide +kernel
theorem dX6_draw_26 : decode cX6_draw 26 = .ok (.ldiv, 1) := by decide +kernel
theorem dX6_draw_27 : decode cX6_draw 27 = .ok (.l2i, 1) := by decide +kernel
theorem dX6_draw_28 : decode cX6_draw 28 = .ok (.ireturn, 1) := by decide +kernel
theorem dX6_power_0 : decode cX6_power 0 = .ok (.iconst 1, 1) := by decide +kernel
theorem dX6_power_1 : decode cX6_power 1 = .ok (.istore_n 2, 1) := by decide +kernel
theorem dX6_power_2 : decode cX6_power 2 = .ok (.iconst 0, 1) := by decide +kernel
theorem dX6_power_3 : decode cX6_power 3 = .ok (.istore_n 3, 1) := by decide +kernel
theorem dX6_power_4 : decode cX6_power 4 = .ok (.iload_n 3, 1) := by decide +kernel
theorem dX6_power_5 : decode cX6_power 5 = .ok (.iload_n 1, 1) := by decide +kernel
theorem dX6_power_6 : decode cX6_power 6 = .ok (.if_icmp .ge 13, 3) := by decide +kernel
theorem dX6_power_9 : decode cX6_power 9 = .ok (.iload_n 2, 1) := by decide +kernel
theorem dX6_power_10 : decode cX6_power 10 = .ok (.iload_n 0, 1) := by decide +kernel
theorem dX6_power_11 : decode cX6_power 11 = .ok (.imul, 1) := by decide +kernel
theorem dX6_power_12 : decode cX6_power 12 = .ok (.istore_n 2, 1) := by decide +kernel
theorem dX6_power_13 : decode cX6_power 13 = .ok (.iinc 3 1, 3) := by decide +kernel
theorem dX6_power_16 : decode cX6_power 16 = .ok (.goto (-12), 3) := by decide +kernel
theorem dX6_power_19 : decode cX6_power 19 = .ok (.iload_n 2, 1) := by decide +kernel
theorem dX6_power_20 : decode cX6_power 20 = .ok (.ireturn, 1) := by decide +kernel
theorem dX6_commonDivisor_0 : decode cX6_commonDivisor 0 = .ok (.iload_n 1, 1) := by decide +kernel
theorem dX6_commonDivisor_1 : decode cX6_commonDivisor 1 = .ok (.istore_n 2, 1) := by decide +kernel
theorem dX6_commonDivisor_2 : decode cX6_commonDivisor 2 = .ok (.iload_n 0, 1) := by decide +kernel
theorem dX6_commonDivisor_3 : decode cX6_commonDivisor 3 = .ok (.istore_n 3, 1) := by decide +kernel
theorem dX6_commonDivisor_4 : decode cX6_commonDivisor 4 = .ok (.iconst 0, 1) := by decide +kernel
theorem dX6_commonDivisor_5 : decode cX6_commonDivisor 5 = .ok (.istore 4, 2) := by decide +kernel
theorem dX6_commonDivisor_7 : decode cX6_commonDivisor 7 = .ok (.iload 4, 2) := by decide +kernel
theorem dX6_commonDivisor_9 : decode cX6_commonDivisor 9 = .ok (.bipush 100, 2) := by decide +kernel
theorem dX6_commonDivisor_11 : decode cX6_commonDivisor 11 = .ok (.if_icmp .ge 23, 3) := by decide +kernel
theorem dX6_commonDivisor_14 : decode cX6_commonDivisor 14 = .ok (.iload_n 3, 1) := by decide +kernel
theorem dX6_commonDivisor_15 : decode cX6_commonDivisor 15 = .ok (.ifCond .eq 19, 3) := by decide +kernel
theorem dX6_commonDivisor_18 : decode cX6_commonDivisor 18 = .ok (.iload_n 2, 1) := by decide +kernel
theorem dX6_commonDivisor_19 : decode cX6_commonDivisor 19 = .ok (.iload_n 3, 1) := by decide +kernel
theorem dX6_commonDivisor_20 : decode cX6_commonDivisor 20 = .ok (.irem, 1) := by decide +kernel
theorem dX6_commonDivisor_21 : decode cX6_commonDivisor 21 = .ok (.istore 5, 2) := by decide +kernel
theorem dX6_commonDivisor_23 : decode cX6_commonDivisor 23 = .ok (.iload_n 3, 1) := by decide +kernel
theorem dX6_commonDivisor_24 : decode cX6_commonDivisor 24 = .ok (.istore_n 2, 1) := by decide +kernel
theorem dX6_commonDivisor_25 : decode cX6_commonDivisor 25 = .ok (.iload 5, 2) := by decide +kernel
theorem dX6_commonDivisor_27 : decode cX6_commonDivisor 27 = .ok (.istore_n 3, 1) := by decide +kernel
theorem dX6_commonDivisor_28 : decode cX6_commonDivisor 28 = .ok (.iinc 4 1, 3) := by decide +kernel
theorem dX6_commonDivisor_31 : decode cX6_commonDivisor 31 = .ok (.goto (-24), 3) := by decide +kernel
theorem dX6_commonDivisor_34 : decode cX6_commonDivisor 34 = .ok (.iload_n 2, 1) := by decide +kernel
theorem dX6_commonDivisor_35 : decode cX6_commonDivisor 35 = .ok (.iconst 1, 1) := by decide +kernel
theorem dX6_commonDivisor_36 : decode cX6_commonDivisor 36 = .ok (.invokestatic 242, 3) := by decide +kernel
theorem dX6_commonDivisor_39 : decode cX6_commonDivisor 39 = .ok (.ireturn, 1) := by decide +kernel
theorem dX6_within_0 : decode cX6_within 0 = .ok (.iload_n 0, 1) := by decide +kernel
theorem dX6_within_1 : decode cX6_within 1 = .ok (.iload_n 1, 1) := by decide +kernel
theorem dX6_within_2 : decode cX6_within 2 = .ok (.if_icmp .lt 12, 3) := by decide +kernel
theorem dX6_within_5 : decode cX6_within 5 = .ok (.iload_n 0, 1) := by decide +kernel
theorem dX6_within_6 : decode cX6_within 6 = .ok (.iload_n 2, 1) := by decide +kernel
theorem dX6_within_7 : decode cX6_within 7 = .ok (.if_icmp .gt 7, 3) := by decide +kernel
theorem dX6_within_10 : decode cX6_within 10 = .ok (.iconst 1, 1) := by decide +kernel
theorem dX6_within_11 : decode cX6_within 11 = .ok (.goto 4, 3) := by decide +kernel
theorem dX6_within_14 : decode cX6_within 14 = .ok (.iconst 0, 1) := by decide +kernel
theorem dX6_within_15 : decode cX6_within 15 = .ok (.ireturn, 1) := by decide +kernel
theorem dJ6_bitCount_0f7a4_0 : decode cJ6_bitCount_0f7a4 0 = .ok (.iload_n 0, 1) := by decide +kernel
theorem dJ6_bitCount_0f7a4_1 : decode cJ6_bitCount_0f7a4 1 = .ok (.iload_n 0, 1) := by decide +kernel
theorem dJ6_bitCount_0f7a4_2 : decode cJ6_bitCount_0f7a4 2 = .ok (.iconst 1, 1) := by decide +kernel
theorem dJ6_bitCount_0f7a4_3 : decode cJ6_bitCount_0f7a4 3 = .ok (.iushr, 1) := by decide +kernel
theorem dJ6_bitCount_0f7a4_4 : decode cJ6_bitCount_0f7a4 4 = .ok (.ldc_w 265, 3) := by decide +kernel
theorem dJ6_bitCount_0f7a4_7 : decode cJ6_bitCount_0f7a4 7 = .ok (.iand, 1) := by decide +kernel
theorem dJ6_bitCount_0f7a4_8 : decode cJ6_bitCount_0f7a4 8 = .ok (.isub, 1) := by decide +kernel
theorem dJ6_bitCount_0f7a4_9 : decode cJ6_bitCount_0f7a4 9 = .ok (.istore_n 0, 1) := by decide +kernel
theorem dJ6_bitCount_0f7a4_10 : decode cJ6_bitCount_0f7a4 10 = .ok (.iload_n 0, 1) := by decide +kernel
theorem dJ6_bitCount_0f7a4_11 : decode cJ6_bitCount_0f7a4 11 = .ok (.ldc_w 266, 3) := by decide +kernel
theorem dJ6_bitCount_0f7a4_14 : decode cJ6_bitCount_0f7a4 14 = .ok (.iand, 1) := by decide +kernel
theorem dJ6_bitCount_0f7a4_15 : decode cJ6_bitCount_0f7a4 15 = .ok (.iload_n 0, 1) := by decide +kernel
theorem dJ6_bitCount_0f7a4_16 : decode cJ6_bitCount_0f7a4 16 = .ok (.iconst 2, 1) := by decide +kernel
theorem dJ6_bitCount_0f7a4_17 : decode cJ6_bitCount_0f7a4 17 = .ok (.iushr, 1) := by decide +kernel
theorem dJ6_bitCount_0f7a4_18 : decode cJ6_bitCount_0f7a4 18 = .ok (.ldc_w 266, 3) := by decide +kernel
theorem dJ6_bitCount_0f7a4_21 : decode cJ6_bitCount_0f7a4 21 = .ok (.iand, 1) := by decide +kernel
theorem dJ6_bitCount_0f7a4_22 : decode cJ6_bitCount_0f7a4 22 = .ok (.iadd, 1) := by decide +kernel
theorem dJ6_bitCount_0f7a4_23 : decode cJ6_bitCount_0f7a4 23 = .ok (.istore_n 0, 1) := by decide +kernel
theorem dJ6_bitCount_0f7a4_24 : decode cJ6_bitCount_0f7a4 24 = .ok (.iload_n 0, 1) := by decide +kernel
theorem dJ6_bitCount_0f7a4_25 : decode cJ6_bitCount_0f7a4 25 = .ok (.iload_n 0, 1) := by decide +kernel
theorem dJ6_bitCount_0f7a4_26 : decode cJ6_bitCount_0f7a4 26 = .ok (.iconst 4, 1) := by decide +kernel
theorem dJ6_bitCount_0f7a4_27 : decode cJ6_bitCount_0f7a4 27 = .ok (.iushr, 1) := by decide +kernel
theorem dJ6_bitCount_0f7a4_28 : decode cJ6_bitCount_0f7a4 28 = .ok (.iadd, 1) := by decide +kernel
theorem dJ6_bitCount_0f7a4_29 : decode cJ6_bitCount_0f7a4 29 = .ok (.ldc_w 267, 3) := by decide +kernel
theorem dJ6_bitCount_0f7a4_32 : decode cJ6_bitCount_0f7a4 32 = .ok (.iand, 1) := by decide +kernel
theorem dJ6_bitCount_0f7a4_33 : decode cJ6_bitCount_0f7a4 33 = .ok (.istore_n 0, 1) := by decide +kernel
theorem dJ6_bitCount_0f7a4_34 : decode cJ6_bitCount_0f7a4 34 = .ok (.iload_n 0, 1) := by decide +kernel
theorem dJ6_bitCount_0f7a4_35 : decode cJ6_bitCount_0f7a4 35 = .ok (.iload_n 0, 1) := by decide +kernel
theorem dJ6_bitCount_0f7a4_36 : decode cJ6_bitCount_0f7a4 36 = .ok (.bipush 8, 2) := by decide +kernel
theorem dJ6_bitCount_0f7a4_38 : decode cJ6_bitCount_0f7a4 38 = .ok (.iushr, 1) := by decide +kernel
theorem dJ6_bitCount_0f7a4_39 : decode cJ6_bitCount_0f7a4 39 = .ok (.iadd, 1) := by decide +kernel
theorem dJ6_bitCount_0f7a4_40 : decode cJ6_bitCount_0f7a4 40 = .ok (.istore_n 0, 1) := by decide +kernel
theorem dJ6_bitCount_0f7a4_41 : decode cJ6_bitCount_0f7a4 41 = .ok (.iload_n 0, 1) := by decide +kernel
theorem dJ6_bitCount_0f7a4_42 : decode cJ6_bitCount_0f7a4 42 = .ok (.iload_n 0, 1) := by decide +kernel
theorem dJ6_bitCount_0f7a4_43 : decode cJ6_bitCount_0f7a4 43 = .ok (.bipush 16, 2) := by decide +kernel
theorem dJ6_bitCount_0f7a4_45 : decode cJ6_bitCount_0f7a4 45 = .ok (.iushr, 1) := by decide +kernel
theorem dJ6_bitCount_0f7a4_46 : decode cJ6_bitCount_0f7a4 46 = .ok (.iadd, 1) := by decide +kernel
theorem dJ6_bitCount_0f7a4_47 : decode cJ6_bitCount_0f7a4 47 = .ok (.istore_n 0, 1) := by decide +kernel
theorem dJ6_bitCount_0f7a4_48 : decode cJ6_bitCount_0f7a4 48 = .ok (.iload_n 0, 1) := by decide +kernel
theorem dJ6_bitCount_0f7a4_49 : decode cJ6_bitCount_0f7a4 49 = .ok (.bipush 63, 2) := by decide +kernel
theorem dJ6_bitCount_0f7a4_51 : decode cJ6_bitCount_0f7a4 51 = .ok (.iand, 1) := by decide +kernel
theorem dJ6_bitCount_0f7a4_52 : decode cJ6_bitCount_0f7a4 52 = .ok (.ireturn, 1) := by decide +kernel
theorem dJ9_max_7cf53_0 : decode cJ9_max_7cf53 0 = .ok (.iload_n 0, 1) := by decide +kernel
theorem dJ9_max_7cf53_1 : decode cJ9_max_7cf53 1 = .ok (.iload_n 1, 1) := by decide +kernel
theorem dJ9_max_7cf53_2 : decode cJ9_max_7cf53 2 = .ok (.if_icmp .lt 7, 3) := by decide +kernel
theorem dJ9_max_7cf53_5 : decode cJ9_max_7cf53 5 = .ok (.iload_n 0, 1) := by decide +kernel
theorem dJ9_max_7cf53_6 : decode cJ9_max_7cf53 6 = .ok (.goto 4, 3) := by decide +kernel
theorem dJ9_max_7cf53_9 : decode cJ9_max_7cf53 9 = .ok (.iload_n 1, 1) := by decide +kernel
theorem dJ9_max_7cf53_10 : decode cJ9_max_7cf53 10 = .ok (.ireturn, 1) := by decide +kernel
theorem dJ9_min_7cf53_0 : decode cJ9_min_7cf53 0 = .ok (.iload_n 0, 1) := by decide +kernel
theorem dJ9_min_7cf53_1 : decode cJ9_min_7cf53 1 = .ok (.iload_n 1, 1) := by decide +kernel
theorem dJ9_min_7cf53_2 : decode cJ9_min_7cf53 2 = .ok (.if_icmp .gt 7, 3) := by decide +kernel
theorem dJ9_min_7cf53_5 : decode cJ9_min_7cf53 5 = .ok (.iload_n 0, 1) := by decide +kernel
theorem dJ9_min_7cf53_6 : decode cJ9_min_7cf53 6 = .ok (.goto 4, 3) := by decide +kernel
theorem dJ9_min_7cf53_9 : decode cJ9_min_7cf53 9 = .ok (.iload_n 1, 1) := by decide +kernel
theorem dJ9_min_7cf53_10 : decode cJ9_min_7cf53 10 = .ok (.ireturn, 1) := by decide +kernel
theorem dJ0_length_8abf5_0 : decode cJ0_length_8abf5 0 = .ok (.aload_n 0, 1) := by decide +kernel
theorem dJ0_length_8abf5_1 : decode cJ0_length_8abf5 1 = .ok (.getfield 9, 3) := by decide +kernel
theorem dJ0_length_8abf5_4 : decode cJ0_length_8abf5 4 = .ok (.arraylength, 1) := by decide +kernel
theorem dJ0_length_8abf5_5 : decode cJ0_length_8abf5 5 = .ok (.aload_n 0, 1) := by decide +kernel
theorem dJ0_length_8abf5_6 : decode cJ0_length_8abf5 6 = .ok (.invokevirtual 335, 3) := by decide +kernel
theorem dJ0_length_8abf5_9 : decode cJ0_length_8abf5 9 = .ok (.ishr, 1) := by decide +kernel
theorem dJ0_length_8abf5_10 : decode cJ0_length_8abf5 10 = .ok (.ireturn, 1) := by decide +kernel
theorem dJ0_charAt_5068e_0 : decode cJ0_charAt_5068e 0 = .ok (.aload_n 0, 1) := by decide +kernel
theorem dJ0_charAt_5068e_1 : decode cJ0_charAt_5068e 1 = .ok (.invokevirtual 492, 3) := by decide +kernel
theorem dJ0_charAt_5068e_4 : decode cJ0_charAt_5068e 4 = .ok (.ifCond .eq 12, 3) := by decide +kernel
theorem dJ0_charAt_5068e_7 : decode cJ0_charAt_5068e 7 = .ok (.aload_n 0, 1) := by decide +kernel
theorem dJ0_charAt_5068e_8 : decode cJ0_charAt_5068e 8 = .ok (.getfield 9, 3) := by decide +kernel
theorem dJ0_charAt_5068e_11 : decode cJ0_charAt_5068e 11 = .ok (.iload_n 1, 1) := by decide +kernel
theorem dJ0_charAt_5068e_12 : decode cJ0_charAt_5068e 12 = .ok (.invokestatic 495, 3) := by decide +kernel
theorem dJ0_charAt_5068e_15 : decode cJ0_charAt_5068e 15 = .ok (.ireturn, 1) := by decide +kernel
theorem dJ0_charAt_5068e_16 : decode cJ0_charAt_5068e 16 = .ok (.aload_n 0, 1) := by decide +kernel
theorem dJ0_charAt_5068e_17 : decode cJ0_charAt_5068e 17 = .ok (.getfield 9, 3) := by decide +kernel
theorem dJ0_charAt_5068e_20 : decode cJ0_charAt_5068e 20 = .ok (.iload_n 1, 1) := by decide +kernel
theorem dJ0_charAt_5068e_21 : decode cJ0_charAt_5068e 21 = .ok (.invokestatic 498, 3) := by decide +kernel
theorem dJ0_charAt_5068e_24 : decode cJ0_charAt_5068e 24 = .ok (.ireturn, 1) := by decide +kernel
theorem dJ0_coder_7d493_0 : decode cJ0_coder_7d493 0 = .ok (.getstatic 38, 3) := by decide +kernel
theorem dJ0_coder_7d493_3 : decode cJ0_coder_7d493 3 = .ok (.ifCond .eq 10, 3) := by decide +kernel
theorem dJ0_coder_7d493_6 : decode cJ0_coder_7d493 6 = .ok (.aload_n 0, 1) := by decide +kernel
theorem dJ0_coder_7d493_7 : decode cJ0_coder_7d493 7 = .ok (.getfield 15, 3) := by decide +kernel
theorem dJ0_coder_7d493_10 : decode cJ0_coder_7d493 10 = .ok (.goto 4, 3) := by decide +kernel
theorem dJ0_coder_7d493_13 : decode cJ0_coder_7d493 13 = .ok (.iconst 1, 1) := by decide +kernel
theorem dJ0_coder_7d493_14 : decode cJ0_coder_7d493 14 = .ok (.ireturn, 1) := by decide +kernel
theorem dJ0_isLatin1_aae02_0 : decode cJ0_isLatin1_aae02 0 = .ok (.getstatic 38, 3) := by decide +kernel
theorem dJ0_isLatin1_aae02_3 : decode cJ0_isLatin1_aae02 3 = .ok (.ifCond .eq 14, 3) := by decide +kernel
theorem dJ0_isLatin1_aae02_6 : decode cJ0_isLatin1_aae02 6 = .ok (.aload_n 0, 1) := by decide +kernel
theorem dJ0_isLatin1_aae02_7 : decode cJ0_isLatin1_aae02 7 = .ok (.getfield 15, 3) := by decide +kernel
theorem dJ0_isLatin1_aae02_10 : decode cJ0_isLatin1_aae02 10 = .ok (.ifCond .ne 7, 3) := by decide +kernel
theorem dJ0_isLatin1_aae02_13 : decode cJ0_isLatin1_aae02 13 = .ok (.iconst 1, 1) := by decide +kernel
theorem dJ0_isLatin1_aae02_14 : decode cJ0_isLatin1_aae02 14 = .ok (.goto 4, 3) := by decide +kernel
theorem dJ0_isLatin1_aae02_17 : decode cJ0_isLatin1_aae02 17 = .ok (.iconst 0, 1) := by decide +kernel
theorem dJ0_isLatin1_aae02_18 : decode cJ0_isLatin1_aae02 18 = .ok (.ireturn, 1) := by decide +kernel
theorem dJ0_checkIndex_df160_0 : decode cJ0_checkIndex_df160 0 = .ok (.iload_n 0, 1) := by decide +kernel
theorem dJ0_checkIndex_df160_1 : decode cJ0_checkIndex_df160 1 = .ok (.iload_n 1, 1) := by decide +kernel
theorem dJ0_checkIndex_df160_2 : decode cJ0_checkIndex_df160 2 = .ok (.getstatic 1053, 3) := by decide +kernel
theorem dJ0_checkIndex_df160_5 : decode cJ0_checkIndex_df160 5 = .ok (.invokestatic 1059, 3) := by decide +kernel
theorem dJ0_checkIndex_df160_8 : decode cJ0_checkIndex_df160 8 = .ok (.pop, 1) := by decide +kernel
theorem dJ0_checkIndex_df160_9 : decode cJ0_checkIndex_df160 9 = .ok (.return_, 1) := by decide +kernel
theorem dJ1_charAt_3b067_0 : decode cJ1_charAt_3b067 0 = .ok (.iload_n 1, 1) := by decide +kernel
theorem dJ1_charAt_3b067_1 : decode cJ1_charAt_3b067 1 = .ok (.aload_n 0, 1) := by decide +kernel
theorem dJ1_charAt_3b067_2 : decode cJ1_charAt_3b067 2 = .ok (.arraylength, 1) := by decide +kernel
theorem dJ1_charAt_3b067_3 : decode cJ1_charAt_3b067 3 = .ok (.invokestatic 9, 3) := by decide +kernel
theorem dJ1_charAt_3b067_6 : decode cJ1_charAt_3b067 6 = .ok (.aload_n 0, 1) := by decide +kernel
theorem dJ1_charAt_3b067_7 : decode cJ1_charAt_3b067 7 = .ok (.iload_n 1, 1) := by decide +kernel
theorem dJ1_charAt_3b067_8 : decode cJ1_charAt_3b067 8 = .ok (.baload, 1) := by decide +kernel
theorem dJ1_charAt_3b067_9 : decode cJ1_charAt_3b067 9 = .ok (.sipush 255, 3) := by decide +kernel
theorem dJ1_charAt_3b067_12 : decode cJ1_charAt_3b067 12 = .ok (.iand, 1) := by decide +kernel
theorem dJ1_charAt_3b067_13 : decode cJ1_charAt_3b067 13 = .ok (.i2c, 1) := by decide +kernel
theorem dJ1_charAt_3b067_14 : decode cJ1_charAt_3b067 14 = .ok (.ireturn, 1) := by decide +kernel
theorem dJ2_getChar_3b067_0 : decode cJ2_getChar_3b067 0 = .ok (.getstatic 44, 3) := by decide +kernel
theorem dJ2_getChar_3b067_3 : decode cJ2_getChar_3b067 3 = .ok (.ifCond .ne 25, 3) := by decide +kernel
theorem dJ2_getChar_3b067_6 : decode cJ2_getChar_3b067 6 = .ok (.iload_n 1, 1) := by decide +kernel
theorem dJ2_getChar_3b067_7 : decode cJ2_getChar_3b067 7 = .ok (.ifCond .lt 11, 3) := by decide +kernel
theorem dJ2_getChar_3b067_10 : decode cJ2_getChar_3b067 10 = .ok (.iload_n 1, 1) := by decide +kernel
theorem dJ2_getChar_3b067_11 : decode cJ2_getChar_3b067 11 = .ok (.aload_n 0, 1) := by decide +kernel
theorem dJ2_getChar_3b067_12 : decode cJ2_getChar_3b067 12 = .ok (.invokestatic 48, 3) := by decide +kernel
theorem dJ2_getChar_3b067_15 : decode cJ2_getChar_3b067 15 = .ok (.if_icmp .lt 13, 3) := by decide +kernel
theorem dJ2_getChar_3b067_18 : decode cJ2_getChar_3b067 18 = .ok (.new 52, 3) := by decide +kernel
theorem dJ2_getChar_3b067_21 : decode cJ2_getChar_3b067 21 = .ok (.dup, 1) := by decide +kernel
theorem dJ2_getChar_3b067_22 : decode cJ2_getChar_3b067 22 = .ok (.ldc 54, 2) := by decide +kernel
theorem dJ2_getChar_3b067_24 : decode cJ2_getChar_3b067 24 = .ok (.invokespecial 56, 3) := by decide +kernel
theorem dJ2_getChar_3b067_27 : decode cJ2_getChar_3b067 27 = .ok (.athrow, 1) := by decide +kernel
theorem dJ2_getChar_3b067_28 : decode cJ2_getChar_3b067 28 = .ok (.iload_n 1, 1) := by decide +kernel
theorem dJ2_getChar_3b067_29 : decode cJ2_getChar_3b067 29 = .ok (.iconst 1, 1) := by decide +kernel
theorem dJ2_getChar_3b067_30 : decode cJ2_getChar_3b067 30 = .ok (.ishl, 1) := by decide +kernel
theorem dJ2_getChar_3b067_31 : decode cJ2_getChar_3b067 31 = .ok (.istore_n 1, 1) := by decide +kernel
theorem dJ2_getChar_3b067_32 : decode cJ2_getChar_3b067 32 = .ok (.aload_n 0, 1) := by decide +kernel
theorem dJ2_getChar_3b067_33 : decode cJ2_getChar_3b067 33 = .ok (.iload_n 1, 1) := by decide +kernel
theorem dJ2_getChar_3b067_34 : decode cJ2_getChar_3b067 34 = .ok (.iinc 1 1, 3) := by decide +kernel
theorem dJ2_getChar_3b067_37 : decode cJ2_getChar_3b067 37 = .ok (.baload, 1) := by decide +kernel
theorem dJ2_getChar_3b067_38 : decode cJ2_getChar_3b067 38 = .ok (.sipush 255, 3) := by decide +kernel
theorem dJ2_getChar_3b067_41 : decode cJ2_getChar_3b067 41 = .ok (.iand, 1) := by decide +kernel
theorem dJ2_getChar_3b067_42 : decode cJ2_getChar_3b067 42 = .ok (.getstatic 59, 3) := by decide +kernel
theorem dJ2_getChar_3b067_45 : decode cJ2_getChar_3b067 45 = .ok (.ishl, 1) := by decide +kernel
theorem dJ2_getChar_3b067_46 : decode cJ2_getChar_3b067 46 = .ok (.aload_n 0, 1) := by decide +kernel
theorem dJ2_getChar_3b067_47 : decode cJ2_getChar_3b067 47 = .ok (.iload_n 1, 1) := by decide +kernel
theorem dJ2_getChar_3b067_48 : decode cJ2_getChar_3b067 48 = .ok (.baload, 1) := by decide +kernel
theorem dJ2_getChar_3b067_49 : decode cJ2_getChar_3b067 49 = .ok (.sipush 255, 3) := by decide +kernel
theorem dJ2_getChar_3b067_52 : decode cJ2_getChar_3b067 52 = .ok (.iand, 1) := by decide +kernel
theorem dJ2_getChar_3b067_53 : decode cJ2_getChar_3b067 53 = .ok (.getstatic 63, 3) := by decide +kernel
theorem dJ2_getChar_3b067_56 : decode cJ2_getChar_3b067 56 = .ok (.ishl, 1) := by decide +kernel
theorem dJ2_getChar_3b067_57 : decode cJ2_getChar_3b067 57 = .ok (.ior, 1) := by decide +kernel
theorem dJ2_getChar_3b067_58 : decode cJ2_getChar_3b067 58 = .ok (.i2c, 1) := by decide +kernel
theorem dJ2_getChar_3b067_59 : decode cJ2_getChar_3b067 59 = .ok (.ireturn, 1) := by decide +kernel
theorem dJ2_length_9d52b_0 : decode cJ2_length_9d52b 0 = .ok (.aload_n 0, 1) := by decide +kernel
theorem dJ2_length_9d52b_1 : decode cJ2_length_9d52b 1 = .ok (.arraylength, 1) := by decide +kernel
theorem dJ2_length_9d52b_2 : decode cJ2_length_9d52b 2 = .ok (.iconst 1, 1) := by decide +kernel
theorem dJ2_length_9d52b_3 : decode cJ2_length_9d52b 3 = .ok (.ishr, 1) := by decide +kernel
theorem dJ2_length_9d52b_4 : decode cJ2_length_9d52b 4 = .ok (.ireturn, 1) := by decide +kernel
theorem dJ2_charAt_3b067_0 : decode cJ2_charAt_3b067 0 = .ok (.iload_n 1, 1) := by decide +kernel
theorem dJ2_charAt_3b067_1 : decode cJ2_charAt_3b067 1 = .ok (.aload_n 0, 1) := by decide +kernel
theorem dJ2_charAt_3b067_2 : decode cJ2_charAt_3b067 2 = .ok (.invokestatic 67, 3) := by decide +kernel
theorem dJ2_charAt_3b067_5 : decode cJ2_charAt_3b067 5 = .ok (.aload_n 0, 1) := by decide +kernel
theorem dJ2_charAt_3b067_6 : decode cJ2_charAt_3b067 6 = .ok (.iload_n 1, 1) := by decide +kernel
theorem dJ2_charAt_3b067_7 : decode cJ2_charAt_3b067 7 = .ok (.invokestatic 71, 3) := by decide +kernel
theorem dJ2_charAt_3b067_10 : decode cJ2_charAt_3b067 10 = .ok (.ireturn, 1) := by decide +kernel
theorem dJ2_checkIndex_2214a_0 : decode cJ2_checkIndex_2214a 0 = .ok (.iload_n 0, 1) := by decide +kernel
theorem dJ2_checkIndex_2214a_1 : decode cJ2_checkIndex_2214a 1 = .ok (.aload_n 1, 1) := by decide +kernel
theorem dJ2_checkIndex_2214a_2 : decode cJ2_checkIndex_2214a 2 = .ok (.invokestatic 48, 3) := by decide +kernel
theorem dJ2_checkIndex_2214a_5 : decode cJ2_checkIndex_2214a 5 = .ok (.invokestatic 414, 3) := by decide +kernel
theorem dJ2_checkIndex_2214a_8 : decode cJ2_checkIndex_2214a 8 = .ok (.return_, 1) := by decide +kernel
theorem dJ7_fill_53178_0 : decode cJ7_fill_53178 0 = .ok (.iconst 0, 1) := by decide +kernel
theorem dJ7_fill_53178_1 : decode cJ7_fill_53178 1 = .ok (.istore_n 2, 1) := by decide +kernel
theorem dJ7_fill_53178_2 : decode cJ7_fill_53178 2 = .ok (.aload_n 0, 1) := by decide +kernel
theorem dJ7_fill_53178_3 : decode cJ7_fill_53178 3 = .ok (.arraylength, 1) := by decide +kernel
theorem dJ7_fill_53178_4 : decode cJ7_fill_53178 4 = .ok (.istore_n 3, 1) := by decide +kernel
theorem dJ7_fill_53178_5 : decode cJ7_fill_53178 5 = .ok (.iload_n 2, 1) := by decide +kernel
theorem dJ7_fill_53178_6 : decode cJ7_fill_53178 6 = .ok (.iload_n 3, 1) := by decide +kernel
theorem dJ7_fill_53178_7 : decode cJ7_fill_53178 7 = .ok (.if_icmp .ge 13, 3) := by decide +kernel
theorem dJ7_fill_53178_10 : decode cJ7_fill_53178 10 = .ok (.aload_n 0, 1) := by decide +kernel
theorem dJ7_fill_53178_11 : decode cJ7_fill_53178 11 = .ok (.iload_n 2, 1) := by decide +kernel
theorem dJ7_fill_53178_12 : decode cJ7_fill_53178 12 = .ok (.iload_n 1, 1) := by decide +kernel
theorem dJ7_fill_53178_13 : decode cJ7_fill_53178 13 = .ok (.iastore, 1) := by decide +kernel
theorem dJ7_fill_53178_14 : decode cJ7_fill_53178 14 = .ok (.iinc 2 1, 3) := by decide +kernel
theorem dJ7_fill_53178_17 : decode cJ7_fill_53178 17 = .ok (.goto (-12), 3) := by decide +kernel
theorem dJ7_fill_53178_20 : decode cJ7_fill_53178 20 = .ok (.return_, 1) := by decide +kernel
theorem dJ3_checkIndex_8e157_0 : decode cJ3_checkIndex_8e157 0 = .ok (.iload_n 0, 1) := by decide +kernel
theorem dJ3_checkIndex_8e157_1 : decode cJ3_checkIndex_8e157 1 = .ok (.ifCond .lt 8, 3) := by decide +kernel
theorem dJ3_checkIndex_8e157_4 : decode cJ3_checkIndex_8e157 4 = .ok (.iload_n 0, 1) := by decide +kernel
theorem dJ3_checkIndex_8e157_5 : decode cJ3_checkIndex_8e157 5 = .ok (.iload_n 1, 1) := by decide +kernel
theorem dJ3_checkIndex_8e157_6 : decode cJ3_checkIndex_8e157 6 = .ok (.if_icmp .lt 10, 3) := by decide +kernel
theorem dJ3_checkIndex_8e157_9 : decode cJ3_checkIndex_8e157 9 = .ok (.aload_n 2, 1) := by decide +kernel
theorem dJ3_checkIndex_8e157_10 : decode cJ3_checkIndex_8e157 10 = .ok (.iload_n 0, 1) := by decide +kernel
theorem dJ3_checkIndex_8e157_11 : decode cJ3_checkIndex_8e157 11 = .ok (.iload_n 1, 1) := by decide +kernel
theorem dJ3_checkIndex_8e157_12 : decode cJ3_checkIndex_8e157 12 = .ok (.invokestatic 95, 3) := by decide +kernel
theorem dJ3_checkIndex_8e157_15 : decode cJ3_checkIndex_8e157 15 = .ok (.athrow, 1) := by decide +kernel
theorem dJ3_checkIndex_8e157_16 : decode cJ3_checkIndex_8e157 16 = .ok (.iload_n 0, 1) := by decide +kernel
theorem dJ3_checkIndex_8e157_17 : decode cJ3_checkIndex_8e157 17 = .ok (.ireturn, 1) := by decide +kernel
end
section
theorem dX7_init_0 : decode cX7_init 0 = .ok (.aload_n 0, 1) := by decide +kernel
theorem dX7_init_1 : decode cX7_init 1 = .ok (.invokespecial 1, 3) := by decide +kernel
theorem dX7_init_4 : decode cX7_init 4 = .ok (.aload_n 0, 1) := by decide +kernel
theorem dX7_init_5 : decode cX7_init 5 = .ok (.sipush 200, 3) := by decide +kernel
theorem dX7_init_8 : decode cX7_init 8 = .ok (.newarray .int, 2) := by decide +kernel
theorem dX7_init_10 : decode cX7_init 10 = .ok (.putfield 7, 3) := by decide +kernel
theorem dX7_init_13 : decode cX7_init 13 = .ok (.aload_n 0, 1) := by decide +kernel
theorem dX7_init_14 : decode cX7_init 14 = .ok (.bipush 18, 2) := by decide +kernel
theorem dX7_init_16 : decode cX7_init 16 = .ok (.newarray .int, 2) := by decide +kernel
theorem dX7_init_18 : decode cX7_init 18 = .ok (.putfield 13, 3) := by decide +kernel
theorem dX7_init_21 : decode cX7_init 21 = .ok (.aload_n 0, 1) := by decide +kernel
theorem dX7_init_22 : decode cX7_init 22 = .ok (.bipush 18, 2) := by decide +kernel
theorem dX7_init_24 : decode cX7_init 24 = .ok (.newarray .int, 2) := by decide +kernel
theorem dX7_init_26 : decode cX7_init 26 = .ok (.putfield 16, 3) := by decide +kernel
theorem dX7_init_29 : decode cX7_init 29 = .ok (.aload_n 0, 1) := by decide +kernel
theorem dX7_init_30 : decode cX7_init 30 = .ok (.bipush 32, 2) := by decide +kernel
theorem dX7_init_32 : decode cX7_init 32 = .ok (.newarray .int, 2) := by decide +kernel
theorem dX7_init_34 : decode cX7_init 34 = .ok (.putfield 19, 3) := by decide +kernel
theorem dX7_init_37 : decode cX7_init 37 = .ok (.aload_n 0, 1) := by decide +kernel
theorem dX7_init_38 : decode cX7_init 38 = .ok (.bipush 32, 2) := by decide +kernel
theorem dX7_init_40 : decode cX7_init 40 = .ok (.newarray .int, 2) := by decide +kernel
theorem dX7_init_42 : decode cX7_init 42 = .ok (.putfield 22, 3) := by decide +kernel
theorem dX7_init_45 : decode cX7_init 45 = .ok (.aload_n 0, 1) := by decide +kernel
theorem dX7_init_46 : decode cX7_init 46 = .ok (.bipush 32, 2) := by decide +kernel
theorem dX7_init_48 : decode cX7_init 48 = .ok (.newarray .int, 2) := by decide +kernel
theorem dX7_init_50 : decode cX7_init 50 = .ok (.putfield 25, 3) := by decide +kernel
theorem dX7_init_53 : decode cX7_init 53 = .ok (.aload_n 0, 1) := by decide +kernel
theorem dX7_init_54 : decode cX7_init 54 = .ok (.sipush 256, 3) := by decide +kernel
theorem dX7_init_57 : decode cX7_init 57 = .ok (.newarray .int, 2) := by decide +kernel
theorem dX7_init_59 : decode cX7_init 59 = .ok (.putfield 28, 3) := by decide +kernel
theorem dX7_init_62 : decode cX7_init 62 = .ok (.aload_n 0, 1) := by decide +kernel
theorem dX7_init_63 : decode cX7_init 63 = .ok (.bipush 64, 2) := by decide +kernel
theorem dX7_init_65 : decode cX7_init 65 = .ok (.newarray .int, 2) := by decide +kernel
theorem dX7_init_67 : decode cX7_init 67 = .ok (.putfield 31, 3) := by decide +kernel
theorem dX7_init_70 : decode cX7_init 70 = .ok (.aload_n 0, 1) := by decide +kernel
theorem dX7_init_71 : decode cX7_init 71 = .ok (.bipush 12, 2) := by decide +kernel
theorem dX7_init_73 : decode cX7_init 73 = .ok (.newarray .int, 2) := by decide +kernel
theorem dX7_init_75 : decode cX7_init 75 = .ok (.putfield 34, 3) := by decide +kernel
theorem dX7_init_78 : decode cX7_init 78 = .ok (.aload_n 0, 1) := by decide +kernel
theorem dX7_init_79 : decode cX7_init 79 = .ok (.iconst 3, 1) := by decide +kernel
theorem dX7_init_80 : decode cX7_init 80 = .ok (.newarray .int, 2) := by decide +kernel
theorem dX7_init_82 : decode cX7_init 82 = .ok (.putfield 37, 3) := by decide +kernel
theorem dX7_init_85 : decode cX7_init 85 = .ok (.aload_n 0, 1) := by decide +kernel
theorem dX7_init_86 : decode cX7_init 86 = .ok (.invokevirtual 40, 3) := by decide +kernel
theorem dX7_init_89 : decode cX7_init 89 = .ok (.aload_n 0, 1) := by decide +kernel
theorem dX7_init_90 : decode cX7_init 90 = .ok (.getfield 22, 3) := by decide +kernel
theorem dX7_init_93 : decode cX7_init 93 = .ok (.iconst 5, 1) := by decide +kernel
theorem dX7_init_94 : decode cX7_init 94 = .ok (.iconst 2, 1) := by decide +kernel
theorem dX7_init_95 : decode cX7_init 95 = .ok (.iastore, 1) := by decide +kernel
theorem dX7_init_96 : decode cX7_init 96 = .ok (.aload_n 0, 1) := by decide +kernel
theorem dX7_init_97 : decode cX7_init 97 = .ok (.getfield 22, 3) := by decide +kernel
theorem dX7_init_100 : decode cX7_init 100 = .ok (.bipush 7, 2) := by decide +kernel
theorem dX7_init_102 : decode cX7_init 102 = .ok (.iconst 4, 1) := by decide +kernel
theorem dX7_init_103 : decode cX7_init 103 = .ok (.iastore, 1) := by decide +kernel
theorem dX7_init_104 : decode cX7_init 104 = .ok (.aload_n 0, 1) := by decide +kernel
theorem dX7_init_105 : decode cX7_init 105 = .ok (.getfield 22, 3) := by decide +kernel
theorem dX7_init_108 : decode cX7_init 108 = .ok (.bipush 8, 2) := by decide +kernel
theorem dX7_init_110 : decode cX7_init 110 = .ok (.iconst 1, 1) := by decide +kernel
theorem dX7_init_111 : decode cX7_init 111 = .ok (.iastore, 1) := by decide +kernel
theorem dX7_init_112 : decode cX7_init 112 = .ok (.aload_n 0, 1) := by decide +kernel
theorem dX7_init_113 : decode cX7_init 113 = .ok (.getfield 22, 3) := by decide +kernel
theorem dX7_init_116 : decode cX7_init 116 = .ok (.bipush 11, 2) := by decide +kernel
theorem dX7_init_118 : decode cX7_init 118 = .ok (.bipush 6, 2) := by decide +kernel
theorem dX7_init_120 : decode cX7_init 120 = .ok (.iastore, 1) := by decide +kernel
theorem dX7_init_121 : decode cX7_init 121 = .ok (.aload_n 0, 1) := by decide +kernel
theorem dX7_init_122 : decode cX7_init 122 = .ok (.getfield 16, 3) := by decide +kernel
theorem dX7_init_125 : decode cX7_init 125 = .ok (.iconst 1, 1) := by decide +kernel
theorem dX7_init_126 : decode cX7_init 126 = .ok (.iconst 4, 1) := by decide +kernel
theorem dX7_init_127 : decode cX7_init 127 = .ok (.iastore, 1) := by decide +kernel
theorem dX7_init_128 : decode cX7_init 128 = .ok (.aload_n 0, 1) := by decide +kernel
theorem dX7_init_129 : decode cX7_init 129 = .ok (.getfield 16, 3) := by decide +kernel
theorem dX7_init_132 : decode cX7_init 132 = .ok (.iconst 2, 1) := by decide +kernel
theorem dX7_init_133 : decode cX7_init 133 = .ok (.bipush 32, 2) := by decide +kernel
theorem dX7_init_135 : decode cX7_init 135 = .ok (.iastore, 1) := by decide +kernel
theorem dX7_init_136 : decode cX7_init 136 = .ok (.aload_n 0, 1) := by decide +kernel
theorem dX7_init_137 : decode cX7_init 137 = .ok (.iconst 0, 1) := by decide +kernel
theorem dX7_init_138 : decode cX7_init 138 = .ok (.bipush 9, 2) := by decide +kernel
theorem dX7_init_140 : decode cX7_init 140 = .ok (.iconst 5, 1) := by decide +kernel
theorem dX7_init_141 : decode cX7_init 141 = .ok (.invokevirtual 43, 3) := by decide +kernel
theorem dX7_init_144 : decode cX7_init 144 = .ok (.aload_n 0, 1) := by decide +kernel
theorem dX7_init_145 : decode cX7_init 145 = .ok (.iconst 1, 1) := by decide +kernel
theorem dX7_init_146 : decode cX7_init 146 = .ok (.bipush 6, 2) := by decide +kernel
theorem dX7_init_148 : decode cX7_init 148 = .ok (.iconst 3, 1) := by decide +kernel
theorem dX7_init_149 : decode cX7_init 149 = .ok (.invokevirtual 43, 3) := by decide +kernel
theorem dX7_init_152 : decode cX7_init 152 = .ok (.aload_n 0, 1) := by decide +kernel
theorem dX7_init_153 : decode cX7_init 153 = .ok (.iconst 2, 1) := by decide +kernel
theorem dX7_init_154 : decode cX7_init 154 = .ok (.bipush 8, 2) := by decide +kernel
theorem dX7_init_156 : decode cX7_init 156 = .ok (.iconst 0, 1) := by decide +kernel
theorem dX7_init_157 : decode cX7_init 157 = .ok (.invokevirtual 43, 3) := by decide +kernel
theorem dX7_init_160 : decode cX7_init 160 = .ok (.aload_n 0, 1) := by decide +kernel
theorem dX7_init_161 : decode cX7_init 161 = .ok (.iconst 3, 1) := by decide +kernel
theorem dX7_init_162 : decode cX7_init 162 = .ok (.iconst 4, 1) := by decide +kernel
theorem dX7_init_163 : decode cX7_init 163 = .ok (.iconst 2, 1) := by decide +kernel
theorem dX7_init_164 : decode cX7_init 164 = .ok (.invokevirtual 43, 3) := by decide +kernel
theorem dX7_init_167 : decode cX7_init 167 = .ok (.aload_n 0, 1) := by decide +kernel
theorem dX7_init_168 : decode cX7_init 168 = .ok (.iconst 0, 1) := by decide +kernel
theorem dX7_init_169 : decode cX7_init 169 = .ok (.iconst 1, 1) := by decide +kernel
theorem dX7_init_170 : decode cX7_init 170 = .ok (.iconst 4, 1) := by decide +kernel
theorem dX7_init_171 : decode cX7_init 171 = .ok (.invokevirtual 43, 3) := by decide +kernel
theorem dX7_init_174 : decode cX7_init 174 = .ok (.aload_n 0, 1) := by decide +kernel
theorem dX7_init_175 : decode cX7_init 175 = .ok (.invokevirtual 47, 3) := by decide +kernel
theorem dX7_init_178 : decode cX7_init 178 = .ok (.return_, 1) := by decide +kernel
theorem dX7_firstOne_0 : decode cX7_firstOne 0 = .ok (.aload_n 0, 1) := by decide +kernel
theorem dX7_firstOne_1 : decode cX7_firstOne 1 = .ok (.getfield 16, 3) := by decide +kernel
theorem dX7_firstOne_4 : decode cX7_firstOne 4 = .ok (.iconst 3, 1) := by decide +kernel
theorem dX7_firstOne_5 : decode cX7_firstOne 5 = .ok (.iaload, 1) := by decide +kernel
theorem dX7_firstOne_6 : decode cX7_firstOne 6 = .ok (.istore 4, 2) := by decide +kernel
theorem dX7_firstOne_8 : decode cX7_firstOne 8 = .ok (.aload_n 0, 1) := by decide +kernel
theorem dX7_firstOne_9 : decode cX7_firstOne 9 = .ok (.getfield 16, 3) := by decide +kernel
theorem dX7_firstOne_12 : decode cX7_firstOne 12 = .ok (.iconst 4, 1) := by decide +kernel
theorem dX7_firstOne_13 : decode cX7_firstOne 13 = .ok (.iload 4, 2) := by decide +kernel
theorem dX7_firstOne_15 : decode cX7_firstOne 15 = .ok (.iadd, 1) := by decide +kernel
theorem dX7_firstOne_16 : decode cX7_firstOne 16 = .ok (.iload_n 1, 1) := by decide +kernel
theorem dX7_firstOne_17 : decode cX7_firstOne 17 = .ok (.iastore, 1) := by decide +kernel
theorem dX7_firstOne_18 : decode cX7_firstOne 18 = .ok (.aload_n 0, 1) := by decide +kernel
theorem dX7_firstOne_19 : decode cX7_firstOne 19 = .ok (.getfield 16, 3) := by decide +kernel
theorem dX7_firstOne_22 : decode cX7_firstOne 22 = .ok (.bipush 11, 2) := by decide +kernel
theorem dX7_firstOne_24 : decode cX7_firstOne 24 = .ok (.iload 4, 2) := by decide +kernel
theorem dX7_firstOne_26 : decode cX7_firstOne 26 = .ok (.iadd, 1) := by decide +kernel
theorem dX7_firstOne_27 : decode cX7_firstOne 27 = .ok (.iload_n 3, 1) := by decide +kernel
theorem dX7_firstOne_28 : decode cX7_firstOne 28 = .ok (.iastore, 1) := by decide +kernel
theorem dX7_firstOne_29 : decode cX7_firstOne 29 = .ok (.aload_n 0, 1) := by decide +kernel
theorem dX7_firstOne_30 : decode cX7_firstOne 30 = .ok (.getfield 22, 3) := by decide +kernel
theorem dX7_firstOne_33 : decode cX7_firstOne 33 = .ok (.bipush 18, 2) := by decide +kernel
theorem dX7_firstOne_35 : decode cX7_firstOne 35 = .ok (.iload 4, 2) := by decide +kernel
theorem dX7_firstOne_37 : decode cX7_firstOne 37 = .ok (.iadd, 1) := by decide +kernel
theorem dX7_firstOne_38 : decode cX7_firstOne 38 = .ok (.iload_n 2, 1) := by decide +kernel
theorem dX7_firstOne_39 : decode cX7_firstOne 39 = .ok (.iastore, 1) := by decide +kernel
theorem dX7_firstOne_40 : decode cX7_firstOne 40 = .ok (.aload_n 0, 1) := by decide +kernel
theorem dX7_firstOne_41 : decode cX7_firstOne 41 = .ok (.getfield 16, 3) := by decide +kernel
theorem dX7_firstOne_44 : decode cX7_firstOne 44 = .ok (.iconst 3, 1) := by decide +kernel
theorem dX7_firstOne_45 : decode cX7_firstOne 45 = .ok (.dup2, 1) := by decide +kernel
theorem dX7_firstOne_46 : decode cX7_firstOne 46 = .ok (.iaload, 1) := by decide +kernel
theorem dX7_firstOne_47 : decode cX7_firstOne 47 = .ok (.iconst 1, 1) := by decide +kernel
theorem dX7_firstOne_48 : decode cX7_firstOne 48 = .ok (.iadd, 1) := by decide +kernel
theorem dX7_firstOne_49 : decode cX7_firstOne 49 = .ok (.iastore, 1) := by decide +kernel
theorem dX7_firstOne_50 : decode cX7_firstOne 50 = .ok (.return_, 1) := by decide +kernel
theorem dX7_in_0 : decode cX7_in 0 = .ok (.lload_n 0, 1) := by decide +kernel
theorem dX7_in_1 : decode cX7_in 1 = .ok (.lload_n 2, 1) := by decide +kernel
theorem dX7_in_2 : decode cX7_in 2 = .ok (.lcmp, 1) := by decide +kernel
theorem dX7_in_3 : decode cX7_in 3 = .ok (.ifCond .lt 14, 3) := by decide +kernel
theorem dX7_in_6 : decode cX7_in 6 = .ok (.lload_n 0, 1) := by decide +kernel
theorem dX7_in_7 : decode cX7_in 7 = .ok (.lload 4, 2) := by decide +kernel
theorem dX7_in_9 : decode cX7_in 9 = .ok (.lcmp, 1) := by decide +kernel
theorem dX7_in_10 : decode cX7_in 10 = .ok (.ifCond .gt 7, 3) := by decide +kernel
theorem dX7_in_13 : decode cX7_in 13 = .ok (.iconst 1, 1) := by decide +kernel
theorem dX7_in_14 : decode cX7_in 14 = .ok (.goto 4, 3) := by decide +kernel
theorem dX7_in_17 : decode cX7_in 17 = .ok (.iconst 0, 1) := by decide +kernel
theorem dX7_in_18 : decode cX7_in 18 = .ok (.ireturn, 1) := by decide +kernel
theorem dX7_has_0 : decode cX7_has 0 = .ok (.iload_n 0, 1) := by decide +kernel
theorem dX7_has_1 : decode cX7_has 1 = .ok (.iload_n 1, 1) := by decide +kernel
theorem dX7_has_2 : decode cX7_has 2 = .ok (.ishr, 1) := by decide +kernel
theorem dX7_has_3 : decode cX7_has 3 = .ok (.iconst 1, 1) := by decide +kernel
theorem dX7_has_4 : decode cX7_has 4 = .ok (.iand, 1) := by decide +kernel
theorem dX7_has_5 : decode cX7_has 5 = .ok (.iconst 1, 1) := by decide +kernel
theorem dX7_has_6 : decode cX7_has 6 = .ok (.if_icmp .ne 7, 3) := by decide +kernel
theorem dX7_has_9 : decode cX7_has 9 = .ok (.iconst 1, 1) := by decide +kernel
theorem dX7_has_10 : decode cX7_has 10 = .ok (.goto 4, 3) := by decide +kernel
theorem dX7_has_13 : decode cX7_has 13 = .ok (.iconst 0, 1) := by decide +kernel
theorem dX7_has_14 : decode cX7_has 14 = .ok (.ireturn, 1) := by decide +kernel
theorem dX7_ones_0 : decode cX7_ones 0 = .ok (.iconst 0, 1) := by decide +kernel
theorem dX7_ones_1 : decode cX7_ones 1 = .ok (.istore_n 1, 1) := by decide +kernel
theorem dX7_ones_2 : decode cX7_ones 2 = .ok (.iload_n 0, 1) := by decide +kernel
theorem dX7_ones_3 : decode cX7_ones 3 = .ok (.istore_n 2, 1) := by decide +kernel
theorem dX7_ones_4 : decode cX7_ones 4 = .ok (.iload_n 2, 1) := by decide +kernel
theorem dX7_ones_5 : decode cX7_ones 5 = .ok (.ifCond .eq 15, 3) := by decide +kernel
theorem dX7_ones_8 : decode cX7_ones 8 = .ok (.iinc 1 1, 3) := by decide +kernel
theorem dX7_ones_11 : decode cX7_ones 11 = .ok (.iload_n 2, 1) := by decide +kernel
theorem dX7_ones_12 : decode cX7_ones 12 = .ok (.iload_n 2, 1) := by decide +kernel
theorem dX7_ones_13 : decode cX7_ones 13 = .ok (.iconst 1, 1) := by decide +kernel
theorem dX7_ones_14 : decode cX7_ones 14 = .ok (.isub, 1) := by decide +kernel
theorem dX7_ones_15 : decode cX7_ones 15 = .ok (.iand, 1) := by decide +kernel
theorem dX7_ones_16 : decode cX7_ones 16 = .ok (.istore_n 2, 1) := by decide +kernel
theorem dX7_ones_17 : decode cX7_ones 17 = .ok (.goto (-13), 3) := by decide +kernel
theorem dX7_ones_20 : decode cX7_ones 20 = .ok (.iload_n 1, 1) := by decide +kernel
theorem dX7_ones_21 : decode cX7_ones 21 = .ok (.ireturn, 1) := by decide +kernel
theorem dX7_empty_0 : decode cX7_empty 0 = .ok (.iconst 0, 1) := by decide +kernel
theorem dX7_empty_1 : decode cX7_empty 1 = .ok (.istore_n 1, 1) := by decide +kernel
theorem dX7_empty_2 : decode cX7_empty 2 = .ok (.iload_n 1, 1) := by decide +kernel
theorem dX7_empty_3 : decode cX7_empty 3 = .ok (.bipush 18, 2) := by decide +kernel
theorem dX7_empty_5 : decode cX7_empty 5 = .ok (.if_icmp .ge 16, 3) := by decide +kernel
theorem dX7_empty_8 : decode cX7_empty 8 = .ok (.aload_n 0, 1) := by decide +kernel
theorem dX7_empty_9 : decode cX7_empty 9 = .ok (.getfield 16, 3) := by decide +kernel
theorem dX7_empty_12 : decode cX7_empty 12 = .ok (.iload_n 1, 1) := by decide +kernel
theorem dX7_empty_13 : decode cX7_empty 13 = .ok (.iconst 0, 1) := by decide +kernel
theorem dX7_empty_14 : decode cX7_empty 14 = .ok (.iastore, 1) := by decide +kernel
theorem dX7_empty_15 : decode cX7_empty 15 = .ok (.iinc 1 1, 3) := by decide +kernel
theorem dX7_empty_18 : decode cX7_empty 18 = .ok (.goto (-16), 3) := by decide +kernel
theorem dX7_empty_21 : decode cX7_empty 21 = .ok (.iconst 0, 1) := by decide +kernel
theorem dX7_empty_22 : decode cX7_empty 22 = .ok (.istore_n 1, 1) := by decide +kernel
theorem dX7_empty_23 : decode cX7_empty 23 = .ok (.iload_n 1, 1) := by decide +kernel
theorem dX7_empty_24 : decode cX7_empty 24 = .ok (.bipush 32, 2) := by decide +kernel
theorem dX7_empty_26 : decode cX7_empty 26 = .ok (.if_icmp .ge 16, 3) := by decide +kernel
theorem dX7_empty_29 : decode cX7_empty 29 = .ok (.aload_n 0, 1) := by decide +kernel
theorem dX7_empty_30 : decode cX7_empty 30 = .ok (.getfield 22, 3) := by decide +kernel
theorem dX7_empty_33 : decode cX7_empty 33 = .ok (.iload_n 1, 1) := by decide +kernel
theorem dX7_empty_34 : decode cX7_empty 34 = .ok (.iconst 0, 1) := by decide +kernel
theorem dX7_empty_35 : decode cX7_empty 35 = .ok (.iastore, 1) := by decide +kernel
theorem dX7_empty_36 : decode cX7_empty 36 = .ok (.iinc 1 1, 3) := by decide +kernel
theorem dX7_empty_39 : decode cX7_empty 39 = .ok (.goto (-16), 3) := by decide +kernel
theorem dX7_empty_42 : decode cX7_empty 42 = .ok (.aload_n 0, 1) := by decide +kernel
theorem dX7_empty_43 : decode cX7_empty 43 = .ok (.getfield 16, 3) := by decide +kernel
theorem dX7_empty_46 : decode cX7_empty 46 = .ok (.iconst 0, 1) := by decide +kernel
theorem dX7_empty_47 : decode cX7_empty 47 = .ok (.bipush 10, 2) := by decide +kernel
theorem dX7_empty_49 : decode cX7_empty 49 = .ok (.iastore, 1) := by decide +kernel
theorem dX7_empty_50 : decode cX7_empty 50 = .ok (.aload_n 0, 1) := by decide +kernel
theorem dX7_empty_51 : decode cX7_empty 51 = .ok (.getfield 22, 3) := by decide +kernel
theorem dX7_empty_54 : decode cX7_empty 54 = .ok (.iconst 1, 1) := by decide +kernel
theorem dX7_empty_55 : decode cX7_empty 55 = .ok (.bipush 20, 2) := by decide +kernel
theorem dX7_empty_57 : decode cX7_empty 57 = .ok (.iastore, 1) := by decide +kernel
theorem dX7_empty_58 : decode cX7_empty 58 = .ok (.aload_n 0, 1) := by decide +kernel
theorem dX7_empty_59 : decode cX7_empty 59 = .ok (.iconst 0, 1) := by decide +kernel
theorem dX7_empty_60 : decode cX7_empty 60 = .ok (.putfield 50, 3) := by decide +kernel
theorem dX7_empty_63 : decode cX7_empty 63 = .ok (.return_, 1) := by decide +kernel
theorem dX7_write_0 : decode cX7_write 0 = .ok (.iload_n 1, 1) := by decide +kernel
theorem dX7_write_1 : decode cX7_write 1 = .ok (.i2l, 1) := by decide +kernel
theorem dX7_write_2 : decode cX7_write 2 = .ok (.ldc2_w 54, 3) := by decide +kernel
theorem dX7_write_5 : decode cX7_write 5 = .ok (.ldc2_w 56, 3) := by decide +kernel
theorem dX7_write_8 : decode cX7_write 8 = .ok (.invokestatic 58, 3) := by decide +kernel
theorem dX7_write_11 : decode cX7_write 11 = .ok (.ifCond .ne 5, 3) := by decide +kernel
theorem dX7_write_14 : decode cX7_write 14 = .ok (.iconst (-1), 1) := by decide +kernel
theorem dX7_write_15 : decode cX7_write 15 = .ok (.ireturn, 1) := by decide +kernel
theorem dX7_write_16 : decode cX7_write 16 = .ok (.aload_n 0, 1) := by decide +kernel
theorem dX7_write_17 : decode cX7_write 17 = .ok (.getfield 62, 3) := by decide +kernel
theorem dX7_write_20 : decode cX7_write 20 = .ok (.sipush 200, 3) := by decide +kernel
theorem dX7_write_23 : decode cX7_write 23 = .ok (.if_icmp .ne 6, 3) := by decide +kernel
theorem dX7_write_26 : decode cX7_write 26 = .ok (.bipush (-3), 2) := by decide +kernel
theorem dX7_write_28 : decode cX7_write 28 = .ok (.ireturn, 1) := by decide +kernel
theorem dX7_write_29 : decode cX7_write 29 = .ok (.aload_n 0, 1) := by decide +kernel
theorem dX7_write_30 : decode cX7_write 30 = .ok (.getfield 7, 3) := by decide +kernel
theorem dX7_write_33 : decode cX7_write 33 = .ok (.aload_n 0, 1) := by decide +kernel
theorem dX7_write_34 : decode cX7_write 34 = .ok (.getfield 62, 3) := by decide +kernel
theorem dX7_write_37 : decode cX7_write 37 = .ok (.iload_n 1, 1) := by decide +kernel
theorem dX7_write_38 : decode cX7_write 38 = .ok (.iastore, 1) := by decide +kernel
theorem dX7_write_39 : decode cX7_write 39 = .ok (.aload_n 0, 1) := by decide +kernel
theorem dX7_write_40 : decode cX7_write 40 = .ok (.dup, 1) := by decide +kernel
theorem dX7_write_41 : decode cX7_write 41 = .ok (.getfield 62, 3) := by decide +kernel
theorem dX7_write_44 : decode cX7_write 44 = .ok (.iconst 1, 1) := by decide +kernel
theorem dX7_write_45 : decode cX7_write 45 = .ok (.iadd, 1) := by decide +kernel
theorem dX7_write_46 : decode cX7_write 46 = .ok (.putfield 62, 3) := by decide +kernel
theorem dX7_write_49 : decode cX7_write 49 = .ok (.aload_n 0, 1) := by decide +kernel
theorem dX7_write_50 : decode cX7_write 50 = .ok (.getfield 62, 3) := by decide +kernel
theorem dX7_write_53 : decode cX7_write 53 = .ok (.ireturn, 1) := by decide +kernel
theorem dX7_wipe_0 : decode cX7_wipe 0 = .ok (.aload_n 0, 1) := by decide +kernel
theorem dX7_wipe_1 : decode cX7_wipe 1 = .ok (.getfield 62, 3) := by decide +kernel
theorem dX7_wipe_4 : decode cX7_wipe 4 = .ok (.istore_n 1, 1) := by decide +kernel
theorem dX7_wipe_5 : decode cX7_wipe 5 = .ok (.aload_n 0, 1) := by decide +kernel
theorem dX7_wipe_6 : decode cX7_wipe 6 = .ok (.iconst 0, 1) := by decide +kernel
theorem dX7_wipe_7 : decode cX7_wipe 7 = .ok (.putfield 62, 3) := by decide +kernel
theorem dX7_wipe_10 : decode cX7_wipe 10 = .ok (.iload_n 1, 1) := by decide +kernel
theorem dX7_wipe_11 : decode cX7_wipe 11 = .ok (.ireturn, 1) := by decide +kernel
theorem dX7_letterAt_0 : decode cX7_letterAt 0 = .ok (.iload_n 1, 1) := by decide +kernel
theorem dX7_letterAt_1 : decode cX7_letterAt 1 = .ok (.aload_n 0, 1) := by decide +kernel
theorem dX7_letterAt_2 : decode cX7_letterAt 2 = .ok (.getfield 62, 3) := by decide +kernel
theorem dX7_letterAt_5 : decode cX7_letterAt 5 = .ok (.if_icmp .ge 12, 3) := by decide +kernel
theorem dX7_letterAt_8 : decode cX7_letterAt 8 = .ok (.aload_n 0, 1) := by decide +kernel
theorem dX7_letterAt_9 : decode cX7_letterAt 9 = .ok (.getfield 7, 3) := by decide +kernel
theorem dX7_letterAt_12 : decode cX7_letterAt 12 = .ok (.iload_n 1, 1) := by decide +kernel
theorem dX7_letterAt_13 : decode cX7_letterAt 13 = .ok (.iaload, 1) := by decide +kernel
theorem dX7_letterAt_14 : decode cX7_letterAt 14 = .ok (.goto 4, 3) := by decide +kernel
theorem dX7_letterAt_17 : decode cX7_letterAt 17 = .ok (.iconst 0, 1) := by decide +kernel
theorem dX7_letterAt_18 : decode cX7_letterAt 18 = .ok (.ireturn, 1) := by decide +kernel
theorem dX7_numbers_0 : decode cX7_numbers 0 = .ok (.iconst 0, 1) := by decide +kernel
theorem dX7_numbers_1 : decode cX7_numbers 1 = .ok (.istore_n 2, 1) := by decide +kernel
theorem dX7_numbers_2 : decode cX7_numbers 2 = .ok (.iload_n 2, 1) := by decide +kernel
theorem dX7_numbers_3 : decode cX7_numbers 3 = .ok (.iload_n 1, 1) := by decide +kernel
theorem dX7_numbers_4 : decode cX7_numbers 4 = .ok (.if_icmp .ge 132, 3) := by decide +kernel
theorem dX7_numbers_7 : decode cX7_numbers 7 = .ok (.iconst 0, 1) := by decide +kernel
theorem dX7_numbers_8 : decode cX7_numbers 8 = .ok (.istore_n 3, 1) := by decide +kernel
theorem dX7_numbers_9 : decode cX7_numbers 9 = .ok (.iconst 0, 1) := by decide +kernel
theorem dX7_numbers_10 : decode cX7_numbers 10 = .ok (.istore 4, 2) := by decide +kernel
theorem dX7_numbers_12 : decode cX7_numbers 12 = .ok (.aload_n 0, 1) := by decide +kernel
theorem dX7_numbers_13 : decode cX7_numbers 13 = .ok (.aload_n 0, 1) := by decide +kernel
theorem dX7_numbers_14 : decode cX7_numbers 14 = .ok (.getfield 66, 3) := by decide +kernel
theorem dX7_numbers_17 : decode cX7_numbers 17 = .ok (.invokevirtual 69, 3) := by decide +kernel
theorem dX7_numbers_20 : decode cX7_numbers 20 = .ok (.i2l, 1) := by decide +kernel
theorem dX7_numbers_21 : decode cX7_numbers 21 = .ok (.ldc2_w 73, 3) := by decide +kernel
theorem dX7_numbers_24 : decode cX7_numbers 24 = .ok (.ldc2_w 75, 3) := by decide +kernel
theorem dX7_numbers_27 : decode cX7_numbers 27 = .ok (.invokestatic 58, 3) := by decide +kernel
theorem dX7_numbers_30 : decode cX7_numbers 30 = .ok (.ifCond .eq 43, 3) := by decide +kernel
theorem dX7_numbers_33 : decode cX7_numbers 33 = .ok (.iload_n 3, 1) := by decide +kernel
theorem dX7_numbers_34 : decode cX7_numbers 34 = .ok (.iconst 3, 1) := by decide +kernel
theorem dX7_numbers_35 : decode cX7_numbers 35 = .ok (.if_icmp .ge 38, 3) := by decide +kernel
theorem dX7_numbers_38 : decode cX7_numbers 38 = .ok (.bipush 10, 2) := by decide +kernel
theorem dX7_numbers_40 : decode cX7_numbers 40 = .ok (.iload 4, 2) := by decide +kernel
theorem dX7_numbers_42 : decode cX7_numbers 42 = .ok (.imul, 1) := by decide +kernel
theorem dX7_numbers_43 : decode cX7_numbers 43 = .ok (.aload_n 0, 1) := by decide +kernel
theorem dX7_numbers_44 : decode cX7_numbers 44 = .ok (.aload_n 0, 1) := by decide +kernel
theorem dX7_numbers_45 : decode cX7_numbers 45 = .ok (.getfield 66, 3) := by decide +kernel
theorem dX7_numbers_48 : decode cX7_numbers 48 = .ok (.invokevirtual 69, 3) := by decide +kernel
theorem dX7_numbers_51 : decode cX7_numbers 51 = .ok (.iadd, 1) := by decide +kernel
theorem dX7_numbers_52 : decode cX7_numbers 52 = .ok (.bipush 48, 2) := by decide +kernel
theorem dX7_numbers_54 : decode cX7_numbers 54 = .ok (.isub, 1) := by decide +kernel
theorem dX7_numbers_55 : decode cX7_numbers 55 = .ok (.istore 4, 2) := by decide +kernel
theorem dX7_numbers_57 : decode cX7_numbers 57 = .ok (.iinc 3 1, 3) := by decide +kernel
theorem dX7_numbers_60 : decode cX7_numbers 60 = .ok (.aload_n 0, 1) := by decide +kernel
theorem dX7_numbers_61 : decode cX7_numbers 61 = .ok (.dup, 1) := by decide +kernel
theorem dX7_numbers_62 : decode cX7_numbers 62 = .ok (.getfield 66, 3) := by decide +kernel
theorem dX7_numbers_65 : decode cX7_numbers 65 = .ok (.iconst 1, 1) := by decide +kernel
theorem dX7_numbers_66 : decode cX7_numbers 66 = .ok (.iadd, 1) := by decide +kernel
theorem dX7_numbers_67 : decode cX7_numbers 67 = .ok (.putfield 66, 3) := by decide +kernel
theorem dX7_numbers_70 : decode cX7_numbers 70 = .ok (.goto (-58), 3) := by decide +kernel
theorem dX7_numbers_73 : decode cX7_numbers 73 = .ok (.iload_n 3, 1) := by decide +kernel
theorem dX7_numbers_74 : decode cX7_numbers 74 = .ok (.i2l, 1) := by decide +kernel
theorem dX7_numbers_75 : decode cX7_numbers 75 = .ok (.lconst 1, 1) := by decide +kernel
theorem dX7_numbers_76 : decode cX7_numbers 76 = .ok (.ldc2_w 77, 3) := by decide +kernel
theorem dX7_numbers_79 : decode cX7_numbers 79 = .ok (.invokestatic 58, 3) := by decide +kernel
theorem dX7_numbers_82 : decode cX7_numbers 82 = .ok (.ifCond .eq 28, 3) := by decide +kernel
theorem dX7_numbers_85 : decode cX7_numbers 85 = .ok (.aload_n 0, 1) := by decide +kernel
theorem dX7_numbers_86 : decode cX7_numbers 86 = .ok (.aload_n 0, 1) := by decide +kernel
theorem dX7_numbers_87 : decode cX7_numbers 87 = .ok (.getfield 66, 3) := by decide +kernel
theorem dX7_numbers_90 : decode cX7_numbers 90 = .ok (.invokevirtual 69, 3) := by decide +kernel
theorem dX7_numbers_93 : decode cX7_numbers 93 = .ok (.iload_n 2, 1) := by decide +kernel
theorem dX7_numbers_94 : decode cX7_numbers 94 = .ok (.iload_n 1, 1) := by decide +kernel
theorem dX7_numbers_95 : decode cX7_numbers 95 = .ok (.iconst 1, 1) := by decide +kernel
theorem dX7_numbers_96 : decode cX7_numbers 96 = .ok (.isub, 1) := by decide +kernel
theorem dX7_numbers_97 : decode cX7_numbers 97 = .ok (.if_icmp .ge 8, 3) := by decide +kernel
theorem dX7_numbers_100 : decode cX7_numbers 100 = .ok (.bipush 44, 2) := by decide +kernel
theorem dX7_numbers_102 : decode cX7_numbers 102 = .ok (.goto 5, 3) := by decide +kernel
theorem dX7_numbers_105 : decode cX7_numbers 105 = .ok (.bipush 59, 2) := by decide +kernel
theorem dX7_numbers_107 : decode cX7_numbers 107 = .ok (.if_icmp .eq 5, 3) := by decide +kernel
theorem dX7_numbers_110 : decode cX7_numbers 110 = .ok (.iconst 0, 1) := by decide +kernel
theorem dX7_numbers_111 : decode cX7_numbers 111 = .ok (.ireturn, 1) := by decide +kernel
theorem dX7_numbers_112 : decode cX7_numbers 112 = .ok (.aload_n 0, 1) := by decide +kernel
theorem dX7_numbers_113 : decode cX7_numbers 113 = .ok (.getfield 37, 3) := by decide +kernel
theorem dX7_numbers_116 : decode cX7_numbers 116 = .ok (.iload_n 2, 1) := by decide +kernel
theorem dX7_numbers_117 : decode cX7_numbers 117 = .ok (.iload 4, 2) := by decide +kernel
theorem dX7_numbers_119 : decode cX7_numbers 119 = .ok (.iastore, 1) := by decide +kernel
theorem dX7_numbers_120 : decode cX7_numbers 120 = .ok (.aload_n 0, 1) := by decide +kernel
theorem dX7_numbers_121 : decode cX7_numbers 121 = .ok (.dup, 1) := by decide +kernel
theorem dX7_numbers_122 : decode cX7_numbers 122 = .ok (.getfield 66, 3) := by decide +kernel
theorem dX7_numbers_125 : decode cX7_numbers 125 = .ok (.iconst 1, 1) := by decide +kernel
theorem dX7_numbers_126 : decode cX7_numbers 126 = .ok (.iadd, 1) := by decide +kernel
theorem dX7_numbers_127 : decode cX7_numbers 127 = .ok (.putfield 66, 3) := by decide +kernel
theorem dX7_numbers_130 : decode cX7_numbers 130 = .ok (.iinc 2 1, 3) := by decide +kernel
theorem dX7_numbers_133 : decode cX7_numbers 133 = .ok (.goto (-131), 3) := by decide +kernel
theorem dX7_numbers_136 : decode cX7_numbers 136 = .ok (.iconst 1, 1) := by decide +kernel
theorem dX7_numbers_137 : decode cX7_numbers 137 = .ok (.ireturn, 1) := by decide +kernel
theorem dX7_ministerItem_0 : decode cX7_ministerItem 0 = .ok (.aload_n 0, 1) := by decide +kernel
theorem dX7_ministerItem_1 : decode cX7_ministerItem 1 = .ok (.getfield 16, 3) := by decide +kernel
theorem dX7_ministerItem_4 : decode cX7_ministerItem 4 = .ok (.iconst 3, 1) := by decide +kernel
theorem dX7_ministerItem_5 : decode cX7_ministerItem 5 = .ok (.iaload, 1) := by decide +kernel
theorem dX7_ministerItem_6 : decode cX7_ministerItem 6 = .ok (.istore_n 1, 1) := by decide +kernel
theorem dX7_ministerItem_7 : decode cX7_ministerItem 7 = .ok (.aload_n 0, 1) := by decide +kernel
theorem dX7_ministerItem_8 : decode cX7_ministerItem 8 = .ok (.iconst 3, 1) := by decide +kernel
theorem dX7_ministerItem_9 : decode cX7_ministerItem 9 = .ok (.invokevirtual 79, 3) := by decide +kernel
theorem dX7_ministerItem_12 : decode cX7_ministerItem 12 = .ok (.ifCond .eq 45, 3) := by decide +kernel
theorem dX7_ministerItem_15 : decode cX7_ministerItem 15 = .ok (.iload_n 1, 1) := by decide +kernel
theorem dX7_ministerItem_16 : decode cX7_ministerItem 16 = .ok (.bipush 7, 2) := by decide +kernel
theorem dX7_ministerItem_18 : decode cX7_ministerItem 18 = .ok (.if_icmp .eq 39, 3) := by decide +kernel
theorem dX7_ministerItem_21 : decode cX7_ministerItem 21 = .ok (.aload_n 0, 1) := by decide +kernel
theorem dX7_ministerItem_22 : decode cX7_ministerItem 22 = .ok (.getfield 37, 3) := by decide +kernel
theorem dX7_ministerItem_25 : decode cX7_ministerItem 25 = .ok (.iconst 0, 1) := by decide +kernel
theorem dX7_ministerItem_26 : decode cX7_ministerItem 26 = .ok (.iaload, 1) := by decide +kernel
theorem dX7_ministerItem_27 : decode cX7_ministerItem 27 = .ok (.iconst 3, 1) := by decide +kernel
theorem dX7_ministerItem_28 : decode cX7_ministerItem 28 = .ok (.if_icmp .gt 29, 3) := by decide +kernel
theorem dX7_ministerItem_31 : decode cX7_ministerItem 31 = .ok (.aload_n 0, 1) := by decide +kernel
theorem dX7_ministerItem_32 : decode cX7_ministerItem 32 = .ok (.getfield 37, 3) := by decide +kernel
theorem dX7_ministerItem_35 : decode cX7_ministerItem 35 = .ok (.iconst 1, 1) := by decide +kernel
theorem dX7_ministerItem_36 : decode cX7_ministerItem 36 = .ok (.iaload, 1) := by decide +kernel
theorem dX7_ministerItem_37 : decode cX7_ministerItem 37 = .ok (.aload_n 0, 1) := by decide +kernel
theorem dX7_ministerItem_38 : decode cX7_ministerItem 38 = .ok (.getfield 16, 3) := by decide +kernel
theorem dX7_ministerItem_41 : decode cX7_ministerItem 41 = .ok (.iconst 0, 1) := by decide +kernel
theorem dX7_ministerItem_42 : decode cX7_ministerItem 42 = .ok (.iaload, 1) := by decide +kernel
theorem dX7_ministerItem_43 : decode cX7_ministerItem 43 = .ok (.if_icmp .ge 14, 3) := by decide +kernel
theorem dX7_ministerItem_46 : decode cX7_ministerItem 46 = .ok (.aload_n 0, 1) := by decide +kernel
theorem dX7_ministerItem_47 : decode cX7_ministerItem 47 = .ok (.getfield 37, 3) := by decide +kernel
theorem dX7_ministerItem_50 : decode cX7_ministerItem 50 = .ok (.iconst 2, 1) := by decide +kernel
theorem dX7_ministerItem_51 : decode cX7_ministerItem 51 = .ok (.iaload, 1) := by decide +kernel
theorem dX7_ministerItem_52 : decode cX7_ministerItem 52 = .ok (.bipush 9, 2) := by decide +kernel
theorem dX7_ministerItem_54 : decode cX7_ministerItem 54 = .ok (.if_icmp .le 5, 3) := by decide +kernel
theorem dX7_ministerItem_57 : decode cX7_ministerItem 57 = .ok (.iconst 0, 1) := by decide +kernel
theorem dX7_ministerItem_58 : decode cX7_ministerItem 58 = .ok (.ireturn, 1) := by decide +kernel
theorem dX7_ministerItem_59 : decode cX7_ministerItem 59 = .ok (.aload_n 0, 1) := by decide +kernel
theorem dX7_ministerItem_60 : decode cX7_ministerItem 60 = .ok (.getfield 16, 3) := by decide +kernel
theorem dX7_ministerItem_63 : decode cX7_ministerItem 63 = .ok (.iconst 4, 1) := by decide +kernel
theorem dX7_ministerItem_64 : decode cX7_ministerItem 64 = .ok (.iload_n 1, 1) := by decide +kernel
theorem dX7_ministerItem_65 : decode cX7_ministerItem 65 = .ok (.iadd, 1) := by decide +kernel
theorem dX7_ministerItem_66 : decode cX7_ministerItem 66 = .ok (.aload_n 0, 1) := by decide +kernel
theorem dX7_ministerItem_67 : decode cX7_ministerItem 67 = .ok (.getfield 37, 3) := by decide +kernel
theorem dX7_ministerItem_70 : decode cX7_ministerItem 70 = .ok (.iconst 0, 1) := by decide +kernel
theorem dX7_ministerItem_71 : decode cX7_ministerItem 71 = .ok (.iaload, 1) := by decide +kernel
theorem dX7_ministerItem_72 : decode cX7_ministerItem 72 = .ok (.iastore, 1) := by decide +kernel
theorem dX7_ministerItem_73 : decode cX7_ministerItem 73 = .ok (.aload_n 0, 1) := by decide +kernel
theorem dX7_ministerItem_74 : decode cX7_ministerItem 74 = .ok (.getfield 16, 3) := by decide +kernel
theorem dX7_ministerItem_77 : decode cX7_ministerItem 77 = .ok (.bipush 11, 2) := by decide +kernel
theorem dX7_ministerItem_79 : decode cX7_ministerItem 79 = .ok (.iload_n 1, 1) := by decide +kernel
theorem dX7_ministerItem_80 : decode cX7_ministerItem 80 = .ok (.iadd, 1) := by decide +kernel
theorem dX7_ministerItem_81 : decode cX7_ministerItem 81 = .ok (.aload_n 0, 1) := by decide +kernel
theorem dX7_ministerItem_82 : decode cX7_ministerItem 82 = .ok (.getfield 37, 3) := by decide +kernel
theorem dX7_ministerItem_85 : decode cX7_ministerItem 85 = .ok (.iconst 2, 1) := by decide +kernel
theorem dX7_ministerItem_86 : decode cX7_ministerItem 86 = .ok (.iaload, 1) := by decide +kernel
theorem dX7_ministerItem_87 : decode cX7_ministerItem 87 = .ok (.iastore, 1) := by decide +kernel
theorem dX7_ministerItem_88 : decode cX7_ministerItem 88 = .ok (.aload_n 0, 1) := by decide +kernel
theorem dX7_ministerItem_89 : decode cX7_ministerItem 89 = .ok (.getfield 22, 3) := by decide +kernel
theorem dX7_ministerItem_92 : decode cX7_ministerItem 92 = .ok (.bipush 18, 2) := by decide +kernel
theorem dX7_ministerItem_94 : decode cX7_ministerItem 94 = .ok (.iload_n 1, 1) := by decide +kernel
theorem dX7_ministerItem_95 : decode cX7_ministerItem 95 = .ok (.iadd, 1) := by decide +kernel
theorem dX7_ministerItem_96 : decode cX7_ministerItem 96 = .ok (.aload_n 0, 1) := by decide +kernel
theorem dX7_ministerItem_97 : decode cX7_ministerItem 97 = .ok (.getfield 37, 3) := by decide +kernel
theorem dX7_ministerItem_100 : decode cX7_ministerItem 100 = .ok (.iconst 1, 1) := by decide +kernel
theorem dX7_ministerItem_101 : decode cX7_ministerItem 101 = .ok (.iaload, 1) := by decide +kernel
theorem dX7_ministerItem_102 : decode cX7_ministerItem 102 = .ok (.iastore, 1) := by decide +kernel
theorem dX7_ministerItem_103 : decode cX7_ministerItem 103 = .ok (.aload_n 0, 1) := by decide +kernel
theorem dX7_ministerItem_104 : decode cX7_ministerItem 104 = .ok (.getfield 16, 3) := by decide +kernel
theorem dX7_ministerItem_107 : decode cX7_ministerItem 107 = .ok (.iconst 3, 1) := by decide +kernel
theorem dX7_ministerItem_108 : decode cX7_ministerItem 108 = .ok (.dup2, 1) := by decide +kernel
theorem dX7_ministerItem_109 : decode cX7_ministerItem 109 = .ok (.iaload, 1) := by decide +kernel
theorem dX7_ministerItem_110 : decode cX7_ministerItem 110 = .ok (.iconst 1, 1) := by decide +kernel
theorem dX7_ministerItem_111 : decode cX7_ministerItem 111 = .ok (.iadd, 1) := by decide +kernel
theorem dX7_ministerItem_112 : decode cX7_ministerItem 112 = .ok (.iastore, 1) := by decide +kernel
theorem dX7_ministerItem_113 : decode cX7_ministerItem 113 = .ok (.iconst 1, 1) := by decide +kernel
theorem dX7_ministerItem_114 : decode cX7_ministerItem 114 = .ok (.ireturn, 1) := by decide +kernel
theorem dX7_item_0 : decode cX7_item 0 = .ok (.aload_n 0, 1) := by decide +kernel
theorem dX7_item_1 : decode cX7_item 1 = .ok (.aload_n 0, 1) := by decide +kernel
theorem dX7_item_2 : decode cX7_item 2 = .ok (.getfield 66, 3) := by decide +kernel
theorem dX7_item_5 : decode cX7_item 5 = .ok (.invokevirtual 69, 3) := by decide +kernel
theorem dX7_item_8 : decode cX7_item 8 = .ok (.istore_n 1, 1) := by decide +kernel
theorem dX7_item_9 : decode cX7_item 9 = .ok (.aload_n 0, 1) := by decide +kernel
theorem dX7_item_10 : decode cX7_item 10 = .ok (.dup, 1) := by decide +kernel
theorem dX7_item_11 : decode cX7_item 11 = .ok (.getfield 66, 3) := by decide +kernel
theorem dX7_item_14 : decode cX7_item 14 = .ok (.iconst 1, 1) := by decide +kernel
theorem dX7_item_15 : decode cX7_item 15 = .ok (.iadd, 1) := by decide +kernel
theorem dX7_item_16 : decode cX7_item 16 = .ok (.putfield 66, 3) := by decide +kernel
theorem dX7_item_19 : decode cX7_item 19 = .ok (.iload_n 1, 1) := by decide +kernel
theorem dX7_item_20 : decode cX7_item 20 = .ok (.bipush 115, 2) := by decide +kernel
theorem dX7_item_22 : decode cX7_item 22 = .ok (.if_icmp .ne 57, 3) := by decide +kernel
theorem dX7_item_25 : decode cX7_item 25 = .ok (.aload_n 0, 1) := by decide +kernel
theorem dX7_item_26 : decode cX7_item 26 = .ok (.iconst 1, 1) := by decide +kernel
theorem dX7_item_27 : decode cX7_item 27 = .ok (.invokevirtual 79, 3) := by decide +kernel
theorem dX7_item_30 : decode cX7_item 30 = .ok (.ifCond .eq 33, 3) := by decide +kernel
theorem dX7_item_33 : decode cX7_item 33 = .ok (.aload_n 0, 1) := by decide +kernel
theorem dX7_item_34 : decode cX7_item 34 = .ok (.getfield 50, 3) := by decide +kernel
theorem dX7_item_37 : decode cX7_item 37 = .ok (.ifCond .ne 26, 3) := by decide +kernel
theorem dX7_item_40 : decode cX7_item 40 = .ok (.aload_n 0, 1) := by decide +kernel
theorem dX7_item_41 : decode cX7_item 41 = .ok (.getfield 37, 3) := by decide +kernel
theorem dX7_item_44 : decode cX7_item 44 = .ok (.iconst 0, 1) := by decide +kernel
theorem dX7_item_45 : decode cX7_item 45 = .ok (.iaload, 1) := by decide +kernel
theorem dX7_item_46 : decode cX7_item 46 = .ok (.i2l, 1) := by decide +kernel
theorem dX7_item_47 : decode cX7_item 47 = .ok (.ldc2_w 83, 3) := by decide +kernel
theorem dX7_item_50 : decode cX7_item 50 = .ok (.ldc2_w 85, 3) := by decide +kernel
theorem dX7_item_53 : decode cX7_item 53 = .ok (.invokestatic 58, 3) := by decide +kernel
theorem dX7_item_56 : decode cX7_item 56 = .ok (.ifCond .eq 7, 3) := by decide +kernel
theorem dX7_item_59 : decode cX7_item 59 = .ok (.iconst 1, 1) := by decide +kernel
theorem dX7_item_60 : decode cX7_item 60 = .ok (.goto 4, 3) := by decide +kernel
theorem dX7_item_63 : decode cX7_item 63 = .ok (.iconst 0, 1) := by decide +kernel
theorem dX7_item_64 : decode cX7_item 64 = .ok (.istore_n 2, 1) := by decide +kernel
theorem dX7_item_65 : decode cX7_item 65 = .ok (.aload_n 0, 1) := by decide +kernel
theorem dX7_item_66 : decode cX7_item 66 = .ok (.getfield 16, 3) := by decide +kernel
theorem dX7_item_69 : decode cX7_item 69 = .ok (.iconst 0, 1) := by decide +kernel
theorem dX7_item_70 : decode cX7_item 70 = .ok (.aload_n 0, 1) := by decide +kernel
theorem dX7_item_71 : decode cX7_item 71 = .ok (.getfield 37, 3) := by decide +kernel
theorem dX7_item_74 : decode cX7_item 74 = .ok (.iconst 0, 1) := by decide +kernel
theorem dX7_item_75 : decode cX7_item 75 = .ok (.iaload, 1) := by decide +kernel
theorem dX7_item_76 : decode cX7_item 76 = .ok (.iastore, 1) := by decide +kernel
theorem dX7_item_77 : decode cX7_item 77 = .ok (.iload_n 2, 1) := by decide +kernel
theorem dX7_item_78 : decode cX7_item 78 = .ok (.ireturn, 1) := by decide +kernel
theorem dX7_item_79 : decode cX7_item 79 = .ok (.aload_n 0, 1) := by decide +kernel
theorem dX7_item_80 : decode cX7_item 80 = .ok (.iconst 1, 1) := by decide +kernel
theorem dX7_item_81 : decode cX7_item 81 = .ok (.putfield 50, 3) := by decide +kernel
theorem dX7_item_84 : decode cX7_item 84 = .ok (.iload_n 1, 1) := by decide +kernel
theorem dX7_item_85 : decode cX7_item 85 = .ok (.lookupswitch 191 #[(102, 167), (107, 108), (109, 162), (116, 108), (119, 51)], 51) := by decide +kernel
theorem dX7_item_136 : decode cX7_item 136 = .ok (.aload_n 0, 1) := by decide +kernel
theorem dX7_item_137 : decode cX7_item 137 = .ok (.iconst 2, 1) := by decide +kernel
theorem dX7_item_138 : decode cX7_item 138 = .ok (.invokevirtual 79, 3) := by decide +kernel
theorem dX7_item_141 : decode cX7_item 141 = .ok (.ifCond .eq 29, 3) := by decide +kernel
theorem dX7_item_144 : decode cX7_item 144 = .ok (.aload_n 0, 1) := by decide +kernel
theorem dX7_item_145 : decode cX7_item 145 = .ok (.getfield 37, 3) := by decide +kernel
theorem dX7_item_148 : decode cX7_item 148 = .ok (.iconst 0, 1) := by decide +kernel
theorem dX7_item_149 : decode cX7_item 149 = .ok (.iaload, 1) := by decide +kernel
theorem dX7_item_150 : decode cX7_item 150 = .ok (.aload_n 0, 1) := by decide +kernel
theorem dX7_item_151 : decode cX7_item 151 = .ok (.getfield 16, 3) := by decide +kernel
theorem dX7_item_154 : decode cX7_item 154 = .ok (.iconst 0, 1) := by decide +kernel
theorem dX7_item_155 : decode cX7_item 155 = .ok (.iaload, 1) := by decide +kernel
theorem dX7_item_156 : decode cX7_item 156 = .ok (.if_icmp .ge 14, 3) := by decide +kernel
theorem dX7_item_159 : decode cX7_item 159 = .ok (.aload_n 0, 1) := by decide +kernel
theorem dX7_item_160 : decode cX7_item 160 = .ok (.getfield 37, 3) := by decide +kernel
theorem dX7_item_163 : decode cX7_item 163 = .ok (.iconst 1, 1) := by decide +kernel
theorem dX7_item_164 : decode cX7_item 164 = .ok (.iaload, 1) := by decide +kernel
theorem dX7_item_165 : decode cX7_item 165 = .ok (.bipush 9, 2) := by decide +kernel
theorem dX7_item_167 : decode cX7_item 167 = .ok (.if_icmp .le 5, 3) := by decide +kernel
theorem dX7_item_170 : decode cX7_item 170 = .ok (.iconst 0, 1) := by decide +kernel
theorem dX7_item_171 : decode cX7_item 171 = .ok (.ireturn, 1) := by decide +kernel
theorem dX7_item_172 : decode cX7_item 172 = .ok (.aload_n 0, 1) := by decide +kernel
theorem dX7_item_173 : decode cX7_item 173 = .ok (.getfield 22, 3) := by decide +kernel
theorem dX7_item_176 : decode cX7_item 176 = .ok (.iconst 2, 1) := by decide +kernel
theorem dX7_item_177 : decode cX7_item 177 = .ok (.aload_n 0, 1) := by decide +kernel
theorem dX7_item_178 : decode cX7_item 178 = .ok (.getfield 37, 3) := by decide +kernel
theorem dX7_item_181 : decode cX7_item 181 = .ok (.iconst 0, 1) := by decide +kernel
theorem dX7_item_182 : decode cX7_item 182 = .ok (.iaload, 1) := by decide +kernel
theorem dX7_item_183 : decode cX7_item 183 = .ok (.iadd, 1) := by decide +kernel
theorem dX7_item_184 : decode cX7_item 184 = .ok (.aload_n 0, 1) := by decide +kernel
theorem dX7_item_185 : decode cX7_item 185 = .ok (.getfield 37, 3) := by decide +kernel
theorem dX7_item_188 : decode cX7_item 188 = .ok (.iconst 1, 1) := by decide +kernel
theorem dX7_item_189 : decode cX7_item 189 = .ok (.iaload, 1) := by decide +kernel
theorem dX7_item_190 : decode cX7_item 190 = .ok (.iastore, 1) := by decide +kernel
theorem dX7_item_191 : decode cX7_item 191 = .ok (.iconst 1, 1) := by decide +kernel
theorem dX7_item_192 : decode cX7_item 192 = .ok (.ireturn, 1) := by decide +kernel
theorem dX7_item_193 : decode cX7_item 193 = .ok (.aload_n 0, 1) := by decide +kernel
theorem dX7_item_194 : decode cX7_item 194 = .ok (.iconst 1, 1) := by decide +kernel
theorem dX7_item_195 : decode cX7_item 195 = .ok (.invokevirtual 79, 3) := by decide +kernel
theorem dX7_item_198 : decode cX7_item 198 = .ok (.ifCond .eq 18, 3) := by decide +kernel
theorem dX7_item_201 : decode cX7_item 201 = .ok (.aload_n 0, 1) := by decide +kernel
theorem dX7_item_202 : decode cX7_item 202 = .ok (.getfield 37, 3) := by decide +kernel
theorem dX7_item_205 : decode cX7_item 205 = .ok (.iconst 0, 1) := by decide +kernel
theorem dX7_item_206 : decode cX7_item 206 = .ok (.iaload, 1) := by decide +kernel
theorem dX7_item_207 : decode cX7_item 207 = .ok (.aload_n 0, 1) := by decide +kernel
theorem dX7_item_208 : decode cX7_item 208 = .ok (.getfield 16, 3) := by decide +kernel
theorem dX7_item_211 : decode cX7_item 211 = .ok (.iconst 0, 1) := by decide +kernel
theorem dX7_item_212 : decode cX7_item 212 = .ok (.iaload, 1) := by decide +kernel
theorem dX7_item_213 : decode cX7_item 213 = .ok (.if_icmp .lt 5, 3) := by decide +kernel
theorem dX7_item_216 : decode cX7_item 216 = .ok (.iconst 0, 1) := by decide +kernel
theorem dX7_item_217 : decode cX7_item 217 = .ok (.ireturn, 1) := by decide +kernel
theorem dX7_item_218 : decode cX7_item 218 = .ok (.aload_n 0, 1) := by decide +kernel
theorem dX7_item_219 : decode cX7_item 219 = .ok (.getfield 16, 3) := by decide +kernel
theorem dX7_item_222 : decode cX7_item 222 = .ok (.iload_n 1, 1) := by decide +kernel
theorem dX7_item_223 : decode cX7_item 223 = .ok (.bipush 107, 2) := by decide +kernel
theorem dX7_item_225 : decode cX7_item 225 = .ok (.if_icmp .ne 7, 3) := by decide +kernel
theorem dX7_item_228 : decode cX7_item 228 = .ok (.iconst 1, 1) := by decide +kernel
theorem dX7_item_229 : decode cX7_item 229 = .ok (.goto 4, 3) := by decide +kernel
theorem dX7_item_232 : decode cX7_item 232 = .ok (.iconst 2, 1) := by decide +kernel
theorem dX7_item_233 : decode cX7_item 233 = .ok (.dup2, 1) := by decide +kernel
theorem dX7_item_234 : decode cX7_item 234 = .ok (.iaload, 1) := by decide +kernel
theorem dX7_item_235 : decode cX7_item 235 = .ok (.iconst 1, 1) := by decide +kernel
theorem dX7_item_236 : decode cX7_item 236 = .ok (.aload_n 0, 1) := by decide +kernel
theorem dX7_item_237 : decode cX7_item 237 = .ok (.getfield 37, 3) := by decide +kernel
theorem dX7_item_240 : decode cX7_item 240 = .ok (.iconst 0, 1) := by decide +kernel
theorem dX7_item_241 : decode cX7_item 241 = .ok (.iaload, 1) := by decide +kernel
theorem dX7_item_242 : decode cX7_item 242 = .ok (.ishl, 1) := by decide +kernel
theorem dX7_item_243 : decode cX7_item 243 = .ok (.ior, 1) := by decide +kernel
theorem dX7_item_244 : decode cX7_item 244 = .ok (.iastore, 1) := by decide +kernel
theorem dX7_item_245 : decode cX7_item 245 = .ok (.iconst 1, 1) := by decide +kernel
theorem dX7_item_246 : decode cX7_item 246 = .ok (.ireturn, 1) := by decide +kernel
theorem dX7_item_247 : decode cX7_item 247 = .ok (.aload_n 0, 1) := by decide +kernel
theorem dX7_item_248 : decode cX7_item 248 = .ok (.invokevirtual 87, 3) := by decide +kernel
theorem dX7_item_251 : decode cX7_item 251 = .ok (.ireturn, 1) := by decide +kernel
theorem dX7_item_252 : decode cX7_item 252 = .ok (.aload_n 0, 1) := by decide +kernel
theorem dX7_item_253 : decode cX7_item 253 = .ok (.iconst 1, 1) := by decide +kernel
theorem dX7_item_254 : decode cX7_item 254 = .ok (.invokevirtual 79, 3) := by decide +kernel
theorem dX7_item_257 : decode cX7_item 257 = .ok (.ifCond .ne 5, 3) := by decide +kernel
theorem dX7_item_260 : decode cX7_item 260 = .ok (.iconst 0, 1) := by decide +kernel
theorem dX7_item_261 : decode cX7_item 261 = .ok (.ireturn, 1) := by decide +kernel
theorem dX7_item_262 : decode cX7_item 262 = .ok (.aload_n 0, 1) := by decide +kernel
theorem dX7_item_263 : decode cX7_item 263 = .ok (.getfield 22, 3) := by decide +kernel
theorem dX7_item_266 : decode cX7_item 266 = .ok (.iconst 1, 1) := by decide +kernel
theorem dX7_item_267 : decode cX7_item 267 = .ok (.aload_n 0, 1) := by decide +kernel
theorem dX7_item_268 : decode cX7_item 268 = .ok (.getfield 37, 3) := by decide +kernel
theorem dX7_item_271 : decode cX7_item 271 = .ok (.iconst 0, 1) := by decide +kernel
theorem dX7_item_272 : decode cX7_item 272 = .ok (.iaload, 1) := by decide +kernel
theorem dX7_item_273 : decode cX7_item 273 = .ok (.iastore, 1) := by decide +kernel
theorem dX7_item_274 : decode cX7_item 274 = .ok (.iconst 1, 1) := by decide +kernel
theorem dX7_item_275 : decode cX7_item 275 = .ok (.ireturn, 1) := by decide +kernel
theorem dX7_item_276 : decode cX7_item 276 = .ok (.iconst 0, 1) := by decide +kernel
theorem dX7_item_277 : decode cX7_item 277 = .ok (.ireturn, 1) := by decide +kernel
theorem dX7_readAll_0 : decode cX7_readAll 0 = .ok (.aload_n 0, 1) := by decide +kernel
theorem dX7_readAll_1 : decode cX7_readAll 1 = .ok (.invokevirtual 40, 3) := by decide +kernel
theorem dX7_readAll_4 : decode cX7_readAll 4 = .ok (.aload_n 0, 1) := by decide +kernel
theorem dX7_readAll_5 : decode cX7_readAll 5 = .ok (.iconst 0, 1) := by decide +kernel
theorem dX7_readAll_6 : decode cX7_readAll 6 = .ok (.putfield 66, 3) := by decide +kernel
theorem dX7_readAll_9 : decode cX7_readAll 9 = .ok (.aload_n 0, 1) := by decide +kernel
theorem dX7_readAll_10 : decode cX7_readAll 10 = .ok (.getfield 66, 3) := by decide +kernel
theorem dX7_readAll_13 : decode cX7_readAll 13 = .ok (.aload_n 0, 1) := by decide +kernel
theorem dX7_readAll_14 : decode cX7_readAll 14 = .ok (.getfield 62, 3) := by decide +kernel
theorem dX7_readAll_17 : decode cX7_readAll 17 = .ok (.if_icmp .ge 20, 3) := by decide +kernel
theorem dX7_readAll_20 : decode cX7_readAll 20 = .ok (.aload_n 0, 1) := by decide +kernel
theorem dX7_readAll_21 : decode cX7_readAll 21 = .ok (.getfield 66, 3) := by decide +kernel
theorem dX7_readAll_24 : decode cX7_readAll 24 = .ok (.istore_n 1, 1) := by decide +kernel
theorem dX7_readAll_25 : decode cX7_readAll 25 = .ok (.aload_n 0, 1) := by decide +kernel
theorem dX7_readAll_26 : decode cX7_readAll 26 = .ok (.invokevirtual 91, 3) := by decide +kernel
theorem dX7_readAll_29 : decode cX7_readAll 29 = .ok (.ifCond .ne 5, 3) := by decide +kernel
theorem dX7_readAll_32 : decode cX7_readAll 32 = .ok (.iload_n 1, 1) := by decide +kernel
theorem dX7_readAll_33 : decode cX7_readAll 33 = .ok (.ireturn, 1) := by decide +kernel
theorem dX7_readAll_34 : decode cX7_readAll 34 = .ok (.goto (-25), 3) := by decide +kernel
theorem dX7_readAll_37 : decode cX7_readAll 37 = .ok (.bipush (-4), 2) := by decide +kernel
theorem dX7_readAll_39 : decode cX7_readAll 39 = .ok (.ireturn, 1) := by decide +kernel
theorem dX7_fault_0 : decode cX7_fault 0 = .ok (.aload_n 0, 1) := by decide +kernel
theorem dX7_fault_1 : decode cX7_fault 1 = .ok (.invokevirtual 94, 3) := by decide +kernel
theorem dX7_fault_4 : decode cX7_fault 4 = .ok (.ireturn, 1) := by decide +kernel
theorem dX7_lay_0 : decode cX7_lay 0 = .ok (.aload_n 0, 1) := by decide +kernel
theorem dX7_lay_1 : decode cX7_lay 1 = .ok (.invokevirtual 94, 3) := by decide +kernel
theorem dX7_lay_4 : decode cX7_lay 4 = .ok (.bipush (-4), 2) := by decide +kernel
theorem dX7_lay_6 : decode cX7_lay 6 = .ok (.if_icmp .ne 12, 3) := by decide +kernel
theorem dX7_lay_9 : decode cX7_lay 9 = .ok (.aload_n 0, 1) := by decide +kernel
theorem dX7_lay_10 : decode cX7_lay 10 = .ok (.getfield 16, 3) := by decide +kernel
theorem dX7_lay_13 : decode cX7_lay 13 = .ok (.iconst 3, 1) := by decide +kernel
theorem dX7_lay_14 : decode cX7_lay 14 = .ok (.iaload, 1) := by decide +kernel
theorem dX7_lay_15 : decode cX7_lay 15 = .ok (.ifCond .ne 6, 3) := by decide +kernel
theorem dX7_lay_18 : decode cX7_lay 18 = .ok (.bipush (-2), 2) := by decide +kernel
theorem dX7_lay_20 : decode cX7_lay 20 = .ok (.ireturn, 1) := by decide +kernel
theorem dX7_lay_21 : decode cX7_lay 21 = .ok (.aload_n 0, 1) := by decide +kernel
theorem dX7_lay_22 : decode cX7_lay 22 = .ok (.invokevirtual 47, 3) := by decide +kernel
theorem dX7_lay_25 : decode cX7_lay 25 = .ok (.aload_n 0, 1) := by decide +kernel
theorem dX7_lay_26 : decode cX7_lay 26 = .ok (.getfield 13, 3) := by decide +kernel
theorem dX7_lay_29 : decode cX7_lay 29 = .ok (.iconst 3, 1) := by decide +kernel
theorem dX7_lay_30 : decode cX7_lay 30 = .ok (.iaload, 1) := by decide +kernel
theorem dX7_lay_31 : decode cX7_lay 31 = .ok (.ireturn, 1) := by decide +kernel
theorem dX7_begin_0 : decode cX7_begin 0 = .ok (.iconst 0, 1) := by decide +kernel
theorem dX7_begin_1 : decode cX7_begin 1 = .ok (.istore_n 1, 1) := by decide +kernel
theorem dX7_begin_2 : decode cX7_begin 2 = .ok (.iload_n 1, 1) := by decide +kernel
theorem dX7_begin_3 : decode cX7_begin 3 = .ok (.bipush 18, 2) := by decide +kernel
theorem dX7_begin_5 : decode cX7_begin 5 = .ok (.if_icmp .ge 21, 3) := by decide +kernel
theorem dX7_begin_8 : decode cX7_begin 8 = .ok (.aload_n 0, 1) := by decide +kernel
theorem dX7_begin_9 : decode cX7_begin 9 = .ok (.getfield 13, 3) := by decide +kernel
theorem dX7_begin_12 : decode cX7_begin 12 = .ok (.iload_n 1, 1) := by decide +kernel
theorem dX7_begin_13 : decode cX7_begin 13 = .ok (.aload_n 0, 1) := by decide +kernel
theorem dX7_begin_14 : decode cX7_begin 14 = .ok (.getfield 16, 3) := by decide +kernel
theorem dX7_begin_17 : decode cX7_begin 17 = .ok (.iload_n 1, 1) := by decide +kernel
theorem dX7_begin_18 : decode cX7_begin 18 = .ok (.iaload, 1) := by decide +kernel
theorem dX7_begin_19 : decode cX7_begin 19 = .ok (.iastore, 1) := by decide +kernel
theorem dX7_begin_20 : decode cX7_begin 20 = .ok (.iinc 1 1, 3) := by decide +kernel
theorem dX7_begin_23 : decode cX7_begin 23 = .ok (.goto (-21), 3) := by decide +kernel
theorem dX7_begin_26 : decode cX7_begin 26 = .ok (.iconst 0, 1) := by decide +kernel
theorem dX7_begin_27 : decode cX7_begin 27 = .ok (.istore_n 1, 1) := by decide +kernel
theorem dX7_begin_28 : decode cX7_begin 28 = .ok (.iload_n 1, 1) := by decide +kernel
theorem dX7_begin_29 : decode cX7_begin 29 = .ok (.bipush 32, 2) := by decide +kernel
theorem dX7_begin_31 : decode cX7_begin 31 = .ok (.if_icmp .ge 21, 3) := by decide +kernel
theorem dX7_begin_34 : decode cX7_begin 34 = .ok (.aload_n 0, 1) := by decide +kernel
theorem dX7_begin_35 : decode cX7_begin 35 = .ok (.getfield 19, 3) := by decide +kernel
theorem dX7_begin_38 : decode cX7_begin 38 = .ok (.iload_n 1, 1) := by decide +kernel
theorem dX7_begin_39 : decode cX7_begin 39 = .ok (.aload_n 0, 1) := by decide +kernel
theorem dX7_begin_40 : decode cX7_begin 40 = .ok (.getfield 22, 3) := by decide +kernel
theorem dX7_begin_43 : decode cX7_begin 43 = .ok (.iload_n 1, 1) := by decide +kernel
theorem dX7_begin_44 : decode cX7_begin 44 = .ok (.iaload, 1) := by decide +kernel
theorem dX7_begin_45 : decode cX7_begin 45 = .ok (.iastore, 1) := by decide +kernel
theorem dX7_begin_46 : decode cX7_begin 46 = .ok (.iinc 1 1, 3) := by decide +kernel
theorem dX7_begin_49 : decode cX7_begin 49 = .ok (.goto (-21), 3) := by decide +kernel
theorem dX7_begin_52 : decode cX7_begin 52 = .ok (.aload_n 0, 1) := by decide +kernel
theorem dX7_begin_53 : decode cX7_begin 53 = .ok (.iconst 0, 1) := by decide +kernel
theorem dX7_begin_54 : decode cX7_begin 54 = .ok (.putfield 98, 3) := by decide +kernel
theorem dX7_begin_57 : decode cX7_begin 57 = .ok (.aload_n 0, 1) := by decide +kernel
theorem dX7_begin_58 : decode cX7_begin 58 = .ok (.iconst 0, 1) := by decide +kernel
theorem dX7_begin_59 : decode cX7_begin 59 = .ok (.putfield 101, 3) := by decide +kernel
theorem dX7_begin_62 : decode cX7_begin 62 = .ok (.aload_n 0, 1) := by decide +kernel
theorem dX7_begin_63 : decode cX7_begin 63 = .ok (.iconst 0, 1) := by decide +kernel
theorem dX7_begin_64 : decode cX7_begin 64 = .ok (.putfield 104, 3) := by decide +kernel
theorem dX7_begin_67 : decode cX7_begin 67 = .ok (.return_, 1) := by decide +kernel
theorem dX7_isOne_0 : decode cX7_isOne 0 = .ok (.iload_n 1, 1) := by decide +kernel
theorem dX7_isOne_1 : decode cX7_isOne 1 = .ok (.i2l, 1) := by decide +kernel
theorem dX7_isOne_2 : decode cX7_isOne 2 = .ok (.lconst 0, 1) := by decide +kernel
theorem dX7_isOne_3 : decode cX7_isOne 3 = .ok (.aload_n 0, 1) := by decide +kernel
theorem dX7_isOne_4 : decode cX7_isOne 4 = .ok (.getfield 13, 3) := by decide +kernel
theorem dX7_isOne_7 : decode cX7_isOne 7 = .ok (.iconst 3, 1) := by decide +kernel
theorem dX7_isOne_8 : decode cX7_isOne 8 = .ok (.iaload, 1) := by decide +kernel
theorem dX7_isOne_9 : decode cX7_isOne 9 = .ok (.iconst 1, 1) := by decide +kernel
theorem dX7_isOne_10 : decode cX7_isOne 10 = .ok (.isub, 1) := by decide +kernel
theorem dX7_isOne_11 : decode cX7_isOne 11 = .ok (.i2l, 1) := by decide +kernel
theorem dX7_isOne_12 : decode cX7_isOne 12 = .ok (.invokestatic 58, 3) := by decide +kernel
theorem dX7_isOne_15 : decode cX7_isOne 15 = .ok (.ireturn, 1) := by decide +kernel
theorem dX7_isStep_0 : decode cX7_isStep 0 = .ok (.iload_n 1, 1) := by decide +kernel
theorem dX7_isStep_1 : decode cX7_isStep 1 = .ok (.i2l, 1) := by decide +kernel
theorem dX7_isStep_2 : decode cX7_isStep 2 = .ok (.lconst 0, 1) := by decide +kernel
theorem dX7_isStep_3 : decode cX7_isStep 3 = .ok (.aload_n 0, 1) := by decide +kernel
theorem dX7_isStep_4 : decode cX7_isStep 4 = .ok (.getfield 13, 3) := by decide +kernel
theorem dX7_isStep_7 : decode cX7_isStep 7 = .ok (.iconst 0, 1) := by decide +kernel
theorem dX7_isStep_8 : decode cX7_isStep 8 = .ok (.iaload, 1) := by decide +kernel
theorem dX7_isStep_9 : decode cX7_isStep 9 = .ok (.iconst 1, 1) := by decide +kernel
theorem dX7_isStep_10 : decode cX7_isStep 10 = .ok (.isub, 1) := by decide +kernel
theorem dX7_isStep_11 : decode cX7_isStep 11 = .ok (.i2l, 1) := by decide +kernel
theorem dX7_isStep_12 : decode cX7_isStep 12 = .ok (.invokestatic 58, 3) := by decide +kernel
theorem dX7_isStep_15 : decode cX7_isStep 15 = .ok (.ireturn, 1) := by decide +kernel
theorem dX7_aside_0 : decode cX7_aside 0 = .ok (.iconst 0, 1) := by decide +kernel
theorem dX7_aside_1 : decode cX7_aside 1 = .ok (.istore_n 1, 1) := by decide +kernel
theorem dX7_aside_2 : decode cX7_aside 2 = .ok (.iload_n 1, 1) := by decide +kernel
theorem dX7_aside_3 : decode cX7_aside 3 = .ok (.bipush 32, 2) := by decide +kernel
theorem dX7_aside_5 : decode cX7_aside 5 = .ok (.if_icmp .ge 21, 3) := by decide +kernel
theorem dX7_aside_8 : decode cX7_aside 8 = .ok (.aload_n 0, 1) := by decide +kernel
theorem dX7_aside_9 : decode cX7_aside 9 = .ok (.getfield 25, 3) := by decide +kernel
theorem dX7_aside_12 : decode cX7_aside 12 = .ok (.iload_n 1, 1) := by decide +kernel
theorem dX7_aside_13 : decode cX7_aside 13 = .ok (.aload_n 0, 1) := by decide +kernel
theorem dX7_aside_14 : decode cX7_aside 14 = .ok (.getfield 19, 3) := by decide +kernel
theorem dX7_aside_17 : decode cX7_aside 17 = .ok (.iload_n 1, 1) := by decide +kernel
theorem dX7_aside_18 : decode cX7_aside 18 = .ok (.iaload, 1) := by decide +kernel
theorem dX7_aside_19 : decode cX7_aside 19 = .ok (.iastore, 1) := by decide +kernel
theorem dX7_aside_20 : decode cX7_aside 20 = .ok (.iinc 1 1, 3) := by decide +kernel
theorem dX7_aside_23 : decode cX7_aside 23 = .ok (.goto (-21), 3) := by decide +kernel
theorem dX7_aside_26 : decode cX7_aside 26 = .ok (.return_, 1) := by decide +kernel
theorem dX7_lack_0 : decode cX7_lack 0 = .ok (.aload_n 0, 1) := by decide +kernel
theorem dX7_lack_1 : decode cX7_lack 1 = .ok (.getfield 25, 3) := by decide +kernel
theorem dX7_lack_4 : decode cX7_lack 4 = .ok (.bipush 18, 2) := by decide +kernel
theorem dX7_lack_6 : decode cX7_lack 6 = .ok (.iload_n 1, 1) := by decide +kernel
theorem dX7_lack_7 : decode cX7_lack 7 = .ok (.iadd, 1) := by decide +kernel
theorem dX7_lack_8 : decode cX7_lack 8 = .ok (.iaload, 1) := by decide +kernel
theorem dX7_lack_9 : decode cX7_lack 9 = .ok (.istore_n 2, 1) := by decide +kernel
theorem dX7_lack_10 : decode cX7_lack 10 = .ok (.aload_n 0, 1) := by decide +kernel
theorem dX7_lack_11 : decode cX7_lack 11 = .ok (.getfield 13, 3) := by decide +kernel
theorem dX7_lack_14 : decode cX7_lack 14 = .ok (.bipush 11, 2) := by decide +kernel
theorem dX7_lack_16 : decode cX7_lack 16 = .ok (.iload_n 1, 1) := by decide +kernel
theorem dX7_lack_17 : decode cX7_lack 17 = .ok (.iadd, 1) := by decide +kernel
theorem dX7_lack_18 : decode cX7_lack 18 = .ok (.iaload, 1) := by decide +kernel
theorem dX7_lack_19 : decode cX7_lack 19 = .ok (.aload_n 0, 1) := by decide +kernel
theorem dX7_lack_20 : decode cX7_lack 20 = .ok (.getfield 13, 3) := by decide +kernel
theorem dX7_lack_23 : decode cX7_lack 23 = .ok (.iconst 4, 1) := by decide +kernel
theorem dX7_lack_24 : decode cX7_lack 24 = .ok (.iload_n 1, 1) := by decide +kernel
theorem dX7_lack_25 : decode cX7_lack 25 = .ok (.iadd, 1) := by decide +kernel
theorem dX7_lack_26 : decode cX7_lack 26 = .ok (.iaload, 1) := by decide +kernel
theorem dX7_lack_27 : decode cX7_lack 27 = .ok (.iconst 3, 1) := by decide +kernel
theorem dX7_lack_28 : decode cX7_lack 28 = .ok (.if_icmp .ne 19, 3) := by decide +kernel
theorem dX7_lack_31 : decode cX7_lack 31 = .ok (.iload_n 2, 1) := by decide +kernel
theorem dX7_lack_32 : decode cX7_lack 32 = .ok (.aload_n 0, 1) := by decide +kernel
theorem dX7_lack_33 : decode cX7_lack 33 = .ok (.getfield 13, 3) := by decide +kernel
theorem dX7_lack_36 : decode cX7_lack 36 = .ok (.iconst 0, 1) := by decide +kernel
theorem dX7_lack_37 : decode cX7_lack 37 = .ok (.iaload, 1) := by decide +kernel
theorem dX7_lack_38 : decode cX7_lack 38 = .ok (.iconst 1, 1) := by decide +kernel
theorem dX7_lack_39 : decode cX7_lack 39 = .ok (.isub, 1) := by decide +kernel
theorem dX7_lack_40 : decode cX7_lack 40 = .ok (.if_icmp .ne 7, 3) := by decide +kernel
theorem dX7_lack_43 : decode cX7_lack 43 = .ok (.iconst 3, 1) := by decide +kernel
theorem dX7_lack_44 : decode cX7_lack 44 = .ok (.goto 4, 3) := by decide +kernel
theorem dX7_lack_47 : decode cX7_lack 47 = .ok (.iconst 0, 1) := by decide +kernel
theorem dX7_lack_48 : decode cX7_lack 48 = .ok (.iadd, 1) := by decide +kernel
theorem dX7_lack_49 : decode cX7_lack 49 = .ok (.istore_n 3, 1) := by decide +kernel
theorem dX7_lack_50 : decode cX7_lack 50 = .ok (.aload_n 0, 1) := by decide +kernel
theorem dX7_lack_51 : decode cX7_lack 51 = .ok (.getfield 25, 3) := by decide +kernel
theorem dX7_lack_54 : decode cX7_lack 54 = .ok (.iconst 2, 1) := by decide +kernel
theorem dX7_lack_55 : decode cX7_lack 55 = .ok (.iload_n 2, 1) := by decide +kernel
theorem dX7_lack_56 : decode cX7_lack 56 = .ok (.iadd, 1) := by decide +kernel
theorem dX7_lack_57 : decode cX7_lack 57 = .ok (.iaload, 1) := by decide +kernel
theorem dX7_lack_58 : decode cX7_lack 58 = .ok (.iload_n 3, 1) := by decide +kernel
theorem dX7_lack_59 : decode cX7_lack 59 = .ok (.isub, 1) := by decide +kernel
theorem dX7_lack_60 : decode cX7_lack 60 = .ok (.ireturn, 1) := by decide +kernel
theorem dX7_stops_0 : decode cX7_stops 0 = .ok (.aload_n 0, 1) := by decide +kernel
theorem dX7_stops_1 : decode cX7_stops 1 = .ok (.getfield 13, 3) := by decide +kernel
theorem dX7_stops_4 : decode cX7_stops 4 = .ok (.iconst 1, 1) := by decide +kernel
theorem dX7_stops_5 : decode cX7_stops 5 = .ok (.iaload, 1) := by decide +kernel
theorem dX7_stops_6 : decode cX7_stops 6 = .ok (.iload_n 2, 1) := by decide +kernel
theorem dX7_stops_7 : decode cX7_stops 7 = .ok (.invokestatic 107, 3) := by decide +kernel
theorem dX7_stops_10 : decode cX7_stops 10 = .ok (.ifCond .ne 28, 3) := by decide +kernel
theorem dX7_stops_13 : decode cX7_stops 13 = .ok (.aload_n 0, 1) := by decide +kernel
theorem dX7_stops_14 : decode cX7_stops 14 = .ok (.getfield 13, 3) := by decide +kernel
theorem dX7_stops_17 : decode cX7_stops 17 = .ok (.iconst 4, 1) := by decide +kernel
theorem dX7_stops_18 : decode cX7_stops 18 = .ok (.iload_n 1, 1) := by decide +kernel
theorem dX7_stops_19 : decode cX7_stops 19 = .ok (.iadd, 1) := by decide +kernel
theorem dX7_stops_20 : decode cX7_stops 20 = .ok (.iaload, 1) := by decide +kernel
theorem dX7_stops_21 : decode cX7_stops 21 = .ok (.iconst 2, 1) := by decide +kernel
theorem dX7_stops_22 : decode cX7_stops 22 = .ok (.if_icmp .ne 20, 3) := by decide +kernel
theorem dX7_stops_25 : decode cX7_stops 25 = .ok (.aload_n 0, 1) := by decide +kernel
theorem dX7_stops_26 : decode cX7_stops 26 = .ok (.getfield 13, 3) := by decide +kernel
theorem dX7_stops_29 : decode cX7_stops 29 = .ok (.iconst 2, 1) := by decide +kernel
theorem dX7_stops_30 : decode cX7_stops 30 = .ok (.iaload, 1) := by decide +kernel
theorem dX7_stops_31 : decode cX7_stops 31 = .ok (.iload_n 2, 1) := by decide +kernel
theorem dX7_stops_32 : decode cX7_stops 32 = .ok (.invokestatic 107, 3) := by decide +kernel
theorem dX7_stops_35 : decode cX7_stops 35 = .ok (.ifCond .eq 7, 3) := by decide +kernel
theorem dX7_stops_38 : decode cX7_stops 38 = .ok (.iconst 1, 1) := by decide +kernel
theorem dX7_stops_39 : decode cX7_stops 39 = .ok (.goto 4, 3) := by decide +kernel
theorem dX7_stops_42 : decode cX7_stops 42 = .ok (.iconst 0, 1) := by decide +kernel
theorem dX7_stops_43 : decode cX7_stops 43 = .ok (.ireturn, 1) := by decide +kernel
theorem dX7_slideDown_0 : decode cX7_slideDown 0 = .ok (.iload_n 2, 1) := by decide +kernel
theorem dX7_slideDown_1 : decode cX7_slideDown 1 = .ok (.istore_n 3, 1) := by decide +kernel
theorem dX7_slideDown_2 : decode cX7_slideDown 2 = .ok (.iload_n 3, 1) := by decide +kernel
theorem dX7_slideDown_3 : decode cX7_slideDown 3 = .ok (.ifCond .le 121, 3) := by decide +kernel
theorem dX7_slideDown_6 : decode cX7_slideDown 6 = .ok (.aload_n 0, 1) := by decide +kernel
theorem dX7_slideDown_7 : decode cX7_slideDown 7 = .ok (.getfield 25, 3) := by decide +kernel
theorem dX7_slideDown_10 : decode cX7_slideDown 10 = .ok (.bipush 18, 2) := by decide +kernel
theorem dX7_slideDown_12 : decode cX7_slideDown 12 = .ok (.iload_n 1, 1) := by decide +kernel
theorem dX7_slideDown_13 : decode cX7_slideDown 13 = .ok (.iadd, 1) := by decide +kernel
theorem dX7_slideDown_14 : decode cX7_slideDown 14 = .ok (.iaload, 1) := by decide +kernel
theorem dX7_slideDown_15 : decode cX7_slideDown 15 = .ok (.ifCond .le 109, 3) := by decide +kernel
theorem dX7_slideDown_18 : decode cX7_slideDown 18 = .ok (.aload_n 0, 1) := by decide +kernel
theorem dX7_slideDown_19 : decode cX7_slideDown 19 = .ok (.getfield 25, 3) := by decide +kernel
theorem dX7_slideDown_22 : decode cX7_slideDown 22 = .ok (.bipush 18, 2) := by decide +kernel
theorem dX7_slideDown_24 : decode cX7_slideDown 24 = .ok (.iload_n 1, 1) := by decide +kernel
theorem dX7_slideDown_25 : decode cX7_slideDown 25 = .ok (.iadd, 1) := by decide +kernel
theorem dX7_slideDown_26 : decode cX7_slideDown 26 = .ok (.iaload, 1) := by decide +kernel
theorem dX7_slideDown_27 : decode cX7_slideDown 27 = .ok (.istore 4, 2) := by decide +kernel
theorem dX7_slideDown_29 : decode cX7_slideDown 29 = .ok (.aload_n 0, 1) := by decide +kernel
theorem dX7_slideDown_30 : decode cX7_slideDown 30 = .ok (.getfield 25, 3) := by decide +kernel
theorem dX7_slideDown_33 : decode cX7_slideDown 33 = .ok (.iconst 2, 1) := by decide +kernel
theorem dX7_slideDown_34 : decode cX7_slideDown 34 = .ok (.iload 4, 2) := by decide +kernel
theorem dX7_slideDown_36 : decode cX7_slideDown 36 = .ok (.iadd, 1) := by decide +kernel
theorem dX7_slideDown_37 : decode cX7_slideDown 37 = .ok (.dup2, 1) := by decide +kernel
theorem dX7_slideDown_38 : decode cX7_slideDown 38 = .ok (.iaload, 1) := by decide +kernel
theorem dX7_slideDown_39 : decode cX7_slideDown 39 = .ok (.aload_n 0, 1) := by decide +kernel
theorem dX7_slideDown_40 : decode cX7_slideDown 40 = .ok (.getfield 25, 3) := by decide +kernel
theorem dX7_slideDown_43 : decode cX7_slideDown 43 = .ok (.iconst 2, 1) := by decide +kernel
theorem dX7_slideDown_44 : decode cX7_slideDown 44 = .ok (.iload 4, 2) := by decide +kernel
theorem dX7_slideDown_46 : decode cX7_slideDown 46 = .ok (.iadd, 1) := by decide +kernel
theorem dX7_slideDown_47 : decode cX7_slideDown 47 = .ok (.iaload, 1) := by decide +kernel
theorem dX7_slideDown_48 : decode cX7_slideDown 48 = .ok (.ifCond .le 7, 3) := by decide +kernel
theorem dX7_slideDown_51 : decode cX7_slideDown 51 = .ok (.iconst 1, 1) := by decide +kernel
theorem dX7_slideDown_52 : decode cX7_slideDown 52 = .ok (.goto 4, 3) := by decide +kernel
theorem dX7_slideDown_55 : decode cX7_slideDown 55 = .ok (.iconst 0, 1) := by decide +kernel
theorem dX7_slideDown_56 : decode cX7_slideDown 56 = .ok (.isub, 1) := by decide +kernel
theorem dX7_slideDown_57 : decode cX7_slideDown 57 = .ok (.iastore, 1) := by decide +kernel
theorem dX7_slideDown_58 : decode cX7_slideDown 58 = .ok (.aload_n 0, 1) := by decide +kernel
theorem dX7_slideDown_59 : decode cX7_slideDown 59 = .ok (.getfield 25, 3) := by decide +kernel
theorem dX7_slideDown_62 : decode cX7_slideDown 62 = .ok (.bipush 18, 2) := by decide +kernel
theorem dX7_slideDown_64 : decode cX7_slideDown 64 = .ok (.iload_n 1, 1) := by decide +kernel
theorem dX7_slideDown_65 : decode cX7_slideDown 65 = .ok (.iadd, 1) := by decide +kernel
theorem dX7_slideDown_66 : decode cX7_slideDown 66 = .ok (.iload 4, 2) := by decide +kernel
theorem dX7_slideDown_68 : decode cX7_slideDown 68 = .ok (.iconst 1, 1) := by decide +kernel
theorem dX7_slideDown_69 : decode cX7_slideDown 69 = .ok (.isub, 1) := by decide +kernel
theorem dX7_slideDown_70 : decode cX7_slideDown 70 = .ok (.iastore, 1) := by decide +kernel
theorem dX7_slideDown_71 : decode cX7_slideDown 71 = .ok (.iload_n 3, 1) := by decide +kernel
theorem dX7_slideDown_72 : decode cX7_slideDown 72 = .ok (.aload_n 0, 1) := by decide +kernel
theorem dX7_slideDown_73 : decode cX7_slideDown 73 = .ok (.getfield 25, 3) := by decide +kernel
theorem dX7_slideDown_76 : decode cX7_slideDown 76 = .ok (.iconst 2, 1) := by decide +kernel
theorem dX7_slideDown_77 : decode cX7_slideDown 77 = .ok (.iload 4, 2) := by decide +kernel
theorem dX7_slideDown_79 : decode cX7_slideDown 79 = .ok (.iadd, 1) := by decide +kernel
theorem dX7_slideDown_80 : decode cX7_slideDown 80 = .ok (.iconst 1, 1) := by decide +kernel
theorem dX7_slideDown_81 : decode cX7_slideDown 81 = .ok (.isub, 1) := by decide +kernel
theorem dX7_slideDown_82 : decode cX7_slideDown 82 = .ok (.iaload, 1) := by decide +kernel
theorem dX7_slideDown_83 : decode cX7_slideDown 83 = .ok (.aload_n 0, 1) := by decide +kernel
theorem dX7_slideDown_84 : decode cX7_slideDown 84 = .ok (.getfield 13, 3) := by decide +kernel
theorem dX7_slideDown_87 : decode cX7_slideDown 87 = .ok (.iconst 4, 1) := by decide +kernel
theorem dX7_slideDown_88 : decode cX7_slideDown 88 = .ok (.iload_n 1, 1) := by decide +kernel
theorem dX7_slideDown_89 : decode cX7_slideDown 89 = .ok (.iadd, 1) := by decide +kernel
theorem dX7_slideDown_90 : decode cX7_slideDown 90 = .ok (.iaload, 1) := by decide +kernel
theorem dX7_slideDown_91 : decode cX7_slideDown 91 = .ok (.iconst 1, 1) := by decide +kernel
theorem dX7_slideDown_92 : decode cX7_slideDown 92 = .ok (.if_icmp .ne 7, 3) := by decide +kernel
theorem dX7_slideDown_95 : decode cX7_slideDown 95 = .ok (.iconst 4, 1) := by decide +kernel
theorem dX7_slideDown_96 : decode cX7_slideDown 96 = .ok (.goto 4, 3) := by decide +kernel
theorem dX7_slideDown_99 : decode cX7_slideDown 99 = .ok (.iconst 2, 1) := by decide +kernel
theorem dX7_slideDown_100 : decode cX7_slideDown 100 = .ok (.isub, 1) := by decide +kernel
theorem dX7_slideDown_101 : decode cX7_slideDown 101 = .ok (.iadd, 1) := by decide +kernel
theorem dX7_slideDown_102 : decode cX7_slideDown 102 = .ok (.istore_n 3, 1) := by decide +kernel
theorem dX7_slideDown_103 : decode cX7_slideDown 103 = .ok (.aload_n 0, 1) := by decide +kernel
theorem dX7_slideDown_104 : decode cX7_slideDown 104 = .ok (.iload_n 1, 1) := by decide +kernel
theorem dX7_slideDown_105 : decode cX7_slideDown 105 = .ok (.iload 4, 2) := by decide +kernel
theorem dX7_slideDown_107 : decode cX7_slideDown 107 = .ok (.iconst 1, 1) := by decide +kernel
theorem dX7_slideDown_108 : decode cX7_slideDown 108 = .ok (.isub, 1) := by decide +kernel
theorem dX7_slideDown_109 : decode cX7_slideDown 109 = .ok (.invokevirtual 111, 3) := by decide +kernel
theorem dX7_slideDown_112 : decode cX7_slideDown 112 = .ok (.ifCond .eq 7, 3) := by decide +kernel
theorem dX7_slideDown_115 : decode cX7_slideDown 115 = .ok (.iconst 0, 1) := by decide +kernel
theorem dX7_slideDown_116 : decode cX7_slideDown 116 = .ok (.goto 4, 3) := by decide +kernel
theorem dX7_slideDown_119 : decode cX7_slideDown 119 = .ok (.iload_n 3, 1) := by decide +kernel
theorem dX7_slideDown_120 : decode cX7_slideDown 120 = .ok (.istore_n 3, 1) := by decide +kernel
theorem dX7_slideDown_121 : decode cX7_slideDown 121 = .ok (.goto (-119), 3) := by decide +kernel
theorem dX7_slideDown_124 : decode cX7_slideDown 124 = .ok (.return_, 1) := by decide +kernel
theorem dX7_goOne_0 : decode cX7_goOne 0 = .ok (.aload_n 0, 1) := by decide +kernel
theorem dX7_goOne_1 : decode cX7_goOne 1 = .ok (.iload_n 1, 1) := by decide +kernel
theorem dX7_goOne_2 : decode cX7_goOne 2 = .ok (.invokevirtual 114, 3) := by decide +kernel
theorem dX7_goOne_5 : decode cX7_goOne 5 = .ok (.istore_n 2, 1) := by decide +kernel
theorem dX7_goOne_6 : decode cX7_goOne 6 = .ok (.iload_n 2, 1) := by decide +kernel
theorem dX7_goOne_7 : decode cX7_goOne 7 = .ok (.ifCond .le 12, 3) := by decide +kernel
theorem dX7_goOne_10 : decode cX7_goOne 10 = .ok (.aload_n 0, 1) := by decide +kernel
theorem dX7_goOne_11 : decode cX7_goOne 11 = .ok (.iload_n 1, 1) := by decide +kernel
theorem dX7_goOne_12 : decode cX7_goOne 12 = .ok (.iload_n 2, 1) := by decide +kernel
theorem dX7_goOne_13 : decode cX7_goOne 13 = .ok (.invokevirtual 117, 3) := by decide +kernel
theorem dX7_goOne_16 : decode cX7_goOne 16 = .ok (.goto 40, 3) := by decide +kernel
theorem dX7_goOne_19 : decode cX7_goOne 19 = .ok (.aload_n 0, 1) := by decide +kernel
theorem dX7_goOne_20 : decode cX7_goOne 20 = .ok (.getfield 25, 3) := by decide +kernel
theorem dX7_goOne_23 : decode cX7_goOne 23 = .ok (.bipush 18, 2) := by decide +kernel
theorem dX7_goOne_25 : decode cX7_goOne 25 = .ok (.iload_n 1, 1) := by decide +kernel
theorem dX7_goOne_26 : decode cX7_goOne 26 = .ok (.iadd, 1) := by decide +kernel
theorem dX7_goOne_27 : decode cX7_goOne 27 = .ok (.dup2, 1) := by decide +kernel
theorem dX7_goOne_28 : decode cX7_goOne 28 = .ok (.iaload, 1) := by decide +kernel
theorem dX7_goOne_29 : decode cX7_goOne 29 = .ok (.aload_n 0, 1) := by decide +kernel
theorem dX7_goOne_30 : decode cX7_goOne 30 = .ok (.getfield 25, 3) := by decide +kernel
theorem dX7_goOne_33 : decode cX7_goOne 33 = .ok (.bipush 18, 2) := by decide +kernel
theorem dX7_goOne_35 : decode cX7_goOne 35 = .ok (.iload_n 1, 1) := by decide +kernel
theorem dX7_goOne_36 : decode cX7_goOne 36 = .ok (.iadd, 1) := by decide +kernel
theorem dX7_goOne_37 : decode cX7_goOne 37 = .ok (.iaload, 1) := by decide +kernel
theorem dX7_goOne_38 : decode cX7_goOne 38 = .ok (.aload_n 0, 1) := by decide +kernel
theorem dX7_goOne_39 : decode cX7_goOne 39 = .ok (.getfield 13, 3) := by decide +kernel
theorem dX7_goOne_42 : decode cX7_goOne 42 = .ok (.iconst 0, 1) := by decide +kernel
theorem dX7_goOne_43 : decode cX7_goOne 43 = .ok (.iaload, 1) := by decide +kernel
theorem dX7_goOne_44 : decode cX7_goOne 44 = .ok (.iconst 1, 1) := by decide +kernel
theorem dX7_goOne_45 : decode cX7_goOne 45 = .ok (.isub, 1) := by decide +kernel
theorem dX7_goOne_46 : decode cX7_goOne 46 = .ok (.if_icmp .ge 7, 3) := by decide +kernel
theorem dX7_goOne_49 : decode cX7_goOne 49 = .ok (.iconst 1, 1) := by decide +kernel
theorem dX7_goOne_50 : decode cX7_goOne 50 = .ok (.goto 4, 3) := by decide +kernel
theorem dX7_goOne_53 : decode cX7_goOne 53 = .ok (.iconst 0, 1) := by decide +kernel
theorem dX7_goOne_54 : decode cX7_goOne 54 = .ok (.iadd, 1) := by decide +kernel
theorem dX7_goOne_55 : decode cX7_goOne 55 = .ok (.iastore, 1) := by decide +kernel
theorem dX7_goOne_56 : decode cX7_goOne 56 = .ok (.return_, 1) := by decide +kernel
theorem dX7_governor_0 : decode cX7_governor 0 = .ok (.iconst 0, 1) := by decide +kernel
theorem dX7_governor_1 : decode cX7_governor 1 = .ok (.istore_n 1, 1) := by decide +kernel
theorem dX7_governor_2 : decode cX7_governor 2 = .ok (.iconst 1, 1) := by decide +kernel
theorem dX7_governor_3 : decode cX7_governor 3 = .ok (.istore_n 2, 1) := by decide +kernel
theorem dX7_governor_4 : decode cX7_governor 4 = .ok (.iload_n 2, 1) := by decide +kernel
theorem dX7_governor_5 : decode cX7_governor 5 = .ok (.aload_n 0, 1) := by decide +kernel
theorem dX7_governor_6 : decode cX7_governor 6 = .ok (.getfield 13, 3) := by decide +kernel
theorem dX7_governor_9 : decode cX7_governor 9 = .ok (.iconst 3, 1) := by decide +kernel
theorem dX7_governor_10 : decode cX7_governor 10 = .ok (.iaload, 1) := by decide +kernel
theorem dX7_governor_11 : decode cX7_governor 11 = .ok (.if_icmp .ge 36, 3) := by decide +kernel
theorem dX7_governor_14 : decode cX7_governor 14 = .ok (.aload_n 0, 1) := by decide +kernel
theorem dX7_governor_15 : decode cX7_governor 15 = .ok (.getfield 25, 3) := by decide +kernel
theorem dX7_governor_18 : decode cX7_governor 18 = .ok (.bipush 18, 2) := by decide +kernel
theorem dX7_governor_20 : decode cX7_governor 20 = .ok (.iload_n 2, 1) := by decide +kernel
theorem dX7_governor_21 : decode cX7_governor 21 = .ok (.iadd, 1) := by decide +kernel
theorem dX7_governor_22 : decode cX7_governor 22 = .ok (.iaload, 1) := by decide +kernel
theorem dX7_governor_23 : decode cX7_governor 23 = .ok (.aload_n 0, 1) := by decide +kernel
theorem dX7_governor_24 : decode cX7_governor 24 = .ok (.getfield 25, 3) := by decide +kernel
theorem dX7_governor_27 : decode cX7_governor 27 = .ok (.bipush 18, 2) := by decide +kernel
theorem dX7_governor_29 : decode cX7_governor 29 = .ok (.iload_n 1, 1) := by decide +kernel
theorem dX7_governor_30 : decode cX7_governor 30 = .ok (.iadd, 1) := by decide +kernel
theorem dX7_governor_31 : decode cX7_governor 31 = .ok (.iaload, 1) := by decide +kernel
theorem dX7_governor_32 : decode cX7_governor 32 = .ok (.if_icmp .le 7, 3) := by decide +kernel
theorem dX7_governor_35 : decode cX7_governor 35 = .ok (.iload_n 2, 1) := by decide +kernel
theorem dX7_governor_36 : decode cX7_governor 36 = .ok (.goto 4, 3) := by decide +kernel
theorem dX7_governor_39 : decode cX7_governor 39 = .ok (.iload_n 1, 1) := by decide +kernel
theorem dX7_governor_40 : decode cX7_governor 40 = .ok (.istore_n 1, 1) := by decide +kernel
theorem dX7_governor_41 : decode cX7_governor 41 = .ok (.iinc 2 1, 3) := by decide +kernel
theorem dX7_governor_44 : decode cX7_governor 44 = .ok (.goto (-40), 3) := by decide +kernel
theorem dX7_governor_47 : decode cX7_governor 47 = .ok (.iload_n 1, 1) := by decide +kernel
theorem dX7_governor_48 : decode cX7_governor 48 = .ok (.ireturn, 1) := by decide +kernel
theorem dX7_goYear_0 : decode cX7_goYear 0 = .ok (.iconst 0, 1) := by decide +kernel
theorem dX7_goYear_1 : decode cX7_goYear 1 = .ok (.istore_n 1, 1) := by decide +kernel
theorem dX7_goYear_2 : decode cX7_goYear 2 = .ok (.iload_n 1, 1) := by decide +kernel
theorem dX7_goYear_3 : decode cX7_goYear 3 = .ok (.aload_n 0, 1) := by decide +kernel
theorem dX7_goYear_4 : decode cX7_goYear 4 = .ok (.getfield 13, 3) := by decide +kernel
theorem dX7_goYear_7 : decode cX7_goYear 7 = .ok (.iconst 3, 1) := by decide +kernel
theorem dX7_goYear_8 : decode cX7_goYear 8 = .ok (.iaload, 1) := by decide +kernel
theorem dX7_goYear_9 : decode cX7_goYear 9 = .ok (.if_icmp .ge 14, 3) := by decide +kernel
theorem dX7_goYear_12 : decode cX7_goYear 12 = .ok (.aload_n 0, 1) := by decide +kernel
theorem dX7_goYear_13 : decode cX7_goYear 13 = .ok (.iload_n 1, 1) := by decide +kernel
theorem dX7_goYear_14 : decode cX7_goYear 14 = .ok (.invokevirtual 121, 3) := by decide +kernel
theorem dX7_goYear_17 : decode cX7_goYear 17 = .ok (.iinc 1 1, 3) := by decide +kernel
theorem dX7_goYear_20 : decode cX7_goYear 20 = .ok (.goto (-18), 3) := by decide +kernel
theorem dX7_goYear_23 : decode cX7_goYear 23 = .ok (.aload_n 0, 1) := by decide +kernel
theorem dX7_goYear_24 : decode cX7_goYear 24 = .ok (.getfield 25, 3) := by decide +kernel
theorem dX7_goYear_27 : decode cX7_goYear 27 = .ok (.bipush 25, 2) := by decide +kernel
theorem dX7_goYear_29 : decode cX7_goYear 29 = .ok (.aload_n 0, 1) := by decide +kernel
theorem dX7_goYear_30 : decode cX7_goYear 30 = .ok (.invokevirtual 125, 3) := by decide +kernel
theorem dX7_goYear_33 : decode cX7_goYear 33 = .ok (.iadd, 1) := by decide +kernel
theorem dX7_goYear_34 : decode cX7_goYear 34 = .ok (.dup2, 1) := by decide +kernel
theorem dX7_goYear_35 : decode cX7_goYear 35 = .ok (.iaload, 1) := by decide +kernel
theorem dX7_goYear_36 : decode cX7_goYear 36 = .ok (.iconst 1, 1) := by decide +kernel
theorem dX7_goYear_37 : decode cX7_goYear 37 = .ok (.iadd, 1) := by decide +kernel
theorem dX7_goYear_38 : decode cX7_goYear 38 = .ok (.iastore, 1) := by decide +kernel
theorem dX7_goYear_39 : decode cX7_goYear 39 = .ok (.aload_n 0, 1) := by decide +kernel
theorem dX7_goYear_40 : decode cX7_goYear 40 = .ok (.getfield 25, 3) := by decide +kernel
theorem dX7_goYear_43 : decode cX7_goYear 43 = .ok (.iconst 1, 1) := by decide +kernel
theorem dX7_goYear_44 : decode cX7_goYear 44 = .ok (.aload_n 0, 1) := by decide +kernel
theorem dX7_goYear_45 : decode cX7_goYear 45 = .ok (.getfield 25, 3) := by decide +kernel
theorem dX7_goYear_48 : decode cX7_goYear 48 = .ok (.iconst 1, 1) := by decide +kernel
theorem dX7_goYear_49 : decode cX7_goYear 49 = .ok (.iaload, 1) := by decide +kernel
theorem dX7_goYear_50 : decode cX7_goYear 50 = .ok (.bipush 96, 2) := by decide +kernel
theorem dX7_goYear_52 : decode cX7_goYear 52 = .ok (.if_icmp .le 8, 3) := by decide +kernel
theorem dX7_goYear_55 : decode cX7_goYear 55 = .ok (.bipush 99, 2) := by decide +kernel
theorem dX7_goYear_57 : decode cX7_goYear 57 = .ok (.goto 11, 3) := by decide +kernel
theorem dX7_goYear_60 : decode cX7_goYear 60 = .ok (.aload_n 0, 1) := by decide +kernel
theorem dX7_goYear_61 : decode cX7_goYear 61 = .ok (.getfield 25, 3) := by decide +kernel
theorem dX7_goYear_64 : decode cX7_goYear 64 = .ok (.iconst 1, 1) := by decide +kernel
theorem dX7_goYear_65 : decode cX7_goYear 65 = .ok (.iaload, 1) := by decide +kernel
theorem dX7_goYear_66 : decode cX7_goYear 66 = .ok (.iconst 3, 1) := by decide +kernel
theorem dX7_goYear_67 : decode cX7_goYear 67 = .ok (.iadd, 1) := by decide +kernel
theorem dX7_goYear_68 : decode cX7_goYear 68 = .ok (.iastore, 1) := by decide +kernel
theorem dX7_goYear_69 : decode cX7_goYear 69 = .ok (.aload_n 0, 1) := by decide +kernel
theorem dX7_goYear_70 : decode cX7_goYear 70 = .ok (.getfield 25, 3) := by decide +kernel
theorem dX7_goYear_73 : decode cX7_goYear 73 = .ok (.iconst 0, 1) := by decide +kernel
theorem dX7_goYear_74 : decode cX7_goYear 74 = .ok (.dup2, 1) := by decide +kernel
theorem dX7_goYear_75 : decode cX7_goYear 75 = .ok (.iaload, 1) := by decide +kernel
theorem dX7_goYear_76 : decode cX7_goYear 76 = .ok (.iconst 1, 1) := by decide +kernel
theorem dX7_goYear_77 : decode cX7_goYear 77 = .ok (.iadd, 1) := by decide +kernel
theorem dX7_goYear_78 : decode cX7_goYear 78 = .ok (.iastore, 1) := by decide +kernel
theorem dX7_goYear_79 : decode cX7_goYear 79 = .ok (.return_, 1) := by decide +kernel
theorem dX7_goYears_0 : decode cX7_goYears 0 = .ok (.iconst 0, 1) := by decide +kernel
theorem dX7_goYears_1 : decode cX7_goYears 1 = .ok (.istore_n 2, 1) := by decide +kernel
theorem dX7_goYears_2 : decode cX7_goYears 2 = .ok (.iload_n 2, 1) := by decide +kernel
theorem dX7_goYears_3 : decode cX7_goYears 3 = .ok (.iload_n 1, 1) := by decide +kernel
theorem dX7_goYears_4 : decode cX7_goYears 4 = .ok (.if_icmp .ge 13, 3) := by decide +kernel
theorem dX7_goYears_7 : decode cX7_goYears 7 = .ok (.aload_n 0, 1) := by decide +kernel
theorem dX7_goYears_8 : decode cX7_goYears 8 = .ok (.invokevirtual 128, 3) := by decide +kernel
theorem dX7_goYears_11 : decode cX7_goYears 11 = .ok (.iinc 2 1, 3) := by decide +kernel
theorem dX7_goYears_14 : decode cX7_goYears 14 = .ok (.goto (-12), 3) := by decide +kernel
theorem dX7_goYears_17 : decode cX7_goYears 17 = .ok (.return_, 1) := by decide +kernel
theorem dX7_take_0 : decode cX7_take 0 = .ok (.iconst 0, 1) := by decide +kernel
theorem dX7_take_1 : decode cX7_take 1 = .ok (.istore_n 1, 1) := by decide +kernel
theorem dX7_take_2 : decode cX7_take 2 = .ok (.iload_n 1, 1) := by decide +kernel
theorem dX7_take_3 : decode cX7_take 3 = .ok (.bipush 32, 2) := by decide +kernel
theorem dX7_take_5 : decode cX7_take 5 = .ok (.if_icmp .ge 21, 3) := by decide +kernel
theorem dX7_take_8 : decode cX7_take 8 = .ok (.aload_n 0, 1) := by decide +kernel
theorem dX7_take_9 : decode cX7_take 9 = .ok (.getfield 19, 3) := by decide +kernel
theorem dX7_take_12 : decode cX7_take 12 = .ok (.iload_n 1, 1) := by decide +kernel
theorem dX7_take_13 : decode cX7_take 13 = .ok (.aload_n 0, 1) := by decide +kernel
theorem dX7_take_14 : decode cX7_take 14 = .ok (.getfield 25, 3) := by decide +kernel
theorem dX7_take_17 : decode cX7_take 17 = .ok (.iload_n 1, 1) := by decide +kernel
theorem dX7_take_18 : decode cX7_take 18 = .ok (.iaload, 1) := by decide +kernel
theorem dX7_take_19 : decode cX7_take 19 = .ok (.iastore, 1) := by decide +kernel
theorem dX7_take_20 : decode cX7_take 20 = .ok (.iinc 1 1, 3) := by decide +kernel
theorem dX7_take_23 : decode cX7_take 23 = .ok (.goto (-21), 3) := by decide +kernel
theorem dX7_take_26 : decode cX7_take 26 = .ok (.return_, 1) := by decide +kernel
theorem dX7_minister_0 : decode cX7_minister 0 = .ok (.aload_n 0, 1) := by decide +kernel
theorem dX7_minister_1 : decode cX7_minister 1 = .ok (.iload_n 1, 1) := by decide +kernel
theorem dX7_minister_2 : decode cX7_minister 2 = .ok (.invokevirtual 131, 3) := by decide +kernel
theorem dX7_minister_5 : decode cX7_minister 5 = .ok (.ifCond .eq 15, 3) := by decide +kernel
theorem dX7_minister_8 : decode cX7_minister 8 = .ok (.iload_n 2, 1) := by decide +kernel
theorem dX7_minister_9 : decode cX7_minister 9 = .ok (.i2l, 1) := by decide +kernel
theorem dX7_minister_10 : decode cX7_minister 10 = .ok (.lconst 0, 1) := by decide +kernel
theorem dX7_minister_11 : decode cX7_minister 11 = .ok (.ldc2_w 134, 3) := by decide +kernel
theorem dX7_minister_14 : decode cX7_minister 14 = .ok (.invokestatic 58, 3) := by decide +kernel
theorem dX7_minister_17 : decode cX7_minister 17 = .ok (.ifCond .ne 5, 3) := by decide +kernel
theorem dX7_minister_20 : decode cX7_minister 20 = .ok (.iconst (-1), 1) := by decide +kernel
theorem dX7_minister_21 : decode cX7_minister 21 = .ok (.ireturn, 1) := by decide +kernel
theorem dX7_minister_22 : decode cX7_minister 22 = .ok (.aload_n 0, 1) := by decide +kernel
theorem dX7_minister_23 : decode cX7_minister 23 = .ok (.invokevirtual 136, 3) := by decide +kernel
theorem dX7_minister_26 : decode cX7_minister 26 = .ok (.iload_n 2, 1) := by decide +kernel
theorem dX7_minister_27 : decode cX7_minister 27 = .ok (.tableswitch 68 0 3 #[29, 38, 48, 58], 29) := by decide +kernel
theorem dX7_minister_56 : decode cX7_minister 56 = .ok (.aload_n 0, 1) := by decide +kernel
theorem dX7_minister_57 : decode cX7_minister 57 = .ok (.getfield 13, 3) := by decide +kernel
theorem dX7_minister_60 : decode cX7_minister 60 = .ok (.iconst 4, 1) := by decide +kernel
theorem dX7_minister_61 : decode cX7_minister 61 = .ok (.iload_n 1, 1) := by decide +kernel
theorem dX7_minister_62 : decode cX7_minister 62 = .ok (.iadd, 1) := by decide +kernel
theorem dX7_minister_63 : decode cX7_minister 63 = .ok (.iaload, 1) := by decide +kernel
theorem dX7_minister_64 : decode cX7_minister 64 = .ok (.ireturn, 1) := by decide +kernel
theorem dX7_minister_65 : decode cX7_minister 65 = .ok (.aload_n 0, 1) := by decide +kernel
theorem dX7_minister_66 : decode cX7_minister 66 = .ok (.getfield 19, 3) := by decide +kernel
theorem dX7_minister_69 : decode cX7_minister 69 = .ok (.bipush 18, 2) := by decide +kernel
theorem dX7_minister_71 : decode cX7_minister 71 = .ok (.iload_n 1, 1) := by decide +kernel
theorem dX7_minister_72 : decode cX7_minister 72 = .ok (.iadd, 1) := by decide +kernel
theorem dX7_minister_73 : decode cX7_minister 73 = .ok (.iaload, 1) := by decide +kernel
theorem dX7_minister_74 : decode cX7_minister 74 = .ok (.ireturn, 1) := by decide +kernel
theorem dX7_minister_75 : decode cX7_minister 75 = .ok (.aload_n 0, 1) := by decide +kernel
theorem dX7_minister_76 : decode cX7_minister 76 = .ok (.getfield 13, 3) := by decide +kernel
theorem dX7_minister_79 : decode cX7_minister 79 = .ok (.bipush 11, 2) := by decide +kernel
theorem dX7_minister_81 : decode cX7_minister 81 = .ok (.iload_n 1, 1) := by decide +kernel
theorem dX7_minister_82 : decode cX7_minister 82 = .ok (.iadd, 1) := by decide +kernel
theorem dX7_minister_83 : decode cX7_minister 83 = .ok (.iaload, 1) := by decide +kernel
theorem dX7_minister_84 : decode cX7_minister 84 = .ok (.ireturn, 1) := by decide +kernel
theorem dX7_minister_85 : decode cX7_minister 85 = .ok (.aload_n 0, 1) := by decide +kernel
theorem dX7_minister_86 : decode cX7_minister 86 = .ok (.getfield 19, 3) := by decide +kernel
theorem dX7_minister_89 : decode cX7_minister 89 = .ok (.bipush 25, 2) := by decide +kernel
theorem dX7_minister_91 : decode cX7_minister 91 = .ok (.iload_n 1, 1) := by decide +kernel
theorem dX7_minister_92 : decode cX7_minister 92 = .ok (.iadd, 1) := by decide +kernel
theorem dX7_minister_93 : decode cX7_minister 93 = .ok (.iaload, 1) := by decide +kernel
theorem dX7_minister_94 : decode cX7_minister 94 = .ok (.ireturn, 1) := by decide +kernel
theorem dX7_minister_95 : decode cX7_minister 95 = .ok (.aload_n 0, 1) := by decide +kernel
theorem dX7_minister_96 : decode cX7_minister 96 = .ok (.iload_n 1, 1) := by decide +kernel
theorem dX7_minister_97 : decode cX7_minister 97 = .ok (.invokevirtual 114, 3) := by decide +kernel
theorem dX7_minister_100 : decode cX7_minister 100 = .ok (.ifCond .le 7, 3) := by decide +kernel
theorem dX7_minister_103 : decode cX7_minister 103 = .ok (.iconst 1, 1) := by decide +kernel
theorem dX7_minister_104 : decode cX7_minister 104 = .ok (.goto 4, 3) := by decide +kernel
theorem dX7_minister_107 : decode cX7_minister 107 = .ok (.iconst 0, 1) := by decide +kernel
theorem dX7_minister_108 : decode cX7_minister 108 = .ok (.ireturn, 1) := by decide +kernel
theorem dX7_step_0 : decode cX7_step 0 = .ok (.aload_n 0, 1) := by decide +kernel
theorem dX7_step_1 : decode cX7_step 1 = .ok (.iload_n 1, 1) := by decide +kernel
theorem dX7_step_2 : decode cX7_step 2 = .ok (.invokevirtual 139, 3) := by decide +kernel
theorem dX7_step_5 : decode cX7_step 5 = .ok (.ifCond .eq 15, 3) := by decide +kernel
theorem dX7_step_8 : decode cX7_step 8 = .ok (.iload_n 2, 1) := by decide +kernel
theorem dX7_step_9 : decode cX7_step 9 = .ok (.i2l, 1) := by decide +kernel
theorem dX7_step_10 : decode cX7_step 10 = .ok (.lconst 0, 1) := by decide +kernel
theorem dX7_step_11 : decode cX7_step 11 = .ok (.ldc2_w 83, 3) := by decide +kernel
theorem dX7_step_14 : decode cX7_step 14 = .ok (.invokestatic 58, 3) := by decide +kernel
theorem dX7_step_17 : decode cX7_step 17 = .ok (.ifCond .ne 5, 3) := by decide +kernel
theorem dX7_step_20 : decode cX7_step 20 = .ok (.iconst (-1), 1) := by decide +kernel
theorem dX7_step_21 : decode cX7_step 21 = .ok (.ireturn, 1) := by decide +kernel
theorem dX7_step_22 : decode cX7_step 22 = .ok (.iconst 0, 1) := by decide +kernel
theorem dX7_step_23 : decode cX7_step 23 = .ok (.istore_n 3, 1) := by decide +kernel
theorem dX7_step_24 : decode cX7_step 24 = .ok (.iconst 0, 1) := by decide +kernel
theorem dX7_step_25 : decode cX7_step 25 = .ok (.istore 4, 2) := by decide +kernel
theorem dX7_step_27 : decode cX7_step 27 = .ok (.iload 4, 2) := by decide +kernel
theorem dX7_step_29 : decode cX7_step 29 = .ok (.aload_n 0, 1) := by decide +kernel
theorem dX7_step_30 : decode cX7_step 30 = .ok (.getfield 13, 3) := by decide +kernel
theorem dX7_step_33 : decode cX7_step 33 = .ok (.iconst 3, 1) := by decide +kernel
theorem dX7_step_34 : decode cX7_step 34 = .ok (.iaload, 1) := by decide +kernel
theorem dX7_step_35 : decode cX7_step 35 = .ok (.if_icmp .ge 31, 3) := by decide +kernel
theorem dX7_step_38 : decode cX7_step 38 = .ok (.iload_n 3, 1) := by decide +kernel
theorem dX7_step_39 : decode cX7_step 39 = .ok (.aload_n 0, 1) := by decide +kernel
theorem dX7_step_40 : decode cX7_step 40 = .ok (.getfield 19, 3) := by decide +kernel
theorem dX7_step_43 : decode cX7_step 43 = .ok (.bipush 18, 2) := by decide +kernel
theorem dX7_step_45 : decode cX7_step 45 = .ok (.iload 4, 2) := by decide +kernel
theorem dX7_step_47 : decode cX7_step 47 = .ok (.iadd, 1) := by decide +kernel
theorem dX7_step_48 : decode cX7_step 48 = .ok (.iaload, 1) := by decide +kernel
theorem dX7_step_49 : decode cX7_step 49 = .ok (.iload_n 1, 1) := by decide +kernel
theorem dX7_step_50 : decode cX7_step 50 = .ok (.if_icmp .ne 7, 3) := by decide +kernel
theorem dX7_step_53 : decode cX7_step 53 = .ok (.iconst 1, 1) := by decide +kernel
theorem dX7_step_54 : decode cX7_step 54 = .ok (.goto 4, 3) := by decide +kernel
theorem dX7_step_57 : decode cX7_step 57 = .ok (.iconst 0, 1) := by decide +kernel
theorem dX7_step_58 : decode cX7_step 58 = .ok (.iadd, 1) := by decide +kernel
theorem dX7_step_59 : decode cX7_step 59 = .ok (.istore_n 3, 1) := by decide +kernel
theorem dX7_step_60 : decode cX7_step 60 = .ok (.iinc 4 1, 3) := by decide +kernel
theorem dX7_step_63 : decode cX7_step 63 = .ok (.goto (-36), 3) := by decide +kernel
theorem dX7_step_66 : decode cX7_step 66 = .ok (.iload_n 2, 1) := by decide +kernel
theorem dX7_step_67 : decode cX7_step 67 = .ok (.ifCond .ne 14, 3) := by decide +kernel
theorem dX7_step_70 : decode cX7_step 70 = .ok (.aload_n 0, 1) := by decide +kernel
theorem dX7_step_71 : decode cX7_step 71 = .ok (.getfield 19, 3) := by decide +kernel
theorem dX7_step_74 : decode cX7_step 74 = .ok (.iconst 2, 1) := by decide +kernel
theorem dX7_step_75 : decode cX7_step 75 = .ok (.iload_n 1, 1) := by decide +kernel
theorem dX7_step_76 : decode cX7_step 76 = .ok (.iadd, 1) := by decide +kernel
theorem dX7_step_77 : decode cX7_step 77 = .ok (.iaload, 1) := by decide +kernel
theorem dX7_step_78 : decode cX7_step 78 = .ok (.goto 22, 3) := by decide +kernel
theorem dX7_step_81 : decode cX7_step 81 = .ok (.iload_n 2, 1) := by decide +kernel
theorem dX7_step_82 : decode cX7_step 82 = .ok (.iconst 3, 1) := by decide +kernel
theorem dX7_step_83 : decode cX7_step 83 = .ok (.if_icmp .ne 7, 3) := by decide +kernel
theorem dX7_step_86 : decode cX7_step 86 = .ok (.iload_n 3, 1) := by decide +kernel
theorem dX7_step_87 : decode cX7_step 87 = .ok (.goto 13, 3) := by decide +kernel
theorem dX7_step_90 : decode cX7_step 90 = .ok (.aload_n 0, 1) := by decide +kernel
theorem dX7_step_91 : decode cX7_step 91 = .ok (.getfield 13, 3) := by decide +kernel
theorem dX7_step_94 : decode cX7_step 94 = .ok (.iload_n 2, 1) := by decide +kernel
theorem dX7_step_95 : decode cX7_step 95 = .ok (.iaload, 1) := by decide +kernel
theorem dX7_step_96 : decode cX7_step 96 = .ok (.iload_n 1, 1) := by decide +kernel
theorem dX7_step_97 : decode cX7_step 97 = .ok (.ishr, 1) := by decide +kernel
theorem dX7_step_98 : decode cX7_step 98 = .ok (.iconst 1, 1) := by decide +kernel
theorem dX7_step_99 : decode cX7_step 99 = .ok (.iand, 1) := by decide +kernel
theorem dX7_step_100 : decode cX7_step 100 = .ok (.ireturn, 1) := by decide +kernel
theorem dX7_note_0 : decode cX7_note 0 = .ok (.aload_n 0, 1) := by decide +kernel
theorem dX7_note_1 : decode cX7_note 1 = .ok (.getfield 101, 3) := by decide +kernel
theorem dX7_note_4 : decode cX7_note 4 = .ok (.bipush 8, 2) := by decide +kernel
theorem dX7_note_6 : decode cX7_note 6 = .ok (.if_icmp .ne 43, 3) := by decide +kernel
theorem dX7_note_9 : decode cX7_note 9 = .ok (.iconst 0, 1) := by decide +kernel
theorem dX7_note_10 : decode cX7_note 10 = .ok (.istore_n 1, 1) := by decide +kernel
theorem dX7_note_11 : decode cX7_note 11 = .ok (.iload_n 1, 1) := by decide +kernel
theorem dX7_note_12 : decode cX7_note 12 = .ok (.sipush 224, 3) := by decide +kernel
theorem dX7_note_15 : decode cX7_note 15 = .ok (.if_icmp .ge 24, 3) := by decide +kernel
theorem dX7_note_18 : decode cX7_note 18 = .ok (.aload_n 0, 1) := by decide +kernel
theorem dX7_note_19 : decode cX7_note 19 = .ok (.getfield 28, 3) := by decide +kernel
theorem dX7_note_22 : decode cX7_note 22 = .ok (.iload_n 1, 1) := by decide +kernel
theorem dX7_note_23 : decode cX7_note 23 = .ok (.aload_n 0, 1) := by decide +kernel
theorem dX7_note_24 : decode cX7_note 24 = .ok (.getfield 28, 3) := by decide +kernel
theorem dX7_note_27 : decode cX7_note 27 = .ok (.bipush 32, 2) := by decide +kernel
theorem dX7_note_29 : decode cX7_note 29 = .ok (.iload_n 1, 1) := by decide +kernel
theorem dX7_note_30 : decode cX7_note 30 = .ok (.iadd, 1) := by decide +kernel
theorem dX7_note_31 : decode cX7_note 31 = .ok (.iaload, 1) := by decide +kernel
theorem dX7_note_32 : decode cX7_note 32 = .ok (.iastore, 1) := by decide +kernel
theorem dX7_note_33 : decode cX7_note 33 = .ok (.iinc 1 1, 3) := by decide +kernel
theorem dX7_note_36 : decode cX7_note 36 = .ok (.goto (-25), 3) := by decide +kernel
theorem dX7_note_39 : decode cX7_note 39 = .ok (.aload_n 0, 1) := by decide +kernel
theorem dX7_note_40 : decode cX7_note 40 = .ok (.dup, 1) := by decide +kernel
theorem dX7_note_41 : decode cX7_note 41 = .ok (.getfield 101, 3) := by decide +kernel
theorem dX7_note_44 : decode cX7_note 44 = .ok (.iconst 1, 1) := by decide +kernel
theorem dX7_note_45 : decode cX7_note 45 = .ok (.isub, 1) := by decide +kernel
theorem dX7_note_46 : decode cX7_note 46 = .ok (.putfield 101, 3) := by decide +kernel
theorem dX7_note_49 : decode cX7_note 49 = .ok (.iconst 0, 1) := by decide +kernel
theorem dX7_note_50 : decode cX7_note 50 = .ok (.istore_n 1, 1) := by decide +kernel
theorem dX7_note_51 : decode cX7_note 51 = .ok (.iload_n 1, 1) := by decide +kernel
theorem dX7_note_52 : decode cX7_note 52 = .ok (.bipush 32, 2) := by decide +kernel
theorem dX7_note_54 : decode cX7_note 54 = .ok (.if_icmp .ge 29, 3) := by decide +kernel
theorem dX7_note_57 : decode cX7_note 57 = .ok (.aload_n 0, 1) := by decide +kernel
theorem dX7_note_58 : decode cX7_note 58 = .ok (.getfield 28, 3) := by decide +kernel
theorem dX7_note_61 : decode cX7_note 61 = .ok (.bipush 32, 2) := by decide +kernel
theorem dX7_note_63 : decode cX7_note 63 = .ok (.aload_n 0, 1) := by decide +kernel
theorem dX7_note_64 : decode cX7_note 64 = .ok (.getfield 101, 3) := by decide +kernel
theorem dX7_note_67 : decode cX7_note 67 = .ok (.imul, 1) := by decide +kernel
theorem dX7_note_68 : decode cX7_note 68 = .ok (.iload_n 1, 1) := by decide +kernel
theorem dX7_note_69 : decode cX7_note 69 = .ok (.iadd, 1) := by decide +kernel
theorem dX7_note_70 : decode cX7_note 70 = .ok (.aload_n 0, 1) := by decide +kernel
theorem dX7_note_71 : decode cX7_note 71 = .ok (.getfield 19, 3) := by decide +kernel
theorem dX7_note_74 : decode cX7_note 74 = .ok (.iload_n 1, 1) := by decide +kernel
theorem dX7_note_75 : decode cX7_note 75 = .ok (.iaload, 1) := by decide +kernel
theorem dX7_note_76 : decode cX7_note 76 = .ok (.iastore, 1) := by decide +kernel
theorem dX7_note_77 : decode cX7_note 77 = .ok (.iinc 1 1, 3) := by decide +kernel
theorem dX7_note_80 : decode cX7_note 80 = .ok (.goto (-29), 3) := by decide +kernel
theorem dX7_note_83 : decode cX7_note 83 = .ok (.aload_n 0, 1) := by decide +kernel
theorem dX7_note_84 : decode cX7_note 84 = .ok (.dup, 1) := by decide +kernel
theorem dX7_note_85 : decode cX7_note 85 = .ok (.getfield 101, 3) := by decide +kernel
theorem dX7_note_88 : decode cX7_note 88 = .ok (.iconst 1, 1) := by decide +kernel
theorem dX7_note_89 : decode cX7_note 89 = .ok (.iadd, 1) := by decide +kernel
theorem dX7_note_90 : decode cX7_note 90 = .ok (.putfield 101, 3) := by decide +kernel
theorem dX7_note_93 : decode cX7_note 93 = .ok (.return_, 1) := by decide +kernel
theorem dX7_pass_0 : decode cX7_pass 0 = .ok (.iload_n 1, 1) := by decide +kernel
theorem dX7_pass_1 : decode cX7_pass 1 = .ok (.i2l, 1) := by decide +kernel
theorem dX7_pass_2 : decode cX7_pass 2 = .ok (.lconst 1, 1) := by decide +kernel
theorem dX7_pass_3 : decode cX7_pass 3 = .ok (.ldc2_w 142, 3) := by decide +kernel
theorem dX7_pass_6 : decode cX7_pass 6 = .ok (.invokestatic 58, 3) := by decide +kernel
theorem dX7_pass_9 : decode cX7_pass 9 = .ok (.ifCond .ne 5, 3) := by decide +kernel
theorem dX7_pass_12 : decode cX7_pass 12 = .ok (.iconst (-1), 1) := by decide +kernel
theorem dX7_pass_13 : decode cX7_pass 13 = .ok (.ireturn, 1) := by decide +kernel
theorem dX7_pass_14 : decode cX7_pass 14 = .ok (.aload_n 0, 1) := by decide +kernel
theorem dX7_pass_15 : decode cX7_pass 15 = .ok (.getfield 19, 3) := by decide +kernel
theorem dX7_pass_18 : decode cX7_pass 18 = .ok (.iconst 0, 1) := by decide +kernel
theorem dX7_pass_19 : decode cX7_pass 19 = .ok (.iaload, 1) := by decide +kernel
theorem dX7_pass_20 : decode cX7_pass 20 = .ok (.iload_n 1, 1) := by decide +kernel
theorem dX7_pass_21 : decode cX7_pass 21 = .ok (.iadd, 1) := by decide +kernel
theorem dX7_pass_22 : decode cX7_pass 22 = .ok (.sipush 999, 3) := by decide +kernel
theorem dX7_pass_25 : decode cX7_pass 25 = .ok (.if_icmp .le 6, 3) := by decide +kernel
theorem dX7_pass_28 : decode cX7_pass 28 = .ok (.bipush (-2), 2) := by decide +kernel
theorem dX7_pass_30 : decode cX7_pass 30 = .ok (.ireturn, 1) := by decide +kernel
theorem dX7_pass_31 : decode cX7_pass 31 = .ok (.aload_n 0, 1) := by decide +kernel
theorem dX7_pass_32 : decode cX7_pass 32 = .ok (.invokevirtual 144, 3) := by decide +kernel
theorem dX7_pass_35 : decode cX7_pass 35 = .ok (.aload_n 0, 1) := by decide +kernel
theorem dX7_pass_36 : decode cX7_pass 36 = .ok (.invokevirtual 136, 3) := by decide +kernel
theorem dX7_pass_39 : decode cX7_pass 39 = .ok (.aload_n 0, 1) := by decide +kernel
theorem dX7_pass_40 : decode cX7_pass 40 = .ok (.iload_n 1, 1) := by decide +kernel
theorem dX7_pass_41 : decode cX7_pass 41 = .ok (.invokevirtual 147, 3) := by decide +kernel
theorem dX7_pass_44 : decode cX7_pass 44 = .ok (.aload_n 0, 1) := by decide +kernel
theorem dX7_pass_45 : decode cX7_pass 45 = .ok (.invokevirtual 150, 3) := by decide +kernel
theorem dX7_pass_48 : decode cX7_pass 48 = .ok (.aload_n 0, 1) := by decide +kernel
theorem dX7_pass_49 : decode cX7_pass 49 = .ok (.getfield 19, 3) := by decide +kernel
theorem dX7_pass_52 : decode cX7_pass 52 = .ok (.iconst 0, 1) := by decide +kernel
theorem dX7_pass_53 : decode cX7_pass 53 = .ok (.iaload, 1) := by decide +kernel
theorem dX7_pass_54 : decode cX7_pass 54 = .ok (.ireturn, 1) := by decide +kernel
theorem dX7_wax_0 : decode cX7_wax 0 = .ok (.aload_n 0, 1) := by decide +kernel
theorem dX7_wax_1 : decode cX7_wax 1 = .ok (.iload_n 1, 1) := by decide +kernel
theorem dX7_wax_2 : decode cX7_wax 2 = .ok (.invokevirtual 139, 3) := by decide +kernel
theorem dX7_wax_5 : decode cX7_wax 5 = .ok (.ifCond .ne 5, 3) := by decide +kernel
theorem dX7_wax_8 : decode cX7_wax 8 = .ok (.iconst (-1), 1) := by decide +kernel
theorem dX7_wax_9 : decode cX7_wax 9 = .ok (.ireturn, 1) := by decide +kernel
theorem dX7_wax_10 : decode cX7_wax 10 = .ok (.aload_n 0, 1) := by decide +kernel
theorem dX7_wax_11 : decode cX7_wax 11 = .ok (.getfield 19, 3) := by decide +kernel
theorem dX7_wax_14 : decode cX7_wax 14 = .ok (.iconst 2, 1) := by decide +kernel
theorem dX7_wax_15 : decode cX7_wax 15 = .ok (.iload_n 1, 1) := by decide +kernel
theorem dX7_wax_16 : decode cX7_wax 16 = .ok (.iadd, 1) := by decide +kernel
theorem dX7_wax_17 : decode cX7_wax 17 = .ok (.iaload, 1) := by decide +kernel
theorem dX7_wax_18 : decode cX7_wax 18 = .ok (.bipush 9, 2) := by decide +kernel
theorem dX7_wax_20 : decode cX7_wax 20 = .ok (.if_icmp .eq 12, 3) := by decide +kernel
theorem dX7_wax_23 : decode cX7_wax 23 = .ok (.aload_n 0, 1) := by decide +kernel
theorem dX7_wax_24 : decode cX7_wax 24 = .ok (.getfield 19, 3) := by decide +kernel
theorem dX7_wax_27 : decode cX7_wax 27 = .ok (.iconst 1, 1) := by decide +kernel
theorem dX7_wax_28 : decode cX7_wax 28 = .ok (.iaload, 1) := by decide +kernel
theorem dX7_wax_29 : decode cX7_wax 29 = .ok (.ifCond .ne 6, 3) := by decide +kernel
theorem dX7_wax_32 : decode cX7_wax 32 = .ok (.bipush (-2), 2) := by decide +kernel
theorem dX7_wax_34 : decode cX7_wax 34 = .ok (.ireturn, 1) := by decide +kernel
theorem dX7_wax_35 : decode cX7_wax 35 = .ok (.aload_n 0, 1) := by decide +kernel
theorem dX7_wax_36 : decode cX7_wax 36 = .ok (.invokevirtual 144, 3) := by decide +kernel
theorem dX7_wax_39 : decode cX7_wax 39 = .ok (.aload_n 0, 1) := by decide +kernel
theorem dX7_wax_40 : decode cX7_wax 40 = .ok (.getfield 19, 3) := by decide +kernel
theorem dX7_wax_43 : decode cX7_wax 43 = .ok (.iconst 1, 1) := by decide +kernel
theorem dX7_wax_44 : decode cX7_wax 44 = .ok (.dup2, 1) := by decide +kernel
theorem dX7_wax_45 : decode cX7_wax 45 = .ok (.iaload, 1) := by decide +kernel
theorem dX7_wax_46 : decode cX7_wax 46 = .ok (.iconst 1, 1) := by decide +kernel
theorem dX7_wax_47 : decode cX7_wax 47 = .ok (.isub, 1) := by decide +kernel
theorem dX7_wax_48 : decode cX7_wax 48 = .ok (.iastore, 1) := by decide +kernel
theorem dX7_wax_49 : decode cX7_wax 49 = .ok (.aload_n 0, 1) := by decide +kernel
theorem dX7_wax_50 : decode cX7_wax 50 = .ok (.getfield 19, 3) := by decide +kernel
theorem dX7_wax_53 : decode cX7_wax 53 = .ok (.iconst 2, 1) := by decide +kernel
theorem dX7_wax_54 : decode cX7_wax 54 = .ok (.iload_n 1, 1) := by decide +kernel
theorem dX7_wax_55 : decode cX7_wax 55 = .ok (.iadd, 1) := by decide +kernel
theorem dX7_wax_56 : decode cX7_wax 56 = .ok (.dup2, 1) := by decide +kernel
theorem dX7_wax_57 : decode cX7_wax 57 = .ok (.iaload, 1) := by decide +kernel
theorem dX7_wax_58 : decode cX7_wax 58 = .ok (.iconst 1, 1) := by decide +kernel
theorem dX7_wax_59 : decode cX7_wax 59 = .ok (.iadd, 1) := by decide +kernel
theorem dX7_wax_60 : decode cX7_wax 60 = .ok (.iastore, 1) := by decide +kernel
theorem dX7_wax_61 : decode cX7_wax 61 = .ok (.aload_n 0, 1) := by decide +kernel
theorem dX7_wax_62 : decode cX7_wax 62 = .ok (.getfield 19, 3) := by decide +kernel
theorem dX7_wax_65 : decode cX7_wax 65 = .ok (.iconst 2, 1) := by decide +kernel
theorem dX7_wax_66 : decode cX7_wax 66 = .ok (.iload_n 1, 1) := by decide +kernel
theorem dX7_wax_67 : decode cX7_wax 67 = .ok (.iadd, 1) := by decide +kernel
theorem dX7_wax_68 : decode cX7_wax 68 = .ok (.iaload, 1) := by decide +kernel
theorem dX7_wax_69 : decode cX7_wax 69 = .ok (.ireturn, 1) := by decide +kernel
theorem dX7_sand_0 : decode cX7_sand 0 = .ok (.aload_n 0, 1) := by decide +kernel
theorem dX7_sand_1 : decode cX7_sand 1 = .ok (.iload_n 1, 1) := by decide +kernel
theorem dX7_sand_2 : decode cX7_sand 2 = .ok (.invokevirtual 139, 3) := by decide +kernel
theorem dX7_sand_5 : decode cX7_sand 5 = .ok (.ifCond .ne 5, 3) := by decide +kernel
theorem dX7_sand_8 : decode cX7_sand 8 = .ok (.iconst (-1), 1) := by decide +kernel
theorem dX7_sand_9 : decode cX7_sand 9 = .ok (.ireturn, 1) := by decide +kernel
theorem dX7_sand_10 : decode cX7_sand 10 = .ok (.aload_n 0, 1) := by decide +kernel
theorem dX7_sand_11 : decode cX7_sand 11 = .ok (.getfield 19, 3) := by decide +kernel
theorem dX7_sand_14 : decode cX7_sand 14 = .ok (.iconst 2, 1) := by decide +kernel
theorem dX7_sand_15 : decode cX7_sand 15 = .ok (.iload_n 1, 1) := by decide +kernel
theorem dX7_sand_16 : decode cX7_sand 16 = .ok (.iadd, 1) := by decide +kernel
theorem dX7_sand_17 : decode cX7_sand 17 = .ok (.iaload, 1) := by decide +kernel
theorem dX7_sand_18 : decode cX7_sand 18 = .ok (.ifCond .eq 13, 3) := by decide +kernel
theorem dX7_sand_21 : decode cX7_sand 21 = .ok (.aload_n 0, 1) := by decide +kernel
theorem dX7_sand_22 : decode cX7_sand 22 = .ok (.getfield 19, 3) := by decide +kernel
theorem dX7_sand_25 : decode cX7_sand 25 = .ok (.iconst 1, 1) := by decide +kernel
theorem dX7_sand_26 : decode cX7_sand 26 = .ok (.iaload, 1) := by decide +kernel
theorem dX7_sand_27 : decode cX7_sand 27 = .ok (.iconst 2, 1) := by decide +kernel
theorem dX7_sand_28 : decode cX7_sand 28 = .ok (.if_icmp .ge 6, 3) := by decide +kernel
theorem dX7_sand_31 : decode cX7_sand 31 = .ok (.bipush (-2), 2) := by decide +kernel
theorem dX7_sand_33 : decode cX7_sand 33 = .ok (.ireturn, 1) := by decide +kernel
theorem dX7_sand_34 : decode cX7_sand 34 = .ok (.aload_n 0, 1) := by decide +kernel
theorem dX7_sand_35 : decode cX7_sand 35 = .ok (.invokevirtual 144, 3) := by decide +kernel
theorem dX7_sand_38 : decode cX7_sand 38 = .ok (.aload_n 0, 1) := by decide +kernel
theorem dX7_sand_39 : decode cX7_sand 39 = .ok (.getfield 19, 3) := by decide +kernel
theorem dX7_sand_42 : decode cX7_sand 42 = .ok (.iconst 1, 1) := by decide +kernel
theorem dX7_sand_43 : decode cX7_sand 43 = .ok (.dup2, 1) := by decide +kernel
theorem dX7_sand_44 : decode cX7_sand 44 = .ok (.iaload, 1) := by decide +kernel
theorem dX7_sand_45 : decode cX7_sand 45 = .ok (.iconst 2, 1) := by decide +kernel
theorem dX7_sand_46 : decode cX7_sand 46 = .ok (.isub, 1) := by decide +kernel
theorem dX7_sand_47 : decode cX7_sand 47 = .ok (.iastore, 1) := by decide +kernel
theorem dX7_sand_48 : decode cX7_sand 48 = .ok (.aload_n 0, 1) := by decide +kernel
theorem dX7_sand_49 : decode cX7_sand 49 = .ok (.getfield 19, 3) := by decide +kernel
theorem dX7_sand_52 : decode cX7_sand 52 = .ok (.iconst 2, 1) := by decide +kernel
theorem dX7_sand_53 : decode cX7_sand 53 = .ok (.iload_n 1, 1) := by decide +kernel
theorem dX7_sand_54 : decode cX7_sand 54 = .ok (.iadd, 1) := by decide +kernel
theorem dX7_sand_55 : decode cX7_sand 55 = .ok (.aload_n 0, 1) := by decide +kernel
theorem dX7_sand_56 : decode cX7_sand 56 = .ok (.getfield 19, 3) := by decide +kernel
theorem dX7_sand_59 : decode cX7_sand 59 = .ok (.iconst 2, 1) := by decide +kernel
theorem dX7_sand_60 : decode cX7_sand 60 = .ok (.iload_n 1, 1) := by decide +kernel
theorem dX7_sand_61 : decode cX7_sand 61 = .ok (.iadd, 1) := by decide +kernel
theorem dX7_sand_62 : decode cX7_sand 62 = .ok (.iaload, 1) := by decide +kernel
theorem dX7_sand_63 : decode cX7_sand 63 = .ok (.iconst 2, 1) := by decide +kernel
theorem dX7_sand_64 : decode cX7_sand 64 = .ok (.if_icmp .le 16, 3) := by decide +kernel
theorem dX7_sand_67 : decode cX7_sand 67 = .ok (.aload_n 0, 1) := by decide +kernel
theorem dX7_sand_68 : decode cX7_sand 68 = .ok (.getfield 19, 3) := by decide +kernel
theorem dX7_sand_71 : decode cX7_sand 71 = .ok (.iconst 2, 1) := by decide +kernel
theorem dX7_sand_72 : decode cX7_sand 72 = .ok (.iload_n 1, 1) := by decide +kernel
theorem dX7_sand_73 : decode cX7_sand 73 = .ok (.iadd, 1) := by decide +kernel
theorem dX7_sand_74 : decode cX7_sand 74 = .ok (.iaload, 1) := by decide +kernel
theorem dX7_sand_75 : decode cX7_sand 75 = .ok (.iconst 2, 1) := by decide +kernel
theorem dX7_sand_76 : decode cX7_sand 76 = .ok (.isub, 1) := by decide +kernel
theorem dX7_sand_77 : decode cX7_sand 77 = .ok (.goto 4, 3) := by decide +kernel
theorem dX7_sand_80 : decode cX7_sand 80 = .ok (.iconst 0, 1) := by decide +kernel
theorem dX7_sand_81 : decode cX7_sand 81 = .ok (.iastore, 1) := by decide +kernel
theorem dX7_sand_82 : decode cX7_sand 82 = .ok (.aload_n 0, 1) := by decide +kernel
theorem dX7_sand_83 : decode cX7_sand 83 = .ok (.getfield 19, 3) := by decide +kernel
theorem dX7_sand_86 : decode cX7_sand 86 = .ok (.iconst 2, 1) := by decide +kernel
theorem dX7_sand_87 : decode cX7_sand 87 = .ok (.iload_n 1, 1) := by decide +kernel
theorem dX7_sand_88 : decode cX7_sand 88 = .ok (.iadd, 1) := by decide +kernel
theorem dX7_sand_89 : decode cX7_sand 89 = .ok (.iaload, 1) := by decide +kernel
theorem dX7_sand_90 : decode cX7_sand 90 = .ok (.ireturn, 1) := by decide +kernel
theorem dX7_help_0 : decode cX7_help 0 = .ok (.aload_n 0, 1) := by decide +kernel
theorem dX7_help_1 : decode cX7_help 1 = .ok (.iload_n 1, 1) := by decide +kernel
theorem dX7_help_2 : decode cX7_help 2 = .ok (.invokevirtual 131, 3) := by decide +kernel
theorem dX7_help_5 : decode cX7_help 5 = .ok (.ifCond .ne 5, 3) := by decide +kernel
theorem dX7_help_8 : decode cX7_help 8 = .ok (.iconst (-1), 1) := by decide +kernel
theorem dX7_help_9 : decode cX7_help 9 = .ok (.ireturn, 1) := by decide +kernel
theorem dX7_help_10 : decode cX7_help 10 = .ok (.aload_n 0, 1) := by decide +kernel
theorem dX7_help_11 : decode cX7_help 11 = .ok (.getfield 19, 3) := by decide +kernel
theorem dX7_help_14 : decode cX7_help 14 = .ok (.bipush 18, 2) := by decide +kernel
theorem dX7_help_16 : decode cX7_help 16 = .ok (.iload_n 1, 1) := by decide +kernel
theorem dX7_help_17 : decode cX7_help 17 = .ok (.iadd, 1) := by decide +kernel
theorem dX7_help_18 : decode cX7_help 18 = .ok (.iaload, 1) := by decide +kernel
theorem dX7_help_19 : decode cX7_help 19 = .ok (.istore_n 2, 1) := by decide +kernel
theorem dX7_help_20 : decode cX7_help 20 = .ok (.iload_n 2, 1) := by decide +kernel
theorem dX7_help_21 : decode cX7_help 21 = .ok (.ifCond .ne 6, 3) := by decide +kernel
theorem dX7_help_24 : decode cX7_help 24 = .ok (.bipush (-2), 2) := by decide +kernel
theorem dX7_help_26 : decode cX7_help 26 = .ok (.ireturn, 1) := by decide +kernel
theorem dX7_help_27 : decode cX7_help 27 = .ok (.aload_n 0, 1) := by decide +kernel
theorem dX7_help_28 : decode cX7_help 28 = .ok (.invokevirtual 144, 3) := by decide +kernel
theorem dX7_help_31 : decode cX7_help 31 = .ok (.aload_n 0, 1) := by decide +kernel
theorem dX7_help_32 : decode cX7_help 32 = .ok (.getfield 19, 3) := by decide +kernel
theorem dX7_help_35 : decode cX7_help 35 = .ok (.bipush 18, 2) := by decide +kernel
theorem dX7_help_37 : decode cX7_help 37 = .ok (.iload_n 1, 1) := by decide +kernel
theorem dX7_help_38 : decode cX7_help 38 = .ok (.iadd, 1) := by decide +kernel
theorem dX7_help_39 : decode cX7_help 39 = .ok (.iconst 0, 1) := by decide +kernel
theorem dX7_help_40 : decode cX7_help 40 = .ok (.iastore, 1) := by decide +kernel
theorem dX7_help_41 : decode cX7_help 41 = .ok (.iload_n 2, 1) := by decide +kernel
theorem dX7_help_42 : decode cX7_help 42 = .ok (.ireturn, 1) := by decide +kernel
theorem dX7_undo_0 : decode cX7_undo 0 = .ok (.aload_n 0, 1) := by decide +kernel
theorem dX7_undo_1 : decode cX7_undo 1 = .ok (.getfield 101, 3) := by decide +kernel
theorem dX7_undo_4 : decode cX7_undo 4 = .ok (.ifCond .ne 6, 3) := by decide +kernel
theorem dX7_undo_7 : decode cX7_undo 7 = .ok (.bipush (-2), 2) := by decide +kernel
theorem dX7_undo_9 : decode cX7_undo 9 = .ok (.ireturn, 1) := by decide +kernel
theorem dX7_undo_10 : decode cX7_undo 10 = .ok (.aload_n 0, 1) := by decide +kernel
theorem dX7_undo_11 : decode cX7_undo 11 = .ok (.dup, 1) := by decide +kernel
theorem dX7_undo_12 : decode cX7_undo 12 = .ok (.getfield 101, 3) := by decide +kernel
theorem dX7_undo_15 : decode cX7_undo 15 = .ok (.iconst 1, 1) := by decide +kernel
theorem dX7_undo_16 : decode cX7_undo 16 = .ok (.isub, 1) := by decide +kernel
theorem dX7_undo_17 : decode cX7_undo 17 = .ok (.putfield 101, 3) := by decide +kernel
theorem dX7_undo_20 : decode cX7_undo 20 = .ok (.iconst 0, 1) := by decide +kernel
theorem dX7_undo_21 : decode cX7_undo 21 = .ok (.istore_n 1, 1) := by decide +kernel
theorem dX7_undo_22 : decode cX7_undo 22 = .ok (.iload_n 1, 1) := by decide +kernel
theorem dX7_undo_23 : decode cX7_undo 23 = .ok (.bipush 32, 2) := by decide +kernel
theorem dX7_undo_25 : decode cX7_undo 25 = .ok (.if_icmp .ge 29, 3) := by decide +kernel
theorem dX7_undo_28 : decode cX7_undo 28 = .ok (.aload_n 0, 1) := by decide +kernel
theorem dX7_undo_29 : decode cX7_undo 29 = .ok (.getfield 19, 3) := by decide +kernel
theorem dX7_undo_32 : decode cX7_undo 32 = .ok (.iload_n 1, 1) := by decide +kernel
theorem dX7_undo_33 : decode cX7_undo 33 = .ok (.aload_n 0, 1) := by decide +kernel
theorem dX7_undo_34 : decode cX7_undo 34 = .ok (.getfield 28, 3) := by decide +kernel
theorem dX7_undo_37 : decode cX7_undo 37 = .ok (.bipush 32, 2) := by decide +kernel
theorem dX7_undo_39 : decode cX7_undo 39 = .ok (.aload_n 0, 1) := by decide +kernel
theorem dX7_undo_40 : decode cX7_undo 40 = .ok (.getfield 101, 3) := by decide +kernel
theorem dX7_undo_43 : decode cX7_undo 43 = .ok (.imul, 1) := by decide +kernel
theorem dX7_undo_44 : decode cX7_undo 44 = .ok (.iload_n 1, 1) := by decide +kernel
theorem dX7_undo_45 : decode cX7_undo 45 = .ok (.iadd, 1) := by decide +kernel
theorem dX7_undo_46 : decode cX7_undo 46 = .ok (.iaload, 1) := by decide +kernel
theorem dX7_undo_47 : decode cX7_undo 47 = .ok (.iastore, 1) := by decide +kernel
theorem dX7_undo_48 : decode cX7_undo 48 = .ok (.iinc 1 1, 3) := by decide +kernel
theorem dX7_undo_51 : decode cX7_undo 51 = .ok (.goto (-29), 3) := by decide +kernel
theorem dX7_undo_54 : decode cX7_undo 54 = .ok (.aload_n 0, 1) := by decide +kernel
theorem dX7_undo_55 : decode cX7_undo 55 = .ok (.getfield 101, 3) := by decide +kernel
theorem dX7_undo_58 : decode cX7_undo 58 = .ok (.ireturn, 1) := by decide +kernel
theorem dX7_governs_0 : decode cX7_governs 0 = .ok (.aload_n 0, 1) := by decide +kernel
theorem dX7_governs_1 : decode cX7_governs 1 = .ok (.invokevirtual 136, 3) := by decide +kernel
theorem dX7_governs_4 : decode cX7_governs 4 = .ok (.aload_n 0, 1) := by decide +kernel
theorem dX7_governs_5 : decode cX7_governs 5 = .ok (.invokevirtual 125, 3) := by decide +kernel
theorem dX7_governs_8 : decode cX7_governs 8 = .ok (.ireturn, 1) := by decide +kernel
theorem dX7_behind_0 : decode cX7_behind 0 = .ok (.iload_n 1, 1) := by decide +kernel
theorem dX7_behind_1 : decode cX7_behind 1 = .ok (.i2l, 1) := by decide +kernel
theorem dX7_behind_2 : decode cX7_behind 2 = .ok (.lconst 0, 1) := by decide +kernel
theorem dX7_behind_3 : decode cX7_behind 3 = .ok (.ldc2_w 142, 3) := by decide +kernel
theorem dX7_behind_6 : decode cX7_behind 6 = .ok (.invokestatic 58, 3) := by decide +kernel
theorem dX7_behind_9 : decode cX7_behind 9 = .ok (.ifCond .eq 23, 3) := by decide +kernel
theorem dX7_behind_12 : decode cX7_behind 12 = .ok (.aload_n 0, 1) := by decide +kernel
theorem dX7_behind_13 : decode cX7_behind 13 = .ok (.iload_n 2, 1) := by decide +kernel
theorem dX7_behind_14 : decode cX7_behind 14 = .ok (.invokevirtual 131, 3) := by decide +kernel
theorem dX7_behind_17 : decode cX7_behind 17 = .ok (.ifCond .eq 15, 3) := by decide +kernel
theorem dX7_behind_20 : decode cX7_behind 20 = .ok (.iload_n 3, 1) := by decide +kernel
theorem dX7_behind_21 : decode cX7_behind 21 = .ok (.i2l, 1) := by decide +kernel
theorem dX7_behind_22 : decode cX7_behind 22 = .ok (.lconst 0, 1) := by decide +kernel
theorem dX7_behind_23 : decode cX7_behind 23 = .ok (.ldc2_w 77, 3) := by decide +kernel
theorem dX7_behind_26 : decode cX7_behind 26 = .ok (.invokestatic 58, 3) := by decide +kernel
theorem dX7_behind_29 : decode cX7_behind 29 = .ok (.ifCond .ne 5, 3) := by decide +kernel
theorem dX7_behind_32 : decode cX7_behind 32 = .ok (.iconst (-1), 1) := by decide +kernel
theorem dX7_behind_33 : decode cX7_behind 33 = .ok (.ireturn, 1) := by decide +kernel
theorem dX7_behind_34 : decode cX7_behind 34 = .ok (.aload_n 0, 1) := by decide +kernel
theorem dX7_behind_35 : decode cX7_behind 35 = .ok (.invokevirtual 136, 3) := by decide +kernel
theorem dX7_behind_38 : decode cX7_behind 38 = .ok (.aload_n 0, 1) := by decide +kernel
theorem dX7_behind_39 : decode cX7_behind 39 = .ok (.iload_n 1, 1) := by decide +kernel
theorem dX7_behind_40 : decode cX7_behind 40 = .ok (.invokevirtual 147, 3) := by decide +kernel
theorem dX7_behind_43 : decode cX7_behind 43 = .ok (.iload_n 3, 1) := by decide +kernel
theorem dX7_behind_44 : decode cX7_behind 44 = .ok (.ifCond .ne 15, 3) := by decide +kernel
theorem dX7_behind_47 : decode cX7_behind 47 = .ok (.aload_n 0, 1) := by decide +kernel
theorem dX7_behind_48 : decode cX7_behind 48 = .ok (.getfield 25, 3) := by decide +kernel
theorem dX7_behind_51 : decode cX7_behind 51 = .ok (.bipush 18, 2) := by decide +kernel
theorem dX7_behind_53 : decode cX7_behind 53 = .ok (.iload_n 2, 1) := by decide +kernel
theorem dX7_behind_54 : decode cX7_behind 54 = .ok (.iadd, 1) := by decide +kernel
theorem dX7_behind_55 : decode cX7_behind 55 = .ok (.iaload, 1) := by decide +kernel
theorem dX7_behind_56 : decode cX7_behind 56 = .ok (.goto 24, 3) := by decide +kernel
theorem dX7_behind_59 : decode cX7_behind 59 = .ok (.iload_n 3, 1) := by decide +kernel
theorem dX7_behind_60 : decode cX7_behind 60 = .ok (.iconst 1, 1) := by decide +kernel
theorem dX7_behind_61 : decode cX7_behind 61 = .ok (.if_icmp .ne 10, 3) := by decide +kernel
theorem dX7_behind_64 : decode cX7_behind 64 = .ok (.aload_n 0, 1) := by decide +kernel
theorem dX7_behind_65 : decode cX7_behind 65 = .ok (.invokevirtual 125, 3) := by decide +kernel
theorem dX7_behind_68 : decode cX7_behind 68 = .ok (.goto 12, 3) := by decide +kernel
theorem dX7_behind_71 : decode cX7_behind 71 = .ok (.aload_n 0, 1) := by decide +kernel
theorem dX7_behind_72 : decode cX7_behind 72 = .ok (.getfield 25, 3) := by decide +kernel
theorem dX7_behind_75 : decode cX7_behind 75 = .ok (.bipush 25, 2) := by decide +kernel
theorem dX7_behind_77 : decode cX7_behind 77 = .ok (.iload_n 2, 1) := by decide +kernel
theorem dX7_behind_78 : decode cX7_behind 78 = .ok (.iadd, 1) := by decide +kernel
theorem dX7_behind_79 : decode cX7_behind 79 = .ok (.iaload, 1) := by decide +kernel
theorem dX7_behind_80 : decode cX7_behind 80 = .ok (.ireturn, 1) := by decide +kernel
theorem dX7_slide_0 : decode cX7_slide 0 = .ok (.aload_n 0, 1) := by decide +kernel
theorem dX7_slide_1 : decode cX7_slide 1 = .ok (.iload_n 1, 1) := by decide +kernel
theorem dX7_slide_2 : decode cX7_slide 2 = .ok (.invokevirtual 131, 3) := by decide +kernel
theorem dX7_slide_5 : decode cX7_slide 5 = .ok (.ifCond .ne 5, 3) := by decide +kernel
theorem dX7_slide_8 : decode cX7_slide 8 = .ok (.iconst (-1), 1) := by decide +kernel
theorem dX7_slide_9 : decode cX7_slide 9 = .ok (.ireturn, 1) := by decide +kernel
theorem dX7_slide_10 : decode cX7_slide 10 = .ok (.aload_n 0, 1) := by decide +kernel
theorem dX7_slide_11 : decode cX7_slide 11 = .ok (.invokevirtual 136, 3) := by decide +kernel
theorem dX7_slide_14 : decode cX7_slide 14 = .ok (.aload_n 0, 1) := by decide +kernel
theorem dX7_slide_15 : decode cX7_slide 15 = .ok (.invokevirtual 128, 3) := by decide +kernel
theorem dX7_slide_18 : decode cX7_slide 18 = .ok (.aload_n 0, 1) := by decide +kernel
theorem dX7_slide_19 : decode cX7_slide 19 = .ok (.getfield 25, 3) := by decide +kernel
theorem dX7_slide_22 : decode cX7_slide 22 = .ok (.bipush 18, 2) := by decide +kernel
theorem dX7_slide_24 : decode cX7_slide 24 = .ok (.iload_n 1, 1) := by decide +kernel
theorem dX7_slide_25 : decode cX7_slide 25 = .ok (.iadd, 1) := by decide +kernel
theorem dX7_slide_26 : decode cX7_slide 26 = .ok (.iaload, 1) := by decide +kernel
theorem dX7_slide_27 : decode cX7_slide 27 = .ok (.ireturn, 1) := by decide +kernel
theorem dX7_top_0 : decode cX7_top 0 = .ok (.aload_n 0, 1) := by decide +kernel
theorem dX7_top_1 : decode cX7_top 1 = .ok (.iload_n 1, 1) := by decide +kernel
theorem dX7_top_2 : decode cX7_top 2 = .ok (.invokevirtual 131, 3) := by decide +kernel
theorem dX7_top_5 : decode cX7_top 5 = .ok (.ifCond .ne 5, 3) := by decide +kernel
theorem dX7_top_8 : decode cX7_top 8 = .ok (.iconst (-1), 1) := by decide +kernel
theorem dX7_top_9 : decode cX7_top 9 = .ok (.ireturn, 1) := by decide +kernel
theorem dX7_top_10 : decode cX7_top 10 = .ok (.aload_n 0, 1) := by decide +kernel
theorem dX7_top_11 : decode cX7_top 11 = .ok (.invokevirtual 136, 3) := by decide +kernel
theorem dX7_top_14 : decode cX7_top 14 = .ok (.iconst 0, 1) := by decide +kernel
theorem dX7_top_15 : decode cX7_top 15 = .ok (.istore_n 2, 1) := by decide +kernel
theorem dX7_top_16 : decode cX7_top 16 = .ok (.iload_n 2, 1) := by decide +kernel
theorem dX7_top_17 : decode cX7_top 17 = .ok (.bipush 40, 2) := by decide +kernel
theorem dX7_top_19 : decode cX7_top 19 = .ok (.if_icmp .gt 35, 3) := by decide +kernel
theorem dX7_top_22 : decode cX7_top 22 = .ok (.aload_n 0, 1) := by decide +kernel
theorem dX7_top_23 : decode cX7_top 23 = .ok (.getfield 25, 3) := by decide +kernel
theorem dX7_top_26 : decode cX7_top 26 = .ok (.bipush 18, 2) := by decide +kernel
theorem dX7_top_28 : decode cX7_top 28 = .ok (.iload_n 1, 1) := by decide +kernel
theorem dX7_top_29 : decode cX7_top 29 = .ok (.iadd, 1) := by decide +kernel
theorem dX7_top_30 : decode cX7_top 30 = .ok (.iaload, 1) := by decide +kernel
theorem dX7_top_31 : decode cX7_top 31 = .ok (.aload_n 0, 1) := by decide +kernel
theorem dX7_top_32 : decode cX7_top 32 = .ok (.getfield 13, 3) := by decide +kernel
theorem dX7_top_35 : decode cX7_top 35 = .ok (.iconst 0, 1) := by decide +kernel
theorem dX7_top_36 : decode cX7_top 36 = .ok (.iaload, 1) := by decide +kernel
theorem dX7_top_37 : decode cX7_top 37 = .ok (.iconst 1, 1) := by decide +kernel
theorem dX7_top_38 : decode cX7_top 38 = .ok (.isub, 1) := by decide +kernel
theorem dX7_top_39 : decode cX7_top 39 = .ok (.if_icmp .ne 5, 3) := by decide +kernel
theorem dX7_top_42 : decode cX7_top 42 = .ok (.iload_n 2, 1) := by decide +kernel
theorem dX7_top_43 : decode cX7_top 43 = .ok (.ireturn, 1) := by decide +kernel
theorem dX7_top_44 : decode cX7_top 44 = .ok (.aload_n 0, 1) := by decide +kernel
theorem dX7_top_45 : decode cX7_top 45 = .ok (.invokevirtual 128, 3) := by decide +kernel
theorem dX7_top_48 : decode cX7_top 48 = .ok (.iinc 2 1, 3) := by decide +kernel
theorem dX7_top_51 : decode cX7_top 51 = .ok (.goto (-35), 3) := by decide +kernel
theorem dX7_top_54 : decode cX7_top 54 = .ok (.bipush (-4), 2) := by decide +kernel
theorem dX7_top_56 : decode cX7_top 56 = .ok (.ireturn, 1) := by decide +kernel
theorem dX7_topple_0 : decode cX7_topple 0 = .ok (.aload_n 0, 1) := by decide +kernel
theorem dX7_topple_1 : decode cX7_topple 1 = .ok (.iload_n 1, 1) := by decide +kernel
theorem dX7_topple_2 : decode cX7_topple 2 = .ok (.invokevirtual 131, 3) := by decide +kernel
theorem dX7_topple_5 : decode cX7_topple 5 = .ok (.ifCond .ne 5, 3) := by decide +kernel
theorem dX7_topple_8 : decode cX7_topple 8 = .ok (.iconst (-1), 1) := by decide +kernel
theorem dX7_topple_9 : decode cX7_topple 9 = .ok (.ireturn, 1) := by decide +kernel
theorem dX7_topple_10 : decode cX7_topple 10 = .ok (.aload_n 0, 1) := by decide +kernel
theorem dX7_topple_11 : decode cX7_topple 11 = .ok (.getfield 19, 3) := by decide +kernel
theorem dX7_topple_14 : decode cX7_topple 14 = .ok (.bipush 18, 2) := by decide +kernel
theorem dX7_topple_16 : decode cX7_topple 16 = .ok (.iload_n 1, 1) := by decide +kernel
theorem dX7_topple_17 : decode cX7_topple 17 = .ok (.iadd, 1) := by decide +kernel
theorem dX7_topple_18 : decode cX7_topple 18 = .ok (.iaload, 1) := by decide +kernel
theorem dX7_topple_19 : decode cX7_topple 19 = .ok (.istore_n 2, 1) := by decide +kernel
theorem dX7_topple_20 : decode cX7_topple 20 = .ok (.iconst 0, 1) := by decide +kernel
theorem dX7_topple_21 : decode cX7_topple 21 = .ok (.istore_n 3, 1) := by decide +kernel
theorem dX7_topple_22 : decode cX7_topple 22 = .ok (.aload_n 0, 1) := by decide +kernel
theorem dX7_topple_23 : decode cX7_topple 23 = .ok (.getfield 19, 3) := by decide +kernel
theorem dX7_topple_26 : decode cX7_topple 26 = .ok (.iconst 2, 1) := by decide +kernel
theorem dX7_topple_27 : decode cX7_topple 27 = .ok (.iload_n 2, 1) := by decide +kernel
theorem dX7_topple_28 : decode cX7_topple 28 = .ok (.iadd, 1) := by decide +kernel
theorem dX7_topple_29 : decode cX7_topple 29 = .ok (.iaload, 1) := by decide +kernel
theorem dX7_topple_30 : decode cX7_topple 30 = .ok (.iload_n 3, 1) := by decide +kernel
theorem dX7_topple_31 : decode cX7_topple 31 = .ok (.iadd, 1) := by decide +kernel
theorem dX7_topple_32 : decode cX7_topple 32 = .ok (.bipush 10, 2) := by decide +kernel
theorem dX7_topple_34 : decode cX7_topple 34 = .ok (.if_icmp .ge 56, 3) := by decide +kernel
theorem dX7_topple_37 : decode cX7_topple 37 = .ok (.aload_n 0, 1) := by decide +kernel
theorem dX7_topple_38 : decode cX7_topple 38 = .ok (.invokevirtual 136, 3) := by decide +kernel
theorem dX7_topple_41 : decode cX7_topple 41 = .ok (.aload_n 0, 1) := by decide +kernel
theorem dX7_topple_42 : decode cX7_topple 42 = .ok (.getfield 25, 3) := by decide +kernel
theorem dX7_topple_45 : decode cX7_topple 45 = .ok (.iconst 2, 1) := by decide +kernel
theorem dX7_topple_46 : decode cX7_topple 46 = .ok (.iload_n 2, 1) := by decide +kernel
theorem dX7_topple_47 : decode cX7_topple 47 = .ok (.iadd, 1) := by decide +kernel
theorem dX7_topple_48 : decode cX7_topple 48 = .ok (.dup2, 1) := by decide +kernel
theorem dX7_topple_49 : decode cX7_topple 49 = .ok (.iaload, 1) := by decide +kernel
theorem dX7_topple_50 : decode cX7_topple 50 = .ok (.iload_n 3, 1) := by decide +kernel
theorem dX7_topple_51 : decode cX7_topple 51 = .ok (.iadd, 1) := by decide +kernel
theorem dX7_topple_52 : decode cX7_topple 52 = .ok (.iastore, 1) := by decide +kernel
theorem dX7_topple_53 : decode cX7_topple 53 = .ok (.iconst 0, 1) := by decide +kernel
theorem dX7_topple_54 : decode cX7_topple 54 = .ok (.istore 4, 2) := by decide +kernel
theorem dX7_topple_56 : decode cX7_topple 56 = .ok (.iload 4, 2) := by decide +kernel
theorem dX7_topple_58 : decode cX7_topple 58 = .ok (.iload_n 1, 1) := by decide +kernel
theorem dX7_topple_59 : decode cX7_topple 59 = .ok (.if_icmp .ge 15, 3) := by decide +kernel
theorem dX7_topple_62 : decode cX7_topple 62 = .ok (.aload_n 0, 1) := by decide +kernel
theorem dX7_topple_63 : decode cX7_topple 63 = .ok (.iload 4, 2) := by decide +kernel
theorem dX7_topple_65 : decode cX7_topple 65 = .ok (.invokevirtual 121, 3) := by decide +kernel
theorem dX7_topple_68 : decode cX7_topple 68 = .ok (.iinc 4 1, 3) := by decide +kernel
theorem dX7_topple_71 : decode cX7_topple 71 = .ok (.goto (-15), 3) := by decide +kernel
theorem dX7_topple_74 : decode cX7_topple 74 = .ok (.aload_n 0, 1) := by decide +kernel
theorem dX7_topple_75 : decode cX7_topple 75 = .ok (.iload_n 1, 1) := by decide +kernel
theorem dX7_topple_76 : decode cX7_topple 76 = .ok (.invokevirtual 114, 3) := by decide +kernel
theorem dX7_topple_79 : decode cX7_topple 79 = .ok (.ifCond .le 5, 3) := by decide +kernel
theorem dX7_topple_82 : decode cX7_topple 82 = .ok (.iload_n 3, 1) := by decide +kernel
theorem dX7_topple_83 : decode cX7_topple 83 = .ok (.ireturn, 1) := by decide +kernel
theorem dX7_topple_84 : decode cX7_topple 84 = .ok (.iinc 3 1, 3) := by decide +kernel
theorem dX7_topple_87 : decode cX7_topple 87 = .ok (.goto (-65), 3) := by decide +kernel
theorem dX7_topple_90 : decode cX7_topple 90 = .ok (.bipush (-4), 2) := by decide +kernel
theorem dX7_topple_92 : decode cX7_topple 92 = .ok (.ireturn, 1) := by decide +kernel
theorem dX7_governsWith_0 : decode cX7_governsWith 0 = .ok (.aload_n 0, 1) := by decide +kernel
theorem dX7_governsWith_1 : decode cX7_governsWith 1 = .ok (.invokevirtual 136, 3) := by decide +kernel
theorem dX7_governsWith_4 : decode cX7_governsWith 4 = .ok (.aload_n 0, 1) := by decide +kernel
theorem dX7_governsWith_5 : decode cX7_governsWith 5 = .ok (.getfield 25, 3) := by decide +kernel
theorem dX7_governsWith_8 : decode cX7_governsWith 8 = .ok (.iconst 2, 1) := by decide +kernel
theorem dX7_governsWith_9 : decode cX7_governsWith 9 = .ok (.iload_n 3, 1) := by decide +kernel
theorem dX7_governsWith_10 : decode cX7_governsWith 10 = .ok (.iadd, 1) := by decide +kernel
theorem dX7_governsWith_11 : decode cX7_governsWith 11 = .ok (.dup2, 1) := by decide +kernel
theorem dX7_governsWith_12 : decode cX7_governsWith 12 = .ok (.iaload, 1) := by decide +kernel
theorem dX7_governsWith_13 : decode cX7_governsWith 13 = .ok (.iload 4, 2) := by decide +kernel
theorem dX7_governsWith_15 : decode cX7_governsWith 15 = .ok (.iadd, 1) := by decide +kernel
theorem dX7_governsWith_16 : decode cX7_governsWith 16 = .ok (.iastore, 1) := by decide +kernel
theorem dX7_governsWith_17 : decode cX7_governsWith 17 = .ok (.aload_n 0, 1) := by decide +kernel
theorem dX7_governsWith_18 : decode cX7_governsWith 18 = .ok (.iload_n 2, 1) := by decide +kernel
theorem dX7_governsWith_19 : decode cX7_governsWith 19 = .ok (.invokevirtual 147, 3) := by decide +kernel
theorem dX7_governsWith_22 : decode cX7_governsWith 22 = .ok (.aload_n 0, 1) := by decide +kernel
theorem dX7_governsWith_23 : decode cX7_governsWith 23 = .ok (.invokevirtual 125, 3) := by decide +kernel
theorem dX7_governsWith_26 : decode cX7_governsWith 26 = .ok (.iload_n 1, 1) := by decide +kernel
theorem dX7_governsWith_27 : decode cX7_governsWith 27 = .ok (.if_icmp .ne 7, 3) := by decide +kernel
theorem dX7_governsWith_30 : decode cX7_governsWith 30 = .ok (.iconst 1, 1) := by decide +kernel
theorem dX7_governsWith_31 : decode cX7_governsWith 31 = .ok (.goto 4, 3) := by decide +kernel
theorem dX7_governsWith_34 : decode cX7_governsWith 34 = .ok (.iconst 0, 1) := by decide +kernel
theorem dX7_governsWith_35 : decode cX7_governsWith 35 = .ok (.ireturn, 1) := by decide +kernel
theorem dX7_plot_0 : decode cX7_plot 0 = .ok (.aload_n 0, 1) := by decide +kernel
theorem dX7_plot_1 : decode cX7_plot 1 = .ok (.iload_n 1, 1) := by decide +kernel
theorem dX7_plot_2 : decode cX7_plot 2 = .ok (.invokevirtual 131, 3) := by decide +kernel
theorem dX7_plot_5 : decode cX7_plot 5 = .ok (.ifCond .eq 25, 3) := by decide +kernel
theorem dX7_plot_8 : decode cX7_plot 8 = .ok (.iload_n 2, 1) := by decide +kernel
theorem dX7_plot_9 : decode cX7_plot 9 = .ok (.i2l, 1) := by decide +kernel
theorem dX7_plot_10 : decode cX7_plot 10 = .ok (.lconst 1, 1) := by decide +kernel
theorem dX7_plot_11 : decode cX7_plot 11 = .ok (.ldc2_w 153, 3) := by decide +kernel
theorem dX7_plot_14 : decode cX7_plot 14 = .ok (.invokestatic 58, 3) := by decide +kernel
theorem dX7_plot_17 : decode cX7_plot 17 = .ok (.ifCond .eq 13, 3) := by decide +kernel
theorem dX7_plot_20 : decode cX7_plot 20 = .ok (.iload_n 3, 1) := by decide +kernel
theorem dX7_plot_21 : decode cX7_plot 21 = .ok (.i2l, 1) := by decide +kernel
theorem dX7_plot_22 : decode cX7_plot 22 = .ok (.lconst 0, 1) := by decide +kernel
theorem dX7_plot_23 : decode cX7_plot 23 = .ok (.lconst 1, 1) := by decide +kernel
theorem dX7_plot_24 : decode cX7_plot 24 = .ok (.invokestatic 58, 3) := by decide +kernel
theorem dX7_plot_27 : decode cX7_plot 27 = .ok (.ifCond .ne 5, 3) := by decide +kernel
theorem dX7_plot_30 : decode cX7_plot 30 = .ok (.iconst (-1), 1) := by decide +kernel
theorem dX7_plot_31 : decode cX7_plot 31 = .ok (.ireturn, 1) := by decide +kernel
theorem dX7_plot_32 : decode cX7_plot 32 = .ok (.aload_n 0, 1) := by decide +kernel
theorem dX7_plot_33 : decode cX7_plot 33 = .ok (.iload_n 1, 1) := by decide +kernel
theorem dX7_plot_34 : decode cX7_plot 34 = .ok (.iload_n 2, 1) := by decide +kernel
theorem dX7_plot_35 : decode cX7_plot 35 = .ok (.iconst 0, 1) := by decide +kernel
theorem dX7_plot_36 : decode cX7_plot 36 = .ok (.iconst 0, 1) := by decide +kernel
theorem dX7_plot_37 : decode cX7_plot 37 = .ok (.invokevirtual 155, 3) := by decide +kernel
theorem dX7_plot_40 : decode cX7_plot 40 = .ok (.ifCond .eq 14, 3) := by decide +kernel
theorem dX7_plot_43 : decode cX7_plot 43 = .ok (.iload_n 3, 1) := by decide +kernel
theorem dX7_plot_44 : decode cX7_plot 44 = .ok (.ifCond .ne 7, 3) := by decide +kernel
theorem dX7_plot_47 : decode cX7_plot 47 = .ok (.iconst 0, 1) := by decide +kernel
theorem dX7_plot_48 : decode cX7_plot 48 = .ok (.goto 5, 3) := by decide +kernel
theorem dX7_plot_51 : decode cX7_plot 51 = .ok (.bipush (-4), 2) := by decide +kernel
theorem dX7_plot_53 : decode cX7_plot 53 = .ok (.ireturn, 1) := by decide +kernel
theorem dX7_plot_54 : decode cX7_plot 54 = .ok (.iconst 1, 1) := by decide +kernel
theorem dX7_plot_55 : decode cX7_plot 55 = .ok (.istore 4, 2) := by decide +kernel
theorem dX7_plot_57 : decode cX7_plot 57 = .ok (.iload 4, 2) := by decide +kernel
theorem dX7_plot_59 : decode cX7_plot 59 = .ok (.bipush 10, 2) := by decide +kernel
theorem dX7_plot_61 : decode cX7_plot 61 = .ok (.if_icmp .ge 71, 3) := by decide +kernel
theorem dX7_plot_64 : decode cX7_plot 64 = .ok (.iconst 0, 1) := by decide +kernel
theorem dX7_plot_65 : decode cX7_plot 65 = .ok (.istore 5, 2) := by decide +kernel
theorem dX7_plot_67 : decode cX7_plot 67 = .ok (.iload 5, 2) := by decide +kernel
theorem dX7_plot_69 : decode cX7_plot 69 = .ok (.aload_n 0, 1) := by decide +kernel
theorem dX7_plot_70 : decode cX7_plot 70 = .ok (.getfield 13, 3) := by decide +kernel
theorem dX7_plot_73 : decode cX7_plot 73 = .ok (.iconst 0, 1) := by decide +kernel
theorem dX7_plot_74 : decode cX7_plot 74 = .ok (.iaload, 1) := by decide +kernel
theorem dX7_plot_75 : decode cX7_plot 75 = .ok (.if_icmp .ge 51, 3) := by decide +kernel
theorem dX7_plot_78 : decode cX7_plot 78 = .ok (.aload_n 0, 1) := by decide +kernel
theorem dX7_plot_79 : decode cX7_plot 79 = .ok (.getfield 19, 3) := by decide +kernel
theorem dX7_plot_82 : decode cX7_plot 82 = .ok (.iconst 2, 1) := by decide +kernel
theorem dX7_plot_83 : decode cX7_plot 83 = .ok (.iload 5, 2) := by decide +kernel
theorem dX7_plot_85 : decode cX7_plot 85 = .ok (.iadd, 1) := by decide +kernel
theorem dX7_plot_86 : decode cX7_plot 86 = .ok (.iaload, 1) := by decide +kernel
theorem dX7_plot_87 : decode cX7_plot 87 = .ok (.iload 4, 2) := by decide +kernel
theorem dX7_plot_89 : decode cX7_plot 89 = .ok (.iadd, 1) := by decide +kernel
theorem dX7_plot_90 : decode cX7_plot 90 = .ok (.bipush 10, 2) := by decide +kernel
theorem dX7_plot_92 : decode cX7_plot 92 = .ok (.if_icmp .ge 28, 3) := by decide +kernel
theorem dX7_plot_95 : decode cX7_plot 95 = .ok (.aload_n 0, 1) := by decide +kernel
theorem dX7_plot_96 : decode cX7_plot 96 = .ok (.iload_n 1, 1) := by decide +kernel
theorem dX7_plot_97 : decode cX7_plot 97 = .ok (.iload_n 2, 1) := by decide +kernel
theorem dX7_plot_98 : decode cX7_plot 98 = .ok (.iload 5, 2) := by decide +kernel
theorem dX7_plot_100 : decode cX7_plot 100 = .ok (.iload 4, 2) := by decide +kernel
theorem dX7_plot_102 : decode cX7_plot 102 = .ok (.invokevirtual 155, 3) := by decide +kernel
theorem dX7_plot_105 : decode cX7_plot 105 = .ok (.ifCond .eq 15, 3) := by decide +kernel
theorem dX7_plot_108 : decode cX7_plot 108 = .ok (.iload_n 3, 1) := by decide +kernel
theorem dX7_plot_109 : decode cX7_plot 109 = .ok (.ifCond .ne 8, 3) := by decide +kernel
theorem dX7_plot_112 : decode cX7_plot 112 = .ok (.iload 4, 2) := by decide +kernel
theorem dX7_plot_114 : decode cX7_plot 114 = .ok (.goto 5, 3) := by decide +kernel
theorem dX7_plot_117 : decode cX7_plot 117 = .ok (.iload 5, 2) := by decide +kernel
theorem dX7_plot_119 : decode cX7_plot 119 = .ok (.ireturn, 1) := by decide +kernel
theorem dX7_plot_120 : decode cX7_plot 120 = .ok (.iinc 5 1, 3) := by decide +kernel
theorem dX7_plot_123 : decode cX7_plot 123 = .ok (.goto (-56), 3) := by decide +kernel
theorem dX7_plot_126 : decode cX7_plot 126 = .ok (.iinc 4 1, 3) := by decide +kernel
theorem dX7_plot_129 : decode cX7_plot 129 = .ok (.goto (-72), 3) := by decide +kernel
theorem dX7_plot_132 : decode cX7_plot 132 = .ok (.bipush (-4), 2) := by decide +kernel
theorem dX7_plot_134 : decode cX7_plot 134 = .ok (.ireturn, 1) := by decide +kernel
theorem dX7_holds_0 : decode cX7_holds 0 = .ok (.aload_n 0, 1) := by decide +kernel
theorem dX7_holds_1 : decode cX7_holds 1 = .ok (.invokevirtual 136, 3) := by decide +kernel
theorem dX7_holds_4 : decode cX7_holds 4 = .ok (.aload_n 0, 1) := by decide +kernel
theorem dX7_holds_5 : decode cX7_holds 5 = .ok (.invokevirtual 125, 3) := by decide +kernel
theorem dX7_holds_8 : decode cX7_holds 8 = .ok (.istore 4, 2) := by decide +kernel
theorem dX7_holds_10 : decode cX7_holds 10 = .ok (.aload_n 0, 1) := by decide +kernel
theorem dX7_holds_11 : decode cX7_holds 11 = .ok (.getfield 25, 3) := by decide +kernel
theorem dX7_holds_14 : decode cX7_holds 14 = .ok (.iconst 2, 1) := by decide +kernel
theorem dX7_holds_15 : decode cX7_holds 15 = .ok (.iload_n 2, 1) := by decide +kernel
theorem dX7_holds_16 : decode cX7_holds 16 = .ok (.iadd, 1) := by decide +kernel
theorem dX7_holds_17 : decode cX7_holds 17 = .ok (.iaload, 1) := by decide +kernel
theorem dX7_holds_18 : decode cX7_holds 18 = .ok (.iconst 2, 1) := by decide +kernel
theorem dX7_holds_19 : decode cX7_holds 19 = .ok (.iload_n 3, 1) := by decide +kernel
theorem dX7_holds_20 : decode cX7_holds 20 = .ok (.imul, 1) := by decide +kernel
theorem dX7_holds_21 : decode cX7_holds 21 = .ok (.isub, 1) := by decide +kernel
theorem dX7_holds_22 : decode cX7_holds 22 = .ok (.istore 5, 2) := by decide +kernel
theorem dX7_holds_24 : decode cX7_holds 24 = .ok (.aload_n 0, 1) := by decide +kernel
theorem dX7_holds_25 : decode cX7_holds 25 = .ok (.getfield 25, 3) := by decide +kernel
theorem dX7_holds_28 : decode cX7_holds 28 = .ok (.iconst 2, 1) := by decide +kernel
theorem dX7_holds_29 : decode cX7_holds 29 = .ok (.iload_n 2, 1) := by decide +kernel
theorem dX7_holds_30 : decode cX7_holds 30 = .ok (.iadd, 1) := by decide +kernel
theorem dX7_holds_31 : decode cX7_holds 31 = .ok (.iload 5, 2) := by decide +kernel
theorem dX7_holds_33 : decode cX7_holds 33 = .ok (.ifCond .le 8, 3) := by decide +kernel
theorem dX7_holds_36 : decode cX7_holds 36 = .ok (.iload 5, 2) := by decide +kernel
theorem dX7_holds_38 : decode cX7_holds 38 = .ok (.goto 4, 3) := by decide +kernel
theorem dX7_holds_41 : decode cX7_holds 41 = .ok (.iconst 0, 1) := by decide +kernel
theorem dX7_holds_42 : decode cX7_holds 42 = .ok (.iastore, 1) := by decide +kernel
theorem dX7_holds_43 : decode cX7_holds 43 = .ok (.iconst 1, 1) := by decide +kernel
theorem dX7_holds_44 : decode cX7_holds 44 = .ok (.istore 6, 2) := by decide +kernel
theorem dX7_holds_46 : decode cX7_holds 46 = .ok (.iconst 0, 1) := by decide +kernel
theorem dX7_holds_47 : decode cX7_holds 47 = .ok (.istore 7, 2) := by decide +kernel
theorem dX7_holds_49 : decode cX7_holds 49 = .ok (.iload 7, 2) := by decide +kernel
theorem dX7_holds_51 : decode cX7_holds 51 = .ok (.iload_n 1, 1) := by decide +kernel
theorem dX7_holds_52 : decode cX7_holds 52 = .ok (.if_icmp .ge 34, 3) := by decide +kernel
theorem dX7_holds_55 : decode cX7_holds 55 = .ok (.aload_n 0, 1) := by decide +kernel
theorem dX7_holds_56 : decode cX7_holds 56 = .ok (.invokevirtual 128, 3) := by decide +kernel
theorem dX7_holds_59 : decode cX7_holds 59 = .ok (.iload 6, 2) := by decide +kernel
theorem dX7_holds_61 : decode cX7_holds 61 = .ok (.ifCond .eq 16, 3) := by decide +kernel
theorem dX7_holds_64 : decode cX7_holds 64 = .ok (.aload_n 0, 1) := by decide +kernel
theorem dX7_holds_65 : decode cX7_holds 65 = .ok (.invokevirtual 125, 3) := by decide +kernel
theorem dX7_holds_68 : decode cX7_holds 68 = .ok (.iload 4, 2) := by decide +kernel
theorem dX7_holds_70 : decode cX7_holds 70 = .ok (.if_icmp .ne 7, 3) := by decide +kernel
theorem dX7_holds_73 : decode cX7_holds 73 = .ok (.iconst 1, 1) := by decide +kernel
theorem dX7_holds_74 : decode cX7_holds 74 = .ok (.goto 4, 3) := by decide +kernel
theorem dX7_holds_77 : decode cX7_holds 77 = .ok (.iconst 0, 1) := by decide +kernel
theorem dX7_holds_78 : decode cX7_holds 78 = .ok (.istore 6, 2) := by decide +kernel
theorem dX7_holds_80 : decode cX7_holds 80 = .ok (.iinc 7 1, 3) := by decide +kernel
theorem dX7_holds_83 : decode cX7_holds 83 = .ok (.goto (-34), 3) := by decide +kernel
theorem dX7_holds_86 : decode cX7_holds 86 = .ok (.iload 6, 2) := by decide +kernel
theorem dX7_holds_88 : decode cX7_holds 88 = .ok (.ireturn, 1) := by decide +kernel
theorem dX7_hold_0 : decode cX7_hold 0 = .ok (.iload_n 1, 1) := by decide +kernel
theorem dX7_hold_1 : decode cX7_hold 1 = .ok (.i2l, 1) := by decide +kernel
theorem dX7_hold_2 : decode cX7_hold 2 = .ok (.lconst 1, 1) := by decide +kernel
theorem dX7_hold_3 : decode cX7_hold 3 = .ok (.ldc2_w 153, 3) := by decide +kernel
theorem dX7_hold_6 : decode cX7_hold 6 = .ok (.invokestatic 58, 3) := by decide +kernel
theorem dX7_hold_9 : decode cX7_hold 9 = .ok (.ifCond .eq 13, 3) := by decide +kernel
theorem dX7_hold_12 : decode cX7_hold 12 = .ok (.iload_n 2, 1) := by decide +kernel
theorem dX7_hold_13 : decode cX7_hold 13 = .ok (.i2l, 1) := by decide +kernel
theorem dX7_hold_14 : decode cX7_hold 14 = .ok (.lconst 0, 1) := by decide +kernel
theorem dX7_hold_15 : decode cX7_hold 15 = .ok (.lconst 1, 1) := by decide +kernel
theorem dX7_hold_16 : decode cX7_hold 16 = .ok (.invokestatic 58, 3) := by decide +kernel
theorem dX7_hold_19 : decode cX7_hold 19 = .ok (.ifCond .ne 5, 3) := by decide +kernel
theorem dX7_hold_22 : decode cX7_hold 22 = .ok (.iconst (-1), 1) := by decide +kernel
theorem dX7_hold_23 : decode cX7_hold 23 = .ok (.ireturn, 1) := by decide +kernel
theorem dX7_hold_24 : decode cX7_hold 24 = .ok (.aload_n 0, 1) := by decide +kernel
theorem dX7_hold_25 : decode cX7_hold 25 = .ok (.iload_n 1, 1) := by decide +kernel
theorem dX7_hold_26 : decode cX7_hold 26 = .ok (.iconst 0, 1) := by decide +kernel
theorem dX7_hold_27 : decode cX7_hold 27 = .ok (.iconst 0, 1) := by decide +kernel
theorem dX7_hold_28 : decode cX7_hold 28 = .ok (.invokevirtual 159, 3) := by decide +kernel
theorem dX7_hold_31 : decode cX7_hold 31 = .ok (.ifCond .eq 14, 3) := by decide +kernel
theorem dX7_hold_34 : decode cX7_hold 34 = .ok (.iload_n 2, 1) := by decide +kernel
theorem dX7_hold_35 : decode cX7_hold 35 = .ok (.ifCond .ne 7, 3) := by decide +kernel
theorem dX7_hold_38 : decode cX7_hold 38 = .ok (.iconst 0, 1) := by decide +kernel
theorem dX7_hold_39 : decode cX7_hold 39 = .ok (.goto 5, 3) := by decide +kernel
theorem dX7_hold_42 : decode cX7_hold 42 = .ok (.bipush (-4), 2) := by decide +kernel
theorem dX7_hold_44 : decode cX7_hold 44 = .ok (.ireturn, 1) := by decide +kernel
theorem dX7_hold_45 : decode cX7_hold 45 = .ok (.iconst 1, 1) := by decide +kernel
theorem dX7_hold_46 : decode cX7_hold 46 = .ok (.istore_n 3, 1) := by decide +kernel
theorem dX7_hold_47 : decode cX7_hold 47 = .ok (.iload_n 3, 1) := by decide +kernel
theorem dX7_hold_48 : decode cX7_hold 48 = .ok (.bipush 6, 2) := by decide +kernel
theorem dX7_hold_50 : decode cX7_hold 50 = .ok (.if_icmp .ge 51, 3) := by decide +kernel
theorem dX7_hold_53 : decode cX7_hold 53 = .ok (.iconst 0, 1) := by decide +kernel
theorem dX7_hold_54 : decode cX7_hold 54 = .ok (.istore 4, 2) := by decide +kernel
theorem dX7_hold_56 : decode cX7_hold 56 = .ok (.iload 4, 2) := by decide +kernel
theorem dX7_hold_58 : decode cX7_hold 58 = .ok (.aload_n 0, 1) := by decide +kernel
theorem dX7_hold_59 : decode cX7_hold 59 = .ok (.getfield 13, 3) := by decide +kernel
theorem dX7_hold_62 : decode cX7_hold 62 = .ok (.iconst 0, 1) := by decide +kernel
theorem dX7_hold_63 : decode cX7_hold 63 = .ok (.iaload, 1) := by decide +kernel
theorem dX7_hold_64 : decode cX7_hold 64 = .ok (.if_icmp .ge 31, 3) := by decide +kernel
theorem dX7_hold_67 : decode cX7_hold 67 = .ok (.aload_n 0, 1) := by decide +kernel
theorem dX7_hold_68 : decode cX7_hold 68 = .ok (.iload_n 1, 1) := by decide +kernel
theorem dX7_hold_69 : decode cX7_hold 69 = .ok (.iload 4, 2) := by decide +kernel
theorem dX7_hold_71 : decode cX7_hold 71 = .ok (.iload_n 3, 1) := by decide +kernel
theorem dX7_hold_72 : decode cX7_hold 72 = .ok (.invokevirtual 159, 3) := by decide +kernel
theorem dX7_hold_75 : decode cX7_hold 75 = .ok (.ifCond .eq 14, 3) := by decide +kernel
theorem dX7_hold_78 : decode cX7_hold 78 = .ok (.iload_n 2, 1) := by decide +kernel
theorem dX7_hold_79 : decode cX7_hold 79 = .ok (.ifCond .ne 7, 3) := by decide +kernel
theorem dX7_hold_82 : decode cX7_hold 82 = .ok (.iload_n 3, 1) := by decide +kernel
theorem dX7_hold_83 : decode cX7_hold 83 = .ok (.goto 5, 3) := by decide +kernel
theorem dX7_hold_86 : decode cX7_hold 86 = .ok (.iload 4, 2) := by decide +kernel
theorem dX7_hold_88 : decode cX7_hold 88 = .ok (.ireturn, 1) := by decide +kernel
theorem dX7_hold_89 : decode cX7_hold 89 = .ok (.iinc 4 1, 3) := by decide +kernel
theorem dX7_hold_92 : decode cX7_hold 92 = .ok (.goto (-36), 3) := by decide +kernel
theorem dX7_hold_95 : decode cX7_hold 95 = .ok (.iinc 3 1, 3) := by decide +kernel
theorem dX7_hold_98 : decode cX7_hold 98 = .ok (.goto (-51), 3) := by decide +kernel
theorem dX7_hold_101 : decode cX7_hold 101 = .ok (.bipush (-4), 2) := by decide +kernel
theorem dX7_hold_103 : decode cX7_hold 103 = .ok (.ireturn, 1) := by decide +kernel
theorem dX7_weight_0 : decode cX7_weight 0 = .ok (.iconst 0, 1) := by decide +kernel
theorem dX7_weight_1 : decode cX7_weight 1 = .ok (.istore_n 2, 1) := by decide +kernel
theorem dX7_weight_2 : decode cX7_weight 2 = .ok (.iconst 0, 1) := by decide +kernel
theorem dX7_weight_3 : decode cX7_weight 3 = .ok (.istore_n 3, 1) := by decide +kernel
theorem dX7_weight_4 : decode cX7_weight 4 = .ok (.iload_n 3, 1) := by decide +kernel
theorem dX7_weight_5 : decode cX7_weight 5 = .ok (.aload_n 0, 1) := by decide +kernel
theorem dX7_weight_6 : decode cX7_weight 6 = .ok (.getfield 13, 3) := by decide +kernel
theorem dX7_weight_9 : decode cX7_weight 9 = .ok (.iconst 3, 1) := by decide +kernel
theorem dX7_weight_10 : decode cX7_weight 10 = .ok (.iaload, 1) := by decide +kernel
theorem dX7_weight_11 : decode cX7_weight 11 = .ok (.if_icmp .ge 35, 3) := by decide +kernel
theorem dX7_weight_14 : decode cX7_weight 14 = .ok (.iload_n 2, 1) := by decide +kernel
theorem dX7_weight_15 : decode cX7_weight 15 = .ok (.iload_n 1, 1) := by decide +kernel
theorem dX7_weight_16 : decode cX7_weight 16 = .ok (.iload_n 3, 1) := by decide +kernel
theorem dX7_weight_17 : decode cX7_weight 17 = .ok (.invokestatic 107, 3) := by decide +kernel
theorem dX7_weight_20 : decode cX7_weight 20 = .ok (.ifCond .eq 17, 3) := by decide +kernel
theorem dX7_weight_23 : decode cX7_weight 23 = .ok (.aload_n 0, 1) := by decide +kernel
theorem dX7_weight_24 : decode cX7_weight 24 = .ok (.getfield 19, 3) := by decide +kernel
theorem dX7_weight_27 : decode cX7_weight 27 = .ok (.bipush 18, 2) := by decide +kernel
theorem dX7_weight_29 : decode cX7_weight 29 = .ok (.iload_n 3, 1) := by decide +kernel
theorem dX7_weight_30 : decode cX7_weight 30 = .ok (.iadd, 1) := by decide +kernel
theorem dX7_weight_31 : decode cX7_weight 31 = .ok (.iaload, 1) := by decide +kernel
theorem dX7_weight_32 : decode cX7_weight 32 = .ok (.iconst 1, 1) := by decide +kernel
theorem dX7_weight_33 : decode cX7_weight 33 = .ok (.iadd, 1) := by decide +kernel
theorem dX7_weight_34 : decode cX7_weight 34 = .ok (.goto 4, 3) := by decide +kernel
theorem dX7_weight_37 : decode cX7_weight 37 = .ok (.iconst 0, 1) := by decide +kernel
theorem dX7_weight_38 : decode cX7_weight 38 = .ok (.iadd, 1) := by decide +kernel
theorem dX7_weight_39 : decode cX7_weight 39 = .ok (.istore_n 2, 1) := by decide +kernel
theorem dX7_weight_40 : decode cX7_weight 40 = .ok (.iinc 3 1, 3) := by decide +kernel
theorem dX7_weight_43 : decode cX7_weight 43 = .ok (.goto (-39), 3) := by decide +kernel
theorem dX7_weight_46 : decode cX7_weight 46 = .ok (.iload_n 2, 1) := by decide +kernel
theorem dX7_weight_47 : decode cX7_weight 47 = .ok (.ireturn, 1) := by decide +kernel
theorem dX7_cabinet_0 : decode cX7_cabinet 0 = .ok (.iload_n 1, 1) := by decide +kernel
theorem dX7_cabinet_1 : decode cX7_cabinet 1 = .ok (.i2l, 1) := by decide +kernel
theorem dX7_cabinet_2 : decode cX7_cabinet 2 = .ok (.lconst 0, 1) := by decide +kernel
theorem dX7_cabinet_3 : decode cX7_cabinet 3 = .ok (.lconst 1, 1) := by decide +kernel
theorem dX7_cabinet_4 : decode cX7_cabinet 4 = .ok (.invokestatic 58, 3) := by decide +kernel
theorem dX7_cabinet_7 : decode cX7_cabinet 7 = .ok (.ifCond .ne 5, 3) := by decide +kernel
theorem dX7_cabinet_10 : decode cX7_cabinet 10 = .ok (.iconst (-1), 1) := by decide +kernel
theorem dX7_cabinet_11 : decode cX7_cabinet 11 = .ok (.ireturn, 1) := by decide +kernel
theorem dX7_cabinet_12 : decode cX7_cabinet 12 = .ok (.iconst 1, 1) := by decide +kernel
theorem dX7_cabinet_13 : decode cX7_cabinet 13 = .ok (.aload_n 0, 1) := by decide +kernel
theorem dX7_cabinet_14 : decode cX7_cabinet 14 = .ok (.getfield 13, 3) := by decide +kernel
theorem dX7_cabinet_17 : decode cX7_cabinet 17 = .ok (.iconst 3, 1) := by decide +kernel
theorem dX7_cabinet_18 : decode cX7_cabinet 18 = .ok (.iaload, 1) := by decide +kernel
theorem dX7_cabinet_19 : decode cX7_cabinet 19 = .ok (.ishl, 1) := by decide +kernel
theorem dX7_cabinet_20 : decode cX7_cabinet 20 = .ok (.iconst 1, 1) := by decide +kernel
theorem dX7_cabinet_21 : decode cX7_cabinet 21 = .ok (.isub, 1) := by decide +kernel
theorem dX7_cabinet_22 : decode cX7_cabinet 22 = .ok (.istore_n 2, 1) := by decide +kernel
theorem dX7_cabinet_23 : decode cX7_cabinet 23 = .ok (.iload_n 2, 1) := by decide +kernel
theorem dX7_cabinet_24 : decode cX7_cabinet 24 = .ok (.istore_n 3, 1) := by decide +kernel
theorem dX7_cabinet_25 : decode cX7_cabinet 25 = .ok (.iconst 1, 1) := by decide +kernel
theorem dX7_cabinet_26 : decode cX7_cabinet 26 = .ok (.istore 4, 2) := by decide +kernel
theorem dX7_cabinet_28 : decode cX7_cabinet 28 = .ok (.iload 4, 2) := by decide +kernel
theorem dX7_cabinet_30 : decode cX7_cabinet 30 = .ok (.iload_n 2, 1) := by decide +kernel
theorem dX7_cabinet_31 : decode cX7_cabinet 31 = .ok (.if_icmp .ge 44, 3) := by decide +kernel
theorem dX7_cabinet_34 : decode cX7_cabinet 34 = .ok (.iload 4, 2) := by decide +kernel
theorem dX7_cabinet_36 : decode cX7_cabinet 36 = .ok (.invokestatic 163, 3) := by decide +kernel
theorem dX7_cabinet_39 : decode cX7_cabinet 39 = .ok (.iload_n 3, 1) := by decide +kernel
theorem dX7_cabinet_40 : decode cX7_cabinet 40 = .ok (.invokestatic 163, 3) := by decide +kernel
theorem dX7_cabinet_43 : decode cX7_cabinet 43 = .ok (.if_icmp .ge 24, 3) := by decide +kernel
theorem dX7_cabinet_46 : decode cX7_cabinet 46 = .ok (.iconst 2, 1) := by decide +kernel
theorem dX7_cabinet_47 : decode cX7_cabinet 47 = .ok (.aload_n 0, 1) := by decide +kernel
theorem dX7_cabinet_48 : decode cX7_cabinet 48 = .ok (.iload 4, 2) := by decide +kernel
theorem dX7_cabinet_50 : decode cX7_cabinet 50 = .ok (.invokevirtual 166, 3) := by decide +kernel
theorem dX7_cabinet_53 : decode cX7_cabinet 53 = .ok (.imul, 1) := by decide +kernel
theorem dX7_cabinet_54 : decode cX7_cabinet 54 = .ok (.aload_n 0, 1) := by decide +kernel
theorem dX7_cabinet_55 : decode cX7_cabinet 55 = .ok (.iload_n 2, 1) := by decide +kernel
theorem dX7_cabinet_56 : decode cX7_cabinet 56 = .ok (.invokevirtual 166, 3) := by decide +kernel
theorem dX7_cabinet_59 : decode cX7_cabinet 59 = .ok (.if_icmp .le 8, 3) := by decide +kernel
theorem dX7_cabinet_62 : decode cX7_cabinet 62 = .ok (.iload 4, 2) := by decide +kernel
theorem dX7_cabinet_64 : decode cX7_cabinet 64 = .ok (.goto 4, 3) := by decide +kernel
theorem dX7_cabinet_67 : decode cX7_cabinet 67 = .ok (.iload_n 3, 1) := by decide +kernel
theorem dX7_cabinet_68 : decode cX7_cabinet 68 = .ok (.istore_n 3, 1) := by decide +kernel
theorem dX7_cabinet_69 : decode cX7_cabinet 69 = .ok (.iinc 4 1, 3) := by decide +kernel
theorem dX7_cabinet_72 : decode cX7_cabinet 72 = .ok (.goto (-44), 3) := by decide +kernel
theorem dX7_cabinet_75 : decode cX7_cabinet 75 = .ok (.iload_n 1, 1) := by decide +kernel
theorem dX7_cabinet_76 : decode cX7_cabinet 76 = .ok (.ifCond .ne 10, 3) := by decide +kernel
theorem dX7_cabinet_79 : decode cX7_cabinet 79 = .ok (.iload_n 3, 1) := by decide +kernel
theorem dX7_cabinet_80 : decode cX7_cabinet 80 = .ok (.invokestatic 163, 3) := by decide +kernel
theorem dX7_cabinet_83 : decode cX7_cabinet 83 = .ok (.goto 4, 3) := by decide +kernel
theorem dX7_cabinet_86 : decode cX7_cabinet 86 = .ok (.iload_n 3, 1) := by decide +kernel
theorem dX7_cabinet_87 : decode cX7_cabinet 87 = .ok (.ireturn, 1) := by decide +kernel
theorem dX7_seen_0 : decode cX7_seen 0 = .ok (.aload_n 0, 1) := by decide +kernel
theorem dX7_seen_1 : decode cX7_seen 1 = .ok (.iload_n 1, 1) := by decide +kernel
theorem dX7_seen_2 : decode cX7_seen 2 = .ok (.invokevirtual 131, 3) := by decide +kernel
theorem dX7_seen_5 : decode cX7_seen 5 = .ok (.ifCond .eq 11, 3) := by decide +kernel
theorem dX7_seen_8 : decode cX7_seen 8 = .ok (.aload_n 0, 1) := by decide +kernel
theorem dX7_seen_9 : decode cX7_seen 9 = .ok (.iload_n 2, 1) := by decide +kernel
theorem dX7_seen_10 : decode cX7_seen 10 = .ok (.invokevirtual 139, 3) := by decide +kernel
theorem dX7_seen_13 : decode cX7_seen 13 = .ok (.ifCond .ne 5, 3) := by decide +kernel
theorem dX7_seen_16 : decode cX7_seen 16 = .ok (.iconst (-1), 1) := by decide +kernel
theorem dX7_seen_17 : decode cX7_seen 17 = .ok (.ireturn, 1) := by decide +kernel
theorem dX7_seen_18 : decode cX7_seen 18 = .ok (.aload_n 0, 1) := by decide +kernel
theorem dX7_seen_19 : decode cX7_seen 19 = .ok (.getfield 98, 3) := by decide +kernel
theorem dX7_seen_22 : decode cX7_seen 22 = .ok (.bipush 6, 2) := by decide +kernel
theorem dX7_seen_24 : decode cX7_seen 24 = .ok (.if_icmp .ne 6, 3) := by decide +kernel
theorem dX7_seen_27 : decode cX7_seen 27 = .ok (.bipush (-3), 2) := by decide +kernel
theorem dX7_seen_29 : decode cX7_seen 29 = .ok (.ireturn, 1) := by decide +kernel
theorem dX7_seen_30 : decode cX7_seen 30 = .ok (.aload_n 0, 1) := by decide +kernel
theorem dX7_seen_31 : decode cX7_seen 31 = .ok (.getfield 34, 3) := by decide +kernel
theorem dX7_seen_34 : decode cX7_seen 34 = .ok (.iconst 2, 1) := by decide +kernel
theorem dX7_seen_35 : decode cX7_seen 35 = .ok (.aload_n 0, 1) := by decide +kernel
theorem dX7_seen_36 : decode cX7_seen 36 = .ok (.getfield 98, 3) := by decide +kernel
theorem dX7_seen_39 : decode cX7_seen 39 = .ok (.imul, 1) := by decide +kernel
theorem dX7_seen_40 : decode cX7_seen 40 = .ok (.iload_n 1, 1) := by decide +kernel
theorem dX7_seen_41 : decode cX7_seen 41 = .ok (.iastore, 1) := by decide +kernel
theorem dX7_seen_42 : decode cX7_seen 42 = .ok (.aload_n 0, 1) := by decide +kernel
theorem dX7_seen_43 : decode cX7_seen 43 = .ok (.getfield 34, 3) := by decide +kernel
theorem dX7_seen_46 : decode cX7_seen 46 = .ok (.iconst 2, 1) := by decide +kernel
theorem dX7_seen_47 : decode cX7_seen 47 = .ok (.aload_n 0, 1) := by decide +kernel
theorem dX7_seen_48 : decode cX7_seen 48 = .ok (.getfield 98, 3) := by decide +kernel
theorem dX7_seen_51 : decode cX7_seen 51 = .ok (.imul, 1) := by decide +kernel
theorem dX7_seen_52 : decode cX7_seen 52 = .ok (.iconst 1, 1) := by decide +kernel
theorem dX7_seen_53 : decode cX7_seen 53 = .ok (.iadd, 1) := by decide +kernel
theorem dX7_seen_54 : decode cX7_seen 54 = .ok (.iload_n 2, 1) := by decide +kernel
theorem dX7_seen_55 : decode cX7_seen 55 = .ok (.iastore, 1) := by decide +kernel
theorem dX7_seen_56 : decode cX7_seen 56 = .ok (.aload_n 0, 1) := by decide +kernel
theorem dX7_seen_57 : decode cX7_seen 57 = .ok (.dup, 1) := by decide +kernel
theorem dX7_seen_58 : decode cX7_seen 58 = .ok (.getfield 98, 3) := by decide +kernel
theorem dX7_seen_61 : decode cX7_seen 61 = .ok (.iconst 1, 1) := by decide +kernel
theorem dX7_seen_62 : decode cX7_seen 62 = .ok (.iadd, 1) := by decide +kernel
theorem dX7_seen_63 : decode cX7_seen 63 = .ok (.putfield 98, 3) := by decide +kernel
theorem dX7_seen_66 : decode cX7_seen 66 = .ok (.aload_n 0, 1) := by decide +kernel
theorem dX7_seen_67 : decode cX7_seen 67 = .ok (.getfield 98, 3) := by decide +kernel
theorem dX7_seen_70 : decode cX7_seen 70 = .ok (.ireturn, 1) := by decide +kernel
theorem dX7_forget_0 : decode cX7_forget 0 = .ok (.aload_n 0, 1) := by decide +kernel
theorem dX7_forget_1 : decode cX7_forget 1 = .ok (.getfield 98, 3) := by decide +kernel
theorem dX7_forget_4 : decode cX7_forget 4 = .ok (.istore_n 1, 1) := by decide +kernel
theorem dX7_forget_5 : decode cX7_forget 5 = .ok (.aload_n 0, 1) := by decide +kernel
theorem dX7_forget_6 : decode cX7_forget 6 = .ok (.iconst 0, 1) := by decide +kernel
theorem dX7_forget_7 : decode cX7_forget 7 = .ok (.putfield 98, 3) := by decide +kernel
theorem dX7_forget_10 : decode cX7_forget 10 = .ok (.iload_n 1, 1) := by decide +kernel
theorem dX7_forget_11 : decode cX7_forget 11 = .ok (.ireturn, 1) := by decide +kernel
theorem dX7_isSeen_0 : decode cX7_isSeen 0 = .ok (.aload_n 0, 1) := by decide +kernel
theorem dX7_isSeen_1 : decode cX7_isSeen 1 = .ok (.invokevirtual 128, 3) := by decide +kernel
theorem dX7_isSeen_4 : decode cX7_isSeen 4 = .ok (.iconst 1, 1) := by decide +kernel
theorem dX7_isSeen_5 : decode cX7_isSeen 5 = .ok (.istore_n 1, 1) := by decide +kernel
theorem dX7_isSeen_6 : decode cX7_isSeen 6 = .ok (.iconst 0, 1) := by decide +kernel
theorem dX7_isSeen_7 : decode cX7_isSeen 7 = .ok (.istore_n 2, 1) := by decide +kernel
theorem dX7_isSeen_8 : decode cX7_isSeen 8 = .ok (.iload_n 2, 1) := by decide +kernel
theorem dX7_isSeen_9 : decode cX7_isSeen 9 = .ok (.aload_n 0, 1) := by decide +kernel
theorem dX7_isSeen_10 : decode cX7_isSeen 10 = .ok (.getfield 98, 3) := by decide +kernel
theorem dX7_isSeen_13 : decode cX7_isSeen 13 = .ok (.if_icmp .ge 48, 3) := by decide +kernel
theorem dX7_isSeen_16 : decode cX7_isSeen 16 = .ok (.iload_n 1, 1) := by decide +kernel
theorem dX7_isSeen_17 : decode cX7_isSeen 17 = .ok (.ifCond .eq 36, 3) := by decide +kernel
theorem dX7_isSeen_20 : decode cX7_isSeen 20 = .ok (.aload_n 0, 1) := by decide +kernel
theorem dX7_isSeen_21 : decode cX7_isSeen 21 = .ok (.getfield 25, 3) := by decide +kernel
theorem dX7_isSeen_24 : decode cX7_isSeen 24 = .ok (.bipush 18, 2) := by decide +kernel
theorem dX7_isSeen_26 : decode cX7_isSeen 26 = .ok (.aload_n 0, 1) := by decide +kernel
theorem dX7_isSeen_27 : decode cX7_isSeen 27 = .ok (.getfield 34, 3) := by decide +kernel
theorem dX7_isSeen_30 : decode cX7_isSeen 30 = .ok (.iconst 2, 1) := by decide +kernel
theorem dX7_isSeen_31 : decode cX7_isSeen 31 = .ok (.iload_n 2, 1) := by decide +kernel
theorem dX7_isSeen_32 : decode cX7_isSeen 32 = .ok (.imul, 1) := by decide +kernel
theorem dX7_isSeen_33 : decode cX7_isSeen 33 = .ok (.iaload, 1) := by decide +kernel
theorem dX7_isSeen_34 : decode cX7_isSeen 34 = .ok (.iadd, 1) := by decide +kernel
theorem dX7_isSeen_35 : decode cX7_isSeen 35 = .ok (.iaload, 1) := by decide +kernel
theorem dX7_isSeen_36 : decode cX7_isSeen 36 = .ok (.aload_n 0, 1) := by decide +kernel
theorem dX7_isSeen_37 : decode cX7_isSeen 37 = .ok (.getfield 34, 3) := by decide +kernel
theorem dX7_isSeen_40 : decode cX7_isSeen 40 = .ok (.iconst 2, 1) := by decide +kernel
theorem dX7_isSeen_41 : decode cX7_isSeen 41 = .ok (.iload_n 2, 1) := by decide +kernel
theorem dX7_isSeen_42 : decode cX7_isSeen 42 = .ok (.imul, 1) := by decide +kernel
theorem dX7_isSeen_43 : decode cX7_isSeen 43 = .ok (.iconst 1, 1) := by decide +kernel
theorem dX7_isSeen_44 : decode cX7_isSeen 44 = .ok (.iadd, 1) := by decide +kernel
theorem dX7_isSeen_45 : decode cX7_isSeen 45 = .ok (.iaload, 1) := by decide +kernel
theorem dX7_isSeen_46 : decode cX7_isSeen 46 = .ok (.if_icmp .ne 7, 3) := by decide +kernel
theorem dX7_isSeen_49 : decode cX7_isSeen 49 = .ok (.iconst 1, 1) := by decide +kernel
theorem dX7_isSeen_50 : decode cX7_isSeen 50 = .ok (.goto 4, 3) := by decide +kernel
theorem dX7_isSeen_53 : decode cX7_isSeen 53 = .ok (.iconst 0, 1) := by decide +kernel
theorem dX7_isSeen_54 : decode cX7_isSeen 54 = .ok (.istore_n 1, 1) := by decide +kernel
theorem dX7_isSeen_55 : decode cX7_isSeen 55 = .ok (.iinc 2 1, 3) := by decide +kernel
theorem dX7_isSeen_58 : decode cX7_isSeen 58 = .ok (.goto (-50), 3) := by decide +kernel
theorem dX7_isSeen_61 : decode cX7_isSeen 61 = .ok (.iload_n 1, 1) := by decide +kernel
theorem dX7_isSeen_62 : decode cX7_isSeen 62 = .ok (.ireturn, 1) := by decide +kernel
theorem dX7_waxes_0 : decode cX7_waxes 0 = .ok (.aload_n 0, 1) := by decide +kernel
theorem dX7_waxes_1 : decode cX7_waxes 1 = .ok (.iload_n 1, 1) := by decide +kernel
theorem dX7_waxes_2 : decode cX7_waxes 2 = .ok (.invokevirtual 139, 3) := by decide +kernel
theorem dX7_waxes_5 : decode cX7_waxes 5 = .ok (.ifCond .ne 5, 3) := by decide +kernel
theorem dX7_waxes_8 : decode cX7_waxes 8 = .ok (.iconst (-1), 1) := by decide +kernel
theorem dX7_waxes_9 : decode cX7_waxes 9 = .ok (.ireturn, 1) := by decide +kernel
theorem dX7_waxes_10 : decode cX7_waxes 10 = .ok (.iconst 0, 1) := by decide +kernel
theorem dX7_waxes_11 : decode cX7_waxes 11 = .ok (.istore_n 2, 1) := by decide +kernel
theorem dX7_waxes_12 : decode cX7_waxes 12 = .ok (.iconst 0, 1) := by decide +kernel
theorem dX7_waxes_13 : decode cX7_waxes 13 = .ok (.istore_n 3, 1) := by decide +kernel
theorem dX7_waxes_14 : decode cX7_waxes 14 = .ok (.iload_n 3, 1) := by decide +kernel
theorem dX7_waxes_15 : decode cX7_waxes 15 = .ok (.bipush 10, 2) := by decide +kernel
theorem dX7_waxes_17 : decode cX7_waxes 17 = .ok (.if_icmp .ge 39, 3) := by decide +kernel
theorem dX7_waxes_20 : decode cX7_waxes 20 = .ok (.aload_n 0, 1) := by decide +kernel
theorem dX7_waxes_21 : decode cX7_waxes 21 = .ok (.invokevirtual 136, 3) := by decide +kernel
theorem dX7_waxes_24 : decode cX7_waxes 24 = .ok (.aload_n 0, 1) := by decide +kernel
theorem dX7_waxes_25 : decode cX7_waxes 25 = .ok (.getfield 25, 3) := by decide +kernel
theorem dX7_waxes_28 : decode cX7_waxes 28 = .ok (.iconst 2, 1) := by decide +kernel
theorem dX7_waxes_29 : decode cX7_waxes 29 = .ok (.iload_n 1, 1) := by decide +kernel
theorem dX7_waxes_30 : decode cX7_waxes 30 = .ok (.iadd, 1) := by decide +kernel
theorem dX7_waxes_31 : decode cX7_waxes 31 = .ok (.iload_n 3, 1) := by decide +kernel
theorem dX7_waxes_32 : decode cX7_waxes 32 = .ok (.iastore, 1) := by decide +kernel
theorem dX7_waxes_33 : decode cX7_waxes 33 = .ok (.iload_n 2, 1) := by decide +kernel
theorem dX7_waxes_34 : decode cX7_waxes 34 = .ok (.aload_n 0, 1) := by decide +kernel
theorem dX7_waxes_35 : decode cX7_waxes 35 = .ok (.invokevirtual 169, 3) := by decide +kernel
theorem dX7_waxes_38 : decode cX7_waxes 38 = .ok (.ifCond .eq 9, 3) := by decide +kernel
theorem dX7_waxes_41 : decode cX7_waxes 41 = .ok (.iconst 1, 1) := by decide +kernel
theorem dX7_waxes_42 : decode cX7_waxes 42 = .ok (.iload_n 3, 1) := by decide +kernel
theorem dX7_waxes_43 : decode cX7_waxes 43 = .ok (.ishl, 1) := by decide +kernel
theorem dX7_waxes_44 : decode cX7_waxes 44 = .ok (.goto 4, 3) := by decide +kernel
theorem dX7_waxes_47 : decode cX7_waxes 47 = .ok (.iconst 0, 1) := by decide +kernel
theorem dX7_waxes_48 : decode cX7_waxes 48 = .ok (.ior, 1) := by decide +kernel
theorem dX7_waxes_49 : decode cX7_waxes 49 = .ok (.istore_n 2, 1) := by decide +kernel
theorem dX7_waxes_50 : decode cX7_waxes 50 = .ok (.iinc 3 1, 3) := by decide +kernel
theorem dX7_waxes_53 : decode cX7_waxes 53 = .ok (.goto (-39), 3) := by decide +kernel
theorem dX7_waxes_56 : decode cX7_waxes 56 = .ok (.iload_n 2, 1) := by decide +kernel
theorem dX7_waxes_57 : decode cX7_waxes 57 = .ok (.ireturn, 1) := by decide +kernel
theorem dX7_grips_0 : decode cX7_grips 0 = .ok (.aload_n 0, 1) := by decide +kernel
theorem dX7_grips_1 : decode cX7_grips 1 = .ok (.iload_n 1, 1) := by decide +kernel
theorem dX7_grips_2 : decode cX7_grips 2 = .ok (.invokevirtual 131, 3) := by decide +kernel
theorem dX7_grips_5 : decode cX7_grips 5 = .ok (.ifCond .ne 5, 3) := by decide +kernel
theorem dX7_grips_8 : decode cX7_grips 8 = .ok (.iconst (-1), 1) := by decide +kernel
theorem dX7_grips_9 : decode cX7_grips 9 = .ok (.ireturn, 1) := by decide +kernel
theorem dX7_grips_10 : decode cX7_grips 10 = .ok (.aload_n 0, 1) := by decide +kernel
theorem dX7_grips_11 : decode cX7_grips 11 = .ok (.getfield 13, 3) := by decide +kernel
theorem dX7_grips_14 : decode cX7_grips 14 = .ok (.bipush 11, 2) := by decide +kernel
theorem dX7_grips_16 : decode cX7_grips 16 = .ok (.iload_n 1, 1) := by decide +kernel
theorem dX7_grips_17 : decode cX7_grips 17 = .ok (.iadd, 1) := by decide +kernel
theorem dX7_grips_18 : decode cX7_grips 18 = .ok (.iaload, 1) := by decide +kernel
theorem dX7_grips_19 : decode cX7_grips 19 = .ok (.istore_n 2, 1) := by decide +kernel
theorem dX7_grips_20 : decode cX7_grips 20 = .ok (.iconst 0, 1) := by decide +kernel
theorem dX7_grips_21 : decode cX7_grips 21 = .ok (.istore_n 3, 1) := by decide +kernel
theorem dX7_grips_22 : decode cX7_grips 22 = .ok (.iconst 0, 1) := by decide +kernel
theorem dX7_grips_23 : decode cX7_grips 23 = .ok (.istore 4, 2) := by decide +kernel
theorem dX7_grips_25 : decode cX7_grips 25 = .ok (.iload 4, 2) := by decide +kernel
theorem dX7_grips_27 : decode cX7_grips 27 = .ok (.bipush 10, 2) := by decide +kernel
theorem dX7_grips_29 : decode cX7_grips 29 = .ok (.if_icmp .ge 42, 3) := by decide +kernel
theorem dX7_grips_32 : decode cX7_grips 32 = .ok (.aload_n 0, 1) := by decide +kernel
theorem dX7_grips_33 : decode cX7_grips 33 = .ok (.invokevirtual 136, 3) := by decide +kernel
theorem dX7_grips_36 : decode cX7_grips 36 = .ok (.aload_n 0, 1) := by decide +kernel
theorem dX7_grips_37 : decode cX7_grips 37 = .ok (.getfield 13, 3) := by decide +kernel
theorem dX7_grips_40 : decode cX7_grips 40 = .ok (.bipush 11, 2) := by decide +kernel
theorem dX7_grips_42 : decode cX7_grips 42 = .ok (.iload_n 1, 1) := by decide +kernel
theorem dX7_grips_43 : decode cX7_grips 43 = .ok (.iadd, 1) := by decide +kernel
theorem dX7_grips_44 : decode cX7_grips 44 = .ok (.iload 4, 2) := by decide +kernel
theorem dX7_grips_46 : decode cX7_grips 46 = .ok (.iastore, 1) := by decide +kernel
theorem dX7_grips_47 : decode cX7_grips 47 = .ok (.iload_n 3, 1) := by decide +kernel
theorem dX7_grips_48 : decode cX7_grips 48 = .ok (.aload_n 0, 1) := by decide +kernel
theorem dX7_grips_49 : decode cX7_grips 49 = .ok (.invokevirtual 169, 3) := by decide +kernel
theorem dX7_grips_52 : decode cX7_grips 52 = .ok (.ifCond .eq 10, 3) := by decide +kernel
theorem dX7_grips_55 : decode cX7_grips 55 = .ok (.iconst 1, 1) := by decide +kernel
theorem dX7_grips_56 : decode cX7_grips 56 = .ok (.iload 4, 2) := by decide +kernel
theorem dX7_grips_58 : decode cX7_grips 58 = .ok (.ishl, 1) := by decide +kernel
theorem dX7_grips_59 : decode cX7_grips 59 = .ok (.goto 4, 3) := by decide +kernel
theorem dX7_grips_62 : decode cX7_grips 62 = .ok (.iconst 0, 1) := by decide +kernel
theorem dX7_grips_63 : decode cX7_grips 63 = .ok (.ior, 1) := by decide +kernel
theorem dX7_grips_64 : decode cX7_grips 64 = .ok (.istore_n 3, 1) := by decide +kernel
theorem dX7_grips_65 : decode cX7_grips 65 = .ok (.iinc 4 1, 3) := by decide +kernel
theorem dX7_grips_68 : decode cX7_grips 68 = .ok (.goto (-43), 3) := by decide +kernel
theorem dX7_grips_71 : decode cX7_grips 71 = .ok (.aload_n 0, 1) := by decide +kernel
theorem dX7_grips_72 : decode cX7_grips 72 = .ok (.getfield 13, 3) := by decide +kernel
theorem dX7_grips_75 : decode cX7_grips 75 = .ok (.bipush 11, 2) := by decide +kernel
theorem dX7_grips_77 : decode cX7_grips 77 = .ok (.iload_n 1, 1) := by decide +kernel
theorem dX7_grips_78 : decode cX7_grips 78 = .ok (.iadd, 1) := by decide +kernel
theorem dX7_grips_79 : decode cX7_grips 79 = .ok (.iload_n 2, 1) := by decide +kernel
theorem dX7_grips_80 : decode cX7_grips 80 = .ok (.iastore, 1) := by decide +kernel
theorem dX7_grips_81 : decode cX7_grips 81 = .ok (.iload_n 3, 1) := by decide +kernel
theorem dX7_grips_82 : decode cX7_grips 82 = .ok (.ireturn, 1) := by decide +kernel
theorem dX7_more_0 : decode cX7_more 0 = .ok (.aload_n 0, 1) := by decide +kernel
theorem dX7_more_1 : decode cX7_more 1 = .ok (.getfield 25, 3) := by decide +kernel
theorem dX7_more_4 : decode cX7_more 4 = .ok (.iconst 2, 1) := by decide +kernel
theorem dX7_more_5 : decode cX7_more 5 = .ok (.iload_n 1, 1) := by decide +kernel
theorem dX7_more_6 : decode cX7_more 6 = .ok (.iadd, 1) := by decide +kernel
theorem dX7_more_7 : decode cX7_more 7 = .ok (.iaload, 1) := by decide +kernel
theorem dX7_more_8 : decode cX7_more 8 = .ok (.iload_n 2, 1) := by decide +kernel
theorem dX7_more_9 : decode cX7_more 9 = .ok (.iadd, 1) := by decide +kernel
theorem dX7_more_10 : decode cX7_more 10 = .ok (.istore_n 3, 1) := by decide +kernel
theorem dX7_more_11 : decode cX7_more 11 = .ok (.aload_n 0, 1) := by decide +kernel
theorem dX7_more_12 : decode cX7_more 12 = .ok (.getfield 25, 3) := by decide +kernel
theorem dX7_more_15 : decode cX7_more 15 = .ok (.iconst 2, 1) := by decide +kernel
theorem dX7_more_16 : decode cX7_more 16 = .ok (.iload_n 1, 1) := by decide +kernel
theorem dX7_more_17 : decode cX7_more 17 = .ok (.iadd, 1) := by decide +kernel
theorem dX7_more_18 : decode cX7_more 18 = .ok (.iload_n 3, 1) := by decide +kernel
theorem dX7_more_19 : decode cX7_more 19 = .ok (.bipush 9, 2) := by decide +kernel
theorem dX7_more_21 : decode cX7_more 21 = .ok (.if_icmp .le 8, 3) := by decide +kernel
theorem dX7_more_24 : decode cX7_more 24 = .ok (.bipush 9, 2) := by decide +kernel
theorem dX7_more_26 : decode cX7_more 26 = .ok (.goto 12, 3) := by decide +kernel
theorem dX7_more_29 : decode cX7_more 29 = .ok (.iload_n 3, 1) := by decide +kernel
theorem dX7_more_30 : decode cX7_more 30 = .ok (.ifCond .ge 7, 3) := by decide +kernel
theorem dX7_more_33 : decode cX7_more 33 = .ok (.iconst 0, 1) := by decide +kernel
theorem dX7_more_34 : decode cX7_more 34 = .ok (.goto 4, 3) := by decide +kernel
theorem dX7_more_37 : decode cX7_more 37 = .ok (.iload_n 3, 1) := by decide +kernel
theorem dX7_more_38 : decode cX7_more 38 = .ok (.iastore, 1) := by decide +kernel
theorem dX7_more_39 : decode cX7_more 39 = .ok (.return_, 1) := by decide +kernel
theorem dX7_likely_0 : decode cX7_likely 0 = .ok (.aload_n 0, 1) := by decide +kernel
theorem dX7_likely_1 : decode cX7_likely 1 = .ok (.iload_n 1, 1) := by decide +kernel
theorem dX7_likely_2 : decode cX7_likely 2 = .ok (.invokevirtual 131, 3) := by decide +kernel
theorem dX7_likely_5 : decode cX7_likely 5 = .ok (.ifCond .eq 38, 3) := by decide +kernel
theorem dX7_likely_8 : decode cX7_likely 8 = .ok (.iload_n 2, 1) := by decide +kernel
theorem dX7_likely_9 : decode cX7_likely 9 = .ok (.i2l, 1) := by decide +kernel
theorem dX7_likely_10 : decode cX7_likely 10 = .ok (.lconst 0, 1) := by decide +kernel
theorem dX7_likely_11 : decode cX7_likely 11 = .ok (.ldc2_w 172, 3) := by decide +kernel
theorem dX7_likely_14 : decode cX7_likely 14 = .ok (.invokestatic 58, 3) := by decide +kernel
theorem dX7_likely_17 : decode cX7_likely 17 = .ok (.ifCond .eq 26, 3) := by decide +kernel
theorem dX7_likely_20 : decode cX7_likely 20 = .ok (.iload_n 3, 1) := by decide +kernel
theorem dX7_likely_21 : decode cX7_likely 21 = .ok (.i2l, 1) := by decide +kernel
theorem dX7_likely_22 : decode cX7_likely 22 = .ok (.lconst 0, 1) := by decide +kernel
theorem dX7_likely_23 : decode cX7_likely 23 = .ok (.ldc2_w 174, 3) := by decide +kernel
theorem dX7_likely_26 : decode cX7_likely 26 = .ok (.invokestatic 58, 3) := by decide +kernel
theorem dX7_likely_29 : decode cX7_likely 29 = .ok (.ifCond .eq 14, 3) := by decide +kernel
theorem dX7_likely_32 : decode cX7_likely 32 = .ok (.iload 4, 2) := by decide +kernel
theorem dX7_likely_34 : decode cX7_likely 34 = .ok (.i2l, 1) := by decide +kernel
theorem dX7_likely_35 : decode cX7_likely 35 = .ok (.lconst 0, 1) := by decide +kernel
theorem dX7_likely_36 : decode cX7_likely 36 = .ok (.lconst 1, 1) := by decide +kernel
theorem dX7_likely_37 : decode cX7_likely 37 = .ok (.invokestatic 58, 3) := by decide +kernel
theorem dX7_likely_40 : decode cX7_likely 40 = .ok (.ifCond .ne 5, 3) := by decide +kernel
theorem dX7_likely_43 : decode cX7_likely 43 = .ok (.iconst (-1), 1) := by decide +kernel
theorem dX7_likely_44 : decode cX7_likely 44 = .ok (.ireturn, 1) := by decide +kernel
theorem dX7_likely_45 : decode cX7_likely 45 = .ok (.iconst 0, 1) := by decide +kernel
theorem dX7_likely_46 : decode cX7_likely 46 = .ok (.istore 5, 2) := by decide +kernel
theorem dX7_likely_48 : decode cX7_likely 48 = .ok (.iconst 1, 1) := by decide +kernel
theorem dX7_likely_49 : decode cX7_likely 49 = .ok (.istore 6, 2) := by decide +kernel
theorem dX7_likely_51 : decode cX7_likely 51 = .ok (.iconst 0, 1) := by decide +kernel
theorem dX7_likely_52 : decode cX7_likely 52 = .ok (.istore 7, 2) := by decide +kernel
theorem dX7_likely_54 : decode cX7_likely 54 = .ok (.iload 7, 2) := by decide +kernel
theorem dX7_likely_56 : decode cX7_likely 56 = .ok (.iconst 1, 1) := by decide +kernel
theorem dX7_likely_57 : decode cX7_likely 57 = .ok (.iload_n 2, 1) := by decide +kernel
theorem dX7_likely_58 : decode cX7_likely 58 = .ok (.ishl, 1) := by decide +kernel
theorem dX7_likely_59 : decode cX7_likely 59 = .ok (.if_icmp .ge 108, 3) := by decide +kernel
theorem dX7_likely_62 : decode cX7_likely 62 = .ok (.iconst 1, 1) := by decide +kernel
theorem dX7_likely_63 : decode cX7_likely 63 = .ok (.istore 8, 2) := by decide +kernel
theorem dX7_likely_65 : decode cX7_likely 65 = .ok (.aload_n 0, 1) := by decide +kernel
theorem dX7_likely_66 : decode cX7_likely 66 = .ok (.invokevirtual 136, 3) := by decide +kernel
theorem dX7_likely_69 : decode cX7_likely 69 = .ok (.iconst 0, 1) := by decide +kernel
theorem dX7_likely_70 : decode cX7_likely 70 = .ok (.istore 9, 2) := by decide +kernel
theorem dX7_likely_72 : decode cX7_likely 72 = .ok (.iload 9, 2) := by decide +kernel
theorem dX7_likely_74 : decode cX7_likely 74 = .ok (.iload_n 2, 1) := by decide +kernel
theorem dX7_likely_75 : decode cX7_likely 75 = .ok (.if_icmp .ge 67, 3) := by decide +kernel
theorem dX7_likely_78 : decode cX7_likely 78 = .ok (.iload 8, 2) := by decide +kernel
theorem dX7_likely_80 : decode cX7_likely 80 = .ok (.iload 7, 2) := by decide +kernel
theorem dX7_likely_82 : decode cX7_likely 82 = .ok (.iload 9, 2) := by decide +kernel
theorem dX7_likely_84 : decode cX7_likely 84 = .ok (.invokestatic 107, 3) := by decide +kernel
theorem dX7_likely_87 : decode cX7_likely 87 = .ok (.ifCond .eq 7, 3) := by decide +kernel
theorem dX7_likely_90 : decode cX7_likely 90 = .ok (.iload_n 3, 1) := by decide +kernel
theorem dX7_likely_91 : decode cX7_likely 91 = .ok (.goto 7, 3) := by decide +kernel
theorem dX7_likely_94 : decode cX7_likely 94 = .ok (.bipush 10, 2) := by decide +kernel
theorem dX7_likely_96 : decode cX7_likely 96 = .ok (.iload_n 3, 1) := by decide +kernel
theorem dX7_likely_97 : decode cX7_likely 97 = .ok (.isub, 1) := by decide +kernel
theorem dX7_likely_98 : decode cX7_likely 98 = .ok (.imul, 1) := by decide +kernel
theorem dX7_likely_99 : decode cX7_likely 99 = .ok (.istore 8, 2) := by decide +kernel
theorem dX7_likely_101 : decode cX7_likely 101 = .ok (.aload_n 0, 1) := by decide +kernel
theorem dX7_likely_102 : decode cX7_likely 102 = .ok (.aload_n 0, 1) := by decide +kernel
theorem dX7_likely_103 : decode cX7_likely 103 = .ok (.getfield 25, 3) := by decide +kernel
theorem dX7_likely_106 : decode cX7_likely 106 = .ok (.bipush 18, 2) := by decide +kernel
theorem dX7_likely_108 : decode cX7_likely 108 = .ok (.aload_n 0, 1) := by decide +kernel
theorem dX7_likely_109 : decode cX7_likely 109 = .ok (.invokevirtual 125, 3) := by decide +kernel
theorem dX7_likely_112 : decode cX7_likely 112 = .ok (.iadd, 1) := by decide +kernel
theorem dX7_likely_113 : decode cX7_likely 113 = .ok (.iaload, 1) := by decide +kernel
theorem dX7_likely_114 : decode cX7_likely 114 = .ok (.iload 7, 2) := by decide +kernel
theorem dX7_likely_116 : decode cX7_likely 116 = .ok (.iload 9, 2) := by decide +kernel
theorem dX7_likely_118 : decode cX7_likely 118 = .ok (.invokestatic 107, 3) := by decide +kernel
theorem dX7_likely_121 : decode cX7_likely 121 = .ok (.ifCond .eq 7, 3) := by decide +kernel
theorem dX7_likely_124 : decode cX7_likely 124 = .ok (.iconst 2, 1) := by decide +kernel
theorem dX7_likely_125 : decode cX7_likely 125 = .ok (.goto 4, 3) := by decide +kernel
theorem dX7_likely_128 : decode cX7_likely 128 = .ok (.iconst 0, 1) := by decide +kernel
theorem dX7_likely_129 : decode cX7_likely 129 = .ok (.invokevirtual 176, 3) := by decide +kernel
theorem dX7_likely_132 : decode cX7_likely 132 = .ok (.aload_n 0, 1) := by decide +kernel
theorem dX7_likely_133 : decode cX7_likely 133 = .ok (.invokevirtual 128, 3) := by decide +kernel
theorem dX7_likely_136 : decode cX7_likely 136 = .ok (.iinc 9 1, 3) := by decide +kernel
theorem dX7_likely_139 : decode cX7_likely 139 = .ok (.goto (-67), 3) := by decide +kernel
theorem dX7_likely_142 : decode cX7_likely 142 = .ok (.iload 5, 2) := by decide +kernel
theorem dX7_likely_144 : decode cX7_likely 144 = .ok (.aload_n 0, 1) := by decide +kernel
theorem dX7_likely_145 : decode cX7_likely 145 = .ok (.invokevirtual 125, 3) := by decide +kernel
theorem dX7_likely_148 : decode cX7_likely 148 = .ok (.iload_n 1, 1) := by decide +kernel
theorem dX7_likely_149 : decode cX7_likely 149 = .ok (.if_icmp .ne 8, 3) := by decide +kernel
theorem dX7_likely_152 : decode cX7_likely 152 = .ok (.iload 8, 2) := by decide +kernel
theorem dX7_likely_154 : decode cX7_likely 154 = .ok (.goto 4, 3) := by decide +kernel
theorem dX7_likely_157 : decode cX7_likely 157 = .ok (.iconst 0, 1) := by decide +kernel
theorem dX7_likely_158 : decode cX7_likely 158 = .ok (.iadd, 1) := by decide +kernel
theorem dX7_likely_159 : decode cX7_likely 159 = .ok (.istore 5, 2) := by decide +kernel
theorem dX7_likely_161 : decode cX7_likely 161 = .ok (.iinc 7 1, 3) := by decide +kernel
theorem dX7_likely_164 : decode cX7_likely 164 = .ok (.goto (-110), 3) := by decide +kernel
theorem dX7_likely_167 : decode cX7_likely 167 = .ok (.iconst 0, 1) := by decide +kernel
theorem dX7_likely_168 : decode cX7_likely 168 = .ok (.istore 7, 2) := by decide +kernel
theorem dX7_likely_170 : decode cX7_likely 170 = .ok (.iload 7, 2) := by decide +kernel
theorem dX7_likely_172 : decode cX7_likely 172 = .ok (.iload_n 2, 1) := by decide +kernel
theorem dX7_likely_173 : decode cX7_likely 173 = .ok (.if_icmp .ge 16, 3) := by decide +kernel
theorem dX7_likely_176 : decode cX7_likely 176 = .ok (.iload 6, 2) := by decide +kernel
theorem dX7_likely_178 : decode cX7_likely 178 = .ok (.bipush 10, 2) := by decide +kernel
theorem dX7_likely_180 : decode cX7_likely 180 = .ok (.imul, 1) := by decide +kernel
theorem dX7_likely_181 : decode cX7_likely 181 = .ok (.istore 6, 2) := by decide +kernel
theorem dX7_likely_183 : decode cX7_likely 183 = .ok (.iinc 7 1, 3) := by decide +kernel
theorem dX7_likely_186 : decode cX7_likely 186 = .ok (.goto (-16), 3) := by decide +kernel
theorem dX7_likely_189 : decode cX7_likely 189 = .ok (.iload 5, 2) := by decide +kernel
theorem dX7_likely_191 : decode cX7_likely 191 = .ok (.istore 7, 2) := by decide +kernel
theorem dX7_likely_193 : decode cX7_likely 193 = .ok (.iload 6, 2) := by decide +kernel
theorem dX7_likely_195 : decode cX7_likely 195 = .ok (.istore 8, 2) := by decide +kernel
theorem dX7_likely_197 : decode cX7_likely 197 = .ok (.iload 8, 2) := by decide +kernel
theorem dX7_likely_199 : decode cX7_likely 199 = .ok (.ifCond .eq 21, 3) := by decide +kernel
theorem dX7_likely_202 : decode cX7_likely 202 = .ok (.iload 7, 2) := by decide +kernel
theorem dX7_likely_204 : decode cX7_likely 204 = .ok (.iload 8, 2) := by decide +kernel
theorem dX7_likely_206 : decode cX7_likely 206 = .ok (.irem, 1) := by decide +kernel
theorem dX7_likely_207 : decode cX7_likely 207 = .ok (.istore 9, 2) := by decide +kernel
theorem dX7_likely_209 : decode cX7_likely 209 = .ok (.iload 8, 2) := by decide +kernel
theorem dX7_likely_211 : decode cX7_likely 211 = .ok (.istore 7, 2) := by decide +kernel
theorem dX7_likely_213 : decode cX7_likely 213 = .ok (.iload 9, 2) := by decide +kernel
theorem dX7_likely_215 : decode cX7_likely 215 = .ok (.istore 8, 2) := by decide +kernel
theorem dX7_likely_217 : decode cX7_likely 217 = .ok (.goto (-20), 3) := by decide +kernel
theorem dX7_likely_220 : decode cX7_likely 220 = .ok (.iload 4, 2) := by decide +kernel
theorem dX7_likely_222 : decode cX7_likely 222 = .ok (.ifCond .ne 11, 3) := by decide +kernel
theorem dX7_likely_225 : decode cX7_likely 225 = .ok (.iload 5, 2) := by decide +kernel
theorem dX7_likely_227 : decode cX7_likely 227 = .ok (.iload 7, 2) := by decide +kernel
theorem dX7_likely_229 : decode cX7_likely 229 = .ok (.idiv, 1) := by decide +kernel
theorem dX7_likely_230 : decode cX7_likely 230 = .ok (.goto 8, 3) := by decide +kernel
theorem dX7_likely_233 : decode cX7_likely 233 = .ok (.iload 6, 2) := by decide +kernel
theorem dX7_likely_235 : decode cX7_likely 235 = .ok (.iload 7, 2) := by decide +kernel
theorem dX7_likely_237 : decode cX7_likely 237 = .ok (.idiv, 1) := by decide +kernel
theorem dX7_likely_238 : decode cX7_likely 238 = .ok (.ireturn, 1) := by decide +kernel
theorem dX7_century_0 : decode cX7_century 0 = .ok (.iload_n 1, 1) := by decide +kernel
theorem dX7_century_1 : decode cX7_century 1 = .ok (.i2l, 1) := by decide +kernel
theorem dX7_century_2 : decode cX7_century 2 = .ok (.lconst 0, 1) := by decide +kernel
theorem dX7_century_3 : decode cX7_century 3 = .ok (.ldc2_w 179, 3) := by decide +kernel
theorem dX7_century_6 : decode cX7_century 6 = .ok (.invokestatic 58, 3) := by decide +kernel
theorem dX7_century_9 : decode cX7_century 9 = .ok (.ifCond .eq 25, 3) := by decide +kernel
theorem dX7_century_12 : decode cX7_century 12 = .ok (.iload_n 2, 1) := by decide +kernel
theorem dX7_century_13 : decode cX7_century 13 = .ok (.i2l, 1) := by decide +kernel
theorem dX7_century_14 : decode cX7_century 14 = .ok (.lconst 1, 1) := by decide +kernel
theorem dX7_century_15 : decode cX7_century 15 = .ok (.ldc2_w 181, 3) := by decide +kernel
theorem dX7_century_18 : decode cX7_century 18 = .ok (.invokestatic 58, 3) := by decide +kernel
theorem dX7_century_21 : decode cX7_century 21 = .ok (.ifCond .eq 13, 3) := by decide +kernel
theorem dX7_century_24 : decode cX7_century 24 = .ok (.iload_n 3, 1) := by decide +kernel
theorem dX7_century_25 : decode cX7_century 25 = .ok (.i2l, 1) := by decide +kernel
theorem dX7_century_26 : decode cX7_century 26 = .ok (.lconst 0, 1) := by decide +kernel
theorem dX7_century_27 : decode cX7_century 27 = .ok (.lconst 1, 1) := by decide +kernel
theorem dX7_century_28 : decode cX7_century 28 = .ok (.invokestatic 58, 3) := by decide +kernel
theorem dX7_century_31 : decode cX7_century 31 = .ok (.ifCond .ne 5, 3) := by decide +kernel
theorem dX7_century_34 : decode cX7_century 34 = .ok (.iconst (-1), 1) := by decide +kernel
theorem dX7_century_35 : decode cX7_century 35 = .ok (.ireturn, 1) := by decide +kernel
theorem dX7_century_36 : decode cX7_century 36 = .ok (.aload_n 0, 1) := by decide +kernel
theorem dX7_century_37 : decode cX7_century 37 = .ok (.invokevirtual 136, 3) := by decide +kernel
theorem dX7_century_40 : decode cX7_century 40 = .ok (.iconst 0, 1) := by decide +kernel
theorem dX7_century_41 : decode cX7_century 41 = .ok (.istore 4, 2) := by decide +kernel
theorem dX7_century_43 : decode cX7_century 43 = .ok (.aload_n 0, 1) := by decide +kernel
theorem dX7_century_44 : decode cX7_century 44 = .ok (.invokevirtual 125, 3) := by decide +kernel
theorem dX7_century_47 : decode cX7_century 47 = .ok (.istore 5, 2) := by decide +kernel
theorem dX7_century_49 : decode cX7_century 49 = .ok (.iconst 0, 1) := by decide +kernel
theorem dX7_century_50 : decode cX7_century 50 = .ok (.istore 6, 2) := by decide +kernel
theorem dX7_century_52 : decode cX7_century 52 = .ok (.iload 6, 2) := by decide +kernel
theorem dX7_century_54 : decode cX7_century 54 = .ok (.iload_n 2, 1) := by decide +kernel
theorem dX7_century_55 : decode cX7_century 55 = .ok (.if_icmp .ge 131, 3) := by decide +kernel
theorem dX7_century_58 : decode cX7_century 58 = .ok (.ldc2_w 183, 3) := by decide +kernel
theorem dX7_century_61 : decode cX7_century 61 = .ok (.iload_n 1, 1) := by decide +kernel
theorem dX7_century_62 : decode cX7_century 62 = .ok (.i2l, 1) := by decide +kernel
theorem dX7_century_63 : decode cX7_century 63 = .ok (.lmul, 1) := by decide +kernel
theorem dX7_century_64 : decode cX7_century 64 = .ok (.ldc2_w 185, 3) := by decide +kernel
theorem dX7_century_67 : decode cX7_century 67 = .ok (.iload 6, 2) := by decide +kernel
theorem dX7_century_69 : decode cX7_century 69 = .ok (.i2l, 1) := by decide +kernel
theorem dX7_century_70 : decode cX7_century 70 = .ok (.lmul, 1) := by decide +kernel
theorem dX7_century_71 : decode cX7_century 71 = .ok (.ladd, 1) := by decide +kernel
theorem dX7_century_72 : decode cX7_century 72 = .ok (.lconst 1, 1) := by decide +kernel
theorem dX7_century_73 : decode cX7_century 73 = .ok (.ladd, 1) := by decide +kernel
theorem dX7_century_74 : decode cX7_century 74 = .ok (.lstore 7, 2) := by decide +kernel
theorem dX7_century_76 : decode cX7_century 76 = .ok (.lload 7, 2) := by decide +kernel
theorem dX7_century_78 : decode cX7_century 78 = .ok (.lload 7, 2) := by decide +kernel
theorem dX7_century_80 : decode cX7_century 80 = .ok (.lmul, 1) := by decide +kernel
theorem dX7_century_81 : decode cX7_century 81 = .ok (.ldc2_w 187, 3) := by decide +kernel
theorem dX7_century_84 : decode cX7_century 84 = .ok (.lrem, 1) := by decide +kernel
theorem dX7_century_85 : decode cX7_century 85 = .ok (.l2i, 1) := by decide +kernel
theorem dX7_century_86 : decode cX7_century 86 = .ok (.iconst 2, 1) := by decide +kernel
theorem dX7_century_87 : decode cX7_century 87 = .ok (.idiv, 1) := by decide +kernel
theorem dX7_century_88 : decode cX7_century 88 = .ok (.istore 9, 2) := by decide +kernel
theorem dX7_century_90 : decode cX7_century 90 = .ok (.aload_n 0, 1) := by decide +kernel
theorem dX7_century_91 : decode cX7_century 91 = .ok (.iload 9, 2) := by decide +kernel
theorem dX7_century_93 : decode cX7_century 93 = .ok (.aload_n 0, 1) := by decide +kernel
theorem dX7_century_94 : decode cX7_century 94 = .ok (.getfield 13, 3) := by decide +kernel
theorem dX7_century_97 : decode cX7_century 97 = .ok (.iconst 0, 1) := by decide +kernel
theorem dX7_century_98 : decode cX7_century 98 = .ok (.iaload, 1) := by decide +kernel
theorem dX7_century_99 : decode cX7_century 99 = .ok (.irem, 1) := by decide +kernel
theorem dX7_century_100 : decode cX7_century 100 = .ok (.iload 9, 2) := by decide +kernel
theorem dX7_century_102 : decode cX7_century 102 = .ok (.bipush 16, 2) := by decide +kernel
theorem dX7_century_104 : decode cX7_century 104 = .ok (.idiv, 1) := by decide +kernel
theorem dX7_century_105 : decode cX7_century 105 = .ok (.iconst 2, 1) := by decide +kernel
theorem dX7_century_106 : decode cX7_century 106 = .ok (.irem, 1) := by decide +kernel
theorem dX7_century_107 : decode cX7_century 107 = .ok (.ifCond .ne 7, 3) := by decide +kernel
theorem dX7_century_110 : decode cX7_century 110 = .ok (.iconst 1, 1) := by decide +kernel
theorem dX7_century_111 : decode cX7_century 111 = .ok (.goto 4, 3) := by decide +kernel
theorem dX7_century_114 : decode cX7_century 114 = .ok (.iconst 0, 1) := by decide +kernel
theorem dX7_century_115 : decode cX7_century 115 = .ok (.invokevirtual 176, 3) := by decide +kernel
theorem dX7_century_118 : decode cX7_century 118 = .ok (.aload_n 0, 1) := by decide +kernel
theorem dX7_century_119 : decode cX7_century 119 = .ok (.iload 9, 2) := by decide +kernel
theorem dX7_century_121 : decode cX7_century 121 = .ok (.bipush 32, 2) := by decide +kernel
theorem dX7_century_123 : decode cX7_century 123 = .ok (.idiv, 1) := by decide +kernel
theorem dX7_century_124 : decode cX7_century 124 = .ok (.aload_n 0, 1) := by decide +kernel
theorem dX7_century_125 : decode cX7_century 125 = .ok (.getfield 13, 3) := by decide +kernel
theorem dX7_century_128 : decode cX7_century 128 = .ok (.iconst 0, 1) := by decide +kernel
theorem dX7_century_129 : decode cX7_century 129 = .ok (.iaload, 1) := by decide +kernel
theorem dX7_century_130 : decode cX7_century 130 = .ok (.irem, 1) := by decide +kernel
theorem dX7_century_131 : decode cX7_century 131 = .ok (.iload 9, 2) := by decide +kernel
theorem dX7_century_133 : decode cX7_century 133 = .ok (.sipush 512, 3) := by decide +kernel
theorem dX7_century_136 : decode cX7_century 136 = .ok (.idiv, 1) := by decide +kernel
theorem dX7_century_137 : decode cX7_century 137 = .ok (.iconst 3, 1) := by decide +kernel
theorem dX7_century_138 : decode cX7_century 138 = .ok (.irem, 1) := by decide +kernel
theorem dX7_century_139 : decode cX7_century 139 = .ok (.ifCond .ne 8, 3) := by decide +kernel
theorem dX7_century_142 : decode cX7_century 142 = .ok (.bipush (-2), 2) := by decide +kernel
theorem dX7_century_144 : decode cX7_century 144 = .ok (.goto 4, 3) := by decide +kernel
theorem dX7_century_147 : decode cX7_century 147 = .ok (.iconst 0, 1) := by decide +kernel
theorem dX7_century_148 : decode cX7_century 148 = .ok (.invokevirtual 176, 3) := by decide +kernel
theorem dX7_century_151 : decode cX7_century 151 = .ok (.aload_n 0, 1) := by decide +kernel
theorem dX7_century_152 : decode cX7_century 152 = .ok (.invokevirtual 128, 3) := by decide +kernel
theorem dX7_century_155 : decode cX7_century 155 = .ok (.iload 4, 2) := by decide +kernel
theorem dX7_century_157 : decode cX7_century 157 = .ok (.aload_n 0, 1) := by decide +kernel
theorem dX7_century_158 : decode cX7_century 158 = .ok (.invokevirtual 125, 3) := by decide +kernel
theorem dX7_century_161 : decode cX7_century 161 = .ok (.iload 5, 2) := by decide +kernel
theorem dX7_century_163 : decode cX7_century 163 = .ok (.if_icmp .ne 7, 3) := by decide +kernel
theorem dX7_century_166 : decode cX7_century 166 = .ok (.iconst 0, 1) := by decide +kernel
theorem dX7_century_167 : decode cX7_century 167 = .ok (.goto 4, 3) := by decide +kernel
theorem dX7_century_170 : decode cX7_century 170 = .ok (.iconst 1, 1) := by decide +kernel
theorem dX7_century_171 : decode cX7_century 171 = .ok (.iadd, 1) := by decide +kernel
theorem dX7_century_172 : decode cX7_century 172 = .ok (.istore 4, 2) := by decide +kernel
theorem dX7_century_174 : decode cX7_century 174 = .ok (.aload_n 0, 1) := by decide +kernel
theorem dX7_century_175 : decode cX7_century 175 = .ok (.invokevirtual 125, 3) := by decide +kernel
theorem dX7_century_178 : decode cX7_century 178 = .ok (.istore 5, 2) := by decide +kernel
theorem dX7_century_180 : decode cX7_century 180 = .ok (.iinc 6 1, 3) := by decide +kernel
theorem dX7_century_183 : decode cX7_century 183 = .ok (.goto (-131), 3) := by decide +kernel
theorem dX7_century_186 : decode cX7_century 186 = .ok (.iload_n 3, 1) := by decide +kernel
theorem dX7_century_187 : decode cX7_century 187 = .ok (.ifCond .ne 8, 3) := by decide +kernel
theorem dX7_century_190 : decode cX7_century 190 = .ok (.iload 5, 2) := by decide +kernel
theorem dX7_century_192 : decode cX7_century 192 = .ok (.goto 5, 3) := by decide +kernel
theorem dX7_century_195 : decode cX7_century 195 = .ok (.iload 4, 2) := by decide +kernel
theorem dX7_century_197 : decode cX7_century 197 = .ok (.ireturn, 1) := by decide +kernel
theorem dX7_keep_0 : decode cX7_keep 0 = .ok (.aload_n 0, 1) := by decide +kernel
theorem dX7_keep_1 : decode cX7_keep 1 = .ok (.getfield 104, 3) := by decide +kernel
theorem dX7_keep_4 : decode cX7_keep 4 = .ok (.iconst 2, 1) := by decide +kernel
theorem dX7_keep_5 : decode cX7_keep 5 = .ok (.if_icmp .ne 6, 3) := by decide +kernel
theorem dX7_keep_8 : decode cX7_keep 8 = .ok (.bipush (-3), 2) := by decide +kernel
theorem dX7_keep_10 : decode cX7_keep 10 = .ok (.ireturn, 1) := by decide +kernel
theorem dX7_keep_11 : decode cX7_keep 11 = .ok (.iconst 0, 1) := by decide +kernel
theorem dX7_keep_12 : decode cX7_keep 12 = .ok (.istore_n 1, 1) := by decide +kernel
theorem dX7_keep_13 : decode cX7_keep 13 = .ok (.iload_n 1, 1) := by decide +kernel
theorem dX7_keep_14 : decode cX7_keep 14 = .ok (.bipush 32, 2) := by decide +kernel
theorem dX7_keep_16 : decode cX7_keep 16 = .ok (.if_icmp .ge 29, 3) := by decide +kernel
theorem dX7_keep_19 : decode cX7_keep 19 = .ok (.aload_n 0, 1) := by decide +kernel
theorem dX7_keep_20 : decode cX7_keep 20 = .ok (.getfield 31, 3) := by decide +kernel
theorem dX7_keep_23 : decode cX7_keep 23 = .ok (.bipush 32, 2) := by decide +kernel
theorem dX7_keep_25 : decode cX7_keep 25 = .ok (.aload_n 0, 1) := by decide +kernel
theorem dX7_keep_26 : decode cX7_keep 26 = .ok (.getfield 104, 3) := by decide +kernel
theorem dX7_keep_29 : decode cX7_keep 29 = .ok (.imul, 1) := by decide +kernel
theorem dX7_keep_30 : decode cX7_keep 30 = .ok (.iload_n 1, 1) := by decide +kernel
theorem dX7_keep_31 : decode cX7_keep 31 = .ok (.iadd, 1) := by decide +kernel
theorem dX7_keep_32 : decode cX7_keep 32 = .ok (.aload_n 0, 1) := by decide +kernel
theorem dX7_keep_33 : decode cX7_keep 33 = .ok (.getfield 19, 3) := by decide +kernel
theorem dX7_keep_36 : decode cX7_keep 36 = .ok (.iload_n 1, 1) := by decide +kernel
theorem dX7_keep_37 : decode cX7_keep 37 = .ok (.iaload, 1) := by decide +kernel
theorem dX7_keep_38 : decode cX7_keep 38 = .ok (.iastore, 1) := by decide +kernel
theorem dX7_keep_39 : decode cX7_keep 39 = .ok (.iinc 1 1, 3) := by decide +kernel
theorem dX7_keep_42 : decode cX7_keep 42 = .ok (.goto (-29), 3) := by decide +kernel
theorem dX7_keep_45 : decode cX7_keep 45 = .ok (.aload_n 0, 1) := by decide +kernel
theorem dX7_keep_46 : decode cX7_keep 46 = .ok (.dup, 1) := by decide +kernel
theorem dX7_keep_47 : decode cX7_keep 47 = .ok (.getfield 104, 3) := by decide +kernel
theorem dX7_keep_50 : decode cX7_keep 50 = .ok (.iconst 1, 1) := by decide +kernel
theorem dX7_keep_51 : decode cX7_keep 51 = .ok (.iadd, 1) := by decide +kernel
theorem dX7_keep_52 : decode cX7_keep 52 = .ok (.putfield 104, 3) := by decide +kernel
theorem dX7_keep_55 : decode cX7_keep 55 = .ok (.aload_n 0, 1) := by decide +kernel
theorem dX7_keep_56 : decode cX7_keep 56 = .ok (.getfield 104, 3) := by decide +kernel
theorem dX7_keep_59 : decode cX7_keep 59 = .ok (.ireturn, 1) := by decide +kernel
theorem dX7_back_0 : decode cX7_back 0 = .ok (.aload_n 0, 1) := by decide +kernel
theorem dX7_back_1 : decode cX7_back 1 = .ok (.getfield 104, 3) := by decide +kernel
theorem dX7_back_4 : decode cX7_back 4 = .ok (.ifCond .ne 6, 3) := by decide +kernel
theorem dX7_back_7 : decode cX7_back 7 = .ok (.bipush (-2), 2) := by decide +kernel
theorem dX7_back_9 : decode cX7_back 9 = .ok (.ireturn, 1) := by decide +kernel
theorem dX7_back_10 : decode cX7_back 10 = .ok (.aload_n 0, 1) := by decide +kernel
theorem dX7_back_11 : decode cX7_back 11 = .ok (.dup, 1) := by decide +kernel
theorem dX7_back_12 : decode cX7_back 12 = .ok (.getfield 104, 3) := by decide +kernel
theorem dX7_back_15 : decode cX7_back 15 = .ok (.iconst 1, 1) := by decide +kernel
theorem dX7_back_16 : decode cX7_back 16 = .ok (.isub, 1) := by decide +kernel
theorem dX7_back_17 : decode cX7_back 17 = .ok (.putfield 104, 3) := by decide +kernel
theorem dX7_back_20 : decode cX7_back 20 = .ok (.iconst 0, 1) := by decide +kernel
theorem dX7_back_21 : decode cX7_back 21 = .ok (.istore_n 1, 1) := by decide +kernel
theorem dX7_back_22 : decode cX7_back 22 = .ok (.iload_n 1, 1) := by decide +kernel
theorem dX7_back_23 : decode cX7_back 23 = .ok (.bipush 32, 2) := by decide +kernel
theorem dX7_back_25 : decode cX7_back 25 = .ok (.if_icmp .ge 29, 3) := by decide +kernel
theorem dX7_back_28 : decode cX7_back 28 = .ok (.aload_n 0, 1) := by decide +kernel
theorem dX7_back_29 : decode cX7_back 29 = .ok (.getfield 19, 3) := by decide +kernel
theorem dX7_back_32 : decode cX7_back 32 = .ok (.iload_n 1, 1) := by decide +kernel
theorem dX7_back_33 : decode cX7_back 33 = .ok (.aload_n 0, 1) := by decide +kernel
theorem dX7_back_34 : decode cX7_back 34 = .ok (.getfield 31, 3) := by decide +kernel
theorem dX7_back_37 : decode cX7_back 37 = .ok (.bipush 32, 2) := by decide +kernel
theorem dX7_back_39 : decode cX7_back 39 = .ok (.aload_n 0, 1) := by decide +kernel
theorem dX7_back_40 : decode cX7_back 40 = .ok (.getfield 104, 3) := by decide +kernel
theorem dX7_back_43 : decode cX7_back 43 = .ok (.imul, 1) := by decide +kernel
theorem dX7_back_44 : decode cX7_back 44 = .ok (.iload_n 1, 1) := by decide +kernel
theorem dX7_back_45 : decode cX7_back 45 = .ok (.iadd, 1) := by decide +kernel
theorem dX7_back_46 : decode cX7_back 46 = .ok (.iaload, 1) := by decide +kernel
theorem dX7_back_47 : decode cX7_back 47 = .ok (.iastore, 1) := by decide +kernel
theorem dX7_back_48 : decode cX7_back 48 = .ok (.iinc 1 1, 3) := by decide +kernel
theorem dX7_back_51 : decode cX7_back 51 = .ok (.goto (-29), 3) := by decide +kernel
theorem dX7_back_54 : decode cX7_back 54 = .ok (.aload_n 0, 1) := by decide +kernel
theorem dX7_back_55 : decode cX7_back 55 = .ok (.iconst 0, 1) := by decide +kernel
theorem dX7_back_56 : decode cX7_back 56 = .ok (.putfield 101, 3) := by decide +kernel
theorem dX7_back_59 : decode cX7_back 59 = .ok (.aload_n 0, 1) := by decide +kernel
theorem dX7_back_60 : decode cX7_back 60 = .ok (.getfield 104, 3) := by decide +kernel
theorem dX7_back_63 : decode cX7_back 63 = .ok (.ireturn, 1) := by decide +kernel
theorem dX7_waxInAll_0 : decode cX7_waxInAll 0 = .ok (.iconst 0, 1) := by decide +kernel
theorem dX7_waxInAll_1 : decode cX7_waxInAll 1 = .ok (.istore_n 1, 1) := by decide +kernel
theorem dX7_waxInAll_2 : decode cX7_waxInAll 2 = .ok (.iconst 0, 1) := by decide +kernel
theorem dX7_waxInAll_3 : decode cX7_waxInAll 3 = .ok (.istore_n 2, 1) := by decide +kernel
theorem dX7_waxInAll_4 : decode cX7_waxInAll 4 = .ok (.iload_n 2, 1) := by decide +kernel
theorem dX7_waxInAll_5 : decode cX7_waxInAll 5 = .ok (.bipush 16, 2) := by decide +kernel
theorem dX7_waxInAll_7 : decode cX7_waxInAll 7 = .ok (.if_icmp .ge 20, 3) := by decide +kernel
theorem dX7_waxInAll_10 : decode cX7_waxInAll 10 = .ok (.iload_n 1, 1) := by decide +kernel
theorem dX7_waxInAll_11 : decode cX7_waxInAll 11 = .ok (.aload_n 0, 1) := by decide +kernel
theorem dX7_waxInAll_12 : decode cX7_waxInAll 12 = .ok (.getfield 19, 3) := by decide +kernel
theorem dX7_waxInAll_15 : decode cX7_waxInAll 15 = .ok (.iconst 2, 1) := by decide +kernel
theorem dX7_waxInAll_16 : decode cX7_waxInAll 16 = .ok (.iload_n 2, 1) := by decide +kernel
theorem dX7_waxInAll_17 : decode cX7_waxInAll 17 = .ok (.iadd, 1) := by decide +kernel
theorem dX7_waxInAll_18 : decode cX7_waxInAll 18 = .ok (.iaload, 1) := by decide +kernel
theorem dX7_waxInAll_19 : decode cX7_waxInAll 19 = .ok (.iadd, 1) := by decide +kernel
theorem dX7_waxInAll_20 : decode cX7_waxInAll 20 = .ok (.istore_n 1, 1) := by decide +kernel
theorem dX7_waxInAll_21 : decode cX7_waxInAll 21 = .ok (.iinc 2 1, 3) := by decide +kernel
theorem dX7_waxInAll_24 : decode cX7_waxInAll 24 = .ok (.goto (-20), 3) := by decide +kernel
theorem dX7_waxInAll_27 : decode cX7_waxInAll 27 = .ok (.iload_n 1, 1) := by decide +kernel
theorem dX7_waxInAll_28 : decode cX7_waxInAll 28 = .ok (.ireturn, 1) := by decide +kernel
theorem dX7_count_0 : decode cX7_count 0 = .ok (.iload_n 1, 1) := by decide +kernel
theorem dX7_count_1 : decode cX7_count 1 = .ok (.tableswitch 104 0 8 #[51, 58, 65, 72, 79, 84, 89, 94, 99], 51) := by decide +kernel
theorem dX7_count_52 : decode cX7_count 52 = .ok (.aload_n 0, 1) := by decide +kernel
theorem dX7_count_53 : decode cX7_count 53 = .ok (.getfield 13, 3) := by decide +kernel
theorem dX7_count_56 : decode cX7_count 56 = .ok (.iconst 3, 1) := by decide +kernel
theorem dX7_count_57 : decode cX7_count 57 = .ok (.iaload, 1) := by decide +kernel
theorem dX7_count_58 : decode cX7_count 58 = .ok (.ireturn, 1) := by decide +kernel
theorem dX7_count_59 : decode cX7_count 59 = .ok (.aload_n 0, 1) := by decide +kernel
theorem dX7_count_60 : decode cX7_count 60 = .ok (.getfield 13, 3) := by decide +kernel
theorem dX7_count_63 : decode cX7_count 63 = .ok (.iconst 0, 1) := by decide +kernel
theorem dX7_count_64 : decode cX7_count 64 = .ok (.iaload, 1) := by decide +kernel
theorem dX7_count_65 : decode cX7_count 65 = .ok (.ireturn, 1) := by decide +kernel
theorem dX7_count_66 : decode cX7_count 66 = .ok (.aload_n 0, 1) := by decide +kernel
theorem dX7_count_67 : decode cX7_count 67 = .ok (.getfield 19, 3) := by decide +kernel
theorem dX7_count_70 : decode cX7_count 70 = .ok (.iconst 0, 1) := by decide +kernel
theorem dX7_count_71 : decode cX7_count 71 = .ok (.iaload, 1) := by decide +kernel
theorem dX7_count_72 : decode cX7_count 72 = .ok (.ireturn, 1) := by decide +kernel
theorem dX7_count_73 : decode cX7_count 73 = .ok (.aload_n 0, 1) := by decide +kernel
theorem dX7_count_74 : decode cX7_count 74 = .ok (.getfield 19, 3) := by decide +kernel
theorem dX7_count_77 : decode cX7_count 77 = .ok (.iconst 1, 1) := by decide +kernel
theorem dX7_count_78 : decode cX7_count 78 = .ok (.iaload, 1) := by decide +kernel
theorem dX7_count_79 : decode cX7_count 79 = .ok (.ireturn, 1) := by decide +kernel
theorem dX7_count_80 : decode cX7_count 80 = .ok (.aload_n 0, 1) := by decide +kernel
theorem dX7_count_81 : decode cX7_count 81 = .ok (.invokevirtual 189, 3) := by decide +kernel
theorem dX7_count_84 : decode cX7_count 84 = .ok (.ireturn, 1) := by decide +kernel
theorem dX7_count_85 : decode cX7_count 85 = .ok (.aload_n 0, 1) := by decide +kernel
theorem dX7_count_86 : decode cX7_count 86 = .ok (.getfield 98, 3) := by decide +kernel
theorem dX7_count_89 : decode cX7_count 89 = .ok (.ireturn, 1) := by decide +kernel
theorem dX7_count_90 : decode cX7_count 90 = .ok (.aload_n 0, 1) := by decide +kernel
theorem dX7_count_91 : decode cX7_count 91 = .ok (.getfield 101, 3) := by decide +kernel
theorem dX7_count_94 : decode cX7_count 94 = .ok (.ireturn, 1) := by decide +kernel
theorem dX7_count_95 : decode cX7_count 95 = .ok (.aload_n 0, 1) := by decide +kernel
theorem dX7_count_96 : decode cX7_count 96 = .ok (.getfield 104, 3) := by decide +kernel
theorem dX7_count_99 : decode cX7_count 99 = .ok (.ireturn, 1) := by decide +kernel
theorem dX7_count_100 : decode cX7_count 100 = .ok (.aload_n 0, 1) := by decide +kernel
theorem dX7_count_101 : decode cX7_count 101 = .ok (.getfield 62, 3) := by decide +kernel
theorem dX7_count_104 : decode cX7_count 104 = .ok (.ireturn, 1) := by decide +kernel
theorem dX7_count_105 : decode cX7_count 105 = .ok (.iconst (-1), 1) := by decide +kernel
theorem dX7_count_106 : decode cX7_count 106 = .ok (.ireturn, 1) := by decide +kernel
end
section
theorem dL_law_0 : decode cL_law 0 = .ok (.new 7, 3) := by decide +kernel
theorem dL_law_3 : decode cL_law 3 = .ok (.dup, 1) := by decide +kernel
theorem dL_law_4 : decode cL_law 4 = .ok (.invokespecial 9, 3) := by decide +kernel
theorem dL_law_7 : decode cL_law 7 = .ok (.astore_n 1, 1) := by decide +kernel
theorem dL_law_8 : decode cL_law 8 = .ok (.new 10, 3) := by decide +kernel
theorem dL_law_11 : decode cL_law 11 = .ok (.dup, 1) := by decide +kernel
theorem dL_law_12 : decode cL_law 12 = .ok (.invokespecial 12, 3) := by decide +kernel
theorem dL_law_15 : decode cL_law 15 = .ok (.astore_n 2, 1) := by decide +kernel
theorem dL_law_16 : decode cL_law 16 = .ok (.iconst 0, 1) := by decide +kernel
theorem dL_law_17 : decode cL_law 17 = .ok (.istore_n 3, 1) := by decide +kernel
theorem dL_law_18 : decode cL_law 18 = .ok (.iload_n 3, 1) := by decide +kernel
theorem dL_law_19 : decode cL_law 19 = .ok (.aload_n 0, 1) := by decide +kernel
theorem dL_law_20 : decode cL_law 20 = .ok (.arraylength, 1) := by decide +kernel
theorem dL_law_21 : decode cL_law 21 = .ok (.iconst 5, 1) := by decide +kernel
theorem dL_law_22 : decode cL_law 22 = .ok (.isub, 1) := by decide +kernel
theorem dL_law_23 : decode cL_law 23 = .ok (.if_icmp .gt 837, 3) := by decide +kernel
theorem dL_law_26 : decode cL_law 26 = .ok (.aload_n 0, 1) := by decide +kernel
theorem dL_law_27 : decode cL_law 27 = .ok (.iload_n 3, 1) := by decide +kernel
theorem dL_law_28 : decode cL_law 28 = .ok (.iaload, 1) := by decide +kernel
theorem dL_law_29 : decode cL_law 29 = .ok (.bipush 31, 2) := by decide +kernel
theorem dL_law_31 : decode cL_law 31 = .ok (.iand, 1) := by decide +kernel
theorem dL_law_32 : decode cL_law 32 = .ok (.tableswitch 822 0 27 #[128, 151, 164, 177, 190, 223, 256, 279, 302, 325, 348, 361, 374, 417, 440, 463, 486, 529, 562, 585, 618, 631, 654, 677, 730, 773, 786, 799], 128) := by decide +kernel
theorem dL_law_160 : decode cL_law 160 = .ok (.aload_n 1, 1) := by decide +kernel
theorem dL_law_161 : decode cL_law 161 = .ok (.aload_n 0, 1) := by decide +kernel
theorem dL_law_162 : decode cL_law 162 = .ok (.iload_n 3, 1) := by decide +kernel
theorem dL_law_163 : decode cL_law 163 = .ok (.iconst 1, 1) := by decide +kernel
theorem dL_law_164 : decode cL_law 164 = .ok (.iadd, 1) := by decide +kernel
theorem dL_law_165 : decode cL_law 165 = .ok (.iaload, 1) := by decide +kernel
theorem dL_law_166 : decode cL_law 166 = .ok (.invokevirtual 13, 3) := by decide +kernel
theorem dL_law_169 : decode cL_law 169 = .ok (.aload_n 2, 1) := by decide +kernel
theorem dL_law_170 : decode cL_law 170 = .ok (.aload_n 0, 1) := by decide +kernel
theorem dL_law_171 : decode cL_law 171 = .ok (.iload_n 3, 1) := by decide +kernel
theorem dL_law_172 : decode cL_law 172 = .ok (.iconst 1, 1) := by decide +kernel
theorem dL_law_173 : decode cL_law 173 = .ok (.iadd, 1) := by decide +kernel
theorem dL_law_174 : decode cL_law 174 = .ok (.iaload, 1) := by decide +kernel
theorem dL_law_175 : decode cL_law 175 = .ok (.invokevirtual 17, 3) := by decide +kernel
theorem dL_law_178 : decode cL_law 178 = .ok (.if_icmp .eq 676, 3) := by decide +kernel
theorem dL_law_181 : decode cL_law 181 = .ok (.iconst 0, 1) := by decide +kernel
theorem dL_law_182 : decode cL_law 182 = .ok (.ireturn, 1) := by decide +kernel
theorem dL_law_183 : decode cL_law 183 = .ok (.aload_n 1, 1) := by decide +kernel
theorem dL_law_184 : decode cL_law 184 = .ok (.invokevirtual 18, 3) := by decide +kernel
theorem dL_law_187 : decode cL_law 187 = .ok (.aload_n 2, 1) := by decide +kernel
theorem dL_law_188 : decode cL_law 188 = .ok (.invokevirtual 22, 3) := by decide +kernel
theorem dL_law_191 : decode cL_law 191 = .ok (.if_icmp .eq 663, 3) := by decide +kernel
theorem dL_law_194 : decode cL_law 194 = .ok (.iconst 0, 1) := by decide +kernel
theorem dL_law_195 : decode cL_law 195 = .ok (.ireturn, 1) := by decide +kernel
theorem dL_law_196 : decode cL_law 196 = .ok (.aload_n 1, 1) := by decide +kernel
theorem dL_law_197 : decode cL_law 197 = .ok (.invokevirtual 23, 3) := by decide +kernel
theorem dL_law_200 : decode cL_law 200 = .ok (.aload_n 2, 1) := by decide +kernel
theorem dL_law_201 : decode cL_law 201 = .ok (.invokevirtual 26, 3) := by decide +kernel
theorem dL_law_204 : decode cL_law 204 = .ok (.if_icmp .eq 650, 3) := by decide +kernel
theorem dL_law_207 : decode cL_law 207 = .ok (.iconst 0, 1) := by decide +kernel
theorem dL_law_208 : decode cL_law 208 = .ok (.ireturn, 1) := by decide +kernel
theorem dL_law_209 : decode cL_law 209 = .ok (.aload_n 1, 1) := by decide +kernel
theorem dL_law_210 : decode cL_law 210 = .ok (.invokevirtual 27, 3) := by decide +kernel
theorem dL_law_213 : decode cL_law 213 = .ok (.aload_n 2, 1) := by decide +kernel
theorem dL_law_214 : decode cL_law 214 = .ok (.invokevirtual 30, 3) := by decide +kernel
theorem dL_law_217 : decode cL_law 217 = .ok (.if_icmp .eq 637, 3) := by decide +kernel
theorem dL_law_220 : decode cL_law 220 = .ok (.iconst 0, 1) := by decide +kernel
theorem dL_law_221 : decode cL_law 221 = .ok (.ireturn, 1) := by decide +kernel
theorem dL_law_222 : decode cL_law 222 = .ok (.aload_n 1, 1) := by decide +kernel
theorem dL_law_223 : decode cL_law 223 = .ok (.aload_n 0, 1) := by decide +kernel
theorem dL_law_224 : decode cL_law 224 = .ok (.iload_n 3, 1) := by decide +kernel
theorem dL_law_225 : decode cL_law 225 = .ok (.iconst 1, 1) := by decide +kernel
theorem dL_law_226 : decode cL_law 226 = .ok (.iadd, 1) := by decide +kernel
theorem dL_law_227 : decode cL_law 227 = .ok (.iaload, 1) := by decide +kernel
theorem dL_law_228 : decode cL_law 228 = .ok (.aload_n 0, 1) := by decide +kernel
theorem dL_law_229 : decode cL_law 229 = .ok (.iload_n 3, 1) := by decide +kernel
theorem dL_law_230 : decode cL_law 230 = .ok (.iconst 2, 1) := by decide +kernel
theorem dL_law_231 : decode cL_law 231 = .ok (.iadd, 1) := by decide +kernel
theorem dL_law_232 : decode cL_law 232 = .ok (.iaload, 1) := by decide +kernel
theorem dL_law_233 : decode cL_law 233 = .ok (.invokevirtual 31, 3) := by decide +kernel
theorem dL_law_236 : decode cL_law 236 = .ok (.aload_n 2, 1) := by decide +kernel
theorem dL_law_237 : decode cL_law 237 = .ok (.aload_n 0, 1) := by decide +kernel
theorem dL_law_238 : decode cL_law 238 = .ok (.iload_n 3, 1) := by decide +kernel
theorem dL_law_239 : decode cL_law 239 = .ok (.iconst 1, 1) := by decide +kernel
theorem dL_law_240 : decode cL_law 240 = .ok (.iadd, 1) := by decide +kernel
theorem dL_law_241 : decode cL_law 241 = .ok (.iaload, 1) := by decide +kernel
theorem dL_law_242 : decode cL_law 242 = .ok (.aload_n 0, 1) := by decide +kernel
theorem dL_law_243 : decode cL_law 243 = .ok (.iload_n 3, 1) := by decide +kernel
theorem dL_law_244 : decode cL_law 244 = .ok (.iconst 2, 1) := by decide +kernel
theorem dL_law_245 : decode cL_law 245 = .ok (.iadd, 1) := by decide +kernel
theorem dL_law_246 : decode cL_law 246 = .ok (.iaload, 1) := by decide +kernel
theorem dL_law_247 : decode cL_law 247 = .ok (.invokevirtual 35, 3) := by decide +kernel
theorem dL_law_250 : decode cL_law 250 = .ok (.if_icmp .eq 604, 3) := by decide +kernel
theorem dL_law_253 : decode cL_law 253 = .ok (.iconst 0, 1) := by decide +kernel
theorem dL_law_254 : decode cL_law 254 = .ok (.ireturn, 1) := by decide +kernel
theorem dL_law_255 : decode cL_law 255 = .ok (.aload_n 1, 1) := by decide +kernel
theorem dL_law_256 : decode cL_law 256 = .ok (.aload_n 0, 1) := by decide +kernel
theorem dL_law_257 : decode cL_law 257 = .ok (.iload_n 3, 1) := by decide +kernel
theorem dL_law_258 : decode cL_law 258 = .ok (.iconst 1, 1) := by decide +kernel
theorem dL_law_259 : decode cL_law 259 = .ok (.iadd, 1) := by decide +kernel
theorem dL_law_260 : decode cL_law 260 = .ok (.iaload, 1) := by decide +kernel
theorem dL_law_261 : decode cL_law 261 = .ok (.aload_n 0, 1) := by decide +kernel
theorem dL_law_262 : decode cL_law 262 = .ok (.iload_n 3, 1) := by decide +kernel
theorem dL_law_263 : decode cL_law 263 = .ok (.iconst 2, 1) := by decide +kernel
theorem dL_law_264 : decode cL_law 264 = .ok (.iadd, 1) := by decide +kernel
theorem dL_law_265 : decode cL_law 265 = .ok (.iaload, 1) := by decide +kernel
theorem dL_law_266 : decode cL_law 266 = .ok (.invokevirtual 36, 3) := by decide +kernel
theorem dL_law_269 : decode cL_law 269 = .ok (.aload_n 2, 1) := by decide +kernel
theorem dL_law_270 : decode cL_law 270 = .ok (.aload_n 0, 1) := by decide +kernel
theorem dL_law_271 : decode cL_law 271 = .ok (.iload_n 3, 1) := by decide +kernel
theorem dL_law_272 : decode cL_law 272 = .ok (.iconst 1, 1) := by decide +kernel
theorem dL_law_273 : decode cL_law 273 = .ok (.iadd, 1) := by decide +kernel
theorem dL_law_274 : decode cL_law 274 = .ok (.iaload, 1) := by decide +kernel
theorem dL_law_275 : decode cL_law 275 = .ok (.aload_n 0, 1) := by decide +kernel
theorem dL_law_276 : decode cL_law 276 = .ok (.iload_n 3, 1) := by decide +kernel
theorem dL_law_277 : decode cL_law 277 = .ok (.iconst 2, 1) := by decide +kernel
theorem dL_law_278 : decode cL_law 278 = .ok (.iadd, 1) := by decide +kernel
theorem dL_law_279 : decode cL_law 279 = .ok (.iaload, 1) := by decide +kernel
theorem dL_law_280 : decode cL_law 280 = .ok (.invokevirtual 39, 3) := by decide +kernel
theorem dL_law_283 : decode cL_law 283 = .ok (.if_icmp .eq 571, 3) := by decide +kernel
theorem dL_law_286 : decode cL_law 286 = .ok (.iconst 0, 1) := by decide +kernel
theorem dL_law_287 : decode cL_law 287 = .ok (.ireturn, 1) := by decide +kernel
theorem dL_law_288 : decode cL_law 288 = .ok (.aload_n 1, 1) := by decide +kernel
theorem dL_law_289 : decode cL_law 289 = .ok (.aload_n 0, 1) := by decide +kernel
theorem dL_law_290 : decode cL_law 290 = .ok (.iload_n 3, 1) := by decide +kernel
theorem dL_law_291 : decode cL_law 291 = .ok (.iconst 1, 1) := by decide +kernel
theorem dL_law_292 : decode cL_law 292 = .ok (.iadd, 1) := by decide +kernel
theorem dL_law_293 : decode cL_law 293 = .ok (.iaload, 1) := by decide +kernel
theorem dL_law_294 : decode cL_law 294 = .ok (.invokevirtual 40, 3) := by decide +kernel
theorem dL_law_297 : decode cL_law 297 = .ok (.aload_n 2, 1) := by decide +kernel
theorem dL_law_298 : decode cL_law 298 = .ok (.aload_n 0, 1) := by decide +kernel
theorem dL_law_299 : decode cL_law 299 = .ok (.iload_n 3, 1) := by decide +kernel
theorem dL_law_300 : decode cL_law 300 = .ok (.iconst 1, 1) := by decide +kernel
theorem dL_law_301 : decode cL_law 301 = .ok (.iadd, 1) := by decide +kernel
theorem dL_law_302 : decode cL_law 302 = .ok (.iaload, 1) := by decide +kernel
theorem dL_law_303 : decode cL_law 303 = .ok (.invokevirtual 43, 3) := by decide +kernel
theorem dL_law_306 : decode cL_law 306 = .ok (.if_icmp .eq 548, 3) := by decide +kernel
theorem dL_law_309 : decode cL_law 309 = .ok (.iconst 0, 1) := by decide +kernel
theorem dL_law_310 : decode cL_law 310 = .ok (.ireturn, 1) := by decide +kernel
theorem dL_law_311 : decode cL_law 311 = .ok (.aload_n 1, 1) := by decide +kernel
theorem dL_law_312 : decode cL_law 312 = .ok (.aload_n 0, 1) := by decide +kernel
theorem dL_law_313 : decode cL_law 313 = .ok (.iload_n 3, 1) := by decide +kernel
theorem dL_law_314 : decode cL_law 314 = .ok (.iconst 1, 1) := by decide +kernel
theorem dL_law_315 : decode cL_law 315 = .ok (.iadd, 1) := by decide +kernel
theorem dL_law_316 : decode cL_law 316 = .ok (.iaload, 1) := by decide +kernel
theorem dL_law_317 : decode cL_law 317 = .ok (.invokevirtual 44, 3) := by decide +kernel
theorem dL_law_320 : decode cL_law 320 = .ok (.aload_n 2, 1) := by decide +kernel
theorem dL_law_321 : decode cL_law 321 = .ok (.aload_n 0, 1) := by decide +kernel
theorem dL_law_322 : decode cL_law 322 = .ok (.iload_n 3, 1) := by decide +kernel
theorem dL_law_323 : decode cL_law 323 = .ok (.iconst 1, 1) := by decide +kernel
theorem dL_law_324 : decode cL_law 324 = .ok (.iadd, 1) := by decide +kernel
theorem dL_law_325 : decode cL_law 325 = .ok (.iaload, 1) := by decide +kernel
theorem dL_law_326 : decode cL_law 326 = .ok (.invokevirtual 47, 3) := by decide +kernel
theorem dL_law_329 : decode cL_law 329 = .ok (.if_icmp .eq 525, 3) := by decide +kernel
theorem dL_law_332 : decode cL_law 332 = .ok (.iconst 0, 1) := by decide +kernel
theorem dL_law_333 : decode cL_law 333 = .ok (.ireturn, 1) := by decide +kernel
theorem dL_law_334 : decode cL_law 334 = .ok (.aload_n 1, 1) := by decide +kernel
theorem dL_law_335 : decode cL_law 335 = .ok (.aload_n 0, 1) := by decide +kernel
theorem dL_law_336 : decode cL_law 336 = .ok (.iload_n 3, 1) := by decide +kernel
theorem dL_law_337 : decode cL_law 337 = .ok (.iconst 1, 1) := by decide +kernel
theorem dL_law_338 : decode cL_law 338 = .ok (.iadd, 1) := by decide +kernel
theorem dL_law_339 : decode cL_law 339 = .ok (.iaload, 1) := by decide +kernel
theorem dL_law_340 : decode cL_law 340 = .ok (.invokevirtual 48, 3) := by decide +kernel
theorem dL_law_343 : decode cL_law 343 = .ok (.aload_n 2, 1) := by decide +kernel
theorem dL_law_344 : decode cL_law 344 = .ok (.aload_n 0, 1) := by decide +kernel
theorem dL_law_345 : decode cL_law 345 = .ok (.iload_n 3, 1) := by decide +kernel
theorem dL_law_346 : decode cL_law 346 = .ok (.iconst 1, 1) := by decide +kernel
theorem dL_law_347 : decode cL_law 347 = .ok (.iadd, 1) := by decide +kernel
theorem dL_law_348 : decode cL_law 348 = .ok (.iaload, 1) := by decide +kernel
theorem dL_law_349 : decode cL_law 349 = .ok (.invokevirtual 51, 3) := by decide +kernel
theorem dL_law_352 : decode cL_law 352 = .ok (.if_icmp .eq 502, 3) := by decide +kernel
theorem dL_law_355 : decode cL_law 355 = .ok (.iconst 0, 1) := by decide +kernel
theorem dL_law_356 : decode cL_law 356 = .ok (.ireturn, 1) := by decide +kernel
theorem dL_law_357 : decode cL_law 357 = .ok (.aload_n 1, 1) := by decide +kernel
theorem dL_law_358 : decode cL_law 358 = .ok (.aload_n 0, 1) := by decide +kernel
theorem dL_law_359 : decode cL_law 359 = .ok (.iload_n 3, 1) := by decide +kernel
theorem dL_law_360 : decode cL_law 360 = .ok (.iconst 1, 1) := by decide +kernel
theorem dL_law_361 : decode cL_law 361 = .ok (.iadd, 1) := by decide +kernel
theorem dL_law_362 : decode cL_law 362 = .ok (.iaload, 1) := by decide +kernel
theorem dL_law_363 : decode cL_law 363 = .ok (.invokevirtual 52, 3) := by decide +kernel
theorem dL_law_366 : decode cL_law 366 = .ok (.aload_n 2, 1) := by decide +kernel
theorem dL_law_367 : decode cL_law 367 = .ok (.aload_n 0, 1) := by decide +kernel
theorem dL_law_368 : decode cL_law 368 = .ok (.iload_n 3, 1) := by decide +kernel
theorem dL_law_369 : decode cL_law 369 = .ok (.iconst 1, 1) := by decide +kernel
theorem dL_law_370 : decode cL_law 370 = .ok (.iadd, 1) := by decide +kernel
theorem dL_law_371 : decode cL_law 371 = .ok (.iaload, 1) := by decide +kernel
theorem dL_law_372 : decode cL_law 372 = .ok (.invokevirtual 55, 3) := by decide +kernel
theorem dL_law_375 : decode cL_law 375 = .ok (.if_icmp .eq 479, 3) := by decide +kernel
theorem dL_law_378 : decode cL_law 378 = .ok (.iconst 0, 1) := by decide +kernel
theorem dL_law_379 : decode cL_law 379 = .ok (.ireturn, 1) := by decide +kernel
theorem dL_law_380 : decode cL_law 380 = .ok (.aload_n 1, 1) := by decide +kernel
theorem dL_law_381 : decode cL_law 381 = .ok (.invokevirtual 56, 3) := by decide +kernel
theorem dL_law_384 : decode cL_law 384 = .ok (.aload_n 2, 1) := by decide +kernel
theorem dL_law_385 : decode cL_law 385 = .ok (.invokevirtual 59, 3) := by decide +kernel
theorem dL_law_388 : decode cL_law 388 = .ok (.if_icmp .eq 466, 3) := by decide +kernel
theorem dL_law_391 : decode cL_law 391 = .ok (.iconst 0, 1) := by decide +kernel
theorem dL_law_392 : decode cL_law 392 = .ok (.ireturn, 1) := by decide +kernel
theorem dL_law_393 : decode cL_law 393 = .ok (.aload_n 1, 1) := by decide +kernel
theorem dL_law_394 : decode cL_law 394 = .ok (.invokevirtual 60, 3) := by decide +kernel
theorem dL_law_397 : decode cL_law 397 = .ok (.aload_n 2, 1) := by decide +kernel
theorem dL_law_398 : decode cL_law 398 = .ok (.invokevirtual 63, 3) := by decide +kernel
theorem dL_law_401 : decode cL_law 401 = .ok (.if_icmp .eq 453, 3) := by decide +kernel
theorem dL_law_404 : decode cL_law 404 = .ok (.iconst 0, 1) := by decide +kernel
theorem dL_law_405 : decode cL_law 405 = .ok (.ireturn, 1) := by decide +kernel
theorem dL_law_406 : decode cL_law 406 = .ok (.aload_n 1, 1) := by decide +kernel
theorem dL_law_407 : decode cL_law 407 = .ok (.aload_n 0, 1) := by decide +kernel
theorem dL_law_408 : decode cL_law 408 = .ok (.iload_n 3, 1) := by decide +kernel
theorem dL_law_409 : decode cL_law 409 = .ok (.iconst 1, 1) := by decide +kernel
theorem dL_law_410 : decode cL_law 410 = .ok (.iadd, 1) := by decide +kernel
theorem dL_law_411 : decode cL_law 411 = .ok (.iaload, 1) := by decide +kernel
theorem dL_law_412 : decode cL_law 412 = .ok (.aload_n 0, 1) := by decide +kernel
theorem dL_law_413 : decode cL_law 413 = .ok (.iload_n 3, 1) := by decide +kernel
theorem dL_law_414 : decode cL_law 414 = .ok (.iconst 2, 1) := by decide +kernel
theorem dL_law_415 : decode cL_law 415 = .ok (.iadd, 1) := by decide +kernel
theorem dL_law_416 : decode cL_law 416 = .ok (.iaload, 1) := by decide +kernel
theorem dL_law_417 : decode cL_law 417 = .ok (.aload_n 0, 1) := by decide +kernel
theorem dL_law_418 : decode cL_law 418 = .ok (.iload_n 3, 1) := by decide +kernel
theorem dL_law_419 : decode cL_law 419 = .ok (.iconst 3, 1) := by decide +kernel
theorem dL_law_420 : decode cL_law 420 = .ok (.iadd, 1) := by decide +kernel
theorem dL_law_421 : decode cL_law 421 = .ok (.iaload, 1) := by decide +kernel
theorem dL_law_422 : decode cL_law 422 = .ok (.invokevirtual 64, 3) := by decide +kernel
theorem dL_law_425 : decode cL_law 425 = .ok (.aload_n 2, 1) := by decide +kernel
theorem dL_law_426 : decode cL_law 426 = .ok (.aload_n 0, 1) := by decide +kernel
theorem dL_law_427 : decode cL_law 427 = .ok (.iload_n 3, 1) := by decide +kernel
theorem dL_law_428 : decode cL_law 428 = .ok (.iconst 1, 1) := by decide +kernel
theorem dL_law_429 : decode cL_law 429 = .ok (.iadd, 1) := by decide +kernel
theorem dL_law_430 : decode cL_law 430 = .ok (.iaload, 1) := by decide +kernel
theorem dL_law_431 : decode cL_law 431 = .ok (.aload_n 0, 1) := by decide +kernel
theorem dL_law_432 : decode cL_law 432 = .ok (.iload_n 3, 1) := by decide +kernel
theorem dL_law_433 : decode cL_law 433 = .ok (.iconst 2, 1) := by decide +kernel
theorem dL_law_434 : decode cL_law 434 = .ok (.iadd, 1) := by decide +kernel
theorem dL_law_435 : decode cL_law 435 = .ok (.iaload, 1) := by decide +kernel
theorem dL_law_436 : decode cL_law 436 = .ok (.aload_n 0, 1) := by decide +kernel
theorem dL_law_437 : decode cL_law 437 = .ok (.iload_n 3, 1) := by decide +kernel
theorem dL_law_438 : decode cL_law 438 = .ok (.iconst 3, 1) := by decide +kernel
theorem dL_law_439 : decode cL_law 439 = .ok (.iadd, 1) := by decide +kernel
theorem dL_law_440 : decode cL_law 440 = .ok (.iaload, 1) := by decide +kernel
theorem dL_law_441 : decode cL_law 441 = .ok (.invokevirtual 68, 3) := by decide +kernel
theorem dL_law_444 : decode cL_law 444 = .ok (.if_icmp .eq 410, 3) := by decide +kernel
theorem dL_law_447 : decode cL_law 447 = .ok (.iconst 0, 1) := by decide +kernel
theorem dL_law_448 : decode cL_law 448 = .ok (.ireturn, 1) := by decide +kernel
theorem dL_law_449 : decode cL_law 449 = .ok (.aload_n 1, 1) := by decide +kernel
theorem dL_law_450 : decode cL_law 450 = .ok (.aload_n 0, 1) := by decide +kernel
theorem dL_law_451 : decode cL_law 451 = .ok (.iload_n 3, 1) := by decide +kernel
theorem dL_law_452 : decode cL_law 452 = .ok (.iconst 1, 1) := by decide +kernel
theorem dL_law_453 : decode cL_law 453 = .ok (.iadd, 1) := by decide +kernel
theorem dL_law_454 : decode cL_law 454 = .ok (.iaload, 1) := by decide +kernel
theorem dL_law_455 : decode cL_law 455 = .ok (.invokevirtual 69, 3) := by decide +kernel
theorem dL_law_458 : decode cL_law 458 = .ok (.aload_n 2, 1) := by decide +kernel
theorem dL_law_459 : decode cL_law 459 = .ok (.aload_n 0, 1) := by decide +kernel
theorem dL_law_460 : decode cL_law 460 = .ok (.iload_n 3, 1) := by decide +kernel
theorem dL_law_461 : decode cL_law 461 = .ok (.iconst 1, 1) := by decide +kernel
theorem dL_law_462 : decode cL_law 462 = .ok (.iadd, 1) := by decide +kernel
theorem dL_law_463 : decode cL_law 463 = .ok (.iaload, 1) := by decide +kernel
theorem dL_law_464 : decode cL_law 464 = .ok (.invokevirtual 72, 3) := by decide +kernel
theorem dL_law_467 : decode cL_law 467 = .ok (.if_icmp .eq 387, 3) := by decide +kernel
theorem dL_law_470 : decode cL_law 470 = .ok (.iconst 0, 1) := by decide +kernel
theorem dL_law_471 : decode cL_law 471 = .ok (.ireturn, 1) := by decide +kernel
theorem dL_law_472 : decode cL_law 472 = .ok (.aload_n 1, 1) := by decide +kernel
theorem dL_law_473 : decode cL_law 473 = .ok (.aload_n 0, 1) := by decide +kernel
theorem dL_law_474 : decode cL_law 474 = .ok (.iload_n 3, 1) := by decide +kernel
theorem dL_law_475 : decode cL_law 475 = .ok (.iconst 1, 1) := by decide +kernel
theorem dL_law_476 : decode cL_law 476 = .ok (.iadd, 1) := by decide +kernel
theorem dL_law_477 : decode cL_law 477 = .ok (.iaload, 1) := by decide +kernel
theorem dL_law_478 : decode cL_law 478 = .ok (.invokevirtual 73, 3) := by decide +kernel
theorem dL_law_481 : decode cL_law 481 = .ok (.aload_n 2, 1) := by decide +kernel
theorem dL_law_482 : decode cL_law 482 = .ok (.aload_n 0, 1) := by decide +kernel
theorem dL_law_483 : decode cL_law 483 = .ok (.iload_n 3, 1) := by decide +kernel
theorem dL_law_484 : decode cL_law 484 = .ok (.iconst 1, 1) := by decide +kernel
theorem dL_law_485 : decode cL_law 485 = .ok (.iadd, 1) := by decide +kernel
theorem dL_law_486 : decode cL_law 486 = .ok (.iaload, 1) := by decide +kernel
theorem dL_law_487 : decode cL_law 487 = .ok (.invokevirtual 76, 3) := by decide +kernel
theorem dL_law_490 : decode cL_law 490 = .ok (.if_icmp .eq 364, 3) := by decide +kernel
theorem dL_law_493 : decode cL_law 493 = .ok (.iconst 0, 1) := by decide +kernel
theorem dL_law_494 : decode cL_law 494 = .ok (.ireturn, 1) := by decide +kernel
theorem dL_law_495 : decode cL_law 495 = .ok (.aload_n 1, 1) := by decide +kernel
theorem dL_law_496 : decode cL_law 496 = .ok (.aload_n 0, 1) := by decide +kernel
theorem dL_law_497 : decode cL_law 497 = .ok (.iload_n 3, 1) := by decide +kernel
theorem dL_law_498 : decode cL_law 498 = .ok (.iconst 1, 1) := by decide +kernel
theorem dL_law_499 : decode cL_law 499 = .ok (.iadd, 1) := by decide +kernel
theorem dL_law_500 : decode cL_law 500 = .ok (.iaload, 1) := by decide +kernel
theorem dL_law_501 : decode cL_law 501 = .ok (.invokevirtual 77, 3) := by decide +kernel
theorem dL_law_504 : decode cL_law 504 = .ok (.aload_n 2, 1) := by decide +kernel
theorem dL_law_505 : decode cL_law 505 = .ok (.aload_n 0, 1) := by decide +kernel
theorem dL_law_506 : decode cL_law 506 = .ok (.iload_n 3, 1) := by decide +kernel
theorem dL_law_507 : decode cL_law 507 = .ok (.iconst 1, 1) := by decide +kernel
theorem dL_law_508 : decode cL_law 508 = .ok (.iadd, 1) := by decide +kernel
theorem dL_law_509 : decode cL_law 509 = .ok (.iaload, 1) := by decide +kernel
theorem dL_law_510 : decode cL_law 510 = .ok (.invokevirtual 80, 3) := by decide +kernel
theorem dL_law_513 : decode cL_law 513 = .ok (.if_icmp .eq 341, 3) := by decide +kernel
theorem dL_law_516 : decode cL_law 516 = .ok (.iconst 0, 1) := by decide +kernel
theorem dL_law_517 : decode cL_law 517 = .ok (.ireturn, 1) := by decide +kernel
theorem dL_law_518 : decode cL_law 518 = .ok (.aload_n 1, 1) := by decide +kernel
theorem dL_law_519 : decode cL_law 519 = .ok (.aload_n 0, 1) := by decide +kernel
theorem dL_law_520 : decode cL_law 520 = .ok (.iload_n 3, 1) := by decide +kernel
theorem dL_law_521 : decode cL_law 521 = .ok (.iconst 1, 1) := by decide +kernel
theorem dL_law_522 : decode cL_law 522 = .ok (.iadd, 1) := by decide +kernel
theorem dL_law_523 : decode cL_law 523 = .ok (.iaload, 1) := by decide +kernel
theorem dL_law_524 : decode cL_law 524 = .ok (.aload_n 0, 1) := by decide +kernel
theorem dL_law_525 : decode cL_law 525 = .ok (.iload_n 3, 1) := by decide +kernel
theorem dL_law_526 : decode cL_law 526 = .ok (.iconst 2, 1) := by decide +kernel
theorem dL_law_527 : decode cL_law 527 = .ok (.iadd, 1) := by decide +kernel
theorem dL_law_528 : decode cL_law 528 = .ok (.iaload, 1) := by decide +kernel
theorem dL_law_529 : decode cL_law 529 = .ok (.aload_n 0, 1) := by decide +kernel
theorem dL_law_530 : decode cL_law 530 = .ok (.iload_n 3, 1) := by decide +kernel
theorem dL_law_531 : decode cL_law 531 = .ok (.iconst 3, 1) := by decide +kernel
theorem dL_law_532 : decode cL_law 532 = .ok (.iadd, 1) := by decide +kernel
theorem dL_law_533 : decode cL_law 533 = .ok (.iaload, 1) := by decide +kernel
theorem dL_law_534 : decode cL_law 534 = .ok (.invokevirtual 81, 3) := by decide +kernel
theorem dL_law_537 : decode cL_law 537 = .ok (.aload_n 2, 1) := by decide +kernel
theorem dL_law_538 : decode cL_law 538 = .ok (.aload_n 0, 1) := by decide +kernel
theorem dL_law_539 : decode cL_law 539 = .ok (.iload_n 3, 1) := by decide +kernel
theorem dL_law_540 : decode cL_law 540 = .ok (.iconst 1, 1) := by decide +kernel
theorem dL_law_541 : decode cL_law 541 = .ok (.iadd, 1) := by decide +kernel
theorem dL_law_542 : decode cL_law 542 = .ok (.iaload, 1) := by decide +kernel
theorem dL_law_543 : decode cL_law 543 = .ok (.aload_n 0, 1) := by decide +kernel
theorem dL_law_544 : decode cL_law 544 = .ok (.iload_n 3, 1) := by decide +kernel
theorem dL_law_545 : decode cL_law 545 = .ok (.iconst 2, 1) := by decide +kernel
theorem dL_law_546 : decode cL_law 546 = .ok (.iadd, 1) := by decide +kernel
theorem dL_law_547 : decode cL_law 547 = .ok (.iaload, 1) := by decide +kernel
theorem dL_law_548 : decode cL_law 548 = .ok (.aload_n 0, 1) := by decide +kernel
theorem dL_law_549 : decode cL_law 549 = .ok (.iload_n 3, 1) := by decide +kernel
theorem dL_law_550 : decode cL_law 550 = .ok (.iconst 3, 1) := by decide +kernel
theorem dL_law_551 : decode cL_law 551 = .ok (.iadd, 1) := by decide +kernel
theorem dL_law_552 : decode cL_law 552 = .ok (.iaload, 1) := by decide +kernel
theorem dL_law_553 : decode cL_law 553 = .ok (.invokevirtual 84, 3) := by decide +kernel
theorem dL_law_556 : decode cL_law 556 = .ok (.if_icmp .eq 298, 3) := by decide +kernel
theorem dL_law_559 : decode cL_law 559 = .ok (.iconst 0, 1) := by decide +kernel
theorem dL_law_560 : decode cL_law 560 = .ok (.ireturn, 1) := by decide +kernel
theorem dL_law_561 : decode cL_law 561 = .ok (.aload_n 1, 1) := by decide +kernel
theorem dL_law_562 : decode cL_law 562 = .ok (.aload_n 0, 1) := by decide +kernel
theorem dL_law_563 : decode cL_law 563 = .ok (.iload_n 3, 1) := by decide +kernel
theorem dL_law_564 : decode cL_law 564 = .ok (.iconst 1, 1) := by decide +kernel
theorem dL_law_565 : decode cL_law 565 = .ok (.iadd, 1) := by decide +kernel
theorem dL_law_566 : decode cL_law 566 = .ok (.iaload, 1) := by decide +kernel
theorem dL_law_567 : decode cL_law 567 = .ok (.aload_n 0, 1) := by decide +kernel
theorem dL_law_568 : decode cL_law 568 = .ok (.iload_n 3, 1) := by decide +kernel
theorem dL_law_569 : decode cL_law 569 = .ok (.iconst 2, 1) := by decide +kernel
theorem dL_law_570 : decode cL_law 570 = .ok (.iadd, 1) := by decide +kernel
theorem dL_law_571 : decode cL_law 571 = .ok (.iaload, 1) := by decide +kernel
theorem dL_law_572 : decode cL_law 572 = .ok (.invokevirtual 85, 3) := by decide +kernel
theorem dL_law_575 : decode cL_law 575 = .ok (.aload_n 2, 1) := by decide +kernel
theorem dL_law_576 : decode cL_law 576 = .ok (.aload_n 0, 1) := by decide +kernel
theorem dL_law_577 : decode cL_law 577 = .ok (.iload_n 3, 1) := by decide +kernel
theorem dL_law_578 : decode cL_law 578 = .ok (.iconst 1, 1) := by decide +kernel
theorem dL_law_579 : decode cL_law 579 = .ok (.iadd, 1) := by decide +kernel
theorem dL_law_580 : decode cL_law 580 = .ok (.iaload, 1) := by decide +kernel
theorem dL_law_581 : decode cL_law 581 = .ok (.aload_n 0, 1) := by decide +kernel
theorem dL_law_582 : decode cL_law 582 = .ok (.iload_n 3, 1) := by decide +kernel
theorem dL_law_583 : decode cL_law 583 = .ok (.iconst 2, 1) := by decide +kernel
theorem dL_law_584 : decode cL_law 584 = .ok (.iadd, 1) := by decide +kernel
theorem dL_law_585 : decode cL_law 585 = .ok (.iaload, 1) := by decide +kernel
theorem dL_law_586 : decode cL_law 586 = .ok (.invokevirtual 88, 3) := by decide +kernel
theorem dL_law_589 : decode cL_law 589 = .ok (.if_icmp .eq 265, 3) := by decide +kernel
theorem dL_law_592 : decode cL_law 592 = .ok (.iconst 0, 1) := by decide +kernel
theorem dL_law_593 : decode cL_law 593 = .ok (.ireturn, 1) := by decide +kernel
theorem dL_law_594 : decode cL_law 594 = .ok (.aload_n 1, 1) := by decide +kernel
theorem dL_law_595 : decode cL_law 595 = .ok (.aload_n 0, 1) := by decide +kernel
theorem dL_law_596 : decode cL_law 596 = .ok (.iload_n 3, 1) := by decide +kernel
theorem dL_law_597 : decode cL_law 597 = .ok (.iconst 1, 1) := by decide +kernel
theorem dL_law_598 : decode cL_law 598 = .ok (.iadd, 1) := by decide +kernel
theorem dL_law_599 : decode cL_law 599 = .ok (.iaload, 1) := by decide +kernel
theorem dL_law_600 : decode cL_law 600 = .ok (.invokevirtual 89, 3) := by decide +kernel
theorem dL_law_603 : decode cL_law 603 = .ok (.aload_n 2, 1) := by decide +kernel
theorem dL_law_604 : decode cL_law 604 = .ok (.aload_n 0, 1) := by decide +kernel
theorem dL_law_605 : decode cL_law 605 = .ok (.iload_n 3, 1) := by decide +kernel
theorem dL_law_606 : decode cL_law 606 = .ok (.iconst 1, 1) := by decide +kernel
theorem dL_law_607 : decode cL_law 607 = .ok (.iadd, 1) := by decide +kernel
theorem dL_law_608 : decode cL_law 608 = .ok (.iaload, 1) := by decide +kernel
theorem dL_law_609 : decode cL_law 609 = .ok (.invokevirtual 92, 3) := by decide +kernel
theorem dL_law_612 : decode cL_law 612 = .ok (.if_icmp .eq 242, 3) := by decide +kernel
theorem dL_law_615 : decode cL_law 615 = .ok (.iconst 0, 1) := by decide +kernel
theorem dL_law_616 : decode cL_law 616 = .ok (.ireturn, 1) := by decide +kernel
theorem dL_law_617 : decode cL_law 617 = .ok (.aload_n 1, 1) := by decide +kernel
theorem dL_law_618 : decode cL_law 618 = .ok (.aload_n 0, 1) := by decide +kernel
theorem dL_law_619 : decode cL_law 619 = .ok (.iload_n 3, 1) := by decide +kernel
theorem dL_law_620 : decode cL_law 620 = .ok (.iconst 1, 1) := by decide +kernel
theorem dL_law_621 : decode cL_law 621 = .ok (.iadd, 1) := by decide +kernel
theorem dL_law_622 : decode cL_law 622 = .ok (.iaload, 1) := by decide +kernel
theorem dL_law_623 : decode cL_law 623 = .ok (.aload_n 0, 1) := by decide +kernel
theorem dL_law_624 : decode cL_law 624 = .ok (.iload_n 3, 1) := by decide +kernel
theorem dL_law_625 : decode cL_law 625 = .ok (.iconst 2, 1) := by decide +kernel
theorem dL_law_626 : decode cL_law 626 = .ok (.iadd, 1) := by decide +kernel
theorem dL_law_627 : decode cL_law 627 = .ok (.iaload, 1) := by decide +kernel
theorem dL_law_628 : decode cL_law 628 = .ok (.invokevirtual 93, 3) := by decide +kernel
theorem dL_law_631 : decode cL_law 631 = .ok (.aload_n 2, 1) := by decide +kernel
theorem dL_law_632 : decode cL_law 632 = .ok (.aload_n 0, 1) := by decide +kernel
theorem dL_law_633 : decode cL_law 633 = .ok (.iload_n 3, 1) := by decide +kernel
theorem dL_law_634 : decode cL_law 634 = .ok (.iconst 1, 1) := by decide +kernel
theorem dL_law_635 : decode cL_law 635 = .ok (.iadd, 1) := by decide +kernel
theorem dL_law_636 : decode cL_law 636 = .ok (.iaload, 1) := by decide +kernel
theorem dL_law_637 : decode cL_law 637 = .ok (.aload_n 0, 1) := by decide +kernel
theorem dL_law_638 : decode cL_law 638 = .ok (.iload_n 3, 1) := by decide +kernel
theorem dL_law_639 : decode cL_law 639 = .ok (.iconst 2, 1) := by decide +kernel
theorem dL_law_640 : decode cL_law 640 = .ok (.iadd, 1) := by decide +kernel
theorem dL_law_641 : decode cL_law 641 = .ok (.iaload, 1) := by decide +kernel
theorem dL_law_642 : decode cL_law 642 = .ok (.invokevirtual 96, 3) := by decide +kernel
theorem dL_law_645 : decode cL_law 645 = .ok (.if_icmp .eq 209, 3) := by decide +kernel
theorem dL_law_648 : decode cL_law 648 = .ok (.iconst 0, 1) := by decide +kernel
theorem dL_law_649 : decode cL_law 649 = .ok (.ireturn, 1) := by decide +kernel
theorem dL_law_650 : decode cL_law 650 = .ok (.aload_n 1, 1) := by decide +kernel
theorem dL_law_651 : decode cL_law 651 = .ok (.invokevirtual 97, 3) := by decide +kernel
theorem dL_law_654 : decode cL_law 654 = .ok (.aload_n 2, 1) := by decide +kernel
theorem dL_law_655 : decode cL_law 655 = .ok (.invokevirtual 100, 3) := by decide +kernel
theorem dL_law_658 : decode cL_law 658 = .ok (.if_icmp .eq 196, 3) := by decide +kernel
theorem dL_law_661 : decode cL_law 661 = .ok (.iconst 0, 1) := by decide +kernel
theorem dL_law_662 : decode cL_law 662 = .ok (.ireturn, 1) := by decide +kernel
theorem dL_law_663 : decode cL_law 663 = .ok (.aload_n 1, 1) := by decide +kernel
theorem dL_law_664 : decode cL_law 664 = .ok (.aload_n 0, 1) := by decide +kernel
theorem dL_law_665 : decode cL_law 665 = .ok (.iload_n 3, 1) := by decide +kernel
theorem dL_law_666 : decode cL_law 666 = .ok (.iconst 1, 1) := by decide +kernel
theorem dL_law_667 : decode cL_law 667 = .ok (.iadd, 1) := by decide +kernel
theorem dL_law_668 : decode cL_law 668 = .ok (.iaload, 1) := by decide +kernel
theorem dL_law_669 : decode cL_law 669 = .ok (.invokevirtual 101, 3) := by decide +kernel
theorem dL_law_672 : decode cL_law 672 = .ok (.aload_n 2, 1) := by decide +kernel
theorem dL_law_673 : decode cL_law 673 = .ok (.aload_n 0, 1) := by decide +kernel
theorem dL_law_674 : decode cL_law 674 = .ok (.iload_n 3, 1) := by decide +kernel
theorem dL_law_675 : decode cL_law 675 = .ok (.iconst 1, 1) := by decide +kernel
theorem dL_law_676 : decode cL_law 676 = .ok (.iadd, 1) := by decide +kernel
theorem dL_law_677 : decode cL_law 677 = .ok (.iaload, 1) := by decide +kernel
theorem dL_law_678 : decode cL_law 678 = .ok (.invokevirtual 104, 3) := by decide +kernel
theorem dL_law_681 : decode cL_law 681 = .ok (.if_icmp .eq 173, 3) := by decide +kernel
theorem dL_law_684 : decode cL_law 684 = .ok (.iconst 0, 1) := by decide +kernel
theorem dL_law_685 : decode cL_law 685 = .ok (.ireturn, 1) := by decide +kernel
theorem dL_law_686 : decode cL_law 686 = .ok (.aload_n 1, 1) := by decide +kernel
theorem dL_law_687 : decode cL_law 687 = .ok (.aload_n 0, 1) := by decide +kernel
theorem dL_law_688 : decode cL_law 688 = .ok (.iload_n 3, 1) := by decide +kernel
theorem dL_law_689 : decode cL_law 689 = .ok (.iconst 1, 1) := by decide +kernel
theorem dL_law_690 : decode cL_law 690 = .ok (.iadd, 1) := by decide +kernel
theorem dL_law_691 : decode cL_law 691 = .ok (.iaload, 1) := by decide +kernel
theorem dL_law_692 : decode cL_law 692 = .ok (.invokevirtual 105, 3) := by decide +kernel
theorem dL_law_695 : decode cL_law 695 = .ok (.aload_n 2, 1) := by decide +kernel
theorem dL_law_696 : decode cL_law 696 = .ok (.aload_n 0, 1) := by decide +kernel
theorem dL_law_697 : decode cL_law 697 = .ok (.iload_n 3, 1) := by decide +kernel
theorem dL_law_698 : decode cL_law 698 = .ok (.iconst 1, 1) := by decide +kernel
theorem dL_law_699 : decode cL_law 699 = .ok (.iadd, 1) := by decide +kernel
theorem dL_law_700 : decode cL_law 700 = .ok (.iaload, 1) := by decide +kernel
theorem dL_law_701 : decode cL_law 701 = .ok (.invokevirtual 108, 3) := by decide +kernel
theorem dL_law_704 : decode cL_law 704 = .ok (.if_icmp .eq 150, 3) := by decide +kernel
theorem dL_law_707 : decode cL_law 707 = .ok (.iconst 0, 1) := by decide +kernel
theorem dL_law_708 : decode cL_law 708 = .ok (.ireturn, 1) := by decide +kernel
theorem dL_law_709 : decode cL_law 709 = .ok (.aload_n 1, 1) := by decide +kernel
theorem dL_law_710 : decode cL_law 710 = .ok (.aload_n 0, 1) := by decide +kernel
theorem dL_law_711 : decode cL_law 711 = .ok (.iload_n 3, 1) := by decide +kernel
theorem dL_law_712 : decode cL_law 712 = .ok (.iconst 1, 1) := by decide +kernel
theorem dL_law_713 : decode cL_law 713 = .ok (.iadd, 1) := by decide +kernel
theorem dL_law_714 : decode cL_law 714 = .ok (.iaload, 1) := by decide +kernel
theorem dL_law_715 : decode cL_law 715 = .ok (.aload_n 0, 1) := by decide +kernel
theorem dL_law_716 : decode cL_law 716 = .ok (.iload_n 3, 1) := by decide +kernel
theorem dL_law_717 : decode cL_law 717 = .ok (.iconst 2, 1) := by decide +kernel
theorem dL_law_718 : decode cL_law 718 = .ok (.iadd, 1) := by decide +kernel
theorem dL_law_719 : decode cL_law 719 = .ok (.iaload, 1) := by decide +kernel
theorem dL_law_720 : decode cL_law 720 = .ok (.aload_n 0, 1) := by decide +kernel
theorem dL_law_721 : decode cL_law 721 = .ok (.iload_n 3, 1) := by decide +kernel
theorem dL_law_722 : decode cL_law 722 = .ok (.iconst 3, 1) := by decide +kernel
theorem dL_law_723 : decode cL_law 723 = .ok (.iadd, 1) := by decide +kernel
theorem dL_law_724 : decode cL_law 724 = .ok (.iaload, 1) := by decide +kernel
theorem dL_law_725 : decode cL_law 725 = .ok (.aload_n 0, 1) := by decide +kernel
theorem dL_law_726 : decode cL_law 726 = .ok (.iload_n 3, 1) := by decide +kernel
theorem dL_law_727 : decode cL_law 727 = .ok (.iconst 4, 1) := by decide +kernel
theorem dL_law_728 : decode cL_law 728 = .ok (.iadd, 1) := by decide +kernel
theorem dL_law_729 : decode cL_law 729 = .ok (.iaload, 1) := by decide +kernel
theorem dL_law_730 : decode cL_law 730 = .ok (.invokevirtual 109, 3) := by decide +kernel
theorem dL_law_733 : decode cL_law 733 = .ok (.aload_n 2, 1) := by decide +kernel
theorem dL_law_734 : decode cL_law 734 = .ok (.aload_n 0, 1) := by decide +kernel
theorem dL_law_735 : decode cL_law 735 = .ok (.iload_n 3, 1) := by decide +kernel
theorem dL_law_736 : decode cL_law 736 = .ok (.iconst 1, 1) := by decide +kernel
theorem dL_law_737 : decode cL_law 737 = .ok (.iadd, 1) := by decide +kernel
theorem dL_law_738 : decode cL_law 738 = .ok (.iaload, 1) := by decide +kernel
theorem dL_law_739 : decode cL_law 739 = .ok (.aload_n 0, 1) := by decide +kernel
theorem dL_law_740 : decode cL_law 740 = .ok (.iload_n 3, 1) := by decide +kernel
theorem dL_law_741 : decode cL_law 741 = .ok (.iconst 2, 1) := by decide +kernel
theorem dL_law_742 : decode cL_law 742 = .ok (.iadd, 1) := by decide +kernel
theorem dL_law_743 : decode cL_law 743 = .ok (.iaload, 1) := by decide +kernel
theorem dL_law_744 : decode cL_law 744 = .ok (.aload_n 0, 1) := by decide +kernel
theorem dL_law_745 : decode cL_law 745 = .ok (.iload_n 3, 1) := by decide +kernel
theorem dL_law_746 : decode cL_law 746 = .ok (.iconst 3, 1) := by decide +kernel
theorem dL_law_747 : decode cL_law 747 = .ok (.iadd, 1) := by decide +kernel
theorem dL_law_748 : decode cL_law 748 = .ok (.iaload, 1) := by decide +kernel
theorem dL_law_749 : decode cL_law 749 = .ok (.aload_n 0, 1) := by decide +kernel
theorem dL_law_750 : decode cL_law 750 = .ok (.iload_n 3, 1) := by decide +kernel
theorem dL_law_751 : decode cL_law 751 = .ok (.iconst 4, 1) := by decide +kernel
theorem dL_law_752 : decode cL_law 752 = .ok (.iadd, 1) := by decide +kernel
theorem dL_law_753 : decode cL_law 753 = .ok (.iaload, 1) := by decide +kernel
theorem dL_law_754 : decode cL_law 754 = .ok (.invokevirtual 113, 3) := by decide +kernel
theorem dL_law_757 : decode cL_law 757 = .ok (.if_icmp .eq 97, 3) := by decide +kernel
theorem dL_law_760 : decode cL_law 760 = .ok (.iconst 0, 1) := by decide +kernel
theorem dL_law_761 : decode cL_law 761 = .ok (.ireturn, 1) := by decide +kernel
theorem dL_law_762 : decode cL_law 762 = .ok (.aload_n 1, 1) := by decide +kernel
theorem dL_law_763 : decode cL_law 763 = .ok (.aload_n 0, 1) := by decide +kernel
theorem dL_law_764 : decode cL_law 764 = .ok (.iload_n 3, 1) := by decide +kernel
theorem dL_law_765 : decode cL_law 765 = .ok (.iconst 1, 1) := by decide +kernel
theorem dL_law_766 : decode cL_law 766 = .ok (.iadd, 1) := by decide +kernel
theorem dL_law_767 : decode cL_law 767 = .ok (.iaload, 1) := by decide +kernel
theorem dL_law_768 : decode cL_law 768 = .ok (.aload_n 0, 1) := by decide +kernel
theorem dL_law_769 : decode cL_law 769 = .ok (.iload_n 3, 1) := by decide +kernel
theorem dL_law_770 : decode cL_law 770 = .ok (.iconst 2, 1) := by decide +kernel
theorem dL_law_771 : decode cL_law 771 = .ok (.iadd, 1) := by decide +kernel
theorem dL_law_772 : decode cL_law 772 = .ok (.iaload, 1) := by decide +kernel
theorem dL_law_773 : decode cL_law 773 = .ok (.aload_n 0, 1) := by decide +kernel
theorem dL_law_774 : decode cL_law 774 = .ok (.iload_n 3, 1) := by decide +kernel
theorem dL_law_775 : decode cL_law 775 = .ok (.iconst 3, 1) := by decide +kernel
theorem dL_law_776 : decode cL_law 776 = .ok (.iadd, 1) := by decide +kernel
theorem dL_law_777 : decode cL_law 777 = .ok (.iaload, 1) := by decide +kernel
theorem dL_law_778 : decode cL_law 778 = .ok (.invokevirtual 114, 3) := by decide +kernel
theorem dL_law_781 : decode cL_law 781 = .ok (.aload_n 2, 1) := by decide +kernel
theorem dL_law_782 : decode cL_law 782 = .ok (.aload_n 0, 1) := by decide +kernel
theorem dL_law_783 : decode cL_law 783 = .ok (.iload_n 3, 1) := by decide +kernel
theorem dL_law_784 : decode cL_law 784 = .ok (.iconst 1, 1) := by decide +kernel
theorem dL_law_785 : decode cL_law 785 = .ok (.iadd, 1) := by decide +kernel
theorem dL_law_786 : decode cL_law 786 = .ok (.iaload, 1) := by decide +kernel
theorem dL_law_787 : decode cL_law 787 = .ok (.aload_n 0, 1) := by decide +kernel
theorem dL_law_788 : decode cL_law 788 = .ok (.iload_n 3, 1) := by decide +kernel
theorem dL_law_789 : decode cL_law 789 = .ok (.iconst 2, 1) := by decide +kernel
theorem dL_law_790 : decode cL_law 790 = .ok (.iadd, 1) := by decide +kernel
theorem dL_law_791 : decode cL_law 791 = .ok (.iaload, 1) := by decide +kernel
theorem dL_law_792 : decode cL_law 792 = .ok (.aload_n 0, 1) := by decide +kernel
theorem dL_law_793 : decode cL_law 793 = .ok (.iload_n 3, 1) := by decide +kernel
theorem dL_law_794 : decode cL_law 794 = .ok (.iconst 3, 1) := by decide +kernel
theorem dL_law_795 : decode cL_law 795 = .ok (.iadd, 1) := by decide +kernel
theorem dL_law_796 : decode cL_law 796 = .ok (.iaload, 1) := by decide +kernel
theorem dL_law_797 : decode cL_law 797 = .ok (.invokevirtual 117, 3) := by decide +kernel
theorem dL_law_800 : decode cL_law 800 = .ok (.if_icmp .eq 54, 3) := by decide +kernel
theorem dL_law_803 : decode cL_law 803 = .ok (.iconst 0, 1) := by decide +kernel
theorem dL_law_804 : decode cL_law 804 = .ok (.ireturn, 1) := by decide +kernel
theorem dL_law_805 : decode cL_law 805 = .ok (.aload_n 1, 1) := by decide +kernel
theorem dL_law_806 : decode cL_law 806 = .ok (.invokevirtual 118, 3) := by decide +kernel
theorem dL_law_809 : decode cL_law 809 = .ok (.aload_n 2, 1) := by decide +kernel
theorem dL_law_810 : decode cL_law 810 = .ok (.invokevirtual 121, 3) := by decide +kernel
theorem dL_law_813 : decode cL_law 813 = .ok (.if_icmp .eq 41, 3) := by decide +kernel
theorem dL_law_816 : decode cL_law 816 = .ok (.iconst 0, 1) := by decide +kernel
theorem dL_law_817 : decode cL_law 817 = .ok (.ireturn, 1) := by decide +kernel
theorem dL_law_818 : decode cL_law 818 = .ok (.aload_n 1, 1) := by decide +kernel
theorem dL_law_819 : decode cL_law 819 = .ok (.invokevirtual 122, 3) := by decide +kernel
theorem dL_law_822 : decode cL_law 822 = .ok (.aload_n 2, 1) := by decide +kernel
theorem dL_law_823 : decode cL_law 823 = .ok (.invokevirtual 125, 3) := by decide +kernel
theorem dL_law_826 : decode cL_law 826 = .ok (.if_icmp .eq 28, 3) := by decide +kernel
theorem dL_law_829 : decode cL_law 829 = .ok (.iconst 0, 1) := by decide +kernel
theorem dL_law_830 : decode cL_law 830 = .ok (.ireturn, 1) := by decide +kernel
theorem dL_law_831 : decode cL_law 831 = .ok (.aload_n 1, 1) := by decide +kernel
theorem dL_law_832 : decode cL_law 832 = .ok (.aload_n 0, 1) := by decide +kernel
theorem dL_law_833 : decode cL_law 833 = .ok (.iload_n 3, 1) := by decide +kernel
theorem dL_law_834 : decode cL_law 834 = .ok (.iconst 1, 1) := by decide +kernel
theorem dL_law_835 : decode cL_law 835 = .ok (.iadd, 1) := by decide +kernel
theorem dL_law_836 : decode cL_law 836 = .ok (.iaload, 1) := by decide +kernel
theorem dL_law_837 : decode cL_law 837 = .ok (.invokevirtual 126, 3) := by decide +kernel
theorem dL_law_840 : decode cL_law 840 = .ok (.aload_n 2, 1) := by decide +kernel
theorem dL_law_841 : decode cL_law 841 = .ok (.aload_n 0, 1) := by decide +kernel
theorem dL_law_842 : decode cL_law 842 = .ok (.iload_n 3, 1) := by decide +kernel
theorem dL_law_843 : decode cL_law 843 = .ok (.iconst 1, 1) := by decide +kernel
theorem dL_law_844 : decode cL_law 844 = .ok (.iadd, 1) := by decide +kernel
theorem dL_law_845 : decode cL_law 845 = .ok (.iaload, 1) := by decide +kernel
theorem dL_law_846 : decode cL_law 846 = .ok (.invokevirtual 129, 3) := by decide +kernel
theorem dL_law_849 : decode cL_law 849 = .ok (.if_icmp .eq 5, 3) := by decide +kernel
theorem dL_law_852 : decode cL_law 852 = .ok (.iconst 0, 1) := by decide +kernel
theorem dL_law_853 : decode cL_law 853 = .ok (.ireturn, 1) := by decide +kernel
theorem dL_law_854 : decode cL_law 854 = .ok (.iinc 3 5, 3) := by decide +kernel
theorem dL_law_857 : decode cL_law 857 = .ok (.goto (-839), 3) := by decide +kernel
theorem dL_law_860 : decode cL_law 860 = .ok (.iconst 1, 1) := by decide +kernel
theorem dL_law_861 : decode cL_law 861 = .ok (.ireturn, 1) := by decide +kernel
end
section
/-! the tables' words that a callee may take over, and the words of this claim by their places -/
def xTB : List Cond := lw_tbl.filter goodWord
theorem xmem {w : Cond} (i : Nat) (h : lw_tbl[i]? = some w) (hg : goodWord w = true) : w ∈ xTB := List.mem_filter.mpr ⟨List.mem_of_getElem? h, hg⟩
theorem xgood : ∀ w ∈ xTB, (w.onTables && w.keeps) = true ∨ ∃ ty, w = .arrayClass ty := fun _ h => good_of_word (List.mem_filter.mp h).2
/-- a place of a class among ours: its words, its fields' types, its fields' names apart -/
def xCl (ci : Nat) (C : String) (T : u_T) (N : Nat) (ty : Nat → FieldType) : Prop := vwCl[ci]? = some (C, T, N) ∧ (∀ w ∈ u_ws C T N, w ∈ xTB) ∧ (∀ k, k < N → parseFieldDescriptor (T k).2.2.1 = some (ty k)) ∧ (∀ a, a < N → ∀ b, b < N → a ≠ b → (T a).2.1 ≠ (T b).2.1) ∧ Cond.instantiable C N ∈ xTB ∧ Cond.initialized C ∈ xTB
/-- the pool entry idx of the file own names field j of kind ci, whose type is t; fin: final -/
def xF (own : String) (idx ci j : Nat) (t : FieldType) (fin : Bool) : Prop := ∃ (C : String) (T : u_T) (N : Nat) (ty : Nat → FieldType), xCl ci C T N ty ∧ j < N ∧ Cond.fieldLink own idx (T j).1 (T j).2.1 (T j).2.2.1 ∈ xTB ∧ ty j = t ∧ (T j).2.2.2 = fin ∧ (T j).1 = C
/-- a method of ours (n arguments, an object's apart): its code, what a call asks of its name -/
def xY (y : MethodName) (cc : ByteArray) (maxL : Nat) (ret : Option FieldType) (n : Nat) : Prop := Cond.code y cc maxL ret ∈ xTB ∧ Cond.initialized y.cls ∈ xTB ∧ y.cls ≠ "java/lang/invoke/MethodHandle" ∧ y.cls ≠ "java/lang/invoke/VarHandle" ∧ (parseMethodDescriptor y.desc).map (fun d => d.parameters.length) = some n
def xYV (y : MethodName) : Prop := Cond.instanceMethod y ∈ xTB ∧ Cond.selects y.cls y y ∈ xTB
def xYS (y : MethodName) : Prop := Cond.static y ∈ xTB
theorem ka_char : Cond.arrayClass .char ∈ xTB := xmem 85 (by decide +kernel) (by decide +kernel)
theorem ka_int : Cond.arrayClass .int ∈ xTB := xmem 125 (by decide +kernel) (by decide +kernel)
theorem ka_byte : Cond.arrayClass .byte ∈ xTB := xmem 383 (by decide +kernel) (by decide +kernel)
theorem ki_RL : Cond.initialized RL ∈ xTB := xmem 44 (by decide +kernel) (by decide +kernel)
theorem ki_RX6 : Cond.initialized RX6 ∈ xTB := xmem 45 (by decide +kernel) (by decide +kernel)
theorem ki_RX5 : Cond.initialized RX5 ∈ xTB := xmem 46 (by decide +kernel) (by decide +kernel)
theorem ki_RX1 : Cond.initialized RX1 ∈ xTB := xmem 47 (by decide +kernel) (by decide +kernel)
theorem ki_RX0 : Cond.initialized RX0 ∈ xTB := xmem 48 (by decide +kernel) (by decide +kernel)
theorem ki_RX4 : Cond.initialized RX4 ∈ xTB := xmem 49 (by decide +kernel) (by decide +kernel)
theorem ki_RX2 : Cond.initialized RX2 ∈ xTB := xmem 50 (by decide +kernel) (by decide +kernel)
theorem ki_RJ9 : Cond.initialized RJ9 ∈ xTB := xmem 51 (by decide +kernel) (by decide +kernel)
theorem ki_RX3 : Cond.initialized RX3 ∈ xTB := xmem 52 (by decide +kernel) (by decide +kernel)
theorem ki_RJ0 : Cond.initialized RJ0 ∈ xTB := xmem 53 (by decide +kernel) (by decide +kernel)
theorem ki_RJ1 : Cond.initialized RJ1 ∈ xTB := xmem 54 (by decide +kernel) (by decide +kernel)
theorem ki_RJ3 : Cond.initialized RJ3 ∈ xTB := xmem 55 (by decide +kernel) (by decide +kernel)
theorem ki_RJ2 : Cond.initialized RJ2 ∈ xTB := xmem 56 (by decide +kernel) (by decide +kernel)
theorem ki_RJ7 : Cond.initialized RJ7 ∈ xTB := xmem 57 (by decide +kernel) (by decide +kernel)
theorem ki_RJ10 : Cond.initialized RJ10 ∈ xTB := xmem 58 (by decide +kernel) (by decide +kernel)
theorem ki_RX7 : Cond.initialized RX7 ∈ xTB := xmem 59 (by decide +kernel) (by decide +kernel)
theorem ki_RJ6 : Cond.initialized RJ6 ∈ xTB := xmem 60 (by decide +kernel) (by decide +kernel)
theorem kn_RX6 : Cond.instantiable RX6 8 ∈ xTB := xmem 62 (by decide +kernel) (by decide +kernel)
theorem kn_RX5 : Cond.instantiable RX5 2 ∈ xTB := xmem 70 (by decide +kernel) (by decide +kernel)
theorem kn_RX1 : Cond.instantiable RX1 5 ∈ xTB := xmem 87 (by decide +kernel) (by decide +kernel)
theorem kn_RX0 : Cond.instantiable RX0 5 ∈ xTB := xmem 93 (by decide +kernel) (by decide +kernel)
theorem kn_RX4 : Cond.instantiable RX4 7 ∈ xTB := xmem 127 (by decide +kernel) (by decide +kernel)
theorem kn_RX2 : Cond.instantiable RX2 3 ∈ xTB := xmem 188 (by decide +kernel) (by decide +kernel)
theorem kn_RX3 : Cond.instantiable RX3 3 ∈ xTB := xmem 211 (by decide +kernel) (by decide +kernel)
theorem kn_RX7 : Cond.instantiable RX7 16 ∈ xTB := xmem 640 (by decide +kernel) (by decide +kernel)
theorem kC0 : xCl 0 RX0 TX0 5 tyX0 := ⟨rfl, fun w h => by have h2 := List.all_eq_true.mp (show (u_ws RX0 TX0 5).all (fun w => decide (w ∈ xTB)) = true by decide +kernel) w h; exact of_decide_eq_true h2, tyX0_ok, nmX0, kn_RX0, ki_RX0⟩
theorem kC1 : xCl 1 RX1 TX1 5 tyX1 := ⟨rfl, fun w h => by have h2 := List.all_eq_true.mp (show (u_ws RX1 TX1 5).all (fun w => decide (w ∈ xTB)) = true by decide +kernel) w h; exact of_decide_eq_true h2, tyX1_ok, nmX1, kn_RX1, ki_RX1⟩
theorem kC2 : xCl 2 RX2 TX2 3 tyX2 := ⟨rfl, fun w h => by have h2 := List.all_eq_true.mp (show (u_ws RX2 TX2 3).all (fun w => decide (w ∈ xTB)) = true by decide +kernel) w h; exact of_decide_eq_true h2, tyX2_ok, nmX2, kn_RX2, ki_RX2⟩
theorem kC3 : xCl 3 RX3 TX3 3 tyX3 := ⟨rfl, fun w h => by have h2 := List.all_eq_true.mp (show (u_ws RX3 TX3 3).all (fun w => decide (w ∈ xTB)) = true by decide +kernel) w h; exact of_decide_eq_true h2, tyX3_ok, nmX3, kn_RX3, ki_RX3⟩
theorem kC4 : xCl 4 RX4 TX4 7 tyX4 := ⟨rfl, fun w h => by have h2 := List.all_eq_true.mp (show (u_ws RX4 TX4 7).all (fun w => decide (w ∈ xTB)) = true by decide +kernel) w h; exact of_decide_eq_true h2, tyX4_ok, nmX4, kn_RX4, ki_RX4⟩
theorem kC5 : xCl 5 RX5 TX5 2 tyX5 := ⟨rfl, fun w h => by have h2 := List.all_eq_true.mp (show (u_ws RX5 TX5 2).all (fun w => decide (w ∈ xTB)) = true by decide +kernel) w h; exact of_decide_eq_true h2, tyX5_ok, nmX5, kn_RX5, ki_RX5⟩
theorem kC6 : xCl 6 RX6 TX6 8 tyX6 := ⟨rfl, fun w h => by have h2 := List.all_eq_true.mp (show (u_ws RX6 TX6 8).all (fun w => decide (w ∈ xTB)) = true by decide +kernel) w h; exact of_decide_eq_true h2, tyX6_ok, nmX6, kn_RX6, ki_RX6⟩
theorem kC7 : xCl 7 RX7 TX7 16 tyX7 := ⟨rfl, fun w h => by have h2 := List.all_eq_true.mp (show (u_ws RX7 TX7 16).all (fun w => decide (w ∈ xTB)) = true by decide +kernel) w h; exact of_decide_eq_true h2, tyX7_ok, nmX7, kn_RX7, ki_RX7⟩
theorem kf_X5_9 : xF RX5 9 5 0 (.array .char) true := ⟨_, _, _, _, kC5, by decide, xmem 75 (by decide +kernel) (by decide +kernel), rfl, rfl, rfl⟩
theorem kf_X1_52 : xF RX1 52 5 0 (.array .char) true := ⟨_, _, _, _, kC5, by decide, xmem 76 (by decide +kernel) (by decide +kernel), rfl, rfl, rfl⟩
theorem kf_X5_15 : xF RX5 15 5 1 .int false := ⟨_, _, _, _, kC5, by decide, xmem 77 (by decide +kernel) (by decide +kernel), rfl, rfl, rfl⟩
theorem kf_X6_81 : xF RX6 81 5 1 .int false := ⟨_, _, _, _, kC5, by decide, xmem 78 (by decide +kernel) (by decide +kernel), rfl, rfl, rfl⟩
theorem kf_X1_43 : xF RX1 43 5 1 .int false := ⟨_, _, _, _, kC5, by decide, xmem 79 (by decide +kernel) (by decide +kernel), rfl, rfl, rfl⟩
theorem kf_X0_9 : xF RX0 9 0 0 (.array .int) true := ⟨_, _, _, _, kC0, by decide, xmem 98 (by decide +kernel) (by decide +kernel), rfl, rfl, rfl⟩
theorem kf_X6_99 : xF RX6 99 0 0 (.array .int) true := ⟨_, _, _, _, kC0, by decide, xmem 99 (by decide +kernel) (by decide +kernel), rfl, rfl, rfl⟩
theorem kf_X1_108 : xF RX1 108 0 0 (.array .int) true := ⟨_, _, _, _, kC0, by decide, xmem 100 (by decide +kernel) (by decide +kernel), rfl, rfl, rfl⟩
theorem kf_X4_83 : xF RX4 83 0 0 (.array .int) true := ⟨_, _, _, _, kC0, by decide, xmem 101 (by decide +kernel) (by decide +kernel), rfl, rfl, rfl⟩
theorem kf_X0_15 : xF RX0 15 0 1 .int false := ⟨_, _, _, _, kC0, by decide, xmem 102 (by decide +kernel) (by decide +kernel), rfl, rfl, rfl⟩
theorem kf_X4_47 : xF RX4 47 0 1 .int false := ⟨_, _, _, _, kC0, by decide, xmem 103 (by decide +kernel) (by decide +kernel), rfl, rfl, rfl⟩
theorem kf_X6_92 : xF RX6 92 0 1 .int false := ⟨_, _, _, _, kC0, by decide, xmem 104 (by decide +kernel) (by decide +kernel), rfl, rfl, rfl⟩
theorem kf_X1_105 : xF RX1 105 0 1 .int false := ⟨_, _, _, _, kC0, by decide, xmem 105 (by decide +kernel) (by decide +kernel), rfl, rfl, rfl⟩
theorem kf_X0_19 : xF RX0 19 0 2 .int false := ⟨_, _, _, _, kC0, by decide, xmem 106 (by decide +kernel) (by decide +kernel), rfl, rfl, rfl⟩
theorem kf_X4_52 : xF RX4 52 0 2 .int false := ⟨_, _, _, _, kC0, by decide, xmem 107 (by decide +kernel) (by decide +kernel), rfl, rfl, rfl⟩
theorem kf_X1_87 : xF RX1 87 0 2 .int false := ⟨_, _, _, _, kC0, by decide, xmem 108 (by decide +kernel) (by decide +kernel), rfl, rfl, rfl⟩
theorem kf_X6_175 : xF RX6 175 0 2 .int false := ⟨_, _, _, _, kC0, by decide, xmem 109 (by decide +kernel) (by decide +kernel), rfl, rfl, rfl⟩
theorem kf_X0_22 : xF RX0 22 0 3 .int false := ⟨_, _, _, _, kC0, by decide, xmem 110 (by decide +kernel) (by decide +kernel), rfl, rfl, rfl⟩
theorem kf_X1_99 : xF RX1 99 0 3 .int false := ⟨_, _, _, _, kC0, by decide, xmem 111 (by decide +kernel) (by decide +kernel), rfl, rfl, rfl⟩
theorem kf_X0_25 : xF RX0 25 0 4 .int false := ⟨_, _, _, _, kC0, by decide, xmem 112 (by decide +kernel) (by decide +kernel), rfl, rfl, rfl⟩
theorem kf_X1_102 : xF RX1 102 0 4 .int false := ⟨_, _, _, _, kC0, by decide, xmem 113 (by decide +kernel) (by decide +kernel), rfl, rfl, rfl⟩
theorem kf_X4_31 : xF RX4 31 4 0 (.object RX0) true := ⟨_, _, _, _, kC4, by decide, xmem 132 (by decide +kernel) (by decide +kernel), rfl, rfl, rfl⟩
theorem kf_X4_9 : xF RX4 9 4 1 (.array .int) true := ⟨_, _, _, _, kC4, by decide, xmem 133 (by decide +kernel) (by decide +kernel), rfl, rfl, rfl⟩
theorem kf_X1_93 : xF RX1 93 4 1 (.array .int) true := ⟨_, _, _, _, kC4, by decide, xmem 134 (by decide +kernel) (by decide +kernel), rfl, rfl, rfl⟩
theorem kf_X6_119 : xF RX6 119 4 1 (.array .int) true := ⟨_, _, _, _, kC4, by decide, xmem 135 (by decide +kernel) (by decide +kernel), rfl, rfl, rfl⟩
theorem kf_X4_15 : xF RX4 15 4 2 (.array .int) true := ⟨_, _, _, _, kC4, by decide, xmem 136 (by decide +kernel) (by decide +kernel), rfl, rfl, rfl⟩
theorem kf_X3_22 : xF RX3 22 4 2 (.array .int) true := ⟨_, _, _, _, kC4, by decide, xmem 137 (by decide +kernel) (by decide +kernel), rfl, rfl, rfl⟩
theorem kf_X6_103 : xF RX6 103 4 2 (.array .int) true := ⟨_, _, _, _, kC4, by decide, xmem 138 (by decide +kernel) (by decide +kernel), rfl, rfl, rfl⟩
theorem kf_X1_111 : xF RX1 111 4 2 (.array .int) true := ⟨_, _, _, _, kC4, by decide, xmem 139 (by decide +kernel) (by decide +kernel), rfl, rfl, rfl⟩
theorem kf_X4_18 : xF RX4 18 4 3 (.array .int) true := ⟨_, _, _, _, kC4, by decide, xmem 140 (by decide +kernel) (by decide +kernel), rfl, rfl, rfl⟩
theorem kf_X6_106 : xF RX6 106 4 3 (.array .int) true := ⟨_, _, _, _, kC4, by decide, xmem 141 (by decide +kernel) (by decide +kernel), rfl, rfl, rfl⟩
theorem kf_X1_114 : xF RX1 114 4 3 (.array .int) true := ⟨_, _, _, _, kC4, by decide, xmem 142 (by decide +kernel) (by decide +kernel), rfl, rfl, rfl⟩
theorem kf_X4_21 : xF RX4 21 4 4 (.array .int) true := ⟨_, _, _, _, kC4, by decide, xmem 143 (by decide +kernel) (by decide +kernel), rfl, rfl, rfl⟩
theorem kf_X6_109 : xF RX6 109 4 4 (.array .int) true := ⟨_, _, _, _, kC4, by decide, xmem 144 (by decide +kernel) (by decide +kernel), rfl, rfl, rfl⟩
theorem kf_X4_24 : xF RX4 24 4 5 .int false := ⟨_, _, _, _, kC4, by decide, xmem 145 (by decide +kernel) (by decide +kernel), rfl, rfl, rfl⟩
theorem kf_X6_142 : xF RX6 142 4 5 .int false := ⟨_, _, _, _, kC4, by decide, xmem 146 (by decide +kernel) (by decide +kernel), rfl, rfl, rfl⟩
theorem kf_X1_117 : xF RX1 117 4 5 .int false := ⟨_, _, _, _, kC4, by decide, xmem 147 (by decide +kernel) (by decide +kernel), rfl, rfl, rfl⟩
theorem kf_X4_28 : xF RX4 28 4 6 .int false := ⟨_, _, _, _, kC4, by decide, xmem 148 (by decide +kernel) (by decide +kernel), rfl, rfl, rfl⟩
theorem kf_X6_131 : xF RX6 131 4 6 .int false := ⟨_, _, _, _, kC4, by decide, xmem 149 (by decide +kernel) (by decide +kernel), rfl, rfl, rfl⟩
theorem kf_X1_12 : xF RX1 12 1 0 (.object RX0) true := ⟨_, _, _, _, kC1, by decide, xmem 165 (by decide +kernel) (by decide +kernel), rfl, rfl, rfl⟩
theorem kf_X6_222 : xF RX6 222 1 0 (.object RX0) true := ⟨_, _, _, _, kC1, by decide, xmem 166 (by decide +kernel) (by decide +kernel), rfl, rfl, rfl⟩
theorem kf_X1_23 : xF RX1 23 1 1 (.object RX4) true := ⟨_, _, _, _, kC1, by decide, xmem 167 (by decide +kernel) (by decide +kernel), rfl, rfl, rfl⟩
theorem kf_X6_225 : xF RX6 225 1 1 (.object RX4) true := ⟨_, _, _, _, kC1, by decide, xmem 168 (by decide +kernel) (by decide +kernel), rfl, rfl, rfl⟩
theorem kf_X1_27 : xF RX1 27 1 2 (.array .int) true := ⟨_, _, _, _, kC1, by decide, xmem 169 (by decide +kernel) (by decide +kernel), rfl, rfl, rfl⟩
theorem kf_X1_31 : xF RX1 31 1 3 .int false := ⟨_, _, _, _, kC1, by decide, xmem 170 (by decide +kernel) (by decide +kernel), rfl, rfl, rfl⟩
theorem kf_X1_35 : xF RX1 35 1 4 .boolean false := ⟨_, _, _, _, kC1, by decide, xmem 171 (by decide +kernel) (by decide +kernel), rfl, rfl, rfl⟩
theorem kf_X2_24 : xF RX2 24 2 0 (.array (.object RX4)) true := ⟨_, _, _, _, kC2, by decide, xmem 199 (by decide +kernel) (by decide +kernel), rfl, rfl, rfl⟩
theorem kf_X2_7 : xF RX2 7 2 1 .int false := ⟨_, _, _, _, kC2, by decide, xmem 200 (by decide +kernel) (by decide +kernel), rfl, rfl, rfl⟩
theorem kf_X6_153 : xF RX6 153 2 1 .int false := ⟨_, _, _, _, kC2, by decide, xmem 201 (by decide +kernel) (by decide +kernel), rfl, rfl, rfl⟩
theorem kf_X2_13 : xF RX2 13 2 2 .int false := ⟨_, _, _, _, kC2, by decide, xmem 202 (by decide +kernel) (by decide +kernel), rfl, rfl, rfl⟩
theorem kf_X3_9 : xF RX3 9 3 0 (.array .int) true := ⟨_, _, _, _, kC3, by decide, xmem 216 (by decide +kernel) (by decide +kernel), rfl, rfl, rfl⟩
theorem kf_X3_15 : xF RX3 15 3 1 (.array .int) true := ⟨_, _, _, _, kC3, by decide, xmem 217 (by decide +kernel) (by decide +kernel), rfl, rfl, rfl⟩
theorem kf_X3_18 : xF RX3 18 3 2 .int false := ⟨_, _, _, _, kC3, by decide, xmem 218 (by decide +kernel) (by decide +kernel), rfl, rfl, rfl⟩
theorem kf_X6_192 : xF RX6 192 3 2 .int false := ⟨_, _, _, _, kC3, by decide, xmem 219 (by decide +kernel) (by decide +kernel), rfl, rfl, rfl⟩
theorem kg_J0_38 : Cond.fieldLink RJ0 38 "java/lang/String" "COMPACT_STRINGS" "Z" ∈ xTB := xmem 236 (by decide +kernel) (by decide +kernel)
theorem kg_J0_1053 : Cond.fieldLink RJ0 1053 "jdk/internal/util/Preconditions" "SIOOBE_FORMATTER" "Ljava/util/function/BiFunction;" ∈ xTB := xmem 252 (by decide +kernel) (by decide +kernel)
theorem kg_J2_44 : Cond.fieldLink RJ2 44 "java/lang/StringUTF16" "$assertionsDisabled" "Z" ∈ xTB := xmem 270 (by decide +kernel) (by decide +kernel)
theorem kg_J2_59 : Cond.fieldLink RJ2 59 "java/lang/StringUTF16" "HI_BYTE_SHIFT" "I" ∈ xTB := xmem 272 (by decide +kernel) (by decide +kernel)
theorem kg_J2_63 : Cond.fieldLink RJ2 63 "java/lang/StringUTF16" "LO_BYTE_SHIFT" "I" ∈ xTB := xmem 274 (by decide +kernel) (by decide +kernel)
theorem kf_X6_10 : xF RX6 10 6 0 (.object RX5) true := ⟨_, _, _, _, kC6, by decide, xmem 358 (by decide +kernel) (by decide +kernel), rfl, rfl, rfl⟩
theorem kf_X6_19 : xF RX6 19 6 1 (.object RX1) true := ⟨_, _, _, _, kC6, by decide, xmem 359 (by decide +kernel) (by decide +kernel), rfl, rfl, rfl⟩
theorem kf_X6_26 : xF RX6 26 6 2 (.object RX0) true := ⟨_, _, _, _, kC6, by decide, xmem 360 (by decide +kernel) (by decide +kernel), rfl, rfl, rfl⟩
theorem kf_X6_35 : xF RX6 35 6 3 (.object RX4) true := ⟨_, _, _, _, kC6, by decide, xmem 361 (by decide +kernel) (by decide +kernel), rfl, rfl, rfl⟩
theorem kf_X6_39 : xF RX6 39 6 4 (.object RX4) true := ⟨_, _, _, _, kC6, by decide, xmem 362 (by decide +kernel) (by decide +kernel), rfl, rfl, rfl⟩
theorem kf_X6_47 : xF RX6 47 6 5 (.object RX2) true := ⟨_, _, _, _, kC6, by decide, xmem 363 (by decide +kernel) (by decide +kernel), rfl, rfl, rfl⟩
theorem kf_X6_51 : xF RX6 51 6 6 (.object RX2) true := ⟨_, _, _, _, kC6, by decide, xmem 364 (by decide +kernel) (by decide +kernel), rfl, rfl, rfl⟩
theorem kf_X6_57 : xF RX6 57 6 7 (.object RX3) true := ⟨_, _, _, _, kC6, by decide, xmem 365 (by decide +kernel) (by decide +kernel), rfl, rfl, rfl⟩
theorem kf_X7_62 : xF RX7 62 7 0 .int false := ⟨_, _, _, _, kC7, by decide, xmem 657 (by decide +kernel) (by decide +kernel), rfl, rfl, rfl⟩
theorem kf_X7_7 : xF RX7 7 7 1 (.array .int) true := ⟨_, _, _, _, kC7, by decide, xmem 658 (by decide +kernel) (by decide +kernel), rfl, rfl, rfl⟩
theorem kf_X7_13 : xF RX7 13 7 2 (.array .int) true := ⟨_, _, _, _, kC7, by decide, xmem 659 (by decide +kernel) (by decide +kernel), rfl, rfl, rfl⟩
theorem kf_X7_16 : xF RX7 16 7 3 (.array .int) true := ⟨_, _, _, _, kC7, by decide, xmem 660 (by decide +kernel) (by decide +kernel), rfl, rfl, rfl⟩
theorem kf_X7_50 : xF RX7 50 7 4 .boolean false := ⟨_, _, _, _, kC7, by decide, xmem 661 (by decide +kernel) (by decide +kernel), rfl, rfl, rfl⟩
theorem kf_X7_19 : xF RX7 19 7 5 (.array .int) true := ⟨_, _, _, _, kC7, by decide, xmem 662 (by decide +kernel) (by decide +kernel), rfl, rfl, rfl⟩
theorem kf_X7_22 : xF RX7 22 7 6 (.array .int) true := ⟨_, _, _, _, kC7, by decide, xmem 663 (by decide +kernel) (by decide +kernel), rfl, rfl, rfl⟩
theorem kf_X7_25 : xF RX7 25 7 7 (.array .int) true := ⟨_, _, _, _, kC7, by decide, xmem 664 (by decide +kernel) (by decide +kernel), rfl, rfl, rfl⟩
theorem kf_X7_28 : xF RX7 28 7 8 (.array .int) true := ⟨_, _, _, _, kC7, by decide, xmem 665 (by decide +kernel) (by decide +kernel), rfl, rfl, rfl⟩
theorem kf_X7_101 : xF RX7 101 7 9 .int false := ⟨_, _, _, _, kC7, by decide, xmem 666 (by decide +kernel) (by decide +kernel), rfl, rfl, rfl⟩
theorem kf_X7_31 : xF RX7 31 7 10 (.array .int) true := ⟨_, _, _, _, kC7, by decide, xmem 667 (by decide +kernel) (by decide +kernel), rfl, rfl, rfl⟩
theorem kf_X7_104 : xF RX7 104 7 11 .int false := ⟨_, _, _, _, kC7, by decide, xmem 668 (by decide +kernel) (by decide +kernel), rfl, rfl, rfl⟩
theorem kf_X7_34 : xF RX7 34 7 12 (.array .int) true := ⟨_, _, _, _, kC7, by decide, xmem 669 (by decide +kernel) (by decide +kernel), rfl, rfl, rfl⟩
theorem kf_X7_98 : xF RX7 98 7 13 .int false := ⟨_, _, _, _, kC7, by decide, xmem 670 (by decide +kernel) (by decide +kernel), rfl, rfl, rfl⟩
theorem kf_X7_66 : xF RX7 66 7 14 .int false := ⟨_, _, _, _, kC7, by decide, xmem 671 (by decide +kernel) (by decide +kernel), rfl, rfl, rfl⟩
theorem kf_X7_37 : xF RX7 37 7 15 (.array .int) true := ⟨_, _, _, _, kC7, by decide, xmem 672 (by decide +kernel) (by decide +kernel), rfl, rfl, rfl⟩
theorem kg_J0_9 : Cond.fieldLink RJ0 9 "java/lang/String" "value" "[B" ∈ xTB := xmem 936 (by decide +kernel) (by decide +kernel)
theorem kg_J0_15 : Cond.fieldLink RJ0 15 "java/lang/String" "coder" "B" ∈ xTB := xmem 937 (by decide +kernel) (by decide +kernel)
theorem ky_X6_init : xY yX6_init cX6_init 2 none 0 := ⟨xmem 65 (by decide +kernel) (by decide +kernel), ki_RX6, by decide +kernel, by decide +kernel, by decide +kernel⟩
theorem km_X6_init : Cond.instanceMethod yX6_init ∈ xTB := xmem 64 (by decide +kernel) (by decide +kernel)
theorem ky_X5_init : xY yX5_init cX5_init 1 none 0 := ⟨xmem 73 (by decide +kernel) (by decide +kernel), ki_RX5, by decide +kernel, by decide +kernel, by decide +kernel⟩
theorem km_X5_init : Cond.instanceMethod yX5_init ∈ xTB := xmem 72 (by decide +kernel) (by decide +kernel)
theorem ky_X1_init : xY yX1_init cX1_init 1 none 0 := ⟨xmem 90 (by decide +kernel) (by decide +kernel), ki_RX1, by decide +kernel, by decide +kernel, by decide +kernel⟩
theorem km_X1_init : Cond.instanceMethod yX1_init ∈ xTB := xmem 89 (by decide +kernel) (by decide +kernel)
theorem ky_X0_init : xY yX0_init cX0_init 1 none 0 := ⟨xmem 96 (by decide +kernel) (by decide +kernel), ki_RX0, by decide +kernel, by decide +kernel, by decide +kernel⟩
theorem km_X0_init : Cond.instanceMethod yX0_init ∈ xTB := xmem 95 (by decide +kernel) (by decide +kernel)
theorem ky_X4_init : xY yX4_init cX4_init 2 none 1 := ⟨xmem 130 (by decide +kernel) (by decide +kernel), ki_RX4, by decide +kernel, by decide +kernel, by decide +kernel⟩
theorem km_X4_init : Cond.instanceMethod yX4_init ∈ xTB := xmem 129 (by decide +kernel) (by decide +kernel)
theorem ky_X2_init : xY yX2_init cX2_init 4 none 2 := ⟨xmem 191 (by decide +kernel) (by decide +kernel), ki_RX2, by decide +kernel, by decide +kernel, by decide +kernel⟩
theorem km_X2_init : Cond.instanceMethod yX2_init ∈ xTB := xmem 190 (by decide +kernel) (by decide +kernel)
theorem kx_max : Cond.code Lib.Math.max.name Lib.Math.max.code 2 (some .int) ∈ xTB := xmem 195 (by decide +kernel) (by decide +kernel)
theorem ky_X3_init : xY yX3_init cX3_init 1 none 0 := ⟨xmem 214 (by decide +kernel) (by decide +kernel), ki_RX3, by decide +kernel, by decide +kernel, by decide +kernel⟩
theorem km_X3_init : Cond.instanceMethod yX3_init ∈ xTB := xmem 213 (by decide +kernel) (by decide +kernel)
theorem ky_J0_length_8abf5 : xY yJ0_length_8abf5 cJ0_length_8abf5 1 (some .int) 0 := ⟨xmem 231 (by decide +kernel) (by decide +kernel), ki_RJ0, by decide +kernel, by decide +kernel, by decide +kernel⟩
theorem kv_J0_length_8abf5 : xYV yJ0_length_8abf5 := ⟨xmem 229 (by decide +kernel) (by decide +kernel), xmem 230 (by decide +kernel) (by decide +kernel)⟩
theorem ky_J0_coder_7d493 : xY yJ0_coder_7d493 cJ0_coder_7d493 1 (some .byte) 0 := ⟨xmem 235 (by decide +kernel) (by decide +kernel), ki_RJ0, by decide +kernel, by decide +kernel, by decide +kernel⟩
theorem kv_J0_coder_7d493 : xYV yJ0_coder_7d493 := ⟨xmem 233 (by decide +kernel) (by decide +kernel), xmem 234 (by decide +kernel) (by decide +kernel)⟩
theorem ky_J0_charAt_5068e : xY yJ0_charAt_5068e cJ0_charAt_5068e 2 (some .char) 1 := ⟨xmem 241 (by decide +kernel) (by decide +kernel), ki_RJ0, by decide +kernel, by decide +kernel, by decide +kernel⟩
theorem kv_J0_charAt_5068e : xYV yJ0_charAt_5068e := ⟨xmem 239 (by decide +kernel) (by decide +kernel), xmem 240 (by decide +kernel) (by decide +kernel)⟩
theorem ky_J0_isLatin1_aae02 : xY yJ0_isLatin1_aae02 cJ0_isLatin1_aae02 1 (some .boolean) 0 := ⟨xmem 245 (by decide +kernel) (by decide +kernel), ki_RJ0, by decide +kernel, by decide +kernel, by decide +kernel⟩
theorem kv_J0_isLatin1_aae02 : xYV yJ0_isLatin1_aae02 := ⟨xmem 243 (by decide +kernel) (by decide +kernel), xmem 244 (by decide +kernel) (by decide +kernel)⟩
theorem ky_J1_charAt_3b067 : xY yJ1_charAt_3b067 cJ1_charAt_3b067 2 (some .char) 2 := ⟨xmem 248 (by decide +kernel) (by decide +kernel), ki_RJ1, by decide +kernel, by decide +kernel, by decide +kernel⟩
theorem ks_J1_charAt_3b067 : Cond.static yJ1_charAt_3b067 ∈ xTB := xmem 247 (by decide +kernel) (by decide +kernel)
theorem ky_J0_checkIndex_df160 : xY yJ0_checkIndex_df160 cJ0_checkIndex_df160 2 none 2 := ⟨xmem 251 (by decide +kernel) (by decide +kernel), ki_RJ0, by decide +kernel, by decide +kernel, by decide +kernel⟩
theorem ks_J0_checkIndex_df160 : Cond.static yJ0_checkIndex_df160 ∈ xTB := xmem 250 (by decide +kernel) (by decide +kernel)
theorem ky_J3_checkIndex_8e157 : xY yJ3_checkIndex_8e157 cJ3_checkIndex_8e157 3 (some .int) 3 := ⟨xmem 256 (by decide +kernel) (by decide +kernel), ki_RJ3, by decide +kernel, by decide +kernel, by decide +kernel⟩
theorem ks_J3_checkIndex_8e157 : Cond.static yJ3_checkIndex_8e157 ∈ xTB := xmem 255 (by decide +kernel) (by decide +kernel)
theorem ky_J2_charAt_3b067 : xY yJ2_charAt_3b067 cJ2_charAt_3b067 2 (some .char) 2 := ⟨xmem 259 (by decide +kernel) (by decide +kernel), ki_RJ2, by decide +kernel, by decide +kernel, by decide +kernel⟩
theorem ks_J2_charAt_3b067 : Cond.static yJ2_charAt_3b067 ∈ xTB := xmem 258 (by decide +kernel) (by decide +kernel)
theorem ky_J2_checkIndex_2214a : xY yJ2_checkIndex_2214a cJ2_checkIndex_2214a 2 none 2 := ⟨xmem 262 (by decide +kernel) (by decide +kernel), ki_RJ2, by decide +kernel, by decide +kernel, by decide +kernel⟩
theorem ks_J2_checkIndex_2214a : Cond.static yJ2_checkIndex_2214a ∈ xTB := xmem 261 (by decide +kernel) (by decide +kernel)
theorem ky_J2_length_9d52b : xY yJ2_length_9d52b cJ2_length_9d52b 1 (some .int) 1 := ⟨xmem 265 (by decide +kernel) (by decide +kernel), ki_RJ2, by decide +kernel, by decide +kernel, by decide +kernel⟩
theorem ks_J2_length_9d52b : Cond.static yJ2_length_9d52b ∈ xTB := xmem 264 (by decide +kernel) (by decide +kernel)
theorem ky_J2_getChar_3b067 : xY yJ2_getChar_3b067 cJ2_getChar_3b067 2 (some .char) 2 := ⟨xmem 269 (by decide +kernel) (by decide +kernel), ki_RJ2, by decide +kernel, by decide +kernel, by decide +kernel⟩
theorem ks_J2_getChar_3b067 : Cond.static yJ2_getChar_3b067 ∈ xTB := xmem 268 (by decide +kernel) (by decide +kernel)
theorem ky_X5_add : xY yX5_add cX5_add 2 (some .boolean) 1 := ⟨xmem 279 (by decide +kernel) (by decide +kernel), ki_RX5, by decide +kernel, by decide +kernel, by decide +kernel⟩
theorem kv_X5_add : xYV yX5_add := ⟨xmem 277 (by decide +kernel) (by decide +kernel), xmem 278 (by decide +kernel) (by decide +kernel)⟩
theorem ky_X6_layOut : xY yX6_layOut cX6_layOut 1 (some .boolean) 0 := ⟨xmem 283 (by decide +kernel) (by decide +kernel), ki_RX6, by decide +kernel, by decide +kernel, by decide +kernel⟩
theorem kv_X6_layOut : xYV yX6_layOut := ⟨xmem 282 (by decide +kernel) (by decide +kernel), xmem 0 (by decide +kernel) (by decide +kernel)⟩
theorem ky_X1_firstFault : xY yX1_firstFault cX1_firstFault 5 (some .int) 1 := ⟨xmem 287 (by decide +kernel) (by decide +kernel), ki_RX1, by decide +kernel, by decide +kernel, by decide +kernel⟩
theorem kv_X1_firstFault : xYV yX1_firstFault := ⟨xmem 285 (by decide +kernel) (by decide +kernel), xmem 286 (by decide +kernel) (by decide +kernel)⟩
theorem ky_X0_clear : xY yX0_clear cX0_clear 1 none 0 := ⟨xmem 291 (by decide +kernel) (by decide +kernel), ki_RX0, by decide +kernel, by decide +kernel, by decide +kernel⟩
theorem kv_X0_clear : xYV yX0_clear := ⟨xmem 289 (by decide +kernel) (by decide +kernel), xmem 290 (by decide +kernel) (by decide +kernel)⟩
theorem ky_X4_clear : xY yX4_clear cX4_clear 1 none 0 := ⟨xmem 295 (by decide +kernel) (by decide +kernel), ki_RX4, by decide +kernel, by decide +kernel, by decide +kernel⟩
theorem kv_X4_clear : xYV yX4_clear := ⟨xmem 293 (by decide +kernel) (by decide +kernel), xmem 294 (by decide +kernel) (by decide +kernel)⟩
theorem ky_J7_fill_53178 : xY yJ7_fill_53178 cJ7_fill_53178 4 none 2 := ⟨xmem 298 (by decide +kernel) (by decide +kernel), ki_RJ7, by decide +kernel, by decide +kernel, by decide +kernel⟩
theorem ks_J7_fill_53178 : Cond.static yJ7_fill_53178 ∈ xTB := xmem 297 (by decide +kernel) (by decide +kernel)
theorem ky_X1_readNumbers : xY yX1_readNumbers cX1_readNumbers 7 (some .int) 2 := ⟨xmem 302 (by decide +kernel) (by decide +kernel), ki_RX1, by decide +kernel, by decide +kernel, by decide +kernel⟩
theorem kv_X1_readNumbers : xYV yX1_readNumbers := ⟨xmem 301 (by decide +kernel) (by decide +kernel), xmem 1 (by decide +kernel) (by decide +kernel)⟩
theorem ky_X1_addNumber : xY yX1_addNumber cX1_addNumber 2 (some .boolean) 1 := ⟨xmem 306 (by decide +kernel) (by decide +kernel), ki_RX1, by decide +kernel, by decide +kernel, by decide +kernel⟩
theorem kv_X1_addNumber : xYV yX1_addNumber := ⟨xmem 305 (by decide +kernel) (by decide +kernel), xmem 2 (by decide +kernel) (by decide +kernel)⟩
theorem ky_X1_takeItem : xY yX1_takeItem cX1_takeItem 2 (some .boolean) 1 := ⟨xmem 310 (by decide +kernel) (by decide +kernel), ki_RX1, by decide +kernel, by decide +kernel, by decide +kernel⟩
theorem kv_X1_takeItem : xYV yX1_takeItem := ⟨xmem 309 (by decide +kernel) (by decide +kernel), xmem 3 (by decide +kernel) (by decide +kernel)⟩
theorem ky_X1_takeSteps : xY yX1_takeSteps cX1_takeSteps 1 (some .boolean) 0 := ⟨xmem 314 (by decide +kernel) (by decide +kernel), ki_RX1, by decide +kernel, by decide +kernel, by decide +kernel⟩
theorem kv_X1_takeSteps : xYV yX1_takeSteps := ⟨xmem 313 (by decide +kernel) (by decide +kernel), xmem 4 (by decide +kernel) (by decide +kernel)⟩
theorem ky_X6_within : xY yX6_within cX6_within 3 (some .boolean) 3 := ⟨xmem 317 (by decide +kernel) (by decide +kernel), ki_RX6, by decide +kernel, by decide +kernel, by decide +kernel⟩
theorem ks_X6_within : Cond.static yX6_within ∈ xTB := xmem 316 (by decide +kernel) (by decide +kernel)
theorem ky_X1_takeWax : xY yX1_takeWax cX1_takeWax 2 (some .boolean) 0 := ⟨xmem 321 (by decide +kernel) (by decide +kernel), ki_RX1, by decide +kernel, by decide +kernel, by decide +kernel⟩
theorem kv_X1_takeWax : xYV yX1_takeWax := ⟨xmem 320 (by decide +kernel) (by decide +kernel), xmem 5 (by decide +kernel) (by decide +kernel)⟩
theorem ky_X0_hasStep : xY yX0_hasStep cX0_hasStep 2 (some .boolean) 1 := ⟨xmem 325 (by decide +kernel) (by decide +kernel), ki_RX0, by decide +kernel, by decide +kernel, by decide +kernel⟩
theorem kv_X0_hasStep : xYV yX0_hasStep := ⟨xmem 323 (by decide +kernel) (by decide +kernel), xmem 324 (by decide +kernel) (by decide +kernel)⟩
theorem ky_X1_takeKnob : xY yX1_takeKnob cX1_takeKnob 1 (some .boolean) 0 := ⟨xmem 329 (by decide +kernel) (by decide +kernel), ki_RX1, by decide +kernel, by decide +kernel, by decide +kernel⟩
theorem kv_X1_takeKnob : xYV yX1_takeKnob := ⟨xmem 328 (by decide +kernel) (by decide +kernel), xmem 6 (by decide +kernel) (by decide +kernel)⟩
theorem ky_X1_tellsOneStep : xY yX1_tellsOneStep cX1_tellsOneStep 1 (some .boolean) 0 := ⟨xmem 333 (by decide +kernel) (by decide +kernel), ki_RX1, by decide +kernel, by decide +kernel, by decide +kernel⟩
theorem kv_X1_tellsOneStep : xYV yX1_tellsOneStep := ⟨xmem 332 (by decide +kernel) (by decide +kernel), xmem 7 (by decide +kernel) (by decide +kernel)⟩
theorem ky_X1_takeTurning : xY yX1_takeTurning cX1_takeTurning 1 (some .boolean) 0 := ⟨xmem 337 (by decide +kernel) (by decide +kernel), ki_RX1, by decide +kernel, by decide +kernel, by decide +kernel⟩
theorem kv_X1_takeTurning : xYV yX1_takeTurning := ⟨xmem 336 (by decide +kernel) (by decide +kernel), xmem 8 (by decide +kernel) (by decide +kernel)⟩
theorem ky_X1_takeMinister : xY yX1_takeMinister cX1_takeMinister 2 (some .boolean) 0 := ⟨xmem 341 (by decide +kernel) (by decide +kernel), ki_RX1, by decide +kernel, by decide +kernel, by decide +kernel⟩
theorem kv_X1_takeMinister : xYV yX1_takeMinister := ⟨xmem 340 (by decide +kernel) (by decide +kernel), xmem 9 (by decide +kernel) (by decide +kernel)⟩
theorem ky_X1_takeFunds : xY yX1_takeFunds cX1_takeFunds 1 (some .boolean) 0 := ⟨xmem 345 (by decide +kernel) (by decide +kernel), ki_RX1, by decide +kernel, by decide +kernel, by decide +kernel⟩
theorem kv_X1_takeFunds : xYV yX1_takeFunds := ⟨xmem 344 (by decide +kernel) (by decide +kernel), xmem 10 (by decide +kernel) (by decide +kernel)⟩
theorem ky_X0_copy : xY yX0_copy cX0_copy 2 none 1 := ⟨xmem 349 (by decide +kernel) (by decide +kernel), ki_RX0, by decide +kernel, by decide +kernel, by decide +kernel⟩
theorem kv_X0_copy : xYV yX0_copy := ⟨xmem 347 (by decide +kernel) (by decide +kernel), xmem 348 (by decide +kernel) (by decide +kernel)⟩
theorem ky_X4_copy : xY yX4_copy cX4_copy 2 none 1 := ⟨xmem 356 (by decide +kernel) (by decide +kernel), ki_RX4, by decide +kernel, by decide +kernel, by decide +kernel⟩
theorem kv_X4_copy : xYV yX4_copy := ⟨xmem 354 (by decide +kernel) (by decide +kernel), xmem 355 (by decide +kernel) (by decide +kernel)⟩
theorem ky_X6_write : xY yX6_write cX6_write 2 (some .int) 1 := ⟨xmem 387 (by decide +kernel) (by decide +kernel), ki_RX6, by decide +kernel, by decide +kernel, by decide +kernel⟩
theorem kv_X6_write : xYV yX6_write := ⟨xmem 385 (by decide +kernel) (by decide +kernel), xmem 386 (by decide +kernel) (by decide +kernel)⟩
theorem ky_X6_wipe : xY yX6_wipe cX6_wipe 2 (some .int) 0 := ⟨xmem 392 (by decide +kernel) (by decide +kernel), ki_RX6, by decide +kernel, by decide +kernel, by decide +kernel⟩
theorem kv_X6_wipe : xYV yX6_wipe := ⟨xmem 390 (by decide +kernel) (by decide +kernel), xmem 391 (by decide +kernel) (by decide +kernel)⟩
theorem ky_X6_fault : xY yX6_fault cX6_fault 1 (some .int) 0 := ⟨xmem 396 (by decide +kernel) (by decide +kernel), ki_RX6, by decide +kernel, by decide +kernel, by decide +kernel⟩
theorem kv_X6_fault : xYV yX6_fault := ⟨xmem 394 (by decide +kernel) (by decide +kernel), xmem 395 (by decide +kernel) (by decide +kernel)⟩
theorem ky_X6_lay : xY yX6_lay cX6_lay 1 (some .int) 0 := ⟨xmem 400 (by decide +kernel) (by decide +kernel), ki_RX6, by decide +kernel, by decide +kernel, by decide +kernel⟩
theorem kv_X6_lay : xYV yX6_lay := ⟨xmem 398 (by decide +kernel) (by decide +kernel), xmem 399 (by decide +kernel) (by decide +kernel)⟩
theorem ky_X6_minister : xY yX6_minister cX6_minister 3 (some .int) 2 := ⟨xmem 404 (by decide +kernel) (by decide +kernel), ki_RX6, by decide +kernel, by decide +kernel, by decide +kernel⟩
theorem kv_X6_minister : xYV yX6_minister := ⟨xmem 402 (by decide +kernel) (by decide +kernel), xmem 403 (by decide +kernel) (by decide +kernel)⟩
theorem ky_X0_hasMinister : xY yX0_hasMinister cX0_hasMinister 2 (some .boolean) 1 := ⟨xmem 408 (by decide +kernel) (by decide +kernel), ki_RX0, by decide +kernel, by decide +kernel, by decide +kernel⟩
theorem kv_X0_hasMinister : xYV yX0_hasMinister := ⟨xmem 406 (by decide +kernel) (by decide +kernel), xmem 407 (by decide +kernel) (by decide +kernel)⟩
theorem ky_X4_speedOf : xY yX4_speedOf cX4_speedOf 4 (some .int) 1 := ⟨xmem 412 (by decide +kernel) (by decide +kernel), ki_RX4, by decide +kernel, by decide +kernel, by decide +kernel⟩
theorem kv_X4_speedOf : xYV yX4_speedOf := ⟨xmem 410 (by decide +kernel) (by decide +kernel), xmem 411 (by decide +kernel) (by decide +kernel)⟩
theorem ky_X0_isTop : xY yX0_isTop cX0_isTop 2 (some .boolean) 1 := ⟨xmem 417 (by decide +kernel) (by decide +kernel), ki_RX0, by decide +kernel, by decide +kernel, by decide +kernel⟩
theorem kv_X0_isTop : xYV yX0_isTop := ⟨xmem 415 (by decide +kernel) (by decide +kernel), xmem 416 (by decide +kernel) (by decide +kernel)⟩
theorem ky_X6_step : xY yX6_step cX6_step 3 (some .int) 2 := ⟨xmem 421 (by decide +kernel) (by decide +kernel), ki_RX6, by decide +kernel, by decide +kernel, by decide +kernel⟩
theorem kv_X6_step : xYV yX6_step := ⟨xmem 419 (by decide +kernel) (by decide +kernel), xmem 420 (by decide +kernel) (by decide +kernel)⟩
theorem ky_X0_hasKnob : xY yX0_hasKnob cX0_hasKnob 2 (some .boolean) 1 := ⟨xmem 426 (by decide +kernel) (by decide +kernel), ki_RX0, by decide +kernel, by decide +kernel, by decide +kernel⟩
theorem kv_X0_hasKnob : xYV yX0_hasKnob := ⟨xmem 424 (by decide +kernel) (by decide +kernel), xmem 425 (by decide +kernel) (by decide +kernel)⟩
theorem ky_X0_hasTurn : xY yX0_hasTurn cX0_hasTurn 2 (some .boolean) 1 := ⟨xmem 430 (by decide +kernel) (by decide +kernel), ki_RX0, by decide +kernel, by decide +kernel, by decide +kernel⟩
theorem kv_X0_hasTurn : xYV yX0_hasTurn := ⟨xmem 428 (by decide +kernel) (by decide +kernel), xmem 429 (by decide +kernel) (by decide +kernel)⟩
theorem ky_X4_howManyOn : xY yX4_howManyOn cX4_howManyOn 4 (some .int) 1 := ⟨xmem 434 (by decide +kernel) (by decide +kernel), ki_RX4, by decide +kernel, by decide +kernel, by decide +kernel⟩
theorem kv_X4_howManyOn : xYV yX4_howManyOn := ⟨xmem 432 (by decide +kernel) (by decide +kernel), xmem 433 (by decide +kernel) (by decide +kernel)⟩
theorem ky_X6_pass : xY yX6_pass cX6_pass 2 (some .int) 1 := ⟨xmem 438 (by decide +kernel) (by decide +kernel), ki_RX6, by decide +kernel, by decide +kernel, by decide +kernel⟩
theorem kv_X6_pass : xYV yX6_pass := ⟨xmem 436 (by decide +kernel) (by decide +kernel), xmem 437 (by decide +kernel) (by decide +kernel)⟩
theorem ky_X2_put : xY yX2_put cX2_put 2 none 1 := ⟨xmem 442 (by decide +kernel) (by decide +kernel), ki_RX2, by decide +kernel, by decide +kernel, by decide +kernel⟩
theorem kv_X2_put : xYV yX2_put := ⟨xmem 440 (by decide +kernel) (by decide +kernel), xmem 441 (by decide +kernel) (by decide +kernel)⟩
theorem kx_min : Cond.code Lib.Math.min.name Lib.Math.min.code 2 (some .int) ∈ xTB := xmem 446 (by decide +kernel) (by decide +kernel)
theorem ky_X4_goOn : xY yX4_goOn cX4_goOn 3 none 1 := ⟨xmem 450 (by decide +kernel) (by decide +kernel), ki_RX4, by decide +kernel, by decide +kernel, by decide +kernel⟩
theorem kv_X4_goOn : xYV yX4_goOn := ⟨xmem 448 (by decide +kernel) (by decide +kernel), xmem 449 (by decide +kernel) (by decide +kernel)⟩
theorem ky_X4_oneYear : xY yX4_oneYear cX4_oneYear 2 none 0 := ⟨xmem 454 (by decide +kernel) (by decide +kernel), ki_RX4, by decide +kernel, by decide +kernel, by decide +kernel⟩
theorem kv_X4_oneYear : xYV yX4_oneYear := ⟨xmem 452 (by decide +kernel) (by decide +kernel), xmem 453 (by decide +kernel) (by decide +kernel)⟩
theorem ky_X4_takeTurn : xY yX4_takeTurn cX4_takeTurn 3 none 1 := ⟨xmem 458 (by decide +kernel) (by decide +kernel), ki_RX4, by decide +kernel, by decide +kernel, by decide +kernel⟩
theorem kv_X4_takeTurn : xYV yX4_takeTurn := ⟨xmem 457 (by decide +kernel) (by decide +kernel), xmem 11 (by decide +kernel) (by decide +kernel)⟩
theorem ky_X4_comeDown : xY yX4_comeDown cX4_comeDown 8 none 2 := ⟨xmem 463 (by decide +kernel) (by decide +kernel), ki_RX4, by decide +kernel, by decide +kernel, by decide +kernel⟩
theorem kv_X4_comeDown : xYV yX4_comeDown := ⟨xmem 462 (by decide +kernel) (by decide +kernel), xmem 12 (by decide +kernel) (by decide +kernel)⟩
theorem ky_X4_governor : xY yX4_governor cX4_governor 3 (some .int) 0 := ⟨xmem 470 (by decide +kernel) (by decide +kernel), ki_RX4, by decide +kernel, by decide +kernel, by decide +kernel⟩
theorem kv_X4_governor : xYV yX4_governor := ⟨xmem 468 (by decide +kernel) (by decide +kernel), xmem 469 (by decide +kernel) (by decide +kernel)⟩
theorem ky_X6_wax : xY yX6_wax cX6_wax 2 (some .int) 1 := ⟨xmem 475 (by decide +kernel) (by decide +kernel), ki_RX6, by decide +kernel, by decide +kernel, by decide +kernel⟩
theorem kv_X6_wax : xYV yX6_wax := ⟨xmem 473 (by decide +kernel) (by decide +kernel), xmem 474 (by decide +kernel) (by decide +kernel)⟩
theorem ky_X4_addWax : xY yX4_addWax cX4_addWax 3 none 2 := ⟨xmem 479 (by decide +kernel) (by decide +kernel), ki_RX4, by decide +kernel, by decide +kernel, by decide +kernel⟩
theorem kv_X4_addWax : xYV yX4_addWax := ⟨xmem 477 (by decide +kernel) (by decide +kernel), xmem 478 (by decide +kernel) (by decide +kernel)⟩
theorem ky_X6_sand : xY yX6_sand cX6_sand 2 (some .int) 1 := ⟨xmem 483 (by decide +kernel) (by decide +kernel), ki_RX6, by decide +kernel, by decide +kernel, by decide +kernel⟩
theorem kv_X6_sand : xYV yX6_sand := ⟨xmem 481 (by decide +kernel) (by decide +kernel), xmem 482 (by decide +kernel) (by decide +kernel)⟩
theorem ky_X6_help : xY yX6_help cX6_help 3 (some .int) 1 := ⟨xmem 487 (by decide +kernel) (by decide +kernel), ki_RX6, by decide +kernel, by decide +kernel, by decide +kernel⟩
theorem kv_X6_help : xYV yX6_help := ⟨xmem 485 (by decide +kernel) (by decide +kernel), xmem 486 (by decide +kernel) (by decide +kernel)⟩
theorem ky_X6_undo : xY yX6_undo cX6_undo 1 (some .int) 0 := ⟨xmem 491 (by decide +kernel) (by decide +kernel), ki_RX6, by decide +kernel, by decide +kernel, by decide +kernel⟩
theorem kv_X6_undo : xYV yX6_undo := ⟨xmem 489 (by decide +kernel) (by decide +kernel), xmem 490 (by decide +kernel) (by decide +kernel)⟩
theorem ky_X2_takeLatest : xY yX2_takeLatest cX2_takeLatest 2 (some .boolean) 1 := ⟨xmem 495 (by decide +kernel) (by decide +kernel), ki_RX2, by decide +kernel, by decide +kernel, by decide +kernel⟩
theorem kv_X2_takeLatest : xYV yX2_takeLatest := ⟨xmem 493 (by decide +kernel) (by decide +kernel), xmem 494 (by decide +kernel) (by decide +kernel)⟩
theorem ky_X6_governs : xY yX6_governs cX6_governs 1 (some .int) 0 := ⟨xmem 499 (by decide +kernel) (by decide +kernel), ki_RX6, by decide +kernel, by decide +kernel, by decide +kernel⟩
theorem kv_X6_governs : xYV yX6_governs := ⟨xmem 497 (by decide +kernel) (by decide +kernel), xmem 498 (by decide +kernel) (by decide +kernel)⟩
theorem ky_X6_behind : xY yX6_behind cX6_behind 4 (some .int) 3 := ⟨xmem 504 (by decide +kernel) (by decide +kernel), ki_RX6, by decide +kernel, by decide +kernel, by decide +kernel⟩
theorem kv_X6_behind : xYV yX6_behind := ⟨xmem 502 (by decide +kernel) (by decide +kernel), xmem 503 (by decide +kernel) (by decide +kernel)⟩
theorem ky_X6_slide : xY yX6_slide cX6_slide 2 (some .int) 1 := ⟨xmem 508 (by decide +kernel) (by decide +kernel), ki_RX6, by decide +kernel, by decide +kernel, by decide +kernel⟩
theorem kv_X6_slide : xYV yX6_slide := ⟨xmem 506 (by decide +kernel) (by decide +kernel), xmem 507 (by decide +kernel) (by decide +kernel)⟩
theorem ky_X6_top : xY yX6_top cX6_top 3 (some .int) 1 := ⟨xmem 513 (by decide +kernel) (by decide +kernel), ki_RX6, by decide +kernel, by decide +kernel, by decide +kernel⟩
theorem kv_X6_top : xYV yX6_top := ⟨xmem 511 (by decide +kernel) (by decide +kernel), xmem 512 (by decide +kernel) (by decide +kernel)⟩
theorem ky_X6_topple : xY yX6_topple cX6_topple 4 (some .int) 1 := ⟨xmem 518 (by decide +kernel) (by decide +kernel), ki_RX6, by decide +kernel, by decide +kernel, by decide +kernel⟩
theorem kv_X6_topple : xYV yX6_topple := ⟨xmem 516 (by decide +kernel) (by decide +kernel), xmem 517 (by decide +kernel) (by decide +kernel)⟩
theorem ky_X4_slipsAtHisTurn : xY yX4_slipsAtHisTurn cX4_slipsAtHisTurn 3 (some .boolean) 1 := ⟨xmem 522 (by decide +kernel) (by decide +kernel), ki_RX4, by decide +kernel, by decide +kernel, by decide +kernel⟩
theorem kv_X4_slipsAtHisTurn : xYV yX4_slipsAtHisTurn := ⟨xmem 520 (by decide +kernel) (by decide +kernel), xmem 521 (by decide +kernel) (by decide +kernel)⟩
theorem ky_X6_plot : xY yX6_plot cX6_plot 6 (some .int) 3 := ⟨xmem 526 (by decide +kernel) (by decide +kernel), ki_RX6, by decide +kernel, by decide +kernel, by decide +kernel⟩
theorem kv_X6_plot : xYV yX6_plot := ⟨xmem 524 (by decide +kernel) (by decide +kernel), xmem 525 (by decide +kernel) (by decide +kernel)⟩
theorem ky_X6_governsByWax : xY yX6_governsByWax cX6_governsByWax 5 (some .boolean) 4 := ⟨xmem 530 (by decide +kernel) (by decide +kernel), ki_RX6, by decide +kernel, by decide +kernel, by decide +kernel⟩
theorem kv_X6_governsByWax : xYV yX6_governsByWax := ⟨xmem 529 (by decide +kernel) (by decide +kernel), xmem 13 (by decide +kernel) (by decide +kernel)⟩
theorem ky_X6_hold : xY yX6_hold cX6_hold 5 (some .int) 2 := ⟨xmem 534 (by decide +kernel) (by decide +kernel), ki_RX6, by decide +kernel, by decide +kernel, by decide +kernel⟩
theorem kv_X6_hold : xYV yX6_hold := ⟨xmem 532 (by decide +kernel) (by decide +kernel), xmem 533 (by decide +kernel) (by decide +kernel)⟩
theorem ky_X6_holdsBySand : xY yX6_holdsBySand cX6_holdsBySand 6 (some .boolean) 3 := ⟨xmem 538 (by decide +kernel) (by decide +kernel), ki_RX6, by decide +kernel, by decide +kernel, by decide +kernel⟩
theorem kv_X6_holdsBySand : xYV yX6_holdsBySand := ⟨xmem 537 (by decide +kernel) (by decide +kernel), xmem 14 (by decide +kernel) (by decide +kernel)⟩
theorem ky_X6_cabinet : xY yX6_cabinet cX6_cabinet 3 (some .int) 1 := ⟨xmem 542 (by decide +kernel) (by decide +kernel), ki_RX6, by decide +kernel, by decide +kernel, by decide +kernel⟩
theorem kv_X6_cabinet : xYV yX6_cabinet := ⟨xmem 540 (by decide +kernel) (by decide +kernel), xmem 541 (by decide +kernel) (by decide +kernel)⟩
theorem ky_X6_smallestCabinet : xY yX6_smallestCabinet cX6_smallestCabinet 5 (some .int) 0 := ⟨xmem 546 (by decide +kernel) (by decide +kernel), ki_RX6, by decide +kernel, by decide +kernel, by decide +kernel⟩
theorem kv_X6_smallestCabinet : xYV yX6_smallestCabinet := ⟨xmem 545 (by decide +kernel) (by decide +kernel), xmem 15 (by decide +kernel) (by decide +kernel)⟩
theorem ky_X4_weightOfSet : xY yX4_weightOfSet cX4_weightOfSet 4 (some .int) 1 := ⟨xmem 550 (by decide +kernel) (by decide +kernel), ki_RX4, by decide +kernel, by decide +kernel, by decide +kernel⟩
theorem kv_X4_weightOfSet : xYV yX4_weightOfSet := ⟨xmem 548 (by decide +kernel) (by decide +kernel), xmem 549 (by decide +kernel) (by decide +kernel)⟩
theorem ky_J6_bitCount_0f7a4 : xY yJ6_bitCount_0f7a4 cJ6_bitCount_0f7a4 1 (some .int) 1 := ⟨xmem 553 (by decide +kernel) (by decide +kernel), ki_RJ6, by decide +kernel, by decide +kernel, by decide +kernel⟩
theorem ks_J6_bitCount_0f7a4 : Cond.static yJ6_bitCount_0f7a4 ∈ xTB := xmem 552 (by decide +kernel) (by decide +kernel)
theorem ky_X6_seen : xY yX6_seen cX6_seen 3 (some .int) 2 := ⟨xmem 560 (by decide +kernel) (by decide +kernel), ki_RX6, by decide +kernel, by decide +kernel, by decide +kernel⟩
theorem kv_X6_seen : xYV yX6_seen := ⟨xmem 558 (by decide +kernel) (by decide +kernel), xmem 559 (by decide +kernel) (by decide +kernel)⟩
theorem ky_X3_add : xY yX3_add cX3_add 3 (some .boolean) 2 := ⟨xmem 564 (by decide +kernel) (by decide +kernel), ki_RX3, by decide +kernel, by decide +kernel, by decide +kernel⟩
theorem kv_X3_add : xYV yX3_add := ⟨xmem 562 (by decide +kernel) (by decide +kernel), xmem 563 (by decide +kernel) (by decide +kernel)⟩
theorem ky_X6_forget : xY yX6_forget cX6_forget 2 (some .int) 0 := ⟨xmem 568 (by decide +kernel) (by decide +kernel), ki_RX6, by decide +kernel, by decide +kernel, by decide +kernel⟩
theorem kv_X6_forget : xYV yX6_forget := ⟨xmem 566 (by decide +kernel) (by decide +kernel), xmem 567 (by decide +kernel) (by decide +kernel)⟩
theorem ky_X6_waxes : xY yX6_waxes cX6_waxes 4 (some .int) 1 := ⟨xmem 572 (by decide +kernel) (by decide +kernel), ki_RX6, by decide +kernel, by decide +kernel, by decide +kernel⟩
theorem kv_X6_waxes : xYV yX6_waxes := ⟨xmem 570 (by decide +kernel) (by decide +kernel), xmem 571 (by decide +kernel) (by decide +kernel)⟩
theorem ky_X6_bitIfSeen : xY yX6_bitIfSeen cX6_bitIfSeen 2 (some .int) 1 := ⟨xmem 576 (by decide +kernel) (by decide +kernel), ki_RX6, by decide +kernel, by decide +kernel, by decide +kernel⟩
theorem kv_X6_bitIfSeen : xYV yX6_bitIfSeen := ⟨xmem 575 (by decide +kernel) (by decide +kernel), xmem 16 (by decide +kernel) (by decide +kernel)⟩
theorem ky_X3_allHoldIn : xY yX3_allHoldIn cX3_allHoldIn 3 (some .boolean) 1 := ⟨xmem 580 (by decide +kernel) (by decide +kernel), ki_RX3, by decide +kernel, by decide +kernel, by decide +kernel⟩
theorem kv_X3_allHoldIn : xYV yX3_allHoldIn := ⟨xmem 578 (by decide +kernel) (by decide +kernel), xmem 579 (by decide +kernel) (by decide +kernel)⟩
theorem ky_X6_grips : xY yX6_grips cX6_grips 4 (some .int) 1 := ⟨xmem 584 (by decide +kernel) (by decide +kernel), ki_RX6, by decide +kernel, by decide +kernel, by decide +kernel⟩
theorem kv_X6_grips : xYV yX6_grips := ⟨xmem 582 (by decide +kernel) (by decide +kernel), xmem 583 (by decide +kernel) (by decide +kernel)⟩
theorem ky_X6_likely : xY yX6_likely cX6_likely 8 (some .int) 4 := ⟨xmem 588 (by decide +kernel) (by decide +kernel), ki_RX6, by decide +kernel, by decide +kernel, by decide +kernel⟩
theorem kv_X6_likely : xYV yX6_likely := ⟨xmem 586 (by decide +kernel) (by decide +kernel), xmem 587 (by decide +kernel) (by decide +kernel)⟩
theorem ky_X6_weightOf : xY yX6_weightOf cX6_weightOf 4 (some .int) 3 := ⟨xmem 591 (by decide +kernel) (by decide +kernel), ki_RX6, by decide +kernel, by decide +kernel, by decide +kernel⟩
theorem ks_X6_weightOf : Cond.static yX6_weightOf ∈ xTB := xmem 590 (by decide +kernel) (by decide +kernel)
theorem ky_X6_power : xY yX6_power cX6_power 4 (some .int) 2 := ⟨xmem 594 (by decide +kernel) (by decide +kernel), ki_RX6, by decide +kernel, by decide +kernel, by decide +kernel⟩
theorem ks_X6_power : Cond.static yX6_power ∈ xTB := xmem 593 (by decide +kernel) (by decide +kernel)
theorem ky_X6_governsByPath : xY yX6_governsByPath cX6_governsByPath 5 (some .boolean) 3 := ⟨xmem 598 (by decide +kernel) (by decide +kernel), ki_RX6, by decide +kernel, by decide +kernel, by decide +kernel⟩
theorem kv_X6_governsByPath : xYV yX6_governsByPath := ⟨xmem 597 (by decide +kernel) (by decide +kernel), xmem 17 (by decide +kernel) (by decide +kernel)⟩
theorem ky_X6_commonDivisor : xY yX6_commonDivisor cX6_commonDivisor 6 (some .int) 2 := ⟨xmem 601 (by decide +kernel) (by decide +kernel), ki_RX6, by decide +kernel, by decide +kernel, by decide +kernel⟩
theorem ks_X6_commonDivisor : Cond.static yX6_commonDivisor ∈ xTB := xmem 600 (by decide +kernel) (by decide +kernel)
theorem ky_X6_century : xY yX6_century cX6_century 8 (some .int) 3 := ⟨xmem 606 (by decide +kernel) (by decide +kernel), ki_RX6, by decide +kernel, by decide +kernel, by decide +kernel⟩
theorem kv_X6_century : xYV yX6_century := ⟨xmem 604 (by decide +kernel) (by decide +kernel), xmem 605 (by decide +kernel) (by decide +kernel)⟩
theorem ky_X6_draw : xY yX6_draw cX6_draw 4 (some .int) 2 := ⟨xmem 609 (by decide +kernel) (by decide +kernel), ki_RX6, by decide +kernel, by decide +kernel, by decide +kernel⟩
theorem ks_X6_draw : Cond.static yX6_draw ∈ xTB := xmem 608 (by decide +kernel) (by decide +kernel)
theorem ky_X4_weather : xY yX4_weather cX4_weather 2 none 1 := ⟨xmem 617 (by decide +kernel) (by decide +kernel), ki_RX4, by decide +kernel, by decide +kernel, by decide +kernel⟩
theorem kv_X4_weather : xYV yX4_weather := ⟨xmem 615 (by decide +kernel) (by decide +kernel), xmem 616 (by decide +kernel) (by decide +kernel)⟩
theorem ky_X6_keep : xY yX6_keep cX6_keep 1 (some .int) 0 := ⟨xmem 622 (by decide +kernel) (by decide +kernel), ki_RX6, by decide +kernel, by decide +kernel, by decide +kernel⟩
theorem kv_X6_keep : xYV yX6_keep := ⟨xmem 620 (by decide +kernel) (by decide +kernel), xmem 621 (by decide +kernel) (by decide +kernel)⟩
theorem ky_X2_isFull : xY yX2_isFull cX2_isFull 1 (some .boolean) 0 := ⟨xmem 626 (by decide +kernel) (by decide +kernel), ki_RX2, by decide +kernel, by decide +kernel, by decide +kernel⟩
theorem kv_X2_isFull : xYV yX2_isFull := ⟨xmem 624 (by decide +kernel) (by decide +kernel), xmem 625 (by decide +kernel) (by decide +kernel)⟩
theorem ky_X6_back : xY yX6_back cX6_back 1 (some .int) 0 := ⟨xmem 630 (by decide +kernel) (by decide +kernel), ki_RX6, by decide +kernel, by decide +kernel, by decide +kernel⟩
theorem kv_X6_back : xYV yX6_back := ⟨xmem 628 (by decide +kernel) (by decide +kernel), xmem 629 (by decide +kernel) (by decide +kernel)⟩
theorem ky_X6_count : xY yX6_count cX6_count 2 (some .int) 1 := ⟨xmem 634 (by decide +kernel) (by decide +kernel), ki_RX6, by decide +kernel, by decide +kernel, by decide +kernel⟩
theorem kv_X6_count : xYV yX6_count := ⟨xmem 632 (by decide +kernel) (by decide +kernel), xmem 633 (by decide +kernel) (by decide +kernel)⟩
theorem ky_X4_allWax : xY yX4_allWax cX4_allWax 3 (some .int) 0 := ⟨xmem 638 (by decide +kernel) (by decide +kernel), ki_RX4, by decide +kernel, by decide +kernel, by decide +kernel⟩
theorem kv_X4_allWax : xYV yX4_allWax := ⟨xmem 636 (by decide +kernel) (by decide +kernel), xmem 637 (by decide +kernel) (by decide +kernel)⟩
theorem ky_X7_init : xY yX7_init cX7_init 1 none 0 := ⟨xmem 643 (by decide +kernel) (by decide +kernel), ki_RX7, by decide +kernel, by decide +kernel, by decide +kernel⟩
theorem km_X7_init : Cond.instanceMethod yX7_init ∈ xTB := xmem 642 (by decide +kernel) (by decide +kernel)
theorem ky_X7_empty : xY yX7_empty cX7_empty 2 none 0 := ⟨xmem 648 (by decide +kernel) (by decide +kernel), ki_RX7, by decide +kernel, by decide +kernel, by decide +kernel⟩
theorem kv_X7_empty : xYV yX7_empty := ⟨xmem 647 (by decide +kernel) (by decide +kernel), xmem 18 (by decide +kernel) (by decide +kernel)⟩
theorem ky_X7_firstOne : xY yX7_firstOne cX7_firstOne 5 none 3 := ⟨xmem 652 (by decide +kernel) (by decide +kernel), ki_RX7, by decide +kernel, by decide +kernel, by decide +kernel⟩
theorem kv_X7_firstOne : xYV yX7_firstOne := ⟨xmem 651 (by decide +kernel) (by decide +kernel), xmem 19 (by decide +kernel) (by decide +kernel)⟩
theorem ky_X7_begin : xY yX7_begin cX7_begin 2 none 0 := ⟨xmem 656 (by decide +kernel) (by decide +kernel), ki_RX7, by decide +kernel, by decide +kernel, by decide +kernel⟩
theorem kv_X7_begin : xYV yX7_begin := ⟨xmem 655 (by decide +kernel) (by decide +kernel), xmem 20 (by decide +kernel) (by decide +kernel)⟩
theorem ky_X7_write : xY yX7_write cX7_write 2 (some .int) 1 := ⟨xmem 709 (by decide +kernel) (by decide +kernel), ki_RX7, by decide +kernel, by decide +kernel, by decide +kernel⟩
theorem kv_X7_write : xYV yX7_write := ⟨xmem 707 (by decide +kernel) (by decide +kernel), xmem 708 (by decide +kernel) (by decide +kernel)⟩
theorem ky_X7_in : xY yX7_in cX7_in 6 (some .boolean) 3 := ⟨xmem 714 (by decide +kernel) (by decide +kernel), ki_RX7, by decide +kernel, by decide +kernel, by decide +kernel⟩
theorem ks_X7_in : Cond.static yX7_in ∈ xTB := xmem 713 (by decide +kernel) (by decide +kernel)
theorem ky_X7_wipe : xY yX7_wipe cX7_wipe 2 (some .int) 0 := ⟨xmem 718 (by decide +kernel) (by decide +kernel), ki_RX7, by decide +kernel, by decide +kernel, by decide +kernel⟩
theorem kv_X7_wipe : xYV yX7_wipe := ⟨xmem 716 (by decide +kernel) (by decide +kernel), xmem 717 (by decide +kernel) (by decide +kernel)⟩
theorem ky_X7_fault : xY yX7_fault cX7_fault 1 (some .int) 0 := ⟨xmem 722 (by decide +kernel) (by decide +kernel), ki_RX7, by decide +kernel, by decide +kernel, by decide +kernel⟩
theorem kv_X7_fault : xYV yX7_fault := ⟨xmem 720 (by decide +kernel) (by decide +kernel), xmem 721 (by decide +kernel) (by decide +kernel)⟩
theorem ky_X7_readAll : xY yX7_readAll cX7_readAll 2 (some .int) 0 := ⟨xmem 726 (by decide +kernel) (by decide +kernel), ki_RX7, by decide +kernel, by decide +kernel, by decide +kernel⟩
theorem kv_X7_readAll : xYV yX7_readAll := ⟨xmem 725 (by decide +kernel) (by decide +kernel), xmem 21 (by decide +kernel) (by decide +kernel)⟩
theorem ky_X7_item : xY yX7_item cX7_item 3 (some .boolean) 0 := ⟨xmem 730 (by decide +kernel) (by decide +kernel), ki_RX7, by decide +kernel, by decide +kernel, by decide +kernel⟩
theorem kv_X7_item : xYV yX7_item := ⟨xmem 729 (by decide +kernel) (by decide +kernel), xmem 22 (by decide +kernel) (by decide +kernel)⟩
theorem ky_X7_letterAt : xY yX7_letterAt cX7_letterAt 2 (some .int) 1 := ⟨xmem 734 (by decide +kernel) (by decide +kernel), ki_RX7, by decide +kernel, by decide +kernel, by decide +kernel⟩
theorem kv_X7_letterAt : xYV yX7_letterAt := ⟨xmem 733 (by decide +kernel) (by decide +kernel), xmem 23 (by decide +kernel) (by decide +kernel)⟩
theorem ky_X7_numbers : xY yX7_numbers cX7_numbers 5 (some .boolean) 1 := ⟨xmem 738 (by decide +kernel) (by decide +kernel), ki_RX7, by decide +kernel, by decide +kernel, by decide +kernel⟩
theorem kv_X7_numbers : xYV yX7_numbers := ⟨xmem 737 (by decide +kernel) (by decide +kernel), xmem 24 (by decide +kernel) (by decide +kernel)⟩
theorem ky_X7_ministerItem : xY yX7_ministerItem cX7_ministerItem 2 (some .boolean) 0 := ⟨xmem 747 (by decide +kernel) (by decide +kernel), ki_RX7, by decide +kernel, by decide +kernel, by decide +kernel⟩
theorem kv_X7_ministerItem : xYV yX7_ministerItem := ⟨xmem 746 (by decide +kernel) (by decide +kernel), xmem 25 (by decide +kernel) (by decide +kernel)⟩
theorem ky_X7_lay : xY yX7_lay cX7_lay 1 (some .int) 0 := ⟨xmem 751 (by decide +kernel) (by decide +kernel), ki_RX7, by decide +kernel, by decide +kernel, by decide +kernel⟩
theorem kv_X7_lay : xYV yX7_lay := ⟨xmem 749 (by decide +kernel) (by decide +kernel), xmem 750 (by decide +kernel) (by decide +kernel)⟩
theorem ky_X7_minister : xY yX7_minister cX7_minister 3 (some .int) 2 := ⟨xmem 755 (by decide +kernel) (by decide +kernel), ki_RX7, by decide +kernel, by decide +kernel, by decide +kernel⟩
theorem kv_X7_minister : xYV yX7_minister := ⟨xmem 753 (by decide +kernel) (by decide +kernel), xmem 754 (by decide +kernel) (by decide +kernel)⟩
theorem ky_X7_isOne : xY yX7_isOne cX7_isOne 2 (some .boolean) 1 := ⟨xmem 759 (by decide +kernel) (by decide +kernel), ki_RX7, by decide +kernel, by decide +kernel, by decide +kernel⟩
theorem kv_X7_isOne : xYV yX7_isOne := ⟨xmem 758 (by decide +kernel) (by decide +kernel), xmem 26 (by decide +kernel) (by decide +kernel)⟩
theorem ky_X7_aside : xY yX7_aside cX7_aside 2 none 0 := ⟨xmem 764 (by decide +kernel) (by decide +kernel), ki_RX7, by decide +kernel, by decide +kernel, by decide +kernel⟩
theorem kv_X7_aside : xYV yX7_aside := ⟨xmem 763 (by decide +kernel) (by decide +kernel), xmem 27 (by decide +kernel) (by decide +kernel)⟩
theorem ky_X7_lack : xY yX7_lack cX7_lack 4 (some .int) 1 := ⟨xmem 768 (by decide +kernel) (by decide +kernel), ki_RX7, by decide +kernel, by decide +kernel, by decide +kernel⟩
theorem kv_X7_lack : xYV yX7_lack := ⟨xmem 767 (by decide +kernel) (by decide +kernel), xmem 28 (by decide +kernel) (by decide +kernel)⟩
theorem ky_X7_step : xY yX7_step cX7_step 5 (some .int) 2 := ⟨xmem 772 (by decide +kernel) (by decide +kernel), ki_RX7, by decide +kernel, by decide +kernel, by decide +kernel⟩
theorem kv_X7_step : xYV yX7_step := ⟨xmem 770 (by decide +kernel) (by decide +kernel), xmem 771 (by decide +kernel) (by decide +kernel)⟩
theorem ky_X7_isStep : xY yX7_isStep cX7_isStep 2 (some .boolean) 1 := ⟨xmem 776 (by decide +kernel) (by decide +kernel), ki_RX7, by decide +kernel, by decide +kernel, by decide +kernel⟩
theorem kv_X7_isStep : xYV yX7_isStep := ⟨xmem 775 (by decide +kernel) (by decide +kernel), xmem 29 (by decide +kernel) (by decide +kernel)⟩
theorem ky_X7_pass : xY yX7_pass cX7_pass 2 (some .int) 1 := ⟨xmem 780 (by decide +kernel) (by decide +kernel), ki_RX7, by decide +kernel, by decide +kernel, by decide +kernel⟩
theorem kv_X7_pass : xYV yX7_pass := ⟨xmem 778 (by decide +kernel) (by decide +kernel), xmem 779 (by decide +kernel) (by decide +kernel)⟩
theorem ky_X7_note : xY yX7_note cX7_note 2 none 0 := ⟨xmem 785 (by decide +kernel) (by decide +kernel), ki_RX7, by decide +kernel, by decide +kernel, by decide +kernel⟩
theorem kv_X7_note : xYV yX7_note := ⟨xmem 784 (by decide +kernel) (by decide +kernel), xmem 30 (by decide +kernel) (by decide +kernel)⟩
theorem ky_X7_goYears : xY yX7_goYears cX7_goYears 3 none 1 := ⟨xmem 789 (by decide +kernel) (by decide +kernel), ki_RX7, by decide +kernel, by decide +kernel, by decide +kernel⟩
theorem kv_X7_goYears : xYV yX7_goYears := ⟨xmem 788 (by decide +kernel) (by decide +kernel), xmem 31 (by decide +kernel) (by decide +kernel)⟩
theorem ky_X7_goYear : xY yX7_goYear cX7_goYear 2 none 0 := ⟨xmem 793 (by decide +kernel) (by decide +kernel), ki_RX7, by decide +kernel, by decide +kernel, by decide +kernel⟩
theorem kv_X7_goYear : xYV yX7_goYear := ⟨xmem 792 (by decide +kernel) (by decide +kernel), xmem 32 (by decide +kernel) (by decide +kernel)⟩
theorem ky_X7_goOne : xY yX7_goOne cX7_goOne 3 none 1 := ⟨xmem 797 (by decide +kernel) (by decide +kernel), ki_RX7, by decide +kernel, by decide +kernel, by decide +kernel⟩
theorem kv_X7_goOne : xYV yX7_goOne := ⟨xmem 796 (by decide +kernel) (by decide +kernel), xmem 33 (by decide +kernel) (by decide +kernel)⟩
theorem ky_X7_slideDown : xY yX7_slideDown cX7_slideDown 5 none 2 := ⟨xmem 801 (by decide +kernel) (by decide +kernel), ki_RX7, by decide +kernel, by decide +kernel, by decide +kernel⟩
theorem kv_X7_slideDown : xYV yX7_slideDown := ⟨xmem 800 (by decide +kernel) (by decide +kernel), xmem 34 (by decide +kernel) (by decide +kernel)⟩
theorem ky_X7_stops : xY yX7_stops cX7_stops 3 (some .boolean) 2 := ⟨xmem 805 (by decide +kernel) (by decide +kernel), ki_RX7, by decide +kernel, by decide +kernel, by decide +kernel⟩
theorem kv_X7_stops : xYV yX7_stops := ⟨xmem 804 (by decide +kernel) (by decide +kernel), xmem 35 (by decide +kernel) (by decide +kernel)⟩
theorem ky_X7_has : xY yX7_has cX7_has 2 (some .boolean) 2 := ⟨xmem 808 (by decide +kernel) (by decide +kernel), ki_RX7, by decide +kernel, by decide +kernel, by decide +kernel⟩
theorem ks_X7_has : Cond.static yX7_has ∈ xTB := xmem 807 (by decide +kernel) (by decide +kernel)
theorem ky_X7_governor : xY yX7_governor cX7_governor 3 (some .int) 0 := ⟨xmem 812 (by decide +kernel) (by decide +kernel), ki_RX7, by decide +kernel, by decide +kernel, by decide +kernel⟩
theorem kv_X7_governor : xYV yX7_governor := ⟨xmem 811 (by decide +kernel) (by decide +kernel), xmem 36 (by decide +kernel) (by decide +kernel)⟩
theorem ky_X7_take : xY yX7_take cX7_take 2 none 0 := ⟨xmem 816 (by decide +kernel) (by decide +kernel), ki_RX7, by decide +kernel, by decide +kernel, by decide +kernel⟩
theorem kv_X7_take : xYV yX7_take := ⟨xmem 815 (by decide +kernel) (by decide +kernel), xmem 37 (by decide +kernel) (by decide +kernel)⟩
theorem ky_X7_wax : xY yX7_wax cX7_wax 2 (some .int) 1 := ⟨xmem 820 (by decide +kernel) (by decide +kernel), ki_RX7, by decide +kernel, by decide +kernel, by decide +kernel⟩
theorem kv_X7_wax : xYV yX7_wax := ⟨xmem 818 (by decide +kernel) (by decide +kernel), xmem 819 (by decide +kernel) (by decide +kernel)⟩
theorem ky_X7_sand : xY yX7_sand cX7_sand 2 (some .int) 1 := ⟨xmem 824 (by decide +kernel) (by decide +kernel), ki_RX7, by decide +kernel, by decide +kernel, by decide +kernel⟩
theorem kv_X7_sand : xYV yX7_sand := ⟨xmem 822 (by decide +kernel) (by decide +kernel), xmem 823 (by decide +kernel) (by decide +kernel)⟩
theorem ky_X7_help : xY yX7_help cX7_help 3 (some .int) 1 := ⟨xmem 828 (by decide +kernel) (by decide +kernel), ki_RX7, by decide +kernel, by decide +kernel, by decide +kernel⟩
theorem kv_X7_help : xYV yX7_help := ⟨xmem 826 (by decide +kernel) (by decide +kernel), xmem 827 (by decide +kernel) (by decide +kernel)⟩
theorem ky_X7_undo : xY yX7_undo cX7_undo 2 (some .int) 0 := ⟨xmem 832 (by decide +kernel) (by decide +kernel), ki_RX7, by decide +kernel, by decide +kernel, by decide +kernel⟩
theorem kv_X7_undo : xYV yX7_undo := ⟨xmem 830 (by decide +kernel) (by decide +kernel), xmem 831 (by decide +kernel) (by decide +kernel)⟩
theorem ky_X7_governs : xY yX7_governs cX7_governs 1 (some .int) 0 := ⟨xmem 836 (by decide +kernel) (by decide +kernel), ki_RX7, by decide +kernel, by decide +kernel, by decide +kernel⟩
theorem kv_X7_governs : xYV yX7_governs := ⟨xmem 834 (by decide +kernel) (by decide +kernel), xmem 835 (by decide +kernel) (by decide +kernel)⟩
theorem ky_X7_behind : xY yX7_behind cX7_behind 4 (some .int) 3 := ⟨xmem 840 (by decide +kernel) (by decide +kernel), ki_RX7, by decide +kernel, by decide +kernel, by decide +kernel⟩
theorem kv_X7_behind : xYV yX7_behind := ⟨xmem 838 (by decide +kernel) (by decide +kernel), xmem 839 (by decide +kernel) (by decide +kernel)⟩
theorem ky_X7_slide : xY yX7_slide cX7_slide 2 (some .int) 1 := ⟨xmem 844 (by decide +kernel) (by decide +kernel), ki_RX7, by decide +kernel, by decide +kernel, by decide +kernel⟩
theorem kv_X7_slide : xYV yX7_slide := ⟨xmem 842 (by decide +kernel) (by decide +kernel), xmem 843 (by decide +kernel) (by decide +kernel)⟩
theorem ky_X7_top : xY yX7_top cX7_top 3 (some .int) 1 := ⟨xmem 848 (by decide +kernel) (by decide +kernel), ki_RX7, by decide +kernel, by decide +kernel, by decide +kernel⟩
theorem kv_X7_top : xYV yX7_top := ⟨xmem 846 (by decide +kernel) (by decide +kernel), xmem 847 (by decide +kernel) (by decide +kernel)⟩
theorem ky_X7_topple : xY yX7_topple cX7_topple 5 (some .int) 1 := ⟨xmem 852 (by decide +kernel) (by decide +kernel), ki_RX7, by decide +kernel, by decide +kernel, by decide +kernel⟩
theorem kv_X7_topple : xYV yX7_topple := ⟨xmem 850 (by decide +kernel) (by decide +kernel), xmem 851 (by decide +kernel) (by decide +kernel)⟩
theorem ky_X7_plot : xY yX7_plot cX7_plot 6 (some .int) 3 := ⟨xmem 856 (by decide +kernel) (by decide +kernel), ki_RX7, by decide +kernel, by decide +kernel, by decide +kernel⟩
theorem kv_X7_plot : xYV yX7_plot := ⟨xmem 854 (by decide +kernel) (by decide +kernel), xmem 855 (by decide +kernel) (by decide +kernel)⟩
theorem ky_X7_governsWith : xY yX7_governsWith cX7_governsWith 5 (some .boolean) 4 := ⟨xmem 861 (by decide +kernel) (by decide +kernel), ki_RX7, by decide +kernel, by decide +kernel, by decide +kernel⟩
theorem kv_X7_governsWith : xYV yX7_governsWith := ⟨xmem 860 (by decide +kernel) (by decide +kernel), xmem 38 (by decide +kernel) (by decide +kernel)⟩
theorem ky_X7_hold : xY yX7_hold cX7_hold 5 (some .int) 2 := ⟨xmem 865 (by decide +kernel) (by decide +kernel), ki_RX7, by decide +kernel, by decide +kernel, by decide +kernel⟩
theorem kv_X7_hold : xYV yX7_hold := ⟨xmem 863 (by decide +kernel) (by decide +kernel), xmem 864 (by decide +kernel) (by decide +kernel)⟩
theorem ky_X7_holds : xY yX7_holds cX7_holds 8 (some .boolean) 3 := ⟨xmem 869 (by decide +kernel) (by decide +kernel), ki_RX7, by decide +kernel, by decide +kernel, by decide +kernel⟩
theorem kv_X7_holds : xYV yX7_holds := ⟨xmem 868 (by decide +kernel) (by decide +kernel), xmem 39 (by decide +kernel) (by decide +kernel)⟩
theorem ky_X7_cabinet : xY yX7_cabinet cX7_cabinet 5 (some .int) 1 := ⟨xmem 873 (by decide +kernel) (by decide +kernel), ki_RX7, by decide +kernel, by decide +kernel, by decide +kernel⟩
theorem kv_X7_cabinet : xYV yX7_cabinet := ⟨xmem 871 (by decide +kernel) (by decide +kernel), xmem 872 (by decide +kernel) (by decide +kernel)⟩
theorem ky_X7_ones : xY yX7_ones cX7_ones 3 (some .int) 1 := ⟨xmem 876 (by decide +kernel) (by decide +kernel), ki_RX7, by decide +kernel, by decide +kernel, by decide +kernel⟩
theorem ks_X7_ones : Cond.static yX7_ones ∈ xTB := xmem 875 (by decide +kernel) (by decide +kernel)
theorem ky_X7_weight : xY yX7_weight cX7_weight 4 (some .int) 1 := ⟨xmem 880 (by decide +kernel) (by decide +kernel), ki_RX7, by decide +kernel, by decide +kernel, by decide +kernel⟩
theorem kv_X7_weight : xYV yX7_weight := ⟨xmem 879 (by decide +kernel) (by decide +kernel), xmem 40 (by decide +kernel) (by decide +kernel)⟩
theorem ky_X7_seen : xY yX7_seen cX7_seen 3 (some .int) 2 := ⟨xmem 884 (by decide +kernel) (by decide +kernel), ki_RX7, by decide +kernel, by decide +kernel, by decide +kernel⟩
theorem kv_X7_seen : xYV yX7_seen := ⟨xmem 882 (by decide +kernel) (by decide +kernel), xmem 883 (by decide +kernel) (by decide +kernel)⟩
theorem ky_X7_forget : xY yX7_forget cX7_forget 2 (some .int) 0 := ⟨xmem 888 (by decide +kernel) (by decide +kernel), ki_RX7, by decide +kernel, by decide +kernel, by decide +kernel⟩
theorem kv_X7_forget : xYV yX7_forget := ⟨xmem 886 (by decide +kernel) (by decide +kernel), xmem 887 (by decide +kernel) (by decide +kernel)⟩
theorem ky_X7_waxes : xY yX7_waxes cX7_waxes 4 (some .int) 1 := ⟨xmem 892 (by decide +kernel) (by decide +kernel), ki_RX7, by decide +kernel, by decide +kernel, by decide +kernel⟩
theorem kv_X7_waxes : xYV yX7_waxes := ⟨xmem 890 (by decide +kernel) (by decide +kernel), xmem 891 (by decide +kernel) (by decide +kernel)⟩
theorem ky_X7_isSeen : xY yX7_isSeen cX7_isSeen 3 (some .boolean) 0 := ⟨xmem 896 (by decide +kernel) (by decide +kernel), ki_RX7, by decide +kernel, by decide +kernel, by decide +kernel⟩
theorem kv_X7_isSeen : xYV yX7_isSeen := ⟨xmem 895 (by decide +kernel) (by decide +kernel), xmem 41 (by decide +kernel) (by decide +kernel)⟩
theorem ky_X7_grips : xY yX7_grips cX7_grips 5 (some .int) 1 := ⟨xmem 900 (by decide +kernel) (by decide +kernel), ki_RX7, by decide +kernel, by decide +kernel, by decide +kernel⟩
theorem kv_X7_grips : xYV yX7_grips := ⟨xmem 898 (by decide +kernel) (by decide +kernel), xmem 899 (by decide +kernel) (by decide +kernel)⟩
theorem ky_X7_likely : xY yX7_likely cX7_likely 10 (some .int) 4 := ⟨xmem 904 (by decide +kernel) (by decide +kernel), ki_RX7, by decide +kernel, by decide +kernel, by decide +kernel⟩
theorem kv_X7_likely : xYV yX7_likely := ⟨xmem 902 (by decide +kernel) (by decide +kernel), xmem 903 (by decide +kernel) (by decide +kernel)⟩
theorem ky_X7_more : xY yX7_more cX7_more 4 none 2 := ⟨xmem 910 (by decide +kernel) (by decide +kernel), ki_RX7, by decide +kernel, by decide +kernel, by decide +kernel⟩
theorem kv_X7_more : xYV yX7_more := ⟨xmem 909 (by decide +kernel) (by decide +kernel), xmem 42 (by decide +kernel) (by decide +kernel)⟩
theorem ky_X7_century : xY yX7_century cX7_century 10 (some .int) 3 := ⟨xmem 914 (by decide +kernel) (by decide +kernel), ki_RX7, by decide +kernel, by decide +kernel, by decide +kernel⟩
theorem kv_X7_century : xYV yX7_century := ⟨xmem 912 (by decide +kernel) (by decide +kernel), xmem 913 (by decide +kernel) (by decide +kernel)⟩
theorem ky_X7_keep : xY yX7_keep cX7_keep 2 (some .int) 0 := ⟨xmem 923 (by decide +kernel) (by decide +kernel), ki_RX7, by decide +kernel, by decide +kernel, by decide +kernel⟩
theorem kv_X7_keep : xYV yX7_keep := ⟨xmem 921 (by decide +kernel) (by decide +kernel), xmem 922 (by decide +kernel) (by decide +kernel)⟩
theorem ky_X7_back : xY yX7_back cX7_back 2 (some .int) 0 := ⟨xmem 927 (by decide +kernel) (by decide +kernel), ki_RX7, by decide +kernel, by decide +kernel, by decide +kernel⟩
theorem kv_X7_back : xYV yX7_back := ⟨xmem 925 (by decide +kernel) (by decide +kernel), xmem 926 (by decide +kernel) (by decide +kernel)⟩
theorem ky_X7_count : xY yX7_count cX7_count 2 (some .int) 1 := ⟨xmem 931 (by decide +kernel) (by decide +kernel), ki_RX7, by decide +kernel, by decide +kernel, by decide +kernel⟩
theorem kv_X7_count : xYV yX7_count := ⟨xmem 929 (by decide +kernel) (by decide +kernel), xmem 930 (by decide +kernel) (by decide +kernel)⟩
theorem ky_X7_waxInAll : xY yX7_waxInAll cX7_waxInAll 3 (some .int) 0 := ⟨xmem 935 (by decide +kernel) (by decide +kernel), ki_RX7, by decide +kernel, by decide +kernel, by decide +kernel⟩
theorem kv_X7_waxInAll : xYV yX7_waxInAll := ⟨xmem 934 (by decide +kernel) (by decide +kernel), xmem 43 (by decide +kernel) (by decide +kernel)⟩
theorem ks_max : Cond.static Lib.Math.max.name ∈ xTB := xmem 194 (by decide +kernel) (by decide +kernel)
theorem ks_acopy : Cond.static arraycopyName ∈ xTB := xmem 351 (by decide +kernel) (by decide +kernel)
theorem ks_min : Cond.static Lib.Math.min.name ∈ xTB := xmem 445 (by decide +kernel) (by decide +kernel)
theorem km_objectInit : Cond.instanceMethod objectInit ∈ xTB := xmem 67 (by decide +kernel) (by decide +kernel)
theorem kx_objectInit : Cond.code objectInit ⟨#[0xb1]⟩ 1 none ∈ xTB := xmem 68 (by decide +kernel) (by decide +kernel)
theorem kn_acopy : Cond.native arraycopyName ∈ xTB := xmem 352 (by decide +kernel) (by decide +kernel)
theorem kl_L_9 : Cond.methodLink RL 9 yX6_init ∈ xTB := xmem 63 (by decide +kernel) (by decide +kernel)
theorem kl_X6_1 : Cond.methodLink RX6 1 objectInit ∈ xTB := xmem 66 (by decide +kernel) (by decide +kernel)
theorem kl_X5_3 : Cond.methodLink RX5 3 objectInit ∈ xTB := xmem 74 (by decide +kernel) (by decide +kernel)
theorem kl_X1_3 : Cond.methodLink RX1 3 objectInit ∈ xTB := xmem 91 (by decide +kernel) (by decide +kernel)
theorem kl_X0_3 : Cond.methodLink RX0 3 objectInit ∈ xTB := xmem 97 (by decide +kernel) (by decide +kernel)
theorem kl_X1_20 : Cond.methodLink RX1 20 yX4_init ∈ xTB := xmem 128 (by decide +kernel) (by decide +kernel)
theorem kl_X4_3 : Cond.methodLink RX4 3 objectInit ∈ xTB := xmem 131 (by decide +kernel) (by decide +kernel)
theorem kl_X6_32 : Cond.methodLink RX6 32 yX4_init ∈ xTB := xmem 186 (by decide +kernel) (by decide +kernel)
theorem kl_X6_44 : Cond.methodLink RX6 44 yX2_init ∈ xTB := xmem 189 (by decide +kernel) (by decide +kernel)
theorem kl_X2_1 : Cond.methodLink RX2 1 objectInit ∈ xTB := xmem 192 (by decide +kernel) (by decide +kernel)
theorem kl_X2_16 : Cond.methodLink RX2 16 Lib.Math.max.name ∈ xTB := xmem 193 (by decide +kernel) (by decide +kernel)
theorem kl_X2_28 : Cond.methodLink RX2 28 yX4_init ∈ xTB := xmem 198 (by decide +kernel) (by decide +kernel)
theorem kl_X3_3 : Cond.methodLink RX3 3 objectInit ∈ xTB := xmem 215 (by decide +kernel) (by decide +kernel)
theorem kl_X6_63 : Cond.methodLink RX6 63 yJ0_length_8abf5 ∈ xTB := xmem 228 (by decide +kernel) (by decide +kernel)
theorem kl_J0_335 : Cond.methodLink RJ0 335 yJ0_coder_7d493 ∈ xTB := xmem 232 (by decide +kernel) (by decide +kernel)
theorem kl_X6_69 : Cond.methodLink RX6 69 yJ0_charAt_5068e ∈ xTB := xmem 238 (by decide +kernel) (by decide +kernel)
theorem kl_J0_492 : Cond.methodLink RJ0 492 yJ0_isLatin1_aae02 ∈ xTB := xmem 242 (by decide +kernel) (by decide +kernel)
theorem kl_J0_495 : Cond.methodLink RJ0 495 yJ1_charAt_3b067 ∈ xTB := xmem 246 (by decide +kernel) (by decide +kernel)
theorem kl_J1_9 : Cond.methodLink RJ1 9 yJ0_checkIndex_df160 ∈ xTB := xmem 249 (by decide +kernel) (by decide +kernel)
theorem kl_J0_1059 : Cond.methodLink RJ0 1059 yJ3_checkIndex_8e157 ∈ xTB := xmem 254 (by decide +kernel) (by decide +kernel)
theorem kl_J0_498 : Cond.methodLink RJ0 498 yJ2_charAt_3b067 ∈ xTB := xmem 257 (by decide +kernel) (by decide +kernel)
theorem kl_J2_67 : Cond.methodLink RJ2 67 yJ2_checkIndex_2214a ∈ xTB := xmem 260 (by decide +kernel) (by decide +kernel)
theorem kl_J2_48 : Cond.methodLink RJ2 48 yJ2_length_9d52b ∈ xTB := xmem 263 (by decide +kernel) (by decide +kernel)
theorem kl_J2_414 : Cond.methodLink RJ2 414 yJ0_checkIndex_df160 ∈ xTB := xmem 266 (by decide +kernel) (by decide +kernel)
theorem kl_J2_71 : Cond.methodLink RJ2 71 yJ2_getChar_3b067 ∈ xTB := xmem 267 (by decide +kernel) (by decide +kernel)
theorem kl_X6_73 : Cond.methodLink RX6 73 yX5_add ∈ xTB := xmem 276 (by decide +kernel) (by decide +kernel)
theorem kl_X6_77 : Cond.methodLink RX6 77 yX6_layOut ∈ xTB := xmem 280 (by decide +kernel) (by decide +kernel)
theorem kl_X6_88 : Cond.methodLink RX6 88 yX1_firstFault ∈ xTB := xmem 284 (by decide +kernel) (by decide +kernel)
theorem kl_X1_39 : Cond.methodLink RX1 39 yX0_clear ∈ xTB := xmem 288 (by decide +kernel) (by decide +kernel)
theorem kl_X1_42 : Cond.methodLink RX1 42 yX4_clear ∈ xTB := xmem 292 (by decide +kernel) (by decide +kernel)
theorem kl_X4_35 : Cond.methodLink RX4 35 yJ7_fill_53178 ∈ xTB := xmem 296 (by decide +kernel) (by decide +kernel)
theorem kl_X1_48 : Cond.methodLink RX1 48 yX1_readNumbers ∈ xTB := xmem 299 (by decide +kernel) (by decide +kernel)
theorem kl_X1_60 : Cond.methodLink RX1 60 yX1_addNumber ∈ xTB := xmem 303 (by decide +kernel) (by decide +kernel)
theorem kl_X1_56 : Cond.methodLink RX1 56 yX1_takeItem ∈ xTB := xmem 307 (by decide +kernel) (by decide +kernel)
theorem kl_X1_64 : Cond.methodLink RX1 64 yX1_takeSteps ∈ xTB := xmem 311 (by decide +kernel) (by decide +kernel)
theorem kl_X1_68 : Cond.methodLink RX1 68 yX1_takeWax ∈ xTB := xmem 318 (by decide +kernel) (by decide +kernel)
theorem kl_X1_90 : Cond.methodLink RX1 90 yX0_hasStep ∈ xTB := xmem 322 (by decide +kernel) (by decide +kernel)
theorem kl_X1_71 : Cond.methodLink RX1 71 yX1_takeKnob ∈ xTB := xmem 326 (by decide +kernel) (by decide +kernel)
theorem kl_X1_96 : Cond.methodLink RX1 96 yX1_tellsOneStep ∈ xTB := xmem 330 (by decide +kernel) (by decide +kernel)
theorem kl_X1_74 : Cond.methodLink RX1 74 yX1_takeTurning ∈ xTB := xmem 334 (by decide +kernel) (by decide +kernel)
theorem kl_X1_77 : Cond.methodLink RX1 77 yX1_takeMinister ∈ xTB := xmem 338 (by decide +kernel) (by decide +kernel)
theorem kl_X1_80 : Cond.methodLink RX1 80 yX1_takeFunds ∈ xTB := xmem 342 (by decide +kernel) (by decide +kernel)
theorem kl_X6_223 : Cond.methodLink RX6 223 yX0_copy ∈ xTB := xmem 346 (by decide +kernel) (by decide +kernel)
theorem kl_X0_28 : Cond.methodLink RX0 28 arraycopyName ∈ xTB := xmem 350 (by decide +kernel) (by decide +kernel)
theorem kl_X6_159 : Cond.methodLink RX6 159 yX4_copy ∈ xTB := xmem 353 (by decide +kernel) (by decide +kernel)
theorem kl_X4_41 : Cond.methodLink RX4 41 arraycopyName ∈ xTB := xmem 357 (by decide +kernel) (by decide +kernel)
theorem kl_L_13 : Cond.methodLink RL 13 yX6_write ∈ xTB := xmem 384 (by decide +kernel) (by decide +kernel)
theorem kl_X6_84 : Cond.methodLink RX6 84 yX6_within ∈ xTB := xmem 388 (by decide +kernel) (by decide +kernel)
theorem kl_L_18 : Cond.methodLink RL 18 yX6_wipe ∈ xTB := xmem 389 (by decide +kernel) (by decide +kernel)
theorem kl_L_23 : Cond.methodLink RL 23 yX6_fault ∈ xTB := xmem 393 (by decide +kernel) (by decide +kernel)
theorem kl_L_27 : Cond.methodLink RL 27 yX6_lay ∈ xTB := xmem 397 (by decide +kernel) (by decide +kernel)
theorem kl_L_31 : Cond.methodLink RL 31 yX6_minister ∈ xTB := xmem 401 (by decide +kernel) (by decide +kernel)
theorem kl_X6_95 : Cond.methodLink RX6 95 yX0_hasMinister ∈ xTB := xmem 405 (by decide +kernel) (by decide +kernel)
theorem kl_X6_112 : Cond.methodLink RX6 112 yX4_speedOf ∈ xTB := xmem 409 (by decide +kernel) (by decide +kernel)
theorem kl_X4_55 : Cond.methodLink RX4 55 yX0_hasStep ∈ xTB := xmem 413 (by decide +kernel) (by decide +kernel)
theorem kl_X4_86 : Cond.methodLink RX4 86 yX0_isTop ∈ xTB := xmem 414 (by decide +kernel) (by decide +kernel)
theorem kl_L_36 : Cond.methodLink RL 36 yX6_step ∈ xTB := xmem 418 (by decide +kernel) (by decide +kernel)
theorem kl_X6_116 : Cond.methodLink RX6 116 yX0_hasStep ∈ xTB := xmem 422 (by decide +kernel) (by decide +kernel)
theorem kl_X6_122 : Cond.methodLink RX6 122 yX0_hasKnob ∈ xTB := xmem 423 (by decide +kernel) (by decide +kernel)
theorem kl_X6_125 : Cond.methodLink RX6 125 yX0_hasTurn ∈ xTB := xmem 427 (by decide +kernel) (by decide +kernel)
theorem kl_X6_128 : Cond.methodLink RX6 128 yX4_howManyOn ∈ xTB := xmem 431 (by decide +kernel) (by decide +kernel)
theorem kl_L_40 : Cond.methodLink RL 40 yX6_pass ∈ xTB := xmem 435 (by decide +kernel) (by decide +kernel)
theorem kl_X6_134 : Cond.methodLink RX6 134 yX2_put ∈ xTB := xmem 439 (by decide +kernel) (by decide +kernel)
theorem kl_X2_31 : Cond.methodLink RX2 31 yX4_copy ∈ xTB := xmem 443 (by decide +kernel) (by decide +kernel)
theorem kl_X2_35 : Cond.methodLink RX2 35 Lib.Math.min.name ∈ xTB := xmem 444 (by decide +kernel) (by decide +kernel)
theorem kl_X6_138 : Cond.methodLink RX6 138 yX4_goOn ∈ xTB := xmem 447 (by decide +kernel) (by decide +kernel)
theorem kl_X4_68 : Cond.methodLink RX4 68 yX4_oneYear ∈ xTB := xmem 451 (by decide +kernel) (by decide +kernel)
theorem kl_X4_71 : Cond.methodLink RX4 71 yX4_takeTurn ∈ xTB := xmem 455 (by decide +kernel) (by decide +kernel)
theorem kl_X4_79 : Cond.methodLink RX4 79 yX4_speedOf ∈ xTB := xmem 459 (by decide +kernel) (by decide +kernel)
theorem kl_X4_89 : Cond.methodLink RX4 89 yX4_comeDown ∈ xTB := xmem 460 (by decide +kernel) (by decide +kernel)
theorem kl_X4_65 : Cond.methodLink RX4 65 Lib.Math.max.name ∈ xTB := xmem 464 (by decide +kernel) (by decide +kernel)
theorem kl_X4_93 : Cond.methodLink RX4 93 yX0_hasKnob ∈ xTB := xmem 465 (by decide +kernel) (by decide +kernel)
theorem kl_X4_96 : Cond.methodLink RX4 96 yX0_hasTurn ∈ xTB := xmem 466 (by decide +kernel) (by decide +kernel)
theorem kl_X4_75 : Cond.methodLink RX4 75 yX4_governor ∈ xTB := xmem 467 (by decide +kernel) (by decide +kernel)
theorem kl_X4_59 : Cond.methodLink RX4 59 Lib.Math.min.name ∈ xTB := xmem 471 (by decide +kernel) (by decide +kernel)
theorem kl_L_44 : Cond.methodLink RL 44 yX6_wax ∈ xTB := xmem 472 (by decide +kernel) (by decide +kernel)
theorem kl_X6_145 : Cond.methodLink RX6 145 yX4_addWax ∈ xTB := xmem 476 (by decide +kernel) (by decide +kernel)
theorem kl_L_48 : Cond.methodLink RL 48 yX6_sand ∈ xTB := xmem 480 (by decide +kernel) (by decide +kernel)
theorem kl_L_52 : Cond.methodLink RL 52 yX6_help ∈ xTB := xmem 484 (by decide +kernel) (by decide +kernel)
theorem kl_L_56 : Cond.methodLink RL 56 yX6_undo ∈ xTB := xmem 488 (by decide +kernel) (by decide +kernel)
theorem kl_X6_149 : Cond.methodLink RX6 149 yX2_takeLatest ∈ xTB := xmem 492 (by decide +kernel) (by decide +kernel)
theorem kl_L_60 : Cond.methodLink RL 60 yX6_governs ∈ xTB := xmem 496 (by decide +kernel) (by decide +kernel)
theorem kl_X6_156 : Cond.methodLink RX6 156 yX4_governor ∈ xTB := xmem 500 (by decide +kernel) (by decide +kernel)
theorem kl_L_64 : Cond.methodLink RL 64 yX6_behind ∈ xTB := xmem 501 (by decide +kernel) (by decide +kernel)
theorem kl_L_69 : Cond.methodLink RL 69 yX6_slide ∈ xTB := xmem 505 (by decide +kernel) (by decide +kernel)
theorem kl_X6_162 : Cond.methodLink RX6 162 yX4_oneYear ∈ xTB := xmem 509 (by decide +kernel) (by decide +kernel)
theorem kl_L_73 : Cond.methodLink RL 73 yX6_top ∈ xTB := xmem 510 (by decide +kernel) (by decide +kernel)
theorem kl_X6_165 : Cond.methodLink RX6 165 yX0_isTop ∈ xTB := xmem 514 (by decide +kernel) (by decide +kernel)
theorem kl_L_77 : Cond.methodLink RL 77 yX6_topple ∈ xTB := xmem 515 (by decide +kernel) (by decide +kernel)
theorem kl_X6_168 : Cond.methodLink RX6 168 yX4_slipsAtHisTurn ∈ xTB := xmem 519 (by decide +kernel) (by decide +kernel)
theorem kl_L_81 : Cond.methodLink RL 81 yX6_plot ∈ xTB := xmem 523 (by decide +kernel) (by decide +kernel)
theorem kl_X6_171 : Cond.methodLink RX6 171 yX6_governsByWax ∈ xTB := xmem 527 (by decide +kernel) (by decide +kernel)
theorem kl_L_85 : Cond.methodLink RL 85 yX6_hold ∈ xTB := xmem 531 (by decide +kernel) (by decide +kernel)
theorem kl_X6_178 : Cond.methodLink RX6 178 yX6_holdsBySand ∈ xTB := xmem 535 (by decide +kernel) (by decide +kernel)
theorem kl_L_89 : Cond.methodLink RL 89 yX6_cabinet ∈ xTB := xmem 539 (by decide +kernel) (by decide +kernel)
theorem kl_X6_181 : Cond.methodLink RX6 181 yX6_smallestCabinet ∈ xTB := xmem 543 (by decide +kernel) (by decide +kernel)
theorem kl_X6_228 : Cond.methodLink RX6 228 yX4_weightOfSet ∈ xTB := xmem 547 (by decide +kernel) (by decide +kernel)
theorem kl_X6_184 : Cond.methodLink RX6 184 yJ6_bitCount_0f7a4 ∈ xTB := xmem 551 (by decide +kernel) (by decide +kernel)
theorem kl_L_93 : Cond.methodLink RL 93 yX6_seen ∈ xTB := xmem 557 (by decide +kernel) (by decide +kernel)
theorem kl_X6_189 : Cond.methodLink RX6 189 yX3_add ∈ xTB := xmem 561 (by decide +kernel) (by decide +kernel)
theorem kl_L_97 : Cond.methodLink RL 97 yX6_forget ∈ xTB := xmem 565 (by decide +kernel) (by decide +kernel)
theorem kl_L_101 : Cond.methodLink RL 101 yX6_waxes ∈ xTB := xmem 569 (by decide +kernel) (by decide +kernel)
theorem kl_X6_193 : Cond.methodLink RX6 193 yX6_bitIfSeen ∈ xTB := xmem 573 (by decide +kernel) (by decide +kernel)
theorem kl_X6_231 : Cond.methodLink RX6 231 yX3_allHoldIn ∈ xTB := xmem 577 (by decide +kernel) (by decide +kernel)
theorem kl_L_105 : Cond.methodLink RL 105 yX6_grips ∈ xTB := xmem 581 (by decide +kernel) (by decide +kernel)
theorem kl_L_109 : Cond.methodLink RL 109 yX6_likely ∈ xTB := xmem 585 (by decide +kernel) (by decide +kernel)
theorem kl_X6_196 : Cond.methodLink RX6 196 yX6_weightOf ∈ xTB := xmem 589 (by decide +kernel) (by decide +kernel)
theorem kl_X6_203 : Cond.methodLink RX6 203 yX6_power ∈ xTB := xmem 592 (by decide +kernel) (by decide +kernel)
theorem kl_X6_200 : Cond.methodLink RX6 200 yX6_governsByPath ∈ xTB := xmem 595 (by decide +kernel) (by decide +kernel)
theorem kl_X6_207 : Cond.methodLink RX6 207 yX6_commonDivisor ∈ xTB := xmem 599 (by decide +kernel) (by decide +kernel)
theorem kl_X6_242 : Cond.methodLink RX6 242 Lib.Math.max.name ∈ xTB := xmem 602 (by decide +kernel) (by decide +kernel)
theorem kl_L_114 : Cond.methodLink RL 114 yX6_century ∈ xTB := xmem 603 (by decide +kernel) (by decide +kernel)
theorem kl_X6_210 : Cond.methodLink RX6 210 yX6_draw ∈ xTB := xmem 607 (by decide +kernel) (by decide +kernel)
theorem kl_X6_213 : Cond.methodLink RX6 213 yX4_weather ∈ xTB := xmem 614 (by decide +kernel) (by decide +kernel)
theorem kl_X4_99 : Cond.methodLink RX4 99 yX4_addWax ∈ xTB := xmem 618 (by decide +kernel) (by decide +kernel)
theorem kl_L_118 : Cond.methodLink RL 118 yX6_keep ∈ xTB := xmem 619 (by decide +kernel) (by decide +kernel)
theorem kl_X6_216 : Cond.methodLink RX6 216 yX2_isFull ∈ xTB := xmem 623 (by decide +kernel) (by decide +kernel)
theorem kl_L_122 : Cond.methodLink RL 122 yX6_back ∈ xTB := xmem 627 (by decide +kernel) (by decide +kernel)
theorem kl_L_126 : Cond.methodLink RL 126 yX6_count ∈ xTB := xmem 631 (by decide +kernel) (by decide +kernel)
theorem kl_X6_219 : Cond.methodLink RX6 219 yX4_allWax ∈ xTB := xmem 635 (by decide +kernel) (by decide +kernel)
theorem kl_L_12 : Cond.methodLink RL 12 yX7_init ∈ xTB := xmem 641 (by decide +kernel) (by decide +kernel)
theorem kl_X7_1 : Cond.methodLink RX7 1 objectInit ∈ xTB := xmem 644 (by decide +kernel) (by decide +kernel)
theorem kl_X7_40 : Cond.methodLink RX7 40 yX7_empty ∈ xTB := xmem 645 (by decide +kernel) (by decide +kernel)
theorem kl_X7_43 : Cond.methodLink RX7 43 yX7_firstOne ∈ xTB := xmem 649 (by decide +kernel) (by decide +kernel)
theorem kl_X7_47 : Cond.methodLink RX7 47 yX7_begin ∈ xTB := xmem 653 (by decide +kernel) (by decide +kernel)
theorem kl_L_17 : Cond.methodLink RL 17 yX7_write ∈ xTB := xmem 706 (by decide +kernel) (by decide +kernel)
theorem kl_X7_58 : Cond.methodLink RX7 58 yX7_in ∈ xTB := xmem 712 (by decide +kernel) (by decide +kernel)
theorem kl_L_22 : Cond.methodLink RL 22 yX7_wipe ∈ xTB := xmem 715 (by decide +kernel) (by decide +kernel)
theorem kl_L_26 : Cond.methodLink RL 26 yX7_fault ∈ xTB := xmem 719 (by decide +kernel) (by decide +kernel)
theorem kl_X7_94 : Cond.methodLink RX7 94 yX7_readAll ∈ xTB := xmem 723 (by decide +kernel) (by decide +kernel)
theorem kl_X7_91 : Cond.methodLink RX7 91 yX7_item ∈ xTB := xmem 727 (by decide +kernel) (by decide +kernel)
theorem kl_X7_69 : Cond.methodLink RX7 69 yX7_letterAt ∈ xTB := xmem 731 (by decide +kernel) (by decide +kernel)
theorem kl_X7_79 : Cond.methodLink RX7 79 yX7_numbers ∈ xTB := xmem 735 (by decide +kernel) (by decide +kernel)
theorem kl_X7_87 : Cond.methodLink RX7 87 yX7_ministerItem ∈ xTB := xmem 744 (by decide +kernel) (by decide +kernel)
theorem kl_L_30 : Cond.methodLink RL 30 yX7_lay ∈ xTB := xmem 748 (by decide +kernel) (by decide +kernel)
theorem kl_L_35 : Cond.methodLink RL 35 yX7_minister ∈ xTB := xmem 752 (by decide +kernel) (by decide +kernel)
theorem kl_X7_131 : Cond.methodLink RX7 131 yX7_isOne ∈ xTB := xmem 756 (by decide +kernel) (by decide +kernel)
theorem kl_X7_136 : Cond.methodLink RX7 136 yX7_aside ∈ xTB := xmem 761 (by decide +kernel) (by decide +kernel)
theorem kl_X7_114 : Cond.methodLink RX7 114 yX7_lack ∈ xTB := xmem 765 (by decide +kernel) (by decide +kernel)
theorem kl_L_39 : Cond.methodLink RL 39 yX7_step ∈ xTB := xmem 769 (by decide +kernel) (by decide +kernel)
theorem kl_X7_139 : Cond.methodLink RX7 139 yX7_isStep ∈ xTB := xmem 773 (by decide +kernel) (by decide +kernel)
theorem kl_L_43 : Cond.methodLink RL 43 yX7_pass ∈ xTB := xmem 777 (by decide +kernel) (by decide +kernel)
theorem kl_X7_144 : Cond.methodLink RX7 144 yX7_note ∈ xTB := xmem 782 (by decide +kernel) (by decide +kernel)
theorem kl_X7_147 : Cond.methodLink RX7 147 yX7_goYears ∈ xTB := xmem 786 (by decide +kernel) (by decide +kernel)
theorem kl_X7_128 : Cond.methodLink RX7 128 yX7_goYear ∈ xTB := xmem 790 (by decide +kernel) (by decide +kernel)
theorem kl_X7_121 : Cond.methodLink RX7 121 yX7_goOne ∈ xTB := xmem 794 (by decide +kernel) (by decide +kernel)
theorem kl_X7_117 : Cond.methodLink RX7 117 yX7_slideDown ∈ xTB := xmem 798 (by decide +kernel) (by decide +kernel)
theorem kl_X7_111 : Cond.methodLink RX7 111 yX7_stops ∈ xTB := xmem 802 (by decide +kernel) (by decide +kernel)
theorem kl_X7_107 : Cond.methodLink RX7 107 yX7_has ∈ xTB := xmem 806 (by decide +kernel) (by decide +kernel)
theorem kl_X7_125 : Cond.methodLink RX7 125 yX7_governor ∈ xTB := xmem 809 (by decide +kernel) (by decide +kernel)
theorem kl_X7_150 : Cond.methodLink RX7 150 yX7_take ∈ xTB := xmem 813 (by decide +kernel) (by decide +kernel)
theorem kl_L_47 : Cond.methodLink RL 47 yX7_wax ∈ xTB := xmem 817 (by decide +kernel) (by decide +kernel)
theorem kl_L_51 : Cond.methodLink RL 51 yX7_sand ∈ xTB := xmem 821 (by decide +kernel) (by decide +kernel)
theorem kl_L_55 : Cond.methodLink RL 55 yX7_help ∈ xTB := xmem 825 (by decide +kernel) (by decide +kernel)
theorem kl_L_59 : Cond.methodLink RL 59 yX7_undo ∈ xTB := xmem 829 (by decide +kernel) (by decide +kernel)
theorem kl_L_63 : Cond.methodLink RL 63 yX7_governs ∈ xTB := xmem 833 (by decide +kernel) (by decide +kernel)
theorem kl_L_68 : Cond.methodLink RL 68 yX7_behind ∈ xTB := xmem 837 (by decide +kernel) (by decide +kernel)
theorem kl_L_72 : Cond.methodLink RL 72 yX7_slide ∈ xTB := xmem 841 (by decide +kernel) (by decide +kernel)
theorem kl_L_76 : Cond.methodLink RL 76 yX7_top ∈ xTB := xmem 845 (by decide +kernel) (by decide +kernel)
theorem kl_L_80 : Cond.methodLink RL 80 yX7_topple ∈ xTB := xmem 849 (by decide +kernel) (by decide +kernel)
theorem kl_L_84 : Cond.methodLink RL 84 yX7_plot ∈ xTB := xmem 853 (by decide +kernel) (by decide +kernel)
theorem kl_X7_155 : Cond.methodLink RX7 155 yX7_governsWith ∈ xTB := xmem 858 (by decide +kernel) (by decide +kernel)
theorem kl_L_88 : Cond.methodLink RL 88 yX7_hold ∈ xTB := xmem 862 (by decide +kernel) (by decide +kernel)
theorem kl_X7_159 : Cond.methodLink RX7 159 yX7_holds ∈ xTB := xmem 866 (by decide +kernel) (by decide +kernel)
theorem kl_L_92 : Cond.methodLink RL 92 yX7_cabinet ∈ xTB := xmem 870 (by decide +kernel) (by decide +kernel)
theorem kl_X7_163 : Cond.methodLink RX7 163 yX7_ones ∈ xTB := xmem 874 (by decide +kernel) (by decide +kernel)
theorem kl_X7_166 : Cond.methodLink RX7 166 yX7_weight ∈ xTB := xmem 877 (by decide +kernel) (by decide +kernel)
theorem kl_L_96 : Cond.methodLink RL 96 yX7_seen ∈ xTB := xmem 881 (by decide +kernel) (by decide +kernel)
theorem kl_L_100 : Cond.methodLink RL 100 yX7_forget ∈ xTB := xmem 885 (by decide +kernel) (by decide +kernel)
theorem kl_L_104 : Cond.methodLink RL 104 yX7_waxes ∈ xTB := xmem 889 (by decide +kernel) (by decide +kernel)
theorem kl_X7_169 : Cond.methodLink RX7 169 yX7_isSeen ∈ xTB := xmem 893 (by decide +kernel) (by decide +kernel)
theorem kl_L_108 : Cond.methodLink RL 108 yX7_grips ∈ xTB := xmem 897 (by decide +kernel) (by decide +kernel)
theorem kl_L_113 : Cond.methodLink RL 113 yX7_likely ∈ xTB := xmem 901 (by decide +kernel) (by decide +kernel)
theorem kl_X7_176 : Cond.methodLink RX7 176 yX7_more ∈ xTB := xmem 907 (by decide +kernel) (by decide +kernel)
theorem kl_L_117 : Cond.methodLink RL 117 yX7_century ∈ xTB := xmem 911 (by decide +kernel) (by decide +kernel)
theorem kl_L_121 : Cond.methodLink RL 121 yX7_keep ∈ xTB := xmem 920 (by decide +kernel) (by decide +kernel)
theorem kl_L_125 : Cond.methodLink RL 125 yX7_back ∈ xTB := xmem 924 (by decide +kernel) (by decide +kernel)
theorem kl_L_129 : Cond.methodLink RL 129 yX7_count ∈ xTB := xmem 928 (by decide +kernel) (by decide +kernel)
theorem kl_X7_189 : Cond.methodLink RX7 189 yX7_waxInAll ∈ xTB := xmem 932 (by decide +kernel) (by decide +kernel)
theorem kc_J6_265 : Cond.constant RJ6 265 (1431655765) ∈ xTB := xmem 554 (by decide +kernel) (by decide +kernel)
theorem kc_J6_266 : Cond.constant RJ6 266 (858993459) ∈ xTB := xmem 555 (by decide +kernel) (by decide +kernel)
theorem kc_J6_267 : Cond.constant RJ6 267 (252645135) ∈ xTB := xmem 556 (by decide +kernel) (by decide +kernel)
theorem kc_X6_234 : Cond.constantLong RX6 234 (7919) ∈ xTB := xmem 610 (by decide +kernel) (by decide +kernel)
theorem kc_X6_236 : Cond.constantLong RX6 236 (6151) ∈ xTB := xmem 611 (by decide +kernel) (by decide +kernel)
theorem kc_X6_238 : Cond.constantLong RX6 238 (65521) ∈ xTB := xmem 612 (by decide +kernel) (by decide +kernel)
theorem kc_X6_240 : Cond.constantLong RX6 240 (2) ∈ xTB := xmem 613 (by decide +kernel) (by decide +kernel)
theorem kc_X7_54 : Cond.constantLong RX7 54 (32) ∈ xTB := xmem 710 (by decide +kernel) (by decide +kernel)
theorem kc_X7_56 : Cond.constantLong RX7 56 (126) ∈ xTB := xmem 711 (by decide +kernel) (by decide +kernel)
theorem kc_X7_73 : Cond.constantLong RX7 73 (48) ∈ xTB := xmem 739 (by decide +kernel) (by decide +kernel)
theorem kc_X7_75 : Cond.constantLong RX7 75 (57) ∈ xTB := xmem 740 (by decide +kernel) (by decide +kernel)
theorem kc_X7_77 : Cond.constantLong RX7 77 (2) ∈ xTB := xmem 741 (by decide +kernel) (by decide +kernel)
theorem kc_X7_83 : Cond.constantLong RX7 83 (3) ∈ xTB := xmem 742 (by decide +kernel) (by decide +kernel)
theorem kc_X7_85 : Cond.constantLong RX7 85 (16) ∈ xTB := xmem 743 (by decide +kernel) (by decide +kernel)
theorem kc_X7_134 : Cond.constantLong RX7 134 (4) ∈ xTB := xmem 760 (by decide +kernel) (by decide +kernel)
theorem kc_X7_142 : Cond.constantLong RX7 142 (40) ∈ xTB := xmem 781 (by decide +kernel) (by decide +kernel)
theorem kc_X7_153 : Cond.constantLong RX7 153 (9) ∈ xTB := xmem 857 (by decide +kernel) (by decide +kernel)
theorem kc_X7_172 : Cond.constantLong RX7 172 (6) ∈ xTB := xmem 905 (by decide +kernel) (by decide +kernel)
theorem kc_X7_174 : Cond.constantLong RX7 174 (10) ∈ xTB := xmem 906 (by decide +kernel) (by decide +kernel)
theorem kc_X7_179 : Cond.constantLong RX7 179 (9999) ∈ xTB := xmem 915 (by decide +kernel) (by decide +kernel)
theorem kc_X7_181 : Cond.constantLong RX7 181 (60) ∈ xTB := xmem 916 (by decide +kernel) (by decide +kernel)
theorem kc_X7_183 : Cond.constantLong RX7 183 (7919) ∈ xTB := xmem 917 (by decide +kernel) (by decide +kernel)
theorem kc_X7_185 : Cond.constantLong RX7 185 (6151) ∈ xTB := xmem 918 (by decide +kernel) (by decide +kernel)
theorem kc_X7_187 : Cond.constantLong RX7 187 (65521) ∈ xTB := xmem 919 (by decide +kernel) (by decide +kernel)
theorem kk_L_7 : Cond.classLink RL 7 RX6 ∈ xTB := xmem 61 (by decide +kernel) (by decide +kernel)
theorem kk_X6_7 : Cond.classLink RX6 7 RX5 ∈ xTB := xmem 69 (by decide +kernel) (by decide +kernel)
theorem kk_X6_16 : Cond.classLink RX6 16 RX1 ∈ xTB := xmem 86 (by decide +kernel) (by decide +kernel)
theorem kk_X1_9 : Cond.classLink RX1 9 RX0 ∈ xTB := xmem 92 (by decide +kernel) (by decide +kernel)
theorem kk_X1_18 : Cond.classLink RX1 18 RX4 ∈ xTB := xmem 126 (by decide +kernel) (by decide +kernel)
theorem kk_X6_23 : Cond.classLink RX6 23 RX0 ∈ xTB := xmem 183 (by decide +kernel) (by decide +kernel)
theorem kk_X6_30 : Cond.classLink RX6 30 RX4 ∈ xTB := xmem 185 (by decide +kernel) (by decide +kernel)
theorem kk_X6_42 : Cond.classLink RX6 42 RX2 ∈ xTB := xmem 187 (by decide +kernel) (by decide +kernel)
theorem kk_X2_22 : Cond.classLink RX2 22 RX4 ∈ xTB := xmem 196 (by decide +kernel) (by decide +kernel)
theorem kk_X6_54 : Cond.classLink RX6 54 RX3 ∈ xTB := xmem 210 (by decide +kernel) (by decide +kernel)
theorem kk_L_10 : Cond.classLink RL 10 RX7 ∈ xTB := xmem 639 (by decide +kernel) (by decide +kernel)
end
section
/-! THE FIXED WORLD: all cells of the class's object and of the reference stand in the heap behind the old part (from lo = g.1 on), one behind the other, in the order in which the constructors make them; S tells the shape of each, μ the whole numbers in each: cell k, place j. Numbers are Int; a cell holds them as Int32.ofInt. A walk's goal is xX: pc, locals, stack, μ; nothing else. -/
abbrev xM : Type := Nat → Int → Int
abbrev xS : Type := (Nat × List (Option (Option Nat))) ⊕ ((Bool × Nat) ⊕ List (Option Nat))
abbrev xG : Type := Nat × va_G × (ClassId × ClassId × ClassId) × (Nat → Nat) × (Nat → Nat)
def vI (a : Int) : Value := .int (Int32.ofInt a)
def vL (a : Int) : Value := .long (Int64.ofInt a)
def vR (g : xG) (k : Nat) : Value := .ref (g.1 + k)
def xV (g : xG) (f : Int → Int) (j : Nat) : Option (Option Nat) → Value
  | none => vI (f j)
  | some none => .null
  | some (some t) => vR g t
def xC (g : xG) (f : Int → Int) : xS → va_E
  | .inl o => .inr (o.1, o.2.mapIdx (fun j o => xV g f j o))
  | .inr (.inl a) => .inl (if a.1 then g.2.2.1.2.1 else g.2.2.1.1, a.2, .inl (fun j => Int32.ofInt (f j)))
  | .inr (.inr ts) => .inl (g.2.2.1.2.2, ts.length, .inr (.inr (.inr (.inr (fun j => (ts.getD j none).map (fun t => g.1 + t))))))
def xws (g : xG) (S : List xS) (μ : xM) : va_W := S.mapIdx (fun k sh => (g.1 + k, xC g (μ k) sh))
def xW (g : xG) (S : List xS) (μ : xM) (H : Heap) : Prop := va_P g.2.1 vwCl (xws g S μ) H
/-- the old part of the heap: addresses below lo -/
abbrev xA0 (g : xG) : Nat → Prop := fun q => g.1 ≤ q
def xU (μ : xM) (k : Nat) (j a : Int) : xM := fun k' j' => if k' = k ∧ j' = j then a else μ k' j'
def xTy (g : xG) : List (ClassId × FieldType) := [(g.2.2.1.1, .int), (g.2.2.1.2.1, .char), (g.2.2.1.2.2, .object RX4)]
/-- links between nest mates -/
def xNest : List Cond := [.methodLinkNest RX6 9 yX5_init RX6, .methodLinkNest RX6 18 yX1_init RX6, .methodLinkNest RX6 25 yX0_init RX6, .methodLinkNest RX6 56 yX3_init RX6, .methodLinkNest RX1 11 yX0_init RX6, .methodLinkNest RX1 83 yX6_within RX6]
def xText : String := "s10;w3,2;w5,4;w6,1;w9,6;k2;t5;m0,9,5;m1,6,3;m2,8,0;m3,4,2;m0,1,4;f20;"
def xBytes : List Int32 := [115,49,48,59,119,51,44,50,59,119,53,44,52,59,119,54,44,49,59,119,57,44,54,59,107,50,59,116,53,59,109,48,44,57,44,53,59,109,49,44,54,44,51,59,109,50,44,56,44,48,59,109,51,44,52,44,50,59,109,48,44,49,44,52,59,102,50,48,59]
/-- what was there before: the String constant and the JDK's statics -/
def xOld (g : xG) (U : State) : Prop := vk_S 1 [69] [xBytes] g.2.2.2.1 g.2.2.2.2 (xA0 g) U U.heap ∧ vk_R RX6 61 xText (g.2.2.2.1 0) U ∧ va_Z "java/lang/String" "COMPACT_STRINGS" "Z" (.int 1) (xA0 g) U U.heap ∧ va_Zq "jdk/internal/util/Preconditions" "SIOOBE_FORMATTER" "Ljava/util/function/BiFunction;" (xA0 g) U U.heap
def xKn (g : xG) (U : State) : Prop := va_K g.2.1 vwCl (xTy g) U ∧ (∀ w ∈ xNest, va_Nw w U) ∧ va_AO RX4 U ∧ xOld g U
theorem xws_get {g : xG} {S : List xS} {μ : xM} {k : Nat} {sh : xS} (h : S[k]? = some sh) : (xws g S μ)[k]? = some (g.1 + k, xC g (μ k) sh) := by
  simp [xws, List.getElem?_mapIdx, h]
theorem xws_inv {g : xG} {S : List xS} {μ : xM} {k : Nat} {q : Nat × va_E} (h : (xws g S μ)[k]? = some q) : ∃ sh, S[k]? = some sh ∧ q = (g.1 + k, xC g (μ k) sh) := by
  simp only [xws, List.getElem?_mapIdx, Option.map_eq_some_iff] at h
  obtain ⟨sh, h1, h2⟩ := h
  exact ⟨sh, h1, h2.symm⟩
theorem xws_D {g : xG} {S : List xS} {μ : xM} : va_D (xA0 g) (xws g S μ) := by
  refine ⟨fun i j p q hi hj hpq => ?_, fun k q hk => ?_⟩
  · obtain ⟨_, -, rfl⟩ := xws_inv hi
    obtain ⟨_, -, rfl⟩ := xws_inv hj
    have : g.1 + i = g.1 + j := hpq
    omega
  · obtain ⟨_, -, rfl⟩ := xws_inv hk
    show g.1 ≤ g.1 + k
    omega
theorem xWof {g : xG} {S : List xS} {μ : xM} {H : Heap} (h : ∀ k sh, S[k]? = some sh → va_at g.2.1 vwCl (g.1 + k, xC g (μ k) sh) H) : xW g S μ H := by
  intro k q hk
  obtain ⟨sh, h1, rfl⟩ := xws_inv hk
  exact h k sh h1
theorem xWat {g : xG} {S : List xS} {μ : xM} {H : Heap} (h : xW g S μ H) {k : Nat} {sh : xS} (hk : S[k]? = some sh) : va_at g.2.1 vwCl (g.1 + k, xC g (μ k) sh) H := h k _ (xws_get hk)
theorem xW_ge {g : xG} {S : List xS} {μ : xM} {H : Heap} (h : xW g S μ H) (hn : g.1 ≤ H.size) : g.1 + S.length ≤ H.size := by
  cases hl : S.length with
  | zero => omega
  | succ n =>
    have : ∃ sh, S[n]? = some sh := ⟨S[n]'(by omega), List.getElem?_eq_getElem (by omega)⟩
    obtain ⟨sh, hs⟩ := this
    have := (xWat h hs).lt
    have h2 : g.1 + n < H.size := this
    omega
/-- which places of a cell count -/
def xOn (sh : xS) (j : Int) : Prop := match sh with
  | .inl o => ∃ i : Nat, j = i ∧ o.2[i]? = some none
  | .inr (.inl a) => 0 ≤ j ∧ j < a.2
  | .inr (.inr _) => False
/-- two memories that tell the same -/
def xEq (S : List xS) (μ μ' : xM) : Prop := ∀ k sh, S[k]? = some sh → ∀ j, xOn sh j → μ k j = μ' k j
theorem xC_congr {g : xG} {f f' : Int → Int} {sh : xS} {D : va_G} {H : Heap} {a : Nat} (h : ∀ j, xOn sh j → f j = f' j) (hv : va_at D vwCl (a, xC g f sh) H) : va_at D vwCl (a, xC g f' sh) H := by
  rcases sh with o | b | ts
  · have : xC g f (.inl o) = xC g f' (.inl o) := by
      simp only [xC]
      congr 2
      apply List.ext_getElem?
      intro i
      simp only [List.getElem?_mapIdx]
      cases ho : o.2[i]? with
      | none => rfl
      | some w =>
        simp only [Option.map_some]
        rcases w with _ | _ | t
        · simp only [xV]; rw [h i ⟨i, rfl, ho⟩]
        · rfl
        · rfl
    rw [← this]; exact hv
  · refine Eq.trans hv ?_
    show some (arrV _ b.2 (fun j => .int (Int32.ofInt (f j)))) = some (arrV _ b.2 (fun j => .int (Int32.ofInt (f' j))))
    congr 1
    unfold arrV
    congr 1
    congr 1
    funext j
    show Value.int (Int32.ofInt (f (j.val : Int))) = Value.int (Int32.ofInt (f' (j.val : Int)))
    rw [h (j.val : Int) ⟨by omega, by have := j.2; omega⟩]
  · exact hv
theorem xW_eq {g : xG} {S : List xS} {μ μ' : xM} {H : Heap} (h : xW g S μ H) (he : xEq S μ μ') : xW g S μ' H := xWof fun k sh hk => xC_congr (he k sh hk) (xWat h hk)
/-! locals -/
def xL (ls : Array Slot) (nL : Nat) (vs : List (Option Value)) : Prop := ls.size = nL ∧ lv_wf ls ∧ ∀ (i : Nat) (v : Value), vs[i]? = some (some v) → ls[i]? = some (.val v)
def xLl (vs : List (Option Value)) : List (Nat × Value) := vs.zipIdx.filterMap (fun q => q.1.map (fun v => (q.2, v)))
theorem xLl_mem {vs : List (Option Value)} {i : Nat} {v : Value} : (i, v) ∈ xLl vs ↔ vs[i]? = some (some v) := by
  unfold xLl
  rw [List.mem_filterMap]
  constructor
  · rintro ⟨⟨o, j⟩, h1, h2⟩
    cases o with
    | none => simp at h2
    | some w =>
      simp only [Option.map_some, Option.some.injEq, Prod.mk.injEq] at h2
      obtain ⟨rfl, rfl⟩ := h2
      exact List.mem_zipIdx_iff_getElem?.mp h1
  · intro h
    exact ⟨(some v, i), List.mem_zipIdx_iff_getElem?.mpr h, rfl⟩
theorem xL.has {ls : Array Slot} {nL : Nat} {vs : List (Option Value)} (h : xL ls nL vs) : lv_has ls nL (xLl vs) := ⟨h.1, h.2.1, fun q hq => h.2.2 q.1 q.2 (xLl_mem.mp hq)⟩
def xOk (vs : List (Option Value)) : Nat → Bool
  | 0 => true
  | i + 1 => match vs[i]? with
    | some (some v) => v.category == 1
    | _ => true
theorem xOk_at {vs : List (Option Value)} {i j : Nat} {v : Value} (h : xOk vs i = true) (hj : j + 1 = i) (hv : vs[j]? = some (some v)) : (v.category == 2) = false := by
  subst hj
  simp only [xOk, hv] at h
  have h2 : v.category = 1 := by simpa using h
  simp [h2]
theorem xL.set1 {ls : Array Slot} {nL i : Nat} {vs : List (Option Value)} {v : Value} (hk : xOk vs i = true) (h : lv_has ls nL ((i, v) :: (xLl vs).filter (fun q => !(q.1 == i) && !(q.1 + 1 == i && q.2.category == 2)))) : xL ls nL (vs.set i (some v)) := by
  refine ⟨h.1, h.2.1, fun j w hj => ?_⟩
  by_cases hij : i = j
  · subst hij
    have hl : i < vs.length := by
      have := (List.getElem?_eq_some_iff.mp hj).1
      simpa using this
    rw [List.getElem?_set_self hl] at hj
    cases hj
    exact h.2.2 (i, v) List.mem_cons_self
  · rw [List.getElem?_set_ne hij] at hj
    refine h.2.2 (j, w) (List.mem_cons_of_mem _ (List.mem_filter.mpr ⟨xLl_mem.mpr hj, ?_⟩))
    have h1 : (j == i) = false := by simp; omega
    by_cases hz : j + 1 = i
    · simp [h1, xOk_at hk hz hj]
    · simp [h1, hz]
theorem xL.set2 {ls : Array Slot} {nL i : Nat} {vs : List (Option Value)} {v : Value} (hk : xOk vs i = true) (h : lv_has ls nL ((i, v) :: (xLl vs).filter (fun q => !(q.1 == i) && (!(q.1 == i + 1) && !(q.1 + 1 == i && q.2.category == 2))))) : xL ls nL ((vs.set i (some v)).set (i + 1) none) := by
  refine ⟨h.1, h.2.1, fun j w hj => ?_⟩
  by_cases h2 : i + 1 = j
  · subst h2
    rw [List.getElem?_set] at hj
    simp only [if_true] at hj
    split at hj
    · cases hj
    · cases hj
  · rw [List.getElem?_set_ne h2] at hj
    by_cases hij : i = j
    · subst hij
      have hl : i < vs.length := by
        have := (List.getElem?_eq_some_iff.mp hj).1
        simpa using this
      rw [List.getElem?_set_self hl] at hj
      cases hj
      exact h.2.2 (i, v) List.mem_cons_self
    · rw [List.getElem?_set_ne hij] at hj
      refine h.2.2 (j, w) (List.mem_cons_of_mem _ (List.mem_filter.mpr ⟨xLl_mem.mpr hj, ?_⟩))
      have h1 : (j == i) = false := by simp; omega
      have h3 : (j == i + 1) = false := by simp; omega
      by_cases hz : j + 1 = i
      · simp [h1, h3, xOk_at hk hz hj]
      · simp [h1, h3, hz]
def xA : List Value → Nat → List (Option Value)
  | [], n => List.replicate n none
  | v :: vs, n => if v.category = 2 then some v :: none :: xA vs (n - 2) else some v :: xA vs (n - 1)
theorem xA_mem : ∀ (av : List Value) (k n i : Nat) (v : Value), (xA av n)[i]? = some (some v) → (k + i, v) ∈ lv_args k av
  | [], k, n, i, v, h => by
    simp only [xA, List.getElem?_replicate] at h
    split at h <;> simp at h
  | w :: av, k, n, i, v, h => by
    by_cases hc : w.category = 2
    · simp only [xA, hc, if_true] at h
      simp only [lv_args, hc, if_true]
      match i, h with
      | 0, h =>
        simp only [List.getElem?_cons_zero, Option.some.injEq] at h
        subst h
        exact List.mem_cons_self
      | 1, h => simp at h
      | i + 2, h =>
        simp only [List.getElem?_cons_succ] at h
        have := xA_mem av (k + 2) (n - 2) i v h
        rw [show k + (i + 2) = k + 2 + i by omega]
        exact List.mem_cons_of_mem _ this
    · simp only [xA, hc, if_false] at h
      simp only [lv_args, hc, if_false]
      match i, h with
      | 0, h =>
        simp only [List.getElem?_cons_zero, Option.some.injEq] at h
        subst h
        exact List.mem_cons_self
      | i + 1, h =>
        simp only [List.getElem?_cons_succ] at h
        have := xA_mem av (k + 1) (n - 1) i v h
        rw [show k + (i + 1) = k + 1 + i by omega]
        exact List.mem_cons_of_mem _ this
theorem xL_entry (av : List Value) {n : Nat} (h : (lg_sl av).length ≤ n) : xL ((lg_sl av ++ List.replicate (n - (lg_sl av).length) Slot.unset).toArray) n (xA av n) := by
  have h1 := lv_entry av h
  refine ⟨h1.1, h1.2.1, fun i v hv => ?_⟩
  have := xA_mem av 0 n i v hv
  rw [Nat.zero_add] at this
  exact h1.2.2 (i, v) this
/-! a walk's goal, and what stands all through it -/
def xCtx (g : xG) (p : Program) (s : State) (m : MethodId) (args : Array Value) (meth : Method) (c : Code) (cc : ByteArray) (nL : Nat) (own nm : String) (ret : Option FieldType) : Prop :=
  p.tables.exec = Jvm.exec ∧ c.code = cc ∧ c.maxLocals = nL ∧ s.vm.findClass own = some m.cls ∧ (∀ w ∈ xTB, w.before args s = true) ∧ xKn g s ∧ meth.sig.returnType = ret ∧ meth.locks = false ∧ meth.name = nm ∧ g.1 ≤ s.heap.size
def xX (g : xG) (nL : Nat) (p : Program) (l : Launch) (e : Env) (R : Room) (s : State) (m : MethodId) (args : Array Value) (below : List Frame) (meth : Method) (c : Code) (cells slots : Nat) (Q : State → Prop) (S : List xS) (μ : xM) (pc : Nat) (vs : List (Option Value)) (st : List Value) : Prop :=
  ∀ (H : Heap) (locs : List Loc) (ls : Array Slot), xL ls nL vs → xW g S μ H → va_S (xA0 g) s.heap H locs → W p l e R s m args below meth c H locs cells slots Q (F0 m pc ls st)
def xQ (g : xG) (S : List xS) (Po : Option Value → xM → Prop) : Array Value → State → Outcome → State → Prop := fun _ st o t => (∃ (r : Option Value) (μ' : xM), o = .returned r ∧ Po r μ' ∧ xW g S μ' t.heap) ∧ va_F (xA0 g) st t
/-- a method's contract: from the shapes S and the numbers μ, with arguments av: it returns; r and μ' as Po says, the shapes are S'; nc cells of ns slots are made -/
def xCt (g : xG) (l : Launch) (y : MethodName) (cc : ByteArray) (maxL : Nat) (ret : Option FieldType) (rf rl nc ns : Nat) (av : List Value) (S : List xS) (μ : xM) (S' : List xS) (Po : Option Value → xM → Prop) : Prop :=
  Met l y (.code y cc maxL ret :: xTB) { frames := rf, cells := nc, slots := ns, locals := rl } (va_Pc av (fun U => xW g S μ U.heap ∧ xKn g U ∧ (nc = 0 ∨ U.heap.size = g.1 + S.length) ∧ g.1 ≤ U.heap.size)) (xQ g S' Po) nc ns (xA0 g)
/-- the answer is a number -/
def xI (P : Int → xM → Prop) : Option Value → xM → Prop := fun r μ' => ∃ a : Int, r = some (vI a) ∧ P a μ'
def xN (P : xM → Prop) : Option Value → xM → Prop := fun r μ' => r = none ∧ P μ'
theorem xOld.step {g : xG} {s U : State} {H : Heap} {locs : List Loc} (h : xOld g s) (hS : va_S (xA0 g) s.heap H locs) (hU : U.heap = H) (hW : s.WarmedH U.vm) : xOld g U := by
  obtain ⟨h1, h2, h3, h4⟩ := h
  refine ⟨?_, vk_R.warm hW h2, ?_, ?_⟩
  · rw [hU]; exact vk_S.moved hW.alike (vk_S.kept h1 hS.2.1)
  · rw [hU]; exact va_Z.moved hW.alike (va_Z.kept h3 hS.2.1)
  · rw [hU]; exact va_Zq.moved hW.alike (va_Zq.kept h4 hS.2.1)
theorem xNest_warm {w : Cond} (h : w ∈ xNest) {s U : State} (hW : s.WarmedH U.vm) (hZ : va_Nw w s) : va_Nw w U := by
  simp only [xNest, List.mem_cons, List.not_mem_nil, or_false] at h
  rcases h with rfl | rfl | rfl | rfl | rfl | rfl <;> exact va_Nw.warmM hW hZ
theorem xNest_same {w : Cond} (h : w ∈ xNest) {s U : State} (hv : s.vm = U.vm) (hZ : va_Nw w s) : va_Nw w U := by
  simp only [xNest, List.mem_cons, List.not_mem_nil, or_false] at h
  rcases h with rfl | rfl | rfl | rfl | rfl | rfl <;> exact va_Nw.same rfl hv hZ
theorem xKn.step {g : xG} {s U : State} {H : Heap} {locs : List Loc} (h : xKn g s) (hS : va_S (xA0 g) s.heap H locs) (hU : U.heap = H) (hW : s.WarmedH U.vm) : xKn g U :=
  ⟨va_K.moved hW.alike h.1, fun w hw => xNest_warm hw hW (h.2.1 w hw), va_AO.moved hW.alike h.2.2.1, h.2.2.2.step hS hU hW⟩
theorem xKn.calling {g : xG} {U : State} (h : xKn g U) (gg : JFrame) (mk : MethodId) (a : Array Value) : xKn g (U.calling gg mk a) := by
  obtain ⟨h1, h2, h3, h4, h5, h6, h7⟩ := h
  exact ⟨va_K.moved (u := U) (U := U.calling gg mk a) (Vm.Alike.refl U.vm) h1, fun w hw => xNest_same hw (s := U) (U := U.calling gg mk a) rfl (h2 w hw), va_AO.moved (u := U) (U := U.calling gg mk a) (Vm.Alike.refl U.vm) h3, vk_S.moved (u := U) (U := U.calling gg mk a) (Vm.Alike.refl U.vm) h4, vk_R.same (u := U) (U := U.calling gg mk a) rfl h5, va_Z.moved (u := U) (U := U.calling gg mk a) (Vm.Alike.refl U.vm) h6, va_Zq.moved (u := U) (U := U.calling gg mk a) (Vm.Alike.refl U.vm) h7⟩
end
section
/-! rows: an instruction each; what is between the brackets is a walk's goal -/
theorem i_lt {a b : Int} (ha : -2147483648 ≤ a ∧ a < 2147483648) (hb : -2147483648 ≤ b ∧ b < 2147483648) : Int32.ofInt a < Int32.ofInt b ↔ a < b := by
  rw [Int32.lt_iff_toInt_lt, Int32.toInt_ofInt_of_le (by omega) (by omega), Int32.toInt_ofInt_of_le (by omega) (by omega)]
theorem i_le {a b : Int} (ha : -2147483648 ≤ a ∧ a < 2147483648) (hb : -2147483648 ≤ b ∧ b < 2147483648) : Int32.ofInt a ≤ Int32.ofInt b ↔ a ≤ b := by
  rw [Int32.le_iff_toInt_le, Int32.toInt_ofInt_of_le (by omega) (by omega), Int32.toInt_ofInt_of_le (by omega) (by omega)]
theorem i_eq {a b : Int} (ha : -2147483648 ≤ a ∧ a < 2147483648) (hb : -2147483648 ≤ b ∧ b < 2147483648) : Int32.ofInt a = Int32.ofInt b ↔ a = b := by
  rw [← Int32.toInt_inj, Int32.toInt_ofInt_of_le (by omega) (by omega), Int32.toInt_ofInt_of_le (by omega) (by omega)]
theorem i_toInt {a : Int} (ha : -2147483648 ≤ a ∧ a < 2147483648) : (Int32.ofInt a).toInt = a := Int32.toInt_ofInt_of_le (by omega) (by omega)
theorem i_back (x : Int32) : Int32.ofInt x.toInt = x := Int32.ofInt_toInt x
theorem i_in {a : Int} {n : Nat} (h : 0 ≤ a ∧ a < n) (hn : n < 2147483648) : vp_in (Int32.ofInt a) n := by
  rw [vp_in_iff, i_toInt (by omega)]
  exact h
theorem i_cl {a : Int} (h : 0 ≤ a ∧ a < 2147483648) : ((Int32.ofInt a).toNatClampNeg : Int) = a := by
  show (((Int32.ofInt a).toInt.toNat : Nat) : Int) = a
  rw [i_toInt (by omega)]
  omega
def iAnd (a b : Int) : Int := (Int32.ofInt a &&& Int32.ofInt b).toInt
def iOr (a b : Int) : Int := (Int32.ofInt a ||| Int32.ofInt b).toInt
def iShl (a b : Int) : Int := (Int32.ofInt a <<< (Int32.ofInt b &&& 31)).toInt
def iShr (a b : Int) : Int := (Int32.ofInt a >>> (Int32.ofInt b &&& 31)).toInt
def iUshr (a b : Int) : Int := ((Int32.ofInt a).toUInt32 >>> ((Int32.ofInt b).toUInt32 &&& Int32.toUInt32 31)).toInt32.toInt
def iDiv (a b : Int) : Int := (Int32.ofInt a / Int32.ofInt b).toInt
def iRem (a b : Int) : Int := (Int32.ofInt a - Int32.ofInt a / Int32.ofInt b * Int32.ofInt b).toInt
def lDiv (a b : Int) : Int := (Int64.ofInt a / Int64.ofInt b).toInt
def lRem (a b : Int) : Int := (Int64.ofInt a - Int64.ofInt a / Int64.ofInt b * Int64.ofInt b).toInt
def lCmp (a b : Int) : Int := (lg_cmp (Int64.ofInt a) (Int64.ofInt b)).toInt
theorem xU_ne {μ : xM} {k i : Nat} {j a : Int} (h : i ≠ k) : xU μ k j a i = μ i := by
  funext j'
  simp [xU, h]
theorem xws_setE {g : xG} {S : List xS} {μ μ' : xM} {k : Nat} {sh : xS} {e : va_E} (hk : S[k]? = some sh) (he : xC g (μ' k) sh = e) (ho : ∀ i, i ≠ k → μ' i = μ i) : (xws g S μ).set k (g.1 + k, e) = xws g S μ' := by
  apply List.ext_getElem?
  intro i
  by_cases hi : k = i
  · subst hi
    rw [xws_get hk, he, List.getElem?_set_self]
    have := (List.getElem?_eq_some_iff.mp (xws_get (g := g) (μ := μ) hk)).1
    exact this
  · rw [List.getElem?_set_ne hi]
    simp only [xws, List.getElem?_mapIdx, ho i (fun z => hi z.symm)]
theorem xws_setS {g : xG} {S : List xS} {μ : xM} {k : Nat} {sh sh' : xS} {e : va_E} (hk : S[k]? = some sh) (he : xC g (μ k) sh' = e) : (xws g S μ).set k (g.1 + k, e) = xws g (S.set k sh') μ := by
  have hl : k < S.length := (List.getElem?_eq_some_iff.mp hk).1
  apply List.ext_getElem?
  intro i
  by_cases hi : k = i
  · subst hi
    rw [xws_get (sh := sh') (by rw [List.getElem?_set_self hl]), he, List.getElem?_set_self]
    have := (List.getElem?_eq_some_iff.mp (xws_get (g := g) (μ := μ) hk)).1
    exact this
  · rw [List.getElem?_set_ne hi]
    simp only [xws, List.getElem?_mapIdx, List.getElem?_set_ne hi]
theorem xGI {ws : List Cond} (h : ∀ w ∈ ws, w ∈ xTB) : GoodIn xTB ws := fun w hw => ⟨h w hw, xgood w (h w hw)⟩
section XR
variable {g : xG} {nL : Nat} {p : Program} {l : Launch} {e : Env} {R : Room} {s : State} {m : MethodId} {args : Array Value} {below : List Frame} {meth : Method} {c : Code} {cells slots : Nat} {Q : State → Prop} {S : List xS} {μ : xM} {pc pc' : Nat} {vs : List (Option Value)} {st rest : List Value} {cc : ByteArray} {own nm : String} {ret : Option FieldType}
theorem x_eq {μ' : xM} (he : xEq S μ μ') (k : xX g nL p l e R s m args below meth c cells slots Q S μ' pc vs st) : xX g nL p l e R s m args below meth c cells slots Q S μ pc vs st := fun H locs ls hl hW hS => k H locs ls hl (xW_eq hW he) hS
theorem x_vs {vs' : List (Option Value)} (he : ∀ (i : Nat) (v : Value), vs'[i]? = some (some v) → vs[i]? = some (some v)) (k : xX g nL p l e R s m args below meth c cells slots Q S μ pc vs' st) : xX g nL p l e R s m args below meth c cells slots Q S μ pc vs st := fun H locs ls hl hW hS => k H locs ls ⟨hl.1, hl.2.1, fun i v h => hl.2.2 i v (he i v h)⟩ hW hS
theorem x_iconst (hC : xCtx g p s m args meth c cc nL own nm ret) {n : Int} (hd : decode cc pc = .ok (.iconst n, 1)) (hp : pc + 1 = pc') (k : xX g nL p l e R s m args below meth c cells slots Q S μ pc' vs (vI n :: st)) : xX g nL p l e R s m args below meth c cells slots Q S μ pc vs st := by
  subst hp; exact fun H locs ls hl hW hS => lv_iconst hC.1 hC.2.1 hd rfl (k H locs ls hl hW hS)
theorem x_bipush (hC : xCtx g p s m args meth c cc nL own nm ret) {n : Int} (hd : decode cc pc = .ok (.bipush n, 2)) (hv : (Int8.ofInt n).toInt32 = Int32.ofInt n) (hp : pc + 2 = pc') (k : xX g nL p l e R s m args below meth c cells slots Q S μ pc' vs (vI n :: st)) : xX g nL p l e R s m args below meth c cells slots Q S μ pc vs st := by
  subst hp; exact fun H locs ls hl hW hS => lv_bipush hC.1 hC.2.1 hd hv (k H locs ls hl hW hS)
theorem x_sipush (hC : xCtx g p s m args meth c cc nL own nm ret) {n : Int} (hd : decode cc pc = .ok (.sipush n, 3)) (hv : (Int16.ofInt n).toInt32 = Int32.ofInt n) (hp : pc + 3 = pc') (k : xX g nL p l e R s m args below meth c cells slots Q S μ pc' vs (vI n :: st)) : xX g nL p l e R s m args below meth c cells slots Q S μ pc vs st := by
  subst hp; exact fun H locs ls hl hW hS => lv_sipush hC.1 hC.2.1 hd hv (k H locs ls hl hW hS)
theorem x_lconst (hC : xCtx g p s m args meth c cc nL own nm ret) {n : Fin 2} {a : Int} (hd : decode cc pc = .ok (.lconst n, 1)) (hv : Int64.ofNat (n : Nat) = Int64.ofInt a) (hp : pc + 1 = pc') (k : xX g nL p l e R s m args below meth c cells slots Q S μ pc' vs (vL a :: st)) : xX g nL p l e R s m args below meth c cells slots Q S μ pc vs st := by
  subst hp; exact fun H locs ls hl hW hS => lv_lconst hC.1 hC.2.1 hd hv (k H locs ls hl hW hS)
theorem x_ldc2 (hC : xCtx g p s m args meth c cc nL own nm ret) {idx : Nat} {v : Int64} {a : Int} (hw : Cond.constantLong own idx v ∈ xTB) (hd : decode cc pc = .ok (.ldc2_w idx, 3)) (hv : v = Int64.ofInt a) (hp : pc + 3 = pc') (k : xX g nL p l e R s m args below meth c cells slots Q S μ pc' vs (vL a :: st)) : xX g nL p l e R s m args below meth c cells slots Q S μ pc vs st := by
  subst hp; subst hv; exact fun H locs ls hl hW hS => lv_ldc2 hC.1 hC.2.1 hC.2.2.2.1 (hC.2.2.2.2.1 _ hw) hd (k H locs ls hl hW hS)
theorem x_ldcw (hC : xCtx g p s m args meth c cc nL own nm ret) {idx : Nat} {v : Int32} {a : Int} (hw : Cond.constant own idx v ∈ xTB) (hd : decode cc pc = .ok (.ldc_w idx, 3)) (hv : v = Int32.ofInt a) (hp : pc + 3 = pc') (k : xX g nL p l e R s m args below meth c cells slots Q S μ pc' vs (vI a :: st)) : xX g nL p l e R s m args below meth c cells slots Q S μ pc vs st := by
  subst hp; subst hv; exact fun H locs ls hl hW hS => lv_ldcw hC.1 hC.2.1 hC.2.2.2.1 (hC.2.2.2.2.1 _ hw) hd (k H locs ls hl hW hS)
theorem x_iload_n (hC : xCtx g p s m args meth c cc nL own nm ret) {i : Fin 4} {a : Int} (hd : decode cc pc = .ok (.iload_n i, 1)) (hv : vs[(i : Nat)]? = some (some (vI a))) (hp : pc + 1 = pc') (k : xX g nL p l e R s m args below meth c cells slots Q S μ pc' vs (vI a :: st)) : xX g nL p l e R s m args below meth c cells slots Q S μ pc vs st := by
  subst hp; exact fun H locs ls hl hW hS => lv_iload_n hC.1 hC.2.1 hd rfl (hl.2.2 _ _ hv) (k H locs ls hl hW hS)
theorem x_iload (hC : xCtx g p s m args meth c cc nL own nm ret) {i : Nat} {a : Int} (hd : decode cc pc = .ok (.iload i, 2)) (hv : vs[i]? = some (some (vI a))) (hp : pc + 2 = pc') (k : xX g nL p l e R s m args below meth c cells slots Q S μ pc' vs (vI a :: st)) : xX g nL p l e R s m args below meth c cells slots Q S μ pc vs st := by
  subst hp; exact fun H locs ls hl hW hS => lv_iload hC.1 hC.2.1 hd (hl.2.2 _ _ hv) (k H locs ls hl hW hS)
theorem x_lload_n (hC : xCtx g p s m args meth c cc nL own nm ret) {i : Fin 4} {a : Int} (hd : decode cc pc = .ok (.lload_n i, 1)) (hv : vs[(i : Nat)]? = some (some (vL a))) (hp : pc + 1 = pc') (k : xX g nL p l e R s m args below meth c cells slots Q S μ pc' vs (vL a :: st)) : xX g nL p l e R s m args below meth c cells slots Q S μ pc vs st := by
  subst hp; exact fun H locs ls hl hW hS => lv_lload_n hC.1 hC.2.1 hd rfl (hl.2.2 _ _ hv) (k H locs ls hl hW hS)
theorem x_lload (hC : xCtx g p s m args meth c cc nL own nm ret) {i : Nat} {a : Int} (hd : decode cc pc = .ok (.lload i, 2)) (hv : vs[i]? = some (some (vL a))) (hp : pc + 2 = pc') (k : xX g nL p l e R s m args below meth c cells slots Q S μ pc' vs (vL a :: st)) : xX g nL p l e R s m args below meth c cells slots Q S μ pc vs st := by
  subst hp; exact fun H locs ls hl hW hS => lv_lload hC.1 hC.2.1 hd (hl.2.2 _ _ hv) (k H locs ls hl hW hS)
theorem x_aload_n (hC : xCtx g p s m args meth c cc nL own nm ret) {i : Fin 4} {b : Nat} (hd : decode cc pc = .ok (.aload_n i, 1)) (hv : vs[(i : Nat)]? = some (some (vR g b))) (hp : pc + 1 = pc') (k : xX g nL p l e R s m args below meth c cells slots Q S μ pc' vs (vR g b :: st)) : xX g nL p l e R s m args below meth c cells slots Q S μ pc vs st := by
  subst hp; exact fun H locs ls hl hW hS => lv_aload_n hC.1 hC.2.1 hd rfl (hl.2.2 _ _ hv) (k H locs ls hl hW hS)
theorem x_istore_n (hC : xCtx g p s m args meth c cc nL own nm ret) {i : Fin 4} {a : Int} (hd : decode cc pc = .ok (.istore_n i, 1)) (hn : (i : Nat) < nL) (ho : xOk vs i = true) (hp : pc + 1 = pc') (k : xX g nL p l e R s m args below meth c cells slots Q S μ pc' (vs.set i (some (vI a))) st) : xX g nL p l e R s m args below meth c cells slots Q S μ pc vs (vI a :: st) := by
  subst hp; exact fun H locs ls hl hW hS => lv_istore_n hC.1 hC.2.1 hd rfl hl.has hn rfl (fun ls' hl' => k H locs ls' (xL.set1 ho hl') hW hS)
theorem x_istore (hC : xCtx g p s m args meth c cc nL own nm ret) {i : Nat} {a : Int} (hd : decode cc pc = .ok (.istore i, 2)) (hn : i < nL) (ho : xOk vs i = true) (hp : pc + 2 = pc') (k : xX g nL p l e R s m args below meth c cells slots Q S μ pc' (vs.set i (some (vI a))) st) : xX g nL p l e R s m args below meth c cells slots Q S μ pc vs (vI a :: st) := by
  subst hp; exact fun H locs ls hl hW hS => lv_istore hC.1 hC.2.1 hd hl.has hn rfl (fun ls' hl' => k H locs ls' (xL.set1 ho hl') hW hS)
theorem x_astore_n (hC : xCtx g p s m args meth c cc nL own nm ret) {i : Fin 4} {b : Nat} (hd : decode cc pc = .ok (.astore_n i, 1)) (hn : (i : Nat) < nL) (ho : xOk vs i = true) (hp : pc + 1 = pc') (k : xX g nL p l e R s m args below meth c cells slots Q S μ pc' (vs.set i (some (vR g b))) st) : xX g nL p l e R s m args below meth c cells slots Q S μ pc vs (vR g b :: st) := by
  subst hp; exact fun H locs ls hl hW hS => lv_astore_n hC.1 hC.2.1 hd rfl hl.has hn rfl (fun ls' hl' => k H locs ls' (xL.set1 ho hl') hW hS)
theorem x_lstore_n (hC : xCtx g p s m args meth c cc nL own nm ret) {i : Fin 4} {a : Int} (hd : decode cc pc = .ok (.lstore_n i, 1)) (hn : (i : Nat) + 1 < nL) (ho : xOk vs i = true) (hp : pc + 1 = pc') (k : xX g nL p l e R s m args below meth c cells slots Q S μ pc' ((vs.set i (some (vL a))).set (i + 1) none) st) : xX g nL p l e R s m args below meth c cells slots Q S μ pc vs (vL a :: st) := by
  subst hp; exact fun H locs ls hl hW hS => lv_lstore_n hC.1 hC.2.1 hd rfl hl.has hn rfl (fun ls' hl' => k H locs ls' (xL.set2 ho hl') hW hS)
theorem x_lstore (hC : xCtx g p s m args meth c cc nL own nm ret) {i : Nat} {a : Int} (hd : decode cc pc = .ok (.lstore i, 2)) (hn : i + 1 < nL) (ho : xOk vs i = true) (hp : pc + 2 = pc') (k : xX g nL p l e R s m args below meth c cells slots Q S μ pc' ((vs.set i (some (vL a))).set (i + 1) none) st) : xX g nL p l e R s m args below meth c cells slots Q S μ pc vs (vL a :: st) := by
  subst hp; exact fun H locs ls hl hW hS => lv_lstore hC.1 hC.2.1 hd hl.has hn rfl (fun ls' hl' => k H locs ls' (xL.set2 ho hl') hW hS)
theorem x_iinc (hC : xCtx g p s m args meth c cc nL own nm ret) {i : Nat} {n a : Int} (hd : decode cc pc = .ok (.iinc i n, 3)) (hv : vs[i]? = some (some (vI a))) (hn : i < nL) (ho : xOk vs i = true) (hp : pc + 3 = pc') (k : xX g nL p l e R s m args below meth c cells slots Q S μ pc' (vs.set i (some (vI (a + n)))) st) : xX g nL p l e R s m args below meth c cells slots Q S μ pc vs st := by
  subst hp
  intro H locs ls hl hW hS
  obtain ⟨q, hq⟩ := List.getElem?_of_mem (xLl_mem.mpr hv)
  exact lv_iinc (v := Int32.ofInt (a + n)) hC.1 hC.2.1 hd hl.has hq (Int32.ofInt_add a n).symm hn rfl (fun ls' hl' => k H locs ls' (xL.set1 ho hl') hW hS)
theorem x_iadd (hC : xCtx g p s m args meth c cc nL own nm ret) {a b : Int} (hd : decode cc pc = .ok (.iadd, 1)) (hp : pc + 1 = pc') (k : xX g nL p l e R s m args below meth c cells slots Q S μ pc' vs (vI (a + b) :: st)) : xX g nL p l e R s m args below meth c cells slots Q S μ pc vs (vI b :: vI a :: st) := by
  subst hp; exact fun H locs ls hl hW hS => lv_iadd hC.1 hC.2.1 hd (by rw [← Int32.ofInt_add]; exact k H locs ls hl hW hS)
theorem x_isub (hC : xCtx g p s m args meth c cc nL own nm ret) {a b : Int} (hd : decode cc pc = .ok (.isub, 1)) (hp : pc + 1 = pc') (k : xX g nL p l e R s m args below meth c cells slots Q S μ pc' vs (vI (a - b) :: st)) : xX g nL p l e R s m args below meth c cells slots Q S μ pc vs (vI b :: vI a :: st) := by
  subst hp; exact fun H locs ls hl hW hS => lv_isub hC.1 hC.2.1 hd (by rw [← Int32.ofInt_sub]; exact k H locs ls hl hW hS)
theorem x_imul (hC : xCtx g p s m args meth c cc nL own nm ret) {a b : Int} (hd : decode cc pc = .ok (.imul, 1)) (hp : pc + 1 = pc') (k : xX g nL p l e R s m args below meth c cells slots Q S μ pc' vs (vI (a * b) :: st)) : xX g nL p l e R s m args below meth c cells slots Q S μ pc vs (vI b :: vI a :: st) := by
  subst hp; exact fun H locs ls hl hW hS => lv_imul hC.1 hC.2.1 hd (by rw [← Int32.ofInt_mul]; exact k H locs ls hl hW hS)
theorem x_iand (hC : xCtx g p s m args meth c cc nL own nm ret) {a b : Int} (hd : decode cc pc = .ok (.iand, 1)) (hp : pc + 1 = pc') (k : xX g nL p l e R s m args below meth c cells slots Q S μ pc' vs (vI (iAnd a b) :: st)) : xX g nL p l e R s m args below meth c cells slots Q S μ pc vs (vI b :: vI a :: st) := by
  subst hp; exact fun H locs ls hl hW hS => lv_iand hC.1 hC.2.1 hd (by rw [← i_back (Int32.ofInt a &&& Int32.ofInt b)]; exact k H locs ls hl hW hS)
theorem x_ior (hC : xCtx g p s m args meth c cc nL own nm ret) {a b : Int} (hd : decode cc pc = .ok (.ior, 1)) (hp : pc + 1 = pc') (k : xX g nL p l e R s m args below meth c cells slots Q S μ pc' vs (vI (iOr a b) :: st)) : xX g nL p l e R s m args below meth c cells slots Q S μ pc vs (vI b :: vI a :: st) := by
  subst hp; exact fun H locs ls hl hW hS => lv_ior hC.1 hC.2.1 hd (by rw [← i_back (Int32.ofInt a ||| Int32.ofInt b)]; exact k H locs ls hl hW hS)
theorem x_ishl (hC : xCtx g p s m args meth c cc nL own nm ret) {a b : Int} (hd : decode cc pc = .ok (.ishl, 1)) (hp : pc + 1 = pc') (k : xX g nL p l e R s m args below meth c cells slots Q S μ pc' vs (vI (iShl a b) :: st)) : xX g nL p l e R s m args below meth c cells slots Q S μ pc vs (vI b :: vI a :: st) := by
  subst hp; exact fun H locs ls hl hW hS => lv_ishl hC.1 hC.2.1 hd (by rw [← i_back (Int32.ofInt a <<< (Int32.ofInt b &&& 31))]; exact k H locs ls hl hW hS)
theorem x_ishr (hC : xCtx g p s m args meth c cc nL own nm ret) {a b : Int} (hd : decode cc pc = .ok (.ishr, 1)) (hp : pc + 1 = pc') (k : xX g nL p l e R s m args below meth c cells slots Q S μ pc' vs (vI (iShr a b) :: st)) : xX g nL p l e R s m args below meth c cells slots Q S μ pc vs (vI b :: vI a :: st) := by
  subst hp; exact fun H locs ls hl hW hS => lv_ishr hC.1 hC.2.1 hd (by rw [← i_back (Int32.ofInt a >>> (Int32.ofInt b &&& 31))]; exact k H locs ls hl hW hS)
theorem x_iushr (hC : xCtx g p s m args meth c cc nL own nm ret) {a b : Int} (hd : decode cc pc = .ok (.iushr, 1)) (hp : pc + 1 = pc') (k : xX g nL p l e R s m args below meth c cells slots Q S μ pc' vs (vI (iUshr a b) :: st)) : xX g nL p l e R s m args below meth c cells slots Q S μ pc vs (vI b :: vI a :: st) := by
  subst hp; exact fun H locs ls hl hW hS => lv_iushr hC.1 hC.2.1 hd (i_back _).symm (k H locs ls hl hW hS)
theorem x_idiv (hC : xCtx g p s m args meth c cc nL own nm ret) {a b : Int} (hd : decode cc pc = .ok (.idiv, 1)) (hb : -2147483648 ≤ b ∧ b < 2147483648) (h0 : b ≠ 0) (hp : pc + 1 = pc') (k : xX g nL p l e R s m args below meth c cells slots Q S μ pc' vs (vI (iDiv a b) :: st)) : xX g nL p l e R s m args below meth c cells slots Q S μ pc vs (vI b :: vI a :: st) := by
  subst hp; exact fun H locs ls hl hW hS => lv_idiv hC.1 hC.2.1 hd (fun z => h0 ((i_eq hb (by omega)).mp z)) (by rw [← i_back (Int32.ofInt a / Int32.ofInt b)]; exact k H locs ls hl hW hS)
theorem x_irem (hC : xCtx g p s m args meth c cc nL own nm ret) {a b : Int} (hd : decode cc pc = .ok (.irem, 1)) (hb : -2147483648 ≤ b ∧ b < 2147483648) (h0 : b ≠ 0) (hp : pc + 1 = pc') (k : xX g nL p l e R s m args below meth c cells slots Q S μ pc' vs (vI (iRem a b) :: st)) : xX g nL p l e R s m args below meth c cells slots Q S μ pc vs (vI b :: vI a :: st) := by
  subst hp; exact fun H locs ls hl hW hS => lv_irem hC.1 hC.2.1 hd (fun z => h0 ((i_eq hb (by omega)).mp z)) (by rw [← i_back (Int32.ofInt a - Int32.ofInt a / Int32.ofInt b * Int32.ofInt b)]; exact k H locs ls hl hW hS)
theorem x_ladd (hC : xCtx g p s m args meth c cc nL own nm ret) {a b : Int} (hd : decode cc pc = .ok (.ladd, 1)) (hp : pc + 1 = pc') (k : xX g nL p l e R s m args below meth c cells slots Q S μ pc' vs (vL (a + b) :: st)) : xX g nL p l e R s m args below meth c cells slots Q S μ pc vs (vL b :: vL a :: st) := by
  subst hp; exact fun H locs ls hl hW hS => lv_ladd hC.1 hC.2.1 hd (by rw [← Int64.ofInt_add]; exact k H locs ls hl hW hS)
theorem x_lmul (hC : xCtx g p s m args meth c cc nL own nm ret) {a b : Int} (hd : decode cc pc = .ok (.lmul, 1)) (hp : pc + 1 = pc') (k : xX g nL p l e R s m args below meth c cells slots Q S μ pc' vs (vL (a * b) :: st)) : xX g nL p l e R s m args below meth c cells slots Q S μ pc vs (vL b :: vL a :: st) := by
  subst hp; exact fun H locs ls hl hW hS => lv_lmul hC.1 hC.2.1 hd (by rw [← Int64.ofInt_mul]; exact k H locs ls hl hW hS)
theorem l_eq {a b : Int} (ha : -9223372036854775808 ≤ a ∧ a < 9223372036854775808) (hb : -9223372036854775808 ≤ b ∧ b < 9223372036854775808) : Int64.ofInt a = Int64.ofInt b ↔ a = b := by
  rw [← Int64.toInt_inj, Int64.toInt_ofInt_of_le (by omega) (by omega), Int64.toInt_ofInt_of_le (by omega) (by omega)]
theorem x_lrem (hC : xCtx g p s m args meth c cc nL own nm ret) {a b : Int} (hd : decode cc pc = .ok (.lrem, 1)) (hb : -9223372036854775808 ≤ b ∧ b < 9223372036854775808) (h0 : b ≠ 0) (hp : pc + 1 = pc') (k : xX g nL p l e R s m args below meth c cells slots Q S μ pc' vs (vL (lRem a b) :: st)) : xX g nL p l e R s m args below meth c cells slots Q S μ pc vs (vL b :: vL a :: st) := by
  subst hp; exact fun H locs ls hl hW hS => lv_lrem hC.1 hC.2.1 hd (fun z => h0 ((l_eq hb (by omega)).mp z)) (by rw [← Int64.ofInt_toInt (Int64.ofInt a - Int64.ofInt a / Int64.ofInt b * Int64.ofInt b)]; exact k H locs ls hl hW hS)
theorem x_ldiv (hC : xCtx g p s m args meth c cc nL own nm ret) {a b : Int} (hd : decode cc pc = .ok (.ldiv, 1)) (hb : -9223372036854775808 ≤ b ∧ b < 9223372036854775808) (h0 : b ≠ 0) (hp : pc + 1 = pc') (k : xX g nL p l e R s m args below meth c cells slots Q S μ pc' vs (vL (lDiv a b) :: st)) : xX g nL p l e R s m args below meth c cells slots Q S μ pc vs (vL b :: vL a :: st) := by
  subst hp; exact fun H locs ls hl hW hS => lv_ldiv hC.1 hC.2.1 hd (fun z => h0 ((l_eq hb (by omega)).mp z)) (by rw [← Int64.ofInt_toInt (Int64.ofInt a / Int64.ofInt b)]; exact k H locs ls hl hW hS)
theorem x_lcmp (hC : xCtx g p s m args meth c cc nL own nm ret) {a b : Int} (hd : decode cc pc = .ok (.lcmp, 1)) (hp : pc + 1 = pc') (k : xX g nL p l e R s m args below meth c cells slots Q S μ pc' vs (vI (lCmp a b) :: st)) : xX g nL p l e R s m args below meth c cells slots Q S μ pc vs (vL b :: vL a :: st) := by
  subst hp; exact fun H locs ls hl hW hS => W.lcmp hC.1 hC.2.1 hd (by rw [← i_back (lg_cmp (Int64.ofInt a) (Int64.ofInt b))]; exact k H locs ls hl hW hS)
theorem i_l {a : Int} (ha : -2147483648 ≤ a ∧ a < 2147483648) : (Int32.ofInt a).toInt64 = Int64.ofInt a := by
  have h1 : Int32.maxValue.toInt = 2147483647 := by decide
  have h2 : Int32.minValue.toInt = -2147483648 := by decide
  exact Int32.toInt64_ofInt (by omega) (by omega)
theorem x_i2l (hC : xCtx g p s m args meth c cc nL own nm ret) {a : Int} (hd : decode cc pc = .ok (.i2l, 1)) (ha : -2147483648 ≤ a ∧ a < 2147483648) (hp : pc + 1 = pc') (k : xX g nL p l e R s m args below meth c cells slots Q S μ pc' vs (vL a :: st)) : xX g nL p l e R s m args below meth c cells slots Q S μ pc vs (vI a :: st) := by
  subst hp; exact fun H locs ls hl hW hS => lv_i2l hC.1 hC.2.1 hd (i_l ha) (k H locs ls hl hW hS)
theorem x_l2i (hC : xCtx g p s m args meth c cc nL own nm ret) {a : Int} (hd : decode cc pc = .ok (.l2i, 1)) (hp : pc + 1 = pc') (k : xX g nL p l e R s m args below meth c cells slots Q S μ pc' vs (vI a :: st)) : xX g nL p l e R s m args below meth c cells slots Q S μ pc vs (vL a :: st) := by
  subst hp; exact fun H locs ls hl hW hS => lv_l2i hC.1 hC.2.1 hd Int64.toInt32_ofInt (k H locs ls hl hW hS)
theorem i_ch {a : Int} (ha : 0 ≤ a ∧ a < 65536) : ((Int32.ofInt a).toUInt32 % 65536).toInt32 = Int32.ofInt a := by
  have e : Int32.ofInt a = nI a.toNat := by
    show Int32.ofInt a = Int32.ofNat a.toNat
    rw [← Int32.ofInt_eq_ofNat]
    congr 1
    omega
  rw [e, pk_char, pk_tn (by omega)]
  congr 1
  omega
theorem x_i2c (hC : xCtx g p s m args meth c cc nL own nm ret) {a : Int} (hd : decode cc pc = .ok (.i2c, 1)) (ha : 0 ≤ a ∧ a < 65536) (hp : pc + 1 = pc') (k : xX g nL p l e R s m args below meth c cells slots Q S μ pc' vs (vI a :: st)) : xX g nL p l e R s m args below meth c cells slots Q S μ pc vs (vI a :: st) := by
  subst hp; exact fun H locs ls hl hW hS => lv_i2c hC.1 hC.2.1 hd (i_ch ha) (k H locs ls hl hW hS)
theorem x_dup (hC : xCtx g p s m args meth c cc nL own nm ret) {v : Value} (hd : decode cc pc = .ok (.dup, 1)) (hv : v.category = 1) (hp : pc + 1 = pc') (k : xX g nL p l e R s m args below meth c cells slots Q S μ pc' vs (v :: v :: st)) : xX g nL p l e R s m args below meth c cells slots Q S μ pc vs (v :: st) := by
  subst hp; exact fun H locs ls hl hW hS => lv_dup hC.1 hC.2.1 hd hv (k H locs ls hl hW hS)
theorem x_dup2 (hC : xCtx g p s m args meth c cc nL own nm ret) {v w : Value} (hd : decode cc pc = .ok (.dup2, 1)) (hv : v.category = 1) (hw : w.category = 1) (hp : pc + 1 = pc') (k : xX g nL p l e R s m args below meth c cells slots Q S μ pc' vs (v :: w :: v :: w :: st)) : xX g nL p l e R s m args below meth c cells slots Q S μ pc vs (v :: w :: st) := by
  subst hp; exact fun H locs ls hl hW hS => lv_dup2_11 hC.1 hC.2.1 hd hv hw (k H locs ls hl hW hS)
theorem x_dup2l (hC : xCtx g p s m args meth c cc nL own nm ret) {a : Int} (hd : decode cc pc = .ok (.dup2, 1)) (hp : pc + 1 = pc') (k : xX g nL p l e R s m args below meth c cells slots Q S μ pc' vs (vL a :: vL a :: st)) : xX g nL p l e R s m args below meth c cells slots Q S μ pc vs (vL a :: st) := by
  subst hp; exact fun H locs ls hl hW hS => lv_dup2_2 hC.1 hC.2.1 hd rfl (k H locs ls hl hW hS)
theorem x_pop (hC : xCtx g p s m args meth c cc nL own nm ret) {v : Value} (hd : decode cc pc = .ok (.pop, 1)) (hv : v.category = 1) (hp : pc + 1 = pc') (k : xX g nL p l e R s m args below meth c cells slots Q S μ pc' vs st) : xX g nL p l e R s m args below meth c cells slots Q S μ pc vs (v :: st) := by
  subst hp; exact fun H locs ls hl hW hS => lv_pop hC.1 hC.2.1 hd hv (k H locs ls hl hW hS)
theorem x_goto (hC : xCtx g p s m args meth c cc nL own nm ret) {off : Int} {tgt : Nat} (hd : decode cc pc = .ok (.goto off, 3)) (ht : (pc : Int) + off = (tgt : Int)) (k : xX g nL p l e R s m args below meth c cells slots Q S μ tgt vs st) : xX g nL p l e R s m args below meth c cells slots Q S μ pc vs st :=
  fun H locs ls hl hW hS => lv_goto hC.1 hC.2.1 hd ht (k H locs ls hl hW hS)
theorem x_icmp_lt (hC : xCtx g p s m args meth c cc nL own nm ret) {a b off : Int} {tgt : Nat} (hd : decode cc pc = .ok (.if_icmp .lt off, 3)) (ht : (pc : Int) + off = (tgt : Int)) (hp : pc + 3 = pc') (ha : -2147483648 ≤ a ∧ a < 2147483648) (hb : -2147483648 ≤ b ∧ b < 2147483648) (kt : a < b → xX g nL p l e R s m args below meth c cells slots Q S μ tgt vs st) (kf : ¬ a < b → xX g nL p l e R s m args below meth c cells slots Q S μ pc' vs st) : xX g nL p l e R s m args below meth c cells slots Q S μ pc vs (vI b :: vI a :: st) := by
  subst hp; exact fun H locs ls hl hW hS => lv_icmp_lt hC.1 hC.2.1 hd ht (fun z => kt ((i_lt ha hb).mp z) H locs ls hl hW hS) (fun z => kf (fun w => z ((i_lt ha hb).mpr w)) H locs ls hl hW hS)
theorem x_icmp_ge (hC : xCtx g p s m args meth c cc nL own nm ret) {a b off : Int} {tgt : Nat} (hd : decode cc pc = .ok (.if_icmp .ge off, 3)) (ht : (pc : Int) + off = (tgt : Int)) (hp : pc + 3 = pc') (ha : -2147483648 ≤ a ∧ a < 2147483648) (hb : -2147483648 ≤ b ∧ b < 2147483648) (kt : b ≤ a → xX g nL p l e R s m args below meth c cells slots Q S μ tgt vs st) (kf : ¬ b ≤ a → xX g nL p l e R s m args below meth c cells slots Q S μ pc' vs st) : xX g nL p l e R s m args below meth c cells slots Q S μ pc vs (vI b :: vI a :: st) := by
  subst hp; exact fun H locs ls hl hW hS => lv_icmp_ge hC.1 hC.2.1 hd ht (fun z => kt ((i_le hb ha).mp z) H locs ls hl hW hS) (fun z => kf (fun w => z ((i_le hb ha).mpr w)) H locs ls hl hW hS)
theorem x_icmp_gt (hC : xCtx g p s m args meth c cc nL own nm ret) {a b off : Int} {tgt : Nat} (hd : decode cc pc = .ok (.if_icmp .gt off, 3)) (ht : (pc : Int) + off = (tgt : Int)) (hp : pc + 3 = pc') (ha : -2147483648 ≤ a ∧ a < 2147483648) (hb : -2147483648 ≤ b ∧ b < 2147483648) (kt : b < a → xX g nL p l e R s m args below meth c cells slots Q S μ tgt vs st) (kf : ¬ b < a → xX g nL p l e R s m args below meth c cells slots Q S μ pc' vs st) : xX g nL p l e R s m args below meth c cells slots Q S μ pc vs (vI b :: vI a :: st) := by
  subst hp; exact fun H locs ls hl hW hS => lv_icmp_gt hC.1 hC.2.1 hd ht (fun z => kt ((i_lt hb ha).mp z) H locs ls hl hW hS) (fun z => kf (fun w => z ((i_lt hb ha).mpr w)) H locs ls hl hW hS)
theorem x_icmp_le (hC : xCtx g p s m args meth c cc nL own nm ret) {a b off : Int} {tgt : Nat} (hd : decode cc pc = .ok (.if_icmp .le off, 3)) (ht : (pc : Int) + off = (tgt : Int)) (hp : pc + 3 = pc') (ha : -2147483648 ≤ a ∧ a < 2147483648) (hb : -2147483648 ≤ b ∧ b < 2147483648) (kt : a ≤ b → xX g nL p l e R s m args below meth c cells slots Q S μ tgt vs st) (kf : ¬ a ≤ b → xX g nL p l e R s m args below meth c cells slots Q S μ pc' vs st) : xX g nL p l e R s m args below meth c cells slots Q S μ pc vs (vI b :: vI a :: st) := by
  subst hp; exact fun H locs ls hl hW hS => lv_icmp_le hC.1 hC.2.1 hd ht (fun z => kt ((i_le ha hb).mp z) H locs ls hl hW hS) (fun z => kf (fun w => z ((i_le ha hb).mpr w)) H locs ls hl hW hS)
theorem x_icmp_eq (hC : xCtx g p s m args meth c cc nL own nm ret) {a b off : Int} {tgt : Nat} (hd : decode cc pc = .ok (.if_icmp .eq off, 3)) (ht : (pc : Int) + off = (tgt : Int)) (hp : pc + 3 = pc') (ha : -2147483648 ≤ a ∧ a < 2147483648) (hb : -2147483648 ≤ b ∧ b < 2147483648) (kt : a = b → xX g nL p l e R s m args below meth c cells slots Q S μ tgt vs st) (kf : ¬ a = b → xX g nL p l e R s m args below meth c cells slots Q S μ pc' vs st) : xX g nL p l e R s m args below meth c cells slots Q S μ pc vs (vI b :: vI a :: st) := by
  subst hp; exact fun H locs ls hl hW hS => lv_icmp_eq hC.1 hC.2.1 hd ht (fun z => kt ((i_eq ha hb).mp z) H locs ls hl hW hS) (fun z => kf (fun w => z ((i_eq ha hb).mpr w)) H locs ls hl hW hS)
theorem x_icmp_ne (hC : xCtx g p s m args meth c cc nL own nm ret) {a b off : Int} {tgt : Nat} (hd : decode cc pc = .ok (.if_icmp .ne off, 3)) (ht : (pc : Int) + off = (tgt : Int)) (hp : pc + 3 = pc') (ha : -2147483648 ≤ a ∧ a < 2147483648) (hb : -2147483648 ≤ b ∧ b < 2147483648) (kt : ¬ a = b → xX g nL p l e R s m args below meth c cells slots Q S μ tgt vs st) (kf : a = b → xX g nL p l e R s m args below meth c cells slots Q S μ pc' vs st) : xX g nL p l e R s m args below meth c cells slots Q S μ pc vs (vI b :: vI a :: st) := by
  subst hp; exact fun H locs ls hl hW hS => lv_icmp_ne hC.1 hC.2.1 hd ht (fun z => kt (fun w => z ((i_eq ha hb).mpr w)) H locs ls hl hW hS) (fun z => kf ((i_eq ha hb).mp z) H locs ls hl hW hS)
theorem x_if_lt (hC : xCtx g p s m args meth c cc nL own nm ret) {a off : Int} {tgt : Nat} (hd : decode cc pc = .ok (.ifCond .lt off, 3)) (ht : (pc : Int) + off = (tgt : Int)) (hp : pc + 3 = pc') (ha : -2147483648 ≤ a ∧ a < 2147483648) (kt : a < 0 → xX g nL p l e R s m args below meth c cells slots Q S μ tgt vs st) (kf : ¬ a < 0 → xX g nL p l e R s m args below meth c cells slots Q S μ pc' vs st) : xX g nL p l e R s m args below meth c cells slots Q S μ pc vs (vI a :: st) := by
  subst hp
  have h00 : (-2147483648 : Int) ≤ 0 ∧ (0 : Int) < 2147483648 := by omega
  exact fun H locs ls hl hW hS => lv_if_lt hC.1 hC.2.1 hd ht (fun z => kt ((i_lt ha h00).mp z) H locs ls hl hW hS) (fun z => kf (fun w => z ((i_lt ha h00).mpr w)) H locs ls hl hW hS)
theorem x_if_ge (hC : xCtx g p s m args meth c cc nL own nm ret) {a off : Int} {tgt : Nat} (hd : decode cc pc = .ok (.ifCond .ge off, 3)) (ht : (pc : Int) + off = (tgt : Int)) (hp : pc + 3 = pc') (ha : -2147483648 ≤ a ∧ a < 2147483648) (kt : 0 ≤ a → xX g nL p l e R s m args below meth c cells slots Q S μ tgt vs st) (kf : ¬ 0 ≤ a → xX g nL p l e R s m args below meth c cells slots Q S μ pc' vs st) : xX g nL p l e R s m args below meth c cells slots Q S μ pc vs (vI a :: st) := by
  subst hp
  have h00 : (-2147483648 : Int) ≤ 0 ∧ (0 : Int) < 2147483648 := by omega
  exact fun H locs ls hl hW hS => lv_if_ge hC.1 hC.2.1 hd ht (fun z => kt ((i_le h00 ha).mp z) H locs ls hl hW hS) (fun z => kf (fun w => z ((i_le h00 ha).mpr w)) H locs ls hl hW hS)
theorem x_if_gt (hC : xCtx g p s m args meth c cc nL own nm ret) {a off : Int} {tgt : Nat} (hd : decode cc pc = .ok (.ifCond .gt off, 3)) (ht : (pc : Int) + off = (tgt : Int)) (hp : pc + 3 = pc') (ha : -2147483648 ≤ a ∧ a < 2147483648) (kt : 0 < a → xX g nL p l e R s m args below meth c cells slots Q S μ tgt vs st) (kf : ¬ 0 < a → xX g nL p l e R s m args below meth c cells slots Q S μ pc' vs st) : xX g nL p l e R s m args below meth c cells slots Q S μ pc vs (vI a :: st) := by
  subst hp
  have h00 : (-2147483648 : Int) ≤ 0 ∧ (0 : Int) < 2147483648 := by omega
  exact fun H locs ls hl hW hS => lv_if_gt hC.1 hC.2.1 hd ht (fun z => kt ((i_lt h00 ha).mp z) H locs ls hl hW hS) (fun z => kf (fun w => z ((i_lt h00 ha).mpr w)) H locs ls hl hW hS)
theorem x_if_le (hC : xCtx g p s m args meth c cc nL own nm ret) {a off : Int} {tgt : Nat} (hd : decode cc pc = .ok (.ifCond .le off, 3)) (ht : (pc : Int) + off = (tgt : Int)) (hp : pc + 3 = pc') (ha : -2147483648 ≤ a ∧ a < 2147483648) (kt : a ≤ 0 → xX g nL p l e R s m args below meth c cells slots Q S μ tgt vs st) (kf : ¬ a ≤ 0 → xX g nL p l e R s m args below meth c cells slots Q S μ pc' vs st) : xX g nL p l e R s m args below meth c cells slots Q S μ pc vs (vI a :: st) := by
  subst hp
  have h00 : (-2147483648 : Int) ≤ 0 ∧ (0 : Int) < 2147483648 := by omega
  exact fun H locs ls hl hW hS => lv_if_le hC.1 hC.2.1 hd ht (fun z => kt ((i_le ha h00).mp z) H locs ls hl hW hS) (fun z => kf (fun w => z ((i_le ha h00).mpr w)) H locs ls hl hW hS)
theorem x_if_eq (hC : xCtx g p s m args meth c cc nL own nm ret) {a off : Int} {tgt : Nat} (hd : decode cc pc = .ok (.ifCond .eq off, 3)) (ht : (pc : Int) + off = (tgt : Int)) (hp : pc + 3 = pc') (ha : -2147483648 ≤ a ∧ a < 2147483648) (kt : a = 0 → xX g nL p l e R s m args below meth c cells slots Q S μ tgt vs st) (kf : ¬ a = 0 → xX g nL p l e R s m args below meth c cells slots Q S μ pc' vs st) : xX g nL p l e R s m args below meth c cells slots Q S μ pc vs (vI a :: st) := by
  subst hp
  have h00 : (-2147483648 : Int) ≤ 0 ∧ (0 : Int) < 2147483648 := by omega
  exact fun H locs ls hl hW hS => lv_if_eq hC.1 hC.2.1 hd ht (fun z => kt ((i_eq ha h00).mp z) H locs ls hl hW hS) (fun z => kf (fun w => z ((i_eq ha h00).mpr w)) H locs ls hl hW hS)
theorem x_if_ne (hC : xCtx g p s m args meth c cc nL own nm ret) {a off : Int} {tgt : Nat} (hd : decode cc pc = .ok (.ifCond .ne off, 3)) (ht : (pc : Int) + off = (tgt : Int)) (hp : pc + 3 = pc') (ha : -2147483648 ≤ a ∧ a < 2147483648) (kt : ¬ a = 0 → xX g nL p l e R s m args below meth c cells slots Q S μ tgt vs st) (kf : a = 0 → xX g nL p l e R s m args below meth c cells slots Q S μ pc' vs st) : xX g nL p l e R s m args below meth c cells slots Q S μ pc vs (vI a :: st) := by
  subst hp
  have h00 : (-2147483648 : Int) ≤ 0 ∧ (0 : Int) < 2147483648 := by omega
  exact fun H locs ls hl hW hS => lv_if_ne hC.1 hC.2.1 hd ht (fun z => kt (fun w => z ((i_eq ha h00).mpr w)) H locs ls hl hW hS) (fun z => kf ((i_eq ha h00).mp z) H locs ls hl hW hS)
theorem xKn.K {g : xG} {s : State} (h : xKn g s) : va_K g.2.1 vwCl (xTy g) s := h.1
theorem xInTB {own : String} {idx ci j : Nat} {C : String} {T : u_T} {N : Nat} {ty : Nat → FieldType} {args : Array Value} {s : State} (h : xCl ci C T N ty) (hts : ∀ w ∈ xTB, w.before args s = true) : ∀ w ∈ u_ws C T N, w ∈ xTB := h.2.1
theorem x_getI (hC : xCtx g p s m args meth c cc nL own nm ret) {idx ci j k : Nat} {j' : Int} {t : FieldType} {fin : Bool} {fs : List (Option (Option Nat))} (hF : xF own idx ci j t fin) (hd : decode cc pc = .ok (.getfield idx, 3)) (hS : S[k]? = some (.inl (ci, fs))) (hf : fs[j]? = some none) (hj' : (j : Int) = j') (hp : pc + 3 = pc') (kk : xX g nL p l e R s m args below meth c cells slots Q S μ pc' vs (vI (μ k j') :: st)) : xX g nL p l e R s m args below meth c cells slots Q S μ pc vs (vR g k :: st) := by
  subst hp
  subst hj'
  obtain ⟨C, T, N, ty, ⟨h1, h2, h3, h4, h5, h6⟩, hj, hl, ht, hfin, hCo⟩ := hF
  intro H locs ls hl' hW hS'
  refine va_get (ref := (T j).1) (T := T) (N := N) (C := C) hC.1 hC.2.1 hC.2.2.2.2.1 h2 hC.2.2.2.1 hC.2.2.2.2.2.1.1 hW k (xws_get hS) h1 j hj (hC.2.2.2.2.1 _ hl) (fun _ h => h) ?_ hd (kk H locs ls hl' hW hS')
  simp [List.getElem?_mapIdx, hf, xV]
theorem x_getR (hC : xCtx g p s m args meth c cc nL own nm ret) {idx ci j k b : Nat} {t : FieldType} {fin : Bool} {fs : List (Option (Option Nat))} (hF : xF own idx ci j t fin) (hd : decode cc pc = .ok (.getfield idx, 3)) (hS : S[k]? = some (.inl (ci, fs))) (hf : fs[j]? = some (some (some b))) (hp : pc + 3 = pc') (kk : xX g nL p l e R s m args below meth c cells slots Q S μ pc' vs (vR g b :: st)) : xX g nL p l e R s m args below meth c cells slots Q S μ pc vs (vR g k :: st) := by
  subst hp
  obtain ⟨C, T, N, ty, ⟨h1, h2, h3, h4, h5, h6⟩, hj, hl, ht, hfin, hCo⟩ := hF
  intro H locs ls hl' hW hS'
  refine va_get (ref := (T j).1) (T := T) (N := N) (C := C) hC.1 hC.2.1 hC.2.2.2.2.1 h2 hC.2.2.2.1 hC.2.2.2.2.2.1.1 hW k (xws_get hS) h1 j hj (hC.2.2.2.2.1 _ hl) (fun _ h => h) ?_ hd (kk H locs ls hl' hW hS')
  simp [List.getElem?_mapIdx, hf, xV]
theorem xC_put {g : xG} {f : Int → Int} {ci j : Nat} {a : Int} {fs : List (Option (Option Nat))} (hf : fs[j]? = some none) : xC g (fun z => if z = (j : Int) then a else f z) (.inl (ci, fs)) = .inr (ci, (fs.mapIdx (fun j o => xV g f j o)).set j (vI a)) := by
  simp only [xC]
  congr 2
  apply List.ext_getElem?
  intro i
  by_cases hi : j = i
  · subst hi
    have hl : j < (fs.mapIdx (fun j o => xV g f j o)).length := by
      have := (List.getElem?_eq_some_iff.mp hf).1
      simpa using this
    rw [List.getElem?_set_self hl]
    simp [List.getElem?_mapIdx, hf, xV]
  · rw [List.getElem?_set_ne hi]
    simp only [List.getElem?_mapIdx]
    cases ho : fs[i]? with
    | none => rfl
    | some w =>
      simp only [Option.map_some]
      rcases w with _ | _ | t
      · simp only [xV]
        rw [if_neg (by omega)]
      · rfl
      · rfl
theorem x_putI (hC : xCtx g p s m args meth c cc nL own nm ret) {idx ci j k : Nat} {a j' : Int} {t : FieldType} {fs : List (Option (Option Nat))} (hF : xF own idx ci j t false) (hd : decode cc pc = .ok (.putfield idx, 3)) (hS : S[k]? = some (.inl (ci, fs))) (hf : fs[j]? = some none) (hn : narrow t (vI a) = vI a) (hfit : fits t (vI a) = true) (hj' : (j : Int) = j') (hp : pc + 3 = pc') (kk : xX g nL p l e R s m args below meth c cells slots Q S (xU μ k j' a) pc' vs st) : xX g nL p l e R s m args below meth c cells slots Q S μ pc vs (vI a :: vR g k :: st) := by
  subst hp
  subst hj'
  obtain ⟨C, T, N, ty, ⟨h1, h2, h3, h4, h5, h6⟩, hj, hl, ht, hfin, hCo⟩ := hF
  subst ht
  intro H locs ls hl' hW hS'
  have hlen : j < (fs.mapIdx (fun j o => xV g (μ k) j o)).length := by
    have := (List.getElem?_eq_some_iff.mp hf).1
    simpa using this
  refine va_put (ref := (T j).1) (T := T) (N := N) (C := C) hC.1 hC.2.1 hC.2.2.2.2.1 h2 ty h3 h4 hC.2.2.2.1 hC.2.2.2.2.2.1.1 hW xws_D hS' k (xws_get hS) h1 j hj (hC.2.2.2.2.1 _ hl) (fun _ h => h) hfin (h3 j hj) hn hfit hlen hd (fun H1 locs1 hP hD hS1 => ?_)
  rw [xws_setE (μ' := xU μ k j a) hS (by
    have e : xU μ k j a k = fun z => if z = (j : Int) then a else μ k z := by
      funext z
      simp [xU]
    rw [e]
    exact xC_put hf) (fun i hi => xU_ne hi)] at hP
  exact kk H1 locs1 ls hl' hP hS1
theorem xC_putR {g : xG} {f : Int → Int} {ci j b : Nat} {fs : List (Option (Option Nat))} : xC g f (.inl (ci, fs.set j (some (some b)))) = .inr (ci, (fs.mapIdx (fun j o => xV g f j o)).set j (vR g b)) := by
  simp only [xC]
  congr 2
  rw [List.mapIdx_set]
  rfl
/-- a final field that holds a cell, in a constructor -/
theorem x_putR (hC : xCtx g p s m args meth c cc nL own nm ret) (hnm : nm = "<init>") {idx ci j k b : Nat} {t : FieldType} {fs : List (Option (Option Nat))} (hF : xF own idx ci j t true) (hci : ∃ r, vwCl[ci]? = some r ∧ r.1 = own) (hd : decode cc pc = .ok (.putfield idx, 3)) (hS : S[k]? = some (.inl (ci, fs))) (hl9 : j < fs.length) (hn : ∀ x : Nat, narrow t (.ref x) = .ref x) (hfit : ∀ x : Nat, fits t (.ref x) = true) (hp : pc + 3 = pc') (kk : xX g nL p l e R s m args below meth c cells slots Q (S.set k (.inl (ci, fs.set j (some (some b))))) μ pc' vs st) : xX g nL p l e R s m args below meth c cells slots Q S μ pc vs (vR g b :: vR g k :: st) := by
  subst hp
  obtain ⟨C, T, N, ty, ⟨h1, h2, h3, h4, h5, h6⟩, hj, hl, ht, hfin, hCo⟩ := hF
  subst ht
  obtain ⟨r, g1, g2⟩ := hci
  cases g1.symm.trans h1
  intro H locs ls hl' hW hS'
  refine va_putF (ref := (T j).1) (T := T) (N := N) (C := C) hC.1 hC.2.1 hC.2.2.2.2.1 h2 ty h3 h4 hC.2.2.2.1 hC.2.2.2.2.2.1.1 hW xws_D hS' k (xws_get hS) h1 j hj (hC.2.2.2.2.1 _ hl) (fun _ h => h) hfin (hC.2.2.2.2.2.2.2.2.1.trans hnm) (hCo.trans g2) (h3 j hj) (hn _) (hfit _) (by simpa using hl9) hd (fun H1 locs1 hP hD hS1 => ?_)
  have hP := (xws_setS (μ := μ) (sh' := .inl (ci, fs.set j (some (some b)))) hS xC_putR) ▸ hP
  exact kk H1 locs1 ls hl' hP hS1
theorem xTy0 {g : xG} : (xTy g)[0]? = some (g.2.2.1.1, .int) := rfl
theorem xTy1 {g : xG} : (xTy g)[1]? = some (g.2.2.1.2.1, .char) := rfl
theorem xTy2 {g : xG} : (xTy g)[2]? = some (g.2.2.1.2.2, .object RX4) := rfl
theorem x_iald (hC : xCtx g p s m args meth c cc nL own nm ret) {k n : Nat} {i : Int} (hd : decode cc pc = .ok (.iaload, 1)) (hS : S[k]? = some (.inr (.inl (false, n)))) (hi : 0 ≤ i ∧ i < n) (hn : n < 2147483648) (hp : pc + 1 = pc') (kk : xX g nL p l e R s m args below meth c cells slots Q S μ pc' vs (vI (μ k i) :: st)) : xX g nL p l e R s m args below meth c cells slots Q S μ pc vs (vI i :: vR g k :: st) := by
  subst hp
  intro H locs ls hl' hW hS'
  refine va_iald hC.1 hC.2.1 hC.2.2.2.2.2.1.1 hW k 0 (xws_get hS) xTy0 (i_in hi hn) hd ?_
  rw [i_cl (by omega)]
  exact kk H locs ls hl' hW hS'
theorem x_cald (hC : xCtx g p s m args meth c cc nL own nm ret) {k n : Nat} {i : Int} (hd : decode cc pc = .ok (.caload, 1)) (hS : S[k]? = some (.inr (.inl (true, n)))) (hi : 0 ≤ i ∧ i < n) (hn : n < 2147483648) (hp : pc + 1 = pc') (kk : xX g nL p l e R s m args below meth c cells slots Q S μ pc' vs (vI (μ k i) :: st)) : xX g nL p l e R s m args below meth c cells slots Q S μ pc vs (vI i :: vR g k :: st) := by
  subst hp
  intro H locs ls hl' hW hS'
  refine va_cald hC.1 hC.2.1 hC.2.2.2.2.2.1.1 hW k 1 (xws_get hS) xTy1 (i_in hi hn) hd ?_
  rw [i_cl (by omega)]
  exact kk H locs ls hl' hW hS'
theorem x_aald (hC : xCtx g p s m args meth c cc nL own nm ret) {k b : Nat} {ts : List (Option Nat)} {i : Int} (hd : decode cc pc = .ok (.aaload, 1)) (hS : S[k]? = some (.inr (.inr ts))) (hi : 0 ≤ i ∧ i < ts.length) (hn : ts.length < 2147483648) (hb : ts[i.toNat]? = some (some b)) (hp : pc + 1 = pc') (kk : xX g nL p l e R s m args below meth c cells slots Q S μ pc' vs (vR g b :: st)) : xX g nL p l e R s m args below meth c cells slots Q S μ pc vs (vI i :: vR g k :: st) := by
  subst hp
  intro H locs ls hl' hW hS'
  refine va_aldq hC.1 hC.2.1 hC.2.2.2.2.2.1.1 hW k 2 (xws_get hS) xTy2 (i_in hi hn) hd ?_
  have e : (Int32.ofInt i).toNatClampNeg = i.toNat := by
    have := i_cl (a := i) (by omega)
    omega
  have e2 : va_rf ((ts.getD (Int32.ofInt i).toNatClampNeg none).map (fun t => g.1 + t)) = vR g b := by
    rw [e, List.getD_eq_getElem?_getD, hb]
    rfl
  rw [e2]
  exact kk H locs ls hl' hW hS'
theorem xC_ast {g : xG} {f : Int → Int} {b : Bool} {n : Nat} {i a : Int} (hi : 0 ≤ i ∧ i < 2147483648) : xC g (fun z => if z = i then a else f z) (.inr (.inl (b, n))) = .inl (if b then g.2.2.1.2.1 else g.2.2.1.1, n, .inl (upd (fun j => Int32.ofInt (f j)) (Int32.ofInt i).toNatClampNeg (Int32.ofInt a))) := by
  simp only [xC]
  congr 4
  funext j
  have := i_cl hi
  by_cases hj : (j : Int) = i
  · rw [if_pos hj]
    unfold upd
    rw [if_pos (by omega)]
  · rw [if_neg hj]
    unfold upd
    rw [if_neg (by omega)]
theorem xU_at {μ : xM} {k : Nat} {j a : Int} : xU μ k j a k = fun z => if z = j then a else μ k z := by
  funext z
  simp [xU]
theorem x_iast (hC : xCtx g p s m args meth c cc nL own nm ret) {k n : Nat} {i a : Int} (hd : decode cc pc = .ok (.iastore, 1)) (hS : S[k]? = some (.inr (.inl (false, n)))) (hi : 0 ≤ i ∧ i < n) (hn : n < 2147483648) (hp : pc + 1 = pc') (kk : xX g nL p l e R s m args below meth c cells slots Q S (xU μ k i a) pc' vs st) : xX g nL p l e R s m args below meth c cells slots Q S μ pc vs (vI a :: vI i :: vR g k :: st) := by
  subst hp
  intro H locs ls hl' hW hS'
  refine va_iast (x := Int32.ofInt a) hC.1 hC.2.1 hC.2.2.2.2.2.1.1 hW xws_D hS' k 0 (xws_get hS) xTy0 (i_in hi hn) hd (fun H1 locs1 hP hD hS1 => ?_)
  rw [xws_setE (μ' := xU μ k i a) hS (by rw [xU_at]; exact xC_ast (by omega)) (fun i hi => xU_ne hi)] at hP
  exact kk H1 locs1 ls hl' hP hS1
theorem i_nar {a : Int} (ha : 0 ≤ a ∧ a < 65536) : vp_nar .char (Int32.ofInt a) = Int32.ofInt a := by
  have e : Int32.ofInt a = nI a.toNat := by
    show Int32.ofInt a = Int32.ofNat a.toNat
    rw [← Int32.ofInt_eq_ofNat]
    congr 1
    omega
  unfold vp_nar
  rw [e, (pk_charN (by omega)).1]
theorem x_cast (hC : xCtx g p s m args meth c cc nL own nm ret) {k n : Nat} {i a : Int} (hd : decode cc pc = .ok (.castore, 1)) (hS : S[k]? = some (.inr (.inl (true, n)))) (hi : 0 ≤ i ∧ i < n) (hn : n < 2147483648) (ha : 0 ≤ a ∧ a < 65536) (hp : pc + 1 = pc') (kk : xX g nL p l e R s m args below meth c cells slots Q S (xU μ k i a) pc' vs st) : xX g nL p l e R s m args below meth c cells slots Q S μ pc vs (vI a :: vI i :: vR g k :: st) := by
  subst hp
  intro H locs ls hl' hW hS'
  refine va_cast (x := Int32.ofInt a) hC.1 hC.2.1 hC.2.2.2.2.2.1.1 hW xws_D hS' k 1 (xws_get hS) xTy1 (i_in hi hn) hd (fun H1 locs1 hP hD hS1 => ?_)
  rw [i_nar ha, xws_setE (μ' := xU μ k i a) hS (by rw [xU_at]; exact xC_ast (by omega)) (fun i hi => xU_ne hi)] at hP
  exact kk H1 locs1 ls hl' hP hS1
theorem x_alenI (hC : xCtx g p s m args meth c cc nL own nm ret) {k n : Nat} {n' : Int} (hd : decode cc pc = .ok (.arraylength, 1)) (hS : S[k]? = some (.inr (.inl (false, n)))) (hn' : (n : Int) = n') (hp : pc + 1 = pc') (kk : xX g nL p l e R s m args below meth c cells slots Q S μ pc' vs (vI n' :: st)) : xX g nL p l e R s m args below meth c cells slots Q S μ pc vs (vR g k :: st) := by
  subst hp
  subst hn'
  intro H locs ls hl' hW hS'
  exact va_alen hC.1 hC.2.1 hC.2.2.2.2.2.1.1 hW k 0 (xws_get hS) xTy0 Int32.ofInt_eq_ofNat.symm hd (kk H locs ls hl' hW hS')
theorem x_alenC (hC : xCtx g p s m args meth c cc nL own nm ret) {k n : Nat} {n' : Int} (hd : decode cc pc = .ok (.arraylength, 1)) (hS : S[k]? = some (.inr (.inl (true, n)))) (hn' : (n : Int) = n') (hp : pc + 1 = pc') (kk : xX g nL p l e R s m args below meth c cells slots Q S μ pc' vs (vI n' :: st)) : xX g nL p l e R s m args below meth c cells slots Q S μ pc vs (vR g k :: st) := by
  subst hp
  subst hn'
  intro H locs ls hl' hW hS'
  exact va_alen hC.1 hC.2.1 hC.2.2.2.2.2.1.1 hW k 1 (xws_get hS) xTy1 Int32.ofInt_eq_ofNat.symm hd (kk H locs ls hl' hW hS')
theorem x_alenR (hC : xCtx g p s m args meth c cc nL own nm ret) {k : Nat} {n' : Int} {ts : List (Option Nat)} (hd : decode cc pc = .ok (.arraylength, 1)) (hS : S[k]? = some (.inr (.inr ts))) (hn' : (ts.length : Int) = n') (hp : pc + 1 = pc') (kk : xX g nL p l e R s m args below meth c cells slots Q S μ pc' vs (vI n' :: st)) : xX g nL p l e R s m args below meth c cells slots Q S μ pc vs (vR g k :: st) := by
  subst hp
  subst hn'
  intro H locs ls hl' hW hS'
  exact va_alen hC.1 hC.2.1 hC.2.2.2.2.2.1.1 hW k 2 (xws_get hS) xTy2 Int32.ofInt_eq_ofNat.symm hd (kk H locs ls hl' hW hS')
/-! switches -/
theorem x_tabIn (hC : xCtx g p s m args meth c cc nL own nm ret) {dflt lo hi off a : Int} {offs : Array Int} {len tgt : Nat} (hd : decode cc pc = .ok (.tableswitch dflt lo hi offs, len)) (ha : -2147483648 ≤ a ∧ a < 2147483648) (h1 : lo ≤ a ∧ a ≤ hi) (ho : offs[(a - lo).toNat]? = some off) (ht : (pc : Int) + off = (tgt : Int)) (k : xX g nL p l e R s m args below meth c cells slots Q S μ tgt vs st) : xX g nL p l e R s m args below meth c cells slots Q S μ pc vs (vI a :: st) :=
  fun H locs ls hl hW hS => lv_tableIn hC.1 hC.2.1 hd (by rw [i_toInt ha]; omega) (by rw [i_toInt ha]; omega) (by rw [i_toInt ha]; exact ho) ht (k H locs ls hl hW hS)
theorem x_tabOut (hC : xCtx g p s m args meth c cc nL own nm ret) {dflt lo hi a : Int} {offs : Array Int} {len tgt : Nat} (hd : decode cc pc = .ok (.tableswitch dflt lo hi offs, len)) (ha : -2147483648 ≤ a ∧ a < 2147483648) (h1 : a < lo ∨ hi < a) (ht : (pc : Int) + dflt = (tgt : Int)) (k : xX g nL p l e R s m args below meth c cells slots Q S μ tgt vs st) : xX g nL p l e R s m args below meth c cells slots Q S μ pc vs (vI a :: st) :=
  fun H locs ls hl hW hS => lv_tableOut hC.1 hC.2.1 hd (by rw [i_toInt ha]; exact h1) ht (k H locs ls hl hW hS)
theorem x_look (hC : xCtx g p s m args meth c cc nL own nm ret) {dflt off a : Int} {ps : Array (Int × Int)} {len tgt : Nat} (hd : decode cc pc = .ok (.lookupswitch dflt ps, len)) (ha : -2147483648 ≤ a ∧ a < 2147483648) (hq : (ps.toList.zip (ps.toList.drop 1)).all (fun (a, next) => a.1 < next.1) = true) (ho : Op.lookupswitch.offset ps.toList dflt a = off) (ht : (pc : Int) + off = (tgt : Int)) (k : xX g nL p l e R s m args below meth c cells slots Q S μ tgt vs st) : xX g nL p l e R s m args below meth c cells slots Q S μ pc vs (vI a :: st) :=
  fun H locs ls hl hW hS => lv_lookup hC.1 hC.2.1 hd hq (by rw [i_toInt ha]; exact ho) ht (k H locs ls hl hW hS)
/-! ends of a method -/
theorem x_iret (hC : xCtx g p s m args meth c cc nL own nm (some .int)) {Po : Option Value → xM → Prop} {a : Int} (hd : decode cc pc = .ok (.ireturn, 1)) (hpo : Po (some (vI a)) μ) : xX g nL p l e R s m args below meth c cells slots (MQ below (xQ g S Po) args s cells slots (xA0 g)) S μ pc vs [vI a] :=
  fun H locs ls hl hW hS => W.iret (v := Int32.ofInt a) hC.1 hC.2.1 hC.2.2.2.2.2.2.1 (fun t ht hWm => ⟨⟨some (vI a), μ, rfl, hpo, by rw [ht]; exact hW⟩, hS.F ht⟩) hS.2.2 hd hC.2.2.2.2.2.2.2.1
theorem i_bool {a : Int} (h : a = 0 ∨ a = 1) : narrow .boolean (.int (Int32.ofInt a)) = .int (Int32.ofInt a) := by
  rcases h with rfl | rfl <;> rfl
theorem x_zret (hC : xCtx g p s m args meth c cc nL own nm (some .boolean)) {Po : Option Value → xM → Prop} {a : Int} (hd : decode cc pc = .ok (.ireturn, 1)) (h01 : a = 0 ∨ a = 1) (hpo : Po (some (vI a)) μ) : xX g nL p l e R s m args below meth c cells slots (MQ below (xQ g S Po) args s cells slots (xA0 g)) S μ pc vs [vI a] :=
  fun H locs ls hl hW hS => W.zret (v := Int32.ofInt a) hC.1 hC.2.1 hC.2.2.2.2.2.2.1 (i_bool h01) (fun t ht hWm => ⟨⟨some (vI a), μ, rfl, hpo, by rw [ht]; exact hW⟩, hS.F ht⟩) hS.2.2 hd hC.2.2.2.2.2.2.2.1
theorem x_vret (hC : xCtx g p s m args meth c cc nL own nm none) {Po : Option Value → xM → Prop} (hd : decode cc pc = .ok (.return_, 1)) (hpo : Po none μ) : xX g nL p l e R s m args below meth c cells slots (MQ below (xQ g S Po) args s cells slots (xA0 g)) S μ pc vs [] :=
  fun H locs ls hl hW hS => W.vret hC.1 hC.2.1 hC.2.2.2.2.2.2.1 (fun t ht hWm => ⟨⟨none, μ, rfl, hpo, by rw [ht]; exact hW⟩, hS.F ht⟩) hS.2.2 hd hC.2.2.2.2.2.2.2.1
/-! calls -/
theorem x_size {T : State} {H : Heap} {locs : List Loc} (X : Stand p l e R s m args below meth c T locs cells slots) (hT : T.heap = H) (hW : xW g S μ H) (hS : va_S (xA0 g) s.heap H locs) (hlo : g.1 ≤ s.heap.size) (hz : s.heap.size + cells = g.1 + S.length) : H.size = g.1 + S.length := by
  have h1 := X.heapSize
  rw [hT] at h1
  have h2 := xW_ge hW (Nat.le_trans hlo hS.1)
  omega
theorem x_callE {nc ns : Nat} {av : List Value} {S' : List xS} {Po : Option Value → xM → Prop} {pc : Nat} {H : Heap} {locs : List Loc} {ls : Array Slot} (hlo : g.1 ≤ s.heap.size) (hl : xL ls nL vs) (hS : va_S (xA0 g) s.heap H locs)
    (run : va_Run p l e R s m args below meth c H locs cells slots nc ns (F0 m pc ls st) rest (xQ g S' Po av.toArray) (xA0 g)) (kk : ∀ (r : Option Value) (μ' : xM), Po r μ' → xX g nL p l e R s m args below meth c (cells + nc) (slots + ns) Q S' μ' (pc + 3) vs (r.toList ++ rest)) : W p l e R s m args below meth c H locs cells slots Q (F0 m pc ls st) := by
  intro T hT X
  obtain ⟨v, st₀, t, T', L, h0, X', hL, e1, e2, ⟨⟨r, μ', hv, hp, hw⟩, hz, hk⟩, stp⟩ := run T hT X
  cases hv
  rw [h0] at hz hk
  obtain ⟨t2, a1, b1⟩ := kk _ μ' hp T'.heap (locs ++ L) ls hl (by rw [e1]; exact hw) ⟨Nat.le_trans hS.1 (by rw [e1]; exact hz), fun q h1 h2 => by rw [e1, hk q (Nat.lt_of_lt_of_le h1 hS.1) h2]; exact hS.2.1 q h1 h2, fun q hq => by
      rcases List.mem_append.mp hq with h | h
      · exact hS.2.2 q h
      · exact hL q h⟩ T' rfl X'
  exact ⟨t2, stp t2 a1, b1⟩
theorem x_pre {nc : Nat} {av : List Value} {H : Heap} {locs : List Loc} (hC : xCtx g p s m args meth c cc nL own nm ret) (hW : xW g S μ H) (hS : va_S (xA0 g) s.heap H locs) (hz : nc = 0 ∨ H.size = g.1 + S.length) : ∀ U : State, U.heap = H → s.WarmedH U.vm → va_Pc av (fun U => xW g S μ U.heap ∧ xKn g U ∧ (nc = 0 ∨ U.heap.size = g.1 + S.length) ∧ g.1 ≤ U.heap.size) av.toArray U :=
  fun U hU hWm => ⟨rfl, by rw [hU]; exact hW, hC.2.2.2.2.2.1.step hS hU hWm, by rw [hU]; exact hz, by rw [hU]; exact Nat.le_trans hC.2.2.2.2.2.2.2.2.2 hS.1⟩
theorem x_blind {g : xG} {S : List xS} {μ : xM} {nc : Nat} {av : List Value} : FrameBlind (va_Pc av (fun U => xW g S μ U.heap ∧ xKn g U ∧ (nc = 0 ∨ U.heap.size = g.1 + S.length) ∧ g.1 ≤ U.heap.size)) :=
  fun a U gg mk q => ⟨q.1, q.2.1, q.2.2.1.calling gg mk a, q.2.2.2.1, q.2.2.2.2⟩
theorem x_recv (hC : xCtx g p s m args meth c cc nL own nm ret) {H : Heap} {k ci : Nat} {fs : List (Option (Option Nat))} {r : vw_C} (hW : xW g S μ H) (hS : S[k]? = some (.inl (ci, fs))) (hc : vwCl[ci]? = some r) : ∃ cell : Cell, H[g.1 + k]? = some cell ∧ cell.vm.isStatics = false ∧ s.vm.findClass r.1 = some cell.cls :=
  va_recv hC.2.2.2.2.2.1.1 hW hc (xws_get hS)
theorem x_callV (hC : xCtx g p s m args meth c cc nL own nm ret) {y : MethodName} {cy : ByteArray} {maxL rf rl nc ns n idx k ci : Nat} {ry : Option FieldType} {As : List Value} {S' : List xS} {Po : Option Value → xM → Prop} {fs : List (Option (Option Nat))} {r : vw_C}
    (hM : xCt g l y cy maxL ry rf rl nc ns (vR g k :: As) S μ S' Po) (hY : xY y cy maxL ry n) (hV : xYV y) (hl : Cond.methodLink own idx y ∈ xTB) (hd : decode cc pc = .ok (.invokevirtual idx, 3)) (hS : S[k]? = some (.inl (ci, fs))) (hc : vwCl[ci]? = some r) (hr : r.1 = y.cls) (hst : st = As.reverse ++ vR g k :: rest) (hn : As.length = n) (hR : rf + 1 ≤ R.frames ∧ 8 + (maxL + 11) + rl ≤ R.locals) (hcat : (rest.map fun v => v.category).sum ≤ 8) (hcs : cells + nc ≤ R.cells ∧ slots + ns ≤ R.slots) (hz : nc = 0 ∨ s.heap.size + cells = g.1 + S.length) (hp : pc + 3 = pc')
    (kk : ∀ (r : Option Value) (μ' : xM), Po r μ' → xX g nL p l e R s m args below meth c (cells + nc) (slots + ns) Q S' μ' pc' vs (r.toList ++ rest)) : xX g nL p l e R s m args below meth c cells slots Q S μ pc vs st := by
  subst hp
  subst hst
  intro H locs ls hl' hW hS'
  intro T hT X
  have hz2 : nc = 0 ∨ H.size = g.1 + S.length := hz.imp id (x_size X hT hW hS' hC.2.2.2.2.2.2.2.2.2)
  have hG : GoodIn xTB (wsV own idx y.cls y (.code y cy maxL ry :: xTB)) := xGI (fun w hw => by
    simp only [wsV, List.cons_append, List.nil_append, List.mem_cons] at hw
    rcases hw with rfl | rfl | rfl | rfl | rfl | hw
    · exact hl
    · exact hV.1
    · exact hV.2
    · exact hY.2.1
    · exact hY.1
    · exact hw)
  have run := va_runV (p := p) (l := l) (e := e) (R := R) (s := s) (m := m) (args := args) (below := below) (meth := meth) (c := c) (As := As) (rest := rest) (H := H) (locs := locs) (cells := cells) (slots := slots) (nL := nL) (n := n) (C := y.cls) (b := g.1 + k) (g := F0 m pc ls (As.reverse ++ vR g k :: rest)) ⟨hC.1, hC.2.1, hC.2.2.1, hC.2.2.2.1, hC.2.2.2.2.1⟩ hM (cwV n hC.2.2.2.2.1 hG rfl rfl rfl ⟨rfl, hY.2.2⟩ hR) ⟨x_blind, by rw [← hr]; exact x_recv hC hW hS hc, x_pre hC hW hS' hz2⟩ rfl hn hl'.1 rfl (lv_room hcat) hd hcs
  exact x_callE (av := vR g k :: As) hC.2.2.2.2.2.2.2.2.2 hl' hS' run kk T hT X
theorem x_callS (hC : xCtx g p s m args meth c cc nL own nm ret) {y : MethodName} {cy : ByteArray} {maxL rf rl nc ns n idx : Nat} {ry : Option FieldType} {As : List Value} {S' : List xS} {Po : Option Value → xM → Prop}
    (hM : xCt g l y cy maxL ry rf rl nc ns As S μ S' Po) (hY : xY y cy maxL ry n) (hV : xYS y) (hl : Cond.methodLink own idx y ∈ xTB) (hd : decode cc pc = .ok (.invokestatic idx, 3)) (hst : st = As.reverse ++ rest) (hn : As.length = n) (hR : rf + 1 ≤ R.frames ∧ 8 + (maxL + 11) + rl ≤ R.locals) (hcat : (rest.map fun v => v.category).sum ≤ 8) (hcs : cells + nc ≤ R.cells ∧ slots + ns ≤ R.slots) (hz : nc = 0 ∨ s.heap.size + cells = g.1 + S.length) (hp : pc + 3 = pc')
    (kk : ∀ (r : Option Value) (μ' : xM), Po r μ' → xX g nL p l e R s m args below meth c (cells + nc) (slots + ns) Q S' μ' pc' vs (r.toList ++ rest)) : xX g nL p l e R s m args below meth c cells slots Q S μ pc vs st := by
  subst hp
  subst hst
  intro H locs ls hl' hW hS'
  intro T hT X
  have hz2 : nc = 0 ∨ H.size = g.1 + S.length := hz.imp id (x_size X hT hW hS' hC.2.2.2.2.2.2.2.2.2)
  have hG : GoodIn xTB (va_wsS own idx y (.code y cy maxL ry :: xTB)) := xGI (fun w hw => by
    simp only [va_wsS, List.cons_append, List.nil_append, List.mem_cons] at hw
    rcases hw with rfl | rfl | rfl | rfl | hw
    · exact hl
    · exact hV
    · exact hY.2.1
    · exact hY.1
    · exact hw)
  have run := va_runS (p := p) (l := l) (e := e) (R := R) (s := s) (m := m) (args := args) (below := below) (meth := meth) (c := c) (As := As) (rest := rest) (H := H) (locs := locs) (cells := cells) (slots := slots) (nL := nL) (n := n) (g := F0 m pc ls (As.reverse ++ rest)) ⟨hC.1, hC.2.1, hC.2.2.1, hC.2.2.2.1, hC.2.2.2.2.1⟩ hM (va_cwS n hC.2.2.2.2.1 hG rfl rfl rfl hY.2.2 hR) ⟨x_blind, x_pre hC hW hS' hz2⟩ rfl hn hl'.1 rfl (lv_room hcat) hd hcs
  exact x_callE (av := As) hC.2.2.2.2.2.2.2.2.2 hl' hS' run kk T hT X
theorem x_callSN (hC : xCtx g p s m args meth c cc nL own nm ret) {y : MethodName} {cy : ByteArray} {host : String} {maxL rf rl nc ns n idx : Nat} {ry : Option FieldType} {As : List Value} {S' : List xS} {Po : Option Value → xM → Prop}
    (hM : xCt g l y cy maxL ry rf rl nc ns As S μ S' Po) (hY : xY y cy maxL ry n) (hV : xYS y) (hl : Cond.methodLinkNest own idx y host ∈ xNest) (hd : decode cc pc = .ok (.invokestatic idx, 3)) (hst : st = As.reverse ++ rest) (hn : As.length = n) (hR : rf + 1 ≤ R.frames ∧ 8 + (maxL + 11) + rl ≤ R.locals) (hcat : (rest.map fun v => v.category).sum ≤ 8) (hcs : cells + nc ≤ R.cells ∧ slots + ns ≤ R.slots) (hz : nc = 0 ∨ s.heap.size + cells = g.1 + S.length) (hp : pc + 3 = pc')
    (kk : ∀ (r : Option Value) (μ' : xM), Po r μ' → xX g nL p l e R s m args below meth c (cells + nc) (slots + ns) Q S' μ' pc' vs (r.toList ++ rest)) : xX g nL p l e R s m args below meth c cells slots Q S μ pc vs st := by
  subst hp
  subst hst
  intro H locs ls hl' hW hS'
  intro T hT X
  have hz2 : nc = 0 ∨ H.size = g.1 + S.length := hz.imp id (x_size X hT hW hS' hC.2.2.2.2.2.2.2.2.2)
  have hG : GoodIn xTB (.code y cy maxL ry :: xTB) := xGI (fun w hw => by
    rcases List.mem_cons.mp hw with rfl | hw
    · exact hY.1
    · exact hw)
  have run := va_runSN (p := p) (l := l) (e := e) (R := R) (s := s) (m := m) (args := args) (below := below) (meth := meth) (c := c) (As := As) (rest := rest) (H := H) (locs := locs) (cells := cells) (slots := slots) (nL := nL) (n := n) (g := F0 m pc ls (As.reverse ++ rest)) ⟨hC.1, hC.2.1, hC.2.2.1, hC.2.2.2.1, hC.2.2.2.2.1⟩ hM ⟨va_cnB n hC.2.2.2.2.1 hG rfl rfl rfl (hC.2.2.2.2.2.1.2.1 _ hl) (hC.2.2.2.2.1 _ hY.2.1) hY.2.2 hR, hC.2.2.2.2.1 _ hV, trivial⟩ ⟨x_blind, x_pre hC hW hS' hz2⟩ rfl hn hl'.1 rfl (lv_room hcat) hd hcs
  exact x_callE (av := As) hC.2.2.2.2.2.2.2.2.2 hl' hS' run kk T hT X
theorem x_callI (hC : xCtx g p s m args meth c cc nL own nm ret) {y : MethodName} {cy : ByteArray} {maxL rf rl nc ns n idx k : Nat} {As : List Value} {S' : List xS} {Po : Option Value → xM → Prop}
    (hM : xCt g l y cy maxL none rf rl nc ns (vR g k :: As) S μ S' Po) (hY : xY y cy maxL none n) (hV : Cond.instanceMethod y ∈ xTB) (hy1 : y.name = "<init>") (hl : Cond.methodLink own idx y ∈ xTB) (hd : decode cc pc = .ok (.invokespecial idx, 3)) (hst : st = As.reverse ++ vR g k :: rest) (hn : As.length = n) (hR : rf + 1 ≤ R.frames ∧ 8 + (maxL + 11) + rl ≤ R.locals) (hcat : (rest.map fun v => v.category).sum ≤ 8) (hcs : cells + nc ≤ R.cells ∧ slots + ns ≤ R.slots) (hz : nc = 0 ∨ s.heap.size + cells = g.1 + S.length) (hp : pc + 3 = pc')
    (kk : ∀ (r : Option Value) (μ' : xM), Po r μ' → xX g nL p l e R s m args below meth c (cells + nc) (slots + ns) Q S' μ' pc' vs (r.toList ++ rest)) : xX g nL p l e R s m args below meth c cells slots Q S μ pc vs st := by
  subst hp
  subst hst
  intro H locs ls hl' hW hS'
  intro T hT X
  have hz2 : nc = 0 ∨ H.size = g.1 + S.length := hz.imp id (x_size X hT hW hS' hC.2.2.2.2.2.2.2.2.2)
  have hG : GoodIn xTB (.code y cy maxL none :: xTB) := xGI (fun w hw => by
    rcases List.mem_cons.mp hw with rfl | hw
    · exact hY.1
    · exact hw)
  have run := va_runI (p := p) (l := l) (e := e) (R := R) (s := s) (m := m) (args := args) (below := below) (meth := meth) (c := c) (As := As) (rest := rest) (H := H) (locs := locs) (cells := cells) (slots := slots) (nL := nL) (n := n) (b := g.1 + k) (g := F0 m pc ls (As.reverse ++ vR g k :: rest)) ⟨hC.1, hC.2.1, hC.2.2.1, hC.2.2.2.1, hC.2.2.2.2.1⟩ hM (cwI n hC.2.2.2.2.1 hG rfl rfl rfl (hC.2.2.2.2.1 _ hY.2.1) (hC.2.2.2.2.1 _ hl) (hC.2.2.2.2.1 _ hV) hy1 hY.2.2 hR) ⟨x_blind, x_pre hC hW hS' hz2⟩ rfl hn hl'.1 rfl (lv_room hcat) hd hcs
  exact x_callE (av := vR g k :: As) hC.2.2.2.2.2.2.2.2.2 hl' hS' run kk T hT X
theorem x_callIN (hC : xCtx g p s m args meth c cc nL own nm ret) {y : MethodName} {cy : ByteArray} {host : String} {maxL rf rl nc ns n idx k : Nat} {As : List Value} {S' : List xS} {Po : Option Value → xM → Prop}
    (hM : xCt g l y cy maxL none rf rl nc ns (vR g k :: As) S μ S' Po) (hY : xY y cy maxL none n) (hV : Cond.instanceMethod y ∈ xTB) (hy1 : y.name = "<init>") (hl : Cond.methodLinkNest own idx y host ∈ xNest) (hd : decode cc pc = .ok (.invokespecial idx, 3)) (hst : st = As.reverse ++ vR g k :: rest) (hn : As.length = n) (hR : rf + 1 ≤ R.frames ∧ 8 + (maxL + 11) + rl ≤ R.locals) (hcat : (rest.map fun v => v.category).sum ≤ 8) (hcs : cells + nc ≤ R.cells ∧ slots + ns ≤ R.slots) (hz : nc = 0 ∨ s.heap.size + cells = g.1 + S.length) (hp : pc + 3 = pc')
    (kk : ∀ (r : Option Value) (μ' : xM), Po r μ' → xX g nL p l e R s m args below meth c (cells + nc) (slots + ns) Q S' μ' pc' vs (r.toList ++ rest)) : xX g nL p l e R s m args below meth c cells slots Q S μ pc vs st := by
  subst hp
  subst hst
  intro H locs ls hl' hW hS'
  intro T hT X
  have hz2 : nc = 0 ∨ H.size = g.1 + S.length := hz.imp id (x_size X hT hW hS' hC.2.2.2.2.2.2.2.2.2)
  have hG : GoodIn xTB (.code y cy maxL none :: xTB) := xGI (fun w hw => by
    rcases List.mem_cons.mp hw with rfl | hw
    · exact hY.1
    · exact hw)
  have run := va_runIN (p := p) (l := l) (e := e) (R := R) (s := s) (m := m) (args := args) (below := below) (meth := meth) (c := c) (As := As) (rest := rest) (H := H) (locs := locs) (cells := cells) (slots := slots) (nL := nL) (n := n) (b := g.1 + k) (g := F0 m pc ls (As.reverse ++ vR g k :: rest)) ⟨hC.1, hC.2.1, hC.2.2.1, hC.2.2.2.1, hC.2.2.2.2.1⟩ hM ⟨va_cnB n hC.2.2.2.2.1 hG rfl rfl rfl (hC.2.2.2.2.2.1.2.1 _ hl) (hC.2.2.2.2.1 _ hY.2.1) hY.2.2 hR, hy1, hC.2.2.2.2.1 _ hV⟩ ⟨x_blind, x_pre hC hW hS' hz2⟩ rfl hn hl'.1 rfl (lv_room hcat) hd hcs
  exact x_callE (av := vR g k :: As) hC.2.2.2.2.2.2.2.2.2 hl' hS' run kk T hT X
theorem i_div {a b : Int} (ha : 0 ≤ a ∧ a < 2147483648) (hb : 0 < b ∧ b < 2147483648) : iDiv a b = a / b := by
  unfold iDiv
  have hm : Int32.ofInt a ≠ Int32.minValue := by
    intro z
    have := congrArg Int32.toInt z
    rw [i_toInt (by omega)] at this
    have h2 : Int32.minValue.toInt = -2147483648 := by decide
    omega
  rw [Int32.toInt_div_of_ne_left _ _ hm, i_toInt (by omega), i_toInt (by omega), Int.tdiv_eq_ediv_of_nonneg ha.1]
theorem i_rem {a b : Int} (ha : 0 ≤ a ∧ a < 2147483648) (hb : 0 < b ∧ b < 2147483648) : iRem a b = a % b := by
  unfold iRem
  have e : Int32.ofInt a / Int32.ofInt b = Int32.ofInt (a / b) := by
    have := i_div ha hb
    unfold iDiv at this
    rw [← this, i_back]
  have h0 := Int.emod_nonneg a (show b ≠ 0 by omega)
  have h1 := Int.emod_lt_of_pos a hb.1
  rw [e, ← Int32.ofInt_mul, ← Int32.ofInt_sub]
  have e2 : a - a / b * b = a % b := by rw [Int.emod_def, Int.mul_comm]
  rw [e2, i_toInt (by omega)]
theorem x_mmax (hC : xCtx g p s m args meth c cc nL own nm ret) {a b : Int} {idx : Nat} (hl : Cond.methodLink own idx Lib.Math.max.name ∈ xTB) (hd : decode cc pc = .ok (.invokestatic idx, 3)) (ha : -2147483648 ≤ a ∧ a < 2147483648) (hb : -2147483648 ≤ b ∧ b < 2147483648) (hR : 1 ≤ R.frames ∧ 21 ≤ R.locals) (hcat : (st.map fun v => v.category).sum ≤ 8) (hcs : cells ≤ R.cells ∧ slots ≤ R.slots) (hp : pc + 3 = pc') (k : xX g nL p l e R s m args below meth c cells slots Q S μ pc' vs (vI (max a b) :: st)) : xX g nL p l e R s m args below meth c cells slots Q S μ pc vs (vI b :: vI a :: st) := by
  subst hp
  intro H locs ls hl' hW hS
  refine va_mmax hC.1 hC.2.1 (hC.2.2.1.trans hl'.1.symm) hC.2.2.2.1 (hC.2.2.2.2.1 _ hl) (hC.2.2.2.2.1 _ ks_max) (hC.2.2.2.2.1 _ ki_RJ9) (hC.2.2.2.2.1 _ kx_max) hR.1 (by omega) hcs.1 hcs.2 hd ?_
  have e : (if Int32.ofInt a < Int32.ofInt b then Int32.ofInt b else Int32.ofInt a) = Int32.ofInt (max a b) := by
    by_cases h : a < b
    · rw [if_pos ((i_lt ha hb).mpr h)]
      congr 1
      omega
    · rw [if_neg (fun z => h ((i_lt ha hb).mp z))]
      congr 1
      omega
  rw [e]
  exact k H locs ls hl' hW hS
theorem x_mmin (hC : xCtx g p s m args meth c cc nL own nm ret) {a b : Int} {idx : Nat} (hl : Cond.methodLink own idx Lib.Math.min.name ∈ xTB) (hd : decode cc pc = .ok (.invokestatic idx, 3)) (ha : -2147483648 ≤ a ∧ a < 2147483648) (hb : -2147483648 ≤ b ∧ b < 2147483648) (hR : 1 ≤ R.frames ∧ 21 ≤ R.locals) (hcat : (st.map fun v => v.category).sum ≤ 8) (hcs : cells ≤ R.cells ∧ slots ≤ R.slots) (hp : pc + 3 = pc') (k : xX g nL p l e R s m args below meth c cells slots Q S μ pc' vs (vI (min a b) :: st)) : xX g nL p l e R s m args below meth c cells slots Q S μ pc vs (vI b :: vI a :: st) := by
  subst hp
  intro H locs ls hl' hW hS
  refine va_mmin hC.1 hC.2.1 (hC.2.2.1.trans hl'.1.symm) hC.2.2.2.1 (hC.2.2.2.2.1 _ hl) (hC.2.2.2.2.1 _ ks_min) (hC.2.2.2.2.1 _ ki_RJ9) (hC.2.2.2.2.1 _ kx_min) hR.1 (by omega) hcs.1 hcs.2 hd ?_
  have e : (if Int32.ofInt b < Int32.ofInt a then Int32.ofInt b else Int32.ofInt a) = Int32.ofInt (min a b) := by
    by_cases h : b < a
    · rw [if_pos ((i_lt hb ha).mpr h)]
      congr 1
      omega
    · rw [if_neg (fun z => h ((i_lt hb ha).mp z))]
      congr 1
      omega
  rw [e]
  exact k H locs ls hl' hW hS
/-- n numbers of cell k0 laid into cell k1, from the first on -/
def xCp (μ : xM) (k0 k1 : Nat) (n : Int) : xM := fun k j => if k = k1 ∧ 0 ≤ j ∧ j < n then μ k0 j else μ k j
theorem xCp_at {μ : xM} {k0 k1 : Nat} {n j : Int} (h0 : 0 ≤ j) (h : j < n) : xCp μ k0 k1 n k1 j = μ k0 j := by
  unfold xCp
  rw [if_pos ⟨rfl, h0, h⟩]
theorem xCp_ne {μ : xM} {k0 k1 k : Nat} {n j : Int} (h : k ≠ k1) : xCp μ k0 k1 n k j = μ k j := by
  unfold xCp
  rw [if_neg (fun z => h z.1)]
/-- System.arraycopy of n numbers, from the first on -/
theorem x_copyi (hC : xCtx g p s m args meth c cc nL own nm ret) {k0 k1 n0 n1 idx n : Nat} {n' : Int} (hl : Cond.methodLink own idx arraycopyName ∈ xTB) (hd : decode cc pc = .ok (.invokestatic idx, 3)) (h0 : S[k0]? = some (.inr (.inl (false, n0)))) (h1 : S[k1]? = some (.inr (.inl (false, n1)))) (hn0 : n ≤ n0) (hn1 : n ≤ n1) (hn : n < 2147483648) (hn' : (n : Int) = n') (hR : 1 ≤ R.frames ∧ (st.map fun v => v.category).sum + (nativeFrameWords "java/lang/System" "arraycopy" 5 + 11) ≤ R.locals) (hp : pc + 3 = pc') (kk : xX g nL p l e R s m args below meth c cells slots Q S (xCp μ k0 k1 n') pc' vs st) : xX g nL p l e R s m args below meth c cells slots Q S μ pc vs (vI n' :: vI 0 :: vR g k1 :: vI 0 :: vR g k0 :: st) := by
  subst hp
  subst hn'
  intro H locs ls hl' hW hS
  have z0 : ((0 : Int32).toNatClampNeg) = 0 := rfl
  have zn : (Int32.ofInt n).toNatClampNeg = n := by
    have := i_cl (a := (n : Int)) (by omega)
    omega
  have e0 : Int32.ofInt 0 = 0 := rfl
  have hnn : ¬ Int32.ofInt (n : Int) < 0 := by
    rw [← e0, i_lt (by omega) (by omega)]
    omega
  show W p l e R s m args below meth c H locs cells slots Q (F0 m pc ls (.int (Int32.ofInt n) :: .int 0 :: .ref (g.1 + k1) :: .int 0 :: .ref (g.1 + k0) :: st))
  refine va_copyi (ty := .int) hC.1 hC.2.1 (hC.2.2.1.trans hl'.1.symm) hC.2.2.2.1 (hC.2.2.2.2.1 _ hl) (hC.2.2.2.2.1 _ kn_acopy) (hC.2.2.2.2.1 _ ks_acopy) (hC.2.2.2.2.1 _ ki_RJ10) hC.2.2.2.2.2.1.1 hW xws_D hS k0 k1 0 0 (xws_get h0) (xws_get h1) xTy0 xTy0 rfl (by decide) (by decide) hnn (by rw [z0, zn]; omega) (by rw [z0, zn]; omega) (fun i hi => rfl) hR.1 hR.2 hd (fun H1 locs1 hP hD hS1 => ?_)
  rw [z0, zn] at hP
  have e : (xws g S μ).set k1 (g.1 + k1, .inl (if false = true then g.2.2.1.2.1 else g.2.2.1.1, n1, .inl (va_cpy (fun j => Int32.ofInt (μ k0 j)) (fun j => Int32.ofInt (μ k1 j)) 0 0 n))) = xws g S (xCp μ k0 k1 n) := by
    refine xws_setE h1 ?_ (fun i hi => ?_)
    · simp only [xC]
      congr 4
      funext j
      unfold va_cpy xCp
      by_cases hj : j < n
      · have c1 : (0 : Int) ≤ (j : Int) ∧ (j : Int) < n := by omega
        rw [if_pos (show 0 ≤ j ∧ j < 0 + n by omega)]
        simp [hj]
      · rw [if_neg (show ¬ (0 ≤ j ∧ j < 0 + n) by omega)]
        simp [hj]
    · funext j
      exact xCp_ne hi
  have hP2 : va_P g.2.1 vwCl ((xws g S μ).set k1 (g.1 + k1, .inl (if false = true then g.2.2.1.2.1 else g.2.2.1.1, n1, .inl (va_cpy (fun j => Int32.ofInt (μ k0 j)) (fun j => Int32.ofInt (μ k1 j)) 0 0 n)))) H1 := hP
  rw [e] at hP2
  exact kk H1 locs1 ls hl' hP2 hS1
end XR
/-- a method's walk from its entry -/
theorem x_enter {g : xG} {l : Launch} {y : MethodName} {cc : ByteArray} {maxL : Nat} {ret : Option FieldType} {rf rl nc ns : Nat} {av : List Value} {S : List xS} {μ : xM} {S' : List xS} {Po : Option Value → xM → Prop} (hy : plainName y.cls = true) (hlen : (lg_sl av).length ≤ maxL)
    (body : ∀ (p : Program) (e : Env) (s : State) (m : MethodId) (args : Array Value) (below : List Frame) (meth : Method) (c : Code), xCtx g p s m args meth c cc maxL y.cls y.name ret → (nc = 0 ∨ s.heap.size = g.1 + S.length) → xX g maxL p l e { frames := rf, cells := nc, slots := ns, locals := rl } s m args below meth c 0 0 (MQ below (xQ g S' Po) args s nc ns (xA0 g)) S μ 0 (xA av maxL) []) :
    xCt g l y cc maxL ret rf rl nc ns av S μ S' Po := by
  refine Met.ofW (cc := cc) (maxL := maxL) (ret := ret) hy rfl ?_
  intro p e s m args below meth c s₁ B hml hv
  obtain ⟨rfl, hW, hK, hz, hlo⟩ := hv
  have hts := atoms_spec (ws := .code y cc maxL ret :: xTB) B.pre
  have hC : xCtx g p s m av.toArray meth c cc maxL y.cls y.name ret := ⟨B.exec, B.bytes, hml, findClass_of_methodNamed B.named, fun w hw => hts w (List.mem_cons_of_mem _ hw), hK, B.returns, B.notSynchronized, (name_of_methodNamed B.named B.method).1, hlo⟩
  rw [lg_entry_eq]
  exact body p e s m av.toArray below meth c hC hz s.heap [] _ (xL_entry av hlen) hW va_S.rf
end
section
/-! what the numbers mean: T what a TEXT tells (0 STEPS, 1 KNOBS, 2 TURNS, 3 how many MINISTERS, 4.. KINDS, 11.. GRIPS), r how it stands (0 YEAR, 1 FUNDS, 2.. WAX, 18.. STEP of each, 25.. YEARS of each) -/
theorem x_ki {g : xG} {nL : Nat} {p : Program} {l : Launch} {e : Env} {R : Room} {s : State} {m : MethodId} {args : Array Value} {below : List Frame} {meth : Method} {c : Code} {cells slots : Nat} {Q : State → Prop} {S : List xS} {pc : Nat} {vs : List (Option Value)} {rest : List Value} {P : Int → xM → Prop} (h : ∀ (a : Int) (μ' : xM), P a μ' → xX g nL p l e R s m args below meth c cells slots Q S μ' pc vs (vI a :: rest)) : ∀ (r : Option Value) (μ' : xM), xI P r μ' → xX g nL p l e R s m args below meth c cells slots Q S μ' pc vs (r.toList ++ rest) := by
  rintro r μ' ⟨a, rfl, hp⟩
  exact h a μ' hp
theorem x_kn {g : xG} {nL : Nat} {p : Program} {l : Launch} {e : Env} {R : Room} {s : State} {m : MethodId} {args : Array Value} {below : List Frame} {meth : Method} {c : Code} {cells slots : Nat} {Q : State → Prop} {S : List xS} {pc : Nat} {vs : List (Option Value)} {rest : List Value} {P : xM → Prop} (h : ∀ (μ' : xM), P μ' → xX g nL p l e R s m args below meth c cells slots Q S μ' pc vs rest) : ∀ (r : Option Value) (μ' : xM), xN P r μ' → xX g nL p l e R s m args below meth c cells slots Q S μ' pc vs (r.toList ++ rest) := by
  rintro r μ' ⟨rfl, hp⟩
  exact h μ' hp
theorem x_kd {g : xG} {nL : Nat} {p : Program} {l : Launch} {e : Env} {R : Room} {s : State} {m : MethodId} {args : Array Value} {below : List Frame} {meth : Method} {c : Code} {cells slots : Nat} {Q : State → Prop} {S : List xS} {μ0 : xM} {pc : Nat} {vs : List (Option Value)} {rest : List Value} {v : Int} (h : xX g nL p l e R s m args below meth c cells slots Q S μ0 pc vs (vI v :: rest)) : ∀ (r : Option Value) (μ' : xM), xI (fun a μ' => a = v ∧ μ' = μ0) r μ' → xX g nL p l e R s m args below meth c cells slots Q S μ' pc vs (r.toList ++ rest) := by
  rintro r μ' ⟨a, rfl, h1, h2⟩
  rw [h1, h2]
  exact h
theorem x_kdn {g : xG} {nL : Nat} {p : Program} {l : Launch} {e : Env} {R : Room} {s : State} {m : MethodId} {args : Array Value} {below : List Frame} {meth : Method} {c : Code} {cells slots : Nat} {Q : State → Prop} {S : List xS} {μ0 : xM} {pc : Nat} {vs : List (Option Value)} {rest : List Value} (h : xX g nL p l e R s m args below meth c cells slots Q S μ0 pc vs rest) : ∀ (r : Option Value) (μ' : xM), xN (fun μ' => μ' = μ0) r μ' → xX g nL p l e R s m args below meth c cells slots Q S μ' pc vs (r.toList ++ rest) := by
  rintro r μ' ⟨rfl, h2⟩
  rw [h2]
  exact h
theorem x_ifb_eq {g : xG} {nL : Nat} {p : Program} {l : Launch} {e : Env} {R : Room} {s : State} {m : MethodId} {args : Array Value} {below : List Frame} {meth : Method} {c : Code} {cells slots : Nat} {Q : State → Prop} {S : List xS} {μ : xM} {pc pc' : Nat} {vs : List (Option Value)} {st : List Value} {cc : ByteArray} {own nm : String} {ret : Option FieldType} (hC : xCtx g p s m args meth c cc nL own nm ret) {off : Int} {tgt : Nat} {P : Prop} {_ : Decidable P} (hd : decode cc pc = .ok (.ifCond .eq off, 3)) (ht : (pc : Int) + off = (tgt : Int)) (hp : pc + 3 = pc') (kt : ¬ P → xX g nL p l e R s m args below meth c cells slots Q S μ tgt vs st) (kf : P → xX g nL p l e R s m args below meth c cells slots Q S μ pc' vs st) : xX g nL p l e R s m args below meth c cells slots Q S μ pc vs (vI (if P then 1 else 0) :: st) :=
  x_if_eq (tgt := tgt) hC hd ht hp (by split <;> omega) (fun z => kt (fun w => by rw [if_pos w] at z; exact absurd z (by decide))) (fun z => kf (Classical.byContradiction (fun w => z (if_neg w))))
theorem x_ifb_ne {g : xG} {nL : Nat} {p : Program} {l : Launch} {e : Env} {R : Room} {s : State} {m : MethodId} {args : Array Value} {below : List Frame} {meth : Method} {c : Code} {cells slots : Nat} {Q : State → Prop} {S : List xS} {μ : xM} {pc pc' : Nat} {vs : List (Option Value)} {st : List Value} {cc : ByteArray} {own nm : String} {ret : Option FieldType} (hC : xCtx g p s m args meth c cc nL own nm ret) {off : Int} {tgt : Nat} {P : Prop} {_ : Decidable P} (hd : decode cc pc = .ok (.ifCond .ne off, 3)) (ht : (pc : Int) + off = (tgt : Int)) (hp : pc + 3 = pc') (kt : P → xX g nL p l e R s m args below meth c cells slots Q S μ tgt vs st) (kf : ¬ P → xX g nL p l e R s m args below meth c cells slots Q S μ pc' vs st) : xX g nL p l e R s m args below meth c cells slots Q S μ pc vs (vI (if P then 1 else 0) :: st) :=
  x_if_ne (tgt := tgt) hC hd ht hp (by split <;> omega) (fun z => kt (Classical.byContradiction (fun w => z (if_neg w)))) (fun z => kf (fun w => by rw [if_pos w] at z; exact absurd z (by decide)))
/-- shapes -/
abbrev sStd (b pl : Nat) : xS := .inl (4, [some (some pl), some (some (b + 1)), some (some (b + 2)), some (some (b + 3)), some (some (b + 4)), none, none])
abbrev sPln (pl : Nat) : xS := .inl (0, [some (some (pl + 1)), none, none, none, none])
abbrev sArr (n : Nat) : xS := .inr (.inl (false, n))
def xPln (S : List xS) (pl : Nat) : Prop := S[pl]? = some (sPln pl) ∧ S[pl + 1]? = some (sArr 7)
def xStd (S : List xS) (b pl : Nat) : Prop := S[b]? = some (sStd b pl) ∧ S[b + 1]? = some (sArr 16) ∧ S[b + 2]? = some (sArr 7) ∧ S[b + 3]? = some (sArr 7) ∧ S[b + 4]? = some (sArr 7) ∧ xPln S pl ∧ pl + 1 < b
def up (r : Int → Int) (k v : Int) : Int → Int := fun j => if j = k then v else r j
theorem up_at {r : Int → Int} {k v : Int} : up r k v k = v := by simp [up]
theorem up_ne {r : Int → Int} {k v j : Int} (h : j ≠ k) : up r k v j = r j := by simp [up, h]
theorem xU_at2 {μ : xM} {k : Nat} {j a : Int} : xU μ k j a k j = a := by simp [xU]
theorem xU_nj {μ : xM} {k k' : Nat} {j a j' : Int} (h : j' ≠ j) : xU μ k j a k' j' = μ k' j' := by simp [xU, h]
theorem xU_nk {μ : xM} {k k' : Nat} {j a j' : Int} (h : k' ≠ k) : xU μ k j a k' j' = μ k' j' := by simp [xU, h]
def Pl (μ : xM) (pl : Nat) (T : Int → Int) : Prop := μ pl 1 = T 3 ∧ μ pl 2 = T 0 ∧ μ pl 3 = T 1 ∧ μ pl 4 = T 2 ∧ ∀ m : Int, 0 ≤ m → m < T 3 → μ (pl + 1) m = T (4 + m)
def Gr (μ : xM) (b : Nat) (T : Int → Int) : Prop := ∀ m : Int, 0 ≤ m → m < T 3 → μ (b + 3) m = T (11 + m)
def St (μ : xM) (b : Nat) (r : Int → Int) : Prop := μ b 6 = r 0 ∧ μ b 5 = r 1 ∧ (∀ j : Int, 0 ≤ j → j < 16 → μ (b + 1) j = r (2 + j)) ∧ (∀ j : Int, 0 ≤ j → j < 7 → μ (b + 2) j = r (18 + j)) ∧ ∀ j : Int, 0 ≤ j → j < 7 → μ (b + 4) j = r (25 + j)
def FrS (b : Nat) (μ μ' : xM) : Prop := ∀ (k : Nat) (j : Int), k ≠ b → k ≠ b + 1 → k ≠ b + 2 → k ≠ b + 4 → μ' k j = μ k j
theorem FrS.rf {b : Nat} {μ : xM} : FrS b μ μ := fun _ _ _ _ _ _ => rfl
theorem FrS.tr {b : Nat} {μ μ' μ'' : xM} (h : FrS b μ μ') (h2 : FrS b μ' μ'') : FrS b μ μ'' := fun k j a1 a2 a3 a4 => (h2 k j a1 a2 a3 a4).trans (h k j a1 a2 a3 a4)
theorem FrS.u0 {b : Nat} {μ μ' : xM} {j a : Int} (h : FrS b μ μ') : FrS b μ (xU μ' b j a) := fun k j' a1 a2 a3 a4 => (xU_nk a1).trans (h k j' a1 a2 a3 a4)
theorem FrS.u1 {b : Nat} {μ μ' : xM} {j a : Int} (h : FrS b μ μ') : FrS b μ (xU μ' (b + 1) j a) := fun k j' a1 a2 a3 a4 => (xU_nk a2).trans (h k j' a1 a2 a3 a4)
theorem FrS.u2 {b : Nat} {μ μ' : xM} {j a : Int} (h : FrS b μ μ') : FrS b μ (xU μ' (b + 2) j a) := fun k j' a1 a2 a3 a4 => (xU_nk a3).trans (h k j' a1 a2 a3 a4)
theorem FrS.u4 {b : Nat} {μ μ' : xM} {j a : Int} (h : FrS b μ μ') : FrS b μ (xU μ' (b + 4) j a) := fun k j' a1 a2 a3 a4 => (xU_nk a4).trans (h k j' a1 a2 a3 a4)
theorem Pl.fr {b pl : Nat} {μ μ' : xM} {T : Int → Int} (h : Pl μ pl T) (hb : pl + 1 < b) (hf : FrS b μ μ') : Pl μ' pl T := by
  obtain ⟨h1, h2, h3, h4, h5⟩ := h
  refine ⟨?_, ?_, ?_, ?_, fun m a1 a2 => ?_⟩
  · rw [hf pl 1 (by omega) (by omega) (by omega) (by omega), h1]
  · rw [hf pl 2 (by omega) (by omega) (by omega) (by omega), h2]
  · rw [hf pl 3 (by omega) (by omega) (by omega) (by omega), h3]
  · rw [hf pl 4 (by omega) (by omega) (by omega) (by omega), h4]
  · rw [hf (pl + 1) m (by omega) (by omega) (by omega) (by omega), h5 m a1 a2]
theorem Gr.fr {b : Nat} {μ μ' : xM} {T : Int → Int} (h : Gr μ b T) (hf : FrS b μ μ') : Gr μ' b T := fun m a1 a2 => by
  rw [hf (b + 3) m (by omega) (by omega) (by omega) (by omega), h m a1 a2]
theorem St.wax {μ : xM} {b : Nat} {r : Int → Int} {x v : Int} (h : St μ b r) (h0 : 0 ≤ x) (h1 : x < 16) : St (xU μ (b + 1) x v) b (up r (2 + x) v) := by
  obtain ⟨a1, a2, a3, a4, a5⟩ := h
  refine ⟨?_, ?_, fun j b1 b2 => ?_, fun j b1 b2 => ?_, fun j b1 b2 => ?_⟩
  · rw [xU_nk (by omega), up_ne (by omega), a1]
  · rw [xU_nk (by omega), up_ne (by omega), a2]
  · by_cases hj : j = x
    · subst hj; rw [xU_at2, up_at]
    · rw [xU_nj hj, up_ne (by omega), a3 j b1 b2]
  · rw [xU_nk (by omega), up_ne (by omega), a4 j b1 b2]
  · rw [xU_nk (by omega), up_ne (by omega), a5 j b1 b2]
theorem St.place {μ : xM} {b : Nat} {r : Int → Int} {m v : Int} (h : St μ b r) (h0 : 0 ≤ m) (h1 : m < 7) : St (xU μ (b + 2) m v) b (up r (18 + m) v) := by
  obtain ⟨a1, a2, a3, a4, a5⟩ := h
  refine ⟨?_, ?_, fun j b1 b2 => ?_, fun j b1 b2 => ?_, fun j b1 b2 => ?_⟩
  · rw [xU_nk (by omega), up_ne (by omega), a1]
  · rw [xU_nk (by omega), up_ne (by omega), a2]
  · rw [xU_nk (by omega), up_ne (by omega), a3 j b1 b2]
  · by_cases hj : j = m
    · subst hj; rw [xU_at2, up_at]
    · rw [xU_nj hj, up_ne (by omega), a4 j b1 b2]
  · rw [xU_nk (by omega), up_ne (by omega), a5 j b1 b2]
theorem St.reign {μ : xM} {b : Nat} {r : Int → Int} {m v : Int} (h : St μ b r) (h0 : 0 ≤ m) (h1 : m < 7) : St (xU μ (b + 4) m v) b (up r (25 + m) v) := by
  obtain ⟨a1, a2, a3, a4, a5⟩ := h
  refine ⟨?_, ?_, fun j b1 b2 => ?_, fun j b1 b2 => ?_, fun j b1 b2 => ?_⟩
  · rw [xU_nk (by omega), up_ne (by omega), a1]
  · rw [xU_nk (by omega), up_ne (by omega), a2]
  · rw [xU_nk (by omega), up_ne (by omega), a3 j b1 b2]
  · rw [xU_nk (by omega), up_ne (by omega), a4 j b1 b2]
  · by_cases hj : j = m
    · subst hj; rw [xU_at2, up_at]
    · rw [xU_nj hj, up_ne (by omega), a5 j b1 b2]
theorem St.funds {μ : xM} {b : Nat} {r : Int → Int} {v : Int} (h : St μ b r) : St (xU μ b 5 v) b (up r 1 v) := by
  obtain ⟨a1, a2, a3, a4, a5⟩ := h
  refine ⟨?_, ?_, fun j b1 b2 => ?_, fun j b1 b2 => ?_, fun j b1 b2 => ?_⟩
  · rw [xU_nj (by omega), up_ne (by omega), a1]
  · rw [xU_at2, up_at]
  · rw [xU_nk (by omega), up_ne (by omega), a3 j b1 b2]
  · rw [xU_nk (by omega), up_ne (by omega), a4 j b1 b2]
  · rw [xU_nk (by omega), up_ne (by omega), a5 j b1 b2]
theorem St.year {μ : xM} {b : Nat} {r : Int → Int} {v : Int} (h : St μ b r) : St (xU μ b 6 v) b (up r 0 v) := by
  obtain ⟨a1, a2, a3, a4, a5⟩ := h
  refine ⟨?_, ?_, fun j b1 b2 => ?_, fun j b1 b2 => ?_, fun j b1 b2 => ?_⟩
  · rw [xU_at2, up_at]
  · rw [xU_nj (by omega), up_ne (by omega), a2]
  · rw [xU_nk (by omega), up_ne (by omega), a3 j b1 b2]
  · rw [xU_nk (by omega), up_ne (by omega), a4 j b1 b2]
  · rw [xU_nk (by omega), up_ne (by omega), a5 j b1 b2]
/-- what holds of every TEXT that is LAID, and of how it stands -/
def WT (T : Int → Int) : Prop := 3 ≤ T 0 ∧ T 0 ≤ 16 ∧ 1 ≤ T 3 ∧ T 3 ≤ 7 ∧ ∀ m : Int, 0 ≤ m → m < T 3 → 0 ≤ T (4 + m) ∧ T (4 + m) ≤ 3 ∧ 0 ≤ T (11 + m) ∧ T (11 + m) ≤ 9
def WR (T r : Int → Int) : Prop := (∀ j : Int, 0 ≤ j → j < 16 → 0 ≤ r (2 + j) ∧ r (2 + j) ≤ 9) ∧ (∀ m : Int, 0 ≤ m → m < T 3 → 0 ≤ r (18 + m) ∧ r (18 + m) < T 0) ∧ 0 ≤ r 1 ∧ r 1 ≤ 99
def SA (μ : xM) (b pl : Nat) (T r : Int → Int) : Prop := Pl μ pl T ∧ Gr μ b T ∧ St μ b r
theorem SA.step {μ μ' : xM} {b pl : Nat} {T r r' : Int → Int} (h : SA μ b pl T r) (hb : pl + 1 < b) (hf : FrS b μ μ') (hs : St μ' b r') : SA μ' b pl T r' := ⟨h.1.fr hb hf, h.2.1.fr hf, hs⟩
/-- bit x of a set -/
def hsb (k x : Int) : Bool := decide (iAnd (iShr k x) 1 = 1)
def stp (T : Int → Int) (m x : Int) : Bool := hsb (T 1) x || (decide (T (4 + m) = 2) && hsb (T 2) x)
def lack (T r : Int → Int) (m : Int) : Int := r (2 + r (18 + m)) - T (11 + m) - (if T (4 + m) = 3 ∧ r (18 + m) = T 0 - 1 then 3 else 0)
def slide (T : Int → Int) (m : Int) : Nat → Int → (Int → Int) → (Int → Int)
  | 0, _, r => r
  | n + 1, sp, r => if 0 < sp ∧ 0 < r (18 + m) then slide T m n (if stp T m (r (18 + m) - 1) = true then 0 else sp + r (2 + (r (18 + m) - 1)) - (if T (4 + m) = 1 then 4 else 2)) (up (up r (2 + r (18 + m)) (max 0 (r (2 + r (18 + m)) - 1))) (18 + m) (r (18 + m) - 1)) else r
def goOne (T r : Int → Int) (m : Int) : Int → Int := if 0 < lack T r m then slide T m 16 (lack T r m) r else if r (18 + m) < T 0 - 1 then up r (18 + m) (r (18 + m) + 1) else r
def goN (T r : Int → Int) : Nat → (Int → Int)
  | 0 => r
  | k + 1 => goOne T (goN T r k) k
/-- the governor of those below k + 1 -/
def govN (r : Int → Int) : Nat → Int
  | 0 => 0
  | k + 1 => if r (18 + govN r k) < r (18 + ((k : Int) + 1)) then (k : Int) + 1 else govN r k
def gov (T r : Int → Int) : Int := govN r (T 3 - 1).toNat
def reignUp (T r : Int → Int) : Int → Int := up r (25 + gov T r) (r (25 + gov T r) + 1)
def fundsUp (r : Int → Int) : Int → Int := up r 1 (min 99 (r 1 + 3))
def yearUp (r : Int → Int) : Int → Int := up r 0 (r 0 + 1)
def goYear (T r : Int → Int) : Int → Int := yearUp (fundsUp (reignUp T (goN T r (T 3).toNat)))
def goYears (T : Int → Int) : Nat → (Int → Int) → (Int → Int)
  | 0, r => r
  | k + 1, r => goYears T k (goYear T r)
theorem xI.mk {P : Int → xM → Prop} {a : Int} {μ : xM} (h : P a μ) : xI P (some (vI a)) μ := ⟨a, rfl, h⟩
theorem xN.mk {P : xM → Prop} {μ : xM} (h : P μ) : xN P none μ := ⟨rfl, h⟩
theorem xStd.pl {S : List xS} {b pl : Nat} (h : xStd S b pl) : xPln S pl := h.2.2.2.2.2.1
theorem xStd.lt {S : List xS} {b pl : Nat} (h : xStd S b pl) : pl + 1 < b := h.2.2.2.2.2.2
section SAacc
variable {μ : xM} {b pl : Nat} {T r : Int → Int}
theorem SA.wx (h : SA μ b pl T r) {j : Int} (h0 : 0 ≤ j) (h1 : j < 16) : μ (b + 1) j = r (2 + j) := h.2.2.2.2.1 j h0 h1
theorem SA.pc (h : SA μ b pl T r) {j : Int} (h0 : 0 ≤ j) (h1 : j < 7) : μ (b + 2) j = r (18 + j) := h.2.2.2.2.2.1 j h0 h1
theorem SA.rg (h : SA μ b pl T r) {j : Int} (h0 : 0 ≤ j) (h1 : j < 7) : μ (b + 4) j = r (25 + j) := h.2.2.2.2.2.2 j h0 h1
theorem SA.gp (h : SA μ b pl T r) {j : Int} (h0 : 0 ≤ j) (h1 : j < T 3) : μ (b + 3) j = T (11 + j) := h.2.1 j h0 h1
theorem SA.kd (h : SA μ b pl T r) {j : Int} (h0 : 0 ≤ j) (h1 : j < T 3) : μ (pl + 1) j = T (4 + j) := h.1.2.2.2.2 j h0 h1
theorem SA.yr (h : SA μ b pl T r) : μ b 6 = r 0 := h.2.2.1
theorem SA.fu (h : SA μ b pl T r) : μ b 5 = r 1 := h.2.2.2.1
theorem SA.mi (h : SA μ b pl T r) : μ pl 1 = T 3 := h.1.1
theorem SA.sp (h : SA μ b pl T r) : μ pl 2 = T 0 := h.1.2.1
end SAacc
theorem slide_stop {T r : Int → Int} {m sp : Int} {n : Nat} (h : ¬ (0 < sp ∧ 0 < r (18 + m))) : slide T m n sp r = r := by
  cases n with
  | zero => rfl
  | succ n => rw [slide, if_neg h]
theorem St.down {μ : xM} {b : Nat} {r : Int → Int} {m a v : Int} (h : St (xU μ (b + 2) m a) b r) (h0 : 0 ≤ a) (h1 : a < 16) (h2 : 0 ≤ m) (h3 : m < 7) : St (xU (xU μ (b + 1) a v) (b + 2) m (a + -1)) b (up (up r (2 + a) v) (18 + m) (a - 1)) := by
  have e : xU (xU (xU μ (b + 2) m a) (b + 1) a v) (b + 2) m (a - 1) = xU (xU μ (b + 1) a v) (b + 2) m (a + -1) := by
    funext k j
    by_cases hk : k = b + 2
    · subst hk
      by_cases hj : j = m
      · subst hj; rw [xU_at2, xU_at2]; omega
      · rw [xU_nj hj, xU_nj hj, xU_nk (by omega), xU_nj hj, xU_nk (by omega)]
    · rw [xU_nk hk, xU_nk hk]
      by_cases hk1 : k = b + 1
      · subst hk1
        by_cases hj : j = a
        · subst hj; rw [xU_at2, xU_at2]
        · rw [xU_nj hj, xU_nj hj, xU_nk hk]
      · rw [xU_nk hk1, xU_nk hk1, xU_nk hk]
  rw [← e]
  exact (h.wax h0 h1).place h2 h3
theorem WR_wax {T r : Int → Int} {x v : Int} (h : WR T r) (h0 : 0 ≤ x) (h1 : x < 16) (hv : 0 ≤ v ∧ v ≤ 9) : WR T (up r (2 + x) v) := by
  obtain ⟨a1, a2, a3, a4⟩ := h
  refine ⟨fun j b1 b2 => ?_, fun m b1 b2 => ?_, ?_, ?_⟩
  · by_cases hj : j = x
    · subst hj; rw [up_at]; exact hv
    · rw [up_ne (by omega)]; exact a1 j b1 b2
  · by_cases hm : 18 + m = 2 + x
    · omega
    · rw [up_ne hm]; exact a2 m b1 b2
  · rw [up_ne (by omega)]; exact a3
  · rw [up_ne (by omega)]; exact a4
theorem WR_place {T r : Int → Int} {m v : Int} (hT : WT T) (h : WR T r) (h0 : 0 ≤ m) (hv : 0 ≤ v ∧ v < T 0) : WR T (up r (18 + m) v) := by
  obtain ⟨a1, a2, a3, a4⟩ := h
  refine ⟨fun j b1 b2 => ?_, fun k b1 b2 => ?_, ?_, ?_⟩
  · rw [up_ne (by omega)]; exact a1 j b1 b2
  · by_cases hm : k = m
    · subst hm; rw [up_at]; exact hv
    · rw [up_ne (by omega)]; exact a2 k b1 b2
  · rw [up_ne (by omega)]; exact a3
  · rw [up_ne (by omega)]; exact a4
theorem WR_hi {T r : Int → Int} {k v : Int} (hT : WT T) (h : WR T r) (hk : 25 ≤ k ∨ k = 0) : WR T (up r k v) := by
  obtain ⟨a1, a2, a3, a4⟩ := h
  have := hT.2.2.2.1
  refine ⟨fun j b1 b2 => ?_, fun j b1 b2 => ?_, ?_, ?_⟩
  · rw [up_ne (by omega)]; exact a1 j b1 b2
  · rw [up_ne (by omega)]; exact a2 j b1 b2
  · rw [up_ne (by omega)]; exact a3
  · rw [up_ne (by omega)]; exact a4
theorem WR_funds {T r : Int → Int} {v : Int} (h : WR T r) (hv : 0 ≤ v ∧ v ≤ 99) : WR T (up r 1 v) := by
  obtain ⟨a1, a2, a3, a4⟩ := h
  refine ⟨fun j b1 b2 => ?_, fun j b1 b2 => ?_, ?_, ?_⟩
  · rw [up_ne (by omega)]; exact a1 j b1 b2
  · rw [up_ne (by omega)]; exact a2 j b1 b2
  · rw [up_at]; exact hv.1
  · rw [up_at]; exact hv.2
theorem WR_slide {T : Int → Int} {m : Int} (hT : WT T) (hm : 0 ≤ m ∧ m < T 3) : ∀ (n : Nat) (sp : Int) (r : Int → Int), WR T r → WR T (slide T m n sp r)
  | 0, _, r, h => h
  | n + 1, sp, r, h => by
    rw [slide]
    split
    · rename_i hc
      have h1 := h.2.1 m hm.1 hm.2
      have h2 := hT.2.1
      have h3 := h.1 (r (18 + m)) (by omega) (by omega)
      exact WR_slide hT hm n _ _ (WR_place hT (WR_wax h (by omega) (by omega) (by omega)) hm.1 (by omega))
    · exact h
theorem WR_goOne {T r : Int → Int} {m : Int} (hT : WT T) (hm : 0 ≤ m ∧ m < T 3) (h : WR T r) : WR T (goOne T r m) := by
  unfold goOne
  have h1 := h.2.1 m hm.1 hm.2
  split
  · exact WR_slide hT hm _ _ _ h
  · split
    · exact WR_place hT h hm.1 (by omega)
    · exact h
theorem WR_goN {T r : Int → Int} (hT : WT T) (h : WR T r) : ∀ (k : Nat), (k : Int) ≤ T 3 → WR T (goN T r k)
  | 0, _ => h
  | k + 1, hk => WR_goOne hT (by omega) (WR_goN hT h k (by omega))
theorem govN_in {r : Int → Int} : ∀ k : Nat, 0 ≤ govN r k ∧ govN r k ≤ k
  | 0 => by simp [govN]
  | k + 1 => by
    have := govN_in (r := r) k
    rw [govN]
    split <;> omega
theorem gov_in {T r : Int → Int} (hT : WT T) : 0 ≤ gov T r ∧ gov T r < T 3 := by
  have h1 := hT.2.2.1
  have := govN_in (r := r) (T 3 - 1).toNat
  unfold gov
  omega
theorem WR_goYear {T r : Int → Int} (hT : WT T) (h : WR T r) : WR T (goYear T r) := by
  have h1 := hT.2.2.1
  have h2 := WR_goN hT h (T 3).toNat (by omega)
  have h3 := gov_in (r := goN T r (T 3).toNat) hT
  have h4 := WR_hi (k := 25 + gov T (goN T r (T 3).toNat)) (v := goN T r (T 3).toNat (25 + gov T (goN T r (T 3).toNat)) + 1) hT h2 (by omega)
  have h5 : 0 ≤ reignUp T (goN T r (T 3).toNat) 1 ∧ reignUp T (goN T r (T 3).toNat) 1 ≤ 99 := h4.2.2
  exact WR_hi hT (WR_funds h4 (by omega)) (Or.inr rfl)
theorem WR_goYears {T : Int → Int} (hT : WT T) : ∀ (k : Nat) (r : Int → Int), WR T r → WR T (goYears T k r)
  | 0, _, h => h
  | k + 1, _, h => WR_goYears hT k _ (WR_goYear hT h)
theorem lack_rg {T r : Int → Int} {m : Int} (hT : WT T) (hR : WR T r) (hm : 0 ≤ m ∧ m < T 3) : -20 ≤ lack T r m ∧ lack T r m ≤ 9 := by
  have h1 := hR.2.1 m hm.1 hm.2
  have h2 := hT.2.1
  have h3 := hR.1 (r (18 + m)) (by omega) (by omega)
  have h4 := hT.2.2.2.2 m hm.1 hm.2
  unfold lack
  split <;> omega
end
section
theorem i_rg (x : Int32) : -2147483648 ≤ x.toInt ∧ x.toInt < 2147483648 := ⟨by have := Int32.le_toInt x; omega, by have := Int32.toInt_lt x; omega⟩
theorem iAnd_rg (a b : Int) : -2147483648 ≤ iAnd a b ∧ iAnd a b < 2147483648 := i_rg _
set_option maxRecDepth 100000 in
set_option maxHeartbeats 4000000 in
theorem c_hasStep {g : xG} {l : Launch} {S : List xS} {μ : xM} {pl : Nat} {T : Int → Int} {x : Int} (hp : xPln S pl) (hA : Pl μ pl T) (hT : 3 ≤ T 0 ∧ T 0 ≤ 16) (hx : -2147483648 ≤ x ∧ x < 2147483648) : xCt g l yX0_hasStep cX0_hasStep 2 (some .boolean) 0 0 0 0 [vR g pl, vI x] S μ S (xI (fun a μ' => a = (if 0 ≤ x ∧ x < T 0 then 1 else 0) ∧ μ' = μ)) := by
  refine x_enter (by decide) (Nat.le_of_ble_eq_true rfl) ?_
  intro zp ze zs zm za zb zh zc hC hz0
  have e0 := hA.2.1
  have e1 := hT.1
  have e2 := hT.2
  refine x_iload_n (pc' := 1) hC dX0_hasStep_0 rfl rfl ?_
  refine x_if_lt (tgt := 16) (pc' := 4) hC dX0_hasStep_1 (by decide) rfl (by omega) (fun c1 => ?_) (fun c1 => ?_)
  · refine x_iconst (pc' := 17) hC dX0_hasStep_16 rfl ?_
    exact x_zret hC dX0_hasStep_17 (by first | exact Or.inl rfl | exact Or.inr rfl | omega) (xI.mk ⟨by first | (rw [if_pos (by omega)]) | (rw [if_neg (by omega)]), rfl⟩)
  · refine x_iload_n (pc' := 5) hC dX0_hasStep_4 rfl rfl ?_
    refine x_aload_n (pc' := 6) hC dX0_hasStep_5 rfl rfl ?_
    refine x_getI (j' := 2) (pc' := 9) hC kf_X0_19 dX0_hasStep_6 hp.1 rfl rfl rfl ?_
    refine x_icmp_ge (tgt := 16) (pc' := 12) hC dX0_hasStep_9 (by decide) rfl (by omega) (by omega) (fun c9 => ?_) (fun c9 => ?_)
    · refine x_iconst (pc' := 17) hC dX0_hasStep_16 rfl ?_
      exact x_zret hC dX0_hasStep_17 (by first | exact Or.inl rfl | exact Or.inr rfl | omega) (xI.mk ⟨by first | (rw [if_pos (by omega)]) | (rw [if_neg (by omega)]), rfl⟩)
    · refine x_iconst (pc' := 13) hC dX0_hasStep_12 rfl ?_
      refine x_goto (tgt := 17) hC dX0_hasStep_13 (by decide) ?_
      exact x_zret hC dX0_hasStep_17 (by first | exact Or.inl rfl | exact Or.inr rfl | omega) (xI.mk ⟨by first | (rw [if_pos (by omega)]) | (rw [if_neg (by omega)]), rfl⟩)
set_option maxRecDepth 100000 in
set_option maxHeartbeats 4000000 in
theorem c_hasMinister {g : xG} {l : Launch} {S : List xS} {μ : xM} {pl : Nat} {T : Int → Int} {x : Int} (hp : xPln S pl) (hA : Pl μ pl T) (hT : WT T) (hx : -2147483648 ≤ x ∧ x < 2147483648) : xCt g l yX0_hasMinister cX0_hasMinister 2 (some .boolean) 0 0 0 0 [vR g pl, vI x] S μ S (xI (fun a μ' => a = (if 0 ≤ x ∧ x < T 3 then 1 else 0) ∧ μ' = μ)) := by
  refine x_enter (by decide) (Nat.le_of_ble_eq_true rfl) ?_
  intro zp ze zs zm za zb zh zc hC hz0
  have e0 := hA.1
  have e1 := hT.2.2.1
  have e2 := hT.2.2.2.1
  refine x_iload_n (pc' := 1) hC dX0_hasMinister_0 rfl rfl ?_
  refine x_if_lt (tgt := 16) (pc' := 4) hC dX0_hasMinister_1 (by decide) rfl (by omega) (fun c1 => ?_) (fun c1 => ?_)
  · refine x_iconst (pc' := 17) hC dX0_hasMinister_16 rfl ?_
    exact x_zret hC dX0_hasMinister_17 (by first | exact Or.inl rfl | exact Or.inr rfl | omega) (xI.mk ⟨by first | (rw [if_pos (by omega)]) | (rw [if_neg (by omega)]), rfl⟩)
  · refine x_iload_n (pc' := 5) hC dX0_hasMinister_4 rfl rfl ?_
    refine x_aload_n (pc' := 6) hC dX0_hasMinister_5 rfl rfl ?_
    refine x_getI (j' := 1) (pc' := 9) hC kf_X0_15 dX0_hasMinister_6 hp.1 rfl rfl rfl ?_
    refine x_icmp_ge (tgt := 16) (pc' := 12) hC dX0_hasMinister_9 (by decide) rfl (by omega) (by omega) (fun c9 => ?_) (fun c9 => ?_)
    · refine x_iconst (pc' := 17) hC dX0_hasMinister_16 rfl ?_
      exact x_zret hC dX0_hasMinister_17 (by first | exact Or.inl rfl | exact Or.inr rfl | omega) (xI.mk ⟨by first | (rw [if_pos (by omega)]) | (rw [if_neg (by omega)]), rfl⟩)
    · refine x_iconst (pc' := 13) hC dX0_hasMinister_12 rfl ?_
      refine x_goto (tgt := 17) hC dX0_hasMinister_13 (by decide) ?_
      exact x_zret hC dX0_hasMinister_17 (by first | exact Or.inl rfl | exact Or.inr rfl | omega) (xI.mk ⟨by first | (rw [if_pos (by omega)]) | (rw [if_neg (by omega)]), rfl⟩)
set_option maxRecDepth 100000 in
set_option maxHeartbeats 4000000 in
theorem c_isTop {g : xG} {l : Launch} {S : List xS} {μ : xM} {pl : Nat} {T : Int → Int} {x : Int} (hp : xPln S pl) (hA : Pl μ pl T) (hT : WT T) (hx : -2147483648 ≤ x ∧ x < 2147483648) : xCt g l yX0_isTop cX0_isTop 2 (some .boolean) 0 0 0 0 [vR g pl, vI x] S μ S (xI (fun a μ' => a = (if x = T 0 - 1 then 1 else 0) ∧ μ' = μ)) := by
  refine x_enter (by decide) (Nat.le_of_ble_eq_true rfl) ?_
  intro zp ze zs zm za zb zh zc hC hz0
  have e0 := hA.2.1
  have e1 := hT.1
  have e2 := hT.2.1
  refine x_iload_n (pc' := 1) hC dX0_isTop_0 rfl rfl ?_
  refine x_aload_n (pc' := 2) hC dX0_isTop_1 rfl rfl ?_
  refine x_getI (j' := 2) (pc' := 5) hC kf_X0_19 dX0_isTop_2 hp.1 rfl rfl rfl ?_
  refine x_iconst (pc' := 6) hC dX0_isTop_5 rfl ?_
  refine x_isub (pc' := 7) hC dX0_isTop_6 rfl ?_
  refine x_icmp_ne (tgt := 14) (pc' := 10) hC dX0_isTop_7 (by decide) rfl (by omega) (by omega) (fun c7 => ?_) (fun c7 => ?_)
  · refine x_iconst (pc' := 15) hC dX0_isTop_14 rfl ?_
    exact x_zret hC dX0_isTop_15 (by first | exact Or.inl rfl | exact Or.inr rfl | omega) (xI.mk ⟨by first | (rw [if_pos (by omega)]) | (rw [if_neg (by omega)]), rfl⟩)
  · refine x_iconst (pc' := 11) hC dX0_isTop_10 rfl ?_
    refine x_goto (tgt := 15) hC dX0_isTop_11 (by decide) ?_
    exact x_zret hC dX0_isTop_15 (by first | exact Or.inl rfl | exact Or.inr rfl | omega) (xI.mk ⟨by first | (rw [if_pos (by omega)]) | (rw [if_neg (by omega)]), rfl⟩)
set_option maxRecDepth 100000 in
set_option maxHeartbeats 4000000 in
theorem c_hasKnob {g : xG} {l : Launch} {S : List xS} {μ : xM} {pl : Nat} {T : Int → Int} {x : Int} (hp : xPln S pl) (hA : Pl μ pl T) : xCt g l yX0_hasKnob cX0_hasKnob 2 (some .boolean) 0 0 0 0 [vR g pl, vI x] S μ S (xI (fun a μ' => a = (if hsb (T 1) x = true then 1 else 0) ∧ μ' = μ)) := by
  refine x_enter (by decide) (Nat.le_of_ble_eq_true rfl) ?_
  intro zp ze zs zm za zb zh zc hC hz0
  have e0 := hA.2.2.1
  refine x_aload_n (pc' := 1) hC dX0_hasKnob_0 rfl rfl ?_
  refine x_getI (j' := 3) (pc' := 4) hC kf_X0_22 dX0_hasKnob_1 hp.1 rfl rfl rfl ?_
  refine x_iload_n (pc' := 5) hC dX0_hasKnob_4 rfl rfl ?_
  refine x_ishr (pc' := 6) hC dX0_hasKnob_5 rfl ?_
  rw [e0]
  refine x_iconst (pc' := 7) hC dX0_hasKnob_6 rfl ?_
  refine x_iand (pc' := 8) hC dX0_hasKnob_7 rfl ?_
  refine x_iconst (pc' := 9) hC dX0_hasKnob_8 rfl ?_
  refine x_icmp_ne (tgt := 16) (pc' := 12) hC dX0_hasKnob_9 (by decide) rfl (iAnd_rg _ _) (by omega) (fun c9 => ?_) (fun c9 => ?_)
  · refine x_iconst (pc' := 17) hC dX0_hasKnob_16 rfl ?_
    exact x_zret hC dX0_hasKnob_17 (by first | exact Or.inl rfl | exact Or.inr rfl | omega) (xI.mk ⟨by first | (rw [if_pos (by simpa [hsb] using c9)]) | (rw [if_neg (by simpa [hsb] using c9)]), rfl⟩)
  · refine x_iconst (pc' := 13) hC dX0_hasKnob_12 rfl ?_
    refine x_goto (tgt := 17) hC dX0_hasKnob_13 (by decide) ?_
    exact x_zret hC dX0_hasKnob_17 (by first | exact Or.inl rfl | exact Or.inr rfl | omega) (xI.mk ⟨by first | (rw [if_pos (by simpa [hsb] using c9)]) | (rw [if_neg (by simpa [hsb] using c9)]), rfl⟩)
set_option maxRecDepth 100000 in
set_option maxHeartbeats 4000000 in
theorem c_hasTurn {g : xG} {l : Launch} {S : List xS} {μ : xM} {pl : Nat} {T : Int → Int} {x : Int} (hp : xPln S pl) (hA : Pl μ pl T) : xCt g l yX0_hasTurn cX0_hasTurn 2 (some .boolean) 0 0 0 0 [vR g pl, vI x] S μ S (xI (fun a μ' => a = (if hsb (T 2) x = true then 1 else 0) ∧ μ' = μ)) := by
  refine x_enter (by decide) (Nat.le_of_ble_eq_true rfl) ?_
  intro zp ze zs zm za zb zh zc hC hz0
  have e0 := hA.2.2.2.1
  refine x_aload_n (pc' := 1) hC dX0_hasTurn_0 rfl rfl ?_
  refine x_getI (j' := 4) (pc' := 4) hC kf_X0_25 dX0_hasTurn_1 hp.1 rfl rfl rfl ?_
  refine x_iload_n (pc' := 5) hC dX0_hasTurn_4 rfl rfl ?_
  refine x_ishr (pc' := 6) hC dX0_hasTurn_5 rfl ?_
  rw [e0]
  refine x_iconst (pc' := 7) hC dX0_hasTurn_6 rfl ?_
  refine x_iand (pc' := 8) hC dX0_hasTurn_7 rfl ?_
  refine x_iconst (pc' := 9) hC dX0_hasTurn_8 rfl ?_
  refine x_icmp_ne (tgt := 16) (pc' := 12) hC dX0_hasTurn_9 (by decide) rfl (iAnd_rg _ _) (by omega) (fun c9 => ?_) (fun c9 => ?_)
  · refine x_iconst (pc' := 17) hC dX0_hasTurn_16 rfl ?_
    exact x_zret hC dX0_hasTurn_17 (by first | exact Or.inl rfl | exact Or.inr rfl | omega) (xI.mk ⟨by first | (rw [if_pos (by simpa [hsb] using c9)]) | (rw [if_neg (by simpa [hsb] using c9)]), rfl⟩)
  · refine x_iconst (pc' := 13) hC dX0_hasTurn_12 rfl ?_
    refine x_goto (tgt := 17) hC dX0_hasTurn_13 (by decide) ?_
    exact x_zret hC dX0_hasTurn_17 (by first | exact Or.inl rfl | exact Or.inr rfl | omega) (xI.mk ⟨by first | (rw [if_pos (by simpa [hsb] using c9)]) | (rw [if_neg (by simpa [hsb] using c9)]), rfl⟩)
end
section
theorem xU_self {μ : xM} {k : Nat} {j : Int} : xU μ k j (μ k j) = μ := by
  funext k' j'
  by_cases h : k' = k ∧ j' = j
  · obtain ⟨rfl, rfl⟩ := h
    rw [xU_at2]
  · simp [xU, h]
set_option maxRecDepth 100000 in
set_option maxHeartbeats 4000000 in
theorem c_speedOf {g : xG} {l : Launch} {S : List xS} {μ : xM} {b pl : Nat} {T r : Int → Int} {m : Int} (hb : xStd S b pl) (hA : SA μ b pl T r) (hT : WT T) (hR : WR T r) (hm : 0 ≤ m ∧ m < T 3) : xCt g l yX4_speedOf cX4_speedOf 4 (some .int) 1 21 0 0 [vR g b, vI m] S μ S (xI (fun a μ' => a = lack T r m ∧ μ' = μ)) := by
  refine x_enter (by decide) (Nat.le_of_ble_eq_true rfl) ?_
  intro zp ze zs zm za zb zh zc hC hz0
  have t0 := hT.1
  have t1 := hT.2.1
  have t2 := hT.2.2.1
  have t3 := hT.2.2.2.1
  have q := hR.2.1 m hm.1 hm.2
  have q2 := hT.2.2.2.2 m hm.1 hm.2
  have q3 := hR.1 (r (18 + m)) (by omega) (by omega)
  refine x_aload_n (pc' := 1) hC dX4_speedOf_0 rfl rfl ?_
  refine x_getR (pc' := 4) (b := b + 2) hC kf_X4_15 dX4_speedOf_1 hb.1 rfl rfl ?_
  refine x_iload_n (pc' := 5) hC dX4_speedOf_4 rfl rfl ?_
  refine x_iald (pc' := 6) hC dX4_speedOf_5 hb.2.2.1 (by omega) (by decide) rfl ?_
  rw [hA.pc (by omega) (by omega)]
  refine x_istore_n (pc' := 7) hC dX4_speedOf_6 (by decide) rfl rfl ?_
  refine x_aload_n (pc' := 8) hC dX4_speedOf_7 rfl rfl ?_
  refine x_getR (pc' := 11) (b := pl) hC kf_X4_31 dX4_speedOf_8 hb.1 rfl rfl ?_
  refine x_iload_n (pc' := 12) hC dX4_speedOf_11 rfl rfl ?_
  refine x_callV (pc' := 15) (n := 1) hC (c_hasStep (T := T) hb.pl hA.1 ⟨hT.1, hT.2.1⟩ (by omega)) ky_X0_hasStep kv_X0_hasStep kl_X4_55 dX4_speedOf_12 hb.2.2.2.2.2.1.1 rfl rfl rfl rfl ⟨Nat.le_of_ble_eq_true rfl, Nat.le_of_ble_eq_true rfl⟩ (Nat.le_of_ble_eq_true rfl) ⟨Nat.le_refl _, Nat.le_refl _⟩ (Or.inl rfl) rfl (x_kd ?_)
  refine x_ifb_ne (tgt := 20) (pc' := 18) hC dX4_speedOf_15 (by decide) rfl (fun c15 => ?_) (fun c15 => ?_)
  · refine x_aload_n (pc' := 21) hC dX4_speedOf_20 rfl rfl ?_
    refine x_getR (pc' := 24) (b := pl) hC kf_X4_31 dX4_speedOf_21 hb.1 rfl rfl ?_
    refine x_getR (pc' := 27) (b := pl + 1) hC kf_X4_83 dX4_speedOf_24 hb.2.2.2.2.2.1.1 rfl rfl ?_
    refine x_iload_n (pc' := 28) hC dX4_speedOf_27 rfl rfl ?_
    refine x_iald (pc' := 29) hC dX4_speedOf_28 hb.2.2.2.2.2.1.2 (by omega) (by decide) rfl ?_
    rw [hA.kd hm.1 hm.2]
    refine x_iconst (pc' := 30) hC dX4_speedOf_29 rfl ?_
    refine x_icmp_ne (tgt := 48) (pc' := 33) hC dX4_speedOf_30 (by decide) rfl (by omega) (by omega) (fun c30 => ?_) (fun c30 => ?_)
    · refine x_iconst (pc' := 49) hC dX4_speedOf_48 rfl ?_
      refine x_istore_n (pc' := 50) hC dX4_speedOf_49 (by decide) rfl rfl ?_
      refine x_aload_n (pc' := 51) hC dX4_speedOf_50 rfl rfl ?_
      refine x_getR (pc' := 54) (b := b + 1) hC kf_X4_9 dX4_speedOf_51 hb.1 rfl rfl ?_
      refine x_iload_n (pc' := 55) hC dX4_speedOf_54 rfl rfl ?_
      refine x_iald (pc' := 56) hC dX4_speedOf_55 hb.2.1 (by omega) (by decide) rfl ?_
      rw [hA.wx (by omega) (by omega)]
      refine x_aload_n (pc' := 57) hC dX4_speedOf_56 rfl rfl ?_
      refine x_getR (pc' := 60) (b := b + 3) hC kf_X4_18 dX4_speedOf_57 hb.1 rfl rfl ?_
      refine x_iload_n (pc' := 61) hC dX4_speedOf_60 rfl rfl ?_
      refine x_iald (pc' := 62) hC dX4_speedOf_61 hb.2.2.2.1 (by omega) (by decide) rfl ?_
      rw [hA.gp hm.1 hm.2]
      refine x_isub (pc' := 63) hC dX4_speedOf_62 rfl ?_
      refine x_iload_n (pc' := 64) hC dX4_speedOf_63 rfl rfl ?_
      refine x_isub (pc' := 65) hC dX4_speedOf_64 rfl ?_
      exact x_iret hC dX4_speedOf_65 (xI.mk ⟨by unfold lack; first | rw [if_pos (by omega)] | rw [if_neg (by omega)], rfl⟩)
    · refine x_aload_n (pc' := 34) hC dX4_speedOf_33 rfl rfl ?_
      refine x_getR (pc' := 37) (b := pl) hC kf_X4_31 dX4_speedOf_34 hb.1 rfl rfl ?_
      refine x_iload_n (pc' := 38) hC dX4_speedOf_37 rfl rfl ?_
      refine x_callV (pc' := 41) (n := 1) hC (c_isTop (T := T) hb.pl hA.1 hT (by omega)) ky_X0_isTop kv_X0_isTop kl_X4_86 dX4_speedOf_38 hb.2.2.2.2.2.1.1 rfl rfl rfl rfl ⟨Nat.le_of_ble_eq_true rfl, Nat.le_of_ble_eq_true rfl⟩ (Nat.le_of_ble_eq_true rfl) ⟨Nat.le_refl _, Nat.le_refl _⟩ (Or.inl rfl) rfl (x_kd ?_)
      refine x_ifb_eq (tgt := 48) (pc' := 44) hC dX4_speedOf_41 (by decide) rfl (fun c41 => ?_) (fun c41 => ?_)
      · refine x_iconst (pc' := 49) hC dX4_speedOf_48 rfl ?_
        refine x_istore_n (pc' := 50) hC dX4_speedOf_49 (by decide) rfl rfl ?_
        refine x_aload_n (pc' := 51) hC dX4_speedOf_50 rfl rfl ?_
        refine x_getR (pc' := 54) (b := b + 1) hC kf_X4_9 dX4_speedOf_51 hb.1 rfl rfl ?_
        refine x_iload_n (pc' := 55) hC dX4_speedOf_54 rfl rfl ?_
        refine x_iald (pc' := 56) hC dX4_speedOf_55 hb.2.1 (by omega) (by decide) rfl ?_
        rw [hA.wx (by omega) (by omega)]
        refine x_aload_n (pc' := 57) hC dX4_speedOf_56 rfl rfl ?_
        refine x_getR (pc' := 60) (b := b + 3) hC kf_X4_18 dX4_speedOf_57 hb.1 rfl rfl ?_
        refine x_iload_n (pc' := 61) hC dX4_speedOf_60 rfl rfl ?_
        refine x_iald (pc' := 62) hC dX4_speedOf_61 hb.2.2.2.1 (by omega) (by decide) rfl ?_
        rw [hA.gp hm.1 hm.2]
        refine x_isub (pc' := 63) hC dX4_speedOf_62 rfl ?_
        refine x_iload_n (pc' := 64) hC dX4_speedOf_63 rfl rfl ?_
        refine x_isub (pc' := 65) hC dX4_speedOf_64 rfl ?_
        exact x_iret hC dX4_speedOf_65 (xI.mk ⟨by unfold lack; first | rw [if_pos (by omega)] | rw [if_neg (by omega)], rfl⟩)
      · refine x_iconst (pc' := 45) hC dX4_speedOf_44 rfl ?_
        refine x_goto (tgt := 49) hC dX4_speedOf_45 (by decide) ?_
        refine x_istore_n (pc' := 50) hC dX4_speedOf_49 (by decide) rfl rfl ?_
        refine x_aload_n (pc' := 51) hC dX4_speedOf_50 rfl rfl ?_
        refine x_getR (pc' := 54) (b := b + 1) hC kf_X4_9 dX4_speedOf_51 hb.1 rfl rfl ?_
        refine x_iload_n (pc' := 55) hC dX4_speedOf_54 rfl rfl ?_
        refine x_iald (pc' := 56) hC dX4_speedOf_55 hb.2.1 (by omega) (by decide) rfl ?_
        rw [hA.wx (by omega) (by omega)]
        refine x_aload_n (pc' := 57) hC dX4_speedOf_56 rfl rfl ?_
        refine x_getR (pc' := 60) (b := b + 3) hC kf_X4_18 dX4_speedOf_57 hb.1 rfl rfl ?_
        refine x_iload_n (pc' := 61) hC dX4_speedOf_60 rfl rfl ?_
        refine x_iald (pc' := 62) hC dX4_speedOf_61 hb.2.2.2.1 (by omega) (by decide) rfl ?_
        rw [hA.gp hm.1 hm.2]
        refine x_isub (pc' := 63) hC dX4_speedOf_62 rfl ?_
        refine x_iload_n (pc' := 64) hC dX4_speedOf_63 rfl rfl ?_
        refine x_isub (pc' := 65) hC dX4_speedOf_64 rfl ?_
        exact x_iret hC dX4_speedOf_65 (xI.mk ⟨by unfold lack; first | rw [if_pos (by omega)] | rw [if_neg (by omega)], rfl⟩)
  · exact absurd ⟨q.1, q.2⟩ c15
set_option maxRecDepth 100000 in
set_option maxHeartbeats 4000000 in
theorem c_comeDown {g : xG} {l : Launch} {S : List xS} {μ : xM} {b pl : Nat} {T r : Int → Int} {m sp0 : Int} (hb : xStd S b pl) (hA : SA μ b pl T r) (hT : WT T) (hR : WR T r) (hm : 0 ≤ m ∧ m < T 3) (hs : -1000 ≤ sp0 ∧ sp0 ≤ 60) : xCt g l yX4_comeDown cX4_comeDown 8 none 1 21 0 0 [vR g b, vI m, vI sp0] S μ S (xN (fun μ' => FrS b μ μ' ∧ St μ' b (slide T m 16 sp0 r))) := by
  refine x_enter (by decide) (Nat.le_of_ble_eq_true rfl) ?_
  intro zp ze zs zm za zb zh zc hC hz0
  have t0 := hT.1
  have t1 := hT.2.1
  have t2 := hT.2.2.1
  have t3 := hT.2.2.2.1
  have q := hR.2.1 m hm.1 hm.2
  have q2 := hT.2.2.2.2 m hm.1 hm.2
  have loop : ∀ (zn : Nat) (br gt sp : Int) (r1 : Int → Int) (μ1 : xM) (f : Nat) (hbr : br = if T (4 + m) = 1 then 4 else 2) (hgt : gt = if T (4 + m) = 2 then 1 else 0) (h1 : FrS b μ μ1) (h2 : St (xU μ1 (b + 2) m (r1 (18 + m))) b r1) (h3 : WR T r1) (h4 : -1000 ≤ sp ∧ sp ≤ 200 - 9 * r1 (18 + m)) (hf : r1 (18 + m) ≤ f) (h5 : slide T m f sp r1 = (slide T m 16 sp0 r)), f < zn → xX g 8 zp l ze { frames := 1, cells := 0, slots := 0, locals := 21 } zs zm za zb zh zc 0 0 (MQ zb (xQ g S (xN (fun μ' => FrS b μ μ' ∧ St μ' b (slide T m 16 sp0 r)))) za zs 0 0 (xA0 g)) S μ1 50 [some (vR g b), some (vI m), some (vI sp0), some (vI br), some (vI gt), some (vI sp), some (vI (r1 (18 + m))), none] [] := by
    intro zn
    induction zn with
    | zero => intros; rename_i hz; exact absurd hz (Nat.not_lt_zero _)
    | succ zn ih =>
      intro br gt sp r1 μ1 f hbr hgt h1 h2 h3 h4 hf h5 hn
      have p1 := h3.2.1 m hm.1 hm.2
      have hw : ∀ j : Int, 0 ≤ j → j < 16 → μ1 (b + 1) j = r1 (2 + j) := fun j j0 j1 => by rw [← h2.2.2.1 j j0 j1, xU_nk (by omega)]
      refine x_iload (pc' := 52) hC dX4_comeDown_50 rfl rfl ?_
      refine x_if_le (tgt := 151) (pc' := 55) hC dX4_comeDown_52 (by decide) rfl (by omega) (fun c52 => ?_) (fun c52 => ?_)
      · refine x_aload_n (pc' := 152) hC dX4_comeDown_151 rfl rfl ?_
        refine x_getR (pc' := 155) (b := b + 2) hC kf_X4_15 dX4_comeDown_152 hb.1 rfl rfl ?_
        refine x_iload_n (pc' := 156) hC dX4_comeDown_155 rfl rfl ?_
        refine x_iload (pc' := 158) hC dX4_comeDown_156 rfl rfl ?_
        refine x_iast (pc' := 159) hC dX4_comeDown_158 hb.2.2.1 (by omega) (by omega) rfl ?_
        exact x_vret hC dX4_comeDown_159 (xN.mk ⟨h1.u2, by rw [← h5, slide_stop (by omega)]; exact h2⟩)
      · refine x_iload (pc' := 57) hC dX4_comeDown_55 rfl rfl ?_
        refine x_if_le (tgt := 151) (pc' := 60) hC dX4_comeDown_57 (by decide) rfl (by omega) (fun c57 => ?_) (fun c57 => ?_)
        · refine x_aload_n (pc' := 152) hC dX4_comeDown_151 rfl rfl ?_
          refine x_getR (pc' := 155) (b := b + 2) hC kf_X4_15 dX4_comeDown_152 hb.1 rfl rfl ?_
          refine x_iload_n (pc' := 156) hC dX4_comeDown_155 rfl rfl ?_
          refine x_iload (pc' := 158) hC dX4_comeDown_156 rfl rfl ?_
          refine x_iast (pc' := 159) hC dX4_comeDown_158 hb.2.2.1 (by omega) (by omega) rfl ?_
          exact x_vret hC dX4_comeDown_159 (xN.mk ⟨h1.u2, by rw [← h5, slide_stop (by omega)]; exact h2⟩)
        · obtain ⟨f', rfl⟩ : ∃ f' : Nat, f = f' + 1 := ⟨f - 1, by omega⟩
          rw [slide, if_pos (by omega)] at h5
          have p2 := h3.1 (r1 (18 + m)) (by omega) (by omega)
          have p3 := h3.1 (r1 (18 + m) - 1) (by omega) (by omega)
          refine x_aload_n (pc' := 61) hC dX4_comeDown_60 rfl rfl ?_
          refine x_getR (pc' := 64) (b := b + 1) hC kf_X4_9 dX4_comeDown_61 hb.1 rfl rfl ?_
          refine x_iload (pc' := 66) hC dX4_comeDown_64 rfl rfl ?_
          refine x_iconst (pc' := 67) hC dX4_comeDown_66 rfl ?_
          refine x_aload_n (pc' := 68) hC dX4_comeDown_67 rfl rfl ?_
          refine x_getR (pc' := 71) (b := b + 1) hC kf_X4_9 dX4_comeDown_68 hb.1 rfl rfl ?_
          refine x_iload (pc' := 73) hC dX4_comeDown_71 rfl rfl ?_
          refine x_iald (pc' := 74) hC dX4_comeDown_73 hb.2.1 (by omega) (by decide) rfl ?_
          rw [hw _ (by omega) (by omega)]
          refine x_iconst (pc' := 75) hC dX4_comeDown_74 rfl ?_
          refine x_isub (pc' := 76) hC dX4_comeDown_75 rfl ?_
          refine x_mmax (pc' := 79) hC kl_X4_65 dX4_comeDown_76 (by omega) (by omega) ⟨Nat.le_of_ble_eq_true rfl, Nat.le_of_ble_eq_true rfl⟩ (Nat.le_of_ble_eq_true rfl) ⟨Nat.le_refl _, Nat.le_refl _⟩ rfl ?_
          refine x_iast (pc' := 80) hC dX4_comeDown_79 hb.2.1 (by omega) (by omega) rfl ?_
          refine x_aload_n (pc' := 81) hC dX4_comeDown_80 rfl rfl ?_
          refine x_getR (pc' := 84) (b := pl) hC kf_X4_31 dX4_comeDown_81 hb.1 rfl rfl ?_
          refine x_iload (pc' := 86) hC dX4_comeDown_84 rfl rfl ?_
          refine x_iconst (pc' := 87) hC dX4_comeDown_86 rfl ?_
          refine x_isub (pc' := 88) hC dX4_comeDown_87 rfl ?_
          refine x_callV (pc' := 91) (n := 1) hC (c_hasKnob (T := T) hb.pl (hA.1.fr hb.lt h1.u1)) ky_X0_hasKnob kv_X0_hasKnob kl_X4_93 dX4_comeDown_88 hb.2.2.2.2.2.1.1 rfl rfl rfl rfl ⟨Nat.le_of_ble_eq_true rfl, Nat.le_of_ble_eq_true rfl⟩ (Nat.le_of_ble_eq_true rfl) ⟨Nat.le_refl _, Nat.le_refl _⟩ (Or.inl rfl) rfl (x_kd ?_)
          refine x_ifb_ne (tgt := 113) (pc' := 94) hC dX4_comeDown_91 (by decide) rfl (fun c91 => ?_) (fun c91 => ?_)
          · have hst : stp T m (r1 (18 + m) - 1) = true := by simp [stp, c91]
            refine x_iconst (pc' := 114) hC dX4_comeDown_113 rfl ?_
            refine x_goto (tgt := 118) hC dX4_comeDown_114 (by decide) ?_
            refine x_istore (pc' := 120) hC dX4_comeDown_118 (by decide) rfl rfl ?_
            refine x_iload (pc' := 122) hC dX4_comeDown_120 rfl rfl ?_
            refine x_if_eq (tgt := 129) (pc' := 125) hC dX4_comeDown_122 (by decide) rfl (by omega) (fun c122 => ?_) (fun c122 => ?_)
            · exact absurd c122 (by decide)
            · rw [if_pos hst] at h5
              refine x_iconst (pc' := 126) hC dX4_comeDown_125 rfl ?_
              refine x_goto (tgt := 143) hC dX4_comeDown_126 (by decide) ?_
              refine x_istore (pc' := 145) hC dX4_comeDown_143 (by decide) rfl rfl ?_
              refine x_iinc (pc' := 148) hC dX4_comeDown_145 rfl (by decide) rfl rfl ?_
              refine x_goto (tgt := 50) hC dX4_comeDown_148 (by decide) ?_
              refine x_vs (vs' := [some (vR g b), some (vI m), some (vI sp0), some (vI br), some (vI gt), some (vI _), some (vI (r1 (18 + m) + -1)), none]) (by intro i v; match i with | 0 => exact id | 1 => exact id | 2 => exact id | 3 => exact id | 4 => exact id | 5 => exact id | 6 => exact id | 7 => (intro h; cases h) | i + 8 => (intro h; cases h)) ?_
              have e9 : r1 (18 + m) + -1 = (up (up r1 (2 + r1 (18 + m)) (max 0 (r1 (2 + r1 (18 + m)) - 1))) (18 + m) (r1 (18 + m) - 1)) (18 + m) := by rw [up_at]; omega
              rw [e9]
              exact ih br gt _ _ _ f' hbr hgt h1.u1 (by rw [← e9]; exact h2.down (by omega) (by omega) (by omega) (by omega)) (WR_place hT (WR_wax h3 (by omega) (by omega) (by omega)) hm.1 (by omega)) (by rw [← e9]; omega) (by rw [← e9]; omega) h5 (by omega)
          · refine x_iload (pc' := 96) hC dX4_comeDown_94 rfl rfl ?_
            refine x_if_eq (tgt := 117) (pc' := 99) hC dX4_comeDown_96 (by decide) rfl (by omega) (fun c96 => ?_) (fun c96 => ?_)
            · have hst : stp T m (r1 (18 + m) - 1) = false := by have z : ¬ T (4 + m) = 2 := (fun z => by rw [if_pos z] at hgt; omega); simp [stp, c91, z]
              refine x_iconst (pc' := 118) hC dX4_comeDown_117 rfl ?_
              refine x_istore (pc' := 120) hC dX4_comeDown_118 (by decide) rfl rfl ?_
              refine x_iload (pc' := 122) hC dX4_comeDown_120 rfl rfl ?_
              refine x_if_eq (tgt := 129) (pc' := 125) hC dX4_comeDown_122 (by decide) rfl (by omega) (fun c122 => ?_) (fun c122 => ?_)
              · rw [if_neg (by simp [hst]), ← hbr] at h5
                refine x_iload (pc' := 131) hC dX4_comeDown_129 rfl rfl ?_
                refine x_aload_n (pc' := 132) hC dX4_comeDown_131 rfl rfl ?_
                refine x_getR (pc' := 135) (b := b + 1) hC kf_X4_9 dX4_comeDown_132 hb.1 rfl rfl ?_
                refine x_iload (pc' := 137) hC dX4_comeDown_135 rfl rfl ?_
                refine x_iconst (pc' := 138) hC dX4_comeDown_137 rfl ?_
                refine x_isub (pc' := 139) hC dX4_comeDown_138 rfl ?_
                refine x_iald (pc' := 140) hC dX4_comeDown_139 hb.2.1 (by omega) (by decide) rfl ?_
                rw [xU_nj (by omega), hw _ (by omega) (by omega)]
                refine x_iadd (pc' := 141) hC dX4_comeDown_140 rfl ?_
                refine x_iload_n (pc' := 142) hC dX4_comeDown_141 rfl rfl ?_
                refine x_isub (pc' := 143) hC dX4_comeDown_142 rfl ?_
                refine x_istore (pc' := 145) hC dX4_comeDown_143 (by decide) rfl rfl ?_
                refine x_iinc (pc' := 148) hC dX4_comeDown_145 rfl (by decide) rfl rfl ?_
                refine x_goto (tgt := 50) hC dX4_comeDown_148 (by decide) ?_
                refine x_vs (vs' := [some (vR g b), some (vI m), some (vI sp0), some (vI br), some (vI gt), some (vI _), some (vI (r1 (18 + m) + -1)), none]) (by intro i v; match i with | 0 => exact id | 1 => exact id | 2 => exact id | 3 => exact id | 4 => exact id | 5 => exact id | 6 => exact id | 7 => (intro h; cases h) | i + 8 => (intro h; cases h)) ?_
                have e9 : r1 (18 + m) + -1 = (up (up r1 (2 + r1 (18 + m)) (max 0 (r1 (2 + r1 (18 + m)) - 1))) (18 + m) (r1 (18 + m) - 1)) (18 + m) := by rw [up_at]; omega
                rw [e9]
                exact ih br gt _ _ _ f' hbr hgt h1.u1 (by rw [← e9]; exact h2.down (by omega) (by omega) (by omega) (by omega)) (WR_place hT (WR_wax h3 (by omega) (by omega) (by omega)) hm.1 (by omega)) (by rw [← e9]; omega) (by rw [← e9]; omega) h5 (by omega)
              · exact absurd c122 (by decide)
            · refine x_aload_n (pc' := 100) hC dX4_comeDown_99 rfl rfl ?_
              refine x_getR (pc' := 103) (b := pl) hC kf_X4_31 dX4_comeDown_100 hb.1 rfl rfl ?_
              refine x_iload (pc' := 105) hC dX4_comeDown_103 rfl rfl ?_
              refine x_iconst (pc' := 106) hC dX4_comeDown_105 rfl ?_
              refine x_isub (pc' := 107) hC dX4_comeDown_106 rfl ?_
              refine x_callV (pc' := 110) (n := 1) hC (c_hasTurn (T := T) hb.pl (hA.1.fr hb.lt h1.u1)) ky_X0_hasTurn kv_X0_hasTurn kl_X4_96 dX4_comeDown_107 hb.2.2.2.2.2.1.1 rfl rfl rfl rfl ⟨Nat.le_of_ble_eq_true rfl, Nat.le_of_ble_eq_true rfl⟩ (Nat.le_of_ble_eq_true rfl) ⟨Nat.le_refl _, Nat.le_refl _⟩ (Or.inl rfl) rfl (x_kd ?_)
              refine x_ifb_eq (tgt := 117) (pc' := 113) hC dX4_comeDown_110 (by decide) rfl (fun c110 => ?_) (fun c110 => ?_)
              · have hst : stp T m (r1 (18 + m) - 1) = false := by simp [stp, c91, c110]
                refine x_iconst (pc' := 118) hC dX4_comeDown_117 rfl ?_
                refine x_istore (pc' := 120) hC dX4_comeDown_118 (by decide) rfl rfl ?_
                refine x_iload (pc' := 122) hC dX4_comeDown_120 rfl rfl ?_
                refine x_if_eq (tgt := 129) (pc' := 125) hC dX4_comeDown_122 (by decide) rfl (by omega) (fun c122 => ?_) (fun c122 => ?_)
                · rw [if_neg (by simp [hst]), ← hbr] at h5
                  refine x_iload (pc' := 131) hC dX4_comeDown_129 rfl rfl ?_
                  refine x_aload_n (pc' := 132) hC dX4_comeDown_131 rfl rfl ?_
                  refine x_getR (pc' := 135) (b := b + 1) hC kf_X4_9 dX4_comeDown_132 hb.1 rfl rfl ?_
                  refine x_iload (pc' := 137) hC dX4_comeDown_135 rfl rfl ?_
                  refine x_iconst (pc' := 138) hC dX4_comeDown_137 rfl ?_
                  refine x_isub (pc' := 139) hC dX4_comeDown_138 rfl ?_
                  refine x_iald (pc' := 140) hC dX4_comeDown_139 hb.2.1 (by omega) (by decide) rfl ?_
                  rw [xU_nj (by omega), hw _ (by omega) (by omega)]
                  refine x_iadd (pc' := 141) hC dX4_comeDown_140 rfl ?_
                  refine x_iload_n (pc' := 142) hC dX4_comeDown_141 rfl rfl ?_
                  refine x_isub (pc' := 143) hC dX4_comeDown_142 rfl ?_
                  refine x_istore (pc' := 145) hC dX4_comeDown_143 (by decide) rfl rfl ?_
                  refine x_iinc (pc' := 148) hC dX4_comeDown_145 rfl (by decide) rfl rfl ?_
                  refine x_goto (tgt := 50) hC dX4_comeDown_148 (by decide) ?_
                  refine x_vs (vs' := [some (vR g b), some (vI m), some (vI sp0), some (vI br), some (vI gt), some (vI _), some (vI (r1 (18 + m) + -1)), none]) (by intro i v; match i with | 0 => exact id | 1 => exact id | 2 => exact id | 3 => exact id | 4 => exact id | 5 => exact id | 6 => exact id | 7 => (intro h; cases h) | i + 8 => (intro h; cases h)) ?_
                  have e9 : r1 (18 + m) + -1 = (up (up r1 (2 + r1 (18 + m)) (max 0 (r1 (2 + r1 (18 + m)) - 1))) (18 + m) (r1 (18 + m) - 1)) (18 + m) := by rw [up_at]; omega
                  rw [e9]
                  exact ih br gt _ _ _ f' hbr hgt h1.u1 (by rw [← e9]; exact h2.down (by omega) (by omega) (by omega) (by omega)) (WR_place hT (WR_wax h3 (by omega) (by omega) (by omega)) hm.1 (by omega)) (by rw [← e9]; omega) (by rw [← e9]; omega) h5 (by omega)
                · exact absurd c122 (by decide)
              · have hst : stp T m (r1 (18 + m) - 1) = true := by have z : T (4 + m) = 2 := Classical.byContradiction (fun z => by rw [if_neg z] at hgt; exact c96 hgt); simp [stp, c110, z]
                refine x_iconst (pc' := 114) hC dX4_comeDown_113 rfl ?_
                refine x_goto (tgt := 118) hC dX4_comeDown_114 (by decide) ?_
                refine x_istore (pc' := 120) hC dX4_comeDown_118 (by decide) rfl rfl ?_
                refine x_iload (pc' := 122) hC dX4_comeDown_120 rfl rfl ?_
                refine x_if_eq (tgt := 129) (pc' := 125) hC dX4_comeDown_122 (by decide) rfl (by omega) (fun c122 => ?_) (fun c122 => ?_)
                · exact absurd c122 (by decide)
                · rw [if_pos hst] at h5
                  refine x_iconst (pc' := 126) hC dX4_comeDown_125 rfl ?_
                  refine x_goto (tgt := 143) hC dX4_comeDown_126 (by decide) ?_
                  refine x_istore (pc' := 145) hC dX4_comeDown_143 (by decide) rfl rfl ?_
                  refine x_iinc (pc' := 148) hC dX4_comeDown_145 rfl (by decide) rfl rfl ?_
                  refine x_goto (tgt := 50) hC dX4_comeDown_148 (by decide) ?_
                  refine x_vs (vs' := [some (vR g b), some (vI m), some (vI sp0), some (vI br), some (vI gt), some (vI _), some (vI (r1 (18 + m) + -1)), none]) (by intro i v; match i with | 0 => exact id | 1 => exact id | 2 => exact id | 3 => exact id | 4 => exact id | 5 => exact id | 6 => exact id | 7 => (intro h; cases h) | i + 8 => (intro h; cases h)) ?_
                  have e9 : r1 (18 + m) + -1 = (up (up r1 (2 + r1 (18 + m)) (max 0 (r1 (2 + r1 (18 + m)) - 1))) (18 + m) (r1 (18 + m) - 1)) (18 + m) := by rw [up_at]; omega
                  rw [e9]
                  exact ih br gt _ _ _ f' hbr hgt h1.u1 (by rw [← e9]; exact h2.down (by omega) (by omega) (by omega) (by omega)) (WR_place hT (WR_wax h3 (by omega) (by omega) (by omega)) hm.1 (by omega)) (by rw [← e9]; omega) (by rw [← e9]; omega) h5 (by omega)
  refine x_aload_n (pc' := 1) hC dX4_comeDown_0 rfl rfl ?_
  refine x_getR (pc' := 4) (b := pl) hC kf_X4_31 dX4_comeDown_1 hb.1 rfl rfl ?_
  refine x_getR (pc' := 7) (b := pl + 1) hC kf_X4_83 dX4_comeDown_4 hb.2.2.2.2.2.1.1 rfl rfl ?_
  refine x_iload_n (pc' := 8) hC dX4_comeDown_7 rfl rfl ?_
  refine x_iald (pc' := 9) hC dX4_comeDown_8 hb.2.2.2.2.2.1.2 (by omega) (by decide) rfl ?_
  rw [hA.kd hm.1 hm.2]
  refine x_iconst (pc' := 10) hC dX4_comeDown_9 rfl ?_
  refine x_icmp_ne (tgt := 17) (pc' := 13) hC dX4_comeDown_10 (by decide) rfl (by omega) (by omega) (fun c10 => ?_) (fun c10 => ?_)
  · refine x_iconst (pc' := 18) hC dX4_comeDown_17 rfl ?_
    refine x_istore_n (pc' := 19) hC dX4_comeDown_18 (by decide) rfl rfl ?_
    refine x_aload_n (pc' := 20) hC dX4_comeDown_19 rfl rfl ?_
    refine x_getR (pc' := 23) (b := pl) hC kf_X4_31 dX4_comeDown_20 hb.1 rfl rfl ?_
    refine x_getR (pc' := 26) (b := pl + 1) hC kf_X4_83 dX4_comeDown_23 hb.2.2.2.2.2.1.1 rfl rfl ?_
    refine x_iload_n (pc' := 27) hC dX4_comeDown_26 rfl rfl ?_
    refine x_iald (pc' := 28) hC dX4_comeDown_27 hb.2.2.2.2.2.1.2 (by omega) (by decide) rfl ?_
    rw [hA.kd hm.1 hm.2]
    refine x_iconst (pc' := 29) hC dX4_comeDown_28 rfl ?_
    refine x_icmp_ne (tgt := 36) (pc' := 32) hC dX4_comeDown_29 (by decide) rfl (by omega) (by omega) (fun c29 => ?_) (fun c29 => ?_)
    · refine x_iconst (pc' := 37) hC dX4_comeDown_36 rfl ?_
      refine x_istore (pc' := 39) hC dX4_comeDown_37 (by decide) rfl rfl ?_
      refine x_iload_n (pc' := 40) hC dX4_comeDown_39 rfl rfl ?_
      refine x_istore (pc' := 42) hC dX4_comeDown_40 (by decide) rfl rfl ?_
      refine x_aload_n (pc' := 43) hC dX4_comeDown_42 rfl rfl ?_
      refine x_getR (pc' := 46) (b := b + 2) hC kf_X4_15 dX4_comeDown_43 hb.1 rfl rfl ?_
      refine x_iload_n (pc' := 47) hC dX4_comeDown_46 rfl rfl ?_
      refine x_iald (pc' := 48) hC dX4_comeDown_47 hb.2.2.1 (by omega) (by decide) rfl ?_
      rw [hA.pc (by omega) (by omega)]
      refine x_istore (pc' := 50) hC dX4_comeDown_48 (by decide) rfl rfl ?_
      exact loop 17 _ _ _ r μ 16 (by first | rw [if_pos (by omega)] | rw [if_neg (by omega)]) (by first | rw [if_pos (by omega)] | rw [if_neg (by omega)]) FrS.rf (by rw [← hA.pc (j := m) (by omega) (by omega)]; exact (xU_self (μ := μ)).symm ▸ hA.2.2) hR (by omega) (by omega) rfl (by omega)
    · refine x_iconst (pc' := 33) hC dX4_comeDown_32 rfl ?_
      refine x_goto (tgt := 37) hC dX4_comeDown_33 (by decide) ?_
      refine x_istore (pc' := 39) hC dX4_comeDown_37 (by decide) rfl rfl ?_
      refine x_iload_n (pc' := 40) hC dX4_comeDown_39 rfl rfl ?_
      refine x_istore (pc' := 42) hC dX4_comeDown_40 (by decide) rfl rfl ?_
      refine x_aload_n (pc' := 43) hC dX4_comeDown_42 rfl rfl ?_
      refine x_getR (pc' := 46) (b := b + 2) hC kf_X4_15 dX4_comeDown_43 hb.1 rfl rfl ?_
      refine x_iload_n (pc' := 47) hC dX4_comeDown_46 rfl rfl ?_
      refine x_iald (pc' := 48) hC dX4_comeDown_47 hb.2.2.1 (by omega) (by decide) rfl ?_
      rw [hA.pc (by omega) (by omega)]
      refine x_istore (pc' := 50) hC dX4_comeDown_48 (by decide) rfl rfl ?_
      exact loop 17 _ _ _ r μ 16 (by first | rw [if_pos (by omega)] | rw [if_neg (by omega)]) (by first | rw [if_pos (by omega)] | rw [if_neg (by omega)]) FrS.rf (by rw [← hA.pc (j := m) (by omega) (by omega)]; exact (xU_self (μ := μ)).symm ▸ hA.2.2) hR (by omega) (by omega) rfl (by omega)
  · refine x_iconst (pc' := 14) hC dX4_comeDown_13 rfl ?_
    refine x_goto (tgt := 18) hC dX4_comeDown_14 (by decide) ?_
    refine x_istore_n (pc' := 19) hC dX4_comeDown_18 (by decide) rfl rfl ?_
    refine x_aload_n (pc' := 20) hC dX4_comeDown_19 rfl rfl ?_
    refine x_getR (pc' := 23) (b := pl) hC kf_X4_31 dX4_comeDown_20 hb.1 rfl rfl ?_
    refine x_getR (pc' := 26) (b := pl + 1) hC kf_X4_83 dX4_comeDown_23 hb.2.2.2.2.2.1.1 rfl rfl ?_
    refine x_iload_n (pc' := 27) hC dX4_comeDown_26 rfl rfl ?_
    refine x_iald (pc' := 28) hC dX4_comeDown_27 hb.2.2.2.2.2.1.2 (by omega) (by decide) rfl ?_
    rw [hA.kd hm.1 hm.2]
    refine x_iconst (pc' := 29) hC dX4_comeDown_28 rfl ?_
    refine x_icmp_ne (tgt := 36) (pc' := 32) hC dX4_comeDown_29 (by decide) rfl (by omega) (by omega) (fun c29 => ?_) (fun c29 => ?_)
    · refine x_iconst (pc' := 37) hC dX4_comeDown_36 rfl ?_
      refine x_istore (pc' := 39) hC dX4_comeDown_37 (by decide) rfl rfl ?_
      refine x_iload_n (pc' := 40) hC dX4_comeDown_39 rfl rfl ?_
      refine x_istore (pc' := 42) hC dX4_comeDown_40 (by decide) rfl rfl ?_
      refine x_aload_n (pc' := 43) hC dX4_comeDown_42 rfl rfl ?_
      refine x_getR (pc' := 46) (b := b + 2) hC kf_X4_15 dX4_comeDown_43 hb.1 rfl rfl ?_
      refine x_iload_n (pc' := 47) hC dX4_comeDown_46 rfl rfl ?_
      refine x_iald (pc' := 48) hC dX4_comeDown_47 hb.2.2.1 (by omega) (by decide) rfl ?_
      rw [hA.pc (by omega) (by omega)]
      refine x_istore (pc' := 50) hC dX4_comeDown_48 (by decide) rfl rfl ?_
      exact loop 17 _ _ _ r μ 16 (by first | rw [if_pos (by omega)] | rw [if_neg (by omega)]) (by first | rw [if_pos (by omega)] | rw [if_neg (by omega)]) FrS.rf (by rw [← hA.pc (j := m) (by omega) (by omega)]; exact (xU_self (μ := μ)).symm ▸ hA.2.2) hR (by omega) (by omega) rfl (by omega)
    · refine x_iconst (pc' := 33) hC dX4_comeDown_32 rfl ?_
      refine x_goto (tgt := 37) hC dX4_comeDown_33 (by decide) ?_
      refine x_istore (pc' := 39) hC dX4_comeDown_37 (by decide) rfl rfl ?_
      refine x_iload_n (pc' := 40) hC dX4_comeDown_39 rfl rfl ?_
      refine x_istore (pc' := 42) hC dX4_comeDown_40 (by decide) rfl rfl ?_
      refine x_aload_n (pc' := 43) hC dX4_comeDown_42 rfl rfl ?_
      refine x_getR (pc' := 46) (b := b + 2) hC kf_X4_15 dX4_comeDown_43 hb.1 rfl rfl ?_
      refine x_iload_n (pc' := 47) hC dX4_comeDown_46 rfl rfl ?_
      refine x_iald (pc' := 48) hC dX4_comeDown_47 hb.2.2.1 (by omega) (by decide) rfl ?_
      rw [hA.pc (by omega) (by omega)]
      refine x_istore (pc' := 50) hC dX4_comeDown_48 (by decide) rfl rfl ?_
      exact loop 17 _ _ _ r μ 16 (by first | rw [if_pos (by omega)] | rw [if_neg (by omega)]) (by first | rw [if_pos (by omega)] | rw [if_neg (by omega)]) FrS.rf (by rw [← hA.pc (j := m) (by omega) (by omega)]; exact (xU_self (μ := μ)).symm ▸ hA.2.2) hR (by omega) (by omega) rfl (by omega)
end
section
/-- what is left of v more WAX at STEP x -/
def waxBy (r : Int → Int) (x v : Int) : Int → Int := up r (2 + x) (max 0 (min 9 (r (2 + x) + v)))
def cnt (r : Int → Int) (x : Int) : Nat → Int
  | 0 => 0
  | k + 1 => cnt r x k + (if r (18 + (k : Int)) = x then 1 else 0)
def sumW (r : Int → Int) : Nat → Int
  | 0 => 0
  | k + 1 => sumW r k + r (2 + (k : Int))
def wgt (r : Int → Int) (set : Int) : Nat → Int
  | 0 => 0
  | k + 1 => wgt r set k + (if hsb set k = true then r (18 + (k : Int)) + 1 else 0)
def weath (T r : Int → Int) (d : Int) : Int → Int :=
  let r1 := if d / 16 % 2 = 0 then waxBy r (d % T 0) 1 else r
  if d / 512 % 3 = 0 then waxBy r1 (d / 32 % T 0) (-2) else r1
theorem goYear_eq (T r : Int → Int) : goYear T r = up (up (up (goN T r (T 3).toNat) (25 + gov T (goN T r (T 3).toNat)) (goN T r (T 3).toNat (25 + gov T (goN T r (T 3).toNat)) + 1)) 1 (min 99 (reignUp T (goN T r (T 3).toNat) 1 + 3))) 0 (fundsUp (reignUp T (goN T r (T 3).toNat)) 0 + 1) := rfl
theorem WR_waxBy {T r : Int → Int} {x v : Int} (h : WR T r) (h0 : 0 ≤ x) (h1 : x < 16) : WR T (waxBy r x v) := WR_wax h h0 h1 (by omega)
/-- outside a Standing's five cells -/
def FrB (b : Nat) (μ μ' : xM) : Prop := ∀ (k : Nat) (j : Int), k < b ∨ b + 5 ≤ k → μ' k j = μ k j
theorem FrS.B {b : Nat} {μ μ' : xM} (h : FrS b μ μ') : FrB b μ μ' := fun k j hk => h k j (by omega) (by omega) (by omega) (by omega)
theorem FrB.rf {b : Nat} {μ : xM} : FrB b μ μ := fun _ _ _ => rfl
theorem FrB.tr {b : Nat} {μ μ' μ'' : xM} (h : FrB b μ μ') (h2 : FrB b μ' μ'') : FrB b μ μ'' := fun k j hk => (h2 k j hk).trans (h k j hk)
theorem FrB.u {b : Nat} {μ μ' : xM} {k : Nat} {j a : Int} (h : FrB b μ μ') (hk : b ≤ k ∧ k < b + 5) : FrB b μ (xU μ' k j a) := fun k' j' hk' => (xU_nk (by omega)).trans (h k' j' hk')
theorem FrB.cp {b : Nat} {μ μ' : xM} {k k0 : Nat} {n : Int} (h : FrB b μ μ') (hk : b ≤ k ∧ k < b + 5) : FrB b μ (xCp μ' k0 k n) := fun k' j' hk' => (xCp_ne (by omega)).trans (h k' j' hk')
theorem St.frB {b b2 : Nat} {μ μ' : xM} {r : Int → Int} (h : St μ b2 r) (hf : FrB b μ μ') (hd : b + 5 ≤ b2 ∨ b2 + 5 ≤ b) : St μ' b2 r := by
  obtain ⟨a1, a2, a3, a4, a5⟩ := h
  refine ⟨?_, ?_, fun j b1 b2 => ?_, fun j b1 b2 => ?_, fun j b1 b2 => ?_⟩
  · rw [hf _ _ (by omega), a1]
  · rw [hf _ _ (by omega), a2]
  · rw [hf _ _ (by omega), a3 j b1 b2]
  · rw [hf _ _ (by omega), a4 j b1 b2]
  · rw [hf _ _ (by omega), a5 j b1 b2]
theorem Gr.frB {b b2 : Nat} {μ μ' : xM} {T : Int → Int} (h : Gr μ b2 T) (hf : FrB b μ μ') (hd : b + 5 ≤ b2 ∨ b2 + 5 ≤ b) : Gr μ' b2 T := fun m a1 a2 => by
  rw [hf _ _ (by omega), h m a1 a2]
theorem Pl.frB {b pl : Nat} {μ μ' : xM} {T : Int → Int} (h : Pl μ pl T) (hf : FrB b μ μ') (hd : b + 5 ≤ pl ∨ pl + 1 < b) : Pl μ' pl T := by
  obtain ⟨h1, h2, h3, h4, h5⟩ := h
  refine ⟨?_, ?_, ?_, ?_, fun m a1 a2 => ?_⟩
  · rw [hf _ _ (by omega), h1]
  · rw [hf _ _ (by omega), h2]
  · rw [hf _ _ (by omega), h3]
  · rw [hf _ _ (by omega), h4]
  · rw [hf _ _ (by omega), h5 m a1 a2]
/-- n numbers v laid into cell k -/
def xFl (μ : xM) (k : Nat) (n v : Int) : xM := fun k' j => if k' = k ∧ 0 ≤ j ∧ j < n then v else μ k' j
theorem xFl_at {μ : xM} {k : Nat} {n v j : Int} (h0 : 0 ≤ j) (h : j < n) : xFl μ k n v k j = v := by
  unfold xFl
  rw [if_pos ⟨rfl, h0, h⟩]
theorem xFl_ne {μ : xM} {k k' : Nat} {n v j : Int} (h : k' ≠ k) : xFl μ k n v k' j = μ k' j := by
  unfold xFl
  rw [if_neg (fun z => h z.1)]
theorem xFl_0 {μ : xM} {k : Nat} {v : Int} : xFl μ k 0 v = μ := by
  funext k' j
  unfold xFl
  rw [if_neg (by omega)]
theorem xFl_s {μ : xM} {k : Nat} {i v : Int} (hi : 0 ≤ i) : xU (xFl μ k i v) k i v = xFl μ k (i + 1) v := by
  funext k' j
  unfold xU xFl
  by_cases hk : k' = k
  · by_cases hj : j = i
    · rw [if_pos ⟨hk, hj⟩, if_pos (by omega)]
    · rw [if_neg (by omega)]
      by_cases h2 : 0 ≤ j ∧ j < i
      · rw [if_pos ⟨hk, h2⟩, if_pos (by omega)]
      · rw [if_neg (by omega), if_neg (by omega)]
  · rw [if_neg (by omega), if_neg (by omega), if_neg (by omega)]
theorem x_kv {g : xG} {nL : Nat} {p : Program} {l : Launch} {e : Env} {R : Room} {s : State} {m : MethodId} {args : Array Value} {below : List Frame} {meth : Method} {c : Code} {cells slots : Nat} {Q : State → Prop} {S : List xS} {P : xM → Prop} {pc : Nat} {vs : List (Option Value)} {rest : List Value} {v : Int} (h : ∀ μ' : xM, P μ' → xX g nL p l e R s m args below meth c cells slots Q S μ' pc vs (vI v :: rest)) : ∀ (r : Option Value) (μ' : xM), xI (fun a μ' => a = v ∧ P μ') r μ' → xX g nL p l e R s m args below meth c cells slots Q S μ' pc vs (r.toList ++ rest) := by
  rintro r μ' ⟨a, rfl, h1, h2⟩
  rw [h1]
  exact h μ' h2
end
section
set_option maxRecDepth 100000 in
set_option maxHeartbeats 4000000 in
theorem c_takeTurn {g : xG} {l : Launch} {S : List xS} {μ : xM} {b pl : Nat} {T r : Int → Int} {m : Int} (hb : xStd S b pl) (hA : SA μ b pl T r) (hT : WT T) (hR : WR T r) (hm : 0 ≤ m ∧ m < T 3) : xCt g l yX4_takeTurn cX4_takeTurn 3 none 2 48 0 0 [vR g b, vI m] S μ S (xN (fun μ' => FrS b μ μ' ∧ St μ' b (goOne T r m))) := by
  refine x_enter (by decide) (Nat.le_of_ble_eq_true rfl) ?_
  intro zp ze zs zm za zb zh zc hC hz0
  have t0 := hT.1
  have t1 := hT.2.1
  have t2 := hT.2.2.1
  have t3 := hT.2.2.2.1
  have q := hR.2.1 m hm.1 hm.2
  have q2 := hT.2.2.2.2 m hm.1 hm.2
  have q3 := lack_rg hT hR hm
  refine x_aload_n (pc' := 1) hC dX4_takeTurn_0 rfl rfl ?_
  refine x_iload_n (pc' := 2) hC dX4_takeTurn_1 rfl rfl ?_
  refine x_callV (pc' := 5) (n := 1) hC (c_speedOf hb hA hT hR hm) ky_X4_speedOf kv_X4_speedOf kl_X4_79 dX4_takeTurn_2 hb.1 rfl rfl rfl rfl ⟨Nat.le_of_ble_eq_true rfl, Nat.le_of_ble_eq_true rfl⟩ (Nat.le_of_ble_eq_true rfl) ⟨Nat.le_refl _, Nat.le_refl _⟩ (Or.inl rfl) rfl (x_kd ?_)
  refine x_istore_n (pc' := 6) hC dX4_takeTurn_5 (by decide) rfl rfl ?_
  refine x_iload_n (pc' := 7) hC dX4_takeTurn_6 rfl rfl ?_
  refine x_if_le (tgt := 19) (pc' := 10) hC dX4_takeTurn_7 (by decide) rfl (by omega) (fun c7 => ?_) (fun c7 => ?_)
  · refine x_aload_n (pc' := 20) hC dX4_takeTurn_19 rfl rfl ?_
    refine x_getR (pc' := 23) (b := pl) hC kf_X4_31 dX4_takeTurn_20 hb.1 rfl rfl ?_
    refine x_aload_n (pc' := 24) hC dX4_takeTurn_23 rfl rfl ?_
    refine x_getR (pc' := 27) (b := b + 2) hC kf_X4_15 dX4_takeTurn_24 hb.1 rfl rfl ?_
    refine x_iload_n (pc' := 28) hC dX4_takeTurn_27 rfl rfl ?_
    refine x_iald (pc' := 29) hC dX4_takeTurn_28 hb.2.2.1 (by omega) (by decide) rfl ?_
    rw [hA.pc (by omega) (by omega)]
    refine x_callV (pc' := 32) (n := 1) hC (c_isTop (T := T) hb.pl hA.1 hT (by omega)) ky_X0_isTop kv_X0_isTop kl_X4_86 dX4_takeTurn_29 hb.2.2.2.2.2.1.1 rfl rfl rfl rfl ⟨Nat.le_of_ble_eq_true rfl, Nat.le_of_ble_eq_true rfl⟩ (Nat.le_of_ble_eq_true rfl) ⟨Nat.le_refl _, Nat.le_refl _⟩ (Or.inl rfl) rfl (x_kd ?_)
    refine x_ifb_ne (tgt := 45) (pc' := 35) hC dX4_takeTurn_32 (by decide) rfl (fun c32 => ?_) (fun c32 => ?_)
    · exact x_vret hC dX4_takeTurn_45 (xN.mk (by unfold goOne; first | (rw [if_pos (by omega)]; exact h13) | (rw [if_neg (by omega), if_neg (by omega)]; exact ⟨FrS.rf, hA.2.2⟩) | (rw [if_neg (by omega), if_pos (by omega)]; exact ⟨FrS.rf.u2, hA.2.2.place (by omega) (by omega)⟩)))
    · refine x_aload_n (pc' := 36) hC dX4_takeTurn_35 rfl rfl ?_
      refine x_getR (pc' := 39) (b := b + 2) hC kf_X4_15 dX4_takeTurn_36 hb.1 rfl rfl ?_
      refine x_iload_n (pc' := 40) hC dX4_takeTurn_39 rfl rfl ?_
      refine x_dup2 (pc' := 41) hC dX4_takeTurn_40 rfl rfl rfl ?_
      refine x_iald (pc' := 42) hC dX4_takeTurn_41 hb.2.2.1 (by omega) (by decide) rfl ?_
      rw [hA.pc (by omega) (by omega)]
      refine x_iconst (pc' := 43) hC dX4_takeTurn_42 rfl ?_
      refine x_iadd (pc' := 44) hC dX4_takeTurn_43 rfl ?_
      refine x_iast (pc' := 45) hC dX4_takeTurn_44 hb.2.2.1 (by omega) (by omega) rfl ?_
      exact x_vret hC dX4_takeTurn_45 (xN.mk (by unfold goOne; first | (rw [if_pos (by omega)]; exact h13) | (rw [if_neg (by omega), if_neg (by omega)]; exact ⟨FrS.rf, hA.2.2⟩) | (rw [if_neg (by omega), if_pos (by omega)]; exact ⟨FrS.rf.u2, hA.2.2.place (by omega) (by omega)⟩)))
  · refine x_aload_n (pc' := 11) hC dX4_takeTurn_10 rfl rfl ?_
    refine x_iload_n (pc' := 12) hC dX4_takeTurn_11 rfl rfl ?_
    refine x_iload_n (pc' := 13) hC dX4_takeTurn_12 rfl rfl ?_
    refine x_callV (pc' := 16) (n := 2) hC (c_comeDown hb hA hT hR hm (by omega)) ky_X4_comeDown kv_X4_comeDown kl_X4_89 dX4_takeTurn_13 hb.1 rfl rfl rfl rfl ⟨Nat.le_of_ble_eq_true rfl, Nat.le_of_ble_eq_true rfl⟩ (Nat.le_of_ble_eq_true rfl) ⟨Nat.le_refl _, Nat.le_refl _⟩ (Or.inl rfl) rfl (x_kn (fun μ13 h13 => ?_))
    refine x_goto (tgt := 45) hC dX4_takeTurn_16 (by decide) ?_
    exact x_vret hC dX4_takeTurn_45 (xN.mk (by unfold goOne; first | (rw [if_pos (by omega)]; exact h13) | (rw [if_neg (by omega), if_neg (by omega)]; exact ⟨FrS.rf, hA.2.2⟩) | (rw [if_neg (by omega), if_pos (by omega)]; exact ⟨FrS.rf.u2, hA.2.2.place (by omega) (by omega)⟩)))
set_option maxRecDepth 100000 in
set_option maxHeartbeats 4000000 in
theorem c_governor {g : xG} {l : Launch} {S : List xS} {μ : xM} {b pl : Nat} {T r : Int → Int} (hb : xStd S b pl) (hA : SA μ b pl T r) (hT : WT T) (hR : WR T r) : xCt g l yX4_governor cX4_governor 3 (some .int) 0 0 0 0 [vR g b] S μ S (xI (fun a μ' => a = gov T r ∧ μ' = μ)) := by
  refine x_enter (by decide) (Nat.le_of_ble_eq_true rfl) ?_
  intro zp ze zs zm za zb zh zc hC hz0
  have t0 := hT.1
  have t1 := hT.2.1
  have t2 := hT.2.2.1
  have t3 := hT.2.2.2.1
  have loop : ∀ (zn : Nat) (k : Nat) (hi mm : Int) (hhi : hi = govN r k) (hmm : mm = (k : Int) + 1) (hk : (k : Int) + 1 ≤ T 3), (T 3).toNat - k < zn → xX g 3 zp l ze { frames := 0, cells := 0, slots := 0, locals := 0 } zs zm za zb zh zc 0 0 (MQ zb (xQ g S (xI (fun a μ' => a = gov T r ∧ μ' = μ))) za zs 0 0 (xA0 g)) S μ 4 [some (vR g b), some (vI hi), some (vI mm)] [] := by
    intro zn
    induction zn with
    | zero => intros; rename_i hz; exact absurd hz (Nat.not_lt_zero _)
    | succ zn ih =>
      intro k hi mm hhi hmm hk hn
      have g1 := govN_in (r := r) k
      refine x_iload_n (pc' := 5) hC dX4_governor_4 rfl rfl ?_
      refine x_aload_n (pc' := 6) hC dX4_governor_5 rfl rfl ?_
      refine x_getR (pc' := 9) (b := pl) hC kf_X4_31 dX4_governor_6 hb.1 rfl rfl ?_
      refine x_getI (j' := 1) (pc' := 12) hC kf_X4_47 dX4_governor_9 hb.2.2.2.2.2.1.1 rfl rfl rfl ?_
      rw [hA.mi]
      refine x_icmp_ge (tgt := 38) (pc' := 15) hC dX4_governor_12 (by decide) rfl (by omega) (by omega) (fun c12 => ?_) (fun c12 => ?_)
      · refine x_iload_n (pc' := 39) hC dX4_governor_38 rfl rfl ?_
        exact x_iret hC dX4_governor_39 (xI.mk ⟨by rw [hhi]; unfold gov; congr 1; omega, rfl⟩)
      · have g2 := hR.2.1 mm (by omega) (by omega)
        have g3 := hR.2.1 hi (by omega) (by omega)
        refine x_aload_n (pc' := 16) hC dX4_governor_15 rfl rfl ?_
        refine x_getR (pc' := 19) (b := b + 2) hC kf_X4_15 dX4_governor_16 hb.1 rfl rfl ?_
        refine x_iload_n (pc' := 20) hC dX4_governor_19 rfl rfl ?_
        refine x_iald (pc' := 21) hC dX4_governor_20 hb.2.2.1 (by omega) (by decide) rfl ?_
        rw [hA.pc (by omega) (by omega)]
        refine x_aload_n (pc' := 22) hC dX4_governor_21 rfl rfl ?_
        refine x_getR (pc' := 25) (b := b + 2) hC kf_X4_15 dX4_governor_22 hb.1 rfl rfl ?_
        refine x_iload_n (pc' := 26) hC dX4_governor_25 rfl rfl ?_
        refine x_iald (pc' := 27) hC dX4_governor_26 hb.2.2.1 (by omega) (by decide) rfl ?_
        rw [hA.pc (by omega) (by omega)]
        refine x_icmp_le (tgt := 32) (pc' := 30) hC dX4_governor_27 (by decide) rfl (by omega) (by omega) (fun c27 => ?_) (fun c27 => ?_)
        · refine x_iinc (pc' := 35) hC dX4_governor_32 rfl (by decide) rfl rfl ?_
          refine x_goto (tgt := 4) hC dX4_governor_35 (by decide) ?_
          exact ih (k + 1) _ _ (by rw [govN]; subst hhi; subst hmm; first | rw [if_pos (by omega)] | rw [if_neg (by omega)]) (by omega) (by omega) (by omega)
        · refine x_iload_n (pc' := 31) hC dX4_governor_30 rfl rfl ?_
          refine x_istore_n (pc' := 32) hC dX4_governor_31 (by decide) rfl rfl ?_
          refine x_iinc (pc' := 35) hC dX4_governor_32 rfl (by decide) rfl rfl ?_
          refine x_goto (tgt := 4) hC dX4_governor_35 (by decide) ?_
          exact ih (k + 1) _ _ (by rw [govN]; subst hhi; subst hmm; first | rw [if_pos (by omega)] | rw [if_neg (by omega)]) (by omega) (by omega) (by omega)
  refine x_iconst (pc' := 1) hC dX4_governor_0 rfl ?_
  refine x_istore_n (pc' := 2) hC dX4_governor_1 (by decide) rfl rfl ?_
  refine x_iconst (pc' := 3) hC dX4_governor_2 rfl ?_
  refine x_istore_n (pc' := 4) hC dX4_governor_3 (by decide) rfl rfl ?_
  exact loop ((T 3).toNat + 1) 0 _ _ rfl rfl (by omega) (by omega)
set_option maxRecDepth 100000 in
set_option maxHeartbeats 4000000 in
theorem c_oneYear {g : xG} {l : Launch} {S : List xS} {μ : xM} {b pl : Nat} {T r : Int → Int} (hb : xStd S b pl) (hA : SA μ b pl T r) (hT : WT T) (hR : WR T r) : xCt g l yX4_oneYear cX4_oneYear 2 none 3 70 0 0 [vR g b] S μ S (xN (fun μ' => FrS b μ μ' ∧ St μ' b (goYear T r))) := by
  refine x_enter (by decide) (Nat.le_of_ble_eq_true rfl) ?_
  intro zp ze zs zm za zb zh zc hC hz0
  have t0 := hT.1
  have t1 := hT.2.1
  have t2 := hT.2.2.1
  have t3 := hT.2.2.2.1
  have loop : ∀ (zn : Nat) (k : Nat) (i : Int) (μ1 : xM) (hi : i = k) (hk : (k : Int) ≤ T 3) (h1 : FrS b μ μ1) (h2 : St μ1 b (goN T r k)), (T 3).toNat - k < zn → xX g 2 zp l ze { frames := 3, cells := 0, slots := 0, locals := 70 } zs zm za zb zh zc 0 0 (MQ zb (xQ g S (xN (fun μ' => FrS b μ μ' ∧ St μ' b (goYear T r)))) za zs 0 0 (xA0 g)) S μ1 2 [some (vR g b), some (vI i)] [] := by
    intro zn
    induction zn with
    | zero => intros; rename_i hz; exact absurd hz (Nat.not_lt_zero _)
    | succ zn ih =>
      intro k i μ1 hi hk h1 h2 hn
      subst hi
      have hA1 := hA.step hb.lt h1 h2
      have hR1 := WR_goN hT hR k hk
      have g1 := gov_in (r := goN T r k) hT
      refine x_iload_n (pc' := 3) hC dX4_oneYear_2 rfl rfl ?_
      refine x_aload_n (pc' := 4) hC dX4_oneYear_3 rfl rfl ?_
      refine x_getR (pc' := 7) (b := pl) hC kf_X4_31 dX4_oneYear_4 hb.1 rfl rfl ?_
      refine x_getI (j' := 1) (pc' := 10) hC kf_X4_47 dX4_oneYear_7 hb.2.2.2.2.2.1.1 rfl rfl rfl ?_
      rw [hA1.mi]
      refine x_icmp_ge (tgt := 24) (pc' := 13) hC dX4_oneYear_10 (by decide) rfl (by omega) (by omega) (fun c10 => ?_) (fun c10 => ?_)
      · have ek : (T 3).toNat = k := by omega
        have g2 := hR1.2.2
        refine x_aload_n (pc' := 25) hC dX4_oneYear_24 rfl rfl ?_
        refine x_getR (pc' := 28) (b := b + 4) hC kf_X4_21 dX4_oneYear_25 hb.1 rfl rfl ?_
        refine x_aload_n (pc' := 29) hC dX4_oneYear_28 rfl rfl ?_
        refine x_callV (pc' := 32) (n := 0) hC (c_governor hb hA1 hT hR1) ky_X4_governor kv_X4_governor kl_X4_75 dX4_oneYear_29 hb.1 rfl rfl rfl rfl ⟨Nat.le_of_ble_eq_true rfl, Nat.le_of_ble_eq_true rfl⟩ (Nat.le_of_ble_eq_true rfl) ⟨Nat.le_refl _, Nat.le_refl _⟩ (Or.inl rfl) rfl (x_kd ?_)
        refine x_dup2 (pc' := 33) hC dX4_oneYear_32 rfl rfl rfl ?_
        refine x_iald (pc' := 34) hC dX4_oneYear_33 hb.2.2.2.2.1 (by omega) (by decide) rfl ?_
        rw [hA1.rg (by omega) (by omega)]
        refine x_iconst (pc' := 35) hC dX4_oneYear_34 rfl ?_
        refine x_iadd (pc' := 36) hC dX4_oneYear_35 rfl ?_
        refine x_iast (pc' := 37) hC dX4_oneYear_36 hb.2.2.2.2.1 (by omega) (by omega) rfl ?_
        refine x_aload_n (pc' := 38) hC dX4_oneYear_37 rfl rfl ?_
        refine x_bipush (pc' := 40) hC dX4_oneYear_38 (by decide) rfl ?_
        refine x_aload_n (pc' := 41) hC dX4_oneYear_40 rfl rfl ?_
        refine x_getI (j' := 5) (pc' := 44) hC kf_X4_24 dX4_oneYear_41 hb.1 rfl rfl rfl ?_
        rw [xU_nk (by omega), hA1.fu]
        refine x_iconst (pc' := 45) hC dX4_oneYear_44 rfl ?_
        refine x_iadd (pc' := 46) hC dX4_oneYear_45 rfl ?_
        refine x_mmin (pc' := 49) hC kl_X4_59 dX4_oneYear_46 (by omega) (by omega) ⟨Nat.le_of_ble_eq_true rfl, Nat.le_of_ble_eq_true rfl⟩ (Nat.le_of_ble_eq_true rfl) ⟨Nat.le_refl _, Nat.le_refl _⟩ rfl ?_
        refine x_putI (j' := 5) (pc' := 52) hC kf_X4_24 dX4_oneYear_49 hb.1 rfl rfl rfl rfl rfl ?_
        refine x_aload_n (pc' := 53) hC dX4_oneYear_52 rfl rfl ?_
        refine x_dup (pc' := 54) hC dX4_oneYear_53 rfl rfl ?_
        refine x_getI (j' := 6) (pc' := 57) hC kf_X4_28 dX4_oneYear_54 hb.1 rfl rfl rfl ?_
        rw [xU_nj (by omega), xU_nk (by omega), hA1.yr]
        refine x_iconst (pc' := 58) hC dX4_oneYear_57 rfl ?_
        refine x_iadd (pc' := 59) hC dX4_oneYear_58 rfl ?_
        refine x_putI (j' := 6) (pc' := 62) hC kf_X4_28 dX4_oneYear_59 hb.1 rfl rfl rfl rfl rfl ?_
        exact x_vret hC dX4_oneYear_62 (xN.mk ⟨((h1.u4).u0).u0, by
      rw [goYear_eq, ek]
      have e1 : reignUp T (goN T r k) 1 = goN T r k 1 := up_ne (by omega)
      have e2 : fundsUp (reignUp T (goN T r k)) 0 = goN T r k 0 := (up_ne (by omega)).trans (up_ne (by omega))
      rw [e1, e2]
      exact ((h2.reign (by omega) (by omega)).funds).year⟩)
      · refine x_aload_n (pc' := 14) hC dX4_oneYear_13 rfl rfl ?_
        refine x_iload_n (pc' := 15) hC dX4_oneYear_14 rfl rfl ?_
        refine x_callV (pc' := 18) (n := 1) hC (c_takeTurn hb hA1 hT hR1 ⟨by omega, by omega⟩) ky_X4_takeTurn kv_X4_takeTurn kl_X4_71 dX4_oneYear_15 hb.1 rfl rfl rfl rfl ⟨Nat.le_of_ble_eq_true rfl, Nat.le_of_ble_eq_true rfl⟩ (Nat.le_of_ble_eq_true rfl) ⟨Nat.le_refl _, Nat.le_refl _⟩ (Or.inl rfl) rfl (x_kn (fun μ15 h15 => ?_))
        refine x_iinc (pc' := 21) hC dX4_oneYear_18 rfl (by decide) rfl rfl ?_
        refine x_goto (tgt := 2) hC dX4_oneYear_21 (by decide) ?_
        exact ih (k + 1) _ _ (by omega) (by omega) (h1.tr h15.1) (by rw [goN]; exact h15.2) (by omega)
  refine x_iconst (pc' := 1) hC dX4_oneYear_0 rfl ?_
  refine x_istore_n (pc' := 2) hC dX4_oneYear_1 (by decide) rfl rfl ?_
  exact loop ((T 3).toNat + 1) 0 _ μ rfl (by omega) FrS.rf hA.2.2 (by omega)
set_option maxRecDepth 100000 in
set_option maxHeartbeats 4000000 in
theorem c_goOn {g : xG} {l : Launch} {S : List xS} {μ : xM} {b pl : Nat} {T r : Int → Int} {N : Nat} {n : Int} (hb : xStd S b pl) (hA : SA μ b pl T r) (hT : WT T) (hR : WR T r) (hn : n = N) (hN : N ≤ 1000) : xCt g l yX4_goOn cX4_goOn 3 none 4 91 0 0 [vR g b, vI n] S μ S (xN (fun μ' => FrS b μ μ' ∧ St μ' b (goYears T N r))) := by
  refine x_enter (by decide) (Nat.le_of_ble_eq_true rfl) ?_
  intro zp ze zs zm za zb zh zc hC hz0
  have t0 := hT.1
  have t1 := hT.2.1
  have t2 := hT.2.2.1
  have t3 := hT.2.2.2.1
  have loop : ∀ (zn : Nat) (k : Nat) (i : Int) (μ1 : xM) (r1 : Int → Int) (hi : i = k) (hk : k ≤ N) (h1 : FrS b μ μ1) (h2 : St μ1 b r1) (h3 : WR T r1) (h4 : goYears T (N - k) r1 = goYears T N r), N - k < zn → xX g 3 zp l ze { frames := 4, cells := 0, slots := 0, locals := 91 } zs zm za zb zh zc 0 0 (MQ zb (xQ g S (xN (fun μ' => FrS b μ μ' ∧ St μ' b (goYears T N r)))) za zs 0 0 (xA0 g)) S μ1 2 [some (vR g b), some (vI n), some (vI i)] [] := by
    intro zn
    induction zn with
    | zero => intros; rename_i hz; exact absurd hz (Nat.not_lt_zero _)
    | succ zn ih =>
      intro k i μ1 r1 hi hk h1 h2 h3 h4 hn
      have hA1 := hA.step hb.lt h1 h2
      refine x_iload_n (pc' := 3) hC dX4_goOn_2 rfl rfl ?_
      refine x_iload_n (pc' := 4) hC dX4_goOn_3 rfl rfl ?_
      refine x_icmp_ge (tgt := 17) (pc' := 7) hC dX4_goOn_4 (by decide) rfl (by omega) (by omega) (fun c4 => ?_) (fun c4 => ?_)
      · exact x_vret hC dX4_goOn_17 (xN.mk ⟨h1, by rw [← h4, show N - k = 0 by omega]; exact h2⟩)
      · refine x_aload_n (pc' := 8) hC dX4_goOn_7 rfl rfl ?_
        refine x_callV (pc' := 11) (n := 0) hC (c_oneYear hb hA1 hT h3) ky_X4_oneYear kv_X4_oneYear kl_X4_68 dX4_goOn_8 hb.1 rfl rfl rfl rfl ⟨Nat.le_of_ble_eq_true rfl, Nat.le_of_ble_eq_true rfl⟩ (Nat.le_of_ble_eq_true rfl) ⟨Nat.le_refl _, Nat.le_refl _⟩ (Or.inl rfl) rfl (x_kn (fun μ8 h8 => ?_))
        refine x_iinc (pc' := 14) hC dX4_goOn_11 rfl (by decide) rfl rfl ?_
        refine x_goto (tgt := 2) hC dX4_goOn_14 (by decide) ?_
        exact ih (k + 1) _ _ (goYear T r1) (by omega) (by omega) (h1.tr h8.1) h8.2 (WR_goYear hT h3) (by rw [← h4, show N - k = (N - (k + 1)) + 1 by omega]; rfl) (by omega)
  refine x_iconst (pc' := 1) hC dX4_goOn_0 rfl ?_
  refine x_istore_n (pc' := 2) hC dX4_goOn_1 (by decide) rfl rfl ?_
  exact loop (N + 1) 0 _ μ r rfl (by omega) FrS.rf hA.2.2 hR rfl (by omega)
set_option maxRecDepth 100000 in
set_option maxHeartbeats 4000000 in
theorem c_copy {g : xG} {l : Launch} {S : List xS} {μ : xM} {b pl b2 pl2 : Nat} {r : Int → Int} (hb : xStd S b pl) (hb2 : xStd S b2 pl2) (hd : b + 5 ≤ b2 ∨ b2 + 5 ≤ b) (hr : St μ b2 r) : xCt g l yX4_copy cX4_copy 2 none 1 40 0 0 [vR g b, vR g b2] S μ S (xN (fun μ' => FrB b μ μ' ∧ St μ' b r ∧ ∀ j : Int, 0 ≤ j → j < 7 → μ' (b + 3) j = μ (b2 + 3) j)) := by
  refine x_enter (by decide) (Nat.le_of_ble_eq_true rfl) ?_
  intro zp ze zs zm za zb zh zc hC hz0
  refine x_aload_n (pc' := 1) hC dX4_copy_0 rfl rfl ?_
  refine x_getR (pc' := 4) (b := b2 + 1) hC kf_X4_9 dX4_copy_1 hb2.1 rfl rfl ?_
  refine x_iconst (pc' := 5) hC dX4_copy_4 rfl ?_
  refine x_aload_n (pc' := 6) hC dX4_copy_5 rfl rfl ?_
  refine x_getR (pc' := 9) (b := b + 1) hC kf_X4_9 dX4_copy_6 hb.1 rfl rfl ?_
  refine x_iconst (pc' := 10) hC dX4_copy_9 rfl ?_
  refine x_aload_n (pc' := 11) hC dX4_copy_10 rfl rfl ?_
  refine x_getR (pc' := 14) (b := b + 1) hC kf_X4_9 dX4_copy_11 hb.1 rfl rfl ?_
  refine x_alenI (n' := 16) (pc' := 15) hC dX4_copy_14 hb.2.1 rfl rfl ?_
  refine x_copyi (pc' := 18) (n := 16) (n' := 16) hC kl_X4_41 dX4_copy_15 hb2.2.1 hb.2.1 (by decide) (by decide) (by decide) rfl ⟨Nat.le_of_ble_eq_true rfl, Nat.le_of_ble_eq_true (by decide)⟩ rfl ?_
  refine x_aload_n (pc' := 19) hC dX4_copy_18 rfl rfl ?_
  refine x_getR (pc' := 22) (b := b2 + 2) hC kf_X4_15 dX4_copy_19 hb2.1 rfl rfl ?_
  refine x_iconst (pc' := 23) hC dX4_copy_22 rfl ?_
  refine x_aload_n (pc' := 24) hC dX4_copy_23 rfl rfl ?_
  refine x_getR (pc' := 27) (b := b + 2) hC kf_X4_15 dX4_copy_24 hb.1 rfl rfl ?_
  refine x_iconst (pc' := 28) hC dX4_copy_27 rfl ?_
  refine x_aload_n (pc' := 29) hC dX4_copy_28 rfl rfl ?_
  refine x_getR (pc' := 32) (b := b + 2) hC kf_X4_15 dX4_copy_29 hb.1 rfl rfl ?_
  refine x_alenI (n' := 7) (pc' := 33) hC dX4_copy_32 hb.2.2.1 rfl rfl ?_
  refine x_copyi (pc' := 36) (n := 7) (n' := 7) hC kl_X4_41 dX4_copy_33 hb2.2.2.1 hb.2.2.1 (by decide) (by decide) (by decide) rfl ⟨Nat.le_of_ble_eq_true rfl, Nat.le_of_ble_eq_true (by decide)⟩ rfl ?_
  refine x_aload_n (pc' := 37) hC dX4_copy_36 rfl rfl ?_
  refine x_getR (pc' := 40) (b := b2 + 3) hC kf_X4_18 dX4_copy_37 hb2.1 rfl rfl ?_
  refine x_iconst (pc' := 41) hC dX4_copy_40 rfl ?_
  refine x_aload_n (pc' := 42) hC dX4_copy_41 rfl rfl ?_
  refine x_getR (pc' := 45) (b := b + 3) hC kf_X4_18 dX4_copy_42 hb.1 rfl rfl ?_
  refine x_iconst (pc' := 46) hC dX4_copy_45 rfl ?_
  refine x_aload_n (pc' := 47) hC dX4_copy_46 rfl rfl ?_
  refine x_getR (pc' := 50) (b := b + 3) hC kf_X4_18 dX4_copy_47 hb.1 rfl rfl ?_
  refine x_alenI (n' := 7) (pc' := 51) hC dX4_copy_50 hb.2.2.2.1 rfl rfl ?_
  refine x_copyi (pc' := 54) (n := 7) (n' := 7) hC kl_X4_41 dX4_copy_51 hb2.2.2.2.1 hb.2.2.2.1 (by decide) (by decide) (by decide) rfl ⟨Nat.le_of_ble_eq_true rfl, Nat.le_of_ble_eq_true (by decide)⟩ rfl ?_
  refine x_aload_n (pc' := 55) hC dX4_copy_54 rfl rfl ?_
  refine x_getR (pc' := 58) (b := b2 + 4) hC kf_X4_21 dX4_copy_55 hb2.1 rfl rfl ?_
  refine x_iconst (pc' := 59) hC dX4_copy_58 rfl ?_
  refine x_aload_n (pc' := 60) hC dX4_copy_59 rfl rfl ?_
  refine x_getR (pc' := 63) (b := b + 4) hC kf_X4_21 dX4_copy_60 hb.1 rfl rfl ?_
  refine x_iconst (pc' := 64) hC dX4_copy_63 rfl ?_
  refine x_aload_n (pc' := 65) hC dX4_copy_64 rfl rfl ?_
  refine x_getR (pc' := 68) (b := b + 4) hC kf_X4_21 dX4_copy_65 hb.1 rfl rfl ?_
  refine x_alenI (n' := 7) (pc' := 69) hC dX4_copy_68 hb.2.2.2.2.1 rfl rfl ?_
  refine x_copyi (pc' := 72) (n := 7) (n' := 7) hC kl_X4_41 dX4_copy_69 hb2.2.2.2.2.1 hb.2.2.2.2.1 (by decide) (by decide) (by decide) rfl ⟨Nat.le_of_ble_eq_true rfl, Nat.le_of_ble_eq_true (by decide)⟩ rfl ?_
  refine x_aload_n (pc' := 73) hC dX4_copy_72 rfl rfl ?_
  refine x_aload_n (pc' := 74) hC dX4_copy_73 rfl rfl ?_
  refine x_getI (j' := 5) (pc' := 77) hC kf_X4_24 dX4_copy_74 hb2.1 rfl rfl rfl ?_
  refine x_putI (j' := 5) (pc' := 80) hC kf_X4_24 dX4_copy_77 hb.1 rfl rfl rfl rfl rfl ?_
  refine x_aload_n (pc' := 81) hC dX4_copy_80 rfl rfl ?_
  refine x_aload_n (pc' := 82) hC dX4_copy_81 rfl rfl ?_
  refine x_getI (j' := 6) (pc' := 85) hC kf_X4_28 dX4_copy_82 hb2.1 rfl rfl rfl ?_
  refine x_putI (j' := 6) (pc' := 88) hC kf_X4_28 dX4_copy_85 hb.1 rfl rfl rfl rfl rfl ?_
  exact x_vret hC dX4_copy_88 (xN.mk ⟨((((((FrB.rf.cp (by omega)).cp (by omega)).cp (by omega)).cp (by omega)).u (by omega)).u (by omega)), by
      obtain ⟨a1, a2, a3, a4, a5⟩ := hr
      refine ⟨⟨?_, ?_, fun j b1 b2 => ?_, fun j b1 b2 => ?_, fun j b1 b2 => ?_⟩, fun j b1 b2 => ?_⟩
      · rw [xU_at2, xU_nk (by omega), xCp_ne (by omega), xCp_ne (by omega), xCp_ne (by omega), xCp_ne (by omega), a1]
      · rw [xU_nj (by omega), xU_at2, xCp_ne (by omega), xCp_ne (by omega), xCp_ne (by omega), xCp_ne (by omega), a2]
      · rw [xU_nk (by omega), xU_nk (by omega), xCp_ne (by omega), xCp_ne (by omega), xCp_ne (by omega), xCp_at b1 b2, a3 j b1 b2]
      · rw [xU_nk (by omega), xU_nk (by omega), xCp_ne (by omega), xCp_ne (by omega), xCp_at b1 b2, xCp_ne (by omega), a4 j b1 b2]
      · rw [xU_nk (by omega), xU_nk (by omega), xCp_at b1 b2, xCp_ne (by omega), xCp_ne (by omega), xCp_ne (by omega), a5 j b1 b2]
      · rw [xU_nk (by omega), xU_nk (by omega), xCp_ne (by omega), xCp_at b1 b2, xCp_ne (by omega), xCp_ne (by omega)]⟩)
set_option maxRecDepth 100000 in
set_option maxHeartbeats 4000000 in
theorem c_addWax {g : xG} {l : Launch} {S : List xS} {μ : xM} {b pl : Nat} {T r : Int → Int} {x v : Int} (hb : xStd S b pl) (hA : SA μ b pl T r) (hT : WT T) (hR : WR T r) (hx : 0 ≤ x ∧ x < T 0) (hv : -20 ≤ v ∧ v ≤ 20) : xCt g l yX4_addWax cX4_addWax 3 none 1 21 0 0 [vR g b, vI x, vI v] S μ S (xN (fun μ' => FrS b μ μ' ∧ St μ' b (waxBy r x v))) := by
  refine x_enter (by decide) (Nat.le_of_ble_eq_true rfl) ?_
  intro zp ze zs zm za zb zh zc hC hz0
  have t0 := hT.1
  have t1 := hT.2.1
  have t2 := hT.2.2.1
  have t3 := hT.2.2.2.1
  have q3 := hR.1 x (by omega) (by omega)
  refine x_aload_n (pc' := 1) hC dX4_addWax_0 rfl rfl ?_
  refine x_getR (pc' := 4) (b := pl) hC kf_X4_31 dX4_addWax_1 hb.1 rfl rfl ?_
  refine x_iload_n (pc' := 5) hC dX4_addWax_4 rfl rfl ?_
  refine x_callV (pc' := 8) (n := 1) hC (c_hasStep (T := T) hb.pl hA.1 ⟨hT.1, hT.2.1⟩ (by omega)) ky_X0_hasStep kv_X0_hasStep kl_X4_55 dX4_addWax_5 hb.2.2.2.2.2.1.1 rfl rfl rfl rfl ⟨Nat.le_of_ble_eq_true rfl, Nat.le_of_ble_eq_true rfl⟩ (Nat.le_of_ble_eq_true rfl) ⟨Nat.le_refl _, Nat.le_refl _⟩ (Or.inl rfl) rfl (x_kd ?_)
  refine x_ifb_eq (tgt := 34) (pc' := 11) hC dX4_addWax_8 (by decide) rfl (fun c8 => ?_) (fun c8 => ?_)
  · exact absurd hx c8
  · refine x_aload_n (pc' := 12) hC dX4_addWax_11 rfl rfl ?_
    refine x_getR (pc' := 15) (b := b + 1) hC kf_X4_9 dX4_addWax_12 hb.1 rfl rfl ?_
    refine x_iload_n (pc' := 16) hC dX4_addWax_15 rfl rfl ?_
    refine x_iconst (pc' := 17) hC dX4_addWax_16 rfl ?_
    refine x_bipush (pc' := 19) hC dX4_addWax_17 (by decide) rfl ?_
    refine x_aload_n (pc' := 20) hC dX4_addWax_19 rfl rfl ?_
    refine x_getR (pc' := 23) (b := b + 1) hC kf_X4_9 dX4_addWax_20 hb.1 rfl rfl ?_
    refine x_iload_n (pc' := 24) hC dX4_addWax_23 rfl rfl ?_
    refine x_iald (pc' := 25) hC dX4_addWax_24 hb.2.1 (by omega) (by decide) rfl ?_
    rw [hA.wx (by omega) (by omega)]
    refine x_iload_n (pc' := 26) hC dX4_addWax_25 rfl rfl ?_
    refine x_iadd (pc' := 27) hC dX4_addWax_26 rfl ?_
    refine x_mmin (pc' := 30) hC kl_X4_59 dX4_addWax_27 (by omega) (by omega) ⟨Nat.le_of_ble_eq_true rfl, Nat.le_of_ble_eq_true rfl⟩ (Nat.le_of_ble_eq_true rfl) ⟨Nat.le_refl _, Nat.le_refl _⟩ rfl ?_
    refine x_mmax (pc' := 33) hC kl_X4_65 dX4_addWax_30 (by omega) (by omega) ⟨Nat.le_of_ble_eq_true rfl, Nat.le_of_ble_eq_true rfl⟩ (Nat.le_of_ble_eq_true rfl) ⟨Nat.le_refl _, Nat.le_refl _⟩ rfl ?_
    refine x_iast (pc' := 34) hC dX4_addWax_33 hb.2.1 (by omega) (by omega) rfl ?_
    exact x_vret hC dX4_addWax_34 (xN.mk ⟨FrS.rf.u1, hA.2.2.wax (by omega) (by omega)⟩)
set_option maxRecDepth 100000 in
set_option maxHeartbeats 4000000 in
theorem c_howManyOn {g : xG} {l : Launch} {S : List xS} {μ : xM} {b pl : Nat} {T r : Int → Int} {x : Int} (hb : xStd S b pl) (hA : SA μ b pl T r) (hT : WT T) (hR : WR T r) (hx : -2147483648 ≤ x ∧ x < 2147483648) : xCt g l yX4_howManyOn cX4_howManyOn 4 (some .int) 0 0 0 0 [vR g b, vI x] S μ S (xI (fun a μ' => a = cnt r x (T 3).toNat ∧ μ' = μ)) := by
  refine x_enter (by decide) (Nat.le_of_ble_eq_true rfl) ?_
  intro zp ze zs zm za zb zh zc hC hz0
  have t0 := hT.1
  have t1 := hT.2.1
  have t2 := hT.2.2.1
  have t3 := hT.2.2.2.1
  have loop : ∀ (zn : Nat) (k : Nat) (n9 i : Int) (hn9 : n9 = cnt r x k) (hi : i = k) (hk : (k : Int) ≤ T 3), (T 3).toNat - k < zn → xX g 4 zp l ze { frames := 0, cells := 0, slots := 0, locals := 0 } zs zm za zb zh zc 0 0 (MQ zb (xQ g S (xI (fun a μ' => a = cnt r x (T 3).toNat ∧ μ' = μ))) za zs 0 0 (xA0 g)) S μ 4 [some (vR g b), some (vI x), some (vI n9), some (vI i)] [] := by
    intro zn
    induction zn with
    | zero => intros; rename_i hz; exact absurd hz (Nat.not_lt_zero _)
    | succ zn ih =>
      intro k n9 i hn9 hi hk hn
      subst hi
      refine x_iload_n (pc' := 5) hC dX4_howManyOn_4 rfl rfl ?_
      refine x_aload_n (pc' := 6) hC dX4_howManyOn_5 rfl rfl ?_
      refine x_getR (pc' := 9) (b := pl) hC kf_X4_31 dX4_howManyOn_6 hb.1 rfl rfl ?_
      refine x_getI (j' := 1) (pc' := 12) hC kf_X4_47 dX4_howManyOn_9 hb.2.2.2.2.2.1.1 rfl rfl rfl ?_
      rw [hA.mi]
      refine x_icmp_ge (tgt := 34) (pc' := 15) hC dX4_howManyOn_12 (by decide) rfl (by omega) (by omega) (fun c12 => ?_) (fun c12 => ?_)
      · refine x_iload_n (pc' := 35) hC dX4_howManyOn_34 rfl rfl ?_
        exact x_iret hC dX4_howManyOn_35 (xI.mk ⟨by rw [hn9, show (T 3).toNat = k by omega], rfl⟩)
      · have g2 := hR.2.1 k (by omega) (by omega)
        refine x_aload_n (pc' := 16) hC dX4_howManyOn_15 rfl rfl ?_
        refine x_getR (pc' := 19) (b := b + 2) hC kf_X4_15 dX4_howManyOn_16 hb.1 rfl rfl ?_
        refine x_iload_n (pc' := 20) hC dX4_howManyOn_19 rfl rfl ?_
        refine x_iald (pc' := 21) hC dX4_howManyOn_20 hb.2.2.1 (by omega) (by decide) rfl ?_
        rw [hA.pc (by omega) (by omega)]
        refine x_iload_n (pc' := 22) hC dX4_howManyOn_21 rfl rfl ?_
        refine x_icmp_ne (tgt := 28) (pc' := 25) hC dX4_howManyOn_22 (by decide) rfl (by omega) (by omega) (fun c22 => ?_) (fun c22 => ?_)
        · refine x_iinc (pc' := 31) hC dX4_howManyOn_28 rfl (by decide) rfl rfl ?_
          refine x_goto (tgt := 4) hC dX4_howManyOn_31 (by decide) ?_
          exact ih (k + 1) _ _ (by rw [cnt]; first | rw [if_pos c22, hn9] | rw [if_neg c22, hn9, Int.add_zero]) (by omega) (by omega) (by omega)
        · refine x_iinc (pc' := 28) hC dX4_howManyOn_25 rfl (by decide) rfl rfl ?_
          refine x_iinc (pc' := 31) hC dX4_howManyOn_28 rfl (by decide) rfl rfl ?_
          refine x_goto (tgt := 4) hC dX4_howManyOn_31 (by decide) ?_
          exact ih (k + 1) _ _ (by rw [cnt]; first | rw [if_pos c22, hn9] | rw [if_neg c22, hn9, Int.add_zero]) (by omega) (by omega) (by omega)
  refine x_iconst (pc' := 1) hC dX4_howManyOn_0 rfl ?_
  refine x_istore_n (pc' := 2) hC dX4_howManyOn_1 (by decide) rfl rfl ?_
  refine x_iconst (pc' := 3) hC dX4_howManyOn_2 rfl ?_
  refine x_istore_n (pc' := 4) hC dX4_howManyOn_3 (by decide) rfl rfl ?_
  exact loop ((T 3).toNat + 1) 0 _ _ rfl rfl (by omega) (by omega)
set_option maxRecDepth 100000 in
set_option maxHeartbeats 4000000 in
theorem c_allWax {g : xG} {l : Launch} {S : List xS} {μ : xM} {b pl : Nat} {T r : Int → Int} (hb : xStd S b pl) (hA : SA μ b pl T r) (hT : WT T) (hR : WR T r) : xCt g l yX4_allWax cX4_allWax 3 (some .int) 0 0 0 0 [vR g b] S μ S (xI (fun a μ' => a = sumW r (T 0).toNat ∧ μ' = μ)) := by
  refine x_enter (by decide) (Nat.le_of_ble_eq_true rfl) ?_
  intro zp ze zs zm za zb zh zc hC hz0
  have t0 := hT.1
  have t1 := hT.2.1
  have t2 := hT.2.2.1
  have t3 := hT.2.2.2.1
  have loop : ∀ (zn : Nat) (k : Nat) (n9 i : Int) (hn9 : n9 = sumW r k) (hi : i = k) (hk : (k : Int) ≤ T 0), (T 0).toNat - k < zn → xX g 3 zp l ze { frames := 0, cells := 0, slots := 0, locals := 0 } zs zm za zb zh zc 0 0 (MQ zb (xQ g S (xI (fun a μ' => a = sumW r (T 0).toNat ∧ μ' = μ))) za zs 0 0 (xA0 g)) S μ 4 [some (vR g b), some (vI n9), some (vI i)] [] := by
    intro zn
    induction zn with
    | zero => intros; rename_i hz; exact absurd hz (Nat.not_lt_zero _)
    | succ zn ih =>
      intro k n9 i hn9 hi hk hn
      subst hi
      refine x_iload_n (pc' := 5) hC dX4_allWax_4 rfl rfl ?_
      refine x_aload_n (pc' := 6) hC dX4_allWax_5 rfl rfl ?_
      refine x_getR (pc' := 9) (b := pl) hC kf_X4_31 dX4_allWax_6 hb.1 rfl rfl ?_
      refine x_getI (j' := 2) (pc' := 12) hC kf_X4_52 dX4_allWax_9 hb.2.2.2.2.2.1.1 rfl rfl rfl ?_
      rw [hA.sp]
      refine x_icmp_ge (tgt := 30) (pc' := 15) hC dX4_allWax_12 (by decide) rfl (by omega) (by omega) (fun c12 => ?_) (fun c12 => ?_)
      · refine x_iload_n (pc' := 31) hC dX4_allWax_30 rfl rfl ?_
        exact x_iret hC dX4_allWax_31 (xI.mk ⟨by rw [hn9, show (T 0).toNat = k by omega], rfl⟩)
      · refine x_iload_n (pc' := 16) hC dX4_allWax_15 rfl rfl ?_
        refine x_aload_n (pc' := 17) hC dX4_allWax_16 rfl rfl ?_
        refine x_getR (pc' := 20) (b := b + 1) hC kf_X4_9 dX4_allWax_17 hb.1 rfl rfl ?_
        refine x_iload_n (pc' := 21) hC dX4_allWax_20 rfl rfl ?_
        refine x_iald (pc' := 22) hC dX4_allWax_21 hb.2.1 (by omega) (by decide) rfl ?_
        rw [hA.wx (by omega) (by omega)]
        refine x_iadd (pc' := 23) hC dX4_allWax_22 rfl ?_
        refine x_istore_n (pc' := 24) hC dX4_allWax_23 (by decide) rfl rfl ?_
        refine x_iinc (pc' := 27) hC dX4_allWax_24 rfl (by decide) rfl rfl ?_
        refine x_goto (tgt := 4) hC dX4_allWax_27 (by decide) ?_
        exact ih (k + 1) _ _ (by rw [sumW, hn9]) (by omega) (by omega) (by omega)
  refine x_iconst (pc' := 1) hC dX4_allWax_0 rfl ?_
  refine x_istore_n (pc' := 2) hC dX4_allWax_1 (by decide) rfl rfl ?_
  refine x_iconst (pc' := 3) hC dX4_allWax_2 rfl ?_
  refine x_istore_n (pc' := 4) hC dX4_allWax_3 (by decide) rfl rfl ?_
  exact loop ((T 0).toNat + 1) 0 _ _ rfl rfl (by omega) (by omega)
set_option maxRecDepth 100000 in
set_option maxHeartbeats 4000000 in
theorem c_weightOfSet {g : xG} {l : Launch} {S : List xS} {μ : xM} {b pl : Nat} {T r : Int → Int} {z : Int} (hb : xStd S b pl) (hA : SA μ b pl T r) (hT : WT T) (hR : WR T r) : xCt g l yX4_weightOfSet cX4_weightOfSet 4 (some .int) 0 0 0 0 [vR g b, vI z] S μ S (xI (fun a μ' => a = wgt r z (T 3).toNat ∧ μ' = μ)) := by
  refine x_enter (by decide) (Nat.le_of_ble_eq_true rfl) ?_
  intro zp ze zs zm za zb zh zc hC hz0
  have t0 := hT.1
  have t1 := hT.2.1
  have t2 := hT.2.2.1
  have t3 := hT.2.2.2.1
  have loop : ∀ (zn : Nat) (k : Nat) (n9 i : Int) (hn9 : n9 = wgt r z k) (hi : i = k) (hk : (k : Int) ≤ T 3), (T 3).toNat - k < zn → xX g 4 zp l ze { frames := 0, cells := 0, slots := 0, locals := 0 } zs zm za zb zh zc 0 0 (MQ zb (xQ g S (xI (fun a μ' => a = wgt r z (T 3).toNat ∧ μ' = μ))) za zs 0 0 (xA0 g)) S μ 4 [some (vR g b), some (vI z), some (vI n9), some (vI i)] [] := by
    intro zn
    induction zn with
    | zero => intros; rename_i hz; exact absurd hz (Nat.not_lt_zero _)
    | succ zn ih =>
      intro k n9 i hn9 hi hk hn
      subst hi
      refine x_iload_n (pc' := 5) hC dX4_weightOfSet_4 rfl rfl ?_
      refine x_aload_n (pc' := 6) hC dX4_weightOfSet_5 rfl rfl ?_
      refine x_getR (pc' := 9) (b := pl) hC kf_X4_31 dX4_weightOfSet_6 hb.1 rfl rfl ?_
      refine x_getI (j' := 1) (pc' := 12) hC kf_X4_47 dX4_weightOfSet_9 hb.2.2.2.2.2.1.1 rfl rfl rfl ?_
      rw [hA.mi]
      refine x_icmp_ge (tgt := 41) (pc' := 15) hC dX4_weightOfSet_12 (by decide) rfl (by omega) (by omega) (fun c12 => ?_) (fun c12 => ?_)
      · refine x_iload_n (pc' := 42) hC dX4_weightOfSet_41 rfl rfl ?_
        exact x_iret hC dX4_weightOfSet_42 (xI.mk ⟨by rw [hn9, show (T 3).toNat = k by omega], rfl⟩)
      · refine x_iload_n (pc' := 16) hC dX4_weightOfSet_15 rfl rfl ?_
        refine x_iload_n (pc' := 17) hC dX4_weightOfSet_16 rfl rfl ?_
        refine x_ishr (pc' := 18) hC dX4_weightOfSet_17 rfl ?_
        refine x_iconst (pc' := 19) hC dX4_weightOfSet_18 rfl ?_
        refine x_iand (pc' := 20) hC dX4_weightOfSet_19 rfl ?_
        refine x_iconst (pc' := 21) hC dX4_weightOfSet_20 rfl ?_
        refine x_icmp_ne (tgt := 35) (pc' := 24) hC dX4_weightOfSet_21 (by decide) rfl (iAnd_rg _ _) (by omega) (fun c21 => ?_) (fun c21 => ?_)
        · refine x_iinc (pc' := 38) hC dX4_weightOfSet_35 rfl (by decide) rfl rfl ?_
          refine x_goto (tgt := 4) hC dX4_weightOfSet_38 (by decide) ?_
          exact ih (k + 1) _ _ (by rw [wgt]; first | rw [if_pos (by simpa [hsb] using c21), hn9] | rw [if_neg (by simpa [hsb] using c21), hn9, Int.add_zero]) (by omega) (by omega) (by omega)
        · refine x_iload_n (pc' := 25) hC dX4_weightOfSet_24 rfl rfl ?_
          refine x_aload_n (pc' := 26) hC dX4_weightOfSet_25 rfl rfl ?_
          refine x_getR (pc' := 29) (b := b + 2) hC kf_X4_15 dX4_weightOfSet_26 hb.1 rfl rfl ?_
          refine x_iload_n (pc' := 30) hC dX4_weightOfSet_29 rfl rfl ?_
          refine x_iald (pc' := 31) hC dX4_weightOfSet_30 hb.2.2.1 (by omega) (by decide) rfl ?_
          rw [hA.pc (by omega) (by omega)]
          refine x_iconst (pc' := 32) hC dX4_weightOfSet_31 rfl ?_
          refine x_iadd (pc' := 33) hC dX4_weightOfSet_32 rfl ?_
          refine x_iadd (pc' := 34) hC dX4_weightOfSet_33 rfl ?_
          refine x_istore_n (pc' := 35) hC dX4_weightOfSet_34 (by decide) rfl rfl ?_
          refine x_iinc (pc' := 38) hC dX4_weightOfSet_35 rfl (by decide) rfl rfl ?_
          refine x_goto (tgt := 4) hC dX4_weightOfSet_38 (by decide) ?_
          exact ih (k + 1) _ _ (by rw [wgt]; first | rw [if_pos (by simpa [hsb] using c21), hn9] | rw [if_neg (by simpa [hsb] using c21), hn9, Int.add_zero]) (by omega) (by omega) (by omega)
  refine x_iconst (pc' := 1) hC dX4_weightOfSet_0 rfl ?_
  refine x_istore_n (pc' := 2) hC dX4_weightOfSet_1 (by decide) rfl rfl ?_
  refine x_iconst (pc' := 3) hC dX4_weightOfSet_2 rfl ?_
  refine x_istore_n (pc' := 4) hC dX4_weightOfSet_3 (by decide) rfl rfl ?_
  exact loop ((T 3).toNat + 1) 0 _ _ rfl rfl (by omega) (by omega)
set_option maxRecDepth 100000 in
set_option maxHeartbeats 4000000 in
theorem c_slips {g : xG} {l : Launch} {S : List xS} {μ : xM} {b pl : Nat} {T r : Int → Int} {K : Nat} {m : Int} (hb : xStd S b pl) (hA : SA μ b pl T r) (hT : WT T) (hR : WR T r) (hm : 0 ≤ m ∧ m < T 3) (hK : m = K) : xCt g l yX4_slipsAtHisTurn cX4_slipsAtHisTurn 3 (some .boolean) 3 70 0 0 [vR g b, vI m] S μ S (xI (fun a μ' => a = (if 0 < lack T (goN T r K) m then 1 else 0) ∧ FrS b μ μ')) := by
  refine x_enter (by decide) (Nat.le_of_ble_eq_true rfl) ?_
  intro zp ze zs zm za zb zh zc hC hz0
  have t0 := hT.1
  have t1 := hT.2.1
  have t2 := hT.2.2.1
  have t3 := hT.2.2.2.1
  have loop : ∀ (zn : Nat) (k : Nat) (i : Int) (μ1 : xM) (hi : i = k) (hk : k ≤ K) (h1 : FrS b μ μ1) (h2 : St μ1 b (goN T r k)), K - k < zn → xX g 3 zp l ze { frames := 3, cells := 0, slots := 0, locals := 70 } zs zm za zb zh zc 0 0 (MQ zb (xQ g S (xI (fun a μ' => a = (if 0 < lack T (goN T r K) m then 1 else 0) ∧ FrS b μ μ'))) za zs 0 0 (xA0 g)) S μ1 2 [some (vR g b), some (vI m), some (vI i)] [] := by
    intro zn
    induction zn with
    | zero => intros; rename_i hz; exact absurd hz (Nat.not_lt_zero _)
    | succ zn ih =>
      intro k i μ1 hi hk h1 h2 hn
      subst hi
      have hA1 := hA.step hb.lt h1 h2
      have hR1 := WR_goN hT hR k (by omega)
      have q3 := lack_rg hT hR1 hm
      refine x_iload_n (pc' := 3) hC dX4_slipsAtHisTurn_2 rfl rfl ?_
      refine x_iload_n (pc' := 4) hC dX4_slipsAtHisTurn_3 rfl rfl ?_
      refine x_icmp_ge (tgt := 18) (pc' := 7) hC dX4_slipsAtHisTurn_4 (by decide) rfl (by omega) (by omega) (fun c4 => ?_) (fun c4 => ?_)
      · have ek : K = k := by omega
        subst ek
        refine x_aload_n (pc' := 19) hC dX4_slipsAtHisTurn_18 rfl rfl ?_
        refine x_iload_n (pc' := 20) hC dX4_slipsAtHisTurn_19 rfl rfl ?_
        refine x_callV (pc' := 23) (n := 1) hC (c_speedOf hb hA1 hT hR1 hm) ky_X4_speedOf kv_X4_speedOf kl_X4_79 dX4_slipsAtHisTurn_20 hb.1 rfl rfl rfl rfl ⟨Nat.le_of_ble_eq_true rfl, Nat.le_of_ble_eq_true rfl⟩ (Nat.le_of_ble_eq_true rfl) ⟨Nat.le_refl _, Nat.le_refl _⟩ (Or.inl rfl) rfl (x_kd ?_)
        refine x_if_le (tgt := 30) (pc' := 26) hC dX4_slipsAtHisTurn_23 (by decide) rfl (by omega) (fun c23 => ?_) (fun c23 => ?_)
        · refine x_iconst (pc' := 31) hC dX4_slipsAtHisTurn_30 rfl ?_
          exact x_zret hC dX4_slipsAtHisTurn_31 (by first | exact Or.inl rfl | exact Or.inr rfl | omega) (xI.mk ⟨by first | rw [if_pos (by omega)] | rw [if_neg (by omega)], h1⟩)
        · refine x_iconst (pc' := 27) hC dX4_slipsAtHisTurn_26 rfl ?_
          refine x_goto (tgt := 31) hC dX4_slipsAtHisTurn_27 (by decide) ?_
          exact x_zret hC dX4_slipsAtHisTurn_31 (by first | exact Or.inl rfl | exact Or.inr rfl | omega) (xI.mk ⟨by first | rw [if_pos (by omega)] | rw [if_neg (by omega)], h1⟩)
      · refine x_aload_n (pc' := 8) hC dX4_slipsAtHisTurn_7 rfl rfl ?_
        refine x_iload_n (pc' := 9) hC dX4_slipsAtHisTurn_8 rfl rfl ?_
        refine x_callV (pc' := 12) (n := 1) hC (c_takeTurn hb hA1 hT hR1 ⟨by omega, by omega⟩) ky_X4_takeTurn kv_X4_takeTurn kl_X4_71 dX4_slipsAtHisTurn_9 hb.1 rfl rfl rfl rfl ⟨Nat.le_of_ble_eq_true rfl, Nat.le_of_ble_eq_true rfl⟩ (Nat.le_of_ble_eq_true rfl) ⟨Nat.le_refl _, Nat.le_refl _⟩ (Or.inl rfl) rfl (x_kn (fun μ9 h9 => ?_))
        refine x_iinc (pc' := 15) hC dX4_slipsAtHisTurn_12 rfl (by decide) rfl rfl ?_
        refine x_goto (tgt := 2) hC dX4_slipsAtHisTurn_15 (by decide) ?_
        exact ih (k + 1) _ _ (by omega) (by omega) (h1.tr h9.1) (by rw [goN]; exact h9.2) (by omega)
  refine x_iconst (pc' := 1) hC dX4_slipsAtHisTurn_0 rfl ?_
  refine x_istore_n (pc' := 2) hC dX4_slipsAtHisTurn_1 (by decide) rfl rfl ?_
  exact loop (K + 1) 0 _ μ rfl (by omega) FrS.rf hA.2.2 (by omega)
set_option maxRecDepth 100000 in
set_option maxHeartbeats 4000000 in
theorem c_weather {g : xG} {l : Launch} {S : List xS} {μ : xM} {b pl : Nat} {T r : Int → Int} {d : Int} (hb : xStd S b pl) (hA : SA μ b pl T r) (hT : WT T) (hR : WR T r) (hd : 0 ≤ d ∧ d < 65536) : xCt g l yX4_weather cX4_weather 2 none 2 43 0 0 [vR g b, vI d] S μ S (xN (fun μ' => FrS b μ μ' ∧ St μ' b (weath T r d))) := by
  refine x_enter (by decide) (Nat.le_of_ble_eq_true rfl) ?_
  intro zp ze zs zm za zb zh zc hC hz0
  have t0 := hT.1
  have t1 := hT.2.1
  have t2 := hT.2.2.1
  have t3 := hT.2.2.2.1
  have z1 := Int.emod_nonneg d (show T 0 ≠ 0 by omega)
  have z2 := Int.emod_lt_of_pos d (show 0 < T 0 by omega)
  have z3 := Int.emod_nonneg (d / 32) (show T 0 ≠ 0 by omega)
  have z4 := Int.emod_lt_of_pos (d / 32) (show 0 < T 0 by omega)
  have cut : ∀ (r1 : Int → Int) (μ1 : xM) (e1 : r1 = if d / 16 % 2 = 0 then waxBy r (d % T 0) 1 else r) (h1 : FrS b μ μ1) (h2 : St μ1 b r1) (hR1 : WR T r1), xX g 2 zp l ze { frames := 2, cells := 0, slots := 0, locals := 43 } zs zm za zb zh zc 0 0 (MQ zb (xQ g S (xN (fun μ' => FrS b μ μ' ∧ St μ' b (weath T r d)))) za zs 0 0 (xA0 g)) S μ1 34 [some (vR g b), some (vI d)] [] := by
    intro r1 μ1 e1 h1 h2 hR1
    have hA1 := hA.step hb.lt h1 h2
    have e2 : weath T r d = if d / 512 % 3 = 0 then waxBy r1 (d / 32 % T 0) (-2) else r1 := by rw [e1]; rfl
    refine x_iload_n (pc' := 35) hC dX4_weather_34 rfl rfl ?_
    refine x_sipush (pc' := 38) hC dX4_weather_35 (by decide) rfl ?_
    refine x_idiv (pc' := 39) hC dX4_weather_38 (by omega) (by omega) rfl ?_
    rw [i_div (by omega) (by omega)]
    refine x_iconst (pc' := 40) hC dX4_weather_39 rfl ?_
    refine x_irem (pc' := 41) hC dX4_weather_40 (by omega) (by omega) rfl ?_
    rw [i_rem (by omega) (by omega)]
    refine x_if_ne (tgt := 62) (pc' := 44) hC dX4_weather_41 (by decide) rfl (by omega) (fun c41 => ?_) (fun c41 => ?_)
    · exact x_vret hC dX4_weather_62 (xN.mk (by rw [e2]; first | (rw [if_neg c41]; exact ⟨h1, h2⟩) | (rw [if_pos c41]; exact ⟨h1.tr h59.1, h59.2⟩)))
    · refine x_aload_n (pc' := 45) hC dX4_weather_44 rfl rfl ?_
      refine x_iload_n (pc' := 46) hC dX4_weather_45 rfl rfl ?_
      refine x_bipush (pc' := 48) hC dX4_weather_46 (by decide) rfl ?_
      refine x_idiv (pc' := 49) hC dX4_weather_48 (by omega) (by omega) rfl ?_
      rw [i_div (by omega) (by omega)]
      refine x_aload_n (pc' := 50) hC dX4_weather_49 rfl rfl ?_
      refine x_getR (pc' := 53) (b := pl) hC kf_X4_31 dX4_weather_50 hb.1 rfl rfl ?_
      refine x_getI (j' := 2) (pc' := 56) hC kf_X4_52 dX4_weather_53 hb.2.2.2.2.2.1.1 rfl rfl rfl ?_
      rw [hA1.sp]
      refine x_irem (pc' := 57) hC dX4_weather_56 (by omega) (by omega) rfl ?_
      rw [i_rem (by omega) (by omega)]
      refine x_bipush (pc' := 59) hC dX4_weather_57 (by decide) rfl ?_
      refine x_callV (pc' := 62) (n := 2) hC (c_addWax hb hA1 hT hR1 ⟨by omega, by omega⟩ (by omega)) ky_X4_addWax kv_X4_addWax kl_X4_99 dX4_weather_59 hb.1 rfl rfl rfl rfl ⟨Nat.le_of_ble_eq_true rfl, Nat.le_of_ble_eq_true rfl⟩ (Nat.le_of_ble_eq_true rfl) ⟨Nat.le_refl _, Nat.le_refl _⟩ (Or.inl rfl) rfl (x_kn (fun μ59 h59 => ?_))
      exact x_vret hC dX4_weather_62 (xN.mk (by rw [e2]; first | (rw [if_neg c41]; exact ⟨h1, h2⟩) | (rw [if_pos c41]; exact ⟨h1.tr h59.1, h59.2⟩)))
  refine x_aload_n (pc' := 1) hC dX4_weather_0 rfl rfl ?_
  refine x_getR (pc' := 4) (b := pl) hC kf_X4_31 dX4_weather_1 hb.1 rfl rfl ?_
  refine x_getI (j' := 2) (pc' := 7) hC kf_X4_52 dX4_weather_4 hb.2.2.2.2.2.1.1 rfl rfl rfl ?_
  rw [hA.sp]
  refine x_if_gt (tgt := 11) (pc' := 10) hC dX4_weather_7 (by decide) rfl (by omega) (fun c7 => ?_) (fun c7 => ?_)
  · refine x_iload_n (pc' := 12) hC dX4_weather_11 rfl rfl ?_
    refine x_bipush (pc' := 14) hC dX4_weather_12 (by decide) rfl ?_
    refine x_idiv (pc' := 15) hC dX4_weather_14 (by omega) (by omega) rfl ?_
    rw [i_div (by omega) (by omega)]
    refine x_iconst (pc' := 16) hC dX4_weather_15 rfl ?_
    refine x_irem (pc' := 17) hC dX4_weather_16 (by omega) (by omega) rfl ?_
    rw [i_rem (by omega) (by omega)]
    refine x_if_ne (tgt := 34) (pc' := 20) hC dX4_weather_17 (by decide) rfl (by omega) (fun c17 => ?_) (fun c17 => ?_)
    · first | exact cut _ _ (if_neg c17).symm FrS.rf hA.2.2 hR | exact cut _ _ (if_pos c17).symm h31.1 h31.2 (WR_waxBy hR (by omega) (by omega))
    · refine x_aload_n (pc' := 21) hC dX4_weather_20 rfl rfl ?_
      refine x_iload_n (pc' := 22) hC dX4_weather_21 rfl rfl ?_
      refine x_aload_n (pc' := 23) hC dX4_weather_22 rfl rfl ?_
      refine x_getR (pc' := 26) (b := pl) hC kf_X4_31 dX4_weather_23 hb.1 rfl rfl ?_
      refine x_getI (j' := 2) (pc' := 29) hC kf_X4_52 dX4_weather_26 hb.2.2.2.2.2.1.1 rfl rfl rfl ?_
      rw [hA.sp]
      refine x_irem (pc' := 30) hC dX4_weather_29 (by omega) (by omega) rfl ?_
      rw [i_rem (by omega) (by omega)]
      refine x_iconst (pc' := 31) hC dX4_weather_30 rfl ?_
      refine x_callV (pc' := 34) (n := 2) hC (c_addWax hb hA hT hR ⟨by omega, by omega⟩ (by omega)) ky_X4_addWax kv_X4_addWax kl_X4_99 dX4_weather_31 hb.1 rfl rfl rfl rfl ⟨Nat.le_of_ble_eq_true rfl, Nat.le_of_ble_eq_true rfl⟩ (Nat.le_of_ble_eq_true rfl) ⟨Nat.le_refl _, Nat.le_refl _⟩ (Or.inl rfl) rfl (x_kn (fun μ31 h31 => ?_))
      first | exact cut _ _ (if_neg c17).symm FrS.rf hA.2.2 hR | exact cut _ _ (if_pos c17).symm h31.1 h31.2 (WR_waxBy hR (by omega) (by omega))
  · exact absurd (show 0 < T 0 by omega) c7
set_option maxRecDepth 100000 in
set_option maxHeartbeats 4000000 in
theorem c_fill {g : xG} {l : Launch} {S : List xS} {μ : xM} {k n0 : Nat} {v : Int} (hk : S[k]? = some (sArr n0)) (hn : n0 < 100000) : xCt g l yJ7_fill_53178 cJ7_fill_53178 4 none 0 0 0 0 [vR g k, vI v] S μ S (xN (fun μ' => μ' = xFl μ k n0 v)) := by
  refine x_enter (by decide) (Nat.le_of_ble_eq_true rfl) ?_
  intro zp ze zs zm za zb zh zc hC hz0
  have loop : ∀ (zn : Nat) (j : Nat) (i : Int) (hi : i = j) (hj : j ≤ n0), n0 - j < zn → xX g 4 zp l ze { frames := 0, cells := 0, slots := 0, locals := 0 } zs zm za zb zh zc 0 0 (MQ zb (xQ g S (xN (fun μ' => μ' = xFl μ k n0 v))) za zs 0 0 (xA0 g)) S (xFl μ k j v) 5 [some (vR g k), some (vI v), some (vI i), some (vI n0)] [] := by
    intro zn
    induction zn with
    | zero => intros; rename_i hz; exact absurd hz (Nat.not_lt_zero _)
    | succ zn ih =>
      intro j i hi hj hn
      subst hi
      refine x_iload_n (pc' := 6) hC dJ7_fill_53178_5 rfl rfl ?_
      refine x_iload_n (pc' := 7) hC dJ7_fill_53178_6 rfl rfl ?_
      refine x_icmp_ge (tgt := 20) (pc' := 10) hC dJ7_fill_53178_7 (by decide) rfl (by omega) (by omega) (fun c7 => ?_) (fun c7 => ?_)
      · exact x_vret hC dJ7_fill_53178_20 (xN.mk (by rw [show j = n0 by omega]))
      · refine x_aload_n (pc' := 11) hC dJ7_fill_53178_10 rfl rfl ?_
        refine x_iload_n (pc' := 12) hC dJ7_fill_53178_11 rfl rfl ?_
        refine x_iload_n (pc' := 13) hC dJ7_fill_53178_12 rfl rfl ?_
        refine x_iast (pc' := 14) hC dJ7_fill_53178_13 hk (by omega) (by omega) rfl ?_
        refine x_iinc (pc' := 17) hC dJ7_fill_53178_14 rfl (by decide) rfl rfl ?_
        refine x_goto (tgt := 5) hC dJ7_fill_53178_17 (by decide) ?_
        rw [xFl_s (by omega)]
        exact ih (j + 1) _ (by omega) (by omega) (by omega)
  refine x_iconst (pc' := 1) hC dJ7_fill_53178_0 rfl ?_
  refine x_istore_n (pc' := 2) hC dJ7_fill_53178_1 (by decide) rfl rfl ?_
  refine x_aload_n (pc' := 3) hC dJ7_fill_53178_2 rfl rfl ?_
  refine x_alenI (n' := n0) (pc' := 4) hC dJ7_fill_53178_3 hk rfl rfl ?_
  refine x_istore_n (pc' := 5) hC dJ7_fill_53178_4 (by decide) rfl rfl ?_
  have z := loop (n0 + 1) 0 _ rfl (by omega) (by omega)
  rw [show xFl μ k ((0 : Nat) : Int) v = μ from xFl_0] at z
  exact z
set_option maxRecDepth 100000 in
set_option maxHeartbeats 4000000 in
theorem c_clearS {g : xG} {l : Launch} {S : List xS} {μ : xM} {b pl : Nat} (hb : xStd S b pl) : xCt g l yX4_clear cX4_clear 1 none 1 23 0 0 [vR g b] S μ S (xN (fun μ' => FrB b μ μ' ∧ St μ' b (fun k => if k = 1 then 20 else 0) ∧ ∀ j : Int, 0 ≤ j → j < 7 → μ' (b + 3) j = 0)) := by
  refine x_enter (by decide) (Nat.le_of_ble_eq_true rfl) ?_
  intro zp ze zs zm za zb zh zc hC hz0
  refine x_aload_n (pc' := 1) hC dX4_clear_0 rfl rfl ?_
  refine x_getR (pc' := 4) (b := b + 1) hC kf_X4_9 dX4_clear_1 hb.1 rfl rfl ?_
  refine x_iconst (pc' := 5) hC dX4_clear_4 rfl ?_
  refine x_callS (pc' := 8) (n := 2) hC (c_fill hb.2.1 (by decide)) ky_J7_fill_53178 ks_J7_fill_53178 kl_X4_35 dX4_clear_5 rfl rfl ⟨Nat.le_of_ble_eq_true rfl, Nat.le_of_ble_eq_true rfl⟩ (Nat.le_of_ble_eq_true rfl) ⟨Nat.le_refl _, Nat.le_refl _⟩ (Or.inl rfl) rfl (x_kdn ?_)
  refine x_aload_n (pc' := 9) hC dX4_clear_8 rfl rfl ?_
  refine x_getR (pc' := 12) (b := b + 2) hC kf_X4_15 dX4_clear_9 hb.1 rfl rfl ?_
  refine x_iconst (pc' := 13) hC dX4_clear_12 rfl ?_
  refine x_callS (pc' := 16) (n := 2) hC (c_fill hb.2.2.1 (by decide)) ky_J7_fill_53178 ks_J7_fill_53178 kl_X4_35 dX4_clear_13 rfl rfl ⟨Nat.le_of_ble_eq_true rfl, Nat.le_of_ble_eq_true rfl⟩ (Nat.le_of_ble_eq_true rfl) ⟨Nat.le_refl _, Nat.le_refl _⟩ (Or.inl rfl) rfl (x_kdn ?_)
  refine x_aload_n (pc' := 17) hC dX4_clear_16 rfl rfl ?_
  refine x_getR (pc' := 20) (b := b + 3) hC kf_X4_18 dX4_clear_17 hb.1 rfl rfl ?_
  refine x_iconst (pc' := 21) hC dX4_clear_20 rfl ?_
  refine x_callS (pc' := 24) (n := 2) hC (c_fill hb.2.2.2.1 (by decide)) ky_J7_fill_53178 ks_J7_fill_53178 kl_X4_35 dX4_clear_21 rfl rfl ⟨Nat.le_of_ble_eq_true rfl, Nat.le_of_ble_eq_true rfl⟩ (Nat.le_of_ble_eq_true rfl) ⟨Nat.le_refl _, Nat.le_refl _⟩ (Or.inl rfl) rfl (x_kdn ?_)
  refine x_aload_n (pc' := 25) hC dX4_clear_24 rfl rfl ?_
  refine x_getR (pc' := 28) (b := b + 4) hC kf_X4_21 dX4_clear_25 hb.1 rfl rfl ?_
  refine x_iconst (pc' := 29) hC dX4_clear_28 rfl ?_
  refine x_callS (pc' := 32) (n := 2) hC (c_fill hb.2.2.2.2.1 (by decide)) ky_J7_fill_53178 ks_J7_fill_53178 kl_X4_35 dX4_clear_29 rfl rfl ⟨Nat.le_of_ble_eq_true rfl, Nat.le_of_ble_eq_true rfl⟩ (Nat.le_of_ble_eq_true rfl) ⟨Nat.le_refl _, Nat.le_refl _⟩ (Or.inl rfl) rfl (x_kdn ?_)
  refine x_aload_n (pc' := 33) hC dX4_clear_32 rfl rfl ?_
  refine x_bipush (pc' := 35) hC dX4_clear_33 (by decide) rfl ?_
  refine x_putI (j' := 5) (pc' := 38) hC kf_X4_24 dX4_clear_35 hb.1 rfl rfl rfl rfl rfl ?_
  refine x_aload_n (pc' := 39) hC dX4_clear_38 rfl rfl ?_
  refine x_iconst (pc' := 40) hC dX4_clear_39 rfl ?_
  refine x_putI (j' := 6) (pc' := 43) hC kf_X4_28 dX4_clear_40 hb.1 rfl rfl rfl rfl rfl ?_
  exact x_vret hC dX4_clear_43 (xN.mk ⟨fun k j hk => by rw [xU_nk (by omega), xU_nk (by omega), xFl_ne (by omega), xFl_ne (by omega), xFl_ne (by omega), xFl_ne (by omega)], by
      refine ⟨⟨?_, ?_, fun j b1 b2 => ?_, fun j b1 b2 => ?_, fun j b1 b2 => ?_⟩, fun j b1 b2 => ?_⟩
      · rw [xU_at2]; rfl
      · rw [xU_nj (by omega), xU_at2]; rfl
      · rw [xU_nk (by omega), xU_nk (by omega), xFl_ne (by omega), xFl_ne (by omega), xFl_ne (by omega), xFl_at b1 (by omega)]; exact (if_neg (by omega)).symm
      · rw [xU_nk (by omega), xU_nk (by omega), xFl_ne (by omega), xFl_ne (by omega), xFl_at b1 (by omega)]; exact (if_neg (by omega)).symm
      · rw [xU_nk (by omega), xU_nk (by omega), xFl_at b1 (by omega)]; exact (if_neg (by omega)).symm
      · rw [xU_nk (by omega), xU_nk (by omega), xFl_ne (by omega), xFl_at b1 (by omega)]⟩)
end
section
/-- outside cells lo .. hi - 1 -/
def FrI (lo hi : Nat) (μ μ' : xM) : Prop := ∀ (k : Nat) (j : Int), k < lo ∨ hi ≤ k → μ' k j = μ k j
theorem FrI.rf {lo hi : Nat} {μ : xM} : FrI lo hi μ μ := fun _ _ _ => rfl
theorem FrI.tr {lo hi : Nat} {μ μ' μ'' : xM} (h : FrI lo hi μ μ') (h2 : FrI lo hi μ' μ'') : FrI lo hi μ μ'' := fun k j hk => (h2 k j hk).trans (h k j hk)
theorem FrI.u {lo hi : Nat} {μ μ' : xM} {k : Nat} {j a : Int} (h : FrI lo hi μ μ') (hk : lo ≤ k ∧ k < hi) : FrI lo hi μ (xU μ' k j a) := fun k' j' hk' => (xU_nk (by omega)).trans (h k' j' hk')
theorem FrI.mono {lo hi lo' hi' : Nat} {μ μ' : xM} (h : FrI lo hi μ μ') (h1 : lo' ≤ lo) (h2 : hi ≤ hi') : FrI lo' hi' μ μ' := fun k j hk => h k j (by omega)
theorem FrB.I {b : Nat} {μ μ' : xM} (h : FrB b μ μ') : FrI b (b + 5) μ μ' := h
theorem FrS.I {b : Nat} {μ μ' : xM} (h : FrS b μ μ') : FrI b (b + 5) μ μ' := h.B
theorem St.frI {lo hi b : Nat} {μ μ' : xM} {r : Int → Int} (h : St μ b r) (hf : FrI lo hi μ μ') (hd : hi ≤ b ∨ b + 5 ≤ lo) : St μ' b r := by
  obtain ⟨a1, a2, a3, a4, a5⟩ := h
  refine ⟨?_, ?_, fun j b1 b2 => ?_, fun j b1 b2 => ?_, fun j b1 b2 => ?_⟩
  · rw [hf _ _ (by omega), a1]
  · rw [hf _ _ (by omega), a2]
  · rw [hf _ _ (by omega), a3 j b1 b2]
  · rw [hf _ _ (by omega), a4 j b1 b2]
  · rw [hf _ _ (by omega), a5 j b1 b2]
theorem Gr.frI {lo hi b : Nat} {μ μ' : xM} {T : Int → Int} (h : Gr μ b T) (hf : FrI lo hi μ μ') (hd : hi ≤ b ∨ b + 5 ≤ lo) : Gr μ' b T := fun m a1 a2 => by
  rw [hf _ _ (by omega), h m a1 a2]
theorem Pl.frI {lo hi pl : Nat} {μ μ' : xM} {T : Int → Int} (h : Pl μ pl T) (hf : FrI lo hi μ μ') (hd : hi ≤ pl ∨ pl + 1 < lo) : Pl μ' pl T := by
  obtain ⟨h1, h2, h3, h4, h5⟩ := h
  refine ⟨?_, ?_, ?_, ?_, fun m a1 a2 => ?_⟩
  · rw [hf _ _ (by omega), h1]
  · rw [hf _ _ (by omega), h2]
  · rw [hf _ _ (by omega), h3]
  · rw [hf _ _ (by omega), h4]
  · rw [hf _ _ (by omega), h5 m a1 a2]
theorem SA.frI {lo hi b pl : Nat} {μ μ' : xM} {T r : Int → Int} (h : SA μ b pl T r) (hf : FrI lo hi μ μ') (hd : hi ≤ b ∨ b + 5 ≤ lo) (hp : hi ≤ pl ∨ pl + 1 < lo) : SA μ' b pl T r := ⟨h.1.frI hf hp, h.2.1.frI hf hd, h.2.2.frI hf hd⟩
/-- a stack of Standings in a ring of M rows; un: the latest first -/
def rowsOf (c M : Nat) : List (Option Nat) := (List.range M).map (fun i => some (c + 2 + 5 * i))
theorem rowsOf_len {c M : Nat} : (rowsOf c M).length = M := by simp [rowsOf]
theorem rowsOf_at {c M i : Nat} (h : i < M) : (rowsOf c M)[i]? = some (some (c + 2 + 5 * i)) := by simp [rowsOf, h]
def xShf (S : List xS) (c M : Nat) : Prop := S[c]? = some (.inl (2, [some (some (c + 1)), none, none])) ∧ S[c + 1]? = some (.inr (.inr (rowsOf c M))) ∧ (M = 2 ∨ M = 8) ∧ (∀ i, i < M → xStd S (c + 2 + 5 * i) 12) ∧ 13 < c
def RingAt (μ : xM) (c M nx : Nat) (un : List (Int → Int)) (T : Int → Int) : Prop := ∀ (i : Nat) (u : Int → Int), un[i]? = some u → St μ (c + 2 + 5 * ((nx + M - 1 - i) % M)) u ∧ Gr μ (c + 2 + 5 * ((nx + M - 1 - i) % M)) T
def Ring (μ : xM) (c M : Nat) (un : List (Int → Int)) (T : Int → Int) : Prop := μ c 1 = (un.length : Int) ∧ un.length ≤ M ∧ ∃ nx : Nat, μ c 2 = (nx : Int) ∧ nx < M ∧ RingAt μ c M nx un T
theorem Ring.frI {lo hi c M : Nat} {μ μ' : xM} {un : List (Int → Int)} {T : Int → Int} (hM : M = 2 ∨ M = 8) (h : Ring μ c M un T) (hf : FrI lo hi μ μ') (hd : hi ≤ c ∨ c + 2 + 5 * M ≤ lo) : Ring μ' c M un T := by
  obtain ⟨e1, e2, nx, e3, e4, e5⟩ := h
  refine ⟨by rw [hf _ _ (by omega), e1], e2, nx, by rw [hf _ _ (by omega), e3], e4, fun i u hu => ?_⟩
  obtain ⟨a1, a2⟩ := e5 i u hu
  have hl : (nx + M - 1 - i) % M < M := Nat.mod_lt _ (by omega)
  exact ⟨a1.frI hf (by omega), a2.frI hf (by omega)⟩
theorem Ring.putL {c M nx : Nat} {μ μ1 : xM} {un : List (Int → Int)} {T r : Int → Int} {nx' sz : Int} (hM : M = 2 ∨ M = 8) (e2 : un.length ≤ M) (e4 : nx < M) (e5 : RingAt μ c M nx un T) (h1 : FrB (c + 2 + 5 * nx) μ μ1) (h2 : St μ1 (c + 2 + 5 * nx) r) (h3 : Gr μ1 (c + 2 + 5 * nx) T) (hn : nx' = if (nx : Int) + 1 < M then (nx : Int) + 1 else 0) (hs : sz = min ((un.length : Int) + 1) M) : Ring (xU (xU μ1 c 2 nx') c 1 sz) c M ((r :: un).take M) T := by
  have hf : FrI c (c + 1) μ1 (xU (xU μ1 c 2 nx') c 1 sz) := (FrI.rf.u (by omega)).u (by omega)
  have hl : ((r :: un).take M).length = min M (un.length + 1) := by simp
  refine ⟨by rw [xU_at2, hs, hl]; omega, by rw [hl]; omega, nx'.toNat, ?_, ?_, fun i u hu => ?_⟩
  · rw [xU_nj (by omega), xU_at2]
    split at hn <;> omega
  · split at hn <;> omega
  · have hi : i < min M (un.length + 1) := by rw [← hl]; exact (List.getElem?_eq_some_iff.mp hu).1
    rw [List.getElem?_take_of_lt (by omega)] at hu
    have hne : nx'.toNat = if nx + 1 < M then nx + 1 else 0 := by
      split at hn
      · rw [if_pos (by omega)]; omega
      · rw [if_neg (by omega)]; omega
    cases i with
    | zero =>
      simp only [List.getElem?_cons_zero, Option.some.injEq] at hu
      subst hu
      have e : (nx'.toNat + M - 1 - 0) % M = nx := by
        rw [hne]
        split <;> rcases hM with rfl | rfl <;> omega
      rw [e]
      exact ⟨h2.frI hf (by omega), h3.frI hf (by omega)⟩
    | succ i =>
      simp only [List.getElem?_cons_succ] at hu
      obtain ⟨a1, a2⟩ := e5 i u hu
      have e : (nx'.toNat + M - 1 - (i + 1)) % M = (nx + M - 1 - i) % M := by
        rw [hne]
        split <;> rcases hM with rfl | rfl <;> omega
      have hd : (nx + M - 1 - i) % M ≠ nx := by
        rcases hM with rfl | rfl <;> omega
      rw [e]
      exact ⟨(a1.frI h1.I (by omega)).frI hf (by omega), (a2.frI h1.I (by omega)).frI hf (by omega)⟩
theorem Ring.takeL {c M nx : Nat} {μ μ1 : xM} {un : List (Int → Int)} {T u : Int → Int} {nx' : Int} (hM : M = 2 ∨ M = 8) (e2 : un.length + 1 ≤ M) (e4 : nx < M) (e5 : RingAt μ c M nx (u :: un) T) (hf : ∀ (k : Nat) (j : Int), c + 2 ≤ k → k < c + 2 + 5 * M → μ1 k j = μ k j) (hn : nx' = if 0 < (nx : Int) then (nx : Int) - 1 else M - 1) (h2 : μ1 c 2 = nx') : Ring (xU μ1 c 1 un.length) c M un T := by
  refine ⟨by rw [xU_at2], by omega, nx'.toNat, ?_, ?_, fun i v hv => ?_⟩
  · rw [xU_nj (by omega), h2]
    split at hn <;> omega
  · split at hn <;> omega
  · have hi := (List.getElem?_eq_some_iff.mp hv).1
    have hne : nx'.toNat = if 0 < nx then nx - 1 else M - 1 := by
      split at hn
      · rw [if_pos (by omega)]; omega
      · rw [if_neg (by omega)]; omega
    have e : (nx'.toNat + M - 1 - i) % M = (nx + M - 1 - (i + 1)) % M := by
      rw [hne]
      split <;> rcases hM with rfl | rfl <;> omega
    have hl : (nx + M - 1 - (i + 1)) % M < M := Nat.mod_lt _ (by omega)
    obtain ⟨⟨a1, a2, a3, a4, a5⟩, a6⟩ := e5 (i + 1) v (by simpa using hv)
    rw [e]
    generalize hz : (nx + M - 1 - (i + 1)) % M = z at *
    refine ⟨⟨?_, ?_, fun j b1 b2 => ?_, fun j b1 b2 => ?_, fun j b1 b2 => ?_⟩, fun m b1 b2 => ?_⟩
    · rw [xU_nk (by omega), hf _ _ (by omega) (by omega), a1]
    · rw [xU_nk (by omega), hf _ _ (by omega) (by omega), a2]
    · rw [xU_nk (by omega), hf _ _ (by omega) (by omega), a3 j b1 b2]
    · rw [xU_nk (by omega), hf _ _ (by omega) (by omega), a4 j b1 b2]
    · rw [xU_nk (by omega), hf _ _ (by omega) (by omega), a5 j b1 b2]
    · rw [xU_nk (by omega), hf _ _ (by omega) (by omega), a6 m b1 b2]
/-- THE TEXT's letters; what is SEEN -/
def Tx (μ : xM) (nt : Int) (tx : Int → Int) : Prop := μ 1 1 = nt ∧ 0 ≤ nt ∧ nt ≤ 200 ∧ ∀ j : Int, 0 ≤ j → j < nt → μ 2 j = tx j ∧ 32 ≤ tx j ∧ tx j ≤ 126
def Sg (μ : xM) (T : Int → Int) (sl : List (Int × Int)) : Prop := μ 78 2 = (sl.length : Int) ∧ sl.length ≤ 6 ∧ ∀ (i : Nat) (q : Int × Int), sl[i]? = some q → μ 79 i = q.1 ∧ μ 80 i = q.2 ∧ 0 ≤ q.1 ∧ q.1 < T 3 ∧ 0 ≤ q.2 ∧ q.2 < T 0
theorem Tx.frI {lo hi : Nat} {μ μ' : xM} {nt : Int} {tx : Int → Int} (h : Tx μ nt tx) (hf : FrI lo hi μ μ') (hd : 3 ≤ lo) : Tx μ' nt tx := ⟨by rw [hf _ _ (by omega)]; exact h.1, h.2.1, h.2.2.1, fun j a b => by rw [hf _ _ (by omega)]; exact h.2.2.2 j a b⟩
theorem Sg.frI {lo hi : Nat} {μ μ' : xM} {T : Int → Int} {sl : List (Int × Int)} (h : Sg μ T sl) (hf : FrI lo hi μ μ') (hd : hi ≤ 78 ∨ 81 ≤ lo) : Sg μ' T sl := ⟨by rw [hf _ _ (by omega)]; exact h.1, h.2.1, fun i q hq => by rw [hf _ _ (by omega), hf _ _ (by omega)]; exact h.2.2 i q hq⟩
theorem Sg.add {μ : xM} {T : Int → Int} {sl : List (Int × Int)} {a b : Int} (h : Sg μ T sl) (hl : sl.length < 6) (ha : 0 ≤ a ∧ a < T 3) (hb : 0 ≤ b ∧ b < T 0) : Sg (xU (xU (xU μ 79 sl.length a) 80 sl.length b) 78 2 (sl.length + 1)) T (sl ++ [(a, b)]) := by
  refine ⟨by rw [xU_at2]; simp, by simp; omega, fun i q hq => ?_⟩
  by_cases hi : i < sl.length
  · rw [List.getElem?_append_left hi] at hq
    have := h.2.2 i q hq
    rw [xU_nk (by omega), xU_nk (by omega), xU_nj (by omega), xU_nk (by omega), xU_nj (by omega), xU_nk (by omega)]
    exact this
  · rw [List.getElem?_append_right (by omega)] at hq
    have hz : i - sl.length < 1 := by
      have := (List.getElem?_eq_some_iff.mp hq).1
      simpa using this
    have e : i = sl.length := by omega
    subst e
    rw [Nat.sub_self] at hq
    cases hq
    rw [xU_nk (by omega), xU_nk (by omega), xU_at2, xU_nk (by omega), xU_at2]
    exact ⟨rfl, rfl, ha.1, ha.2, hb.1, hb.2⟩
/-- the class's cells, and the reference's (from 81 on), as their constructors leave them -/
def xSC : List xS := [.inl (6, [some (some 1), some (some 3), some (some 12), some (some 14), some (some 19), some (some 24), some (some 66), some (some 78)]),
  .inl (5, [some (some 2), none]),
  .inr (.inl (true, 200)),
  .inl (1, [some (some 4), some (some 6), some (some 11), none, none]),
  .inl (0, [some (some 5), none, none, none, none]),
  .inr (.inl (false, 7)),
  .inl (4, [some (some 4), some (some 7), some (some 8), some (some 9), some (some 10), none, none]),
  .inr (.inl (false, 16)),
  .inr (.inl (false, 7)),
  .inr (.inl (false, 7)),
  .inr (.inl (false, 7)),
  .inr (.inl (false, 3)),
  .inl (0, [some (some 13), none, none, none, none]),
  .inr (.inl (false, 7)),
  .inl (4, [some (some 12), some (some 15), some (some 16), some (some 17), some (some 18), none, none]),
  .inr (.inl (false, 16)),
  .inr (.inl (false, 7)),
  .inr (.inl (false, 7)),
  .inr (.inl (false, 7)),
  .inl (4, [some (some 12), some (some 20), some (some 21), some (some 22), some (some 23), none, none]),
  .inr (.inl (false, 16)),
  .inr (.inl (false, 7)),
  .inr (.inl (false, 7)),
  .inr (.inl (false, 7)),
  .inl (2, [some (some 25), none, none]),
  .inr (.inr [some 26, some 31, some 36, some 41, some 46, some 51, some 56, some 61]),
  .inl (4, [some (some 12), some (some 27), some (some 28), some (some 29), some (some 30), none, none]),
  .inr (.inl (false, 16)),
  .inr (.inl (false, 7)),
  .inr (.inl (false, 7)),
  .inr (.inl (false, 7)),
  .inl (4, [some (some 12), some (some 32), some (some 33), some (some 34), some (some 35), none, none]),
  .inr (.inl (false, 16)),
  .inr (.inl (false, 7)),
  .inr (.inl (false, 7)),
  .inr (.inl (false, 7)),
  .inl (4, [some (some 12), some (some 37), some (some 38), some (some 39), some (some 40), none, none]),
  .inr (.inl (false, 16)),
  .inr (.inl (false, 7)),
  .inr (.inl (false, 7)),
  .inr (.inl (false, 7)),
  .inl (4, [some (some 12), some (some 42), some (some 43), some (some 44), some (some 45), none, none]),
  .inr (.inl (false, 16)),
  .inr (.inl (false, 7)),
  .inr (.inl (false, 7)),
  .inr (.inl (false, 7)),
  .inl (4, [some (some 12), some (some 47), some (some 48), some (some 49), some (some 50), none, none]),
  .inr (.inl (false, 16)),
  .inr (.inl (false, 7)),
  .inr (.inl (false, 7)),
  .inr (.inl (false, 7)),
  .inl (4, [some (some 12), some (some 52), some (some 53), some (some 54), some (some 55), none, none]),
  .inr (.inl (false, 16)),
  .inr (.inl (false, 7)),
  .inr (.inl (false, 7)),
  .inr (.inl (false, 7)),
  .inl (4, [some (some 12), some (some 57), some (some 58), some (some 59), some (some 60), none, none]),
  .inr (.inl (false, 16)),
  .inr (.inl (false, 7)),
  .inr (.inl (false, 7)),
  .inr (.inl (false, 7)),
  .inl (4, [some (some 12), some (some 62), some (some 63), some (some 64), some (some 65), none, none]),
  .inr (.inl (false, 16)),
  .inr (.inl (false, 7)),
  .inr (.inl (false, 7)),
  .inr (.inl (false, 7)),
  .inl (2, [some (some 67), none, none]),
  .inr (.inr [some 68, some 73]),
  .inl (4, [some (some 12), some (some 69), some (some 70), some (some 71), some (some 72), none, none]),
  .inr (.inl (false, 16)),
  .inr (.inl (false, 7)),
  .inr (.inl (false, 7)),
  .inr (.inl (false, 7)),
  .inl (4, [some (some 12), some (some 74), some (some 75), some (some 76), some (some 77), none, none]),
  .inr (.inl (false, 16)),
  .inr (.inl (false, 7)),
  .inr (.inl (false, 7)),
  .inr (.inl (false, 7)),
  .inl (3, [some (some 79), some (some 80), none]),
  .inr (.inl (false, 6)),
  .inr (.inl (false, 6))]
def xSM : List xS := [.inl (7, [none, some (some 82), some (some 83), some (some 84), none, some (some 85), some (some 86), some (some 87), some (some 88), none, some (some 89), none, some (some 90), none, none, some (some 91)]),
  .inr (.inl (false, 200)),
  .inr (.inl (false, 18)),
  .inr (.inl (false, 18)),
  .inr (.inl (false, 32)),
  .inr (.inl (false, 32)),
  .inr (.inl (false, 32)),
  .inr (.inl (false, 256)),
  .inr (.inl (false, 64)),
  .inr (.inl (false, 12)),
  .inr (.inl (false, 3))]
def xPre (S : List xS) : Prop := ∀ (k : Nat) (sh : xS), xSC[k]? = some sh → S[k]? = some sh
def xPreM (S : List xS) : Prop := ∀ (k : Nat) (sh : xS), xSM[k]? = some sh → S[81 + k]? = some sh
theorem sPl {S : List xS} (hP : xPre S) : xPln S 12 := ⟨hP 12 _ rfl, hP 13 _ rfl⟩
theorem sPlR {S : List xS} (hP : xPre S) : xPln S 4 := ⟨hP 4 _ rfl, hP 5 _ rfl⟩
theorem sNow {S : List xS} (hP : xPre S) : xStd S 14 12 := ⟨hP 14 _ rfl, hP 15 _ rfl, hP 16 _ rfl, hP 17 _ rfl, hP 18 _ rfl, sPl hP, by decide⟩
theorem sTri {S : List xS} (hP : xPre S) : xStd S 19 12 := ⟨hP 19 _ rfl, hP 20 _ rfl, hP 21 _ rfl, hP 22 _ rfl, hP 23 _ rfl, sPl hP, by decide⟩
theorem sRea {S : List xS} (hP : xPre S) : xStd S 6 4 := ⟨hP 6 _ rfl, hP 7 _ rfl, hP 8 _ rfl, hP 9 _ rfl, hP 10 _ rfl, sPlR hP, by decide⟩
theorem sUnd {S : List xS} (hP : xPre S) : xShf S 24 8 := by
  refine ⟨hP 24 _ rfl, hP 25 _ rfl, Or.inr rfl, fun i hi => ?_, by decide⟩
  have : i = 0 ∨ i = 1 ∨ i = 2 ∨ i = 3 ∨ i = 4 ∨ i = 5 ∨ i = 6 ∨ i = 7 := by omega
  rcases this with rfl | rfl | rfl | rfl | rfl | rfl | rfl | rfl <;> exact ⟨hP _ _ rfl, hP _ _ rfl, hP _ _ rfl, hP _ _ rfl, hP _ _ rfl, sPl hP, by decide⟩
theorem sKep {S : List xS} (hP : xPre S) : xShf S 66 2 := by
  refine ⟨hP 66 _ rfl, hP 67 _ rfl, Or.inl rfl, fun i hi => ?_, by decide⟩
  have : i = 0 ∨ i = 1 := by omega
  rcases this with rfl | rfl <;> exact ⟨hP _ _ rfl, hP _ _ rfl, hP _ _ rfl, hP _ _ rfl, hP _ _ rfl, sPl hP, by decide⟩
end
section
set_option maxRecDepth 100000 in
set_option maxHeartbeats 4000000 in
theorem c_textAdd {g : xG} {l : Launch} {S : List xS} {μ : xM} {nt c : Int} {tx : Int → Int} (hP : xPre S) (hA : Tx μ nt tx) (hc : 32 ≤ c ∧ c ≤ 126) : xCt g l yX5_add cX5_add 2 (some .boolean) 0 0 0 0 [vR g 1, vI c] S μ S (xI (fun a μ' => a = (if nt < 200 then 1 else 0) ∧ FrI 1 3 μ μ' ∧ (nt < 200 → Tx μ' (nt + 1) (up tx nt c)) ∧ (¬ nt < 200 → μ' = μ))) := by
  refine x_enter (by decide) (Nat.le_of_ble_eq_true rfl) ?_
  intro zp ze zs zm za zb zh zc hC hz0
  obtain ⟨e1, e2, e3, e4⟩ := hA
  refine x_aload_n (pc' := 1) hC dX5_add_0 rfl rfl ?_
  refine x_getI (j' := 1) (pc' := 4) hC kf_X5_15 dX5_add_1 (hP 1 _ rfl) rfl rfl rfl ?_
  rw [e1]
  refine x_aload_n (pc' := 5) hC dX5_add_4 rfl rfl ?_
  refine x_getR (pc' := 8) (b := 2) hC kf_X5_9 dX5_add_5 (hP 1 _ rfl) rfl rfl ?_
  refine x_alenC (n' := 200) (pc' := 9) hC dX5_add_8 (hP 2 _ rfl) rfl rfl ?_
  refine x_icmp_lt (tgt := 14) (pc' := 12) hC dX5_add_9 (by decide) rfl (by omega) (by omega) (fun c9 => ?_) (fun c9 => ?_)
  · refine x_aload_n (pc' := 15) hC dX5_add_14 rfl rfl ?_
    refine x_getR (pc' := 18) (b := 2) hC kf_X5_9 dX5_add_15 (hP 1 _ rfl) rfl rfl ?_
    refine x_aload_n (pc' := 19) hC dX5_add_18 rfl rfl ?_
    refine x_getI (j' := 1) (pc' := 22) hC kf_X5_15 dX5_add_19 (hP 1 _ rfl) rfl rfl rfl ?_
    rw [e1]
    refine x_iload_n (pc' := 23) hC dX5_add_22 rfl rfl ?_
    refine x_cast (pc' := 24) hC dX5_add_23 (hP 2 _ rfl) (by omega) (by decide) (by omega) rfl ?_
    refine x_aload_n (pc' := 25) hC dX5_add_24 rfl rfl ?_
    refine x_dup (pc' := 26) hC dX5_add_25 rfl rfl ?_
    refine x_getI (j' := 1) (pc' := 29) hC kf_X5_15 dX5_add_26 (hP 1 _ rfl) rfl rfl rfl ?_
    rw [xU_nk (by omega), e1]
    refine x_iconst (pc' := 30) hC dX5_add_29 rfl ?_
    refine x_iadd (pc' := 31) hC dX5_add_30 rfl ?_
    refine x_putI (j' := 1) (pc' := 34) hC kf_X5_15 dX5_add_31 (hP 1 _ rfl) rfl rfl rfl rfl rfl ?_
    refine x_iconst (pc' := 35) hC dX5_add_34 rfl ?_
    exact x_zret hC dX5_add_35 (by first | exact Or.inl rfl | exact Or.inr rfl | omega) (xI.mk (by first
      | (exact ⟨(if_neg c9).symm, FrI.rf, fun z => absurd z c9, fun _ => rfl⟩)
      | (refine ⟨(if_pos c9).symm, (FrI.rf.u (by omega)).u (by omega), fun _ => ⟨xU_at2, by omega, by omega, fun j j0 j1 => ?_⟩, fun z => absurd c9 z⟩
         by_cases hj : j = nt
         · subst hj; rw [xU_nk (by omega), xU_at2, up_at]; exact ⟨rfl, hc⟩
         · rw [xU_nk (by omega), xU_nj hj, up_ne hj]; exact e4 j j0 (by omega))))
  · refine x_iconst (pc' := 13) hC dX5_add_12 rfl ?_
    exact x_zret hC dX5_add_13 (by first | exact Or.inl rfl | exact Or.inr rfl | omega) (xI.mk (by first
      | (exact ⟨(if_neg c9).symm, FrI.rf, fun z => absurd z c9, fun _ => rfl⟩)
      | (refine ⟨(if_pos c9).symm, (FrI.rf.u (by omega)).u (by omega), fun _ => ⟨xU_at2, by omega, by omega, fun j j0 j1 => ?_⟩, fun z => absurd c9 z⟩
         by_cases hj : j = nt
         · subst hj; rw [xU_nk (by omega), xU_at2, up_at]; exact ⟨rfl, hc⟩
         · rw [xU_nk (by omega), xU_nj hj, up_ne hj]; exact e4 j j0 (by omega))))
set_option maxRecDepth 100000 in
set_option maxHeartbeats 4000000 in
theorem c_seenAdd {g : xG} {l : Launch} {S : List xS} {μ : xM} {a b : Int} {T : Int → Int} {sl : List (Int × Int)} (hP : xPre S) (hA : Sg μ T sl) (ha : 0 ≤ a ∧ a < T 3) (hb : 0 ≤ b ∧ b < T 0) : xCt g l yX3_add cX3_add 3 (some .boolean) 0 0 0 0 [vR g 78, vI a, vI b] S μ S (xI (fun r μ' => r = (if sl.length < 6 then 1 else 0) ∧ FrI 78 81 μ μ' ∧ (sl.length < 6 → Sg μ' T (sl ++ [(a, b)])) ∧ (¬ sl.length < 6 → μ' = μ))) := by
  refine x_enter (by decide) (Nat.le_of_ble_eq_true rfl) ?_
  intro zp ze zs zm za zb zh zc hC hz0
  have hA0 := hA
  obtain ⟨e1, e2, e3⟩ := hA
  refine x_aload_n (pc' := 1) hC dX3_add_0 rfl rfl ?_
  refine x_getI (j' := 2) (pc' := 4) hC kf_X3_18 dX3_add_1 (hP 78 _ rfl) rfl rfl rfl ?_
  rw [e1]
  refine x_bipush (pc' := 6) hC dX3_add_4 (by decide) rfl ?_
  refine x_icmp_lt (tgt := 11) (pc' := 9) hC dX3_add_6 (by decide) rfl (by omega) (by omega) (fun c6 => ?_) (fun c6 => ?_)
  · refine x_aload_n (pc' := 12) hC dX3_add_11 rfl rfl ?_
    refine x_getR (pc' := 15) (b := 79) hC kf_X3_9 dX3_add_12 (hP 78 _ rfl) rfl rfl ?_
    refine x_aload_n (pc' := 16) hC dX3_add_15 rfl rfl ?_
    refine x_getI (j' := 2) (pc' := 19) hC kf_X3_18 dX3_add_16 (hP 78 _ rfl) rfl rfl rfl ?_
    rw [e1]
    refine x_iload_n (pc' := 20) hC dX3_add_19 rfl rfl ?_
    refine x_iast (pc' := 21) hC dX3_add_20 (hP 79 _ rfl) (by omega) (by omega) rfl ?_
    refine x_aload_n (pc' := 22) hC dX3_add_21 rfl rfl ?_
    refine x_getR (pc' := 25) (b := 80) hC kf_X3_15 dX3_add_22 (hP 78 _ rfl) rfl rfl ?_
    refine x_aload_n (pc' := 26) hC dX3_add_25 rfl rfl ?_
    refine x_getI (j' := 2) (pc' := 29) hC kf_X3_18 dX3_add_26 (hP 78 _ rfl) rfl rfl rfl ?_
    rw [xU_nk (by omega), e1]
    refine x_iload_n (pc' := 30) hC dX3_add_29 rfl rfl ?_
    refine x_iast (pc' := 31) hC dX3_add_30 (hP 80 _ rfl) (by omega) (by omega) rfl ?_
    refine x_aload_n (pc' := 32) hC dX3_add_31 rfl rfl ?_
    refine x_dup (pc' := 33) hC dX3_add_32 rfl rfl ?_
    refine x_getI (j' := 2) (pc' := 36) hC kf_X3_18 dX3_add_33 (hP 78 _ rfl) rfl rfl rfl ?_
    rw [xU_nk (by omega), xU_nk (by omega), e1]
    refine x_iconst (pc' := 37) hC dX3_add_36 rfl ?_
    refine x_iadd (pc' := 38) hC dX3_add_37 rfl ?_
    refine x_putI (j' := 2) (pc' := 41) hC kf_X3_18 dX3_add_38 (hP 78 _ rfl) rfl rfl rfl rfl rfl ?_
    refine x_iconst (pc' := 42) hC dX3_add_41 rfl ?_
    exact x_zret hC dX3_add_42 (by first | exact Or.inl rfl | exact Or.inr rfl | omega) (xI.mk (by first
      | (exact ⟨(if_neg (by omega)).symm, FrI.rf, fun z => absurd z (by omega), fun _ => rfl⟩)
      | (exact ⟨(if_pos (by omega)).symm, ((FrI.rf.u (by omega)).u (by omega)).u (by omega), fun z => hA0.add z ha hb, fun z => absurd z (by omega)⟩)))
  · refine x_iconst (pc' := 10) hC dX3_add_9 rfl ?_
    exact x_zret hC dX3_add_10 (by first | exact Or.inl rfl | exact Or.inr rfl | omega) (xI.mk (by first
      | (exact ⟨(if_neg (by omega)).symm, FrI.rf, fun z => absurd z (by omega), fun _ => rfl⟩)
      | (exact ⟨(if_pos (by omega)).symm, ((FrI.rf.u (by omega)).u (by omega)).u (by omega), fun z => hA0.add z ha hb, fun z => absurd z (by omega)⟩)))
set_option maxRecDepth 100000 in
set_option maxHeartbeats 4000000 in
theorem c_allHold {g : xG} {l : Launch} {S : List xS} {μ : xM} {b pl : Nat} {T r : Int → Int} {sl : List (Int × Int)} (hP : xPre S) (hb : xStd S b pl) (hT : WT T) (hR : WR T r) (hA : Sg μ T sl) (hs : St μ b r) : xCt g l yX3_allHoldIn cX3_allHoldIn 3 (some .boolean) 0 0 0 0 [vR g 78, vR g b] S μ S (xI (fun a μ' => a = (if ∀ q ∈ sl, r (18 + q.1) = q.2 then 1 else 0) ∧ μ' = μ)) := by
  refine x_enter (by decide) (Nat.le_of_ble_eq_true rfl) ?_
  intro zp ze zs zm za zb zh zc hC hz0
  have t0 := hT.1
  have t1 := hT.2.1
  have t2 := hT.2.2.1
  have t3 := hT.2.2.2.1
  obtain ⟨e1, e2, e3⟩ := hA
  have loop : ∀ (zn : Nat) (k : Nat) (i : Int) (hi : i = k) (hk : k ≤ sl.length) (h1 : ∀ (j : Nat) (q : Int × Int), j < k → sl[j]? = some q → r (18 + q.1) = q.2), sl.length - k < zn → xX g 3 zp l ze { frames := 0, cells := 0, slots := 0, locals := 0 } zs zm za zb zh zc 0 0 (MQ zb (xQ g S (xI (fun a μ' => a = (if ∀ q ∈ sl, r (18 + q.1) = q.2 then 1 else 0) ∧ μ' = μ))) za zs 0 0 (xA0 g)) S μ 2 [some (vR g 78), some (vR g b), some (vI i)] [] := by
    intro zn
    induction zn with
    | zero => intros; rename_i hz; exact absurd hz (Nat.not_lt_zero _)
    | succ zn ih =>
      intro k i hi hk h1 hn
      subst hi
      refine x_iload_n (pc' := 3) hC dX3_allHoldIn_2 rfl rfl ?_
      refine x_aload_n (pc' := 4) hC dX3_allHoldIn_3 rfl rfl ?_
      refine x_getI (j' := 2) (pc' := 7) hC kf_X3_18 dX3_allHoldIn_4 (hP 78 _ rfl) rfl rfl rfl ?_
      rw [e1]
      refine x_icmp_ge (tgt := 38) (pc' := 10) hC dX3_allHoldIn_7 (by decide) rfl (by omega) (by omega) (fun c7 => ?_) (fun c7 => ?_)
      · refine x_iconst (pc' := 39) hC dX3_allHoldIn_38 rfl ?_
        exact x_zret hC dX3_allHoldIn_39 (by first | exact Or.inl rfl | exact Or.inr rfl | omega) (xI.mk (by first
      | (refine ⟨(if_pos (fun q hq => ?_)).symm, rfl⟩
         obtain ⟨j, hj⟩ := List.getElem?_of_mem hq
         exact h1 j q (by have := (List.getElem?_eq_some_iff.mp hj).1; omega) hj)
      | (exact ⟨(if_neg (fun z => c27 (z q (List.mem_of_getElem? hq)))).symm, rfl⟩)))
      · obtain ⟨q, hq⟩ : ∃ q, sl[k]? = some q := ⟨sl[k]'(by omega), List.getElem?_eq_getElem (by omega)⟩
        obtain ⟨f1, f2, f3, f4, f5, f6⟩ := e3 k q hq
        have f7 := hR.2.1 q.1 (by omega) (by omega)
        refine x_aload_n (pc' := 11) hC dX3_allHoldIn_10 rfl rfl ?_
        refine x_getR (pc' := 14) (b := b + 2) hC kf_X3_22 dX3_allHoldIn_11 hb.1 rfl rfl ?_
        refine x_aload_n (pc' := 15) hC dX3_allHoldIn_14 rfl rfl ?_
        refine x_getR (pc' := 18) (b := 79) hC kf_X3_9 dX3_allHoldIn_15 (hP 78 _ rfl) rfl rfl ?_
        refine x_iload_n (pc' := 19) hC dX3_allHoldIn_18 rfl rfl ?_
        refine x_iald (pc' := 20) hC dX3_allHoldIn_19 (hP 79 _ rfl) (by omega) (by decide) rfl ?_
        rw [f1]
        refine x_iald (pc' := 21) hC dX3_allHoldIn_20 hb.2.2.1 (by omega) (by decide) rfl ?_
        rw [hs.2.2.2.1 _ (by omega) (by omega)]
        refine x_aload_n (pc' := 22) hC dX3_allHoldIn_21 rfl rfl ?_
        refine x_getR (pc' := 25) (b := 80) hC kf_X3_15 dX3_allHoldIn_22 (hP 78 _ rfl) rfl rfl ?_
        refine x_iload_n (pc' := 26) hC dX3_allHoldIn_25 rfl rfl ?_
        refine x_iald (pc' := 27) hC dX3_allHoldIn_26 (hP 80 _ rfl) (by omega) (by decide) rfl ?_
        rw [f2]
        refine x_icmp_eq (tgt := 32) (pc' := 30) hC dX3_allHoldIn_27 (by decide) rfl (by omega) (by omega) (fun c27 => ?_) (fun c27 => ?_)
        · refine x_iinc (pc' := 35) hC dX3_allHoldIn_32 rfl (by decide) rfl rfl ?_
          refine x_goto (tgt := 2) hC dX3_allHoldIn_35 (by decide) ?_
          exact ih (k + 1) _ (by omega) (by omega) (fun j w hj hw => by rcases Nat.lt_or_ge j k with z | z; exact h1 j w z hw; have : j = k := (by omega); subst this; cases hq.symm.trans hw; exact c27) (by omega)
        · refine x_iconst (pc' := 31) hC dX3_allHoldIn_30 rfl ?_
          exact x_zret hC dX3_allHoldIn_31 (by first | exact Or.inl rfl | exact Or.inr rfl | omega) (xI.mk (by first
      | (refine ⟨(if_pos (fun q hq => ?_)).symm, rfl⟩
         obtain ⟨j, hj⟩ := List.getElem?_of_mem hq
         exact h1 j q (by have := (List.getElem?_eq_some_iff.mp hj).1; omega) hj)
      | (exact ⟨(if_neg (fun z => c27 (z q (List.mem_of_getElem? hq)))).symm, rfl⟩)))
  refine x_iconst (pc' := 1) hC dX3_allHoldIn_0 rfl ?_
  refine x_istore_n (pc' := 2) hC dX3_allHoldIn_1 (by decide) rfl rfl ?_
  exact loop (sl.length + 1) 0 _ rfl (by omega) (fun j q hj => absurd hj (Nat.not_lt_zero _)) (by omega)
set_option maxRecDepth 100000 in
set_option maxHeartbeats 4000000 in
theorem c_isFull {g : xG} {l : Launch} {S : List xS} {μ : xM} {c M : Nat} {T : Int → Int} {un : List (Int → Int)} (hs : xShf S c M) (hG : Ring μ c M un T) : xCt g l yX2_isFull cX2_isFull 1 (some .boolean) 0 0 0 0 [vR g c] S μ S (xI (fun a μ' => a = (if M ≤ un.length then 1 else 0) ∧ μ' = μ)) := by
  refine x_enter (by decide) (Nat.le_of_ble_eq_true rfl) ?_
  intro zp ze zs zm za zb zh zc hC hz0
  have hM := hs.2.2.1
  have hc := hs.2.2.2.2
  obtain ⟨e1, e2, nx, e3, e4, e5⟩ := hG
  refine x_aload_n (pc' := 1) hC dX2_isFull_0 rfl rfl ?_
  refine x_getI (j' := 1) (pc' := 4) hC kf_X2_7 dX2_isFull_1 hs.1 rfl rfl rfl ?_
  rw [e1]
  refine x_aload_n (pc' := 5) hC dX2_isFull_4 rfl rfl ?_
  refine x_getR (pc' := 8) (b := c + 1) hC kf_X2_24 dX2_isFull_5 hs.1 rfl rfl ?_
  refine x_alenR (n' := M) (pc' := 9) hC dX2_isFull_8 hs.2.1 (by rw [rowsOf_len]) rfl ?_
  refine x_icmp_lt (tgt := 16) (pc' := 12) hC dX2_isFull_9 (by decide) rfl (by omega) (by omega) (fun c9 => ?_) (fun c9 => ?_)
  · refine x_iconst (pc' := 17) hC dX2_isFull_16 rfl ?_
    exact x_zret hC dX2_isFull_17 (by first | exact Or.inl rfl | exact Or.inr rfl | omega) (xI.mk ⟨by first | rw [if_pos (by omega)] | rw [if_neg (by omega)], rfl⟩)
  · refine x_iconst (pc' := 13) hC dX2_isFull_12 rfl ?_
    refine x_goto (tgt := 17) hC dX2_isFull_13 (by decide) ?_
    exact x_zret hC dX2_isFull_17 (by first | exact Or.inl rfl | exact Or.inr rfl | omega) (xI.mk ⟨by first | rw [if_pos (by omega)] | rw [if_neg (by omega)], rfl⟩)
set_option maxRecDepth 100000 in
set_option maxHeartbeats 4000000 in
theorem c_put {g : xG} {l : Launch} {S : List xS} {μ : xM} {c M b2 pl2 : Nat} {T r : Int → Int} {un : List (Int → Int)} (hs : xShf S c M) (hb2 : xStd S b2 pl2) (hd : b2 + 5 ≤ c ∨ c + 2 + 5 * M ≤ b2) (hT : WT T) (hG : Ring μ c M un T) (hr : St μ b2 r) (hg : Gr μ b2 T) : xCt g l yX2_put cX2_put 2 none 2 61 0 0 [vR g c, vR g b2] S μ S (xN (fun μ' => FrI c (c + 2 + 5 * M) μ μ' ∧ Ring μ' c M ((r :: un).take M) T)) := by
  refine x_enter (by decide) (Nat.le_of_ble_eq_true rfl) ?_
  intro zp ze zs zm za zb zh zc hC hz0
  have hM := hs.2.2.1
  have hc := hs.2.2.2.2
  obtain ⟨e1, e2, nx, e3, e4, e5⟩ := hG
  have t3 := hT.2.2.2.1
  have hrow := hs.2.2.2.1 nx e4
  refine x_aload_n (pc' := 1) hC dX2_put_0 rfl rfl ?_
  refine x_getR (pc' := 4) (b := c + 1) hC kf_X2_24 dX2_put_1 hs.1 rfl rfl ?_
  refine x_aload_n (pc' := 5) hC dX2_put_4 rfl rfl ?_
  refine x_getI (j' := 2) (pc' := 8) hC kf_X2_13 dX2_put_5 hs.1 rfl rfl rfl ?_
  rw [e3]
  refine x_aald (pc' := 9) (b := c + 2 + 5 * nx) hC dX2_put_8 hs.2.1 (by rw [rowsOf_len]; omega) (by rw [rowsOf_len]; omega) (by rw [Int.toNat_natCast]; exact rowsOf_at e4) rfl ?_
  refine x_aload_n (pc' := 10) hC dX2_put_9 rfl rfl ?_
  refine x_callV (pc' := 13) (n := 1) hC (c_copy hrow hb2 (by omega) hr) ky_X4_copy kv_X4_copy kl_X2_31 dX2_put_10 (hs.2.2.2.1 nx e4).1 rfl rfl rfl rfl ⟨Nat.le_of_ble_eq_true rfl, Nat.le_of_ble_eq_true rfl⟩ (Nat.le_of_ble_eq_true rfl) ⟨Nat.le_refl _, Nat.le_refl _⟩ (Or.inl rfl) rfl (x_kn (fun μ10 h10 => ?_))
  refine x_aload_n (pc' := 14) hC dX2_put_13 rfl rfl ?_
  refine x_aload_n (pc' := 15) hC dX2_put_14 rfl rfl ?_
  refine x_getI (j' := 2) (pc' := 18) hC kf_X2_13 dX2_put_15 hs.1 rfl rfl rfl ?_
  rw [h10.1 _ _ (by omega), e3]
  refine x_iconst (pc' := 19) hC dX2_put_18 rfl ?_
  refine x_iadd (pc' := 20) hC dX2_put_19 rfl ?_
  refine x_aload_n (pc' := 21) hC dX2_put_20 rfl rfl ?_
  refine x_getR (pc' := 24) (b := c + 1) hC kf_X2_24 dX2_put_21 hs.1 rfl rfl ?_
  refine x_alenR (n' := M) (pc' := 25) hC dX2_put_24 hs.2.1 (by rw [rowsOf_len]) rfl ?_
  refine x_icmp_ge (tgt := 37) (pc' := 28) hC dX2_put_25 (by decide) rfl (by omega) (by omega) (fun c25 => ?_) (fun c25 => ?_)
  · refine x_iconst (pc' := 38) hC dX2_put_37 rfl ?_
    refine x_putI (j' := 2) (pc' := 41) hC kf_X2_13 dX2_put_38 hs.1 rfl rfl rfl rfl rfl ?_
    refine x_aload_n (pc' := 42) hC dX2_put_41 rfl rfl ?_
    refine x_aload_n (pc' := 43) hC dX2_put_42 rfl rfl ?_
    refine x_getI (j' := 1) (pc' := 46) hC kf_X2_7 dX2_put_43 hs.1 rfl rfl rfl ?_
    rw [xU_nj (by omega), h10.1 _ _ (by omega), e1]
    refine x_iconst (pc' := 47) hC dX2_put_46 rfl ?_
    refine x_iadd (pc' := 48) hC dX2_put_47 rfl ?_
    refine x_aload_n (pc' := 49) hC dX2_put_48 rfl rfl ?_
    refine x_getR (pc' := 52) (b := c + 1) hC kf_X2_24 dX2_put_49 hs.1 rfl rfl ?_
    refine x_alenR (n' := M) (pc' := 53) hC dX2_put_52 hs.2.1 (by rw [rowsOf_len]) rfl ?_
    refine x_mmin (pc' := 56) hC kl_X2_35 dX2_put_53 (by omega) (by omega) ⟨Nat.le_of_ble_eq_true rfl, Nat.le_of_ble_eq_true rfl⟩ (Nat.le_of_ble_eq_true rfl) ⟨Nat.le_refl _, Nat.le_refl _⟩ rfl ?_
    refine x_putI (j' := 1) (pc' := 59) hC kf_X2_7 dX2_put_56 hs.1 rfl rfl rfl rfl rfl ?_
    exact x_vret hC dX2_put_59 (xN.mk ⟨((h10.1.I.mono (by omega) (by omega)).u (by omega)).u (by omega), Ring.putL hM e2 e4 e5 h10.1 h10.2.1 (fun m m0 m1 => by rw [h10.2.2 m m0 (by omega), hg m m0 m1]) (by first | rw [if_pos (by omega)] | rw [if_neg (by omega)]) rfl⟩)
  · refine x_aload_n (pc' := 29) hC dX2_put_28 rfl rfl ?_
    refine x_getI (j' := 2) (pc' := 32) hC kf_X2_13 dX2_put_29 hs.1 rfl rfl rfl ?_
    rw [h10.1 _ _ (by omega), e3]
    refine x_iconst (pc' := 33) hC dX2_put_32 rfl ?_
    refine x_iadd (pc' := 34) hC dX2_put_33 rfl ?_
    refine x_goto (tgt := 38) hC dX2_put_34 (by decide) ?_
    refine x_putI (j' := 2) (pc' := 41) hC kf_X2_13 dX2_put_38 hs.1 rfl rfl rfl rfl rfl ?_
    refine x_aload_n (pc' := 42) hC dX2_put_41 rfl rfl ?_
    refine x_aload_n (pc' := 43) hC dX2_put_42 rfl rfl ?_
    refine x_getI (j' := 1) (pc' := 46) hC kf_X2_7 dX2_put_43 hs.1 rfl rfl rfl ?_
    rw [xU_nj (by omega), h10.1 _ _ (by omega), e1]
    refine x_iconst (pc' := 47) hC dX2_put_46 rfl ?_
    refine x_iadd (pc' := 48) hC dX2_put_47 rfl ?_
    refine x_aload_n (pc' := 49) hC dX2_put_48 rfl rfl ?_
    refine x_getR (pc' := 52) (b := c + 1) hC kf_X2_24 dX2_put_49 hs.1 rfl rfl ?_
    refine x_alenR (n' := M) (pc' := 53) hC dX2_put_52 hs.2.1 (by rw [rowsOf_len]) rfl ?_
    refine x_mmin (pc' := 56) hC kl_X2_35 dX2_put_53 (by omega) (by omega) ⟨Nat.le_of_ble_eq_true rfl, Nat.le_of_ble_eq_true rfl⟩ (Nat.le_of_ble_eq_true rfl) ⟨Nat.le_refl _, Nat.le_refl _⟩ rfl ?_
    refine x_putI (j' := 1) (pc' := 59) hC kf_X2_7 dX2_put_56 hs.1 rfl rfl rfl rfl rfl ?_
    exact x_vret hC dX2_put_59 (xN.mk ⟨((h10.1.I.mono (by omega) (by omega)).u (by omega)).u (by omega), Ring.putL hM e2 e4 e5 h10.1 h10.2.1 (fun m m0 m1 => by rw [h10.2.2 m m0 (by omega), hg m m0 m1]) (by first | rw [if_pos (by omega)] | rw [if_neg (by omega)]) rfl⟩)
set_option maxRecDepth 100000 in
set_option maxHeartbeats 4000000 in
theorem c_take0 {g : xG} {l : Launch} {S : List xS} {μ : xM} {c M b2 pl2 : Nat} {T r : Int → Int} {un : List (Int → Int)} (hs : xShf S c M) (hu : un = []) (hG : Ring μ c M un T) : xCt g l yX2_takeLatest cX2_takeLatest 2 (some .boolean) 2 61 0 0 [vR g c, vR g b2] S μ S (xI (fun a μ' => a = 0 ∧ μ' = μ)) := by
  refine x_enter (by decide) (Nat.le_of_ble_eq_true rfl) ?_
  intro zp ze zs zm za zb zh zc hC hz0
  subst hu
  have hM := hs.2.2.1
  have hc := hs.2.2.2.2
  obtain ⟨e1, e2, nx, e3, e4, e5⟩ := hG
  refine x_aload_n (pc' := 1) hC dX2_takeLatest_0 rfl rfl ?_
  refine x_getI (j' := 1) (pc' := 4) hC kf_X2_7 dX2_takeLatest_1 hs.1 rfl rfl rfl ?_
  rw [e1]
  refine x_if_ne (tgt := 9) (pc' := 7) hC dX2_takeLatest_4 (by decide) rfl (by simp) (fun c4 => ?_) (fun c4 => ?_)
  · exact absurd rfl c4
  · refine x_iconst (pc' := 8) hC dX2_takeLatest_7 rfl ?_
    exact x_zret hC dX2_takeLatest_8 (by first | exact Or.inl rfl | exact Or.inr rfl | omega) (xI.mk ⟨rfl, rfl⟩)
set_option maxRecDepth 100000 in
set_option maxHeartbeats 4000000 in
theorem c_take1 {g : xG} {l : Launch} {S : List xS} {μ : xM} {c M b2 pl2 : Nat} {T r : Int → Int} {un : List (Int → Int)} (hs : xShf S c M) {u : Int → Int} {un1 : List (Int → Int)} (hu : un = u :: un1) (hb2 : xStd S b2 pl2) (hd : b2 + 5 ≤ c ∨ c + 2 + 5 * M ≤ b2) (hT : WT T) (hG : Ring μ c M un T) : xCt g l yX2_takeLatest cX2_takeLatest 2 (some .boolean) 2 61 0 0 [vR g c, vR g b2] S μ S (xI (fun a μ' => a = 1 ∧ (∀ (k : Nat) (j : Int), k ≠ c → (k < b2 ∨ b2 + 5 ≤ k) → μ' k j = μ k j) ∧ St μ' b2 u ∧ Gr μ' b2 T ∧ Ring μ' c M un1 T)) := by
  refine x_enter (by decide) (Nat.le_of_ble_eq_true rfl) ?_
  intro zp ze zs zm za zb zh zc hC hz0
  subst hu
  have hM := hs.2.2.1
  have hc := hs.2.2.2.2
  obtain ⟨e1, e2, nx, e3, e4, e5⟩ := hG
  have t3 := hT.2.2.2.1
  rw [List.length_cons] at e1 e2
  have cut : ∀ (pv : Nat) (p0 : pv = (nx + M - 1 - 0) % M) (p1 : pv < M) (p2 : (pv : Int) = if 0 < (nx : Int) then (nx : Int) - 1 else M - 1), xX g 2 zp l ze { frames := 2, cells := 0, slots := 0, locals := 61 } zs zm za zb zh zc 0 0 (MQ zb (xQ g S (xI (fun a μ' => a = 1 ∧ (∀ (k : Nat) (j : Int), k ≠ c → (k < b2 ∨ b2 + 5 ≤ k) → μ' k j = μ k j) ∧ St μ' b2 u ∧ Gr μ' b2 T ∧ Ring μ' c M un1 T))) za zs 0 0 (xA0 g)) S ((xU μ c 2 pv)) 36 [some (vR g c), some (vR g b2)] [] := by
    intro pv p0 p1 p2
    obtain ⟨a1, a2⟩ := e5 0 u rfl
    rw [← p0] at a1 a2
    have hrow := hs.2.2.2.1 pv p1
    have w1 : FrI c (c + 1) μ (xU μ c 2 pv) := FrI.rf.u (by omega)
    refine x_aload_n (pc' := 37) hC dX2_takeLatest_36 rfl rfl ?_
    refine x_aload_n (pc' := 38) hC dX2_takeLatest_37 rfl rfl ?_
    refine x_getR (pc' := 41) (b := c + 1) hC kf_X2_24 dX2_takeLatest_38 hs.1 rfl rfl ?_
    refine x_aload_n (pc' := 42) hC dX2_takeLatest_41 rfl rfl ?_
    refine x_getI (j' := 2) (pc' := 45) hC kf_X2_13 dX2_takeLatest_42 hs.1 rfl rfl rfl ?_
    rw [xU_at2]
    refine x_aald (pc' := 46) (b := c + 2 + 5 * pv) hC dX2_takeLatest_45 hs.2.1 (by rw [rowsOf_len]; omega) (by rw [rowsOf_len]; omega) (by rw [Int.toNat_natCast]; exact rowsOf_at p1) rfl ?_
    refine x_callV (pc' := 49) (n := 1) hC (c_copy hb2 hrow (by omega) (a1.frI w1 (by omega))) ky_X4_copy kv_X4_copy kl_X2_31 dX2_takeLatest_46 hb2.1 rfl rfl rfl rfl ⟨Nat.le_of_ble_eq_true rfl, Nat.le_of_ble_eq_true rfl⟩ (Nat.le_of_ble_eq_true rfl) ⟨Nat.le_refl _, Nat.le_refl _⟩ (Or.inl rfl) rfl (x_kn (fun μ46 h46 => ?_))
    refine x_aload_n (pc' := 50) hC dX2_takeLatest_49 rfl rfl ?_
    refine x_dup (pc' := 51) hC dX2_takeLatest_50 rfl rfl ?_
    refine x_getI (j' := 1) (pc' := 54) hC kf_X2_7 dX2_takeLatest_51 hs.1 rfl rfl rfl ?_
    rw [h46.1 _ _ (by omega), xU_nj (by omega), e1]
    refine x_iconst (pc' := 55) hC dX2_takeLatest_54 rfl ?_
    refine x_isub (pc' := 56) hC dX2_takeLatest_55 rfl ?_
    refine x_putI (j' := 1) (pc' := 59) hC kf_X2_7 dX2_takeLatest_56 hs.1 rfl rfl rfl rfl rfl ?_
    refine x_iconst (pc' := 60) hC dX2_takeLatest_59 rfl ?_
    exact x_zret hC dX2_takeLatest_60 (by first | exact Or.inl rfl | exact Or.inr rfl | omega) (xI.mk ⟨rfl, fun k j k1 k2 => by rw [xU_nk k1, h46.1 _ _ (by omega), xU_nk k1], h46.2.1.frI (lo := c) (hi := c + 1) (FrI.rf.u (by omega)) (by omega), fun m m0 m1 => by rw [xU_nk (by omega), h46.2.2 m m0 (by omega), xU_nk (by omega), a2 m m0 m1], by
      have z := Ring.takeL (μ1 := μ46) (un := un1) (u := u) hM (by omega) e4 e5 (fun k j k0 k1 => by rw [h46.1 _ _ (by omega), xU_nk (by omega)]) p2 (by rw [h46.1 _ _ (by omega), xU_at2])
      rw [show (((un1.length + 1 : Nat) : Int) - 1) = un1.length by omega]
      exact z⟩)
  refine x_aload_n (pc' := 1) hC dX2_takeLatest_0 rfl rfl ?_
  refine x_getI (j' := 1) (pc' := 4) hC kf_X2_7 dX2_takeLatest_1 hs.1 rfl rfl rfl ?_
  rw [e1]
  refine x_if_ne (tgt := 9) (pc' := 7) hC dX2_takeLatest_4 (by decide) rfl (by omega) (fun c4 => ?_) (fun c4 => ?_)
  · refine x_aload_n (pc' := 10) hC dX2_takeLatest_9 rfl rfl ?_
    refine x_aload_n (pc' := 11) hC dX2_takeLatest_10 rfl rfl ?_
    refine x_getI (j' := 2) (pc' := 14) hC kf_X2_13 dX2_takeLatest_11 hs.1 rfl rfl rfl ?_
    rw [e3]
    refine x_if_le (tgt := 26) (pc' := 17) hC dX2_takeLatest_14 (by decide) rfl (by omega) (fun c14 => ?_) (fun c14 => ?_)
    · refine x_aload_n (pc' := 27) hC dX2_takeLatest_26 rfl rfl ?_
      refine x_getR (pc' := 30) (b := c + 1) hC kf_X2_24 dX2_takeLatest_27 hs.1 rfl rfl ?_
      refine x_alenR (n' := M) (pc' := 31) hC dX2_takeLatest_30 hs.2.1 (by rw [rowsOf_len]) rfl ?_
      refine x_iconst (pc' := 32) hC dX2_takeLatest_31 rfl ?_
      refine x_isub (pc' := 33) hC dX2_takeLatest_32 rfl ?_
      refine x_putI (j' := 2) (pc' := 36) hC kf_X2_13 dX2_takeLatest_33 hs.1 rfl rfl rfl rfl rfl ?_
      first | exact (show (nx : Int) - 1 = ((nx - 1 : Nat) : Int) by omega) ▸ cut (nx - 1) (by rcases hM with rfl | rfl <;> omega) (by omega) (by rw [if_pos (by omega)]; omega) | exact (show (M : Int) - 1 = ((M - 1 : Nat) : Int) by omega) ▸ cut (M - 1) (by rcases hM with rfl | rfl <;> omega) (by omega) (by rw [if_neg (by omega)]; omega)
    · refine x_aload_n (pc' := 18) hC dX2_takeLatest_17 rfl rfl ?_
      refine x_getI (j' := 2) (pc' := 21) hC kf_X2_13 dX2_takeLatest_18 hs.1 rfl rfl rfl ?_
      rw [e3]
      refine x_iconst (pc' := 22) hC dX2_takeLatest_21 rfl ?_
      refine x_isub (pc' := 23) hC dX2_takeLatest_22 rfl ?_
      refine x_goto (tgt := 33) hC dX2_takeLatest_23 (by decide) ?_
      refine x_putI (j' := 2) (pc' := 36) hC kf_X2_13 dX2_takeLatest_33 hs.1 rfl rfl rfl rfl rfl ?_
      first | exact (show (nx : Int) - 1 = ((nx - 1 : Nat) : Int) by omega) ▸ cut (nx - 1) (by rcases hM with rfl | rfl <;> omega) (by omega) (by rw [if_pos (by omega)]; omega) | exact (show (M : Int) - 1 = ((M - 1 : Nat) : Int) by omega) ▸ cut (M - 1) (by rcases hM with rfl | rfl <;> omega) (by omega) (by rw [if_neg (by omega)]; omega)
  · exact absurd c4 (by omega)
end
section
/-! the class's whole state, and what each call answers and leaves -/
def WRow (T r : Int → Int) : Prop := WR T r ∧ 0 ≤ r 0 ∧ r 0 ≤ 999 ∧ ∀ j : Int, T 0 ≤ j → j < 16 → r (2 + j) = 0
def WF (T r : Int → Int) (un kp : List (Int → Int)) : Prop := WT T ∧ WRow T r ∧ (∀ u ∈ un, WRow T u) ∧ ∀ u ∈ kp, WRow T u
def RC (μ : xM) (T r : Int → Int) (nt : Int) (tx : Int → Int) (un kp : List (Int → Int)) (sl : List (Int × Int)) : Prop := Tx μ nt tx ∧ SA μ 14 12 T r ∧ Ring μ 24 8 un T ∧ Ring μ 66 2 kp T ∧ Sg μ T sl
section RCS
variable {μ μ1 μ2 : xM} {T r r' : Int → Int} {nt : Int} {tx : Int → Int} {un un' kp kp' : List (Int → Int)} {sl : List (Int × Int)}
theorem RC.scr {lo hi : Nat} (h : RC μ T r nt tx un kp sl) (hf : FrI lo hi μ μ1) (hd : (3 ≤ lo ∧ hi ≤ 12) ∨ (19 ≤ lo ∧ hi ≤ 24) ∨ 81 ≤ lo) : RC μ1 T r nt tx un kp sl :=
  ⟨h.1.frI hf (by omega), h.2.1.frI hf (by omega) (by omega), h.2.2.1.frI (Or.inr rfl) hf (by omega), h.2.2.2.1.frI (Or.inl rfl) hf (by omega), h.2.2.2.2.frI hf (by omega)⟩
theorem RC.act (h : RC μ T r nt tx un kp sl) (h1 : FrI 24 66 μ μ1) (h2 : Ring μ1 24 8 un' T) (h3 : FrI 14 19 μ1 μ2) (h4 : St μ2 14 r') (h5 : Gr μ2 14 T) : RC μ2 T r' nt tx un' kp sl ∧ FrI 0 81 μ μ2 :=
  ⟨⟨(h.1.frI h1 (by omega)).frI h3 (by omega), ⟨(h.2.1.1.frI h1 (by omega)).frI h3 (by omega), h5, h4⟩, h2.frI (Or.inr rfl) h3 (by omega), (h.2.2.2.1.frI (Or.inl rfl) h1 (by omega)).frI (Or.inl rfl) h3 (by omega), (h.2.2.2.2.frI h1 (by omega)).frI h3 (by omega)⟩, (h1.mono (by omega) (by omega)).tr (h3.mono (by omega) (by omega))⟩
theorem RC.take {c : Nat} (h : RC μ T r nt tx un kp sl) (hc : c = 24 ∨ c = 66) (h1 : ∀ (k : Nat) (j : Int), k ≠ c → (k < 14 ∨ 14 + 5 ≤ k) → μ1 k j = μ k j) (h2 : St μ1 14 r') (h3 : Gr μ1 14 T) (h4 : Ring μ1 24 8 un' T) (h5 : Ring μ1 66 2 kp' T) : RC μ1 T r' nt tx un' kp' sl ∧ FrI 0 81 μ μ1 := by
  obtain ⟨⟨a1, a2, a3, a4⟩, ⟨⟨b1, b2, b3, b4, b5⟩, -⟩, -, -, ⟨c1, c2, c3⟩⟩ := h
  refine ⟨⟨⟨by rw [h1 _ _ (by omega) (by omega)]; exact a1, a2, a3, fun j j0 j1 => by rw [h1 _ _ (by omega) (by omega)]; exact a4 j j0 j1⟩, ⟨⟨?_, ?_, ?_, ?_, fun m m0 m1 => ?_⟩, h3, h2⟩, h4, h5, ⟨by rw [h1 _ _ (by omega) (by omega)]; exact c1, c2, fun i q hq => by rw [h1 _ _ (by omega) (by omega), h1 _ _ (by omega) (by omega)]; exact c3 i q hq⟩⟩, fun k j hk => h1 k j (by omega) (by omega)⟩
  · rw [h1 _ _ (by omega) (by omega)]; exact b1
  · rw [h1 _ _ (by omega) (by omega)]; exact b2
  · rw [h1 _ _ (by omega) (by omega)]; exact b3
  · rw [h1 _ _ (by omega) (by omega)]; exact b4
  · rw [h1 _ _ (by omega) (by omega)]; exact b5 m m0 m1
theorem Ring.off {c M c2 : Nat} (hM : M = 2 ∨ M = 8) (h : Ring μ c M un T) (h1 : ∀ (k : Nat) (j : Int), k ≠ c2 → (k < 14 ∨ 14 + 5 ≤ k) → μ1 k j = μ k j) (hc : 19 ≤ c) (hd : c2 < c ∨ c + 2 + 5 * M ≤ c2) : Ring μ1 c M un T := by
  obtain ⟨e1, e2, nx, e3, e4, e5⟩ := h
  refine ⟨by rw [h1 _ _ (by omega) (by omega), e1], e2, nx, by rw [h1 _ _ (by omega) (by omega), e3], e4, fun i u hu => ?_⟩
  obtain ⟨⟨a1, a2, a3, a4, a5⟩, a6⟩ := e5 i u hu
  have hl : (nx + M - 1 - i) % M < M := Nat.mod_lt _ (by omega)
  generalize (nx + M - 1 - i) % M = z at *
  refine ⟨⟨?_, ?_, fun j b1 b2 => ?_, fun j b1 b2 => ?_, fun j b1 b2 => ?_⟩, fun m b1 b2 => ?_⟩
  · rw [h1 _ _ (by omega) (by omega), a1]
  · rw [h1 _ _ (by omega) (by omega), a2]
  · rw [h1 _ _ (by omega) (by omega), a3 j b1 b2]
  · rw [h1 _ _ (by omega) (by omega), a4 j b1 b2]
  · rw [h1 _ _ (by omega) (by omega), a5 j b1 b2]
  · rw [h1 _ _ (by omega) (by omega), a6 m b1 b2]
end RCS
def aWrite (nt c : Int) : Int := if 32 ≤ c ∧ c ≤ 126 then (if nt < 200 then nt + 1 else -3) else -1
def okWrite (nt c : Int) : Bool := decide (32 ≤ c ∧ c ≤ 126 ∧ nt < 200)
def aMin (T r : Int → Int) (m w : Int) : Int := if 0 ≤ m ∧ m < T 3 then (if w = 0 then T (4 + m) else if w = 1 then r (18 + m) else if w = 2 then T (11 + m) else if w = 3 then r (25 + m) else if w = 4 then (if 0 < lack T r m then 1 else 0) else -1) else -1
def aStep (T r : Int → Int) (x w : Int) : Int := if 0 ≤ x ∧ x < T 0 then (if w = 0 then r (2 + x) else if w = 1 then (if hsb (T 1) x = true then 1 else 0) else if w = 2 then (if hsb (T 2) x = true then 1 else 0) else if w = 3 then cnt r x (T 3).toNat else -1) else -1
def push (r : Int → Int) (un : List (Int → Int)) : List (Int → Int) := (r :: un).take 8
def okPass (r : Int → Int) (n : Int) : Prop := (1 ≤ n ∧ n ≤ 40) ∧ ¬ 999 < r 0 + n
def aPass (T r : Int → Int) (n : Int) : Int := if 1 ≤ n ∧ n ≤ 40 then (if 999 < r 0 + n then -2 else goYears T n.toNat r 0) else -1
def okWax (T r : Int → Int) (x : Int) : Prop := (0 ≤ x ∧ x < T 0) ∧ ¬ (9 ≤ r (2 + x) ∨ r 1 < 1)
def rWax (r : Int → Int) (x : Int) : Int → Int := waxBy (up r 1 (r 1 - 1)) x 1
def aWax (T r : Int → Int) (x : Int) : Int := if 0 ≤ x ∧ x < T 0 then (if 9 ≤ r (2 + x) ∨ r 1 < 1 then -2 else rWax r x (2 + x)) else -1
def okSand (T r : Int → Int) (x : Int) : Prop := (0 ≤ x ∧ x < T 0) ∧ ¬ (r (2 + x) = 0 ∨ r 1 < 2)
def rSand (r : Int → Int) (x : Int) : Int → Int := waxBy (up r 1 (r 1 - 2)) x (-2)
def aSand (T r : Int → Int) (x : Int) : Int := if 0 ≤ x ∧ x < T 0 then (if r (2 + x) = 0 ∨ r 1 < 2 then -2 else rSand r x (2 + x)) else -1
def okHelp (T r : Int → Int) (m : Int) : Prop := (0 ≤ m ∧ m < T 3) ∧ ¬ r (18 + m) = 0
def rHelp (r : Int → Int) (m : Int) : Int → Int := up r (18 + m) 0
def aHelp (T r : Int → Int) (m : Int) : Int := if 0 ≤ m ∧ m < T 3 then (if r (18 + m) = 0 then -2 else r (18 + m)) else -1
def aBehind (T r : Int → Int) (n m w : Int) : Int := if (0 ≤ n ∧ n ≤ 40) ∧ (0 ≤ m ∧ m < T 3) ∧ (0 ≤ w ∧ w ≤ 2) then (if w = 0 then goYears T n.toNat r (18 + m) else if w = 1 then gov T (goYears T n.toNat r) else goYears T n.toNat r (25 + m)) else -1
def aSlide (T r : Int → Int) (m : Int) : Int := if 0 ≤ m ∧ m < T 3 then goYear T r (18 + m) else -1
def topF (T : Int → Int) (m : Int) : Nat → Int → (Int → Int) → Int
  | 0, _, _ => -4
  | k + 1, n, r => if r (18 + m) = T 0 - 1 then n else topF T m k (n + 1) (goYear T r)
def aTop (T r : Int → Int) (m : Int) : Int := if 0 ≤ m ∧ m < T 3 then topF T m 41 0 r else -1
def toppleF (T r : Int → Int) (m : Int) : Nat → Int → Int
  | 0, _ => -4
  | k + 1, v => if r (2 + r (18 + m)) + v ≤ 9 then (if 0 < lack T (goN T (up r (2 + r (18 + m)) (r (2 + r (18 + m)) + v)) m.toNat) m then v else toppleF T r m k (v + 1)) else -4
def aTopple (T r : Int → Int) (m : Int) : Int := if 0 ≤ m ∧ m < T 3 then toppleF T r m 11 0 else -1
def govBy (T r : Int → Int) (m n x v : Int) : Prop := r (2 + x) + v ≤ 9 ∧ gov T (goYears T n.toNat (up r (2 + x) (r (2 + x) + v))) = m
/-- the first place from x on (k left) at which P holds -/
def firstX (P : Int → Bool) : Nat → Int → Int
  | 0, _ => -1
  | k + 1, x => if P x = true then x else firstX P k (x + 1)
/-- the first v from v on (k left), and the first place with it: v, place; v -1: none -/
def firstVX (P : Int → Int → Bool) (N : Nat) : Nat → Int → Int × Int
  | 0, _ => (-1, -1)
  | k + 1, v => if firstX (P v) N 0 = -1 then firstVX P N k (v + 1) else (v, firstX (P v) N 0)
def pick (p : Int × Int) (w : Int) : Int := if p.1 = -1 then -4 else if w = 0 then p.1 else p.2
def plotB (T r : Int → Int) (m n v x : Int) : Bool := decide (r (2 + x) + v ≤ 9) && decide (gov T (goYears T n.toNat (up r (2 + x) (r (2 + x) + v))) = m)
def aPlot (T r : Int → Int) (m n w : Int) : Int := if (0 ≤ m ∧ m < T 3) ∧ (1 ≤ n ∧ n ≤ 9) ∧ (0 ≤ w ∧ w ≤ 1) then (if plotB T r m n 0 0 = true then (if w = 0 then 0 else -4) else pick (firstVX (plotB T r m n) (T 0).toNat 9 1) w) else -1
/-- does g govern behind each of n YEARS -/
def holdsF (T : Int → Int) (g : Int) : Nat → (Int → Int) → Bool
  | 0, _ => true
  | k + 1, r => decide (gov T (goYear T r) = g) && holdsF T g k (goYear T r)
def holdB (T r : Int → Int) (n v x : Int) : Bool := holdsF T (gov T r) n.toNat (waxBy r x (-2 * v))
def aHold (T r : Int → Int) (n w : Int) : Int := if (1 ≤ n ∧ n ≤ 9) ∧ (0 ≤ w ∧ w ≤ 1) then (if holdB T r n 0 0 = true then (if w = 0 then 0 else -4) else pick (firstVX (holdB T r n) (T 0).toNat 5 1) w) else -1
/-- how many bits a set below 128 has -/
def popN : Nat → Nat → Int
  | 0, _ => 0
  | f + 1, k => ((k % 2 : Nat) : Int) + popN f (k / 2)
def pop (k : Int) : Int := popN 8 k.toNat
def cabF (T r : Int → Int) (all : Int) : Nat → Int
  | 0 => all
  | k + 1 => if wgt r all (T 3).toNat < 2 * wgt r (k : Int) (T 3).toNat ∧ pop (k : Int) < pop (cabF T r all k) then (k : Int) else cabF T r all k
def allSet (T : Int → Int) : Int := iShl 1 (T 3) - 1
def cab (T r : Int → Int) : Int := cabF T r (allSet T) (allSet T).toNat
def aCab (T r : Int → Int) (w : Int) : Int := if 0 ≤ w ∧ w ≤ 1 then (if w = 0 then pop (cab T r) else cab T r) else -1
def okSeen (T : Int → Int) (sl : List (Int × Int)) (m x : Int) : Prop := ((0 ≤ m ∧ m < T 3) ∧ (0 ≤ x ∧ x < T 0)) ∧ sl.length < 6
def aSeen (T : Int → Int) (sl : List (Int × Int)) (m x : Int) : Int := if (0 ≤ m ∧ m < T 3) ∧ (0 ≤ x ∧ x < T 0) then (if sl.length < 6 then sl.length + 1 else -3) else -1
def seenB (r : Int → Int) (sl : List (Int × Int)) : Bool := decide (∀ q ∈ sl, r (18 + q.1) = q.2)
/-- the bits of the values below k for which P holds -/
def bitsF (P : Int → Bool) : Nat → Int
  | 0 => 0
  | k + 1 => iOr (bitsF P k) (if P (k : Int) = true then iShl 1 k else 0)
def aWaxes (T r : Int → Int) (sl : List (Int × Int)) (x : Int) : Int := if 0 ≤ x ∧ x < T 0 then bitsF (fun w => seenB (goYear T (up r (2 + x) w)) sl) 10 else -1
def aGrips (T r : Int → Int) (sl : List (Int × Int)) (m : Int) : Int := if 0 ≤ m ∧ m < T 3 then bitsF (fun v => seenB (goYear (up T (11 + m) v) r) sl) 10 else -1
/-- n YEARS, ahead of each the WAX by the bits of a path -/
def pathF (T : Int → Int) (path : Int) : Nat → Nat → (Int → Int) → (Int → Int)
  | 0, _, r => r
  | k + 1, y, r => pathF T path k (y + 1) (goYear T (if hsb path y = true then waxBy r (r (18 + gov T r)) 2 else r))
def powI (b : Int) : Nat → Int
  | 0 => 1
  | k + 1 => powI b k * b
/-- the chance of a path -/
def chanceF (x path : Int) : Nat → Int
  | 0 => 1
  | k + 1 => chanceF x path k * (if hsb path k = true then x else 10 - x)
def aboveF (T r : Int → Int) (m x : Int) (n : Nat) : Nat → Int
  | 0 => 0
  | k + 1 => aboveF T r m x n k + (if gov T (pathF T k n 0 r) = m then chanceF x k n else 0)
def aLikely (T r : Int → Int) (m n x w : Int) : Int := if (0 ≤ m ∧ m < T 3) ∧ (0 ≤ n ∧ n ≤ 6) ∧ (0 ≤ x ∧ x ≤ 10) ∧ (0 ≤ w ∧ w ≤ 1) then (if w = 0 then aboveF T r m x n.toNat (2 ^ n.toNat) else powI 10 n.toNat) / (Int.gcd (aboveF T r m x n.toNat (2 ^ n.toNat)) (powI 10 n.toNat) : Int) else -1
def drawF (z y : Int) : Int := ((7919 * z + 6151 * y + 1) * (7919 * z + 6151 * y + 1) % 65521) / 2
/-- a CENTURY: who governs, how often another one did -/
def cenF (T : Int → Int) (z : Int) : Nat → Int → (Int → Int) → Int → Int → Int × Int
  | 0, _, _, g, c => (g, c)
  | k + 1, y, r, g, c => cenF T z k (y + 1) (goYear T (weath T r (drawF z y))) (gov T (goYear T (weath T r (drawF z y)))) (if gov T (goYear T (weath T r (drawF z y))) = g then c else c + 1)
def aCentury (T r : Int → Int) (z n w : Int) : Int := if (0 ≤ z ∧ z ≤ 9999) ∧ (1 ≤ n ∧ n ≤ 60) ∧ (0 ≤ w ∧ w ≤ 1) then (if w = 0 then (cenF T z n.toNat 0 r (gov T r) 0).1 else (cenF T z n.toNat 0 r (gov T r) 0).2) else -1
def aKeep (kp : List (Int → Int)) : Int := if 2 ≤ kp.length then -3 else kp.length + 1
def kKeep (r : Int → Int) (kp : List (Int → Int)) : List (Int → Int) := if 2 ≤ kp.length then kp else r :: kp
def aCount (T r : Int → Int) (nt : Int) (un kp : List (Int → Int)) (sl : List (Int × Int)) (w : Int) : Int := if w = 0 then T 3 else if w = 1 then T 0 else if w = 2 then r 0 else if w = 3 then r 1 else if w = 4 then sumW r (T 0).toNat else if w = 5 then sl.length else if w = 6 then un.length else if w = 7 then kp.length else if w = 8 then nt else -1
end
section
set_option maxRecDepth 100000 in
set_option maxHeartbeats 4000000 in
theorem c_within {g : xG} {l : Launch} {S : List xS} {μ : xM} {a b c : Int} (ha : -2147483648 ≤ a ∧ a < 2147483648) (hb : -2147483648 ≤ b ∧ b < 2147483648) (hc : -2147483648 ≤ c ∧ c < 2147483648) : xCt g l yX6_within cX6_within 3 (some .boolean) 0 0 0 0 [vI a, vI b, vI c] S μ S (xI (fun x μ' => x = (if b ≤ a ∧ a ≤ c then 1 else 0) ∧ μ' = μ)) := by
  refine x_enter (by decide) (Nat.le_of_ble_eq_true rfl) ?_
  intro zp ze zs zm za zb zh zc hC hz0
  refine x_iload_n (pc' := 1) hC dX6_within_0 rfl rfl ?_
  refine x_iload_n (pc' := 2) hC dX6_within_1 rfl rfl ?_
  refine x_icmp_lt (tgt := 14) (pc' := 5) hC dX6_within_2 (by decide) rfl (by omega) (by omega) (fun c2 => ?_) (fun c2 => ?_)
  · refine x_iconst (pc' := 15) hC dX6_within_14 rfl ?_
    exact x_zret hC dX6_within_15 (by first | exact Or.inl rfl | exact Or.inr rfl | omega) (xI.mk ⟨by first | rw [if_pos (by omega)] | rw [if_neg (by omega)], rfl⟩)
  · refine x_iload_n (pc' := 6) hC dX6_within_5 rfl rfl ?_
    refine x_iload_n (pc' := 7) hC dX6_within_6 rfl rfl ?_
    refine x_icmp_gt (tgt := 14) (pc' := 10) hC dX6_within_7 (by decide) rfl (by omega) (by omega) (fun c7 => ?_) (fun c7 => ?_)
    · refine x_iconst (pc' := 15) hC dX6_within_14 rfl ?_
      exact x_zret hC dX6_within_15 (by first | exact Or.inl rfl | exact Or.inr rfl | omega) (xI.mk ⟨by first | rw [if_pos (by omega)] | rw [if_neg (by omega)], rfl⟩)
    · refine x_iconst (pc' := 11) hC dX6_within_10 rfl ?_
      refine x_goto (tgt := 15) hC dX6_within_11 (by decide) ?_
      exact x_zret hC dX6_within_15 (by first | exact Or.inl rfl | exact Or.inr rfl | omega) (xI.mk ⟨by first | rw [if_pos (by omega)] | rw [if_neg (by omega)], rfl⟩)
set_option maxRecDepth 100000 in
set_option maxHeartbeats 4000000 in
theorem k_write {g : xG} {l : Launch} {S : List xS} {μ : xM} {T r : Int → Int} {nt : Int} {tx : Int → Int} {un kp : List (Int → Int)} {sl : List (Int × Int)} {c : Int} (hP : xPre S) (hA : RC μ T r nt tx un kp sl) (hF : WF T r un kp) (hc : -2147483648 ≤ c ∧ c < 2147483648) : xCt g l yX6_write cX6_write 2 (some .int) 1 22 0 0 [vR g 0, vI c] S μ S (xI (fun a μ' => a = aWrite nt c ∧ RC μ' T r (if okWrite nt c = true then nt + 1 else nt) (if okWrite nt c = true then up tx nt c else tx) un kp sl ∧ FrI 0 81 μ μ')) := by
  refine x_enter (by decide) (Nat.le_of_ble_eq_true rfl) ?_
  intro zp ze zs zm za zb zh zc hC hz0
  have hT := hF.1
  have hR := hF.2.1.1
  have hy := hF.2.1.2
  have t0 := hT.1
  have t1 := hT.2.1
  have t2 := hT.2.2.1
  have t3 := hT.2.2.2.1
  have hN := hA.2.1
  have hm := hN.mi
  have hs := hN.sp
  refine x_iload_n (pc' := 1) hC dX6_write_0 rfl rfl ?_
  refine x_bipush (pc' := 3) hC dX6_write_1 (by decide) rfl ?_
  refine x_bipush (pc' := 5) hC dX6_write_3 (by decide) rfl ?_
  refine x_callS (pc' := 8) (n := 3) hC (c_within (by omega) (by omega) (by omega)) ky_X6_within ks_X6_within kl_X6_84 dX6_write_5 rfl rfl ⟨Nat.le_of_ble_eq_true rfl, Nat.le_of_ble_eq_true rfl⟩ (Nat.le_of_ble_eq_true rfl) ⟨Nat.le_refl _, Nat.le_refl _⟩ (Or.inl rfl) rfl (x_kd ?_)
  refine x_ifb_ne (tgt := 13) (pc' := 11) hC dX6_write_8 (by decide) rfl (fun c8 => ?_) (fun c8 => ?_)
  · refine x_aload_n (pc' := 14) hC dX6_write_13 rfl rfl ?_
    refine x_getR (pc' := 17) (b := 1) hC kf_X6_10 dX6_write_14 (hP 0 _ rfl) rfl rfl ?_
    refine x_iload_n (pc' := 18) hC dX6_write_17 rfl rfl ?_
    refine x_i2c (pc' := 19) hC dX6_write_18 (by omega) rfl ?_
    refine x_callV (pc' := 22) (n := 1) hC (c_textAdd hP hA.1 (by omega)) ky_X5_add kv_X5_add kl_X6_73 dX6_write_19 (hP 1 _ rfl) rfl rfl rfl rfl ⟨Nat.le_of_ble_eq_true rfl, Nat.le_of_ble_eq_true rfl⟩ (Nat.le_of_ble_eq_true rfl) ⟨Nat.le_refl _, Nat.le_refl _⟩ (Or.inl rfl) rfl (x_kv (fun μ19 h19 => ?_))
    refine x_ifb_eq (tgt := 35) (pc' := 25) hC dX6_write_22 (by decide) rfl (fun c22 => ?_) (fun c22 => ?_)
    · refine x_bipush (pc' := 37) hC dX6_write_35 (by decide) rfl ?_
      exact x_iret hC dX6_write_37 (xI.mk (by first
      | (refine ⟨by unfold aWrite; rw [if_pos (by omega), if_pos (by omega)], ?_, h19.1.mono (by omega) (by omega)⟩
         rw [if_pos (by simp [okWrite]; omega), if_pos (by simp [okWrite]; omega)]
         exact ⟨h19.2.1 (by omega), hA.2.1.frI h19.1 (by omega) (by omega), hA.2.2.1.frI (Or.inr rfl) h19.1 (by omega), hA.2.2.2.1.frI (Or.inl rfl) h19.1 (by omega), hA.2.2.2.2.frI h19.1 (by omega)⟩)
      | (refine ⟨by unfold aWrite; rw [if_pos (by omega), if_neg (by omega)], ?_, h19.1.mono (by omega) (by omega)⟩
         rw [if_neg (by simp [okWrite]; omega), if_neg (by simp [okWrite]; omega), h19.2.2 (by omega)]
         exact hA)))
    · refine x_aload_n (pc' := 26) hC dX6_write_25 rfl rfl ?_
      refine x_getR (pc' := 29) (b := 1) hC kf_X6_10 dX6_write_26 (hP 0 _ rfl) rfl rfl ?_
      refine x_getI (j' := 1) (pc' := 32) hC kf_X6_81 dX6_write_29 (hP 1 _ rfl) rfl rfl rfl ?_
      rw [(h19.2.1 c22).1]
      refine x_goto (tgt := 37) hC dX6_write_32 (by decide) ?_
      exact x_iret hC dX6_write_37 (xI.mk (by first
      | (refine ⟨by unfold aWrite; rw [if_pos (by omega), if_pos (by omega)], ?_, h19.1.mono (by omega) (by omega)⟩
         rw [if_pos (by simp [okWrite]; omega), if_pos (by simp [okWrite]; omega)]
         exact ⟨h19.2.1 (by omega), hA.2.1.frI h19.1 (by omega) (by omega), hA.2.2.1.frI (Or.inr rfl) h19.1 (by omega), hA.2.2.2.1.frI (Or.inl rfl) h19.1 (by omega), hA.2.2.2.2.frI h19.1 (by omega)⟩)
      | (refine ⟨by unfold aWrite; rw [if_pos (by omega), if_neg (by omega)], ?_, h19.1.mono (by omega) (by omega)⟩
         rw [if_neg (by simp [okWrite]; omega), if_neg (by simp [okWrite]; omega), h19.2.2 (by omega)]
         exact hA)))
  · refine x_iconst (pc' := 12) hC dX6_write_11 rfl ?_
    exact x_iret hC dX6_write_12 (xI.mk ⟨by unfold aWrite; rw [if_neg c8], by rw [if_neg (by simp [okWrite]; omega), if_neg (by simp [okWrite]; omega)]; exact hA, FrI.rf⟩)
set_option maxRecDepth 100000 in
set_option maxHeartbeats 4000000 in
theorem k_wipe {g : xG} {l : Launch} {S : List xS} {μ : xM} {T r : Int → Int} {nt : Int} {tx : Int → Int} {un kp : List (Int → Int)} {sl : List (Int × Int)} (hP : xPre S) (hA : RC μ T r nt tx un kp sl) (hF : WF T r un kp) : xCt g l yX6_wipe cX6_wipe 2 (some .int) 0 0 0 0 [vR g 0] S μ S (xI (fun a μ' => a = nt ∧ RC μ' T r 0 tx un kp sl ∧ FrI 0 81 μ μ')) := by
  refine x_enter (by decide) (Nat.le_of_ble_eq_true rfl) ?_
  intro zp ze zs zm za zb zh zc hC hz0
  have hT := hF.1
  have hR := hF.2.1.1
  have hy := hF.2.1.2
  have t0 := hT.1
  have t1 := hT.2.1
  have t2 := hT.2.2.1
  have t3 := hT.2.2.2.1
  have hN := hA.2.1
  have hm := hN.mi
  have hs := hN.sp
  refine x_aload_n (pc' := 1) hC dX6_wipe_0 rfl rfl ?_
  refine x_getR (pc' := 4) (b := 1) hC kf_X6_10 dX6_wipe_1 (hP 0 _ rfl) rfl rfl ?_
  refine x_getI (j' := 1) (pc' := 7) hC kf_X6_81 dX6_wipe_4 (hP 1 _ rfl) rfl rfl rfl ?_
  rw [hA.1.1]
  refine x_istore_n (pc' := 8) hC dX6_wipe_7 (by decide) rfl rfl ?_
  refine x_aload_n (pc' := 9) hC dX6_wipe_8 rfl rfl ?_
  refine x_getR (pc' := 12) (b := 1) hC kf_X6_10 dX6_wipe_9 (hP 0 _ rfl) rfl rfl ?_
  refine x_iconst (pc' := 13) hC dX6_wipe_12 rfl ?_
  refine x_putI (j' := 1) (pc' := 16) hC kf_X6_81 dX6_wipe_13 (hP 1 _ rfl) rfl rfl rfl rfl rfl ?_
  refine x_iload_n (pc' := 17) hC dX6_wipe_16 rfl rfl ?_
  exact x_iret hC dX6_wipe_17 (xI.mk ⟨rfl, ⟨⟨xU_at2, by omega, by omega, fun j j0 j1 => absurd j1 (by omega)⟩, hA.2.1.frI (lo := 1) (hi := 2) (FrI.rf.u (by omega)) (by omega) (by omega), hA.2.2.1.frI (lo := 1) (hi := 2) (Or.inr rfl) (FrI.rf.u (by omega)) (by omega), hA.2.2.2.1.frI (lo := 1) (hi := 2) (Or.inl rfl) (FrI.rf.u (by omega)) (by omega), hA.2.2.2.2.frI (lo := 1) (hi := 2) (FrI.rf.u (by omega)) (by omega)⟩, FrI.rf.u (by omega)⟩)
set_option maxRecDepth 100000 in
set_option maxHeartbeats 4000000 in
theorem k_minister {g : xG} {l : Launch} {S : List xS} {μ : xM} {T r : Int → Int} {nt : Int} {tx : Int → Int} {un kp : List (Int → Int)} {sl : List (Int × Int)} {m w : Int} (hP : xPre S) (hA : RC μ T r nt tx un kp sl) (hF : WF T r un kp) (hm : -2147483648 ≤ m ∧ m < 2147483648) (hw : -2147483648 ≤ w ∧ w < 2147483648) : xCt g l yX6_minister cX6_minister 3 (some .int) 2 44 0 0 [vR g 0, vI m, vI w] S μ S (xI (fun a μ' => a = aMin T r m w ∧ RC μ' T r nt tx un kp sl ∧ FrI 0 81 μ μ')) := by
  refine x_enter (by decide) (Nat.le_of_ble_eq_true rfl) ?_
  intro zp ze zs zm za zb zh zc hC hz0
  have hT := hF.1
  have hR := hF.2.1.1
  have hy := hF.2.1.2
  have t0 := hT.1
  have t1 := hT.2.1
  have t2 := hT.2.2.1
  have t3 := hT.2.2.2.1
  have hN := hA.2.1
  have hm := hN.mi
  have hs := hN.sp
  refine x_aload_n (pc' := 1) hC dX6_minister_0 rfl rfl ?_
  refine x_getR (pc' := 4) (b := 12) hC kf_X6_26 dX6_minister_1 (hP 0 _ rfl) rfl rfl ?_
  refine x_iload_n (pc' := 5) hC dX6_minister_4 rfl rfl ?_
  refine x_callV (pc' := 8) (n := 1) hC (c_hasMinister (T := T) (sPl hP) hN.1 hT (by omega)) ky_X0_hasMinister kv_X0_hasMinister kl_X6_95 dX6_minister_5 (hP 12 _ rfl) rfl rfl rfl rfl ⟨Nat.le_of_ble_eq_true rfl, Nat.le_of_ble_eq_true rfl⟩ (Nat.le_of_ble_eq_true rfl) ⟨Nat.le_refl _, Nat.le_refl _⟩ (Or.inl rfl) rfl (x_kd ?_)
  refine x_ifb_ne (tgt := 13) (pc' := 11) hC dX6_minister_8 (by decide) rfl (fun c8 => ?_) (fun c8 => ?_)
  · have q3 := lack_rg hT hR c8
    refine x_iload_n (pc' := 14) hC dX6_minister_13 rfl rfl ?_
    have w14 : w = 0 ∨ w = 1 ∨ w = 2 ∨ w = 3 ∨ w = 4 ∨ (w < 0 ∨ 4 < w) := by omega
    rcases w14 with w14 | w14 | w14 | w14 | w14 | w14
    · refine x_tabIn (off := 34) (tgt := 48) hC dX6_minister_14 (by omega) (by omega) (by rw [w14]; rfl) (by decide) ?_
      refine x_aload_n (pc' := 49) hC dX6_minister_48 rfl rfl ?_
      refine x_getR (pc' := 52) (b := 12) hC kf_X6_26 dX6_minister_49 (hP 0 _ rfl) rfl rfl ?_
      refine x_getR (pc' := 55) (b := 13) hC kf_X6_99 dX6_minister_52 (hP 12 _ rfl) rfl rfl ?_
      refine x_iload_n (pc' := 56) hC dX6_minister_55 rfl rfl ?_
      refine x_iald (pc' := 57) hC dX6_minister_56 (hP 13 _ rfl) (by omega) (by decide) rfl ?_
      rw [hN.kd c8.1 c8.2]
      exact x_iret hC dX6_minister_57 (xI.mk ⟨by unfold aMin; first | rw [if_neg c8] | (rw [if_pos c8]; first | rw [if_neg (by omega), if_neg (by omega), if_neg (by omega), if_neg (by omega), if_neg (by omega)] | (rw [if_neg (by omega), if_neg (by omega), if_neg (by omega), if_neg (by omega), if_pos w14]; first | rw [if_pos (by omega)] | rw [if_neg (by omega)]) | rw [if_neg (by omega), if_neg (by omega), if_neg (by omega), if_pos w14] | rw [if_neg (by omega), if_neg (by omega), if_pos w14] | rw [if_neg (by omega), if_pos w14] | rw [if_pos w14]), hA, FrI.rf⟩)
    · refine x_tabIn (off := 44) (tgt := 58) hC dX6_minister_14 (by omega) (by omega) (by rw [w14]; rfl) (by decide) ?_
      refine x_aload_n (pc' := 59) hC dX6_minister_58 rfl rfl ?_
      refine x_getR (pc' := 62) (b := 14) hC kf_X6_35 dX6_minister_59 (hP 0 _ rfl) rfl rfl ?_
      refine x_getR (pc' := 65) (b := 16) hC kf_X6_103 dX6_minister_62 (hP 14 _ rfl) rfl rfl ?_
      refine x_iload_n (pc' := 66) hC dX6_minister_65 rfl rfl ?_
      refine x_iald (pc' := 67) hC dX6_minister_66 (hP 16 _ rfl) (by omega) (by decide) rfl ?_
      rw [hN.pc c8.1 (by omega)]
      exact x_iret hC dX6_minister_67 (xI.mk ⟨by unfold aMin; first | rw [if_neg c8] | (rw [if_pos c8]; first | rw [if_neg (by omega), if_neg (by omega), if_neg (by omega), if_neg (by omega), if_neg (by omega)] | (rw [if_neg (by omega), if_neg (by omega), if_neg (by omega), if_neg (by omega), if_pos w14]; first | rw [if_pos (by omega)] | rw [if_neg (by omega)]) | rw [if_neg (by omega), if_neg (by omega), if_neg (by omega), if_pos w14] | rw [if_neg (by omega), if_neg (by omega), if_pos w14] | rw [if_neg (by omega), if_pos w14] | rw [if_pos w14]), hA, FrI.rf⟩)
    · refine x_tabIn (off := 54) (tgt := 68) hC dX6_minister_14 (by omega) (by omega) (by rw [w14]; rfl) (by decide) ?_
      refine x_aload_n (pc' := 69) hC dX6_minister_68 rfl rfl ?_
      refine x_getR (pc' := 72) (b := 14) hC kf_X6_35 dX6_minister_69 (hP 0 _ rfl) rfl rfl ?_
      refine x_getR (pc' := 75) (b := 17) hC kf_X6_106 dX6_minister_72 (hP 14 _ rfl) rfl rfl ?_
      refine x_iload_n (pc' := 76) hC dX6_minister_75 rfl rfl ?_
      refine x_iald (pc' := 77) hC dX6_minister_76 (hP 17 _ rfl) (by omega) (by decide) rfl ?_
      rw [hN.gp c8.1 c8.2]
      exact x_iret hC dX6_minister_77 (xI.mk ⟨by unfold aMin; first | rw [if_neg c8] | (rw [if_pos c8]; first | rw [if_neg (by omega), if_neg (by omega), if_neg (by omega), if_neg (by omega), if_neg (by omega)] | (rw [if_neg (by omega), if_neg (by omega), if_neg (by omega), if_neg (by omega), if_pos w14]; first | rw [if_pos (by omega)] | rw [if_neg (by omega)]) | rw [if_neg (by omega), if_neg (by omega), if_neg (by omega), if_pos w14] | rw [if_neg (by omega), if_neg (by omega), if_pos w14] | rw [if_neg (by omega), if_pos w14] | rw [if_pos w14]), hA, FrI.rf⟩)
    · refine x_tabIn (off := 64) (tgt := 78) hC dX6_minister_14 (by omega) (by omega) (by rw [w14]; rfl) (by decide) ?_
      refine x_aload_n (pc' := 79) hC dX6_minister_78 rfl rfl ?_
      refine x_getR (pc' := 82) (b := 14) hC kf_X6_35 dX6_minister_79 (hP 0 _ rfl) rfl rfl ?_
      refine x_getR (pc' := 85) (b := 18) hC kf_X6_109 dX6_minister_82 (hP 14 _ rfl) rfl rfl ?_
      refine x_iload_n (pc' := 86) hC dX6_minister_85 rfl rfl ?_
      refine x_iald (pc' := 87) hC dX6_minister_86 (hP 18 _ rfl) (by omega) (by decide) rfl ?_
      rw [hN.rg c8.1 (by omega)]
      exact x_iret hC dX6_minister_87 (xI.mk ⟨by unfold aMin; first | rw [if_neg c8] | (rw [if_pos c8]; first | rw [if_neg (by omega), if_neg (by omega), if_neg (by omega), if_neg (by omega), if_neg (by omega)] | (rw [if_neg (by omega), if_neg (by omega), if_neg (by omega), if_neg (by omega), if_pos w14]; first | rw [if_pos (by omega)] | rw [if_neg (by omega)]) | rw [if_neg (by omega), if_neg (by omega), if_neg (by omega), if_pos w14] | rw [if_neg (by omega), if_neg (by omega), if_pos w14] | rw [if_neg (by omega), if_pos w14] | rw [if_pos w14]), hA, FrI.rf⟩)
    · refine x_tabIn (off := 74) (tgt := 88) hC dX6_minister_14 (by omega) (by omega) (by rw [w14]; rfl) (by decide) ?_
      refine x_aload_n (pc' := 89) hC dX6_minister_88 rfl rfl ?_
      refine x_getR (pc' := 92) (b := 14) hC kf_X6_35 dX6_minister_89 (hP 0 _ rfl) rfl rfl ?_
      refine x_iload_n (pc' := 93) hC dX6_minister_92 rfl rfl ?_
      refine x_callV (pc' := 96) (n := 1) hC (c_speedOf (sNow hP) hN hT hR c8) ky_X4_speedOf kv_X4_speedOf kl_X6_112 dX6_minister_93 (hP 14 _ rfl) rfl rfl rfl rfl ⟨Nat.le_of_ble_eq_true rfl, Nat.le_of_ble_eq_true rfl⟩ (Nat.le_of_ble_eq_true rfl) ⟨Nat.le_refl _, Nat.le_refl _⟩ (Or.inl rfl) rfl (x_kd ?_)
      refine x_if_le (tgt := 103) (pc' := 99) hC dX6_minister_96 (by decide) rfl (by omega) (fun c96 => ?_) (fun c96 => ?_)
      · refine x_iconst (pc' := 104) hC dX6_minister_103 rfl ?_
        exact x_iret hC dX6_minister_104 (xI.mk ⟨by unfold aMin; first | rw [if_neg c8] | (rw [if_pos c8]; first | rw [if_neg (by omega), if_neg (by omega), if_neg (by omega), if_neg (by omega), if_neg (by omega)] | (rw [if_neg (by omega), if_neg (by omega), if_neg (by omega), if_neg (by omega), if_pos w14]; first | rw [if_pos (by omega)] | rw [if_neg (by omega)]) | rw [if_neg (by omega), if_neg (by omega), if_neg (by omega), if_pos w14] | rw [if_neg (by omega), if_neg (by omega), if_pos w14] | rw [if_neg (by omega), if_pos w14] | rw [if_pos w14]), hA, FrI.rf⟩)
      · refine x_iconst (pc' := 100) hC dX6_minister_99 rfl ?_
        refine x_goto (tgt := 104) hC dX6_minister_100 (by decide) ?_
        exact x_iret hC dX6_minister_104 (xI.mk ⟨by unfold aMin; first | rw [if_neg c8] | (rw [if_pos c8]; first | rw [if_neg (by omega), if_neg (by omega), if_neg (by omega), if_neg (by omega), if_neg (by omega)] | (rw [if_neg (by omega), if_neg (by omega), if_neg (by omega), if_neg (by omega), if_pos w14]; first | rw [if_pos (by omega)] | rw [if_neg (by omega)]) | rw [if_neg (by omega), if_neg (by omega), if_neg (by omega), if_pos w14] | rw [if_neg (by omega), if_neg (by omega), if_pos w14] | rw [if_neg (by omega), if_pos w14] | rw [if_pos w14]), hA, FrI.rf⟩)
    · refine x_tabOut (tgt := 105) hC dX6_minister_14 (by omega) (by omega) (by decide) ?_
      refine x_iconst (pc' := 106) hC dX6_minister_105 rfl ?_
      exact x_iret hC dX6_minister_106 (xI.mk ⟨by unfold aMin; first | rw [if_neg c8] | (rw [if_pos c8]; first | rw [if_neg (by omega), if_neg (by omega), if_neg (by omega), if_neg (by omega), if_neg (by omega)] | (rw [if_neg (by omega), if_neg (by omega), if_neg (by omega), if_neg (by omega), if_pos w14]; first | rw [if_pos (by omega)] | rw [if_neg (by omega)]) | rw [if_neg (by omega), if_neg (by omega), if_neg (by omega), if_pos w14] | rw [if_neg (by omega), if_neg (by omega), if_pos w14] | rw [if_neg (by omega), if_pos w14] | rw [if_pos w14]), hA, FrI.rf⟩)
  · refine x_iconst (pc' := 12) hC dX6_minister_11 rfl ?_
    exact x_iret hC dX6_minister_12 (xI.mk ⟨by unfold aMin; first | rw [if_neg c8] | (rw [if_pos c8]; first | rw [if_neg (by omega), if_neg (by omega), if_neg (by omega), if_neg (by omega), if_neg (by omega)] | (rw [if_neg (by omega), if_neg (by omega), if_neg (by omega), if_neg (by omega), if_pos w14]; first | rw [if_pos (by omega)] | rw [if_neg (by omega)]) | rw [if_neg (by omega), if_neg (by omega), if_neg (by omega), if_pos w14] | rw [if_neg (by omega), if_neg (by omega), if_pos w14] | rw [if_neg (by omega), if_pos w14] | rw [if_pos w14]), hA, FrI.rf⟩)
set_option maxRecDepth 100000 in
set_option maxHeartbeats 4000000 in
theorem k_step {g : xG} {l : Launch} {S : List xS} {μ : xM} {T r : Int → Int} {nt : Int} {tx : Int → Int} {un kp : List (Int → Int)} {sl : List (Int × Int)} {x w : Int} (hP : xPre S) (hA : RC μ T r nt tx un kp sl) (hF : WF T r un kp) (hx : -2147483648 ≤ x ∧ x < 2147483648) (hw : -2147483648 ≤ w ∧ w < 2147483648) : xCt g l yX6_step cX6_step 3 (some .int) 1 23 0 0 [vR g 0, vI x, vI w] S μ S (xI (fun a μ' => a = aStep T r x w ∧ RC μ' T r nt tx un kp sl ∧ FrI 0 81 μ μ')) := by
  refine x_enter (by decide) (Nat.le_of_ble_eq_true rfl) ?_
  intro zp ze zs zm za zb zh zc hC hz0
  have hT := hF.1
  have hR := hF.2.1.1
  have hy := hF.2.1.2
  have t0 := hT.1
  have t1 := hT.2.1
  have t2 := hT.2.2.1
  have t3 := hT.2.2.2.1
  have hN := hA.2.1
  have hm := hN.mi
  have hs := hN.sp
  refine x_aload_n (pc' := 1) hC dX6_step_0 rfl rfl ?_
  refine x_getR (pc' := 4) (b := 12) hC kf_X6_26 dX6_step_1 (hP 0 _ rfl) rfl rfl ?_
  refine x_iload_n (pc' := 5) hC dX6_step_4 rfl rfl ?_
  refine x_callV (pc' := 8) (n := 1) hC (c_hasStep (T := T) (sPl hP) hN.1 ⟨hT.1, hT.2.1⟩ (by omega)) ky_X0_hasStep kv_X0_hasStep kl_X6_116 dX6_step_5 (hP 12 _ rfl) rfl rfl rfl rfl ⟨Nat.le_of_ble_eq_true rfl, Nat.le_of_ble_eq_true rfl⟩ (Nat.le_of_ble_eq_true rfl) ⟨Nat.le_refl _, Nat.le_refl _⟩ (Or.inl rfl) rfl (x_kd ?_)
  refine x_ifb_ne (tgt := 13) (pc' := 11) hC dX6_step_8 (by decide) rfl (fun c8 => ?_) (fun c8 => ?_)
  · refine x_iload_n (pc' := 14) hC dX6_step_13 rfl rfl ?_
    have w14 : w = 0 ∨ w = 1 ∨ w = 2 ∨ w = 3 ∨ (w < 0 ∨ 3 < w) := by omega
    rcases w14 with w14 | w14 | w14 | w14 | w14
    · refine x_tabIn (off := 30) (tgt := 44) hC dX6_step_14 (by omega) (by omega) (by rw [w14]; rfl) (by decide) ?_
      refine x_aload_n (pc' := 45) hC dX6_step_44 rfl rfl ?_
      refine x_getR (pc' := 48) (b := 14) hC kf_X6_35 dX6_step_45 (hP 0 _ rfl) rfl rfl ?_
      refine x_getR (pc' := 51) (b := 15) hC kf_X6_119 dX6_step_48 (hP 14 _ rfl) rfl rfl ?_
      refine x_iload_n (pc' := 52) hC dX6_step_51 rfl rfl ?_
      refine x_iald (pc' := 53) hC dX6_step_52 (hP 15 _ rfl) (by omega) (by decide) rfl ?_
      rw [hN.wx c8.1 (by omega)]
      exact x_iret hC dX6_step_53 (xI.mk ⟨by unfold aStep; first | rw [if_neg c8] | (rw [if_pos c8]; first | rw [if_neg (by omega), if_neg (by omega), if_neg (by omega), if_neg (by omega)] | rw [if_neg (by omega), if_neg (by omega), if_neg (by omega), if_pos w14] | (rw [if_neg (by omega), if_neg (by omega), if_pos w14]; first | rw [if_pos c79] | rw [if_neg c79]) | (rw [if_neg (by omega), if_pos w14]; first | rw [if_pos c62] | rw [if_neg c62]) | rw [if_pos w14]), hA, FrI.rf⟩)
    · refine x_tabIn (off := 40) (tgt := 54) hC dX6_step_14 (by omega) (by omega) (by rw [w14]; rfl) (by decide) ?_
      refine x_aload_n (pc' := 55) hC dX6_step_54 rfl rfl ?_
      refine x_getR (pc' := 58) (b := 12) hC kf_X6_26 dX6_step_55 (hP 0 _ rfl) rfl rfl ?_
      refine x_iload_n (pc' := 59) hC dX6_step_58 rfl rfl ?_
      refine x_callV (pc' := 62) (n := 1) hC (c_hasKnob (T := T) (sPl hP) hN.1) ky_X0_hasKnob kv_X0_hasKnob kl_X6_122 dX6_step_59 (hP 12 _ rfl) rfl rfl rfl rfl ⟨Nat.le_of_ble_eq_true rfl, Nat.le_of_ble_eq_true rfl⟩ (Nat.le_of_ble_eq_true rfl) ⟨Nat.le_refl _, Nat.le_refl _⟩ (Or.inl rfl) rfl (x_kd ?_)
      refine x_ifb_eq (tgt := 69) (pc' := 65) hC dX6_step_62 (by decide) rfl (fun c62 => ?_) (fun c62 => ?_)
      · refine x_iconst (pc' := 70) hC dX6_step_69 rfl ?_
        exact x_iret hC dX6_step_70 (xI.mk ⟨by unfold aStep; first | rw [if_neg c8] | (rw [if_pos c8]; first | rw [if_neg (by omega), if_neg (by omega), if_neg (by omega), if_neg (by omega)] | rw [if_neg (by omega), if_neg (by omega), if_neg (by omega), if_pos w14] | (rw [if_neg (by omega), if_neg (by omega), if_pos w14]; first | rw [if_pos c79] | rw [if_neg c79]) | (rw [if_neg (by omega), if_pos w14]; first | rw [if_pos c62] | rw [if_neg c62]) | rw [if_pos w14]), hA, FrI.rf⟩)
      · refine x_iconst (pc' := 66) hC dX6_step_65 rfl ?_
        refine x_goto (tgt := 70) hC dX6_step_66 (by decide) ?_
        exact x_iret hC dX6_step_70 (xI.mk ⟨by unfold aStep; first | rw [if_neg c8] | (rw [if_pos c8]; first | rw [if_neg (by omega), if_neg (by omega), if_neg (by omega), if_neg (by omega)] | rw [if_neg (by omega), if_neg (by omega), if_neg (by omega), if_pos w14] | (rw [if_neg (by omega), if_neg (by omega), if_pos w14]; first | rw [if_pos c79] | rw [if_neg c79]) | (rw [if_neg (by omega), if_pos w14]; first | rw [if_pos c62] | rw [if_neg c62]) | rw [if_pos w14]), hA, FrI.rf⟩)
    · refine x_tabIn (off := 57) (tgt := 71) hC dX6_step_14 (by omega) (by omega) (by rw [w14]; rfl) (by decide) ?_
      refine x_aload_n (pc' := 72) hC dX6_step_71 rfl rfl ?_
      refine x_getR (pc' := 75) (b := 12) hC kf_X6_26 dX6_step_72 (hP 0 _ rfl) rfl rfl ?_
      refine x_iload_n (pc' := 76) hC dX6_step_75 rfl rfl ?_
      refine x_callV (pc' := 79) (n := 1) hC (c_hasTurn (T := T) (sPl hP) hN.1) ky_X0_hasTurn kv_X0_hasTurn kl_X6_125 dX6_step_76 (hP 12 _ rfl) rfl rfl rfl rfl ⟨Nat.le_of_ble_eq_true rfl, Nat.le_of_ble_eq_true rfl⟩ (Nat.le_of_ble_eq_true rfl) ⟨Nat.le_refl _, Nat.le_refl _⟩ (Or.inl rfl) rfl (x_kd ?_)
      refine x_ifb_eq (tgt := 86) (pc' := 82) hC dX6_step_79 (by decide) rfl (fun c79 => ?_) (fun c79 => ?_)
      · refine x_iconst (pc' := 87) hC dX6_step_86 rfl ?_
        exact x_iret hC dX6_step_87 (xI.mk ⟨by unfold aStep; first | rw [if_neg c8] | (rw [if_pos c8]; first | rw [if_neg (by omega), if_neg (by omega), if_neg (by omega), if_neg (by omega)] | rw [if_neg (by omega), if_neg (by omega), if_neg (by omega), if_pos w14] | (rw [if_neg (by omega), if_neg (by omega), if_pos w14]; first | rw [if_pos c79] | rw [if_neg c79]) | (rw [if_neg (by omega), if_pos w14]; first | rw [if_pos c62] | rw [if_neg c62]) | rw [if_pos w14]), hA, FrI.rf⟩)
      · refine x_iconst (pc' := 83) hC dX6_step_82 rfl ?_
        refine x_goto (tgt := 87) hC dX6_step_83 (by decide) ?_
        exact x_iret hC dX6_step_87 (xI.mk ⟨by unfold aStep; first | rw [if_neg c8] | (rw [if_pos c8]; first | rw [if_neg (by omega), if_neg (by omega), if_neg (by omega), if_neg (by omega)] | rw [if_neg (by omega), if_neg (by omega), if_neg (by omega), if_pos w14] | (rw [if_neg (by omega), if_neg (by omega), if_pos w14]; first | rw [if_pos c79] | rw [if_neg c79]) | (rw [if_neg (by omega), if_pos w14]; first | rw [if_pos c62] | rw [if_neg c62]) | rw [if_pos w14]), hA, FrI.rf⟩)
    · refine x_tabIn (off := 74) (tgt := 88) hC dX6_step_14 (by omega) (by omega) (by rw [w14]; rfl) (by decide) ?_
      refine x_aload_n (pc' := 89) hC dX6_step_88 rfl rfl ?_
      refine x_getR (pc' := 92) (b := 14) hC kf_X6_35 dX6_step_89 (hP 0 _ rfl) rfl rfl ?_
      refine x_iload_n (pc' := 93) hC dX6_step_92 rfl rfl ?_
      refine x_callV (pc' := 96) (n := 1) hC (c_howManyOn (sNow hP) hN hT hR (by omega)) ky_X4_howManyOn kv_X4_howManyOn kl_X6_128 dX6_step_93 (hP 14 _ rfl) rfl rfl rfl rfl ⟨Nat.le_of_ble_eq_true rfl, Nat.le_of_ble_eq_true rfl⟩ (Nat.le_of_ble_eq_true rfl) ⟨Nat.le_refl _, Nat.le_refl _⟩ (Or.inl rfl) rfl (x_kd ?_)
      exact x_iret hC dX6_step_96 (xI.mk ⟨by unfold aStep; first | rw [if_neg c8] | (rw [if_pos c8]; first | rw [if_neg (by omega), if_neg (by omega), if_neg (by omega), if_neg (by omega)] | rw [if_neg (by omega), if_neg (by omega), if_neg (by omega), if_pos w14] | (rw [if_neg (by omega), if_neg (by omega), if_pos w14]; first | rw [if_pos c79] | rw [if_neg c79]) | (rw [if_neg (by omega), if_pos w14]; first | rw [if_pos c62] | rw [if_neg c62]) | rw [if_pos w14]), hA, FrI.rf⟩)
    · refine x_tabOut (tgt := 97) hC dX6_step_14 (by omega) (by omega) (by decide) ?_
      refine x_iconst (pc' := 98) hC dX6_step_97 rfl ?_
      exact x_iret hC dX6_step_98 (xI.mk ⟨by unfold aStep; first | rw [if_neg c8] | (rw [if_pos c8]; first | rw [if_neg (by omega), if_neg (by omega), if_neg (by omega), if_neg (by omega)] | rw [if_neg (by omega), if_neg (by omega), if_neg (by omega), if_pos w14] | (rw [if_neg (by omega), if_neg (by omega), if_pos w14]; first | rw [if_pos c79] | rw [if_neg c79]) | (rw [if_neg (by omega), if_pos w14]; first | rw [if_pos c62] | rw [if_neg c62]) | rw [if_pos w14]), hA, FrI.rf⟩)
  · refine x_iconst (pc' := 12) hC dX6_step_11 rfl ?_
    exact x_iret hC dX6_step_12 (xI.mk ⟨by unfold aStep; first | rw [if_neg c8] | (rw [if_pos c8]; first | rw [if_neg (by omega), if_neg (by omega), if_neg (by omega), if_neg (by omega)] | rw [if_neg (by omega), if_neg (by omega), if_neg (by omega), if_pos w14] | (rw [if_neg (by omega), if_neg (by omega), if_pos w14]; first | rw [if_pos c79] | rw [if_neg c79]) | (rw [if_neg (by omega), if_pos w14]; first | rw [if_pos c62] | rw [if_neg c62]) | rw [if_pos w14]), hA, FrI.rf⟩)
set_option maxRecDepth 100000 in
set_option maxHeartbeats 4000000 in
theorem k_pass {g : xG} {l : Launch} {S : List xS} {μ : xM} {T r : Int → Int} {nt : Int} {tx : Int → Int} {un kp : List (Int → Int)} {sl : List (Int × Int)} {n : Int} (hP : xPre S) (hA : RC μ T r nt tx un kp sl) (hF : WF T r un kp) (hn : -2147483648 ≤ n ∧ n < 2147483648) : xCt g l yX6_pass cX6_pass 2 (some .int) 5 113 0 0 [vR g 0, vI n] S μ S (xI (fun a μ' => a = aPass T r n ∧ (okPass r n → RC μ' T (goYears T n.toNat r) nt tx (push r un) kp sl) ∧ (¬ okPass r n → RC μ' T r nt tx un kp sl) ∧ FrI 0 81 μ μ')) := by
  refine x_enter (by decide) (Nat.le_of_ble_eq_true rfl) ?_
  intro zp ze zs zm za zb zh zc hC hz0
  have hT := hF.1
  have hR := hF.2.1.1
  have hy := hF.2.1.2
  have t0 := hT.1
  have t1 := hT.2.1
  have t2 := hT.2.2.1
  have t3 := hT.2.2.2.1
  have hN := hA.2.1
  have hm := hN.mi
  have hs := hN.sp
  refine x_iload_n (pc' := 1) hC dX6_pass_0 rfl rfl ?_
  refine x_iconst (pc' := 2) hC dX6_pass_1 rfl ?_
  refine x_bipush (pc' := 4) hC dX6_pass_2 (by decide) rfl ?_
  refine x_callS (pc' := 7) (n := 3) hC (c_within (by omega) (by omega) (by omega)) ky_X6_within ks_X6_within kl_X6_84 dX6_pass_4 rfl rfl ⟨Nat.le_of_ble_eq_true rfl, Nat.le_of_ble_eq_true rfl⟩ (Nat.le_of_ble_eq_true rfl) ⟨Nat.le_refl _, Nat.le_refl _⟩ (Or.inl rfl) rfl (x_kd ?_)
  refine x_ifb_ne (tgt := 12) (pc' := 10) hC dX6_pass_7 (by decide) rfl (fun c7 => ?_) (fun c7 => ?_)
  · refine x_aload_n (pc' := 13) hC dX6_pass_12 rfl rfl ?_
    refine x_getR (pc' := 16) (b := 14) hC kf_X6_35 dX6_pass_13 (hP 0 _ rfl) rfl rfl ?_
    refine x_getI (j' := 6) (pc' := 19) hC kf_X6_131 dX6_pass_16 (hP 14 _ rfl) rfl rfl rfl ?_
    rw [hN.yr]
    refine x_iload_n (pc' := 20) hC dX6_pass_19 rfl rfl ?_
    refine x_iadd (pc' := 21) hC dX6_pass_20 rfl ?_
    refine x_sipush (pc' := 24) hC dX6_pass_21 (by decide) rfl ?_
    refine x_icmp_le (tgt := 30) (pc' := 27) hC dX6_pass_24 (by decide) rfl (by omega) (by omega) (fun c24 => ?_) (fun c24 => ?_)
    · refine x_aload_n (pc' := 31) hC dX6_pass_30 rfl rfl ?_
      refine x_getR (pc' := 34) (b := 24) hC kf_X6_47 dX6_pass_31 (hP 0 _ rfl) rfl rfl ?_
      refine x_aload_n (pc' := 35) hC dX6_pass_34 rfl rfl ?_
      refine x_getR (pc' := 38) (b := 14) hC kf_X6_35 dX6_pass_35 (hP 0 _ rfl) rfl rfl ?_
      refine x_callV (pc' := 41) (n := 1) hC (c_put (sUnd hP) (sNow hP) (by omega) hT hA.2.2.1 hN.2.2 hN.2.1) ky_X2_put kv_X2_put kl_X6_134 dX6_pass_38 (hP 24 _ rfl) rfl rfl rfl rfl ⟨Nat.le_of_ble_eq_true rfl, Nat.le_of_ble_eq_true rfl⟩ (Nat.le_of_ble_eq_true rfl) ⟨Nat.le_refl _, Nat.le_refl _⟩ (Or.inl rfl) rfl (x_kn (fun μ38 h38 => ?_))
      refine x_aload_n (pc' := 42) hC dX6_pass_41 rfl rfl ?_
      refine x_getR (pc' := 45) (b := 14) hC kf_X6_35 dX6_pass_42 (hP 0 _ rfl) rfl rfl ?_
      refine x_iload_n (pc' := 46) hC dX6_pass_45 rfl rfl ?_
      refine x_callV (pc' := 49) (n := 1) hC (c_goOn (N := n.toNat) (sNow hP) (hN.frI h38.1 (by omega) (by omega)) hT hR (by omega) (by omega)) ky_X4_goOn kv_X4_goOn kl_X6_138 dX6_pass_46 (hP 14 _ rfl) rfl rfl rfl rfl ⟨Nat.le_of_ble_eq_true rfl, Nat.le_of_ble_eq_true rfl⟩ (Nat.le_of_ble_eq_true rfl) ⟨Nat.le_refl _, Nat.le_refl _⟩ (Or.inl rfl) rfl (x_kn (fun μ46 h46 => ?_))
      refine x_aload_n (pc' := 50) hC dX6_pass_49 rfl rfl ?_
      refine x_getR (pc' := 53) (b := 14) hC kf_X6_35 dX6_pass_50 (hP 0 _ rfl) rfl rfl ?_
      refine x_getI (j' := 6) (pc' := 56) hC kf_X6_131 dX6_pass_53 (hP 14 _ rfl) rfl rfl rfl ?_
      rw [h46.2.1]
      exact x_iret hC dX6_pass_56 (xI.mk (by
      have z := hA.act h38.1 h38.2 h46.1.I h46.2 ((hN.2.1.frI h38.1 (by omega)).fr h46.1)
      exact ⟨by unfold aPass; rw [if_pos c7, if_neg (by omega)], fun _ => z.1, fun y => absurd ⟨c7, by omega⟩ y, z.2⟩))
    · refine x_bipush (pc' := 29) hC dX6_pass_27 (by decide) rfl ?_
      exact x_iret hC dX6_pass_29 (xI.mk ⟨by unfold aPass; rw [if_pos c7, if_pos (by omega)], fun z => absurd (by omega) z.2, fun _ => hA, FrI.rf⟩)
  · refine x_iconst (pc' := 11) hC dX6_pass_10 rfl ?_
    exact x_iret hC dX6_pass_11 (xI.mk ⟨by unfold aPass; rw [if_neg c7], fun z => absurd z.1 c7, fun _ => hA, FrI.rf⟩)
set_option maxRecDepth 100000 in
set_option maxHeartbeats 4000000 in
theorem k_wax {g : xG} {l : Launch} {S : List xS} {μ : xM} {T r : Int → Int} {nt : Int} {tx : Int → Int} {un kp : List (Int → Int)} {sl : List (Int × Int)} {x : Int} (hP : xPre S) (hA : RC μ T r nt tx un kp sl) (hF : WF T r un kp) (hx : -2147483648 ≤ x ∧ x < 2147483648) : xCt g l yX6_wax cX6_wax 2 (some .int) 3 82 0 0 [vR g 0, vI x] S μ S (xI (fun a μ' => a = aWax T r x ∧ (okWax T r x → RC μ' T (rWax r x) nt tx (push r un) kp sl) ∧ (¬ okWax T r x → RC μ' T r nt tx un kp sl) ∧ FrI 0 81 μ μ')) := by
  refine x_enter (by decide) (Nat.le_of_ble_eq_true rfl) ?_
  intro zp ze zs zm za zb zh zc hC hz0
  have hT := hF.1
  have hR := hF.2.1.1
  have hy := hF.2.1.2
  have t0 := hT.1
  have t1 := hT.2.1
  have t2 := hT.2.2.1
  have t3 := hT.2.2.2.1
  have hN := hA.2.1
  have hm := hN.mi
  have hs := hN.sp
  have hR2 := hR.2.2
  refine x_aload_n (pc' := 1) hC dX6_wax_0 rfl rfl ?_
  refine x_getR (pc' := 4) (b := 12) hC kf_X6_26 dX6_wax_1 (hP 0 _ rfl) rfl rfl ?_
  refine x_iload_n (pc' := 5) hC dX6_wax_4 rfl rfl ?_
  refine x_callV (pc' := 8) (n := 1) hC (c_hasStep (T := T) (sPl hP) hN.1 ⟨hT.1, hT.2.1⟩ (by omega)) ky_X0_hasStep kv_X0_hasStep kl_X6_116 dX6_wax_5 (hP 12 _ rfl) rfl rfl rfl rfl ⟨Nat.le_of_ble_eq_true rfl, Nat.le_of_ble_eq_true rfl⟩ (Nat.le_of_ble_eq_true rfl) ⟨Nat.le_refl _, Nat.le_refl _⟩ (Or.inl rfl) rfl (x_kd ?_)
  refine x_ifb_ne (tgt := 13) (pc' := 11) hC dX6_wax_8 (by decide) rfl (fun c8 => ?_) (fun c8 => ?_)
  · have q3 := hR.1 x (by omega) (by omega)
    refine x_aload_n (pc' := 14) hC dX6_wax_13 rfl rfl ?_
    refine x_getR (pc' := 17) (b := 14) hC kf_X6_35 dX6_wax_14 (hP 0 _ rfl) rfl rfl ?_
    refine x_getR (pc' := 20) (b := 15) hC kf_X6_119 dX6_wax_17 (hP 14 _ rfl) rfl rfl ?_
    refine x_iload_n (pc' := 21) hC dX6_wax_20 rfl rfl ?_
    refine x_iald (pc' := 22) hC dX6_wax_21 (hP 15 _ rfl) (by omega) (by decide) rfl ?_
    rw [hN.wx c8.1 (by omega)]
    refine x_bipush (pc' := 24) hC dX6_wax_22 (by decide) rfl ?_
    refine x_icmp_ge (tgt := 38) (pc' := 27) hC dX6_wax_24 (by decide) rfl (by omega) (by omega) (fun c24 => ?_) (fun c24 => ?_)
    · refine x_bipush (pc' := 40) hC dX6_wax_38 (by decide) rfl ?_
      exact x_iret hC dX6_wax_40 (xI.mk ⟨by unfold aWax; rw [if_pos c8, if_pos (by omega)], fun z => absurd (by omega) z.2, fun _ => hA, FrI.rf⟩)
    · refine x_aload_n (pc' := 28) hC dX6_wax_27 rfl rfl ?_
      refine x_getR (pc' := 31) (b := 14) hC kf_X6_35 dX6_wax_28 (hP 0 _ rfl) rfl rfl ?_
      refine x_getI (j' := 5) (pc' := 34) hC kf_X6_142 dX6_wax_31 (hP 14 _ rfl) rfl rfl rfl ?_
      rw [hN.fu]
      refine x_iconst (pc' := 35) hC dX6_wax_34 rfl ?_
      refine x_icmp_ge (tgt := 41) (pc' := 38) hC dX6_wax_35 (by decide) rfl (by omega) (by omega) (fun c35 => ?_) (fun c35 => ?_)
      · refine x_aload_n (pc' := 42) hC dX6_wax_41 rfl rfl ?_
        refine x_getR (pc' := 45) (b := 24) hC kf_X6_47 dX6_wax_42 (hP 0 _ rfl) rfl rfl ?_
        refine x_aload_n (pc' := 46) hC dX6_wax_45 rfl rfl ?_
        refine x_getR (pc' := 49) (b := 14) hC kf_X6_35 dX6_wax_46 (hP 0 _ rfl) rfl rfl ?_
        refine x_callV (pc' := 52) (n := 1) hC (c_put (sUnd hP) (sNow hP) (by omega) hT hA.2.2.1 hN.2.2 hN.2.1) ky_X2_put kv_X2_put kl_X6_134 dX6_wax_49 (hP 24 _ rfl) rfl rfl rfl rfl ⟨Nat.le_of_ble_eq_true rfl, Nat.le_of_ble_eq_true rfl⟩ (Nat.le_of_ble_eq_true rfl) ⟨Nat.le_refl _, Nat.le_refl _⟩ (Or.inl rfl) rfl (x_kn (fun μ49 h49 => ?_))
        refine x_aload_n (pc' := 53) hC dX6_wax_52 rfl rfl ?_
        refine x_getR (pc' := 56) (b := 14) hC kf_X6_35 dX6_wax_53 (hP 0 _ rfl) rfl rfl ?_
        refine x_dup (pc' := 57) hC dX6_wax_56 rfl rfl ?_
        refine x_getI (j' := 5) (pc' := 60) hC kf_X6_142 dX6_wax_57 (hP 14 _ rfl) rfl rfl rfl ?_
        rw [h49.1 _ _ (by omega), hN.fu]
        refine x_iconst (pc' := 61) hC dX6_wax_60 rfl ?_
        refine x_isub (pc' := 62) hC dX6_wax_61 rfl ?_
        refine x_putI (j' := 5) (pc' := 65) hC kf_X6_142 dX6_wax_62 (hP 14 _ rfl) rfl rfl rfl rfl rfl ?_
        refine x_aload_n (pc' := 66) hC dX6_wax_65 rfl rfl ?_
        refine x_getR (pc' := 69) (b := 14) hC kf_X6_35 dX6_wax_66 (hP 0 _ rfl) rfl rfl ?_
        refine x_iload_n (pc' := 70) hC dX6_wax_69 rfl rfl ?_
        refine x_iconst (pc' := 71) hC dX6_wax_70 rfl ?_
        refine x_callV (pc' := 74) (n := 2) hC (c_addWax (T := T) (r := (up r 1 (r 1 - 1))) (sNow hP) ⟨(hN.1.frI h49.1 (by omega)).frI (FrI.rf.u (k := 14) (lo := 14) (hi := 19) (by omega)) (by omega), fun m m0 m1 => by rw [xU_nk (by omega)]; exact (hN.2.1.frI h49.1 (by omega)) m m0 m1, (hN.2.2.frI h49.1 (by omega)).funds⟩ hT (WR_funds hR (by omega)) c8 (by omega)) ky_X4_addWax kv_X4_addWax kl_X6_145 dX6_wax_71 (hP 14 _ rfl) rfl rfl rfl rfl ⟨Nat.le_of_ble_eq_true rfl, Nat.le_of_ble_eq_true rfl⟩ (Nat.le_of_ble_eq_true rfl) ⟨Nat.le_refl _, Nat.le_refl _⟩ (Or.inl rfl) rfl (x_kn (fun μ71 h71 => ?_))
        refine x_aload_n (pc' := 75) hC dX6_wax_74 rfl rfl ?_
        refine x_getR (pc' := 78) (b := 14) hC kf_X6_35 dX6_wax_75 (hP 0 _ rfl) rfl rfl ?_
        refine x_getR (pc' := 81) (b := 15) hC kf_X6_119 dX6_wax_78 (hP 14 _ rfl) rfl rfl ?_
        refine x_iload_n (pc' := 82) hC dX6_wax_81 rfl rfl ?_
        refine x_iald (pc' := 83) hC dX6_wax_82 (hP 15 _ rfl) (by omega) (by decide) rfl ?_
        rw [h71.2.2.2.1 x (by omega) (by omega)]
        exact x_iret hC dX6_wax_83 (xI.mk (by
      have z := hA.act h49.1 h49.2 ((FrI.rf.u (k := 14) (lo := 14) (hi := 19) (by omega)).tr h71.1.I) h71.2 (Gr.fr (fun m m0 m1 => by rw [xU_nk (by omega)]; exact (hN.2.1.frI h49.1 (by omega)) m m0 m1) h71.1)
      exact ⟨by unfold aWax; rw [if_pos c8, if_neg (by omega)]; rfl, fun _ => z.1, fun y => absurd ⟨c8, by omega⟩ y, z.2⟩))
      · refine x_bipush (pc' := 40) hC dX6_wax_38 (by decide) rfl ?_
        exact x_iret hC dX6_wax_40 (xI.mk ⟨by unfold aWax; rw [if_pos c8, if_pos (by omega)], fun z => absurd (by omega) z.2, fun _ => hA, FrI.rf⟩)
  · refine x_iconst (pc' := 12) hC dX6_wax_11 rfl ?_
    exact x_iret hC dX6_wax_12 (xI.mk ⟨by unfold aWax; rw [if_neg c8], fun z => absurd z.1 c8, fun _ => hA, FrI.rf⟩)
set_option maxRecDepth 100000 in
set_option maxHeartbeats 4000000 in
theorem k_sand {g : xG} {l : Launch} {S : List xS} {μ : xM} {T r : Int → Int} {nt : Int} {tx : Int → Int} {un kp : List (Int → Int)} {sl : List (Int × Int)} {x : Int} (hP : xPre S) (hA : RC μ T r nt tx un kp sl) (hF : WF T r un kp) (hx : -2147483648 ≤ x ∧ x < 2147483648) : xCt g l yX6_sand cX6_sand 2 (some .int) 3 82 0 0 [vR g 0, vI x] S μ S (xI (fun a μ' => a = aSand T r x ∧ (okSand T r x → RC μ' T (rSand r x) nt tx (push r un) kp sl) ∧ (¬ okSand T r x → RC μ' T r nt tx un kp sl) ∧ FrI 0 81 μ μ')) := by
  refine x_enter (by decide) (Nat.le_of_ble_eq_true rfl) ?_
  intro zp ze zs zm za zb zh zc hC hz0
  have hT := hF.1
  have hR := hF.2.1.1
  have hy := hF.2.1.2
  have t0 := hT.1
  have t1 := hT.2.1
  have t2 := hT.2.2.1
  have t3 := hT.2.2.2.1
  have hN := hA.2.1
  have hm := hN.mi
  have hs := hN.sp
  have hR2 := hR.2.2
  refine x_aload_n (pc' := 1) hC dX6_sand_0 rfl rfl ?_
  refine x_getR (pc' := 4) (b := 12) hC kf_X6_26 dX6_sand_1 (hP 0 _ rfl) rfl rfl ?_
  refine x_iload_n (pc' := 5) hC dX6_sand_4 rfl rfl ?_
  refine x_callV (pc' := 8) (n := 1) hC (c_hasStep (T := T) (sPl hP) hN.1 ⟨hT.1, hT.2.1⟩ (by omega)) ky_X0_hasStep kv_X0_hasStep kl_X6_116 dX6_sand_5 (hP 12 _ rfl) rfl rfl rfl rfl ⟨Nat.le_of_ble_eq_true rfl, Nat.le_of_ble_eq_true rfl⟩ (Nat.le_of_ble_eq_true rfl) ⟨Nat.le_refl _, Nat.le_refl _⟩ (Or.inl rfl) rfl (x_kd ?_)
  refine x_ifb_ne (tgt := 13) (pc' := 11) hC dX6_sand_8 (by decide) rfl (fun c8 => ?_) (fun c8 => ?_)
  · have q3 := hR.1 x (by omega) (by omega)
    refine x_aload_n (pc' := 14) hC dX6_sand_13 rfl rfl ?_
    refine x_getR (pc' := 17) (b := 14) hC kf_X6_35 dX6_sand_14 (hP 0 _ rfl) rfl rfl ?_
    refine x_getR (pc' := 20) (b := 15) hC kf_X6_119 dX6_sand_17 (hP 14 _ rfl) rfl rfl ?_
    refine x_iload_n (pc' := 21) hC dX6_sand_20 rfl rfl ?_
    refine x_iald (pc' := 22) hC dX6_sand_21 (hP 15 _ rfl) (by omega) (by decide) rfl ?_
    rw [hN.wx c8.1 (by omega)]
    refine x_if_eq (tgt := 36) (pc' := 25) hC dX6_sand_22 (by decide) rfl (by omega) (fun c22 => ?_) (fun c22 => ?_)
    · refine x_bipush (pc' := 38) hC dX6_sand_36 (by decide) rfl ?_
      exact x_iret hC dX6_sand_38 (xI.mk ⟨by unfold aSand; rw [if_pos c8, if_pos (by omega)], fun z => absurd (by omega) z.2, fun _ => hA, FrI.rf⟩)
    · refine x_aload_n (pc' := 26) hC dX6_sand_25 rfl rfl ?_
      refine x_getR (pc' := 29) (b := 14) hC kf_X6_35 dX6_sand_26 (hP 0 _ rfl) rfl rfl ?_
      refine x_getI (j' := 5) (pc' := 32) hC kf_X6_142 dX6_sand_29 (hP 14 _ rfl) rfl rfl rfl ?_
      rw [hN.fu]
      refine x_iconst (pc' := 33) hC dX6_sand_32 rfl ?_
      refine x_icmp_ge (tgt := 39) (pc' := 36) hC dX6_sand_33 (by decide) rfl (by omega) (by omega) (fun c33 => ?_) (fun c33 => ?_)
      · refine x_aload_n (pc' := 40) hC dX6_sand_39 rfl rfl ?_
        refine x_getR (pc' := 43) (b := 24) hC kf_X6_47 dX6_sand_40 (hP 0 _ rfl) rfl rfl ?_
        refine x_aload_n (pc' := 44) hC dX6_sand_43 rfl rfl ?_
        refine x_getR (pc' := 47) (b := 14) hC kf_X6_35 dX6_sand_44 (hP 0 _ rfl) rfl rfl ?_
        refine x_callV (pc' := 50) (n := 1) hC (c_put (sUnd hP) (sNow hP) (by omega) hT hA.2.2.1 hN.2.2 hN.2.1) ky_X2_put kv_X2_put kl_X6_134 dX6_sand_47 (hP 24 _ rfl) rfl rfl rfl rfl ⟨Nat.le_of_ble_eq_true rfl, Nat.le_of_ble_eq_true rfl⟩ (Nat.le_of_ble_eq_true rfl) ⟨Nat.le_refl _, Nat.le_refl _⟩ (Or.inl rfl) rfl (x_kn (fun μ47 h47 => ?_))
        refine x_aload_n (pc' := 51) hC dX6_sand_50 rfl rfl ?_
        refine x_getR (pc' := 54) (b := 14) hC kf_X6_35 dX6_sand_51 (hP 0 _ rfl) rfl rfl ?_
        refine x_dup (pc' := 55) hC dX6_sand_54 rfl rfl ?_
        refine x_getI (j' := 5) (pc' := 58) hC kf_X6_142 dX6_sand_55 (hP 14 _ rfl) rfl rfl rfl ?_
        rw [h47.1 _ _ (by omega), hN.fu]
        refine x_iconst (pc' := 59) hC dX6_sand_58 rfl ?_
        refine x_isub (pc' := 60) hC dX6_sand_59 rfl ?_
        refine x_putI (j' := 5) (pc' := 63) hC kf_X6_142 dX6_sand_60 (hP 14 _ rfl) rfl rfl rfl rfl rfl ?_
        refine x_aload_n (pc' := 64) hC dX6_sand_63 rfl rfl ?_
        refine x_getR (pc' := 67) (b := 14) hC kf_X6_35 dX6_sand_64 (hP 0 _ rfl) rfl rfl ?_
        refine x_iload_n (pc' := 68) hC dX6_sand_67 rfl rfl ?_
        refine x_bipush (pc' := 70) hC dX6_sand_68 (by decide) rfl ?_
        refine x_callV (pc' := 73) (n := 2) hC (c_addWax (T := T) (r := (up r 1 (r 1 - 2))) (sNow hP) ⟨(hN.1.frI h47.1 (by omega)).frI (FrI.rf.u (k := 14) (lo := 14) (hi := 19) (by omega)) (by omega), fun m m0 m1 => by rw [xU_nk (by omega)]; exact (hN.2.1.frI h47.1 (by omega)) m m0 m1, (hN.2.2.frI h47.1 (by omega)).funds⟩ hT (WR_funds hR (by omega)) c8 (by omega)) ky_X4_addWax kv_X4_addWax kl_X6_145 dX6_sand_70 (hP 14 _ rfl) rfl rfl rfl rfl ⟨Nat.le_of_ble_eq_true rfl, Nat.le_of_ble_eq_true rfl⟩ (Nat.le_of_ble_eq_true rfl) ⟨Nat.le_refl _, Nat.le_refl _⟩ (Or.inl rfl) rfl (x_kn (fun μ70 h70 => ?_))
        refine x_aload_n (pc' := 74) hC dX6_sand_73 rfl rfl ?_
        refine x_getR (pc' := 77) (b := 14) hC kf_X6_35 dX6_sand_74 (hP 0 _ rfl) rfl rfl ?_
        refine x_getR (pc' := 80) (b := 15) hC kf_X6_119 dX6_sand_77 (hP 14 _ rfl) rfl rfl ?_
        refine x_iload_n (pc' := 81) hC dX6_sand_80 rfl rfl ?_
        refine x_iald (pc' := 82) hC dX6_sand_81 (hP 15 _ rfl) (by omega) (by decide) rfl ?_
        rw [h70.2.2.2.1 x (by omega) (by omega)]
        exact x_iret hC dX6_sand_82 (xI.mk (by
      have z := hA.act h47.1 h47.2 ((FrI.rf.u (k := 14) (lo := 14) (hi := 19) (by omega)).tr h70.1.I) h70.2 (Gr.fr (fun m m0 m1 => by rw [xU_nk (by omega)]; exact (hN.2.1.frI h47.1 (by omega)) m m0 m1) h70.1)
      exact ⟨by unfold aSand; rw [if_pos c8, if_neg (by omega)]; rfl, fun _ => z.1, fun y => absurd ⟨c8, by omega⟩ y, z.2⟩))
      · refine x_bipush (pc' := 38) hC dX6_sand_36 (by decide) rfl ?_
        exact x_iret hC dX6_sand_38 (xI.mk ⟨by unfold aSand; rw [if_pos c8, if_pos (by omega)], fun z => absurd (by omega) z.2, fun _ => hA, FrI.rf⟩)
  · refine x_iconst (pc' := 12) hC dX6_sand_11 rfl ?_
    exact x_iret hC dX6_sand_12 (xI.mk ⟨by unfold aSand; rw [if_neg c8], fun z => absurd z.1 c8, fun _ => hA, FrI.rf⟩)
set_option maxRecDepth 100000 in
set_option maxHeartbeats 4000000 in
theorem k_help {g : xG} {l : Launch} {S : List xS} {μ : xM} {T r : Int → Int} {nt : Int} {tx : Int → Int} {un kp : List (Int → Int)} {sl : List (Int × Int)} {m : Int} (hP : xPre S) (hA : RC μ T r nt tx un kp sl) (hF : WF T r un kp) (hm : -2147483648 ≤ m ∧ m < 2147483648) : xCt g l yX6_help cX6_help 3 (some .int) 3 82 0 0 [vR g 0, vI m] S μ S (xI (fun a μ' => a = aHelp T r m ∧ (okHelp T r m → RC μ' T (rHelp r m) nt tx (push r un) kp sl) ∧ (¬ okHelp T r m → RC μ' T r nt tx un kp sl) ∧ FrI 0 81 μ μ')) := by
  refine x_enter (by decide) (Nat.le_of_ble_eq_true rfl) ?_
  intro zp ze zs zm za zb zh zc hC hz0
  have hT := hF.1
  have hR := hF.2.1.1
  have hy := hF.2.1.2
  have t0 := hT.1
  have t1 := hT.2.1
  have t2 := hT.2.2.1
  have t3 := hT.2.2.2.1
  have hN := hA.2.1
  have hm := hN.mi
  have hs := hN.sp
  refine x_aload_n (pc' := 1) hC dX6_help_0 rfl rfl ?_
  refine x_getR (pc' := 4) (b := 12) hC kf_X6_26 dX6_help_1 (hP 0 _ rfl) rfl rfl ?_
  refine x_iload_n (pc' := 5) hC dX6_help_4 rfl rfl ?_
  refine x_callV (pc' := 8) (n := 1) hC (c_hasMinister (T := T) (sPl hP) hN.1 hT (by omega)) ky_X0_hasMinister kv_X0_hasMinister kl_X6_95 dX6_help_5 (hP 12 _ rfl) rfl rfl rfl rfl ⟨Nat.le_of_ble_eq_true rfl, Nat.le_of_ble_eq_true rfl⟩ (Nat.le_of_ble_eq_true rfl) ⟨Nat.le_refl _, Nat.le_refl _⟩ (Or.inl rfl) rfl (x_kd ?_)
  refine x_ifb_ne (tgt := 13) (pc' := 11) hC dX6_help_8 (by decide) rfl (fun c8 => ?_) (fun c8 => ?_)
  · have q3 := hR.2.1 m c8.1 c8.2
    refine x_aload_n (pc' := 14) hC dX6_help_13 rfl rfl ?_
    refine x_getR (pc' := 17) (b := 14) hC kf_X6_35 dX6_help_14 (hP 0 _ rfl) rfl rfl ?_
    refine x_getR (pc' := 20) (b := 16) hC kf_X6_103 dX6_help_17 (hP 14 _ rfl) rfl rfl ?_
    refine x_iload_n (pc' := 21) hC dX6_help_20 rfl rfl ?_
    refine x_iald (pc' := 22) hC dX6_help_21 (hP 16 _ rfl) (by omega) (by decide) rfl ?_
    rw [hN.pc c8.1 (by omega)]
    refine x_istore_n (pc' := 23) hC dX6_help_22 (by decide) rfl rfl ?_
    refine x_iload_n (pc' := 24) hC dX6_help_23 rfl rfl ?_
    refine x_if_ne (tgt := 30) (pc' := 27) hC dX6_help_24 (by decide) rfl (by omega) (fun c24 => ?_) (fun c24 => ?_)
    · refine x_aload_n (pc' := 31) hC dX6_help_30 rfl rfl ?_
      refine x_getR (pc' := 34) (b := 24) hC kf_X6_47 dX6_help_31 (hP 0 _ rfl) rfl rfl ?_
      refine x_aload_n (pc' := 35) hC dX6_help_34 rfl rfl ?_
      refine x_getR (pc' := 38) (b := 14) hC kf_X6_35 dX6_help_35 (hP 0 _ rfl) rfl rfl ?_
      refine x_callV (pc' := 41) (n := 1) hC (c_put (sUnd hP) (sNow hP) (by omega) hT hA.2.2.1 hN.2.2 hN.2.1) ky_X2_put kv_X2_put kl_X6_134 dX6_help_38 (hP 24 _ rfl) rfl rfl rfl rfl ⟨Nat.le_of_ble_eq_true rfl, Nat.le_of_ble_eq_true rfl⟩ (Nat.le_of_ble_eq_true rfl) ⟨Nat.le_refl _, Nat.le_refl _⟩ (Or.inl rfl) rfl (x_kn (fun μ38 h38 => ?_))
      refine x_aload_n (pc' := 42) hC dX6_help_41 rfl rfl ?_
      refine x_getR (pc' := 45) (b := 14) hC kf_X6_35 dX6_help_42 (hP 0 _ rfl) rfl rfl ?_
      refine x_getR (pc' := 48) (b := 16) hC kf_X6_103 dX6_help_45 (hP 14 _ rfl) rfl rfl ?_
      refine x_iload_n (pc' := 49) hC dX6_help_48 rfl rfl ?_
      refine x_iconst (pc' := 50) hC dX6_help_49 rfl ?_
      refine x_iast (pc' := 51) hC dX6_help_50 (hP 16 _ rfl) (by omega) (by omega) rfl ?_
      refine x_iload_n (pc' := 52) hC dX6_help_51 rfl rfl ?_
      exact x_iret hC dX6_help_52 (xI.mk (by
      have z := hA.act h38.1 h38.2 (μ2 := xU μ38 16 m 0) (FrI.rf.u (by omega)) ((hN.2.2.frI h38.1 (by omega)).place c8.1 (by omega)) (fun k k0 k1 => by rw [xU_nk (by omega)]; exact (hN.2.1.frI h38.1 (by omega)) k k0 k1)
      exact ⟨by unfold aHelp; rw [if_pos c8, if_neg c24], fun _ => z.1, fun y => absurd ⟨c8, c24⟩ y, z.2⟩))
    · refine x_bipush (pc' := 29) hC dX6_help_27 (by decide) rfl ?_
      exact x_iret hC dX6_help_29 (xI.mk ⟨by unfold aHelp; rw [if_pos c8, if_pos (by omega)], fun z => absurd (by omega) z.2, fun _ => hA, FrI.rf⟩)
  · refine x_iconst (pc' := 12) hC dX6_help_11 rfl ?_
    exact x_iret hC dX6_help_12 (xI.mk ⟨by unfold aHelp; rw [if_neg c8], fun z => absurd z.1 c8, fun _ => hA, FrI.rf⟩)
set_option maxRecDepth 100000 in
set_option maxHeartbeats 4000000 in
theorem k_undo0 {g : xG} {l : Launch} {S : List xS} {μ : xM} {T r : Int → Int} {nt : Int} {tx : Int → Int} {un kp : List (Int → Int)} {sl : List (Int × Int)} (hP : xPre S) (hA : RC μ T r nt tx un kp sl) (hF : WF T r un kp) (hu : un = []) : xCt g l yX6_undo cX6_undo 1 (some .int) 3 82 0 0 [vR g 0] S μ S (xI (fun a μ' => a = -2 ∧ RC μ' T r nt tx un kp sl ∧ FrI 0 81 μ μ')) := by
  refine x_enter (by decide) (Nat.le_of_ble_eq_true rfl) ?_
  intro zp ze zs zm za zb zh zc hC hz0
  have hT := hF.1
  have hR := hF.2.1.1
  have hy := hF.2.1.2
  have t0 := hT.1
  have t1 := hT.2.1
  have t2 := hT.2.2.1
  have t3 := hT.2.2.2.1
  have hN := hA.2.1
  have hm := hN.mi
  have hs := hN.sp
  refine x_aload_n (pc' := 1) hC dX6_undo_0 rfl rfl ?_
  refine x_getR (pc' := 4) (b := 24) hC kf_X6_47 dX6_undo_1 (hP 0 _ rfl) rfl rfl ?_
  refine x_aload_n (pc' := 5) hC dX6_undo_4 rfl rfl ?_
  refine x_getR (pc' := 8) (b := 14) hC kf_X6_35 dX6_undo_5 (hP 0 _ rfl) rfl rfl ?_
  refine x_callV (pc' := 11) (n := 1) hC (c_take0 (r := r) (b2 := 14) (pl2 := 12) (sUnd hP) hu hA.2.2.1) ky_X2_takeLatest kv_X2_takeLatest kl_X6_149 dX6_undo_8 (hP 24 _ rfl) rfl rfl rfl rfl ⟨Nat.le_of_ble_eq_true rfl, Nat.le_of_ble_eq_true rfl⟩ (Nat.le_of_ble_eq_true rfl) ⟨Nat.le_refl _, Nat.le_refl _⟩ (Or.inl rfl) rfl (x_kd ?_)
  refine x_if_eq (tgt := 24) (pc' := 14) hC dX6_undo_11 (by decide) rfl (by omega) (fun c11 => ?_) (fun c11 => ?_)
  · refine x_bipush (pc' := 26) hC dX6_undo_24 (by decide) rfl ?_
    exact x_iret hC dX6_undo_26 (xI.mk ⟨rfl, hA, FrI.rf⟩)
  · exact absurd c11 (by decide)
set_option maxRecDepth 100000 in
set_option maxHeartbeats 4000000 in
theorem k_undo1 {g : xG} {l : Launch} {S : List xS} {μ : xM} {T r : Int → Int} {nt : Int} {tx : Int → Int} {un kp : List (Int → Int)} {sl : List (Int × Int)} {u : Int → Int} {un1 : List (Int → Int)} (hP : xPre S) (hA : RC μ T r nt tx un kp sl) (hF : WF T r un kp) (hu : un = u :: un1) : xCt g l yX6_undo cX6_undo 1 (some .int) 3 82 0 0 [vR g 0] S μ S (xI (fun a μ' => a = un1.length ∧ RC μ' T u nt tx un1 kp sl ∧ FrI 0 81 μ μ')) := by
  refine x_enter (by decide) (Nat.le_of_ble_eq_true rfl) ?_
  intro zp ze zs zm za zb zh zc hC hz0
  have hT := hF.1
  have hR := hF.2.1.1
  have hy := hF.2.1.2
  have t0 := hT.1
  have t1 := hT.2.1
  have t2 := hT.2.2.1
  have t3 := hT.2.2.2.1
  have hN := hA.2.1
  have hm := hN.mi
  have hs := hN.sp
  refine x_aload_n (pc' := 1) hC dX6_undo_0 rfl rfl ?_
  refine x_getR (pc' := 4) (b := 24) hC kf_X6_47 dX6_undo_1 (hP 0 _ rfl) rfl rfl ?_
  refine x_aload_n (pc' := 5) hC dX6_undo_4 rfl rfl ?_
  refine x_getR (pc' := 8) (b := 14) hC kf_X6_35 dX6_undo_5 (hP 0 _ rfl) rfl rfl ?_
  refine x_callV (pc' := 11) (n := 1) hC (c_take1 (r := r) (sUnd hP) hu (sNow hP) (by omega) hT hA.2.2.1) ky_X2_takeLatest kv_X2_takeLatest kl_X6_149 dX6_undo_8 (hP 24 _ rfl) rfl rfl rfl rfl ⟨Nat.le_of_ble_eq_true rfl, Nat.le_of_ble_eq_true rfl⟩ (Nat.le_of_ble_eq_true rfl) ⟨Nat.le_refl _, Nat.le_refl _⟩ (Or.inl rfl) rfl (x_kv (fun μ8 h8 => ?_))
  refine x_if_eq (tgt := 24) (pc' := 14) hC dX6_undo_11 (by decide) rfl (by omega) (fun c11 => ?_) (fun c11 => ?_)
  · exact absurd c11 (by decide)
  · refine x_aload_n (pc' := 15) hC dX6_undo_14 rfl rfl ?_
    refine x_getR (pc' := 18) (b := 24) hC kf_X6_47 dX6_undo_15 (hP 0 _ rfl) rfl rfl ?_
    refine x_getI (j' := 1) (pc' := 21) hC kf_X6_153 dX6_undo_18 (hP 24 _ rfl) rfl rfl rfl ?_
    rw [h8.2.2.2.1]
    refine x_goto (tgt := 26) hC dX6_undo_21 (by decide) ?_
    exact x_iret hC dX6_undo_26 (xI.mk (by
      have z := hA.take (Or.inl rfl) h8.1 h8.2.1 h8.2.2.1 h8.2.2.2 (hA.2.2.2.1.off (Or.inl rfl) h8.1 (by omega) (by omega))
      exact ⟨rfl, z.1, z.2⟩))
set_option maxRecDepth 100000 in
set_option maxHeartbeats 4000000 in
theorem k_governs {g : xG} {l : Launch} {S : List xS} {μ : xM} {T r : Int → Int} {nt : Int} {tx : Int → Int} {un kp : List (Int → Int)} {sl : List (Int × Int)} (hP : xPre S) (hA : RC μ T r nt tx un kp sl) (hF : WF T r un kp) : xCt g l yX6_governs cX6_governs 1 (some .int) 1 22 0 0 [vR g 0] S μ S (xI (fun a μ' => a = gov T r ∧ RC μ' T r nt tx un kp sl ∧ FrI 0 81 μ μ')) := by
  refine x_enter (by decide) (Nat.le_of_ble_eq_true rfl) ?_
  intro zp ze zs zm za zb zh zc hC hz0
  have hT := hF.1
  have hR := hF.2.1.1
  have hy := hF.2.1.2
  have t0 := hT.1
  have t1 := hT.2.1
  have t2 := hT.2.2.1
  have t3 := hT.2.2.2.1
  have hN := hA.2.1
  have hm := hN.mi
  have hs := hN.sp
  refine x_aload_n (pc' := 1) hC dX6_governs_0 rfl rfl ?_
  refine x_getR (pc' := 4) (b := 14) hC kf_X6_35 dX6_governs_1 (hP 0 _ rfl) rfl rfl ?_
  refine x_callV (pc' := 7) (n := 0) hC (c_governor (sNow hP) hN hT hR) ky_X4_governor kv_X4_governor kl_X6_156 dX6_governs_4 (hP 14 _ rfl) rfl rfl rfl rfl ⟨Nat.le_of_ble_eq_true rfl, Nat.le_of_ble_eq_true rfl⟩ (Nat.le_of_ble_eq_true rfl) ⟨Nat.le_refl _, Nat.le_refl _⟩ (Or.inl rfl) rfl (x_kd ?_)
  exact x_iret hC dX6_governs_7 (xI.mk ⟨rfl, hA, FrI.rf⟩)
end
section
theorem xTrial {μ μ1 : xM} {T r : Int → Int} (hT : WT T) (hN : SA μ 14 12 T r) (h : FrB 19 μ μ1 ∧ St μ1 19 r ∧ ∀ j : Int, 0 ≤ j → j < 7 → μ1 (19 + 3) j = μ (14 + 3) j) : SA μ1 19 12 T r :=
  ⟨hN.1.frB h.1 (by omega), fun m m0 m1 => by have := hT.2.2.2.1; rw [h.2.2 m m0 (by omega)]; exact hN.2.1 m m0 m1, h.2.1⟩
theorem WT.grip {T : Int → Int} {m v : Int} (hT : WT T) (hm : 0 ≤ m ∧ m < T 3) (hv : 0 ≤ v ∧ v ≤ 9) : WT (up T (11 + m) v) := by
  obtain ⟨a1, a2, a3, a4, a5⟩ := hT
  refine ⟨by rw [up_ne (by omega)]; exact a1, by rw [up_ne (by omega)]; exact a2, by rw [up_ne (by omega)]; exact a3, by rw [up_ne (by omega)]; exact a4, fun k k0 k1 => ?_⟩
  rw [up_ne (by omega)] at k1
  have := a5 k k0 k1
  rw [up_ne (by omega)]
  by_cases hk : k = m
  · subst hk; rw [up_at]; omega
  · rw [up_ne (by omega)]; exact this
theorem WR.grip {T r : Int → Int} {m v : Int} (hT : WT T) (hm : 0 ≤ m ∧ m < T 3) (h : WR T r) : WR (up T (11 + m) v) r := by
  obtain ⟨a1, a2, a3, a4⟩ := h
  refine ⟨a1, fun k k0 k1 => ?_, a3, a4⟩
  rw [up_ne (by omega)] at k1
  rw [up_ne (by omega)]
  exact a2 k k0 k1
theorem SA.grip {μ : xM} {b pl : Nat} {T r : Int → Int} {m v : Int} (hT : WT T) (hm : 0 ≤ m ∧ m < T 3) (h : SA μ b pl T r) (hb : pl + 1 < b) : SA (xU μ (b + 3) m v) b pl (up T (11 + m) v) r := by
  obtain ⟨⟨a1, a2, a3, a4, a5⟩, a6, b1, b2, b3, b4, b5⟩ := h
  have t3 := hT.2.2.2.1
  refine ⟨⟨?_, ?_, ?_, ?_, fun k k0 k1 => ?_⟩, fun k k0 k1 => ?_, ?_, ?_, fun j j0 j1 => ?_, fun j j0 j1 => ?_, fun j j0 j1 => ?_⟩
  · rw [xU_nk (by omega), up_ne (by omega), a1]
  · rw [xU_nk (by omega), up_ne (by omega), a2]
  · rw [xU_nk (by omega), up_ne (by omega), a3]
  · rw [xU_nk (by omega), up_ne (by omega), a4]
  · rw [up_ne (by omega)] at k1
    rw [xU_nk (by omega), up_ne (by omega), a5 k k0 k1]
  · rw [up_ne (by omega)] at k1
    by_cases hk : k = m
    · subst hk; rw [xU_at2, up_at]
    · rw [xU_nj hk, up_ne (by omega), a6 k k0 k1]
  · rw [xU_nk (by omega), b1]
  · rw [xU_nk (by omega), b2]
  · rw [xU_nk (by omega), b3 j j0 j1]
  · rw [xU_nk (by omega), b4 j j0 j1]
  · rw [xU_nk (by omega), b5 j j0 j1]
def bcF (a : Int) : Int :=
  let i1 := a - iAnd (iUshr a 1) 1431655765
  let i2 := iAnd i1 858993459 + iAnd (iUshr i1 2) 858993459
  let i3 := iAnd (i2 + iUshr i2 4) 252645135
  let i4 := i3 + iUshr i3 8
  let i5 := i4 + iUshr i4 16
  iAnd i5 63
theorem bcF_all : ∀ k : Nat, k < 128 → bcF (k : Int) = popN 8 k ∧ 0 ≤ popN 8 k ∧ popN 8 k ≤ 7 := by decide +kernel
theorem bcF_pop {a : Int} (h : 0 ≤ a ∧ a < 128) : bcF a = pop a ∧ 0 ≤ pop a ∧ pop a ≤ 7 := by
  have := bcF_all a.toNat (by omega)
  rw [show ((a.toNat : Nat) : Int) = a by omega] at this
  exact this
theorem shl1_all : ∀ k : Nat, k < 10 → iShl 1 (k : Int) = ((2 ^ k : Nat) : Int) := by decide +kernel
theorem chance_all : ∀ n : Nat, n < 7 → ∀ k : Nat, k < 2 ^ n → ∀ x : Nat, x < 11 → chanceF (x : Int) (k : Int) n = powI (x : Int) (popN 8 k).toNat * powI (10 - (x : Int)) (n - (popN 8 k).toNat) ∧ 0 ≤ chanceF (x : Int) (k : Int) n ∧ chanceF (x : Int) (k : Int) n ≤ 1000000 ∧ (popN 8 k).toNat ≤ n := by decide +kernel
theorem pow10_all : ∀ n : Nat, n < 7 → 1 ≤ powI 10 n ∧ powI 10 n ≤ 1000000 := by decide +kernel
theorem aboveF_rg {T r : Int → Int} {m x : Int} {n : Nat} (hn : n < 7) (hx : 0 ≤ x ∧ x ≤ 10) : ∀ k : Nat, k ≤ 2 ^ n → 0 ≤ aboveF T r m x n k ∧ aboveF T r m x n k ≤ 1000000 * k
  | 0, _ => by simp [aboveF]
  | k + 1, hk => by
    have h1 := aboveF_rg (T := T) (r := r) (m := m) hn hx k (by omega)
    have h2 := chance_all n hn k (by omega) x.toNat (by omega)
    rw [show ((x.toNat : Nat) : Int) = x by omega] at h2
    rw [aboveF]
    split <;> omega
/-- Euclid's loop, n rounds at most -/
def gcdF : Nat → Nat → Nat → Nat
  | 0, L, _ => L
  | k + 1, L, s => if s = 0 then L else gcdF k s (L % s)
theorem gcdF_ok : ∀ (k L s : Nat), s ≤ L → 0 < L → (L + s) * 2 ^ k < 3 ^ k → gcdF k L s = Nat.gcd s L
  | 0, L, s, _, h0, h => by simp at h; omega
  | k + 1, L, s, hs, h0, h => by
    rw [gcdF]
    split
    · rename_i hz
      subst hz
      simp
    · rename_i hz
      have h1 : L % s < s := Nat.mod_lt _ (by omega)
      have h2 := Nat.div_add_mod L s
      have h3 : 1 ≤ L / s := Nat.div_pos hs (by omega)
      have h4 : s * 1 ≤ s * (L / s) := Nat.mul_le_mul_left s h3
      have h5 : 3 * (s + L % s) ≤ 2 * (L + s) := by omega
      have h6 : (s + L % s) * 2 ^ k < 3 ^ k := by
        rw [Nat.pow_succ, Nat.pow_succ] at h
        have h7 := Nat.mul_le_mul_right (2 ^ k) h5
        have h8 : 3 * (s + L % s) * 2 ^ k = 3 * ((s + L % s) * 2 ^ k) := by rw [Nat.mul_assoc]
        have h9 : (L + s) * (2 ^ k * 2) = 2 * (L + s) * 2 ^ k := by
          rw [Nat.mul_comm (2 ^ k) 2, ← Nat.mul_assoc, Nat.mul_comm (L + s) 2]
        omega
      rw [gcdF_ok k s (L % s) (by omega) (by omega) h6]
      exact (Nat.gcd_rec s L).symm
theorem gcdF_100 {L s : Nat} (h0 : 0 < L) (hb : L ≤ 1000000) (hs : s ≤ 100000000) : gcdF 100 L s = Nat.gcd s L := by
  have big : 101000000 * 2 ^ 99 < 3 ^ 99 := by decide +kernel
  by_cases h : s ≤ L
  · refine gcdF_ok 100 L s h h0 ?_
    have h1 : L + s ≤ 2000000 := by omega
    have h2 := Nat.mul_le_mul_right (2 ^ 100) h1
    have h3 : 2000000 * 2 ^ 100 < 3 ^ 100 := by decide +kernel
    exact Nat.lt_of_le_of_lt h2 h3
  · rw [gcdF, if_neg (by omega), Nat.mod_eq_of_lt (by omega), gcdF_ok 99 s L (by omega) (by omega) ?_, Nat.gcd_comm]
    have h1 : s + L ≤ 101000000 := by omega
    have h2 := Nat.mul_le_mul_right (2 ^ 99) h1
    exact Nat.lt_of_le_of_lt h2 big
theorem powI_rg {b : Int} (hb : 0 ≤ b ∧ b ≤ 10) : ∀ k : Nat, 0 ≤ powI b k
  | 0 => by simp [powI]
  | k + 1 => Int.mul_nonneg (powI_rg hb k) hb.1
theorem drawF_rg (z y : Int) : 0 ≤ drawF z y ∧ drawF z y < 32761 := by
  unfold drawF
  omega
theorem l_toInt {a : Int} (ha : -9223372036854775808 ≤ a ∧ a < 9223372036854775808) : (Int64.ofInt a).toInt = a := Int64.toInt_ofInt_of_le (by omega) (by omega)
theorem l_div {a b : Int} (ha : 0 ≤ a ∧ a < 9223372036854775808) (hb : 0 < b ∧ b < 9223372036854775808) : lDiv a b = a / b := by
  unfold lDiv
  have hm : Int64.ofInt a ≠ Int64.minValue := by
    intro z
    have := congrArg Int64.toInt z
    rw [l_toInt (by omega)] at this
    have h2 : Int64.minValue.toInt = -9223372036854775808 := by decide
    omega
  rw [Int64.toInt_div_of_ne_left _ _ hm, l_toInt (by omega), l_toInt (by omega), Int.tdiv_eq_ediv_of_nonneg ha.1]
theorem l_rem {a b : Int} (ha : 0 ≤ a ∧ a < 9223372036854775808) (hb : 0 < b ∧ b < 9223372036854775808) : lRem a b = a % b := by
  unfold lRem
  have e : Int64.ofInt a / Int64.ofInt b = Int64.ofInt (a / b) := by
    have := l_div ha hb
    unfold lDiv at this
    rw [← this, Int64.ofInt_toInt]
  have h0 := Int.emod_nonneg a (show b ≠ 0 by omega)
  have h1 := Int.emod_lt_of_pos a hb.1
  rw [e, ← Int64.ofInt_mul, ← Int64.ofInt_sub]
  have e2 : a - a / b * b = a % b := by rw [Int.emod_def, Int.mul_comm]
  rw [e2, l_toInt (by omega)]
theorem sq_rg {x : Int} (h : 0 ≤ x ∧ x ≤ 100000000) : 0 ≤ x * x ∧ x * x ≤ 10000000000000000 := by
  have h1 : x * x ≤ 100000000 * 100000000 := Int.mul_le_mul h.2 h.2 h.1 (by omega)
  exact ⟨Int.mul_nonneg h.1 h.1, by omega⟩
theorem firstX_rg {P : Int → Bool} : ∀ (k : Nat) (x : Int), 0 ≤ x → firstX P k x = -1 ∨ x ≤ firstX P k x
  | 0, _, _ => Or.inl rfl
  | k + 1, x, h => by
    rw [firstX]
    split
    · exact Or.inr (by omega)
    · rcases firstX_rg k (x + 1) (by omega) with z | z
      · exact Or.inl z
      · exact Or.inr (by omega)
theorem WR_wax9 {T r : Int → Int} {x v : Int} (h : WR T r) (h0 : 0 ≤ x ∧ x < 16) (hv : 0 ≤ v) (h9 : r (2 + x) + v ≤ 9) : WR T (up r (2 + x) (r (2 + x) + v)) := WR_wax h h0.1 h0.2 (by have := h.1 x h0.1 h0.2; omega)
end
section
set_option maxRecDepth 100000 in
set_option maxHeartbeats 4000000 in
theorem c_bitCount {g : xG} {l : Launch} {S : List xS} {μ : xM} {a : Int} : xCt g l yJ6_bitCount_0f7a4 cJ6_bitCount_0f7a4 1 (some .int) 0 0 0 0 [vI a] S μ S (xI (fun x μ' => x = bcF a ∧ μ' = μ)) := by
  refine x_enter (by decide) (Nat.le_of_ble_eq_true rfl) ?_
  intro zp ze zs zm za zb zh zc hC hz0
  refine x_iload_n (pc' := 1) hC dJ6_bitCount_0f7a4_0 rfl rfl ?_
  refine x_iload_n (pc' := 2) hC dJ6_bitCount_0f7a4_1 rfl rfl ?_
  refine x_iconst (pc' := 3) hC dJ6_bitCount_0f7a4_2 rfl ?_
  refine x_iushr (pc' := 4) hC dJ6_bitCount_0f7a4_3 rfl ?_
  refine x_ldcw (pc' := 7) (a := 1431655765) hC kc_J6_265 dJ6_bitCount_0f7a4_4 (by decide) rfl ?_
  refine x_iand (pc' := 8) hC dJ6_bitCount_0f7a4_7 rfl ?_
  refine x_isub (pc' := 9) hC dJ6_bitCount_0f7a4_8 rfl ?_
  refine x_istore_n (pc' := 10) hC dJ6_bitCount_0f7a4_9 (by decide) rfl rfl ?_
  refine x_iload_n (pc' := 11) hC dJ6_bitCount_0f7a4_10 rfl rfl ?_
  refine x_ldcw (pc' := 14) (a := 858993459) hC kc_J6_266 dJ6_bitCount_0f7a4_11 (by decide) rfl ?_
  refine x_iand (pc' := 15) hC dJ6_bitCount_0f7a4_14 rfl ?_
  refine x_iload_n (pc' := 16) hC dJ6_bitCount_0f7a4_15 rfl rfl ?_
  refine x_iconst (pc' := 17) hC dJ6_bitCount_0f7a4_16 rfl ?_
  refine x_iushr (pc' := 18) hC dJ6_bitCount_0f7a4_17 rfl ?_
  refine x_ldcw (pc' := 21) (a := 858993459) hC kc_J6_266 dJ6_bitCount_0f7a4_18 (by decide) rfl ?_
  refine x_iand (pc' := 22) hC dJ6_bitCount_0f7a4_21 rfl ?_
  refine x_iadd (pc' := 23) hC dJ6_bitCount_0f7a4_22 rfl ?_
  refine x_istore_n (pc' := 24) hC dJ6_bitCount_0f7a4_23 (by decide) rfl rfl ?_
  refine x_iload_n (pc' := 25) hC dJ6_bitCount_0f7a4_24 rfl rfl ?_
  refine x_iload_n (pc' := 26) hC dJ6_bitCount_0f7a4_25 rfl rfl ?_
  refine x_iconst (pc' := 27) hC dJ6_bitCount_0f7a4_26 rfl ?_
  refine x_iushr (pc' := 28) hC dJ6_bitCount_0f7a4_27 rfl ?_
  refine x_iadd (pc' := 29) hC dJ6_bitCount_0f7a4_28 rfl ?_
  refine x_ldcw (pc' := 32) (a := 252645135) hC kc_J6_267 dJ6_bitCount_0f7a4_29 (by decide) rfl ?_
  refine x_iand (pc' := 33) hC dJ6_bitCount_0f7a4_32 rfl ?_
  refine x_istore_n (pc' := 34) hC dJ6_bitCount_0f7a4_33 (by decide) rfl rfl ?_
  refine x_iload_n (pc' := 35) hC dJ6_bitCount_0f7a4_34 rfl rfl ?_
  refine x_iload_n (pc' := 36) hC dJ6_bitCount_0f7a4_35 rfl rfl ?_
  refine x_bipush (pc' := 38) hC dJ6_bitCount_0f7a4_36 (by decide) rfl ?_
  refine x_iushr (pc' := 39) hC dJ6_bitCount_0f7a4_38 rfl ?_
  refine x_iadd (pc' := 40) hC dJ6_bitCount_0f7a4_39 rfl ?_
  refine x_istore_n (pc' := 41) hC dJ6_bitCount_0f7a4_40 (by decide) rfl rfl ?_
  refine x_iload_n (pc' := 42) hC dJ6_bitCount_0f7a4_41 rfl rfl ?_
  refine x_iload_n (pc' := 43) hC dJ6_bitCount_0f7a4_42 rfl rfl ?_
  refine x_bipush (pc' := 45) hC dJ6_bitCount_0f7a4_43 (by decide) rfl ?_
  refine x_iushr (pc' := 46) hC dJ6_bitCount_0f7a4_45 rfl ?_
  refine x_iadd (pc' := 47) hC dJ6_bitCount_0f7a4_46 rfl ?_
  refine x_istore_n (pc' := 48) hC dJ6_bitCount_0f7a4_47 (by decide) rfl rfl ?_
  refine x_iload_n (pc' := 49) hC dJ6_bitCount_0f7a4_48 rfl rfl ?_
  refine x_bipush (pc' := 51) hC dJ6_bitCount_0f7a4_49 (by decide) rfl ?_
  refine x_iand (pc' := 52) hC dJ6_bitCount_0f7a4_51 rfl ?_
  exact x_iret hC dJ6_bitCount_0f7a4_52 (xI.mk ⟨rfl, rfl⟩)
set_option maxRecDepth 100000 in
set_option maxHeartbeats 4000000 in
theorem k_behind {g : xG} {l : Launch} {S : List xS} {μ : xM} {T r : Int → Int} {nt : Int} {tx : Int → Int} {un kp : List (Int → Int)} {sl : List (Int × Int)} {n m w : Int} (hP : xPre S) (hA : RC μ T r nt tx un kp sl) (hF : WF T r un kp) (hn : -2147483648 ≤ n ∧ n < 2147483648) (hm : -2147483648 ≤ m ∧ m < 2147483648) (hw : -2147483648 ≤ w ∧ w < 2147483648) : xCt g l yX6_behind cX6_behind 4 (some .int) 5 113 0 0 [vR g 0, vI n, vI m, vI w] S μ S (xI (fun a μ' => a = aBehind T r n m w ∧ RC μ' T r nt tx un kp sl ∧ FrI 0 81 μ μ')) := by
  refine x_enter (by decide) (Nat.le_of_ble_eq_true rfl) ?_
  intro zp ze zs zm za zb zh zc hC hz0
  have hT := hF.1
  have hR := hF.2.1.1
  have hy := hF.2.1.2
  have t0 := hT.1
  have t1 := hT.2.1
  have t2 := hT.2.2.1
  have t3 := hT.2.2.2.1
  have hN := hA.2.1
  have hm := hN.mi
  have hs := hN.sp
  refine x_iload_n (pc' := 1) hC dX6_behind_0 rfl rfl ?_
  refine x_iconst (pc' := 2) hC dX6_behind_1 rfl ?_
  refine x_bipush (pc' := 4) hC dX6_behind_2 (by decide) rfl ?_
  refine x_callS (pc' := 7) (n := 3) hC (c_within (by omega) (by omega) (by omega)) ky_X6_within ks_X6_within kl_X6_84 dX6_behind_4 rfl rfl ⟨Nat.le_of_ble_eq_true rfl, Nat.le_of_ble_eq_true rfl⟩ (Nat.le_of_ble_eq_true rfl) ⟨Nat.le_refl _, Nat.le_refl _⟩ (Or.inl rfl) rfl (x_kd ?_)
  refine x_ifb_eq (tgt := 30) (pc' := 10) hC dX6_behind_7 (by decide) rfl (fun c7 => ?_) (fun c7 => ?_)
  · refine x_iconst (pc' := 31) hC dX6_behind_30 rfl ?_
    exact x_iret hC dX6_behind_31 (xI.mk ⟨by unfold aBehind; rw [if_neg (by omega)], hA, FrI.rf⟩)
  · refine x_aload_n (pc' := 11) hC dX6_behind_10 rfl rfl ?_
    refine x_getR (pc' := 14) (b := 12) hC kf_X6_26 dX6_behind_11 (hP 0 _ rfl) rfl rfl ?_
    refine x_iload_n (pc' := 15) hC dX6_behind_14 rfl rfl ?_
    refine x_callV (pc' := 18) (n := 1) hC (c_hasMinister (T := T) (sPl hP) hN.1 hT (by omega)) ky_X0_hasMinister kv_X0_hasMinister kl_X6_95 dX6_behind_15 (hP 12 _ rfl) rfl rfl rfl rfl ⟨Nat.le_of_ble_eq_true rfl, Nat.le_of_ble_eq_true rfl⟩ (Nat.le_of_ble_eq_true rfl) ⟨Nat.le_refl _, Nat.le_refl _⟩ (Or.inl rfl) rfl (x_kd ?_)
    refine x_ifb_eq (tgt := 30) (pc' := 21) hC dX6_behind_18 (by decide) rfl (fun c18 => ?_) (fun c18 => ?_)
    · refine x_iconst (pc' := 31) hC dX6_behind_30 rfl ?_
      exact x_iret hC dX6_behind_31 (xI.mk ⟨by unfold aBehind; rw [if_neg (by omega)], hA, FrI.rf⟩)
    · refine x_iload_n (pc' := 22) hC dX6_behind_21 rfl rfl ?_
      refine x_iconst (pc' := 23) hC dX6_behind_22 rfl ?_
      refine x_iconst (pc' := 24) hC dX6_behind_23 rfl ?_
      refine x_callS (pc' := 27) (n := 3) hC (c_within (by omega) (by omega) (by omega)) ky_X6_within ks_X6_within kl_X6_84 dX6_behind_24 rfl rfl ⟨Nat.le_of_ble_eq_true rfl, Nat.le_of_ble_eq_true rfl⟩ (Nat.le_of_ble_eq_true rfl) ⟨Nat.le_refl _, Nat.le_refl _⟩ (Or.inl rfl) rfl (x_kd ?_)
      refine x_ifb_ne (tgt := 32) (pc' := 30) hC dX6_behind_27 (by decide) rfl (fun c27 => ?_) (fun c27 => ?_)
      · refine x_aload_n (pc' := 33) hC dX6_behind_32 rfl rfl ?_
        refine x_getR (pc' := 36) (b := 19) hC kf_X6_39 dX6_behind_33 (hP 0 _ rfl) rfl rfl ?_
        refine x_aload_n (pc' := 37) hC dX6_behind_36 rfl rfl ?_
        refine x_getR (pc' := 40) (b := 14) hC kf_X6_35 dX6_behind_37 (hP 0 _ rfl) rfl rfl ?_
        refine x_callV (pc' := 43) (n := 1) hC (c_copy (sTri hP) (sNow hP) (by omega) hN.2.2) ky_X4_copy kv_X4_copy kl_X6_159 dX6_behind_40 (hP 19 _ rfl) rfl rfl rfl rfl ⟨Nat.le_of_ble_eq_true rfl, Nat.le_of_ble_eq_true rfl⟩ (Nat.le_of_ble_eq_true rfl) ⟨Nat.le_refl _, Nat.le_refl _⟩ (Or.inl rfl) rfl (x_kn (fun μ40 h40 => ?_))
        refine x_aload_n (pc' := 44) hC dX6_behind_43 rfl rfl ?_
        refine x_getR (pc' := 47) (b := 19) hC kf_X6_39 dX6_behind_44 (hP 0 _ rfl) rfl rfl ?_
        refine x_iload_n (pc' := 48) hC dX6_behind_47 rfl rfl ?_
        refine x_callV (pc' := 51) (n := 1) hC (c_goOn (N := n.toNat) (sTri hP) (xTrial hT hN h40) hT hR (by omega) (by omega)) ky_X4_goOn kv_X4_goOn kl_X6_138 dX6_behind_48 (hP 19 _ rfl) rfl rfl rfl rfl ⟨Nat.le_of_ble_eq_true rfl, Nat.le_of_ble_eq_true rfl⟩ (Nat.le_of_ble_eq_true rfl) ⟨Nat.le_refl _, Nat.le_refl _⟩ (Or.inl rfl) rfl (x_kn (fun μ48 h48 => ?_))
        have hA2 := (xTrial hT hN h40).step (by omega) h48.1 h48.2
        have hF2 : FrI 19 24 μ μ48 := h40.1.I.tr h48.1.I
        refine x_iload_n (pc' := 52) hC dX6_behind_51 rfl rfl ?_
        have w52 : w = 0 ∨ w = 1 ∨ (¬ w = 0 ∧ ¬ w = 1) := by omega
        rcases w52 with w52 | w52 | w52
        · refine x_look (off := 28) (tgt := 80) hC dX6_behind_52 (by omega) (by decide) (by rw [w52]; decide) (by decide) ?_
          refine x_aload_n (pc' := 81) hC dX6_behind_80 rfl rfl ?_
          refine x_getR (pc' := 84) (b := 19) hC kf_X6_39 dX6_behind_81 (hP 0 _ rfl) rfl rfl ?_
          refine x_getR (pc' := 87) (b := 21) hC kf_X6_103 dX6_behind_84 (hP 19 _ rfl) rfl rfl ?_
          refine x_iload_n (pc' := 88) hC dX6_behind_87 rfl rfl ?_
          refine x_iald (pc' := 89) hC dX6_behind_88 (hP 21 _ rfl) (by omega) (by decide) rfl ?_
          rw [hA2.pc (by omega) (by omega)]
          exact x_iret hC dX6_behind_89 (xI.mk ⟨by unfold aBehind; rw [if_pos ⟨c7, c18, c27⟩]; first | rw [if_neg (by omega), if_neg (by omega)] | rw [if_neg (by omega), if_pos w52] | rw [if_pos w52], hA.scr hF2 (by omega), hF2.mono (by omega) (by omega)⟩)
        · refine x_look (off := 38) (tgt := 90) hC dX6_behind_52 (by omega) (by decide) (by rw [w52]; decide) (by decide) ?_
          refine x_aload_n (pc' := 91) hC dX6_behind_90 rfl rfl ?_
          refine x_getR (pc' := 94) (b := 19) hC kf_X6_39 dX6_behind_91 (hP 0 _ rfl) rfl rfl ?_
          refine x_callV (pc' := 97) (n := 0) hC (c_governor (sTri hP) hA2 hT (WR_goYears hT _ _ hR)) ky_X4_governor kv_X4_governor kl_X6_156 dX6_behind_94 (hP 19 _ rfl) rfl rfl rfl rfl ⟨Nat.le_of_ble_eq_true rfl, Nat.le_of_ble_eq_true rfl⟩ (Nat.le_of_ble_eq_true rfl) ⟨Nat.le_refl _, Nat.le_refl _⟩ (Or.inl rfl) rfl (x_kd ?_)
          exact x_iret hC dX6_behind_97 (xI.mk ⟨by unfold aBehind; rw [if_pos ⟨c7, c18, c27⟩]; first | rw [if_neg (by omega), if_neg (by omega)] | rw [if_neg (by omega), if_pos w52] | rw [if_pos w52], hA.scr hF2 (by omega), hF2.mono (by omega) (by omega)⟩)
        · refine x_look (off := 46) (tgt := 98) hC dX6_behind_52 (by omega) (by decide) (by simp only [Op.lookupswitch.offset, if_neg]; rw [if_neg (fun z => w52.1 z.symm), if_neg (fun z => w52.2 z.symm)]) (by decide) ?_
          refine x_aload_n (pc' := 99) hC dX6_behind_98 rfl rfl ?_
          refine x_getR (pc' := 102) (b := 19) hC kf_X6_39 dX6_behind_99 (hP 0 _ rfl) rfl rfl ?_
          refine x_getR (pc' := 105) (b := 23) hC kf_X6_109 dX6_behind_102 (hP 19 _ rfl) rfl rfl ?_
          refine x_iload_n (pc' := 106) hC dX6_behind_105 rfl rfl ?_
          refine x_iald (pc' := 107) hC dX6_behind_106 (hP 23 _ rfl) (by omega) (by decide) rfl ?_
          rw [hA2.rg (by omega) (by omega)]
          exact x_iret hC dX6_behind_107 (xI.mk ⟨by unfold aBehind; rw [if_pos ⟨c7, c18, c27⟩]; first | rw [if_neg (by omega), if_neg (by omega)] | rw [if_neg (by omega), if_pos w52] | rw [if_pos w52], hA.scr hF2 (by omega), hF2.mono (by omega) (by omega)⟩)
      · refine x_iconst (pc' := 31) hC dX6_behind_30 rfl ?_
        exact x_iret hC dX6_behind_31 (xI.mk ⟨by unfold aBehind; rw [if_neg (by omega)], hA, FrI.rf⟩)
set_option maxRecDepth 100000 in
set_option maxHeartbeats 4000000 in
theorem k_slide {g : xG} {l : Launch} {S : List xS} {μ : xM} {T r : Int → Int} {nt : Int} {tx : Int → Int} {un kp : List (Int → Int)} {sl : List (Int × Int)} {m : Int} (hP : xPre S) (hA : RC μ T r nt tx un kp sl) (hF : WF T r un kp) (hm : -2147483648 ≤ m ∧ m < 2147483648) : xCt g l yX6_slide cX6_slide 2 (some .int) 4 91 0 0 [vR g 0, vI m] S μ S (xI (fun a μ' => a = aSlide T r m ∧ RC μ' T r nt tx un kp sl ∧ FrI 0 81 μ μ')) := by
  refine x_enter (by decide) (Nat.le_of_ble_eq_true rfl) ?_
  intro zp ze zs zm za zb zh zc hC hz0
  have hT := hF.1
  have hR := hF.2.1.1
  have hy := hF.2.1.2
  have t0 := hT.1
  have t1 := hT.2.1
  have t2 := hT.2.2.1
  have t3 := hT.2.2.2.1
  have hN := hA.2.1
  have hm := hN.mi
  have hs := hN.sp
  refine x_aload_n (pc' := 1) hC dX6_slide_0 rfl rfl ?_
  refine x_getR (pc' := 4) (b := 12) hC kf_X6_26 dX6_slide_1 (hP 0 _ rfl) rfl rfl ?_
  refine x_iload_n (pc' := 5) hC dX6_slide_4 rfl rfl ?_
  refine x_callV (pc' := 8) (n := 1) hC (c_hasMinister (T := T) (sPl hP) hN.1 hT (by omega)) ky_X0_hasMinister kv_X0_hasMinister kl_X6_95 dX6_slide_5 (hP 12 _ rfl) rfl rfl rfl rfl ⟨Nat.le_of_ble_eq_true rfl, Nat.le_of_ble_eq_true rfl⟩ (Nat.le_of_ble_eq_true rfl) ⟨Nat.le_refl _, Nat.le_refl _⟩ (Or.inl rfl) rfl (x_kd ?_)
  refine x_ifb_ne (tgt := 13) (pc' := 11) hC dX6_slide_8 (by decide) rfl (fun c8 => ?_) (fun c8 => ?_)
  · refine x_aload_n (pc' := 14) hC dX6_slide_13 rfl rfl ?_
    refine x_getR (pc' := 17) (b := 19) hC kf_X6_39 dX6_slide_14 (hP 0 _ rfl) rfl rfl ?_
    refine x_aload_n (pc' := 18) hC dX6_slide_17 rfl rfl ?_
    refine x_getR (pc' := 21) (b := 14) hC kf_X6_35 dX6_slide_18 (hP 0 _ rfl) rfl rfl ?_
    refine x_callV (pc' := 24) (n := 1) hC (c_copy (sTri hP) (sNow hP) (by omega) hN.2.2) ky_X4_copy kv_X4_copy kl_X6_159 dX6_slide_21 (hP 19 _ rfl) rfl rfl rfl rfl ⟨Nat.le_of_ble_eq_true rfl, Nat.le_of_ble_eq_true rfl⟩ (Nat.le_of_ble_eq_true rfl) ⟨Nat.le_refl _, Nat.le_refl _⟩ (Or.inl rfl) rfl (x_kn (fun μ21 h21 => ?_))
    refine x_aload_n (pc' := 25) hC dX6_slide_24 rfl rfl ?_
    refine x_getR (pc' := 28) (b := 19) hC kf_X6_39 dX6_slide_25 (hP 0 _ rfl) rfl rfl ?_
    refine x_callV (pc' := 31) (n := 0) hC (c_oneYear (sTri hP) (xTrial hT hN h21) hT hR) ky_X4_oneYear kv_X4_oneYear kl_X6_162 dX6_slide_28 (hP 19 _ rfl) rfl rfl rfl rfl ⟨Nat.le_of_ble_eq_true rfl, Nat.le_of_ble_eq_true rfl⟩ (Nat.le_of_ble_eq_true rfl) ⟨Nat.le_refl _, Nat.le_refl _⟩ (Or.inl rfl) rfl (x_kn (fun μ28 h28 => ?_))
    refine x_aload_n (pc' := 32) hC dX6_slide_31 rfl rfl ?_
    refine x_getR (pc' := 35) (b := 19) hC kf_X6_39 dX6_slide_32 (hP 0 _ rfl) rfl rfl ?_
    refine x_getR (pc' := 38) (b := 21) hC kf_X6_103 dX6_slide_35 (hP 19 _ rfl) rfl rfl ?_
    refine x_iload_n (pc' := 39) hC dX6_slide_38 rfl rfl ?_
    refine x_iald (pc' := 40) hC dX6_slide_39 (hP 21 _ rfl) (by omega) (by decide) rfl ?_
    have hF2 : FrI 19 24 μ μ28 := h21.1.I.tr h28.1.I
    rw [((xTrial hT hN h21).step (by omega) h28.1 h28.2).pc (by omega) (by omega)]
    exact x_iret hC dX6_slide_40 (xI.mk ⟨by unfold aSlide; rw [if_pos c8], hA.scr hF2 (by omega), hF2.mono (by omega) (by omega)⟩)
  · refine x_iconst (pc' := 12) hC dX6_slide_11 rfl ?_
    exact x_iret hC dX6_slide_12 (xI.mk ⟨by unfold aSlide; rw [if_neg (by omega)], hA, FrI.rf⟩)
set_option maxRecDepth 100000 in
set_option maxHeartbeats 4000000 in
theorem k_top {g : xG} {l : Launch} {S : List xS} {μ : xM} {T r : Int → Int} {nt : Int} {tx : Int → Int} {un kp : List (Int → Int)} {sl : List (Int × Int)} {m : Int} (hP : xPre S) (hA : RC μ T r nt tx un kp sl) (hF : WF T r un kp) (hm : -2147483648 ≤ m ∧ m < 2147483648) : xCt g l yX6_top cX6_top 3 (some .int) 4 91 0 0 [vR g 0, vI m] S μ S (xI (fun a μ' => a = aTop T r m ∧ RC μ' T r nt tx un kp sl ∧ FrI 0 81 μ μ')) := by
  refine x_enter (by decide) (Nat.le_of_ble_eq_true rfl) ?_
  intro zp ze zs zm za zb zh zc hC hz0
  have hT := hF.1
  have hR := hF.2.1.1
  have hy := hF.2.1.2
  have t0 := hT.1
  have t1 := hT.2.1
  have t2 := hT.2.2.1
  have t3 := hT.2.2.2.1
  have hN := hA.2.1
  have hm := hN.mi
  have hs := hN.sp
  have loop : ∀ (zn : Nat) (k : Nat) (y : Int) (μ1 : xM) (r1 : Int → Int) (hm9 : 0 ≤ m ∧ m < T 3) (hy1 : y + k = 41) (hy2 : 0 ≤ y) (h1 : FrI 19 24 μ μ1) (hA1 : SA μ1 19 12 T r1) (h3 : WR T r1) (h4 : topF T m k y r1 = aTop T r m), k < zn → xX g 3 zp l ze { frames := 4, cells := 0, slots := 0, locals := 91 } zs zm za zb zh zc 0 0 (MQ zb (xQ g S (xI (fun a μ' => a = aTop T r m ∧ RC μ' T r nt tx un kp sl ∧ FrI 0 81 μ μ'))) za zs 0 0 (xA0 g)) S μ1 26 [some (vR g 0), some (vI m), some (vI y)] [] := by
    intro zn
    induction zn with
    | zero => intros; rename_i hz; exact absurd hz (Nat.not_lt_zero _)
    | succ zn ih =>
      intro k y μ1 r1 hm9 hy1 hy2 h1 hA1 h3 h4 hn
      have q3 := h3.2.1 m hm9.1 hm9.2
      refine x_iload_n (pc' := 27) hC dX6_top_26 rfl rfl ?_
      refine x_bipush (pc' := 29) hC dX6_top_27 (by decide) rfl ?_
      refine x_icmp_gt (tgt := 66) (pc' := 32) hC dX6_top_29 (by decide) rfl (by omega) (by omega) (fun c29 => ?_) (fun c29 => ?_)
      · refine x_bipush (pc' := 68) hC dX6_top_66 (by decide) rfl ?_
        exact x_iret hC dX6_top_68 (xI.mk ⟨by rw [← h4, show k = 0 by omega]; rfl, hA.scr h1 (by omega), h1.mono (by omega) (by omega)⟩)
      · obtain ⟨k1, rfl⟩ : ∃ k1 : Nat, k = k1 + 1 := ⟨k - 1, by omega⟩
        rw [topF] at h4
        refine x_aload_n (pc' := 33) hC dX6_top_32 rfl rfl ?_
        refine x_getR (pc' := 36) (b := 12) hC kf_X6_26 dX6_top_33 (hP 0 _ rfl) rfl rfl ?_
        refine x_aload_n (pc' := 37) hC dX6_top_36 rfl rfl ?_
        refine x_getR (pc' := 40) (b := 19) hC kf_X6_39 dX6_top_37 (hP 0 _ rfl) rfl rfl ?_
        refine x_getR (pc' := 43) (b := 21) hC kf_X6_103 dX6_top_40 (hP 19 _ rfl) rfl rfl ?_
        refine x_iload_n (pc' := 44) hC dX6_top_43 rfl rfl ?_
        refine x_iald (pc' := 45) hC dX6_top_44 (hP 21 _ rfl) (by omega) (by decide) rfl ?_
        rw [hA1.pc hm9.1 (by omega)]
        refine x_callV (pc' := 48) (n := 1) hC (c_isTop (T := T) (sPl hP) hA1.1 hT (by omega)) ky_X0_isTop kv_X0_isTop kl_X6_165 dX6_top_45 (hP 12 _ rfl) rfl rfl rfl rfl ⟨Nat.le_of_ble_eq_true rfl, Nat.le_of_ble_eq_true rfl⟩ (Nat.le_of_ble_eq_true rfl) ⟨Nat.le_refl _, Nat.le_refl _⟩ (Or.inl rfl) rfl (x_kd ?_)
        refine x_ifb_eq (tgt := 53) (pc' := 51) hC dX6_top_48 (by decide) rfl (fun c48 => ?_) (fun c48 => ?_)
        · rw [if_neg c48] at h4
          refine x_aload_n (pc' := 54) hC dX6_top_53 rfl rfl ?_
          refine x_getR (pc' := 57) (b := 19) hC kf_X6_39 dX6_top_54 (hP 0 _ rfl) rfl rfl ?_
          refine x_callV (pc' := 60) (n := 0) hC (c_oneYear (sTri hP) hA1 hT h3) ky_X4_oneYear kv_X4_oneYear kl_X6_162 dX6_top_57 (hP 19 _ rfl) rfl rfl rfl rfl ⟨Nat.le_of_ble_eq_true rfl, Nat.le_of_ble_eq_true rfl⟩ (Nat.le_of_ble_eq_true rfl) ⟨Nat.le_refl _, Nat.le_refl _⟩ (Or.inl rfl) rfl (x_kn (fun μ57 h57 => ?_))
          refine x_iinc (pc' := 63) hC dX6_top_60 rfl (by decide) rfl rfl ?_
          refine x_goto (tgt := 26) hC dX6_top_63 (by decide) ?_
          exact ih k1 _ _ (goYear T r1) hm9 (by omega) (by omega) (h1.tr h57.1.I) (hA1.step (by omega) h57.1 h57.2) (WR_goYear hT h3) h4 (by omega)
        · rw [if_pos c48] at h4
          refine x_iload_n (pc' := 52) hC dX6_top_51 rfl rfl ?_
          exact x_iret hC dX6_top_52 (xI.mk ⟨h4, hA.scr h1 (by omega), h1.mono (by omega) (by omega)⟩)
  refine x_aload_n (pc' := 1) hC dX6_top_0 rfl rfl ?_
  refine x_getR (pc' := 4) (b := 12) hC kf_X6_26 dX6_top_1 (hP 0 _ rfl) rfl rfl ?_
  refine x_iload_n (pc' := 5) hC dX6_top_4 rfl rfl ?_
  refine x_callV (pc' := 8) (n := 1) hC (c_hasMinister (T := T) (sPl hP) hN.1 hT (by omega)) ky_X0_hasMinister kv_X0_hasMinister kl_X6_95 dX6_top_5 (hP 12 _ rfl) rfl rfl rfl rfl ⟨Nat.le_of_ble_eq_true rfl, Nat.le_of_ble_eq_true rfl⟩ (Nat.le_of_ble_eq_true rfl) ⟨Nat.le_refl _, Nat.le_refl _⟩ (Or.inl rfl) rfl (x_kd ?_)
  refine x_ifb_ne (tgt := 13) (pc' := 11) hC dX6_top_8 (by decide) rfl (fun c8 => ?_) (fun c8 => ?_)
  · refine x_aload_n (pc' := 14) hC dX6_top_13 rfl rfl ?_
    refine x_getR (pc' := 17) (b := 19) hC kf_X6_39 dX6_top_14 (hP 0 _ rfl) rfl rfl ?_
    refine x_aload_n (pc' := 18) hC dX6_top_17 rfl rfl ?_
    refine x_getR (pc' := 21) (b := 14) hC kf_X6_35 dX6_top_18 (hP 0 _ rfl) rfl rfl ?_
    refine x_callV (pc' := 24) (n := 1) hC (c_copy (sTri hP) (sNow hP) (by omega) hN.2.2) ky_X4_copy kv_X4_copy kl_X6_159 dX6_top_21 (hP 19 _ rfl) rfl rfl rfl rfl ⟨Nat.le_of_ble_eq_true rfl, Nat.le_of_ble_eq_true rfl⟩ (Nat.le_of_ble_eq_true rfl) ⟨Nat.le_refl _, Nat.le_refl _⟩ (Or.inl rfl) rfl (x_kn (fun μ21 h21 => ?_))
    refine x_iconst (pc' := 25) hC dX6_top_24 rfl ?_
    refine x_istore_n (pc' := 26) hC dX6_top_25 (by decide) rfl rfl ?_
    exact loop 42 41 _ _ r c8 (by omega) (by omega) h21.1.I (xTrial hT hN h21) hR (by unfold aTop; rw [if_pos c8]) (by omega)
  · refine x_iconst (pc' := 12) hC dX6_top_11 rfl ?_
    exact x_iret hC dX6_top_12 (xI.mk ⟨by unfold aTop; rw [if_neg (by omega)], hA, FrI.rf⟩)
set_option maxRecDepth 100000 in
set_option maxHeartbeats 4000000 in
theorem k_topple {g : xG} {l : Launch} {S : List xS} {μ : xM} {T r : Int → Int} {nt : Int} {tx : Int → Int} {un kp : List (Int → Int)} {sl : List (Int × Int)} {m : Int} (hP : xPre S) (hA : RC μ T r nt tx un kp sl) (hF : WF T r un kp) (hm : -2147483648 ≤ m ∧ m < 2147483648) : xCt g l yX6_topple cX6_topple 4 (some .int) 4 92 0 0 [vR g 0, vI m] S μ S (xI (fun a μ' => a = aTopple T r m ∧ RC μ' T r nt tx un kp sl ∧ FrI 0 81 μ μ')) := by
  refine x_enter (by decide) (Nat.le_of_ble_eq_true rfl) ?_
  intro zp ze zs zm za zb zh zc hC hz0
  have hT := hF.1
  have hR := hF.2.1.1
  have hy := hF.2.1.2
  have t0 := hT.1
  have t1 := hT.2.1
  have t2 := hT.2.2.1
  have t3 := hT.2.2.2.1
  have hN := hA.2.1
  have hm := hN.mi
  have hs := hN.sp
  have loop : ∀ (zn : Nat) (k : Nat) (v : Int) (μ1 : xM) (hm9 : 0 ≤ m ∧ m < T 3) (hv1 : v + k = 11) (hv2 : 0 ≤ v) (h1 : FrI 19 24 μ μ1) (h4 : toppleF T r m k v = aTopple T r m), k < zn → xX g 4 zp l ze { frames := 4, cells := 0, slots := 0, locals := 92 } zs zm za zb zh zc 0 0 (MQ zb (xQ g S (xI (fun a μ' => a = aTopple T r m ∧ RC μ' T r nt tx un kp sl ∧ FrI 0 81 μ μ'))) za zs 0 0 (xA0 g)) S μ1 39 [some (vR g 0), some (vI m), some (vI (r (18 + m))), some (vI v)] [] := by
    intro zn
    induction zn with
    | zero => intros; rename_i hz; exact absurd hz (Nat.not_lt_zero _)
    | succ zn ih =>
      intro k v μ1 hm9 hv1 hv2 h1 h4 hn
      have q3 := hR.2.1 m hm9.1 hm9.2
      have q4 := hR.1 (r (18 + m)) (by omega) (by omega)
      have hN1 : SA μ1 14 12 T r := (hA.scr h1 (by omega)).2.1
      refine x_aload_n (pc' := 40) hC dX6_topple_39 rfl rfl ?_
      refine x_getR (pc' := 43) (b := 14) hC kf_X6_35 dX6_topple_40 (hP 0 _ rfl) rfl rfl ?_
      refine x_getR (pc' := 46) (b := 15) hC kf_X6_119 dX6_topple_43 (hP 14 _ rfl) rfl rfl ?_
      refine x_iload_n (pc' := 47) hC dX6_topple_46 rfl rfl ?_
      refine x_iald (pc' := 48) hC dX6_topple_47 (hP 15 _ rfl) (by omega) (by decide) rfl ?_
      rw [hN1.wx (by omega) (by omega)]
      refine x_iload_n (pc' := 49) hC dX6_topple_48 rfl rfl ?_
      refine x_iadd (pc' := 50) hC dX6_topple_49 rfl ?_
      refine x_bipush (pc' := 52) hC dX6_topple_50 (by decide) rfl ?_
      refine x_icmp_gt (tgt := 98) (pc' := 55) hC dX6_topple_52 (by decide) rfl (by omega) (by omega) (fun c52 => ?_) (fun c52 => ?_)
      · have e9 : toppleF T r m k v = -4 := by cases k with | zero => rfl | succ k => rw [toppleF, if_neg (by omega)]
        refine x_bipush (pc' := 100) hC dX6_topple_98 (by decide) rfl ?_
        exact x_iret hC dX6_topple_100 (xI.mk ⟨by rw [← h4, e9], hA.scr h1 (by omega), h1.mono (by omega) (by omega)⟩)
      · obtain ⟨k1, rfl⟩ : ∃ k1 : Nat, k = k1 + 1 := ⟨k - 1, by omega⟩
        rw [toppleF, if_pos (by omega)] at h4
        refine x_aload_n (pc' := 56) hC dX6_topple_55 rfl rfl ?_
        refine x_getR (pc' := 59) (b := 19) hC kf_X6_39 dX6_topple_56 (hP 0 _ rfl) rfl rfl ?_
        refine x_aload_n (pc' := 60) hC dX6_topple_59 rfl rfl ?_
        refine x_getR (pc' := 63) (b := 14) hC kf_X6_35 dX6_topple_60 (hP 0 _ rfl) rfl rfl ?_
        refine x_callV (pc' := 66) (n := 1) hC (c_copy (sTri hP) (sNow hP) (by omega) hN1.2.2) ky_X4_copy kv_X4_copy kl_X6_159 dX6_topple_63 (hP 19 _ rfl) rfl rfl rfl rfl ⟨Nat.le_of_ble_eq_true rfl, Nat.le_of_ble_eq_true rfl⟩ (Nat.le_of_ble_eq_true rfl) ⟨Nat.le_refl _, Nat.le_refl _⟩ (Or.inl rfl) rfl (x_kn (fun μ63 h63 => ?_))
        have hN2 := xTrial hT hN1 h63
        refine x_aload_n (pc' := 67) hC dX6_topple_66 rfl rfl ?_
        refine x_getR (pc' := 70) (b := 19) hC kf_X6_39 dX6_topple_67 (hP 0 _ rfl) rfl rfl ?_
        refine x_getR (pc' := 73) (b := 20) hC kf_X6_119 dX6_topple_70 (hP 19 _ rfl) rfl rfl ?_
        refine x_iload_n (pc' := 74) hC dX6_topple_73 rfl rfl ?_
        refine x_dup2 (pc' := 75) hC dX6_topple_74 rfl rfl rfl ?_
        refine x_iald (pc' := 76) hC dX6_topple_75 (hP 20 _ rfl) (by omega) (by decide) rfl ?_
        rw [hN2.wx (by omega) (by omega)]
        refine x_iload_n (pc' := 77) hC dX6_topple_76 rfl rfl ?_
        refine x_iadd (pc' := 78) hC dX6_topple_77 rfl ?_
        refine x_iast (pc' := 79) hC dX6_topple_78 (hP 20 _ rfl) (by omega) (by omega) rfl ?_
        refine x_aload_n (pc' := 80) hC dX6_topple_79 rfl rfl ?_
        refine x_getR (pc' := 83) (b := 19) hC kf_X6_39 dX6_topple_80 (hP 0 _ rfl) rfl rfl ?_
        refine x_iload_n (pc' := 84) hC dX6_topple_83 rfl rfl ?_
        refine x_callV (pc' := 87) (n := 1) hC (c_slips (K := m.toNat) (T := T) (r := (up r (2 + r (18 + m)) (r (2 + r (18 + m)) + v))) (sTri hP) ⟨hN2.1.frB (FrB.rf.u (k := 20) (b := 19) (by omega)) (by omega), hN2.2.1.fr (FrS.rf.u1 (b := 19)), hN2.2.2.wax (by omega) (by omega)⟩ hT (WR_wax9 hR (by omega) (by omega) (by omega)) hm9 (by omega)) ky_X4_slipsAtHisTurn kv_X4_slipsAtHisTurn kl_X6_168 dX6_topple_84 (hP 19 _ rfl) rfl rfl rfl rfl ⟨Nat.le_of_ble_eq_true rfl, Nat.le_of_ble_eq_true rfl⟩ (Nat.le_of_ble_eq_true rfl) ⟨Nat.le_refl _, Nat.le_refl _⟩ (Or.inl rfl) rfl (x_kv (fun μ84 h84 => ?_))
        refine x_ifb_eq (tgt := 92) (pc' := 90) hC dX6_topple_87 (by decide) rfl (fun c87 => ?_) (fun c87 => ?_)
        · rw [if_neg c87] at h4
          refine x_iinc (pc' := 95) hC dX6_topple_92 rfl (by decide) rfl rfl ?_
          refine x_goto (tgt := 39) hC dX6_topple_95 (by decide) ?_
          exact ih k1 _ _ hm9 (by omega) (by omega) ((h1.tr h63.1.I).tr ((FrI.rf.u (k := 20) (by omega)).tr h84.I)) h4 (by omega)
        · rw [if_pos c87] at h4
          refine x_iload_n (pc' := 91) hC dX6_topple_90 rfl rfl ?_
          exact x_iret hC dX6_topple_91 (xI.mk (by have z := ((h1.tr h63.1.I).tr ((FrI.rf.u (k := 20) (by omega)).tr h84.I)); exact ⟨h4, hA.scr z (by omega), z.mono (by omega) (by omega)⟩))
  refine x_aload_n (pc' := 1) hC dX6_topple_0 rfl rfl ?_
  refine x_getR (pc' := 4) (b := 12) hC kf_X6_26 dX6_topple_1 (hP 0 _ rfl) rfl rfl ?_
  refine x_iload_n (pc' := 5) hC dX6_topple_4 rfl rfl ?_
  refine x_callV (pc' := 8) (n := 1) hC (c_hasMinister (T := T) (sPl hP) hN.1 hT (by omega)) ky_X0_hasMinister kv_X0_hasMinister kl_X6_95 dX6_topple_5 (hP 12 _ rfl) rfl rfl rfl rfl ⟨Nat.le_of_ble_eq_true rfl, Nat.le_of_ble_eq_true rfl⟩ (Nat.le_of_ble_eq_true rfl) ⟨Nat.le_refl _, Nat.le_refl _⟩ (Or.inl rfl) rfl (x_kd ?_)
  refine x_ifb_ne (tgt := 13) (pc' := 11) hC dX6_topple_8 (by decide) rfl (fun c8 => ?_) (fun c8 => ?_)
  · have q3 := hR.2.1 m c8.1 c8.2
    refine x_aload_n (pc' := 14) hC dX6_topple_13 rfl rfl ?_
    refine x_getR (pc' := 17) (b := 14) hC kf_X6_35 dX6_topple_14 (hP 0 _ rfl) rfl rfl ?_
    refine x_getR (pc' := 20) (b := 16) hC kf_X6_103 dX6_topple_17 (hP 14 _ rfl) rfl rfl ?_
    refine x_iload_n (pc' := 21) hC dX6_topple_20 rfl rfl ?_
    refine x_iald (pc' := 22) hC dX6_topple_21 (hP 16 _ rfl) (by omega) (by decide) rfl ?_
    rw [hN.pc c8.1 (by omega)]
    refine x_istore_n (pc' := 23) hC dX6_topple_22 (by decide) rfl rfl ?_
    refine x_aload_n (pc' := 24) hC dX6_topple_23 rfl rfl ?_
    refine x_getR (pc' := 27) (b := 12) hC kf_X6_26 dX6_topple_24 (hP 0 _ rfl) rfl rfl ?_
    refine x_iload_n (pc' := 28) hC dX6_topple_27 rfl rfl ?_
    refine x_callV (pc' := 31) (n := 1) hC (c_hasStep (T := T) (sPl hP) hN.1 ⟨hT.1, hT.2.1⟩ (by omega)) ky_X0_hasStep kv_X0_hasStep kl_X6_116 dX6_topple_28 (hP 12 _ rfl) rfl rfl rfl rfl ⟨Nat.le_of_ble_eq_true rfl, Nat.le_of_ble_eq_true rfl⟩ (Nat.le_of_ble_eq_true rfl) ⟨Nat.le_refl _, Nat.le_refl _⟩ (Or.inl rfl) rfl (x_kd ?_)
    refine x_ifb_ne (tgt := 37) (pc' := 34) hC dX6_topple_31 (by decide) rfl (fun c31 => ?_) (fun c31 => ?_)
    · refine x_iconst (pc' := 38) hC dX6_topple_37 rfl ?_
      refine x_istore_n (pc' := 39) hC dX6_topple_38 (by decide) rfl rfl ?_
      exact loop 12 11 0 μ c8 (by omega) (by omega) FrI.rf (by unfold aTopple; rw [if_pos c8]) (by omega)
    · exact absurd q3 c31
  · refine x_iconst (pc' := 12) hC dX6_topple_11 rfl ?_
    exact x_iret hC dX6_topple_12 (xI.mk ⟨by unfold aTopple; rw [if_neg (by omega)], hA, FrI.rf⟩)
set_option maxRecDepth 100000 in
set_option maxHeartbeats 4000000 in
theorem c_govBy {g : xG} {l : Launch} {S : List xS} {μ : xM} {T r : Int → Int} {nt : Int} {tx : Int → Int} {un kp : List (Int → Int)} {sl : List (Int × Int)} {m n x v : Int} (hP : xPre S) (hA : RC μ T r nt tx un kp sl) (hF : WF T r un kp) (hm9 : 0 ≤ m ∧ m < T 3) (hn9 : 1 ≤ n ∧ n ≤ 9) (hx9 : 0 ≤ x ∧ x < T 0) (hv9 : 0 ≤ v ∧ v ≤ 9) : xCt g l yX6_governsByWax cX6_governsByWax 5 (some .boolean) 5 113 0 0 [vR g 0, vI m, vI n, vI x, vI v] S μ S (xI (fun a μ' => a = (if plotB T r m n v x = true then 1 else 0) ∧ FrI 19 24 μ μ')) := by
  refine x_enter (by decide) (Nat.le_of_ble_eq_true rfl) ?_
  intro zp ze zs zm za zb zh zc hC hz0
  have hT := hF.1
  have hR := hF.2.1.1
  have hy := hF.2.1.2
  have t0 := hT.1
  have t1 := hT.2.1
  have t2 := hT.2.2.1
  have t3 := hT.2.2.2.1
  have hN := hA.2.1
  have hm := hN.mi
  have hs := hN.sp
  have q4 := hR.1 x (by omega) (by omega)
  have e8 : plotB T r m n v x = (decide (r (2 + x) + v ≤ 9) && decide (gov T (goYears T n.toNat (up r (2 + x) (r (2 + x) + v))) = m)) := rfl
  refine x_aload_n (pc' := 1) hC dX6_governsByWax_0 rfl rfl ?_
  refine x_getR (pc' := 4) (b := 12) hC kf_X6_26 dX6_governsByWax_1 (hP 0 _ rfl) rfl rfl ?_
  refine x_iload_n (pc' := 5) hC dX6_governsByWax_4 rfl rfl ?_
  refine x_callV (pc' := 8) (n := 1) hC (c_hasStep (T := T) (sPl hP) hN.1 ⟨hT.1, hT.2.1⟩ (by omega)) ky_X0_hasStep kv_X0_hasStep kl_X6_116 dX6_governsByWax_5 (hP 12 _ rfl) rfl rfl rfl rfl ⟨Nat.le_of_ble_eq_true rfl, Nat.le_of_ble_eq_true rfl⟩ (Nat.le_of_ble_eq_true rfl) ⟨Nat.le_refl _, Nat.le_refl _⟩ (Or.inl rfl) rfl (x_kd ?_)
  refine x_ifb_eq (tgt := 28) (pc' := 11) hC dX6_governsByWax_8 (by decide) rfl (fun c8 => ?_) (fun c8 => ?_)
  · exact absurd hx9 c8
  · refine x_aload_n (pc' := 12) hC dX6_governsByWax_11 rfl rfl ?_
    refine x_getR (pc' := 15) (b := 14) hC kf_X6_35 dX6_governsByWax_12 (hP 0 _ rfl) rfl rfl ?_
    refine x_getR (pc' := 18) (b := 15) hC kf_X6_119 dX6_governsByWax_15 (hP 14 _ rfl) rfl rfl ?_
    refine x_iload_n (pc' := 19) hC dX6_governsByWax_18 rfl rfl ?_
    refine x_iald (pc' := 20) hC dX6_governsByWax_19 (hP 15 _ rfl) (by omega) (by decide) rfl ?_
    rw [hN.wx (by omega) (by omega)]
    refine x_iload (pc' := 22) hC dX6_governsByWax_20 rfl rfl ?_
    refine x_iadd (pc' := 23) hC dX6_governsByWax_22 rfl ?_
    refine x_bipush (pc' := 25) hC dX6_governsByWax_23 (by decide) rfl ?_
    refine x_icmp_le (tgt := 30) (pc' := 28) hC dX6_governsByWax_25 (by decide) rfl (by omega) (by omega) (fun c25 => ?_) (fun c25 => ?_)
    · refine x_aload_n (pc' := 31) hC dX6_governsByWax_30 rfl rfl ?_
      refine x_getR (pc' := 34) (b := 19) hC kf_X6_39 dX6_governsByWax_31 (hP 0 _ rfl) rfl rfl ?_
      refine x_aload_n (pc' := 35) hC dX6_governsByWax_34 rfl rfl ?_
      refine x_getR (pc' := 38) (b := 14) hC kf_X6_35 dX6_governsByWax_35 (hP 0 _ rfl) rfl rfl ?_
      refine x_callV (pc' := 41) (n := 1) hC (c_copy (sTri hP) (sNow hP) (by omega) hN.2.2) ky_X4_copy kv_X4_copy kl_X6_159 dX6_governsByWax_38 (hP 19 _ rfl) rfl rfl rfl rfl ⟨Nat.le_of_ble_eq_true rfl, Nat.le_of_ble_eq_true rfl⟩ (Nat.le_of_ble_eq_true rfl) ⟨Nat.le_refl _, Nat.le_refl _⟩ (Or.inl rfl) rfl (x_kn (fun μ38 h38 => ?_))
      have hN2 := xTrial hT hN h38
      refine x_aload_n (pc' := 42) hC dX6_governsByWax_41 rfl rfl ?_
      refine x_getR (pc' := 45) (b := 19) hC kf_X6_39 dX6_governsByWax_42 (hP 0 _ rfl) rfl rfl ?_
      refine x_getR (pc' := 48) (b := 20) hC kf_X6_119 dX6_governsByWax_45 (hP 19 _ rfl) rfl rfl ?_
      refine x_iload_n (pc' := 49) hC dX6_governsByWax_48 rfl rfl ?_
      refine x_dup2 (pc' := 50) hC dX6_governsByWax_49 rfl rfl rfl ?_
      refine x_iald (pc' := 51) hC dX6_governsByWax_50 (hP 20 _ rfl) (by omega) (by decide) rfl ?_
      rw [hN2.wx (by omega) (by omega)]
      refine x_iload (pc' := 53) hC dX6_governsByWax_51 rfl rfl ?_
      refine x_iadd (pc' := 54) hC dX6_governsByWax_53 rfl ?_
      refine x_iast (pc' := 55) hC dX6_governsByWax_54 (hP 20 _ rfl) (by omega) (by omega) rfl ?_
      refine x_aload_n (pc' := 56) hC dX6_governsByWax_55 rfl rfl ?_
      refine x_getR (pc' := 59) (b := 19) hC kf_X6_39 dX6_governsByWax_56 (hP 0 _ rfl) rfl rfl ?_
      refine x_iload_n (pc' := 60) hC dX6_governsByWax_59 rfl rfl ?_
      refine x_callV (pc' := 63) (n := 1) hC (c_goOn (N := n.toNat) (T := T) (r := up r (2 + x) (r (2 + x) + v)) (sTri hP) ⟨hN2.1.frB (FrB.rf.u (k := 20) (b := 19) (by omega)) (by omega), hN2.2.1.fr (FrS.rf.u1 (b := 19)), hN2.2.2.wax (by omega) (by omega)⟩ hT (WR_wax9 hR (by omega) (by omega) (by omega)) (by omega) (by omega)) ky_X4_goOn kv_X4_goOn kl_X6_138 dX6_governsByWax_60 (hP 19 _ rfl) rfl rfl rfl rfl ⟨Nat.le_of_ble_eq_true rfl, Nat.le_of_ble_eq_true rfl⟩ (Nat.le_of_ble_eq_true rfl) ⟨Nat.le_refl _, Nat.le_refl _⟩ (Or.inl rfl) rfl (x_kn (fun μ60 h60 => ?_))
      refine x_aload_n (pc' := 64) hC dX6_governsByWax_63 rfl rfl ?_
      refine x_getR (pc' := 67) (b := 19) hC kf_X6_39 dX6_governsByWax_64 (hP 0 _ rfl) rfl rfl ?_
      refine x_callV (pc' := 70) (n := 0) hC (c_governor (T := T) (r := goYears T n.toNat (up r (2 + x) (r (2 + x) + v))) (sTri hP) ⟨(hN2.1.frB (FrB.rf.u (k := 20) (b := 19) (by omega)) (by omega)).fr (by omega) h60.1, (hN2.2.1.fr (FrS.rf.u1 (b := 19))).fr h60.1, h60.2⟩ hT (WR_goYears hT _ _ (WR_wax9 hR (by omega) (by omega) (by omega)))) ky_X4_governor kv_X4_governor kl_X6_156 dX6_governsByWax_67 (hP 19 _ rfl) rfl rfl rfl rfl ⟨Nat.le_of_ble_eq_true rfl, Nat.le_of_ble_eq_true rfl⟩ (Nat.le_of_ble_eq_true rfl) ⟨Nat.le_refl _, Nat.le_refl _⟩ (Or.inl rfl) rfl (x_kd ?_)
      refine x_iload_n (pc' := 71) hC dX6_governsByWax_70 rfl rfl ?_
      have g9 := gov_in (T := T) (r := goYears T n.toNat (up r (2 + x) (r (2 + x) + v))) hT
      refine x_icmp_ne (tgt := 78) (pc' := 74) hC dX6_governsByWax_71 (by decide) rfl (by omega) (by omega) (fun c71 => ?_) (fun c71 => ?_)
      · refine x_iconst (pc' := 79) hC dX6_governsByWax_78 rfl ?_
        exact x_zret hC dX6_governsByWax_79 (by first | exact Or.inl rfl | exact Or.inr rfl | omega) (xI.mk (by first
      | exact ⟨by rw [e8, if_neg (by simp; omega)], FrI.rf⟩
      | exact ⟨by rw [e8]; first | rw [if_pos (by simp only [Bool.and_eq_true, decide_eq_true_eq]; omega)] | rw [if_neg (by simp only [Bool.and_eq_true, decide_eq_true_eq]; omega)], (h38.1.I.tr (FrI.rf.u (k := 20) (by omega))).tr h60.1.I⟩))
      · refine x_iconst (pc' := 75) hC dX6_governsByWax_74 rfl ?_
        refine x_goto (tgt := 79) hC dX6_governsByWax_75 (by decide) ?_
        exact x_zret hC dX6_governsByWax_79 (by first | exact Or.inl rfl | exact Or.inr rfl | omega) (xI.mk (by first
      | exact ⟨by rw [e8, if_neg (by simp; omega)], FrI.rf⟩
      | exact ⟨by rw [e8]; first | rw [if_pos (by simp only [Bool.and_eq_true, decide_eq_true_eq]; omega)] | rw [if_neg (by simp only [Bool.and_eq_true, decide_eq_true_eq]; omega)], (h38.1.I.tr (FrI.rf.u (k := 20) (by omega))).tr h60.1.I⟩))
    · refine x_iconst (pc' := 29) hC dX6_governsByWax_28 rfl ?_
      exact x_zret hC dX6_governsByWax_29 (by first | exact Or.inl rfl | exact Or.inr rfl | omega) (xI.mk (by first
      | exact ⟨by rw [e8, if_neg (by simp; omega)], FrI.rf⟩
      | exact ⟨by rw [e8]; first | rw [if_pos (by simp only [Bool.and_eq_true, decide_eq_true_eq]; omega)] | rw [if_neg (by simp only [Bool.and_eq_true, decide_eq_true_eq]; omega)], (h38.1.I.tr (FrI.rf.u (k := 20) (by omega))).tr h60.1.I⟩))
set_option maxRecDepth 100000 in
set_option maxHeartbeats 4000000 in
theorem k_plot {g : xG} {l : Launch} {S : List xS} {μ : xM} {T r : Int → Int} {nt : Int} {tx : Int → Int} {un kp : List (Int → Int)} {sl : List (Int × Int)} {m n w : Int} (hP : xPre S) (hA : RC μ T r nt tx un kp sl) (hF : WF T r un kp) (hm : -2147483648 ≤ m ∧ m < 2147483648) (hn : -2147483648 ≤ n ∧ n < 2147483648) (hw : -2147483648 ≤ w ∧ w < 2147483648) : xCt g l yX6_plot cX6_plot 6 (some .int) 6 137 0 0 [vR g 0, vI m, vI n, vI w] S μ S (xI (fun a μ' => a = aPlot T r m n w ∧ RC μ' T r nt tx un kp sl ∧ FrI 0 81 μ μ')) := by
  refine x_enter (by decide) (Nat.le_of_ble_eq_true rfl) ?_
  intro zp ze zs zm za zb zh zc hC hz0
  have hT := hF.1
  have hR := hF.2.1.1
  have hy := hF.2.1.2
  have t0 := hT.1
  have t1 := hT.2.1
  have t2 := hT.2.2.1
  have t3 := hT.2.2.2.1
  have hN := hA.2.1
  have hm := hN.mi
  have hs := hN.sp
  have loop : ∀ (zn : Nat) (k : Nat) (v : Int) (μ1 : xM) (b1 : 0 ≤ m ∧ m < T 3) (b2 : 1 ≤ n ∧ n ≤ 9) (b3 : 0 ≤ w ∧ w ≤ 1) (hv1 : v + k = 10) (hv2 : 1 ≤ v) (h1 : FrI 19 24 μ μ1) (h4 : pick (firstVX (plotB T r m n) (T 0).toNat k v) w = aPlot T r m n w), k < zn → xX g 6 zp l ze { frames := 6, cells := 0, slots := 0, locals := 137 } zs zm za zb zh zc 0 0 (MQ zb (xQ g S (xI (fun a μ' => a = aPlot T r m n w ∧ RC μ' T r nt tx un kp sl ∧ FrI 0 81 μ μ'))) za zs 0 0 (xA0 g)) S μ1 57 [some (vR g 0), some (vI m), some (vI n), some (vI w), some (vI v), none] [] := by
    intro zn
    induction zn with
    | zero => intros; rename_i hz; exact absurd hz (Nat.not_lt_zero _)
    | succ zn ih9 =>
      intro k v μ1 b1 b2 b3 hv1 hv2 h1 h4 hn
      have loop2 : ∀ (zn : Nat) (j : Nat) (x : Int) (μ2 : xM) (hx1 : x + j = T 0) (hx2 : 0 ≤ x) (h2 : FrI 19 24 μ μ2) (hv3 : v ≤ 9) (h5 : firstX (plotB T r m n v) j x = firstX (plotB T r m n v) (T 0).toNat 0), j < zn → xX g 6 zp l ze { frames := 6, cells := 0, slots := 0, locals := 137 } zs zm za zb zh zc 0 0 (MQ zb (xQ g S (xI (fun a μ' => a = aPlot T r m n w ∧ RC μ' T r nt tx un kp sl ∧ FrI 0 81 μ μ'))) za zs 0 0 (xA0 g)) S μ2 67 [some (vR g 0), some (vI m), some (vI n), some (vI w), some (vI v), some (vI x)] [] := by
        intro zn
        induction zn with
        | zero => intros; rename_i hz; exact absurd hz (Nat.not_lt_zero _)
        | succ zn ih =>
          intro j x μ2 hx1 hx2 h2 hv3 h5 hn
          obtain ⟨k1, rfl⟩ : ∃ k1 : Nat, k = k1 + 1 := ⟨k - 1, by omega⟩
          refine x_iload (pc' := 69) hC dX6_plot_67 rfl rfl ?_
          refine x_aload_n (pc' := 70) hC dX6_plot_69 rfl rfl ?_
          refine x_getR (pc' := 73) (b := 12) hC kf_X6_26 dX6_plot_70 (hP 0 _ rfl) rfl rfl ?_
          refine x_getI (j' := 2) (pc' := 76) hC kf_X6_175 dX6_plot_73 (hP 12 _ rfl) rfl rfl rfl ?_
          rw [(hA.scr h2 (by omega)).2.1.sp]
          refine x_icmp_ge (tgt := 110) (pc' := 79) hC dX6_plot_76 (by decide) rfl (by omega) (by omega) (fun c76 => ?_) (fun c76 => ?_)
          · have j0 : j = 0 := by omega
            subst j0
            rw [firstX] at h5
            rw [firstVX, if_pos h5.symm] at h4
            refine x_iinc (pc' := 113) hC dX6_plot_110 rfl (by decide) rfl rfl ?_
            refine x_goto (tgt := 57) hC dX6_plot_113 (by decide) ?_
            refine x_vs (vs' := [some (vR g 0), some (vI m), some (vI n), some (vI w), some (vI (v + 1)), none]) (by intro i v; match i with | 0 => exact id | 1 => exact id | 2 => exact id | 3 => exact id | 4 => exact id | 5 => (intro h; cases h) | i + 6 => (intro h; cases h)) ?_
            exact ih9 k1 _ _ b1 b2 b3 (by omega) (by omega) h2 h4 (by omega)
          · obtain ⟨j1, rfl⟩ : ∃ j1 : Nat, j = j1 + 1 := ⟨j - 1, by omega⟩
            rw [firstX] at h5
            refine x_aload_n (pc' := 80) hC dX6_plot_79 rfl rfl ?_
            refine x_iload_n (pc' := 81) hC dX6_plot_80 rfl rfl ?_
            refine x_iload_n (pc' := 82) hC dX6_plot_81 rfl rfl ?_
            refine x_iload (pc' := 84) hC dX6_plot_82 rfl rfl ?_
            refine x_iload (pc' := 86) hC dX6_plot_84 rfl rfl ?_
            refine x_callV (pc' := 89) (n := 4) hC (c_govBy hP (hA.scr h2 (by omega)) hF b1 b2 ⟨by omega, by omega⟩ (by omega)) ky_X6_governsByWax kv_X6_governsByWax kl_X6_171 dX6_plot_86 (hP 0 _ rfl) rfl rfl rfl rfl ⟨Nat.le_of_ble_eq_true rfl, Nat.le_of_ble_eq_true rfl⟩ (Nat.le_of_ble_eq_true rfl) ⟨Nat.le_refl _, Nat.le_refl _⟩ (Or.inl rfl) rfl (x_kv (fun μ86 h86 => ?_))
            refine x_ifb_eq (tgt := 104) (pc' := 92) hC dX6_plot_89 (by decide) rfl (fun c89 => ?_) (fun c89 => ?_)
            · rw [if_neg c89] at h5
              refine x_iinc (pc' := 107) hC dX6_plot_104 rfl (by decide) rfl rfl ?_
              refine x_goto (tgt := 67) hC dX6_plot_107 (by decide) ?_
              exact ih j1 _ _ (by omega) (by omega) (h2.tr h86) (by omega) h5 (by omega)
            · rw [if_pos c89] at h5
              rw [firstVX, ← h5, if_neg (by omega)] at h4
              refine x_iload_n (pc' := 93) hC dX6_plot_92 rfl rfl ?_
              refine x_if_ne (tgt := 101) (pc' := 96) hC dX6_plot_93 (by decide) rfl (by omega) (fun c93 => ?_) (fun c93 => ?_)
              · refine x_iload (pc' := 103) hC dX6_plot_101 rfl rfl ?_
                exact x_iret hC dX6_plot_103 (xI.mk ⟨by rw [← h4]; unfold pick; rw [if_neg (by omega)]; first | rw [if_neg c93] | rw [if_pos (by omega)], hA.scr (h2.tr h86) (by omega), (h2.tr h86).mono (by omega) (by omega)⟩)
              · refine x_iload (pc' := 98) hC dX6_plot_96 rfl rfl ?_
                refine x_goto (tgt := 103) hC dX6_plot_98 (by decide) ?_
                exact x_iret hC dX6_plot_103 (xI.mk ⟨by rw [← h4]; unfold pick; rw [if_neg (by omega)]; first | rw [if_neg c93] | rw [if_pos (by omega)], hA.scr (h2.tr h86) (by omega), (h2.tr h86).mono (by omega) (by omega)⟩)
      refine x_iload (pc' := 59) hC dX6_plot_57 rfl rfl ?_
      refine x_bipush (pc' := 61) hC dX6_plot_59 (by decide) rfl ?_
      refine x_icmp_gt (tgt := 116) (pc' := 64) hC dX6_plot_61 (by decide) rfl (by omega) (by omega) (fun c61 => ?_) (fun c61 => ?_)
      · refine x_bipush (pc' := 118) hC dX6_plot_116 (by decide) rfl ?_
        exact x_iret hC dX6_plot_118 (xI.mk ⟨by rw [← h4, show k = 0 by omega]; rfl, hA.scr h1 (by omega), h1.mono (by omega) (by omega)⟩)
      · refine x_iconst (pc' := 65) hC dX6_plot_64 rfl ?_
        refine x_istore (pc' := 67) hC dX6_plot_65 (by decide) rfl rfl ?_
        exact loop2 ((T 0).toNat + 1) (T 0).toNat _ _ (by omega) (by omega) h1 (by omega) rfl (by omega)
  refine x_aload_n (pc' := 1) hC dX6_plot_0 rfl rfl ?_
  refine x_getR (pc' := 4) (b := 12) hC kf_X6_26 dX6_plot_1 (hP 0 _ rfl) rfl rfl ?_
  refine x_iload_n (pc' := 5) hC dX6_plot_4 rfl rfl ?_
  refine x_callV (pc' := 8) (n := 1) hC (c_hasMinister (T := T) (sPl hP) hN.1 hT (by omega)) ky_X0_hasMinister kv_X0_hasMinister kl_X6_95 dX6_plot_5 (hP 12 _ rfl) rfl rfl rfl rfl ⟨Nat.le_of_ble_eq_true rfl, Nat.le_of_ble_eq_true rfl⟩ (Nat.le_of_ble_eq_true rfl) ⟨Nat.le_refl _, Nat.le_refl _⟩ (Or.inl rfl) rfl (x_kd ?_)
  refine x_ifb_eq (tgt := 30) (pc' := 11) hC dX6_plot_8 (by decide) rfl (fun c8 => ?_) (fun c8 => ?_)
  · refine x_iconst (pc' := 31) hC dX6_plot_30 rfl ?_
    exact x_iret hC dX6_plot_31 (xI.mk ⟨by unfold aPlot; rw [if_neg (by omega)], hA, FrI.rf⟩)
  · refine x_iload_n (pc' := 12) hC dX6_plot_11 rfl rfl ?_
    refine x_iconst (pc' := 13) hC dX6_plot_12 rfl ?_
    refine x_bipush (pc' := 15) hC dX6_plot_13 (by decide) rfl ?_
    refine x_callS (pc' := 18) (n := 3) hC (c_within (by omega) (by omega) (by omega)) ky_X6_within ks_X6_within kl_X6_84 dX6_plot_15 rfl rfl ⟨Nat.le_of_ble_eq_true rfl, Nat.le_of_ble_eq_true rfl⟩ (Nat.le_of_ble_eq_true rfl) ⟨Nat.le_refl _, Nat.le_refl _⟩ (Or.inl rfl) rfl (x_kd ?_)
    refine x_ifb_eq (tgt := 30) (pc' := 21) hC dX6_plot_18 (by decide) rfl (fun c18 => ?_) (fun c18 => ?_)
    · refine x_iconst (pc' := 31) hC dX6_plot_30 rfl ?_
      exact x_iret hC dX6_plot_31 (xI.mk ⟨by unfold aPlot; rw [if_neg (by omega)], hA, FrI.rf⟩)
    · refine x_iload_n (pc' := 22) hC dX6_plot_21 rfl rfl ?_
      refine x_iconst (pc' := 23) hC dX6_plot_22 rfl ?_
      refine x_iconst (pc' := 24) hC dX6_plot_23 rfl ?_
      refine x_callS (pc' := 27) (n := 3) hC (c_within (by omega) (by omega) (by omega)) ky_X6_within ks_X6_within kl_X6_84 dX6_plot_24 rfl rfl ⟨Nat.le_of_ble_eq_true rfl, Nat.le_of_ble_eq_true rfl⟩ (Nat.le_of_ble_eq_true rfl) ⟨Nat.le_refl _, Nat.le_refl _⟩ (Or.inl rfl) rfl (x_kd ?_)
      refine x_ifb_ne (tgt := 32) (pc' := 30) hC dX6_plot_27 (by decide) rfl (fun c27 => ?_) (fun c27 => ?_)
      · refine x_aload_n (pc' := 33) hC dX6_plot_32 rfl rfl ?_
        refine x_iload_n (pc' := 34) hC dX6_plot_33 rfl rfl ?_
        refine x_iload_n (pc' := 35) hC dX6_plot_34 rfl rfl ?_
        refine x_iconst (pc' := 36) hC dX6_plot_35 rfl ?_
        refine x_iconst (pc' := 37) hC dX6_plot_36 rfl ?_
        refine x_callV (pc' := 40) (n := 4) hC (c_govBy hP hA hF c8 c18 ⟨by omega, by omega⟩ (by omega)) ky_X6_governsByWax kv_X6_governsByWax kl_X6_171 dX6_plot_37 (hP 0 _ rfl) rfl rfl rfl rfl ⟨Nat.le_of_ble_eq_true rfl, Nat.le_of_ble_eq_true rfl⟩ (Nat.le_of_ble_eq_true rfl) ⟨Nat.le_refl _, Nat.le_refl _⟩ (Or.inl rfl) rfl (x_kv (fun μ37 h37 => ?_))
        refine x_ifb_eq (tgt := 54) (pc' := 43) hC dX6_plot_40 (by decide) rfl (fun c40 => ?_) (fun c40 => ?_)
        · refine x_iconst (pc' := 55) hC dX6_plot_54 rfl ?_
          refine x_istore (pc' := 57) hC dX6_plot_55 (by decide) rfl rfl ?_
          refine x_vs (vs' := [some (vR g 0), some (vI m), some (vI n), some (vI w), some (vI 1), none]) (by intro i v; match i with | 0 => exact id | 1 => exact id | 2 => exact id | 3 => exact id | 4 => exact id | 5 => (intro h; cases h) | i + 6 => (intro h; cases h)) ?_
          exact loop 10 9 _ _ c8 c18 c27 (by omega) (by omega) h37 (by unfold aPlot; rw [if_pos ⟨c8, c18, c27⟩, if_neg c40]) (by omega)
        · refine x_iload_n (pc' := 44) hC dX6_plot_43 rfl rfl ?_
          refine x_if_ne (tgt := 51) (pc' := 47) hC dX6_plot_44 (by decide) rfl (by omega) (fun c44 => ?_) (fun c44 => ?_)
          · refine x_bipush (pc' := 53) hC dX6_plot_51 (by decide) rfl ?_
            exact x_iret hC dX6_plot_53 (xI.mk ⟨by unfold aPlot; rw [if_pos ⟨c8, c18, c27⟩, if_pos c40]; first | rw [if_neg c44] | rw [if_pos (by omega)], hA.scr h37 (by omega), h37.mono (by omega) (by omega)⟩)
          · refine x_iconst (pc' := 48) hC dX6_plot_47 rfl ?_
            refine x_goto (tgt := 53) hC dX6_plot_48 (by decide) ?_
            exact x_iret hC dX6_plot_53 (xI.mk ⟨by unfold aPlot; rw [if_pos ⟨c8, c18, c27⟩, if_pos c40]; first | rw [if_neg c44] | rw [if_pos (by omega)], hA.scr h37 (by omega), h37.mono (by omega) (by omega)⟩)
      · refine x_iconst (pc' := 31) hC dX6_plot_30 rfl ?_
        exact x_iret hC dX6_plot_31 (xI.mk ⟨by unfold aPlot; rw [if_neg (by omega)], hA, FrI.rf⟩)
end
