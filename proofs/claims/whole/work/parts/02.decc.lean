theorem dX0_init_0 : decode cX0_init 0 = .ok (.aload_n 0, 1) := by decide +kernel
theorem dX0_init_1 : decode cX0_init 1 = .ok (.invokespecial 3, 3) := by decide +kernel
theorem dX0_init_4 : decode cX0_init 4 = .ok (.aload_n 0, 1) := by decide +kernel
theorem dX0_init_5 : decode cX0_init 5 = .ok (.bipush 7, 2) := by decide +kernel
theorem dX0_init_7 : decode cX0_init 7 = .ok (.newarray .int, 2) := by decide +kernel
theorem dX0_init_9 : decode cX0_init 9 = .ok (.putfield 9, 3) := by decide +kernel
theorem dX0_init_12 : decode cX0_init 12 = .ok (.aload_n 0, 1) := by decide +kernel
theorem dX0_init_13 : decode cX0_init 13 = .ok (.iconst 0, 1) := by decide +kernel
theorem dX0_init_14 : decode cX0_init 14 = .ok (.putfield 15, 3) := by decide +kernel
theorem dX0_init_17 : decode cX0_init 17 = .ok (.aload_n 0, 1) := by decide +kernel
theorem dX0_init_18 : decode cX0_init 18 = .ok (.bipush 10, 2) := by decide +kernel
theorem dX0_init_20 : decode cX0_init 20 = .ok (.putfield 19, 3) := by decide +kernel
theorem dX0_init_23 : decode cX0_init 23 = .ok (.aload_n 0, 1) := by decide +kernel
theorem dX0_init_24 : decode cX0_init 24 = .ok (.iconst 0, 1) := by decide +kernel
theorem dX0_init_25 : decode cX0_init 25 = .ok (.putfield 22, 3) := by decide +kernel
theorem dX0_init_28 : decode cX0_init 28 = .ok (.aload_n 0, 1) := by decide +kernel
theorem dX0_init_29 : decode cX0_init 29 = .ok (.iconst 0, 1) := by decide +kernel
theorem dX0_init_30 : decode cX0_init 30 = .ok (.putfield 25, 3) := by decide +kernel
theorem dX0_init_33 : decode cX0_init 33 = .ok (.return_, 1) := by decide +kernel
theorem dX0_clear_0 : decode cX0_clear 0 = .ok (.aload_n 0, 1) := by decide +kernel
theorem dX0_clear_1 : decode cX0_clear 1 = .ok (.iconst 0, 1) := by decide +kernel
theorem dX0_clear_2 : decode cX0_clear 2 = .ok (.putfield 15, 3) := by decide +kernel
theorem dX0_clear_5 : decode cX0_clear 5 = .ok (.aload_n 0, 1) := by decide +kernel
theorem dX0_clear_6 : decode cX0_clear 6 = .ok (.bipush 10, 2) := by decide +kernel
theorem dX0_clear_8 : decode cX0_clear 8 = .ok (.putfield 19, 3) := by decide +kernel
theorem dX0_clear_11 : decode cX0_clear 11 = .ok (.aload_n 0, 1) := by decide +kernel
theorem dX0_clear_12 : decode cX0_clear 12 = .ok (.iconst 0, 1) := by decide +kernel
theorem dX0_clear_13 : decode cX0_clear 13 = .ok (.putfield 22, 3) := by decide +kernel
theorem dX0_clear_16 : decode cX0_clear 16 = .ok (.aload_n 0, 1) := by decide +kernel
theorem dX0_clear_17 : decode cX0_clear 17 = .ok (.iconst 0, 1) := by decide +kernel
theorem dX0_clear_18 : decode cX0_clear 18 = .ok (.putfield 25, 3) := by decide +kernel
theorem dX0_clear_21 : decode cX0_clear 21 = .ok (.return_, 1) := by decide +kernel
theorem dX0_copy_0 : decode cX0_copy 0 = .ok (.aload_n 1, 1) := by decide +kernel
theorem dX0_copy_1 : decode cX0_copy 1 = .ok (.getfield 9, 3) := by decide +kernel
theorem dX0_copy_4 : decode cX0_copy 4 = .ok (.iconst 0, 1) := by decide +kernel
theorem dX0_copy_5 : decode cX0_copy 5 = .ok (.aload_n 0, 1) := by decide +kernel
theorem dX0_copy_6 : decode cX0_copy 6 = .ok (.getfield 9, 3) := by decide +kernel
theorem dX0_copy_9 : decode cX0_copy 9 = .ok (.iconst 0, 1) := by decide +kernel
theorem dX0_copy_10 : decode cX0_copy 10 = .ok (.aload_n 0, 1) := by decide +kernel
theorem dX0_copy_11 : decode cX0_copy 11 = .ok (.getfield 9, 3) := by decide +kernel
theorem dX0_copy_14 : decode cX0_copy 14 = .ok (.arraylength, 1) := by decide +kernel
theorem dX0_copy_15 : decode cX0_copy 15 = .ok (.invokestatic 28, 3) := by decide +kernel
theorem dX0_copy_18 : decode cX0_copy 18 = .ok (.aload_n 0, 1) := by decide +kernel
theorem dX0_copy_19 : decode cX0_copy 19 = .ok (.aload_n 1, 1) := by decide +kernel
theorem dX0_copy_20 : decode cX0_copy 20 = .ok (.getfield 15, 3) := by decide +kernel
theorem dX0_copy_23 : decode cX0_copy 23 = .ok (.putfield 15, 3) := by decide +kernel
theorem dX0_copy_26 : decode cX0_copy 26 = .ok (.aload_n 0, 1) := by decide +kernel
theorem dX0_copy_27 : decode cX0_copy 27 = .ok (.aload_n 1, 1) := by decide +kernel
theorem dX0_copy_28 : decode cX0_copy 28 = .ok (.getfield 19, 3) := by decide +kernel
theorem dX0_copy_31 : decode cX0_copy 31 = .ok (.putfield 19, 3) := by decide +kernel
theorem dX0_copy_34 : decode cX0_copy 34 = .ok (.aload_n 0, 1) := by decide +kernel
theorem dX0_copy_35 : decode cX0_copy 35 = .ok (.aload_n 1, 1) := by decide +kernel
theorem dX0_copy_36 : decode cX0_copy 36 = .ok (.getfield 22, 3) := by decide +kernel
theorem dX0_copy_39 : decode cX0_copy 39 = .ok (.putfield 22, 3) := by decide +kernel
theorem dX0_copy_42 : decode cX0_copy 42 = .ok (.aload_n 0, 1) := by decide +kernel
theorem dX0_copy_43 : decode cX0_copy 43 = .ok (.aload_n 1, 1) := by decide +kernel
theorem dX0_copy_44 : decode cX0_copy 44 = .ok (.getfield 25, 3) := by decide +kernel
theorem dX0_copy_47 : decode cX0_copy 47 = .ok (.putfield 25, 3) := by decide +kernel
theorem dX0_copy_50 : decode cX0_copy 50 = .ok (.return_, 1) := by decide +kernel
theorem dX0_hasMinister_0 : decode cX0_hasMinister 0 = .ok (.iload_n 1, 1) := by decide +kernel
theorem dX0_hasMinister_1 : decode cX0_hasMinister 1 = .ok (.ifCond .lt 15, 3) := by decide +kernel
theorem dX0_hasMinister_4 : decode cX0_hasMinister 4 = .ok (.iload_n 1, 1) := by decide +kernel
theorem dX0_hasMinister_5 : decode cX0_hasMinister 5 = .ok (.aload_n 0, 1) := by decide +kernel
theorem dX0_hasMinister_6 : decode cX0_hasMinister 6 = .ok (.getfield 15, 3) := by decide +kernel
theorem dX0_hasMinister_9 : decode cX0_hasMinister 9 = .ok (.if_icmp .ge 7, 3) := by decide +kernel
theorem dX0_hasMinister_12 : decode cX0_hasMinister 12 = .ok (.iconst 1, 1) := by decide +kernel
theorem dX0_hasMinister_13 : decode cX0_hasMinister 13 = .ok (.goto 4, 3) := by decide +kernel
theorem dX0_hasMinister_16 : decode cX0_hasMinister 16 = .ok (.iconst 0, 1) := by decide +kernel
theorem dX0_hasMinister_17 : decode cX0_hasMinister 17 = .ok (.ireturn, 1) := by decide +kernel
theorem dX0_hasStep_0 : decode cX0_hasStep 0 = .ok (.iload_n 1, 1) := by decide +kernel
theorem dX0_hasStep_1 : decode cX0_hasStep 1 = .ok (.ifCond .lt 15, 3) := by decide +kernel
theorem dX0_hasStep_4 : decode cX0_hasStep 4 = .ok (.iload_n 1, 1) := by decide +kernel
theorem dX0_hasStep_5 : decode cX0_hasStep 5 = .ok (.aload_n 0, 1) := by decide +kernel
theorem dX0_hasStep_6 : decode cX0_hasStep 6 = .ok (.getfield 19, 3) := by decide +kernel
theorem dX0_hasStep_9 : decode cX0_hasStep 9 = .ok (.if_icmp .ge 7, 3) := by decide +kernel
theorem dX0_hasStep_12 : decode cX0_hasStep 12 = .ok (.iconst 1, 1) := by decide +kernel
theorem dX0_hasStep_13 : decode cX0_hasStep 13 = .ok (.goto 4, 3) := by decide +kernel
theorem dX0_hasStep_16 : decode cX0_hasStep 16 = .ok (.iconst 0, 1) := by decide +kernel
theorem dX0_hasStep_17 : decode cX0_hasStep 17 = .ok (.ireturn, 1) := by decide +kernel
theorem dX0_isTop_0 : decode cX0_isTop 0 = .ok (.iload_n 1, 1) := by decide +kernel
theorem dX0_isTop_1 : decode cX0_isTop 1 = .ok (.aload_n 0, 1) := by decide +kernel
theorem dX0_isTop_2 : decode cX0_isTop 2 = .ok (.getfield 19, 3) := by decide +kernel
theorem dX0_isTop_5 : decode cX0_isTop 5 = .ok (.iconst 1, 1) := by decide +kernel
theorem dX0_isTop_6 : decode cX0_isTop 6 = .ok (.isub, 1) := by decide +kernel
theorem dX0_isTop_7 : decode cX0_isTop 7 = .ok (.if_icmp .ne 7, 3) := by decide +kernel
theorem dX0_isTop_10 : decode cX0_isTop 10 = .ok (.iconst 1, 1) := by decide +kernel
theorem dX0_isTop_11 : decode cX0_isTop 11 = .ok (.goto 4, 3) := by decide +kernel
theorem dX0_isTop_14 : decode cX0_isTop 14 = .ok (.iconst 0, 1) := by decide +kernel
theorem dX0_isTop_15 : decode cX0_isTop 15 = .ok (.ireturn, 1) := by decide +kernel
theorem dX0_hasKnob_0 : decode cX0_hasKnob 0 = .ok (.aload_n 0, 1) := by decide +kernel
theorem dX0_hasKnob_1 : decode cX0_hasKnob 1 = .ok (.getfield 22, 3) := by decide +kernel
theorem dX0_hasKnob_4 : decode cX0_hasKnob 4 = .ok (.iload_n 1, 1) := by decide +kernel
theorem dX0_hasKnob_5 : decode cX0_hasKnob 5 = .ok (.ishr, 1) := by decide +kernel
theorem dX0_hasKnob_6 : decode cX0_hasKnob 6 = .ok (.iconst 1, 1) := by decide +kernel
theorem dX0_hasKnob_7 : decode cX0_hasKnob 7 = .ok (.iand, 1) := by decide +kernel
theorem dX0_hasKnob_8 : decode cX0_hasKnob 8 = .ok (.iconst 1, 1) := by decide +kernel
theorem dX0_hasKnob_9 : decode cX0_hasKnob 9 = .ok (.if_icmp .ne 7, 3) := by decide +kernel
theorem dX0_hasKnob_12 : decode cX0_hasKnob 12 = .ok (.iconst 1, 1) := by decide +kernel
theorem dX0_hasKnob_13 : decode cX0_hasKnob 13 = .ok (.goto 4, 3) := by decide +kernel
theorem dX0_hasKnob_16 : decode cX0_hasKnob 16 = .ok (.iconst 0, 1) := by decide +kernel
theorem dX0_hasKnob_17 : decode cX0_hasKnob 17 = .ok (.ireturn, 1) := by decide +kernel
theorem dX0_hasTurn_0 : decode cX0_hasTurn 0 = .ok (.aload_n 0, 1) := by decide +kernel
theorem dX0_hasTurn_1 : decode cX0_hasTurn 1 = .ok (.getfield 25, 3) := by decide +kernel
theorem dX0_hasTurn_4 : decode cX0_hasTurn 4 = .ok (.iload_n 1, 1) := by decide +kernel
theorem dX0_hasTurn_5 : decode cX0_hasTurn 5 = .ok (.ishr, 1) := by decide +kernel
theorem dX0_hasTurn_6 : decode cX0_hasTurn 6 = .ok (.iconst 1, 1) := by decide +kernel
theorem dX0_hasTurn_7 : decode cX0_hasTurn 7 = .ok (.iand, 1) := by decide +kernel
theorem dX0_hasTurn_8 : decode cX0_hasTurn 8 = .ok (.iconst 1, 1) := by decide +kernel
theorem dX0_hasTurn_9 : decode cX0_hasTurn 9 = .ok (.if_icmp .ne 7, 3) := by decide +kernel
theorem dX0_hasTurn_12 : decode cX0_hasTurn 12 = .ok (.iconst 1, 1) := by decide +kernel
theorem dX0_hasTurn_13 : decode cX0_hasTurn 13 = .ok (.goto 4, 3) := by decide +kernel
theorem dX0_hasTurn_16 : decode cX0_hasTurn 16 = .ok (.iconst 0, 1) := by decide +kernel
theorem dX0_hasTurn_17 : decode cX0_hasTurn 17 = .ok (.ireturn, 1) := by decide +kernel
theorem dX1_init_0 : decode cX1_init 0 = .ok (.aload_n 0, 1) := by decide +kernel
theorem dX1_init_1 : decode cX1_init 1 = .ok (.invokespecial 3, 3) := by decide +kernel
theorem dX1_init_4 : decode cX1_init 4 = .ok (.aload_n 0, 1) := by decide +kernel
theorem dX1_init_5 : decode cX1_init 5 = .ok (.new 9, 3) := by decide +kernel
theorem dX1_init_8 : decode cX1_init 8 = .ok (.dup, 1) := by decide +kernel
theorem dX1_init_9 : decode cX1_init 9 = .ok (.invokespecial 11, 3) := by decide +kernel
theorem dX1_init_12 : decode cX1_init 12 = .ok (.putfield 12, 3) := by decide +kernel
theorem dX1_init_15 : decode cX1_init 15 = .ok (.aload_n 0, 1) := by decide +kernel
theorem dX1_init_16 : decode cX1_init 16 = .ok (.new 18, 3) := by decide +kernel
theorem dX1_init_19 : decode cX1_init 19 = .ok (.dup, 1) := by decide +kernel
theorem dX1_init_20 : decode cX1_init 20 = .ok (.aload_n 0, 1) := by decide +kernel
theorem dX1_init_21 : decode cX1_init 21 = .ok (.getfield 12, 3) := by decide +kernel
theorem dX1_init_24 : decode cX1_init 24 = .ok (.invokespecial 20, 3) := by decide +kernel
theorem dX1_init_27 : decode cX1_init 27 = .ok (.putfield 23, 3) := by decide +kernel
theorem dX1_init_30 : decode cX1_init 30 = .ok (.aload_n 0, 1) := by decide +kernel
theorem dX1_init_31 : decode cX1_init 31 = .ok (.iconst 3, 1) := by decide +kernel
theorem dX1_init_32 : decode cX1_init 32 = .ok (.newarray .int, 2) := by decide +kernel
theorem dX1_init_34 : decode cX1_init 34 = .ok (.putfield 27, 3) := by decide +kernel
theorem dX1_init_37 : decode cX1_init 37 = .ok (.aload_n 0, 1) := by decide +kernel
theorem dX1_init_38 : decode cX1_init 38 = .ok (.iconst 0, 1) := by decide +kernel
theorem dX1_init_39 : decode cX1_init 39 = .ok (.putfield 31, 3) := by decide +kernel
theorem dX1_init_42 : decode cX1_init 42 = .ok (.aload_n 0, 1) := by decide +kernel
theorem dX1_init_43 : decode cX1_init 43 = .ok (.iconst 1, 1) := by decide +kernel
theorem dX1_init_44 : decode cX1_init 44 = .ok (.putfield 35, 3) := by decide +kernel
theorem dX1_init_47 : decode cX1_init 47 = .ok (.return_, 1) := by decide +kernel
theorem dX1_firstFault_0 : decode cX1_firstFault 0 = .ok (.aload_n 0, 1) := by decide +kernel
theorem dX1_firstFault_1 : decode cX1_firstFault 1 = .ok (.getfield 12, 3) := by decide +kernel
theorem dX1_firstFault_4 : decode cX1_firstFault 4 = .ok (.invokevirtual 39, 3) := by decide +kernel
theorem dX1_firstFault_7 : decode cX1_firstFault 7 = .ok (.aload_n 0, 1) := by decide +kernel
theorem dX1_firstFault_8 : decode cX1_firstFault 8 = .ok (.getfield 23, 3) := by decide +kernel
theorem dX1_firstFault_11 : decode cX1_firstFault 11 = .ok (.invokevirtual 42, 3) := by decide +kernel
theorem dX1_firstFault_14 : decode cX1_firstFault 14 = .ok (.aload_n 0, 1) := by decide +kernel
theorem dX1_firstFault_15 : decode cX1_firstFault 15 = .ok (.iconst 1, 1) := by decide +kernel
theorem dX1_firstFault_16 : decode cX1_firstFault 16 = .ok (.putfield 35, 3) := by decide +kernel
theorem dX1_firstFault_19 : decode cX1_firstFault 19 = .ok (.iconst 0, 1) := by decide +kernel
theorem dX1_firstFault_20 : decode cX1_firstFault 20 = .ok (.istore_n 2, 1) := by decide +kernel
theorem dX1_firstFault_21 : decode cX1_firstFault 21 = .ok (.iconst 0, 1) := by decide +kernel
theorem dX1_firstFault_22 : decode cX1_firstFault 22 = .ok (.istore_n 3, 1) := by decide +kernel
theorem dX1_firstFault_23 : decode cX1_firstFault 23 = .ok (.iload_n 3, 1) := by decide +kernel
theorem dX1_firstFault_24 : decode cX1_firstFault 24 = .ok (.aload_n 1, 1) := by decide +kernel
theorem dX1_firstFault_25 : decode cX1_firstFault 25 = .ok (.getfield 43, 3) := by decide +kernel
theorem dX1_firstFault_28 : decode cX1_firstFault 28 = .ok (.if_icmp .ge 52, 3) := by decide +kernel
theorem dX1_firstFault_31 : decode cX1_firstFault 31 = .ok (.iload_n 2, 1) := by decide +kernel
theorem dX1_firstFault_32 : decode cX1_firstFault 32 = .ok (.aload_n 1, 1) := by decide +kernel
theorem dX1_firstFault_33 : decode cX1_firstFault 33 = .ok (.getfield 43, 3) := by decide +kernel
theorem dX1_firstFault_36 : decode cX1_firstFault 36 = .ok (.if_icmp .ge 44, 3) := by decide +kernel
theorem dX1_firstFault_39 : decode cX1_firstFault 39 = .ok (.aload_n 0, 1) := by decide +kernel
theorem dX1_firstFault_40 : decode cX1_firstFault 40 = .ok (.aload_n 1, 1) := by decide +kernel
theorem dX1_firstFault_41 : decode cX1_firstFault 41 = .ok (.iload_n 2, 1) := by decide +kernel
theorem dX1_firstFault_42 : decode cX1_firstFault 42 = .ok (.iconst 1, 1) := by decide +kernel
theorem dX1_firstFault_43 : decode cX1_firstFault 43 = .ok (.iadd, 1) := by decide +kernel
theorem dX1_firstFault_44 : decode cX1_firstFault 44 = .ok (.invokevirtual 48, 3) := by decide +kernel
theorem dX1_firstFault_47 : decode cX1_firstFault 47 = .ok (.istore 4, 2) := by decide +kernel
theorem dX1_firstFault_49 : decode cX1_firstFault 49 = .ok (.iload 4, 2) := by decide +kernel
theorem dX1_firstFault_51 : decode cX1_firstFault 51 = .ok (.bipush (-4), 2) := by decide +kernel
theorem dX1_firstFault_53 : decode cX1_firstFault 53 = .ok (.if_icmp .eq 16, 3) := by decide +kernel
theorem dX1_firstFault_56 : decode cX1_firstFault 56 = .ok (.aload_n 0, 1) := by decide +kernel
theorem dX1_firstFault_57 : decode cX1_firstFault 57 = .ok (.aload_n 1, 1) := by decide +kernel
theorem dX1_firstFault_58 : decode cX1_firstFault 58 = .ok (.getfield 52, 3) := by decide +kernel
theorem dX1_firstFault_61 : decode cX1_firstFault 61 = .ok (.iload_n 2, 1) := by decide +kernel
theorem dX1_firstFault_62 : decode cX1_firstFault 62 = .ok (.caload, 1) := by decide +kernel
theorem dX1_firstFault_63 : decode cX1_firstFault 63 = .ok (.invokevirtual 56, 3) := by decide +kernel
theorem dX1_firstFault_66 : decode cX1_firstFault 66 = .ok (.ifCond .ne 5, 3) := by decide +kernel
theorem dX1_firstFault_69 : decode cX1_firstFault 69 = .ok (.iload_n 2, 1) := by decide +kernel
theorem dX1_firstFault_70 : decode cX1_firstFault 70 = .ok (.ireturn, 1) := by decide +kernel
theorem dX1_firstFault_71 : decode cX1_firstFault 71 = .ok (.iload 4, 2) := by decide +kernel
theorem dX1_firstFault_73 : decode cX1_firstFault 73 = .ok (.istore_n 2, 1) := by decide +kernel
theorem dX1_firstFault_74 : decode cX1_firstFault 74 = .ok (.iinc 3 1, 3) := by decide +kernel
theorem dX1_firstFault_77 : decode cX1_firstFault 77 = .ok (.goto (-54), 3) := by decide +kernel
theorem dX1_firstFault_80 : decode cX1_firstFault 80 = .ok (.bipush (-4), 2) := by decide +kernel
theorem dX1_firstFault_82 : decode cX1_firstFault 82 = .ok (.ireturn, 1) := by decide +kernel
theorem dX1_readNumbers_0 : decode cX1_readNumbers 0 = .ok (.aload_n 0, 1) := by decide +kernel
theorem dX1_readNumbers_1 : decode cX1_readNumbers 1 = .ok (.iconst 0, 1) := by decide +kernel
theorem dX1_readNumbers_2 : decode cX1_readNumbers 2 = .ok (.putfield 31, 3) := by decide +kernel
theorem dX1_readNumbers_5 : decode cX1_readNumbers 5 = .ok (.iconst 0, 1) := by decide +kernel
theorem dX1_readNumbers_6 : decode cX1_readNumbers 6 = .ok (.istore_n 3, 1) := by decide +kernel
theorem dX1_readNumbers_7 : decode cX1_readNumbers 7 = .ok (.iconst 0, 1) := by decide +kernel
theorem dX1_readNumbers_8 : decode cX1_readNumbers 8 = .ok (.istore 4, 2) := by decide +kernel
theorem dX1_readNumbers_10 : decode cX1_readNumbers 10 = .ok (.iload_n 2, 1) := by decide +kernel
theorem dX1_readNumbers_11 : decode cX1_readNumbers 11 = .ok (.istore 5, 2) := by decide +kernel
theorem dX1_readNumbers_13 : decode cX1_readNumbers 13 = .ok (.iload 5, 2) := by decide +kernel
theorem dX1_readNumbers_15 : decode cX1_readNumbers 15 = .ok (.aload_n 1, 1) := by decide +kernel
theorem dX1_readNumbers_16 : decode cX1_readNumbers 16 = .ok (.getfield 43, 3) := by decide +kernel
theorem dX1_readNumbers_19 : decode cX1_readNumbers 19 = .ok (.if_icmp .ge 105, 3) := by decide +kernel
theorem dX1_readNumbers_22 : decode cX1_readNumbers 22 = .ok (.aload_n 1, 1) := by decide +kernel
theorem dX1_readNumbers_23 : decode cX1_readNumbers 23 = .ok (.getfield 52, 3) := by decide +kernel
theorem dX1_readNumbers_26 : decode cX1_readNumbers 26 = .ok (.iload 5, 2) := by decide +kernel
theorem dX1_readNumbers_28 : decode cX1_readNumbers 28 = .ok (.caload, 1) := by decide +kernel
theorem dX1_readNumbers_29 : decode cX1_readNumbers 29 = .ok (.istore 6, 2) := by decide +kernel
theorem dX1_readNumbers_31 : decode cX1_readNumbers 31 = .ok (.iload 6, 2) := by decide +kernel
theorem dX1_readNumbers_33 : decode cX1_readNumbers 33 = .ok (.bipush 48, 2) := by decide +kernel
theorem dX1_readNumbers_35 : decode cX1_readNumbers 35 = .ok (.if_icmp .lt 33, 3) := by decide +kernel
theorem dX1_readNumbers_38 : decode cX1_readNumbers 38 = .ok (.iload 6, 2) := by decide +kernel
theorem dX1_readNumbers_40 : decode cX1_readNumbers 40 = .ok (.bipush 57, 2) := by decide +kernel
theorem dX1_readNumbers_42 : decode cX1_readNumbers 42 = .ok (.if_icmp .gt 26, 3) := by decide +kernel
theorem dX1_readNumbers_45 : decode cX1_readNumbers 45 = .ok (.iload 4, 2) := by decide +kernel
theorem dX1_readNumbers_47 : decode cX1_readNumbers 47 = .ok (.iconst 2, 1) := by decide +kernel
theorem dX1_readNumbers_48 : decode cX1_readNumbers 48 = .ok (.if_icmp .ge 20, 3) := by decide +kernel
theorem dX1_readNumbers_51 : decode cX1_readNumbers 51 = .ok (.bipush 10, 2) := by decide +kernel
theorem dX1_readNumbers_53 : decode cX1_readNumbers 53 = .ok (.iload_n 3, 1) := by decide +kernel
theorem dX1_readNumbers_54 : decode cX1_readNumbers 54 = .ok (.imul, 1) := by decide +kernel
theorem dX1_readNumbers_55 : decode cX1_readNumbers 55 = .ok (.iload 6, 2) := by decide +kernel
theorem dX1_readNumbers_57 : decode cX1_readNumbers 57 = .ok (.iadd, 1) := by decide +kernel
theorem dX1_readNumbers_58 : decode cX1_readNumbers 58 = .ok (.bipush 48, 2) := by decide +kernel
theorem dX1_readNumbers_60 : decode cX1_readNumbers 60 = .ok (.isub, 1) := by decide +kernel
theorem dX1_readNumbers_61 : decode cX1_readNumbers 61 = .ok (.istore_n 3, 1) := by decide +kernel
theorem dX1_readNumbers_62 : decode cX1_readNumbers 62 = .ok (.iinc 4 1, 3) := by decide +kernel
theorem dX1_readNumbers_65 : decode cX1_readNumbers 65 = .ok (.goto 53, 3) := by decide +kernel
theorem dX1_readNumbers_68 : decode cX1_readNumbers 68 = .ok (.iload 6, 2) := by decide +kernel
theorem dX1_readNumbers_70 : decode cX1_readNumbers 70 = .ok (.bipush 44, 2) := by decide +kernel
theorem dX1_readNumbers_72 : decode cX1_readNumbers 72 = .ok (.if_icmp .eq 10, 3) := by decide +kernel
theorem dX1_readNumbers_75 : decode cX1_readNumbers 75 = .ok (.iload 6, 2) := by decide +kernel
theorem dX1_readNumbers_77 : decode cX1_readNumbers 77 = .ok (.bipush 59, 2) := by decide +kernel
theorem dX1_readNumbers_79 : decode cX1_readNumbers 79 = .ok (.if_icmp .ne 36, 3) := by decide +kernel
theorem dX1_readNumbers_82 : decode cX1_readNumbers 82 = .ok (.iload 4, 2) := by decide +kernel
theorem dX1_readNumbers_84 : decode cX1_readNumbers 84 = .ok (.ifCond .le 31, 3) := by decide +kernel
theorem dX1_readNumbers_87 : decode cX1_readNumbers 87 = .ok (.aload_n 0, 1) := by decide +kernel
theorem dX1_readNumbers_88 : decode cX1_readNumbers 88 = .ok (.iload_n 3, 1) := by decide +kernel
theorem dX1_readNumbers_89 : decode cX1_readNumbers 89 = .ok (.invokevirtual 60, 3) := by decide +kernel
theorem dX1_readNumbers_92 : decode cX1_readNumbers 92 = .ok (.ifCond .eq 23, 3) := by decide +kernel
theorem dX1_readNumbers_95 : decode cX1_readNumbers 95 = .ok (.iload 6, 2) := by decide +kernel
theorem dX1_readNumbers_97 : decode cX1_readNumbers 97 = .ok (.bipush 59, 2) := by decide +kernel
theorem dX1_readNumbers_99 : decode cX1_readNumbers 99 = .ok (.if_icmp .ne 8, 3) := by decide +kernel
theorem dX1_readNumbers_102 : decode cX1_readNumbers 102 = .ok (.iload 5, 2) := by decide +kernel
theorem dX1_readNumbers_104 : decode cX1_readNumbers 104 = .ok (.iconst 1, 1) := by decide +kernel
theorem dX1_readNumbers_105 : decode cX1_readNumbers 105 = .ok (.iadd, 1) := by decide +kernel
theorem dX1_readNumbers_106 : decode cX1_readNumbers 106 = .ok (.ireturn, 1) := by decide +kernel
theorem dX1_readNumbers_107 : decode cX1_readNumbers 107 = .ok (.iconst 0, 1) := by decide +kernel
theorem dX1_readNumbers_108 : decode cX1_readNumbers 108 = .ok (.istore_n 3, 1) := by decide +kernel
theorem dX1_readNumbers_109 : decode cX1_readNumbers 109 = .ok (.iconst 0, 1) := by decide +kernel
theorem dX1_readNumbers_110 : decode cX1_readNumbers 110 = .ok (.istore 4, 2) := by decide +kernel
theorem dX1_readNumbers_112 : decode cX1_readNumbers 112 = .ok (.goto 6, 3) := by decide +kernel
theorem dX1_readNumbers_115 : decode cX1_readNumbers 115 = .ok (.bipush (-4), 2) := by decide +kernel
theorem dX1_readNumbers_117 : decode cX1_readNumbers 117 = .ok (.ireturn, 1) := by decide +kernel
theorem dX1_readNumbers_118 : decode cX1_readNumbers 118 = .ok (.iinc 5 1, 3) := by decide +kernel
theorem dX1_readNumbers_121 : decode cX1_readNumbers 121 = .ok (.goto (-108), 3) := by decide +kernel
theorem dX1_readNumbers_124 : decode cX1_readNumbers 124 = .ok (.bipush (-4), 2) := by decide +kernel
theorem dX1_readNumbers_126 : decode cX1_readNumbers 126 = .ok (.ireturn, 1) := by decide +kernel
theorem dX1_addNumber_0 : decode cX1_addNumber 0 = .ok (.aload_n 0, 1) := by decide +kernel
theorem dX1_addNumber_1 : decode cX1_addNumber 1 = .ok (.getfield 31, 3) := by decide +kernel
theorem dX1_addNumber_4 : decode cX1_addNumber 4 = .ok (.aload_n 0, 1) := by decide +kernel
theorem dX1_addNumber_5 : decode cX1_addNumber 5 = .ok (.getfield 27, 3) := by decide +kernel
theorem dX1_addNumber_8 : decode cX1_addNumber 8 = .ok (.arraylength, 1) := by decide +kernel
theorem dX1_addNumber_9 : decode cX1_addNumber 9 = .ok (.if_icmp .lt 5, 3) := by decide +kernel
theorem dX1_addNumber_12 : decode cX1_addNumber 12 = .ok (.iconst 0, 1) := by decide +kernel
theorem dX1_addNumber_13 : decode cX1_addNumber 13 = .ok (.ireturn, 1) := by decide +kernel
theorem dX1_addNumber_14 : decode cX1_addNumber 14 = .ok (.aload_n 0, 1) := by decide +kernel
theorem dX1_addNumber_15 : decode cX1_addNumber 15 = .ok (.getfield 27, 3) := by decide +kernel
theorem dX1_addNumber_18 : decode cX1_addNumber 18 = .ok (.aload_n 0, 1) := by decide +kernel
theorem dX1_addNumber_19 : decode cX1_addNumber 19 = .ok (.getfield 31, 3) := by decide +kernel
theorem dX1_addNumber_22 : decode cX1_addNumber 22 = .ok (.iload_n 1, 1) := by decide +kernel
theorem dX1_addNumber_23 : decode cX1_addNumber 23 = .ok (.iastore, 1) := by decide +kernel
theorem dX1_addNumber_24 : decode cX1_addNumber 24 = .ok (.aload_n 0, 1) := by decide +kernel
theorem dX1_addNumber_25 : decode cX1_addNumber 25 = .ok (.dup, 1) := by decide +kernel
theorem dX1_addNumber_26 : decode cX1_addNumber 26 = .ok (.getfield 31, 3) := by decide +kernel
theorem dX1_addNumber_29 : decode cX1_addNumber 29 = .ok (.iconst 1, 1) := by decide +kernel
theorem dX1_addNumber_30 : decode cX1_addNumber 30 = .ok (.iadd, 1) := by decide +kernel
theorem dX1_addNumber_31 : decode cX1_addNumber 31 = .ok (.putfield 31, 3) := by decide +kernel
theorem dX1_addNumber_34 : decode cX1_addNumber 34 = .ok (.iconst 1, 1) := by decide +kernel
theorem dX1_addNumber_35 : decode cX1_addNumber 35 = .ok (.ireturn, 1) := by decide +kernel
theorem dX1_takeItem_0 : decode cX1_takeItem 0 = .ok (.iload_n 1, 1) := by decide +kernel
theorem dX1_takeItem_1 : decode cX1_takeItem 1 = .ok (.bipush 115, 2) := by decide +kernel
theorem dX1_takeItem_3 : decode cX1_takeItem 3 = .ok (.if_icmp .ne 23, 3) := by decide +kernel
theorem dX1_takeItem_6 : decode cX1_takeItem 6 = .ok (.aload_n 0, 1) := by decide +kernel
theorem dX1_takeItem_7 : decode cX1_takeItem 7 = .ok (.getfield 35, 3) := by decide +kernel
theorem dX1_takeItem_10 : decode cX1_takeItem 10 = .ok (.ifCond .eq 14, 3) := by decide +kernel
theorem dX1_takeItem_13 : decode cX1_takeItem 13 = .ok (.aload_n 0, 1) := by decide +kernel
theorem dX1_takeItem_14 : decode cX1_takeItem 14 = .ok (.invokevirtual 64, 3) := by decide +kernel
theorem dX1_takeItem_17 : decode cX1_takeItem 17 = .ok (.ifCond .eq 7, 3) := by decide +kernel
theorem dX1_takeItem_20 : decode cX1_takeItem 20 = .ok (.iconst 1, 1) := by decide +kernel
theorem dX1_takeItem_21 : decode cX1_takeItem 21 = .ok (.goto 4, 3) := by decide +kernel
theorem dX1_takeItem_24 : decode cX1_takeItem 24 = .ok (.iconst 0, 1) := by decide +kernel
theorem dX1_takeItem_25 : decode cX1_takeItem 25 = .ok (.ireturn, 1) := by decide +kernel
theorem dX1_takeItem_26 : decode cX1_takeItem 26 = .ok (.aload_n 0, 1) := by decide +kernel
theorem dX1_takeItem_27 : decode cX1_takeItem 27 = .ok (.iconst 0, 1) := by decide +kernel
theorem dX1_takeItem_28 : decode cX1_takeItem 28 = .ok (.putfield 35, 3) := by decide +kernel
theorem dX1_takeItem_31 : decode cX1_takeItem 31 = .ok (.iload_n 1, 1) := by decide +kernel
theorem dX1_takeItem_32 : decode cX1_takeItem 32 = .ok (.lookupswitch 77 #[(102, 72), (107, 57), (109, 67), (116, 62), (119, 52)], 52) := by decide +kernel
theorem dX1_takeItem_84 : decode cX1_takeItem 84 = .ok (.aload_n 0, 1) := by decide +kernel
theorem dX1_takeItem_85 : decode cX1_takeItem 85 = .ok (.invokevirtual 68, 3) := by decide +kernel
theorem dX1_takeItem_88 : decode cX1_takeItem 88 = .ok (.ireturn, 1) := by decide +kernel
theorem dX1_takeItem_89 : decode cX1_takeItem 89 = .ok (.aload_n 0, 1) := by decide +kernel
theorem dX1_takeItem_90 : decode cX1_takeItem 90 = .ok (.invokevirtual 71, 3) := by decide +kernel
theorem dX1_takeItem_93 : decode cX1_takeItem 93 = .ok (.ireturn, 1) := by decide +kernel
theorem dX1_takeItem_94 : decode cX1_takeItem 94 = .ok (.aload_n 0, 1) := by decide +kernel
theorem dX1_takeItem_95 : decode cX1_takeItem 95 = .ok (.invokevirtual 74, 3) := by decide +kernel
theorem dX1_takeItem_98 : decode cX1_takeItem 98 = .ok (.ireturn, 1) := by decide +kernel
theorem dX1_takeItem_99 : decode cX1_takeItem 99 = .ok (.aload_n 0, 1) := by decide +kernel
theorem dX1_takeItem_100 : decode cX1_takeItem 100 = .ok (.invokevirtual 77, 3) := by decide +kernel
theorem dX1_takeItem_103 : decode cX1_takeItem 103 = .ok (.ireturn, 1) := by decide +kernel
theorem dX1_takeItem_104 : decode cX1_takeItem 104 = .ok (.aload_n 0, 1) := by decide +kernel
theorem dX1_takeItem_105 : decode cX1_takeItem 105 = .ok (.invokevirtual 80, 3) := by decide +kernel
theorem dX1_takeItem_108 : decode cX1_takeItem 108 = .ok (.ireturn, 1) := by decide +kernel
theorem dX1_takeItem_109 : decode cX1_takeItem 109 = .ok (.iconst 0, 1) := by decide +kernel
theorem dX1_takeItem_110 : decode cX1_takeItem 110 = .ok (.ireturn, 1) := by decide +kernel
theorem dX1_takeSteps_0 : decode cX1_takeSteps 0 = .ok (.aload_n 0, 1) := by decide +kernel
theorem dX1_takeSteps_1 : decode cX1_takeSteps 1 = .ok (.getfield 31, 3) := by decide +kernel
theorem dX1_takeSteps_4 : decode cX1_takeSteps 4 = .ok (.iconst 1, 1) := by decide +kernel
theorem dX1_takeSteps_5 : decode cX1_takeSteps 5 = .ok (.if_icmp .ne 18, 3) := by decide +kernel
theorem dX1_takeSteps_8 : decode cX1_takeSteps 8 = .ok (.aload_n 0, 1) := by decide +kernel
theorem dX1_takeSteps_9 : decode cX1_takeSteps 9 = .ok (.getfield 27, 3) := by decide +kernel
theorem dX1_takeSteps_12 : decode cX1_takeSteps 12 = .ok (.iconst 0, 1) := by decide +kernel
theorem dX1_takeSteps_13 : decode cX1_takeSteps 13 = .ok (.iaload, 1) := by decide +kernel
theorem dX1_takeSteps_14 : decode cX1_takeSteps 14 = .ok (.iconst 3, 1) := by decide +kernel
theorem dX1_takeSteps_15 : decode cX1_takeSteps 15 = .ok (.bipush 16, 2) := by decide +kernel
theorem dX1_takeSteps_17 : decode cX1_takeSteps 17 = .ok (.invokestatic 83, 3) := by decide +kernel
theorem dX1_takeSteps_20 : decode cX1_takeSteps 20 = .ok (.ifCond .ne 5, 3) := by decide +kernel
theorem dX1_takeSteps_23 : decode cX1_takeSteps 23 = .ok (.iconst 0, 1) := by decide +kernel
theorem dX1_takeSteps_24 : decode cX1_takeSteps 24 = .ok (.ireturn, 1) := by decide +kernel
theorem dX1_takeSteps_25 : decode cX1_takeSteps 25 = .ok (.aload_n 0, 1) := by decide +kernel
theorem dX1_takeSteps_26 : decode cX1_takeSteps 26 = .ok (.getfield 12, 3) := by decide +kernel
theorem dX1_takeSteps_29 : decode cX1_takeSteps 29 = .ok (.aload_n 0, 1) := by decide +kernel
theorem dX1_takeSteps_30 : decode cX1_takeSteps 30 = .ok (.getfield 27, 3) := by decide +kernel
theorem dX1_takeSteps_33 : decode cX1_takeSteps 33 = .ok (.iconst 0, 1) := by decide +kernel
theorem dX1_takeSteps_34 : decode cX1_takeSteps 34 = .ok (.iaload, 1) := by decide +kernel
theorem dX1_takeSteps_35 : decode cX1_takeSteps 35 = .ok (.putfield 87, 3) := by decide +kernel
theorem dX1_takeSteps_38 : decode cX1_takeSteps 38 = .ok (.iconst 1, 1) := by decide +kernel
theorem dX1_takeSteps_39 : decode cX1_takeSteps 39 = .ok (.ireturn, 1) := by decide +kernel
theorem dX1_takeWax_0 : decode cX1_takeWax 0 = .ok (.aload_n 0, 1) := by decide +kernel
theorem dX1_takeWax_1 : decode cX1_takeWax 1 = .ok (.getfield 27, 3) := by decide +kernel
theorem dX1_takeWax_4 : decode cX1_takeWax 4 = .ok (.iconst 0, 1) := by decide +kernel
theorem dX1_takeWax_5 : decode cX1_takeWax 5 = .ok (.iaload, 1) := by decide +kernel
theorem dX1_takeWax_6 : decode cX1_takeWax 6 = .ok (.istore_n 1, 1) := by decide +kernel
theorem dX1_takeWax_7 : decode cX1_takeWax 7 = .ok (.aload_n 0, 1) := by decide +kernel
theorem dX1_takeWax_8 : decode cX1_takeWax 8 = .ok (.getfield 31, 3) := by decide +kernel
theorem dX1_takeWax_11 : decode cX1_takeWax 11 = .ok (.iconst 2, 1) := by decide +kernel
theorem dX1_takeWax_12 : decode cX1_takeWax 12 = .ok (.if_icmp .ne 25, 3) := by decide +kernel
theorem dX1_takeWax_15 : decode cX1_takeWax 15 = .ok (.aload_n 0, 1) := by decide +kernel
theorem dX1_takeWax_16 : decode cX1_takeWax 16 = .ok (.getfield 12, 3) := by decide +kernel
theorem dX1_takeWax_19 : decode cX1_takeWax 19 = .ok (.iload_n 1, 1) := by decide +kernel
theorem dX1_takeWax_20 : decode cX1_takeWax 20 = .ok (.invokevirtual 90, 3) := by decide +kernel
theorem dX1_takeWax_23 : decode cX1_takeWax 23 = .ok (.ifCond .eq 14, 3) := by decide +kernel
theorem dX1_takeWax_26 : decode cX1_takeWax 26 = .ok (.aload_n 0, 1) := by decide +kernel
theorem dX1_takeWax_27 : decode cX1_takeWax 27 = .ok (.getfield 27, 3) := by decide +kernel
theorem dX1_takeWax_30 : decode cX1_takeWax 30 = .ok (.iconst 1, 1) := by decide +kernel
theorem dX1_takeWax_31 : decode cX1_takeWax 31 = .ok (.iaload, 1) := by decide +kernel
theorem dX1_takeWax_32 : decode cX1_takeWax 32 = .ok (.bipush 9, 2) := by decide +kernel
theorem dX1_takeWax_34 : decode cX1_takeWax 34 = .ok (.if_icmp .le 5, 3) := by decide +kernel
theorem dX1_takeWax_37 : decode cX1_takeWax 37 = .ok (.iconst 0, 1) := by decide +kernel
theorem dX1_takeWax_38 : decode cX1_takeWax 38 = .ok (.ireturn, 1) := by decide +kernel
theorem dX1_takeWax_39 : decode cX1_takeWax 39 = .ok (.aload_n 0, 1) := by decide +kernel
theorem dX1_takeWax_40 : decode cX1_takeWax 40 = .ok (.getfield 23, 3) := by decide +kernel
theorem dX1_takeWax_43 : decode cX1_takeWax 43 = .ok (.getfield 93, 3) := by decide +kernel
theorem dX1_takeWax_46 : decode cX1_takeWax 46 = .ok (.iload_n 1, 1) := by decide +kernel
theorem dX1_takeWax_47 : decode cX1_takeWax 47 = .ok (.aload_n 0, 1) := by decide +kernel
theorem dX1_takeWax_48 : decode cX1_takeWax 48 = .ok (.getfield 27, 3) := by decide +kernel
theorem dX1_takeWax_51 : decode cX1_takeWax 51 = .ok (.iconst 1, 1) := by decide +kernel
theorem dX1_takeWax_52 : decode cX1_takeWax 52 = .ok (.iaload, 1) := by decide +kernel
theorem dX1_takeWax_53 : decode cX1_takeWax 53 = .ok (.iastore, 1) := by decide +kernel
theorem dX1_takeWax_54 : decode cX1_takeWax 54 = .ok (.iconst 1, 1) := by decide +kernel
theorem dX1_takeWax_55 : decode cX1_takeWax 55 = .ok (.ireturn, 1) := by decide +kernel
theorem dX1_takeKnob_0 : decode cX1_takeKnob 0 = .ok (.aload_n 0, 1) := by decide +kernel
theorem dX1_takeKnob_1 : decode cX1_takeKnob 1 = .ok (.invokevirtual 96, 3) := by decide +kernel
theorem dX1_takeKnob_4 : decode cX1_takeKnob 4 = .ok (.ifCond .ne 5, 3) := by decide +kernel
theorem dX1_takeKnob_7 : decode cX1_takeKnob 7 = .ok (.iconst 0, 1) := by decide +kernel
theorem dX1_takeKnob_8 : decode cX1_takeKnob 8 = .ok (.ireturn, 1) := by decide +kernel
theorem dX1_takeKnob_9 : decode cX1_takeKnob 9 = .ok (.aload_n 0, 1) := by decide +kernel
theorem dX1_takeKnob_10 : decode cX1_takeKnob 10 = .ok (.getfield 12, 3) := by decide +kernel
theorem dX1_takeKnob_13 : decode cX1_takeKnob 13 = .ok (.dup, 1) := by decide +kernel
theorem dX1_takeKnob_14 : decode cX1_takeKnob 14 = .ok (.getfield 99, 3) := by decide +kernel
theorem dX1_takeKnob_17 : decode cX1_takeKnob 17 = .ok (.iconst 1, 1) := by decide +kernel
theorem dX1_takeKnob_18 : decode cX1_takeKnob 18 = .ok (.aload_n 0, 1) := by decide +kernel
theorem dX1_takeKnob_19 : decode cX1_takeKnob 19 = .ok (.getfield 27, 3) := by decide +kernel
theorem dX1_takeKnob_22 : decode cX1_takeKnob 22 = .ok (.iconst 0, 1) := by decide +kernel
theorem dX1_takeKnob_23 : decode cX1_takeKnob 23 = .ok (.iaload, 1) := by decide +kernel
theorem dX1_takeKnob_24 : decode cX1_takeKnob 24 = .ok (.ishl, 1) := by decide +kernel
theorem dX1_takeKnob_25 : decode cX1_takeKnob 25 = .ok (.ior, 1) := by decide +kernel
theorem dX1_takeKnob_26 : decode cX1_takeKnob 26 = .ok (.putfield 99, 3) := by decide +kernel
theorem dX1_takeKnob_29 : decode cX1_takeKnob 29 = .ok (.iconst 1, 1) := by decide +kernel
theorem dX1_takeKnob_30 : decode cX1_takeKnob 30 = .ok (.ireturn, 1) := by decide +kernel
theorem dX1_takeTurning_0 : decode cX1_takeTurning 0 = .ok (.aload_n 0, 1) := by decide +kernel
theorem dX1_takeTurning_1 : decode cX1_takeTurning 1 = .ok (.invokevirtual 96, 3) := by decide +kernel
theorem dX1_takeTurning_4 : decode cX1_takeTurning 4 = .ok (.ifCond .ne 5, 3) := by decide +kernel
theorem dX1_takeTurning_7 : decode cX1_takeTurning 7 = .ok (.iconst 0, 1) := by decide +kernel
theorem dX1_takeTurning_8 : decode cX1_takeTurning 8 = .ok (.ireturn, 1) := by decide +kernel
theorem dX1_takeTurning_9 : decode cX1_takeTurning 9 = .ok (.aload_n 0, 1) := by decide +kernel
theorem dX1_takeTurning_10 : decode cX1_takeTurning 10 = .ok (.getfield 12, 3) := by decide +kernel
theorem dX1_takeTurning_13 : decode cX1_takeTurning 13 = .ok (.dup, 1) := by decide +kernel
theorem dX1_takeTurning_14 : decode cX1_takeTurning 14 = .ok (.getfield 102, 3) := by decide +kernel
theorem dX1_takeTurning_17 : decode cX1_takeTurning 17 = .ok (.iconst 1, 1) := by decide +kernel
theorem dX1_takeTurning_18 : decode cX1_takeTurning 18 = .ok (.aload_n 0, 1) := by decide +kernel
theorem dX1_takeTurning_19 : decode cX1_takeTurning 19 = .ok (.getfield 27, 3) := by decide +kernel
theorem dX1_takeTurning_22 : decode cX1_takeTurning 22 = .ok (.iconst 0, 1) := by decide +kernel
theorem dX1_takeTurning_23 : decode cX1_takeTurning 23 = .ok (.iaload, 1) := by decide +kernel
theorem dX1_takeTurning_24 : decode cX1_takeTurning 24 = .ok (.ishl, 1) := by decide +kernel
theorem dX1_takeTurning_25 : decode cX1_takeTurning 25 = .ok (.ior, 1) := by decide +kernel
theorem dX1_takeTurning_26 : decode cX1_takeTurning 26 = .ok (.putfield 102, 3) := by decide +kernel
theorem dX1_takeTurning_29 : decode cX1_takeTurning 29 = .ok (.iconst 1, 1) := by decide +kernel
theorem dX1_takeTurning_30 : decode cX1_takeTurning 30 = .ok (.ireturn, 1) := by decide +kernel
theorem dX1_tellsOneStep_0 : decode cX1_tellsOneStep 0 = .ok (.aload_n 0, 1) := by decide +kernel
theorem dX1_tellsOneStep_1 : decode cX1_tellsOneStep 1 = .ok (.getfield 31, 3) := by decide +kernel
theorem dX1_tellsOneStep_4 : decode cX1_tellsOneStep 4 = .ok (.iconst 1, 1) := by decide +kernel
theorem dX1_tellsOneStep_5 : decode cX1_tellsOneStep 5 = .ok (.if_icmp .ne 23, 3) := by decide +kernel
theorem dX1_tellsOneStep_8 : decode cX1_tellsOneStep 8 = .ok (.aload_n 0, 1) := by decide +kernel
theorem dX1_tellsOneStep_9 : decode cX1_tellsOneStep 9 = .ok (.getfield 12, 3) := by decide +kernel
theorem dX1_tellsOneStep_12 : decode cX1_tellsOneStep 12 = .ok (.aload_n 0, 1) := by decide +kernel
theorem dX1_tellsOneStep_13 : decode cX1_tellsOneStep 13 = .ok (.getfield 27, 3) := by decide +kernel
theorem dX1_tellsOneStep_16 : decode cX1_tellsOneStep 16 = .ok (.iconst 0, 1) := by decide +kernel
theorem dX1_tellsOneStep_17 : decode cX1_tellsOneStep 17 = .ok (.iaload, 1) := by decide +kernel
theorem dX1_tellsOneStep_18 : decode cX1_tellsOneStep 18 = .ok (.invokevirtual 90, 3) := by decide +kernel
theorem dX1_tellsOneStep_21 : decode cX1_tellsOneStep 21 = .ok (.ifCond .eq 7, 3) := by decide +kernel
theorem dX1_tellsOneStep_24 : decode cX1_tellsOneStep 24 = .ok (.iconst 1, 1) := by decide +kernel
theorem dX1_tellsOneStep_25 : decode cX1_tellsOneStep 25 = .ok (.goto 4, 3) := by decide +kernel
theorem dX1_tellsOneStep_28 : decode cX1_tellsOneStep 28 = .ok (.iconst 0, 1) := by decide +kernel
theorem dX1_tellsOneStep_29 : decode cX1_tellsOneStep 29 = .ok (.ireturn, 1) := by decide +kernel
theorem dX1_takeMinister_0 : decode cX1_takeMinister 0 = .ok (.aload_n 0, 1) := by decide +kernel
theorem dX1_takeMinister_1 : decode cX1_takeMinister 1 = .ok (.getfield 12, 3) := by decide +kernel
theorem dX1_takeMinister_4 : decode cX1_takeMinister 4 = .ok (.getfield 105, 3) := by decide +kernel
theorem dX1_takeMinister_7 : decode cX1_takeMinister 7 = .ok (.istore_n 1, 1) := by decide +kernel
theorem dX1_takeMinister_8 : decode cX1_takeMinister 8 = .ok (.aload_n 0, 1) := by decide +kernel
theorem dX1_takeMinister_9 : decode cX1_takeMinister 9 = .ok (.getfield 31, 3) := by decide +kernel
theorem dX1_takeMinister_12 : decode cX1_takeMinister 12 = .ok (.iconst 3, 1) := by decide +kernel
theorem dX1_takeMinister_13 : decode cX1_takeMinister 13 = .ok (.if_icmp .ne 46, 3) := by decide +kernel
theorem dX1_takeMinister_16 : decode cX1_takeMinister 16 = .ok (.iload_n 1, 1) := by decide +kernel
theorem dX1_takeMinister_17 : decode cX1_takeMinister 17 = .ok (.bipush 7, 2) := by decide +kernel
theorem dX1_takeMinister_19 : decode cX1_takeMinister 19 = .ok (.if_icmp .ge 40, 3) := by decide +kernel
theorem dX1_takeMinister_22 : decode cX1_takeMinister 22 = .ok (.aload_n 0, 1) := by decide +kernel
theorem dX1_takeMinister_23 : decode cX1_takeMinister 23 = .ok (.getfield 27, 3) := by decide +kernel
theorem dX1_takeMinister_26 : decode cX1_takeMinister 26 = .ok (.iconst 0, 1) := by decide +kernel
theorem dX1_takeMinister_27 : decode cX1_takeMinister 27 = .ok (.iaload, 1) := by decide +kernel
theorem dX1_takeMinister_28 : decode cX1_takeMinister 28 = .ok (.iconst 3, 1) := by decide +kernel
theorem dX1_takeMinister_29 : decode cX1_takeMinister 29 = .ok (.if_icmp .gt 30, 3) := by decide +kernel
theorem dX1_takeMinister_32 : decode cX1_takeMinister 32 = .ok (.aload_n 0, 1) := by decide +kernel
theorem dX1_takeMinister_33 : decode cX1_takeMinister 33 = .ok (.getfield 12, 3) := by decide +kernel
theorem dX1_takeMinister_36 : decode cX1_takeMinister 36 = .ok (.aload_n 0, 1) := by decide +kernel
theorem dX1_takeMinister_37 : decode cX1_takeMinister 37 = .ok (.getfield 27, 3) := by decide +kernel
theorem dX1_takeMinister_40 : decode cX1_takeMinister 40 = .ok (.iconst 1, 1) := by decide +kernel
theorem dX1_takeMinister_41 : decode cX1_takeMinister 41 = .ok (.iaload, 1) := by decide +kernel
theorem dX1_takeMinister_42 : decode cX1_takeMinister 42 = .ok (.invokevirtual 90, 3) := by decide +kernel
theorem dX1_takeMinister_45 : decode cX1_takeMinister 45 = .ok (.ifCond .eq 14, 3) := by decide +kernel
theorem dX1_takeMinister_48 : decode cX1_takeMinister 48 = .ok (.aload_n 0, 1) := by decide +kernel
theorem dX1_takeMinister_49 : decode cX1_takeMinister 49 = .ok (.getfield 27, 3) := by decide +kernel
theorem dX1_takeMinister_52 : decode cX1_takeMinister 52 = .ok (.iconst 2, 1) := by decide +kernel
theorem dX1_takeMinister_53 : decode cX1_takeMinister 53 = .ok (.iaload, 1) := by decide +kernel
theorem dX1_takeMinister_54 : decode cX1_takeMinister 54 = .ok (.bipush 9, 2) := by decide +kernel
theorem dX1_takeMinister_56 : decode cX1_takeMinister 56 = .ok (.if_icmp .le 5, 3) := by decide +kernel
theorem dX1_takeMinister_59 : decode cX1_takeMinister 59 = .ok (.iconst 0, 1) := by decide +kernel
theorem dX1_takeMinister_60 : decode cX1_takeMinister 60 = .ok (.ireturn, 1) := by decide +kernel
theorem dX1_takeMinister_61 : decode cX1_takeMinister 61 = .ok (.aload_n 0, 1) := by decide +kernel
theorem dX1_takeMinister_62 : decode cX1_takeMinister 62 = .ok (.getfield 12, 3) := by decide +kernel
theorem dX1_takeMinister_65 : decode cX1_takeMinister 65 = .ok (.getfield 108, 3) := by decide +kernel
theorem dX1_takeMinister_68 : decode cX1_takeMinister 68 = .ok (.iload_n 1, 1) := by decide +kernel
theorem dX1_takeMinister_69 : decode cX1_takeMinister 69 = .ok (.aload_n 0, 1) := by decide +kernel
theorem dX1_takeMinister_70 : decode cX1_takeMinister 70 = .ok (.getfield 27, 3) := by decide +kernel
theorem dX1_takeMinister_73 : decode cX1_takeMinister 73 = .ok (.iconst 0, 1) := by decide +kernel
theorem dX1_takeMinister_74 : decode cX1_takeMinister 74 = .ok (.iaload, 1) := by decide +kernel
theorem dX1_takeMinister_75 : decode cX1_takeMinister 75 = .ok (.iastore, 1) := by decide +kernel
theorem dX1_takeMinister_76 : decode cX1_takeMinister 76 = .ok (.aload_n 0, 1) := by decide +kernel
theorem dX1_takeMinister_77 : decode cX1_takeMinister 77 = .ok (.getfield 23, 3) := by decide +kernel
theorem dX1_takeMinister_80 : decode cX1_takeMinister 80 = .ok (.getfield 111, 3) := by decide +kernel
theorem dX1_takeMinister_83 : decode cX1_takeMinister 83 = .ok (.iload_n 1, 1) := by decide +kernel
theorem dX1_takeMinister_84 : decode cX1_takeMinister 84 = .ok (.aload_n 0, 1) := by decide +kernel
theorem dX1_takeMinister_85 : decode cX1_takeMinister 85 = .ok (.getfield 27, 3) := by decide +kernel
theorem dX1_takeMinister_88 : decode cX1_takeMinister 88 = .ok (.iconst 1, 1) := by decide +kernel
theorem dX1_takeMinister_89 : decode cX1_takeMinister 89 = .ok (.iaload, 1) := by decide +kernel
theorem dX1_takeMinister_90 : decode cX1_takeMinister 90 = .ok (.iastore, 1) := by decide +kernel
theorem dX1_takeMinister_91 : decode cX1_takeMinister 91 = .ok (.aload_n 0, 1) := by decide +kernel
theorem dX1_takeMinister_92 : decode cX1_takeMinister 92 = .ok (.getfield 23, 3) := by decide +kernel
theorem dX1_takeMinister_95 : decode cX1_takeMinister 95 = .ok (.getfield 114, 3) := by decide +kernel
theorem dX1_takeMinister_98 : decode cX1_takeMinister 98 = .ok (.iload_n 1, 1) := by decide +kernel
theorem dX1_takeMinister_99 : decode cX1_takeMinister 99 = .ok (.aload_n 0, 1) := by decide +kernel
theorem dX1_takeMinister_100 : decode cX1_takeMinister 100 = .ok (.getfield 27, 3) := by decide +kernel
theorem dX1_takeMinister_103 : decode cX1_takeMinister 103 = .ok (.iconst 2, 1) := by decide +kernel
theorem dX1_takeMinister_104 : decode cX1_takeMinister 104 = .ok (.iaload, 1) := by decide +kernel
theorem dX1_takeMinister_105 : decode cX1_takeMinister 105 = .ok (.iastore, 1) := by decide +kernel
theorem dX1_takeMinister_106 : decode cX1_takeMinister 106 = .ok (.aload_n 0, 1) := by decide +kernel
theorem dX1_takeMinister_107 : decode cX1_takeMinister 107 = .ok (.getfield 12, 3) := by decide +kernel
theorem dX1_takeMinister_110 : decode cX1_takeMinister 110 = .ok (.dup, 1) := by decide +kernel
theorem dX1_takeMinister_111 : decode cX1_takeMinister 111 = .ok (.getfield 105, 3) := by decide +kernel
theorem dX1_takeMinister_114 : decode cX1_takeMinister 114 = .ok (.iconst 1, 1) := by decide +kernel
theorem dX1_takeMinister_115 : decode cX1_takeMinister 115 = .ok (.iadd, 1) := by decide +kernel
theorem dX1_takeMinister_116 : decode cX1_takeMinister 116 = .ok (.putfield 105, 3) := by decide +kernel
theorem dX1_takeMinister_119 : decode cX1_takeMinister 119 = .ok (.iconst 1, 1) := by decide +kernel
theorem dX1_takeMinister_120 : decode cX1_takeMinister 120 = .ok (.ireturn, 1) := by decide +kernel
theorem dX1_takeFunds_0 : decode cX1_takeFunds 0 = .ok (.aload_n 0, 1) := by decide +kernel
theorem dX1_takeFunds_1 : decode cX1_takeFunds 1 = .ok (.getfield 31, 3) := by decide +kernel
theorem dX1_takeFunds_4 : decode cX1_takeFunds 4 = .ok (.iconst 1, 1) := by decide +kernel
theorem dX1_takeFunds_5 : decode cX1_takeFunds 5 = .ok (.if_icmp .eq 5, 3) := by decide +kernel
theorem dX1_takeFunds_8 : decode cX1_takeFunds 8 = .ok (.iconst 0, 1) := by decide +kernel
theorem dX1_takeFunds_9 : decode cX1_takeFunds 9 = .ok (.ireturn, 1) := by decide +kernel
theorem dX1_takeFunds_10 : decode cX1_takeFunds 10 = .ok (.aload_n 0, 1) := by decide +kernel
theorem dX1_takeFunds_11 : decode cX1_takeFunds 11 = .ok (.getfield 23, 3) := by decide +kernel
theorem dX1_takeFunds_14 : decode cX1_takeFunds 14 = .ok (.aload_n 0, 1) := by decide +kernel
theorem dX1_takeFunds_15 : decode cX1_takeFunds 15 = .ok (.getfield 27, 3) := by decide +kernel
theorem dX1_takeFunds_18 : decode cX1_takeFunds 18 = .ok (.iconst 0, 1) := by decide +kernel
theorem dX1_takeFunds_19 : decode cX1_takeFunds 19 = .ok (.iaload, 1) := by decide +kernel
theorem dX1_takeFunds_20 : decode cX1_takeFunds 20 = .ok (.putfield 117, 3) := by decide +kernel
theorem dX1_takeFunds_23 : decode cX1_takeFunds 23 = .ok (.iconst 1, 1) := by decide +kernel
theorem dX1_takeFunds_24 : decode cX1_takeFunds 24 = .ok (.ireturn, 1) := by decide +kernel
theorem dX2_init_0 : decode cX2_init 0 = .ok (.aload_n 0, 1) := by decide +kernel
theorem dX2_init_1 : decode cX2_init 1 = .ok (.invokespecial 1, 3) := by decide +kernel
theorem dX2_init_4 : decode cX2_init 4 = .ok (.aload_n 0, 1) := by decide +kernel
theorem dX2_init_5 : decode cX2_init 5 = .ok (.iconst 0, 1) := by decide +kernel
theorem dX2_init_6 : decode cX2_init 6 = .ok (.putfield 7, 3) := by decide +kernel
theorem dX2_init_9 : decode cX2_init 9 = .ok (.aload_n 0, 1) := by decide +kernel
theorem dX2_init_10 : decode cX2_init 10 = .ok (.iconst 0, 1) := by decide +kernel
theorem dX2_init_11 : decode cX2_init 11 = .ok (.putfield 13, 3) := by decide +kernel
theorem dX2_init_14 : decode cX2_init 14 = .ok (.aload_n 0, 1) := by decide +kernel
theorem dX2_init_15 : decode cX2_init 15 = .ok (.iconst 1, 1) := by decide +kernel
theorem dX2_init_16 : decode cX2_init 16 = .ok (.iload_n 2, 1) := by decide +kernel
theorem dX2_init_17 : decode cX2_init 17 = .ok (.invokestatic 16, 3) := by decide +kernel
theorem dX2_init_20 : decode cX2_init 20 = .ok (.anewarray 22, 3) := by decide +kernel
theorem dX2_init_23 : decode cX2_init 23 = .ok (.putfield 24, 3) := by decide +kernel
theorem dX2_init_26 : decode cX2_init 26 = .ok (.iconst 0, 1) := by decide +kernel
theorem dX2_init_27 : decode cX2_init 27 = .ok (.istore_n 3, 1) := by decide +kernel
theorem dX2_init_28 : decode cX2_init 28 = .ok (.iload_n 3, 1) := by decide +kernel
theorem dX2_init_29 : decode cX2_init 29 = .ok (.aload_n 0, 1) := by decide +kernel
theorem dX2_init_30 : decode cX2_init 30 = .ok (.getfield 24, 3) := by decide +kernel
theorem dX2_init_33 : decode cX2_init 33 = .ok (.arraylength, 1) := by decide +kernel
theorem dX2_init_34 : decode cX2_init 34 = .ok (.if_icmp .ge 23, 3) := by decide +kernel
theorem dX2_init_37 : decode cX2_init 37 = .ok (.aload_n 0, 1) := by decide +kernel
theorem dX2_init_38 : decode cX2_init 38 = .ok (.getfield 24, 3) := by decide +kernel
theorem dX2_init_41 : decode cX2_init 41 = .ok (.iload_n 3, 1) := by decide +kernel
theorem dX2_init_42 : decode cX2_init 42 = .ok (.new 22, 3) := by decide +kernel
theorem dX2_init_45 : decode cX2_init 45 = .ok (.dup, 1) := by decide +kernel
theorem dX2_init_46 : decode cX2_init 46 = .ok (.aload_n 1, 1) := by decide +kernel
theorem dX2_init_47 : decode cX2_init 47 = .ok (.invokespecial 28, 3) := by decide +kernel
theorem dX2_init_50 : decode cX2_init 50 = .ok (.aastore, 1) := by decide +kernel
theorem dX2_init_51 : decode cX2_init 51 = .ok (.iinc 3 1, 3) := by decide +kernel
theorem dX2_init_54 : decode cX2_init 54 = .ok (.goto (-26), 3) := by decide +kernel
theorem dX2_init_57 : decode cX2_init 57 = .ok (.return_, 1) := by decide +kernel
theorem dX2_isFull_0 : decode cX2_isFull 0 = .ok (.aload_n 0, 1) := by decide +kernel
theorem dX2_isFull_1 : decode cX2_isFull 1 = .ok (.getfield 7, 3) := by decide +kernel
theorem dX2_isFull_4 : decode cX2_isFull 4 = .ok (.aload_n 0, 1) := by decide +kernel
theorem dX2_isFull_5 : decode cX2_isFull 5 = .ok (.getfield 24, 3) := by decide +kernel
theorem dX2_isFull_8 : decode cX2_isFull 8 = .ok (.arraylength, 1) := by decide +kernel
theorem dX2_isFull_9 : decode cX2_isFull 9 = .ok (.if_icmp .lt 7, 3) := by decide +kernel
theorem dX2_isFull_12 : decode cX2_isFull 12 = .ok (.iconst 1, 1) := by decide +kernel
theorem dX2_isFull_13 : decode cX2_isFull 13 = .ok (.goto 4, 3) := by decide +kernel
theorem dX2_isFull_16 : decode cX2_isFull 16 = .ok (.iconst 0, 1) := by decide +kernel
theorem dX2_isFull_17 : decode cX2_isFull 17 = .ok (.ireturn, 1) := by decide +kernel
theorem dX2_put_0 : decode cX2_put 0 = .ok (.aload_n 0, 1) := by decide +kernel
theorem dX2_put_1 : decode cX2_put 1 = .ok (.getfield 24, 3) := by decide +kernel
theorem dX2_put_4 : decode cX2_put 4 = .ok (.aload_n 0, 1) := by decide +kernel
theorem dX2_put_5 : decode cX2_put 5 = .ok (.getfield 13, 3) := by decide +kernel
theorem dX2_put_8 : decode cX2_put 8 = .ok (.aaload, 1) := by decide +kernel
theorem dX2_put_9 : decode cX2_put 9 = .ok (.aload_n 1, 1) := by decide +kernel
theorem dX2_put_10 : decode cX2_put 10 = .ok (.invokevirtual 31, 3) := by decide +kernel
theorem dX2_put_13 : decode cX2_put 13 = .ok (.aload_n 0, 1) := by decide +kernel
theorem dX2_put_14 : decode cX2_put 14 = .ok (.aload_n 0, 1) := by decide +kernel
theorem dX2_put_15 : decode cX2_put 15 = .ok (.getfield 13, 3) := by decide +kernel
theorem dX2_put_18 : decode cX2_put 18 = .ok (.iconst 1, 1) := by decide +kernel
theorem dX2_put_19 : decode cX2_put 19 = .ok (.iadd, 1) := by decide +kernel
theorem dX2_put_20 : decode cX2_put 20 = .ok (.aload_n 0, 1) := by decide +kernel
theorem dX2_put_21 : decode cX2_put 21 = .ok (.getfield 24, 3) := by decide +kernel
theorem dX2_put_24 : decode cX2_put 24 = .ok (.arraylength, 1) := by decide +kernel
theorem dX2_put_25 : decode cX2_put 25 = .ok (.if_icmp .ge 12, 3) := by decide +kernel
theorem dX2_put_28 : decode cX2_put 28 = .ok (.aload_n 0, 1) := by decide +kernel
theorem dX2_put_29 : decode cX2_put 29 = .ok (.getfield 13, 3) := by decide +kernel
theorem dX2_put_32 : decode cX2_put 32 = .ok (.iconst 1, 1) := by decide +kernel
theorem dX2_put_33 : decode cX2_put 33 = .ok (.iadd, 1) := by decide +kernel
theorem dX2_put_34 : decode cX2_put 34 = .ok (.goto 4, 3) := by decide +kernel
theorem dX2_put_37 : decode cX2_put 37 = .ok (.iconst 0, 1) := by decide +kernel
theorem dX2_put_38 : decode cX2_put 38 = .ok (.putfield 13, 3) := by decide +kernel
theorem dX2_put_41 : decode cX2_put 41 = .ok (.aload_n 0, 1) := by decide +kernel
theorem dX2_put_42 : decode cX2_put 42 = .ok (.aload_n 0, 1) := by decide +kernel
theorem dX2_put_43 : decode cX2_put 43 = .ok (.getfield 7, 3) := by decide +kernel
theorem dX2_put_46 : decode cX2_put 46 = .ok (.iconst 1, 1) := by decide +kernel
theorem dX2_put_47 : decode cX2_put 47 = .ok (.iadd, 1) := by decide +kernel
theorem dX2_put_48 : decode cX2_put 48 = .ok (.aload_n 0, 1) := by decide +kernel
theorem dX2_put_49 : decode cX2_put 49 = .ok (.getfield 24, 3) := by decide +kernel
theorem dX2_put_52 : decode cX2_put 52 = .ok (.arraylength, 1) := by decide +kernel
theorem dX2_put_53 : decode cX2_put 53 = .ok (.invokestatic 35, 3) := by decide +kernel
theorem dX2_put_56 : decode cX2_put 56 = .ok (.putfield 7, 3) := by decide +kernel
theorem dX2_put_59 : decode cX2_put 59 = .ok (.return_, 1) := by decide +kernel
theorem dX2_takeLatest_0 : decode cX2_takeLatest 0 = .ok (.aload_n 0, 1) := by decide +kernel
theorem dX2_takeLatest_1 : decode cX2_takeLatest 1 = .ok (.getfield 7, 3) := by decide +kernel
theorem dX2_takeLatest_4 : decode cX2_takeLatest 4 = .ok (.ifCond .ne 5, 3) := by decide +kernel
theorem dX2_takeLatest_7 : decode cX2_takeLatest 7 = .ok (.iconst 0, 1) := by decide +kernel
theorem dX2_takeLatest_8 : decode cX2_takeLatest 8 = .ok (.ireturn, 1) := by decide +kernel
theorem dX2_takeLatest_9 : decode cX2_takeLatest 9 = .ok (.aload_n 0, 1) := by decide +kernel
theorem dX2_takeLatest_10 : decode cX2_takeLatest 10 = .ok (.aload_n 0, 1) := by decide +kernel
theorem dX2_takeLatest_11 : decode cX2_takeLatest 11 = .ok (.getfield 13, 3) := by decide +kernel
theorem dX2_takeLatest_14 : decode cX2_takeLatest 14 = .ok (.ifCond .le 12, 3) := by decide +kernel
theorem dX2_takeLatest_17 : decode cX2_takeLatest 17 = .ok (.aload_n 0, 1) := by decide +kernel
theorem dX2_takeLatest_18 : decode cX2_takeLatest 18 = .ok (.getfield 13, 3) := by decide +kernel
theorem dX2_takeLatest_21 : decode cX2_takeLatest 21 = .ok (.iconst 1, 1) := by decide +kernel
theorem dX2_takeLatest_22 : decode cX2_takeLatest 22 = .ok (.isub, 1) := by decide +kernel
theorem dX2_takeLatest_23 : decode cX2_takeLatest 23 = .ok (.goto 10, 3) := by decide +kernel
theorem dX2_takeLatest_26 : decode cX2_takeLatest 26 = .ok (.aload_n 0, 1) := by decide +kernel
theorem dX2_takeLatest_27 : decode cX2_takeLatest 27 = .ok (.getfield 24, 3) := by decide +kernel
theorem dX2_takeLatest_30 : decode cX2_takeLatest 30 = .ok (.arraylength, 1) := by decide +kernel
theorem dX2_takeLatest_31 : decode cX2_takeLatest 31 = .ok (.iconst 1, 1) := by decide +kernel
theorem dX2_takeLatest_32 : decode cX2_takeLatest 32 = .ok (.isub, 1) := by decide +kernel
theorem dX2_takeLatest_33 : decode cX2_takeLatest 33 = .ok (.putfield 13, 3) := by decide +kernel
theorem dX2_takeLatest_36 : decode cX2_takeLatest 36 = .ok (.aload_n 1, 1) := by decide +kernel
theorem dX2_takeLatest_37 : decode cX2_takeLatest 37 = .ok (.aload_n 0, 1) := by decide +kernel
theorem dX2_takeLatest_38 : decode cX2_takeLatest 38 = .ok (.getfield 24, 3) := by decide +kernel
theorem dX2_takeLatest_41 : decode cX2_takeLatest 41 = .ok (.aload_n 0, 1) := by decide +kernel
theorem dX2_takeLatest_42 : decode cX2_takeLatest 42 = .ok (.getfield 13, 3) := by decide +kernel
theorem dX2_takeLatest_45 : decode cX2_takeLatest 45 = .ok (.aaload, 1) := by decide +kernel
theorem dX2_takeLatest_46 : decode cX2_takeLatest 46 = .ok (.invokevirtual 31, 3) := by decide +kernel
theorem dX2_takeLatest_49 : decode cX2_takeLatest 49 = .ok (.aload_n 0, 1) := by decide +kernel
theorem dX2_takeLatest_50 : decode cX2_takeLatest 50 = .ok (.dup, 1) := by decide +kernel
theorem dX2_takeLatest_51 : decode cX2_takeLatest 51 = .ok (.getfield 7, 3) := by decide +kernel
theorem dX2_takeLatest_54 : decode cX2_takeLatest 54 = .ok (.iconst 1, 1) := by decide +kernel
theorem dX2_takeLatest_55 : decode cX2_takeLatest 55 = .ok (.isub, 1) := by decide +kernel
theorem dX2_takeLatest_56 : decode cX2_takeLatest 56 = .ok (.putfield 7, 3) := by decide +kernel
theorem dX2_takeLatest_59 : decode cX2_takeLatest 59 = .ok (.iconst 1, 1) := by decide +kernel
theorem dX2_takeLatest_60 : decode cX2_takeLatest 60 = .ok (.ireturn, 1) := by decide +kernel
theorem dX3_init_0 : decode cX3_init 0 = .ok (.aload_n 0, 1) := by decide +kernel
theorem dX3_init_1 : decode cX3_init 1 = .ok (.invokespecial 3, 3) := by decide +kernel
theorem dX3_init_4 : decode cX3_init 4 = .ok (.aload_n 0, 1) := by decide +kernel
theorem dX3_init_5 : decode cX3_init 5 = .ok (.bipush 6, 2) := by decide +kernel
theorem dX3_init_7 : decode cX3_init 7 = .ok (.newarray .int, 2) := by decide +kernel
theorem dX3_init_9 : decode cX3_init 9 = .ok (.putfield 9, 3) := by decide +kernel
theorem dX3_init_12 : decode cX3_init 12 = .ok (.aload_n 0, 1) := by decide +kernel
theorem dX3_init_13 : decode cX3_init 13 = .ok (.bipush 6, 2) := by decide +kernel
theorem dX3_init_15 : decode cX3_init 15 = .ok (.newarray .int, 2) := by decide +kernel
theorem dX3_init_17 : decode cX3_init 17 = .ok (.putfield 15, 3) := by decide +kernel
theorem dX3_init_20 : decode cX3_init 20 = .ok (.aload_n 0, 1) := by decide +kernel
theorem dX3_init_21 : decode cX3_init 21 = .ok (.iconst 0, 1) := by decide +kernel
theorem dX3_init_22 : decode cX3_init 22 = .ok (.putfield 18, 3) := by decide +kernel
theorem dX3_init_25 : decode cX3_init 25 = .ok (.return_, 1) := by decide +kernel
theorem dX3_add_0 : decode cX3_add 0 = .ok (.aload_n 0, 1) := by decide +kernel
theorem dX3_add_1 : decode cX3_add 1 = .ok (.getfield 18, 3) := by decide +kernel
theorem dX3_add_4 : decode cX3_add 4 = .ok (.bipush 6, 2) := by decide +kernel
theorem dX3_add_6 : decode cX3_add 6 = .ok (.if_icmp .lt 5, 3) := by decide +kernel
theorem dX3_add_9 : decode cX3_add 9 = .ok (.iconst 0, 1) := by decide +kernel
theorem dX3_add_10 : decode cX3_add 10 = .ok (.ireturn, 1) := by decide +kernel
theorem dX3_add_11 : decode cX3_add 11 = .ok (.aload_n 0, 1) := by decide +kernel
theorem dX3_add_12 : decode cX3_add 12 = .ok (.getfield 9, 3) := by decide +kernel
theorem dX3_add_15 : decode cX3_add 15 = .ok (.aload_n 0, 1) := by decide +kernel
theorem dX3_add_16 : decode cX3_add 16 = .ok (.getfield 18, 3) := by decide +kernel
theorem dX3_add_19 : decode cX3_add 19 = .ok (.iload_n 1, 1) := by decide +kernel
theorem dX3_add_20 : decode cX3_add 20 = .ok (.iastore, 1) := by decide +kernel
theorem dX3_add_21 : decode cX3_add 21 = .ok (.aload_n 0, 1) := by decide +kernel
theorem dX3_add_22 : decode cX3_add 22 = .ok (.getfield 15, 3) := by decide +kernel
theorem dX3_add_25 : decode cX3_add 25 = .ok (.aload_n 0, 1) := by decide +kernel
theorem dX3_add_26 : decode cX3_add 26 = .ok (.getfield 18, 3) := by decide +kernel
theorem dX3_add_29 : decode cX3_add 29 = .ok (.iload_n 2, 1) := by decide +kernel
theorem dX3_add_30 : decode cX3_add 30 = .ok (.iastore, 1) := by decide +kernel
theorem dX3_add_31 : decode cX3_add 31 = .ok (.aload_n 0, 1) := by decide +kernel
theorem dX3_add_32 : decode cX3_add 32 = .ok (.dup, 1) := by decide +kernel
theorem dX3_add_33 : decode cX3_add 33 = .ok (.getfield 18, 3) := by decide +kernel
theorem dX3_add_36 : decode cX3_add 36 = .ok (.iconst 1, 1) := by decide +kernel
theorem dX3_add_37 : decode cX3_add 37 = .ok (.iadd, 1) := by decide +kernel
theorem dX3_add_38 : decode cX3_add 38 = .ok (.putfield 18, 3) := by decide +kernel
theorem dX3_add_41 : decode cX3_add 41 = .ok (.iconst 1, 1) := by decide +kernel
theorem dX3_add_42 : decode cX3_add 42 = .ok (.ireturn, 1) := by decide +kernel
theorem dX3_allHoldIn_0 : decode cX3_allHoldIn 0 = .ok (.iconst 0, 1) := by decide +kernel
theorem dX3_allHoldIn_1 : decode cX3_allHoldIn 1 = .ok (.istore_n 2, 1) := by decide +kernel
theorem dX3_allHoldIn_2 : decode cX3_allHoldIn 2 = .ok (.iload_n 2, 1) := by decide +kernel
theorem dX3_allHoldIn_3 : decode cX3_allHoldIn 3 = .ok (.aload_n 0, 1) := by decide +kernel
theorem dX3_allHoldIn_4 : decode cX3_allHoldIn 4 = .ok (.getfield 18, 3) := by decide +kernel
theorem dX3_allHoldIn_7 : decode cX3_allHoldIn 7 = .ok (.if_icmp .ge 31, 3) := by decide +kernel
theorem dX3_allHoldIn_10 : decode cX3_allHoldIn 10 = .ok (.aload_n 1, 1) := by decide +kernel
theorem dX3_allHoldIn_11 : decode cX3_allHoldIn 11 = .ok (.getfield 22, 3) := by decide +kernel
theorem dX3_allHoldIn_14 : decode cX3_allHoldIn 14 = .ok (.aload_n 0, 1) := by decide +kernel
theorem dX3_allHoldIn_15 : decode cX3_allHoldIn 15 = .ok (.getfield 9, 3) := by decide +kernel
theorem dX3_allHoldIn_18 : decode cX3_allHoldIn 18 = .ok (.iload_n 2, 1) := by decide +kernel
theorem dX3_allHoldIn_19 : decode cX3_allHoldIn 19 = .ok (.iaload, 1) := by decide +kernel
theorem dX3_allHoldIn_20 : decode cX3_allHoldIn 20 = .ok (.iaload, 1) := by decide +kernel
theorem dX3_allHoldIn_21 : decode cX3_allHoldIn 21 = .ok (.aload_n 0, 1) := by decide +kernel
theorem dX3_allHoldIn_22 : decode cX3_allHoldIn 22 = .ok (.getfield 15, 3) := by decide +kernel
theorem dX3_allHoldIn_25 : decode cX3_allHoldIn 25 = .ok (.iload_n 2, 1) := by decide +kernel
theorem dX3_allHoldIn_26 : decode cX3_allHoldIn 26 = .ok (.iaload, 1) := by decide +kernel
theorem dX3_allHoldIn_27 : decode cX3_allHoldIn 27 = .ok (.if_icmp .eq 5, 3) := by decide +kernel
theorem dX3_allHoldIn_30 : decode cX3_allHoldIn 30 = .ok (.iconst 0, 1) := by decide +kernel
theorem dX3_allHoldIn_31 : decode cX3_allHoldIn 31 = .ok (.ireturn, 1) := by decide +kernel
theorem dX3_allHoldIn_32 : decode cX3_allHoldIn 32 = .ok (.iinc 2 1, 3) := by decide +kernel
theorem dX3_allHoldIn_35 : decode cX3_allHoldIn 35 = .ok (.goto (-33), 3) := by decide +kernel
theorem dX3_allHoldIn_38 : decode cX3_allHoldIn 38 = .ok (.iconst 1, 1) := by decide +kernel
theorem dX3_allHoldIn_39 : decode cX3_allHoldIn 39 = .ok (.ireturn, 1) := by decide +kernel
theorem dX4_init_0 : decode cX4_init 0 = .ok (.aload_n 0, 1) := by decide +kernel
theorem dX4_init_1 : decode cX4_init 1 = .ok (.invokespecial 3, 3) := by decide +kernel
theorem dX4_init_4 : decode cX4_init 4 = .ok (.aload_n 0, 1) := by decide +kernel
theorem dX4_init_5 : decode cX4_init 5 = .ok (.bipush 16, 2) := by decide +kernel
theorem dX4_init_7 : decode cX4_init 7 = .ok (.newarray .int, 2) := by decide +kernel
theorem dX4_init_9 : decode cX4_init 9 = .ok (.putfield 9, 3) := by decide +kernel
theorem dX4_init_12 : decode cX4_init 12 = .ok (.aload_n 0, 1) := by decide +kernel
theorem dX4_init_13 : decode cX4_init 13 = .ok (.bipush 7, 2) := by decide +kernel
theorem dX4_init_15 : decode cX4_init 15 = .ok (.newarray .int, 2) := by decide +kernel
theorem dX4_init_17 : decode cX4_init 17 = .ok (.putfield 15, 3) := by decide +kernel
theorem dX4_init_20 : decode cX4_init 20 = .ok (.aload_n 0, 1) := by decide +kernel
theorem dX4_init_21 : decode cX4_init 21 = .ok (.bipush 7, 2) := by decide +kernel
theorem dX4_init_23 : decode cX4_init 23 = .ok (.newarray .int, 2) := by decide +kernel
theorem dX4_init_25 : decode cX4_init 25 = .ok (.putfield 18, 3) := by decide +kernel
theorem dX4_init_28 : decode cX4_init 28 = .ok (.aload_n 0, 1) := by decide +kernel
theorem dX4_init_29 : decode cX4_init 29 = .ok (.bipush 7, 2) := by decide +kernel
theorem dX4_init_31 : decode cX4_init 31 = .ok (.newarray .int, 2) := by decide +kernel
theorem dX4_init_33 : decode cX4_init 33 = .ok (.putfield 21, 3) := by decide +kernel
theorem dX4_init_36 : decode cX4_init 36 = .ok (.aload_n 0, 1) := by decide +kernel
theorem dX4_init_37 : decode cX4_init 37 = .ok (.bipush 20, 2) := by decide +kernel
theorem dX4_init_39 : decode cX4_init 39 = .ok (.putfield 24, 3) := by decide +kernel
theorem dX4_init_42 : decode cX4_init 42 = .ok (.aload_n 0, 1) := by decide +kernel
theorem dX4_init_43 : decode cX4_init 43 = .ok (.iconst 0, 1) := by decide +kernel
theorem dX4_init_44 : decode cX4_init 44 = .ok (.putfield 28, 3) := by decide +kernel
theorem dX4_init_47 : decode cX4_init 47 = .ok (.aload_n 0, 1) := by decide +kernel
theorem dX4_init_48 : decode cX4_init 48 = .ok (.aload_n 1, 1) := by decide +kernel
theorem dX4_init_49 : decode cX4_init 49 = .ok (.putfield 31, 3) := by decide +kernel
theorem dX4_init_52 : decode cX4_init 52 = .ok (.return_, 1) := by decide +kernel
theorem dX4_clear_0 : decode cX4_clear 0 = .ok (.aload_n 0, 1) := by decide +kernel
theorem dX4_clear_1 : decode cX4_clear 1 = .ok (.getfield 9, 3) := by decide +kernel
theorem dX4_clear_4 : decode cX4_clear 4 = .ok (.iconst 0, 1) := by decide +kernel
theorem dX4_clear_5 : decode cX4_clear 5 = .ok (.invokestatic 35, 3) := by decide +kernel
theorem dX4_clear_8 : decode cX4_clear 8 = .ok (.aload_n 0, 1) := by decide +kernel
theorem dX4_clear_9 : decode cX4_clear 9 = .ok (.getfield 15, 3) := by decide +kernel
theorem dX4_clear_12 : decode cX4_clear 12 = .ok (.iconst 0, 1) := by decide +kernel
theorem dX4_clear_13 : decode cX4_clear 13 = .ok (.invokestatic 35, 3) := by decide +kernel
theorem dX4_clear_16 : decode cX4_clear 16 = .ok (.aload_n 0, 1) := by decide +kernel
theorem dX4_clear_17 : decode cX4_clear 17 = .ok (.getfield 18, 3) := by decide +kernel
theorem dX4_clear_20 : decode cX4_clear 20 = .ok (.iconst 0, 1) := by decide +kernel
theorem dX4_clear_21 : decode cX4_clear 21 = .ok (.invokestatic 35, 3) := by decide +kernel
theorem dX4_clear_24 : decode cX4_clear 24 = .ok (.aload_n 0, 1) := by decide +kernel
theorem dX4_clear_25 : decode cX4_clear 25 = .ok (.getfield 21, 3) := by decide +kernel
theorem dX4_clear_28 : decode cX4_clear 28 = .ok (.iconst 0, 1) := by decide +kernel
theorem dX4_clear_29 : decode cX4_clear 29 = .ok (.invokestatic 35, 3) := by decide +kernel
theorem dX4_clear_32 : decode cX4_clear 32 = .ok (.aload_n 0, 1) := by decide +kernel
theorem dX4_clear_33 : decode cX4_clear 33 = .ok (.bipush 20, 2) := by decide +kernel
theorem dX4_clear_35 : decode cX4_clear 35 = .ok (.putfield 24, 3) := by decide +kernel
theorem dX4_clear_38 : decode cX4_clear 38 = .ok (.aload_n 0, 1) := by decide +kernel
theorem dX4_clear_39 : decode cX4_clear 39 = .ok (.iconst 0, 1) := by decide +kernel
theorem dX4_clear_40 : decode cX4_clear 40 = .ok (.putfield 28, 3) := by decide +kernel
theorem dX4_clear_43 : decode cX4_clear 43 = .ok (.return_, 1) := by decide +kernel
theorem dX4_copy_0 : decode cX4_copy 0 = .ok (.aload_n 1, 1) := by decide +kernel
theorem dX4_copy_1 : decode cX4_copy 1 = .ok (.getfield 9, 3) := by decide +kernel
theorem dX4_copy_4 : decode cX4_copy 4 = .ok (.iconst 0, 1) := by decide +kernel
theorem dX4_copy_5 : decode cX4_copy 5 = .ok (.aload_n 0, 1) := by decide +kernel
theorem dX4_copy_6 : decode cX4_copy 6 = .ok (.getfield 9, 3) := by decide +kernel
theorem dX4_copy_9 : decode cX4_copy 9 = .ok (.iconst 0, 1) := by decide +kernel
theorem dX4_copy_10 : decode cX4_copy 10 = .ok (.aload_n 0, 1) := by decide +kernel
theorem dX4_copy_11 : decode cX4_copy 11 = .ok (.getfield 9, 3) := by decide +kernel
theorem dX4_copy_14 : decode cX4_copy 14 = .ok (.arraylength, 1) := by decide +kernel
theorem dX4_copy_15 : decode cX4_copy 15 = .ok (.invokestatic 41, 3) := by decide +kernel
theorem dX4_copy_18 : decode cX4_copy 18 = .ok (.aload_n 1, 1) := by decide +kernel
theorem dX4_copy_19 : decode cX4_copy 19 = .ok (.getfield 15, 3) := by decide +kernel
theorem dX4_copy_22 : decode cX4_copy 22 = .ok (.iconst 0, 1) := by decide +kernel
theorem dX4_copy_23 : decode cX4_copy 23 = .ok (.aload_n 0, 1) := by decide +kernel
theorem dX4_copy_24 : decode cX4_copy 24 = .ok (.getfield 15, 3) := by decide +kernel
theorem dX4_copy_27 : decode cX4_copy 27 = .ok (.iconst 0, 1) := by decide +kernel
theorem dX4_copy_28 : decode cX4_copy 28 = .ok (.aload_n 0, 1) := by decide +kernel
theorem dX4_copy_29 : decode cX4_copy 29 = .ok (.getfield 15, 3) := by decide +kernel
theorem dX4_copy_32 : decode cX4_copy 32 = .ok (.arraylength, 1) := by decide +kernel
theorem dX4_copy_33 : decode cX4_copy 33 = .ok (.invokestatic 41, 3) := by decide +kernel
theorem dX4_copy_36 : decode cX4_copy 36 = .ok (.aload_n 1, 1) := by decide +kernel
theorem dX4_copy_37 : decode cX4_copy 37 = .ok (.getfield 18, 3) := by decide +kernel
theorem dX4_copy_40 : decode cX4_copy 40 = .ok (.iconst 0, 1) := by decide +kernel
theorem dX4_copy_41 : decode cX4_copy 41 = .ok (.aload_n 0, 1) := by decide +kernel
theorem dX4_copy_42 : decode cX4_copy 42 = .ok (.getfield 18, 3) := by decide +kernel
theorem dX4_copy_45 : decode cX4_copy 45 = .ok (.iconst 0, 1) := by decide +kernel
theorem dX4_copy_46 : decode cX4_copy 46 = .ok (.aload_n 0, 1) := by decide +kernel
theorem dX4_copy_47 : decode cX4_copy 47 = .ok (.getfield 18, 3) := by decide +kernel
theorem dX4_copy_50 : decode cX4_copy 50 = .ok (.arraylength, 1) := by decide +kernel
theorem dX4_copy_51 : decode cX4_copy 51 = .ok (.invokestatic 41, 3) := by decide +kernel
theorem dX4_copy_54 : decode cX4_copy 54 = .ok (.aload_n 1, 1) := by decide +kernel
theorem dX4_copy_55 : decode cX4_copy 55 = .ok (.getfield 21, 3) := by decide +kernel
theorem dX4_copy_58 : decode cX4_copy 58 = .ok (.iconst 0, 1) := by decide +kernel
theorem dX4_copy_59 : decode cX4_copy 59 = .ok (.aload_n 0, 1) := by decide +kernel
theorem dX4_copy_60 : decode cX4_copy 60 = .ok (.getfield 21, 3) := by decide +kernel
theorem dX4_copy_63 : decode cX4_copy 63 = .ok (.iconst 0, 1) := by decide +kernel
theorem dX4_copy_64 : decode cX4_copy 64 = .ok (.aload_n 0, 1) := by decide +kernel
theorem dX4_copy_65 : decode cX4_copy 65 = .ok (.getfield 21, 3) := by decide +kernel
theorem dX4_copy_68 : decode cX4_copy 68 = .ok (.arraylength, 1) := by decide +kernel
theorem dX4_copy_69 : decode cX4_copy 69 = .ok (.invokestatic 41, 3) := by decide +kernel
theorem dX4_copy_72 : decode cX4_copy 72 = .ok (.aload_n 0, 1) := by decide +kernel
theorem dX4_copy_73 : decode cX4_copy 73 = .ok (.aload_n 1, 1) := by decide +kernel
theorem dX4_copy_74 : decode cX4_copy 74 = .ok (.getfield 24, 3) := by decide +kernel
theorem dX4_copy_77 : decode cX4_copy 77 = .ok (.putfield 24, 3) := by decide +kernel
theorem dX4_copy_80 : decode cX4_copy 80 = .ok (.aload_n 0, 1) := by decide +kernel
theorem dX4_copy_81 : decode cX4_copy 81 = .ok (.aload_n 1, 1) := by decide +kernel
theorem dX4_copy_82 : decode cX4_copy 82 = .ok (.getfield 28, 3) := by decide +kernel
theorem dX4_copy_85 : decode cX4_copy 85 = .ok (.putfield 28, 3) := by decide +kernel
theorem dX4_copy_88 : decode cX4_copy 88 = .ok (.return_, 1) := by decide +kernel
theorem dX4_governor_0 : decode cX4_governor 0 = .ok (.iconst 0, 1) := by decide +kernel
theorem dX4_governor_1 : decode cX4_governor 1 = .ok (.istore_n 1, 1) := by decide +kernel
theorem dX4_governor_2 : decode cX4_governor 2 = .ok (.iconst 1, 1) := by decide +kernel
theorem dX4_governor_3 : decode cX4_governor 3 = .ok (.istore_n 2, 1) := by decide +kernel
theorem dX4_governor_4 : decode cX4_governor 4 = .ok (.iload_n 2, 1) := by decide +kernel
theorem dX4_governor_5 : decode cX4_governor 5 = .ok (.aload_n 0, 1) := by decide +kernel
theorem dX4_governor_6 : decode cX4_governor 6 = .ok (.getfield 31, 3) := by decide +kernel
theorem dX4_governor_9 : decode cX4_governor 9 = .ok (.getfield 47, 3) := by decide +kernel
theorem dX4_governor_12 : decode cX4_governor 12 = .ok (.if_icmp .ge 26, 3) := by decide +kernel
theorem dX4_governor_15 : decode cX4_governor 15 = .ok (.aload_n 0, 1) := by decide +kernel
theorem dX4_governor_16 : decode cX4_governor 16 = .ok (.getfield 15, 3) := by decide +kernel
theorem dX4_governor_19 : decode cX4_governor 19 = .ok (.iload_n 2, 1) := by decide +kernel
theorem dX4_governor_20 : decode cX4_governor 20 = .ok (.iaload, 1) := by decide +kernel
theorem dX4_governor_21 : decode cX4_governor 21 = .ok (.aload_n 0, 1) := by decide +kernel
theorem dX4_governor_22 : decode cX4_governor 22 = .ok (.getfield 15, 3) := by decide +kernel
theorem dX4_governor_25 : decode cX4_governor 25 = .ok (.iload_n 1, 1) := by decide +kernel
theorem dX4_governor_26 : decode cX4_governor 26 = .ok (.iaload, 1) := by decide +kernel
theorem dX4_governor_27 : decode cX4_governor 27 = .ok (.if_icmp .le 5, 3) := by decide +kernel
theorem dX4_governor_30 : decode cX4_governor 30 = .ok (.iload_n 2, 1) := by decide +kernel
theorem dX4_governor_31 : decode cX4_governor 31 = .ok (.istore_n 1, 1) := by decide +kernel
theorem dX4_governor_32 : decode cX4_governor 32 = .ok (.iinc 2 1, 3) := by decide +kernel
theorem dX4_governor_35 : decode cX4_governor 35 = .ok (.goto (-31), 3) := by decide +kernel
theorem dX4_governor_38 : decode cX4_governor 38 = .ok (.iload_n 1, 1) := by decide +kernel
theorem dX4_governor_39 : decode cX4_governor 39 = .ok (.ireturn, 1) := by decide +kernel
theorem dX4_howManyOn_0 : decode cX4_howManyOn 0 = .ok (.iconst 0, 1) := by decide +kernel
theorem dX4_howManyOn_1 : decode cX4_howManyOn 1 = .ok (.istore_n 2, 1) := by decide +kernel
theorem dX4_howManyOn_2 : decode cX4_howManyOn 2 = .ok (.iconst 0, 1) := by decide +kernel
theorem dX4_howManyOn_3 : decode cX4_howManyOn 3 = .ok (.istore_n 3, 1) := by decide +kernel
theorem dX4_howManyOn_4 : decode cX4_howManyOn 4 = .ok (.iload_n 3, 1) := by decide +kernel
theorem dX4_howManyOn_5 : decode cX4_howManyOn 5 = .ok (.aload_n 0, 1) := by decide +kernel
theorem dX4_howManyOn_6 : decode cX4_howManyOn 6 = .ok (.getfield 31, 3) := by decide +kernel
theorem dX4_howManyOn_9 : decode cX4_howManyOn 9 = .ok (.getfield 47, 3) := by decide +kernel
theorem dX4_howManyOn_12 : decode cX4_howManyOn 12 = .ok (.if_icmp .ge 22, 3) := by decide +kernel
theorem dX4_howManyOn_15 : decode cX4_howManyOn 15 = .ok (.aload_n 0, 1) := by decide +kernel
theorem dX4_howManyOn_16 : decode cX4_howManyOn 16 = .ok (.getfield 15, 3) := by decide +kernel
theorem dX4_howManyOn_19 : decode cX4_howManyOn 19 = .ok (.iload_n 3, 1) := by decide +kernel
theorem dX4_howManyOn_20 : decode cX4_howManyOn 20 = .ok (.iaload, 1) := by decide +kernel
theorem dX4_howManyOn_21 : decode cX4_howManyOn 21 = .ok (.iload_n 1, 1) := by decide +kernel
theorem dX4_howManyOn_22 : decode cX4_howManyOn 22 = .ok (.if_icmp .ne 6, 3) := by decide +kernel
theorem dX4_howManyOn_25 : decode cX4_howManyOn 25 = .ok (.iinc 2 1, 3) := by decide +kernel
theorem dX4_howManyOn_28 : decode cX4_howManyOn 28 = .ok (.iinc 3 1, 3) := by decide +kernel
theorem dX4_howManyOn_31 : decode cX4_howManyOn 31 = .ok (.goto (-27), 3) := by decide +kernel
theorem dX4_howManyOn_34 : decode cX4_howManyOn 34 = .ok (.iload_n 2, 1) := by decide +kernel
theorem dX4_howManyOn_35 : decode cX4_howManyOn 35 = .ok (.ireturn, 1) := by decide +kernel
theorem dX4_allWax_0 : decode cX4_allWax 0 = .ok (.iconst 0, 1) := by decide +kernel
theorem dX4_allWax_1 : decode cX4_allWax 1 = .ok (.istore_n 1, 1) := by decide +kernel
theorem dX4_allWax_2 : decode cX4_allWax 2 = .ok (.iconst 0, 1) := by decide +kernel
theorem dX4_allWax_3 : decode cX4_allWax 3 = .ok (.istore_n 2, 1) := by decide +kernel
theorem dX4_allWax_4 : decode cX4_allWax 4 = .ok (.iload_n 2, 1) := by decide +kernel
theorem dX4_allWax_5 : decode cX4_allWax 5 = .ok (.aload_n 0, 1) := by decide +kernel
theorem dX4_allWax_6 : decode cX4_allWax 6 = .ok (.getfield 31, 3) := by decide +kernel
theorem dX4_allWax_9 : decode cX4_allWax 9 = .ok (.getfield 52, 3) := by decide +kernel
theorem dX4_allWax_12 : decode cX4_allWax 12 = .ok (.if_icmp .ge 18, 3) := by decide +kernel
theorem dX4_allWax_15 : decode cX4_allWax 15 = .ok (.iload_n 1, 1) := by decide +kernel
theorem dX4_allWax_16 : decode cX4_allWax 16 = .ok (.aload_n 0, 1) := by decide +kernel
theorem dX4_allWax_17 : decode cX4_allWax 17 = .ok (.getfield 9, 3) := by decide +kernel
theorem dX4_allWax_20 : decode cX4_allWax 20 = .ok (.iload_n 2, 1) := by decide +kernel
theorem dX4_allWax_21 : decode cX4_allWax 21 = .ok (.iaload, 1) := by decide +kernel
theorem dX4_allWax_22 : decode cX4_allWax 22 = .ok (.iadd, 1) := by decide +kernel
theorem dX4_allWax_23 : decode cX4_allWax 23 = .ok (.istore_n 1, 1) := by decide +kernel
theorem dX4_allWax_24 : decode cX4_allWax 24 = .ok (.iinc 2 1, 3) := by decide +kernel
theorem dX4_allWax_27 : decode cX4_allWax 27 = .ok (.goto (-23), 3) := by decide +kernel
theorem dX4_allWax_30 : decode cX4_allWax 30 = .ok (.iload_n 1, 1) := by decide +kernel
theorem dX4_allWax_31 : decode cX4_allWax 31 = .ok (.ireturn, 1) := by decide +kernel
theorem dX4_weightOfSet_0 : decode cX4_weightOfSet 0 = .ok (.iconst 0, 1) := by decide +kernel
theorem dX4_weightOfSet_1 : decode cX4_weightOfSet 1 = .ok (.istore_n 2, 1) := by decide +kernel
theorem dX4_weightOfSet_2 : decode cX4_weightOfSet 2 = .ok (.iconst 0, 1) := by decide +kernel
theorem dX4_weightOfSet_3 : decode cX4_weightOfSet 3 = .ok (.istore_n 3, 1) := by decide +kernel
theorem dX4_weightOfSet_4 : decode cX4_weightOfSet 4 = .ok (.iload_n 3, 1) := by decide +kernel
theorem dX4_weightOfSet_5 : decode cX4_weightOfSet 5 = .ok (.aload_n 0, 1) := by decide +kernel
theorem dX4_weightOfSet_6 : decode cX4_weightOfSet 6 = .ok (.getfield 31, 3) := by decide +kernel
theorem dX4_weightOfSet_9 : decode cX4_weightOfSet 9 = .ok (.getfield 47, 3) := by decide +kernel
theorem dX4_weightOfSet_12 : decode cX4_weightOfSet 12 = .ok (.if_icmp .ge 29, 3) := by decide +kernel
theorem dX4_weightOfSet_15 : decode cX4_weightOfSet 15 = .ok (.iload_n 1, 1) := by decide +kernel
theorem dX4_weightOfSet_16 : decode cX4_weightOfSet 16 = .ok (.iload_n 3, 1) := by decide +kernel
theorem dX4_weightOfSet_17 : decode cX4_weightOfSet 17 = .ok (.ishr, 1) := by decide +kernel
theorem dX4_weightOfSet_18 : decode cX4_weightOfSet 18 = .ok (.iconst 1, 1) := by decide +kernel
theorem dX4_weightOfSet_19 : decode cX4_weightOfSet 19 = .ok (.iand, 1) := by decide +kernel
theorem dX4_weightOfSet_20 : decode cX4_weightOfSet 20 = .ok (.iconst 1, 1) := by decide +kernel
theorem dX4_weightOfSet_21 : decode cX4_weightOfSet 21 = .ok (.if_icmp .ne 14, 3) := by decide +kernel
theorem dX4_weightOfSet_24 : decode cX4_weightOfSet 24 = .ok (.iload_n 2, 1) := by decide +kernel
theorem dX4_weightOfSet_25 : decode cX4_weightOfSet 25 = .ok (.aload_n 0, 1) := by decide +kernel
theorem dX4_weightOfSet_26 : decode cX4_weightOfSet 26 = .ok (.getfield 15, 3) := by decide +kernel
theorem dX4_weightOfSet_29 : decode cX4_weightOfSet 29 = .ok (.iload_n 3, 1) := by decide +kernel
theorem dX4_weightOfSet_30 : decode cX4_weightOfSet 30 = .ok (.iaload, 1) := by decide +kernel
theorem dX4_weightOfSet_31 : decode cX4_weightOfSet 31 = .ok (.iconst 1, 1) := by decide +kernel
theorem dX4_weightOfSet_32 : decode cX4_weightOfSet 32 = .ok (.iadd, 1) := by decide +kernel
theorem dX4_weightOfSet_33 : decode cX4_weightOfSet 33 = .ok (.iadd, 1) := by decide +kernel
theorem dX4_weightOfSet_34 : decode cX4_weightOfSet 34 = .ok (.istore_n 2, 1) := by decide +kernel
theorem dX4_weightOfSet_35 : decode cX4_weightOfSet 35 = .ok (.iinc 3 1, 3) := by decide +kernel
theorem dX4_weightOfSet_38 : decode cX4_weightOfSet 38 = .ok (.goto (-34), 3) := by decide +kernel
theorem dX4_weightOfSet_41 : decode cX4_weightOfSet 41 = .ok (.iload_n 2, 1) := by decide +kernel
theorem dX4_weightOfSet_42 : decode cX4_weightOfSet 42 = .ok (.ireturn, 1) := by decide +kernel
theorem dX4_addWax_0 : decode cX4_addWax 0 = .ok (.aload_n 0, 1) := by decide +kernel
theorem dX4_addWax_1 : decode cX4_addWax 1 = .ok (.getfield 31, 3) := by decide +kernel
theorem dX4_addWax_4 : decode cX4_addWax 4 = .ok (.iload_n 1, 1) := by decide +kernel
theorem dX4_addWax_5 : decode cX4_addWax 5 = .ok (.invokevirtual 55, 3) := by decide +kernel
theorem dX4_addWax_8 : decode cX4_addWax 8 = .ok (.ifCond .eq 26, 3) := by decide +kernel
theorem dX4_addWax_11 : decode cX4_addWax 11 = .ok (.aload_n 0, 1) := by decide +kernel
theorem dX4_addWax_12 : decode cX4_addWax 12 = .ok (.getfield 9, 3) := by decide +kernel
theorem dX4_addWax_15 : decode cX4_addWax 15 = .ok (.iload_n 1, 1) := by decide +kernel
theorem dX4_addWax_16 : decode cX4_addWax 16 = .ok (.iconst 0, 1) := by decide +kernel
theorem dX4_addWax_17 : decode cX4_addWax 17 = .ok (.bipush 9, 2) := by decide +kernel
theorem dX4_addWax_19 : decode cX4_addWax 19 = .ok (.aload_n 0, 1) := by decide +kernel
theorem dX4_addWax_20 : decode cX4_addWax 20 = .ok (.getfield 9, 3) := by decide +kernel
theorem dX4_addWax_23 : decode cX4_addWax 23 = .ok (.iload_n 1, 1) := by decide +kernel
theorem dX4_addWax_24 : decode cX4_addWax 24 = .ok (.iaload, 1) := by decide +kernel
theorem dX4_addWax_25 : decode cX4_addWax 25 = .ok (.iload_n 2, 1) := by decide +kernel
theorem dX4_addWax_26 : decode cX4_addWax 26 = .ok (.iadd, 1) := by decide +kernel
theorem dX4_addWax_27 : decode cX4_addWax 27 = .ok (.invokestatic 59, 3) := by decide +kernel
theorem dX4_addWax_30 : decode cX4_addWax 30 = .ok (.invokestatic 65, 3) := by decide +kernel
theorem dX4_addWax_33 : decode cX4_addWax 33 = .ok (.iastore, 1) := by decide +kernel
theorem dX4_addWax_34 : decode cX4_addWax 34 = .ok (.return_, 1) := by decide +kernel
theorem dX4_goOn_0 : decode cX4_goOn 0 = .ok (.iconst 0, 1) := by decide +kernel
theorem dX4_goOn_1 : decode cX4_goOn 1 = .ok (.istore_n 2, 1) := by decide +kernel
theorem dX4_goOn_2 : decode cX4_goOn 2 = .ok (.iload_n 2, 1) := by decide +kernel
theorem dX4_goOn_3 : decode cX4_goOn 3 = .ok (.iload_n 1, 1) := by decide +kernel
theorem dX4_goOn_4 : decode cX4_goOn 4 = .ok (.if_icmp .ge 13, 3) := by decide +kernel
theorem dX4_goOn_7 : decode cX4_goOn 7 = .ok (.aload_n 0, 1) := by decide +kernel
theorem dX4_goOn_8 : decode cX4_goOn 8 = .ok (.invokevirtual 68, 3) := by decide +kernel
theorem dX4_goOn_11 : decode cX4_goOn 11 = .ok (.iinc 2 1, 3) := by decide +kernel
theorem dX4_goOn_14 : decode cX4_goOn 14 = .ok (.goto (-12), 3) := by decide +kernel
theorem dX4_goOn_17 : decode cX4_goOn 17 = .ok (.return_, 1) := by decide +kernel
theorem dX4_oneYear_0 : decode cX4_oneYear 0 = .ok (.iconst 0, 1) := by decide +kernel
theorem dX4_oneYear_1 : decode cX4_oneYear 1 = .ok (.istore_n 1, 1) := by decide +kernel
theorem dX4_oneYear_2 : decode cX4_oneYear 2 = .ok (.iload_n 1, 1) := by decide +kernel
theorem dX4_oneYear_3 : decode cX4_oneYear 3 = .ok (.aload_n 0, 1) := by decide +kernel
theorem dX4_oneYear_4 : decode cX4_oneYear 4 = .ok (.getfield 31, 3) := by decide +kernel
theorem dX4_oneYear_7 : decode cX4_oneYear 7 = .ok (.getfield 47, 3) := by decide +kernel
theorem dX4_oneYear_10 : decode cX4_oneYear 10 = .ok (.if_icmp .ge 14, 3) := by decide +kernel
theorem dX4_oneYear_13 : decode cX4_oneYear 13 = .ok (.aload_n 0, 1) := by decide +kernel
theorem dX4_oneYear_14 : decode cX4_oneYear 14 = .ok (.iload_n 1, 1) := by decide +kernel
theorem dX4_oneYear_15 : decode cX4_oneYear 15 = .ok (.invokevirtual 71, 3) := by decide +kernel
theorem dX4_oneYear_18 : decode cX4_oneYear 18 = .ok (.iinc 1 1, 3) := by decide +kernel
theorem dX4_oneYear_21 : decode cX4_oneYear 21 = .ok (.goto (-19), 3) := by decide +kernel
theorem dX4_oneYear_24 : decode cX4_oneYear 24 = .ok (.aload_n 0, 1) := by decide +kernel
theorem dX4_oneYear_25 : decode cX4_oneYear 25 = .ok (.getfield 21, 3) := by decide +kernel
theorem dX4_oneYear_28 : decode cX4_oneYear 28 = .ok (.aload_n 0, 1) := by decide +kernel
theorem dX4_oneYear_29 : decode cX4_oneYear 29 = .ok (.invokevirtual 75, 3) := by decide +kernel
theorem dX4_oneYear_32 : decode cX4_oneYear 32 = .ok (.dup2, 1) := by decide +kernel
theorem dX4_oneYear_33 : decode cX4_oneYear 33 = .ok (.iaload, 1) := by decide +kernel
theorem dX4_oneYear_34 : decode cX4_oneYear 34 = .ok (.iconst 1, 1) := by decide +kernel
theorem dX4_oneYear_35 : decode cX4_oneYear 35 = .ok (.iadd, 1) := by decide +kernel
theorem dX4_oneYear_36 : decode cX4_oneYear 36 = .ok (.iastore, 1) := by decide +kernel
theorem dX4_oneYear_37 : decode cX4_oneYear 37 = .ok (.aload_n 0, 1) := by decide +kernel
theorem dX4_oneYear_38 : decode cX4_oneYear 38 = .ok (.bipush 99, 2) := by decide +kernel
theorem dX4_oneYear_40 : decode cX4_oneYear 40 = .ok (.aload_n 0, 1) := by decide +kernel
theorem dX4_oneYear_41 : decode cX4_oneYear 41 = .ok (.getfield 24, 3) := by decide +kernel
theorem dX4_oneYear_44 : decode cX4_oneYear 44 = .ok (.iconst 3, 1) := by decide +kernel
theorem dX4_oneYear_45 : decode cX4_oneYear 45 = .ok (.iadd, 1) := by decide +kernel
theorem dX4_oneYear_46 : decode cX4_oneYear 46 = .ok (.invokestatic 59, 3) := by decide +kernel
theorem dX4_oneYear_49 : decode cX4_oneYear 49 = .ok (.putfield 24, 3) := by decide +kernel
theorem dX4_oneYear_52 : decode cX4_oneYear 52 = .ok (.aload_n 0, 1) := by decide +kernel
theorem dX4_oneYear_53 : decode cX4_oneYear 53 = .ok (.dup, 1) := by decide +kernel
theorem dX4_oneYear_54 : decode cX4_oneYear 54 = .ok (.getfield 28, 3) := by decide +kernel
theorem dX4_oneYear_57 : decode cX4_oneYear 57 = .ok (.iconst 1, 1) := by decide +kernel
theorem dX4_oneYear_58 : decode cX4_oneYear 58 = .ok (.iadd, 1) := by decide +kernel
theorem dX4_oneYear_59 : decode cX4_oneYear 59 = .ok (.putfield 28, 3) := by decide +kernel
theorem dX4_oneYear_62 : decode cX4_oneYear 62 = .ok (.return_, 1) := by decide +kernel
theorem dX4_slipsAtHisTurn_0 : decode cX4_slipsAtHisTurn 0 = .ok (.iconst 0, 1) := by decide +kernel
theorem dX4_slipsAtHisTurn_1 : decode cX4_slipsAtHisTurn 1 = .ok (.istore_n 2, 1) := by decide +kernel
theorem dX4_slipsAtHisTurn_2 : decode cX4_slipsAtHisTurn 2 = .ok (.iload_n 2, 1) := by decide +kernel
theorem dX4_slipsAtHisTurn_3 : decode cX4_slipsAtHisTurn 3 = .ok (.iload_n 1, 1) := by decide +kernel
theorem dX4_slipsAtHisTurn_4 : decode cX4_slipsAtHisTurn 4 = .ok (.if_icmp .ge 14, 3) := by decide +kernel
theorem dX4_slipsAtHisTurn_7 : decode cX4_slipsAtHisTurn 7 = .ok (.aload_n 0, 1) := by decide +kernel
theorem dX4_slipsAtHisTurn_8 : decode cX4_slipsAtHisTurn 8 = .ok (.iload_n 2, 1) := by decide +kernel
theorem dX4_slipsAtHisTurn_9 : decode cX4_slipsAtHisTurn 9 = .ok (.invokevirtual 71, 3) := by decide +kernel
theorem dX4_slipsAtHisTurn_12 : decode cX4_slipsAtHisTurn 12 = .ok (.iinc 2 1, 3) := by decide +kernel
theorem dX4_slipsAtHisTurn_15 : decode cX4_slipsAtHisTurn 15 = .ok (.goto (-13), 3) := by decide +kernel
theorem dX4_slipsAtHisTurn_18 : decode cX4_slipsAtHisTurn 18 = .ok (.aload_n 0, 1) := by decide +kernel
theorem dX4_slipsAtHisTurn_19 : decode cX4_slipsAtHisTurn 19 = .ok (.iload_n 1, 1) := by decide +kernel
theorem dX4_slipsAtHisTurn_20 : decode cX4_slipsAtHisTurn 20 = .ok (.invokevirtual 79, 3) := by decide +kernel
theorem dX4_slipsAtHisTurn_23 : decode cX4_slipsAtHisTurn 23 = .ok (.ifCond .le 7, 3) := by decide +kernel
theorem dX4_slipsAtHisTurn_26 : decode cX4_slipsAtHisTurn 26 = .ok (.iconst 1, 1) := by decide +kernel
theorem dX4_slipsAtHisTurn_27 : decode cX4_slipsAtHisTurn 27 = .ok (.goto 4, 3) := by decide +kernel
theorem dX4_slipsAtHisTurn_30 : decode cX4_slipsAtHisTurn 30 = .ok (.iconst 0, 1) := by decide +kernel
theorem dX4_slipsAtHisTurn_31 : decode cX4_slipsAtHisTurn 31 = .ok (.ireturn, 1) := by decide +kernel
theorem dX4_speedOf_0 : decode cX4_speedOf 0 = .ok (.aload_n 0, 1) := by decide +kernel
theorem dX4_speedOf_1 : decode cX4_speedOf 1 = .ok (.getfield 15, 3) := by decide +kernel
theorem dX4_speedOf_4 : decode cX4_speedOf 4 = .ok (.iload_n 1, 1) := by decide +kernel
theorem dX4_speedOf_5 : decode cX4_speedOf 5 = .ok (.iaload, 1) := by decide +kernel
theorem dX4_speedOf_6 : decode cX4_speedOf 6 = .ok (.istore_n 2, 1) := by decide +kernel
theorem dX4_speedOf_7 : decode cX4_speedOf 7 = .ok (.aload_n 0, 1) := by decide +kernel
theorem dX4_speedOf_8 : decode cX4_speedOf 8 = .ok (.getfield 31, 3) := by decide +kernel
theorem dX4_speedOf_11 : decode cX4_speedOf 11 = .ok (.iload_n 2, 1) := by decide +kernel
theorem dX4_speedOf_12 : decode cX4_speedOf 12 = .ok (.invokevirtual 55, 3) := by decide +kernel
theorem dX4_speedOf_15 : decode cX4_speedOf 15 = .ok (.ifCond .ne 5, 3) := by decide +kernel
theorem dX4_speedOf_18 : decode cX4_speedOf 18 = .ok (.iconst 0, 1) := by decide +kernel
theorem dX4_speedOf_19 : decode cX4_speedOf 19 = .ok (.ireturn, 1) := by decide +kernel
theorem dX4_speedOf_20 : decode cX4_speedOf 20 = .ok (.aload_n 0, 1) := by decide +kernel
theorem dX4_speedOf_21 : decode cX4_speedOf 21 = .ok (.getfield 31, 3) := by decide +kernel
theorem dX4_speedOf_24 : decode cX4_speedOf 24 = .ok (.getfield 83, 3) := by decide +kernel
theorem dX4_speedOf_27 : decode cX4_speedOf 27 = .ok (.iload_n 1, 1) := by decide +kernel
theorem dX4_speedOf_28 : decode cX4_speedOf 28 = .ok (.iaload, 1) := by decide +kernel
theorem dX4_speedOf_29 : decode cX4_speedOf 29 = .ok (.iconst 3, 1) := by decide +kernel
theorem dX4_speedOf_30 : decode cX4_speedOf 30 = .ok (.if_icmp .ne 18, 3) := by decide +kernel
theorem dX4_speedOf_33 : decode cX4_speedOf 33 = .ok (.aload_n 0, 1) := by decide +kernel
theorem dX4_speedOf_34 : decode cX4_speedOf 34 = .ok (.getfield 31, 3) := by decide +kernel
theorem dX4_speedOf_37 : decode cX4_speedOf 37 = .ok (.iload_n 2, 1) := by decide +kernel
theorem dX4_speedOf_38 : decode cX4_speedOf 38 = .ok (.invokevirtual 86, 3) := by decide +kernel
theorem dX4_speedOf_41 : decode cX4_speedOf 41 = .ok (.ifCond .eq 7, 3) := by decide +kernel
theorem dX4_speedOf_44 : decode cX4_speedOf 44 = .ok (.iconst 3, 1) := by decide +kernel
theorem dX4_speedOf_45 : decode cX4_speedOf 45 = .ok (.goto 4, 3) := by decide +kernel
theorem dX4_speedOf_48 : decode cX4_speedOf 48 = .ok (.iconst 0, 1) := by decide +kernel
theorem dX4_speedOf_49 : decode cX4_speedOf 49 = .ok (.istore_n 3, 1) := by decide +kernel
theorem dX4_speedOf_50 : decode cX4_speedOf 50 = .ok (.aload_n 0, 1) := by decide +kernel
theorem dX4_speedOf_51 : decode cX4_speedOf 51 = .ok (.getfield 9, 3) := by decide +kernel
theorem dX4_speedOf_54 : decode cX4_speedOf 54 = .ok (.iload_n 2, 1) := by decide +kernel
theorem dX4_speedOf_55 : decode cX4_speedOf 55 = .ok (.iaload, 1) := by decide +kernel
theorem dX4_speedOf_56 : decode cX4_speedOf 56 = .ok (.aload_n 0, 1) := by decide +kernel
theorem dX4_speedOf_57 : decode cX4_speedOf 57 = .ok (.getfield 18, 3) := by decide +kernel
theorem dX4_speedOf_60 : decode cX4_speedOf 60 = .ok (.iload_n 1, 1) := by decide +kernel
theorem dX4_speedOf_61 : decode cX4_speedOf 61 = .ok (.iaload, 1) := by decide +kernel
theorem dX4_speedOf_62 : decode cX4_speedOf 62 = .ok (.isub, 1) := by decide +kernel
theorem dX4_speedOf_63 : decode cX4_speedOf 63 = .ok (.iload_n 3, 1) := by decide +kernel
theorem dX4_speedOf_64 : decode cX4_speedOf 64 = .ok (.isub, 1) := by decide +kernel
theorem dX4_speedOf_65 : decode cX4_speedOf 65 = .ok (.ireturn, 1) := by decide +kernel
theorem dX4_takeTurn_0 : decode cX4_takeTurn 0 = .ok (.aload_n 0, 1) := by decide +kernel
theorem dX4_takeTurn_1 : decode cX4_takeTurn 1 = .ok (.iload_n 1, 1) := by decide +kernel
theorem dX4_takeTurn_2 : decode cX4_takeTurn 2 = .ok (.invokevirtual 79, 3) := by decide +kernel
theorem dX4_takeTurn_5 : decode cX4_takeTurn 5 = .ok (.istore_n 2, 1) := by decide +kernel
theorem dX4_takeTurn_6 : decode cX4_takeTurn 6 = .ok (.iload_n 2, 1) := by decide +kernel
theorem dX4_takeTurn_7 : decode cX4_takeTurn 7 = .ok (.ifCond .le 12, 3) := by decide +kernel
theorem dX4_takeTurn_10 : decode cX4_takeTurn 10 = .ok (.aload_n 0, 1) := by decide +kernel
theorem dX4_takeTurn_11 : decode cX4_takeTurn 11 = .ok (.iload_n 1, 1) := by decide +kernel
theorem dX4_takeTurn_12 : decode cX4_takeTurn 12 = .ok (.iload_n 2, 1) := by decide +kernel
theorem dX4_takeTurn_13 : decode cX4_takeTurn 13 = .ok (.invokevirtual 89, 3) := by decide +kernel
theorem dX4_takeTurn_16 : decode cX4_takeTurn 16 = .ok (.goto 29, 3) := by decide +kernel
theorem dX4_takeTurn_19 : decode cX4_takeTurn 19 = .ok (.aload_n 0, 1) := by decide +kernel
theorem dX4_takeTurn_20 : decode cX4_takeTurn 20 = .ok (.getfield 31, 3) := by decide +kernel
theorem dX4_takeTurn_23 : decode cX4_takeTurn 23 = .ok (.aload_n 0, 1) := by decide +kernel
theorem dX4_takeTurn_24 : decode cX4_takeTurn 24 = .ok (.getfield 15, 3) := by decide +kernel
theorem dX4_takeTurn_27 : decode cX4_takeTurn 27 = .ok (.iload_n 1, 1) := by decide +kernel
theorem dX4_takeTurn_28 : decode cX4_takeTurn 28 = .ok (.iaload, 1) := by decide +kernel
theorem dX4_takeTurn_29 : decode cX4_takeTurn 29 = .ok (.invokevirtual 86, 3) := by decide +kernel
theorem dX4_takeTurn_32 : decode cX4_takeTurn 32 = .ok (.ifCond .ne 13, 3) := by decide +kernel
theorem dX4_takeTurn_35 : decode cX4_takeTurn 35 = .ok (.aload_n 0, 1) := by decide +kernel
theorem dX4_takeTurn_36 : decode cX4_takeTurn 36 = .ok (.getfield 15, 3) := by decide +kernel
theorem dX4_takeTurn_39 : decode cX4_takeTurn 39 = .ok (.iload_n 1, 1) := by decide +kernel
theorem dX4_takeTurn_40 : decode cX4_takeTurn 40 = .ok (.dup2, 1) := by decide +kernel
theorem dX4_takeTurn_41 : decode cX4_takeTurn 41 = .ok (.iaload, 1) := by decide +kernel
theorem dX4_takeTurn_42 : decode cX4_takeTurn 42 = .ok (.iconst 1, 1) := by decide +kernel
theorem dX4_takeTurn_43 : decode cX4_takeTurn 43 = .ok (.iadd, 1) := by decide +kernel
theorem dX4_takeTurn_44 : decode cX4_takeTurn 44 = .ok (.iastore, 1) := by decide +kernel
theorem dX4_takeTurn_45 : decode cX4_takeTurn 45 = .ok (.return_, 1) := by decide +kernel
theorem dX4_comeDown_0 : decode cX4_comeDown 0 = .ok (.aload_n 0, 1) := by decide +kernel
theorem dX4_comeDown_1 : decode cX4_comeDown 1 = .ok (.getfield 31, 3) := by decide +kernel
theorem dX4_comeDown_4 : decode cX4_comeDown 4 = .ok (.getfield 83, 3) := by decide +kernel
theorem dX4_comeDown_7 : decode cX4_comeDown 7 = .ok (.iload_n 1, 1) := by decide +kernel
theorem dX4_comeDown_8 : decode cX4_comeDown 8 = .ok (.iaload, 1) := by decide +kernel
theorem dX4_comeDown_9 : decode cX4_comeDown 9 = .ok (.iconst 1, 1) := by decide +kernel
theorem dX4_comeDown_10 : decode cX4_comeDown 10 = .ok (.if_icmp .ne 7, 3) := by decide +kernel
theorem dX4_comeDown_13 : decode cX4_comeDown 13 = .ok (.iconst 4, 1) := by decide +kernel
theorem dX4_comeDown_14 : decode cX4_comeDown 14 = .ok (.goto 4, 3) := by decide +kernel
theorem dX4_comeDown_17 : decode cX4_comeDown 17 = .ok (.iconst 2, 1) := by decide +kernel
theorem dX4_comeDown_18 : decode cX4_comeDown 18 = .ok (.istore_n 3, 1) := by decide +kernel
theorem dX4_comeDown_19 : decode cX4_comeDown 19 = .ok (.aload_n 0, 1) := by decide +kernel
theorem dX4_comeDown_20 : decode cX4_comeDown 20 = .ok (.getfield 31, 3) := by decide +kernel
theorem dX4_comeDown_23 : decode cX4_comeDown 23 = .ok (.getfield 83, 3) := by decide +kernel
theorem dX4_comeDown_26 : decode cX4_comeDown 26 = .ok (.iload_n 1, 1) := by decide +kernel
theorem dX4_comeDown_27 : decode cX4_comeDown 27 = .ok (.iaload, 1) := by decide +kernel
theorem dX4_comeDown_28 : decode cX4_comeDown 28 = .ok (.iconst 2, 1) := by decide +kernel
theorem dX4_comeDown_29 : decode cX4_comeDown 29 = .ok (.if_icmp .ne 7, 3) := by decide +kernel
theorem dX4_comeDown_32 : decode cX4_comeDown 32 = .ok (.iconst 1, 1) := by decide +kernel
theorem dX4_comeDown_33 : decode cX4_comeDown 33 = .ok (.goto 4, 3) := by decide +kernel
theorem dX4_comeDown_36 : decode cX4_comeDown 36 = .ok (.iconst 0, 1) := by decide +kernel
theorem dX4_comeDown_37 : decode cX4_comeDown 37 = .ok (.istore 4, 2) := by decide +kernel
theorem dX4_comeDown_39 : decode cX4_comeDown 39 = .ok (.iload_n 2, 1) := by decide +kernel
theorem dX4_comeDown_40 : decode cX4_comeDown 40 = .ok (.istore 5, 2) := by decide +kernel
theorem dX4_comeDown_42 : decode cX4_comeDown 42 = .ok (.aload_n 0, 1) := by decide +kernel
theorem dX4_comeDown_43 : decode cX4_comeDown 43 = .ok (.getfield 15, 3) := by decide +kernel
theorem dX4_comeDown_46 : decode cX4_comeDown 46 = .ok (.iload_n 1, 1) := by decide +kernel
theorem dX4_comeDown_47 : decode cX4_comeDown 47 = .ok (.iaload, 1) := by decide +kernel
theorem dX4_comeDown_48 : decode cX4_comeDown 48 = .ok (.istore 6, 2) := by decide +kernel
theorem dX4_comeDown_50 : decode cX4_comeDown 50 = .ok (.iload 6, 2) := by decide +kernel
theorem dX4_comeDown_52 : decode cX4_comeDown 52 = .ok (.ifCond .le 99, 3) := by decide +kernel
theorem dX4_comeDown_55 : decode cX4_comeDown 55 = .ok (.iload 5, 2) := by decide +kernel
theorem dX4_comeDown_57 : decode cX4_comeDown 57 = .ok (.ifCond .le 94, 3) := by decide +kernel
theorem dX4_comeDown_60 : decode cX4_comeDown 60 = .ok (.aload_n 0, 1) := by decide +kernel
theorem dX4_comeDown_61 : decode cX4_comeDown 61 = .ok (.getfield 9, 3) := by decide +kernel
theorem dX4_comeDown_64 : decode cX4_comeDown 64 = .ok (.iload 6, 2) := by decide +kernel
theorem dX4_comeDown_66 : decode cX4_comeDown 66 = .ok (.iconst 0, 1) := by decide +kernel
theorem dX4_comeDown_67 : decode cX4_comeDown 67 = .ok (.aload_n 0, 1) := by decide +kernel
theorem dX4_comeDown_68 : decode cX4_comeDown 68 = .ok (.getfield 9, 3) := by decide +kernel
theorem dX4_comeDown_71 : decode cX4_comeDown 71 = .ok (.iload 6, 2) := by decide +kernel
theorem dX4_comeDown_73 : decode cX4_comeDown 73 = .ok (.iaload, 1) := by decide +kernel
theorem dX4_comeDown_74 : decode cX4_comeDown 74 = .ok (.iconst 1, 1) := by decide +kernel
theorem dX4_comeDown_75 : decode cX4_comeDown 75 = .ok (.isub, 1) := by decide +kernel
theorem dX4_comeDown_76 : decode cX4_comeDown 76 = .ok (.invokestatic 65, 3) := by decide +kernel
theorem dX4_comeDown_79 : decode cX4_comeDown 79 = .ok (.iastore, 1) := by decide +kernel
theorem dX4_comeDown_80 : decode cX4_comeDown 80 = .ok (.aload_n 0, 1) := by decide +kernel
theorem dX4_comeDown_81 : decode cX4_comeDown 81 = .ok (.getfield 31, 3) := by decide +kernel
theorem dX4_comeDown_84 : decode cX4_comeDown 84 = .ok (.iload 6, 2) := by decide +kernel
theorem dX4_comeDown_86 : decode cX4_comeDown 86 = .ok (.iconst 1, 1) := by decide +kernel
theorem dX4_comeDown_87 : decode cX4_comeDown 87 = .ok (.isub, 1) := by decide +kernel
theorem dX4_comeDown_88 : decode cX4_comeDown 88 = .ok (.invokevirtual 93, 3) := by decide +kernel
theorem dX4_comeDown_91 : decode cX4_comeDown 91 = .ok (.ifCond .ne 22, 3) := by decide +kernel
theorem dX4_comeDown_94 : decode cX4_comeDown 94 = .ok (.iload 4, 2) := by decide +kernel
theorem dX4_comeDown_96 : decode cX4_comeDown 96 = .ok (.ifCond .eq 21, 3) := by decide +kernel
theorem dX4_comeDown_99 : decode cX4_comeDown 99 = .ok (.aload_n 0, 1) := by decide +kernel
theorem dX4_comeDown_100 : decode cX4_comeDown 100 = .ok (.getfield 31, 3) := by decide +kernel
theorem dX4_comeDown_103 : decode cX4_comeDown 103 = .ok (.iload 6, 2) := by decide +kernel
theorem dX4_comeDown_105 : decode cX4_comeDown 105 = .ok (.iconst 1, 1) := by decide +kernel
theorem dX4_comeDown_106 : decode cX4_comeDown 106 = .ok (.isub, 1) := by decide +kernel
theorem dX4_comeDown_107 : decode cX4_comeDown 107 = .ok (.invokevirtual 96, 3) := by decide +kernel
theorem dX4_comeDown_110 : decode cX4_comeDown 110 = .ok (.ifCond .eq 7, 3) := by decide +kernel
theorem dX4_comeDown_113 : decode cX4_comeDown 113 = .ok (.iconst 1, 1) := by decide +kernel
theorem dX4_comeDown_114 : decode cX4_comeDown 114 = .ok (.goto 4, 3) := by decide +kernel
theorem dX4_comeDown_117 : decode cX4_comeDown 117 = .ok (.iconst 0, 1) := by decide +kernel
theorem dX4_comeDown_118 : decode cX4_comeDown 118 = .ok (.istore 7, 2) := by decide +kernel
theorem dX4_comeDown_120 : decode cX4_comeDown 120 = .ok (.iload 7, 2) := by decide +kernel
theorem dX4_comeDown_122 : decode cX4_comeDown 122 = .ok (.ifCond .eq 7, 3) := by decide +kernel
theorem dX4_comeDown_125 : decode cX4_comeDown 125 = .ok (.iconst 0, 1) := by decide +kernel
theorem dX4_comeDown_126 : decode cX4_comeDown 126 = .ok (.goto 17, 3) := by decide +kernel
theorem dX4_comeDown_129 : decode cX4_comeDown 129 = .ok (.iload 5, 2) := by decide +kernel
theorem dX4_comeDown_131 : decode cX4_comeDown 131 = .ok (.aload_n 0, 1) := by decide +kernel
theorem dX4_comeDown_132 : decode cX4_comeDown 132 = .ok (.getfield 9, 3) := by decide +kernel
theorem dX4_comeDown_135 : decode cX4_comeDown 135 = .ok (.iload 6, 2) := by decide +kernel
theorem dX4_comeDown_137 : decode cX4_comeDown 137 = .ok (.iconst 1, 1) := by decide +kernel
theorem dX4_comeDown_138 : decode cX4_comeDown 138 = .ok (.isub, 1) := by decide +kernel
theorem dX4_comeDown_139 : decode cX4_comeDown 139 = .ok (.iaload, 1) := by decide +kernel
theorem dX4_comeDown_140 : decode cX4_comeDown 140 = .ok (.iadd, 1) := by decide +kernel
theorem dX4_comeDown_141 : decode cX4_comeDown 141 = .ok (.iload_n 3, 1) := by decide +kernel
theorem dX4_comeDown_142 : decode cX4_comeDown 142 = .ok (.isub, 1) := by decide +kernel
theorem dX4_comeDown_143 : decode cX4_comeDown 143 = .ok (.istore 5, 2) := by decide +kernel
theorem dX4_comeDown_145 : decode cX4_comeDown 145 = .ok (.iinc 6 (-1), 3) := by decide +kernel
theorem dX4_comeDown_148 : decode cX4_comeDown 148 = .ok (.goto (-98), 3) := by decide +kernel
theorem dX4_comeDown_151 : decode cX4_comeDown 151 = .ok (.aload_n 0, 1) := by decide +kernel
theorem dX4_comeDown_152 : decode cX4_comeDown 152 = .ok (.getfield 15, 3) := by decide +kernel
theorem dX4_comeDown_155 : decode cX4_comeDown 155 = .ok (.iload_n 1, 1) := by decide +kernel
theorem dX4_comeDown_156 : decode cX4_comeDown 156 = .ok (.iload 6, 2) := by decide +kernel
theorem dX4_comeDown_158 : decode cX4_comeDown 158 = .ok (.iastore, 1) := by decide +kernel
theorem dX4_comeDown_159 : decode cX4_comeDown 159 = .ok (.return_, 1) := by decide +kernel
theorem dX4_weather_0 : decode cX4_weather 0 = .ok (.aload_n 0, 1) := by decide +kernel
theorem dX4_weather_1 : decode cX4_weather 1 = .ok (.getfield 31, 3) := by decide +kernel
theorem dX4_weather_4 : decode cX4_weather 4 = .ok (.getfield 52, 3) := by decide +kernel
theorem dX4_weather_7 : decode cX4_weather 7 = .ok (.ifCond .gt 4, 3) := by decide +kernel
theorem dX4_weather_10 : decode cX4_weather 10 = .ok (.return_, 1) := by decide +kernel
theorem dX4_weather_11 : decode cX4_weather 11 = .ok (.iload_n 1, 1) := by decide +kernel
theorem dX4_weather_12 : decode cX4_weather 12 = .ok (.bipush 16, 2) := by decide +kernel
theorem dX4_weather_14 : decode cX4_weather 14 = .ok (.idiv, 1) := by decide +kernel
theorem dX4_weather_15 : decode cX4_weather 15 = .ok (.iconst 2, 1) := by decide +kernel
theorem dX4_weather_16 : decode cX4_weather 16 = .ok (.irem, 1) := by decide +kernel
theorem dX4_weather_17 : decode cX4_weather 17 = .ok (.ifCond .ne 17, 3) := by decide +kernel
theorem dX4_weather_20 : decode cX4_weather 20 = .ok (.aload_n 0, 1) := by decide +kernel
theorem dX4_weather_21 : decode cX4_weather 21 = .ok (.iload_n 1, 1) := by decide +kernel
theorem dX4_weather_22 : decode cX4_weather 22 = .ok (.aload_n 0, 1) := by decide +kernel
theorem dX4_weather_23 : decode cX4_weather 23 = .ok (.getfield 31, 3) := by decide +kernel
theorem dX4_weather_26 : decode cX4_weather 26 = .ok (.getfield 52, 3) := by decide +kernel
theorem dX4_weather_29 : decode cX4_weather 29 = .ok (.irem, 1) := by decide +kernel
theorem dX4_weather_30 : decode cX4_weather 30 = .ok (.iconst 1, 1) := by decide +kernel
theorem dX4_weather_31 : decode cX4_weather 31 = .ok (.invokevirtual 99, 3) := by decide +kernel
theorem dX4_weather_34 : decode cX4_weather 34 = .ok (.iload_n 1, 1) := by decide +kernel
theorem dX4_weather_35 : decode cX4_weather 35 = .ok (.sipush 512, 3) := by decide +kernel
theorem dX4_weather_38 : decode cX4_weather 38 = .ok (.idiv, 1) := by decide +kernel
theorem dX4_weather_39 : decode cX4_weather 39 = .ok (.iconst 3, 1) := by decide +kernel
theorem dX4_weather_40 : decode cX4_weather 40 = .ok (.irem, 1) := by decide +kernel
theorem dX4_weather_41 : decode cX4_weather 41 = .ok (.ifCond .ne 21, 3) := by decide +kernel
theorem dX4_weather_44 : decode cX4_weather 44 = .ok (.aload_n 0, 1) := by decide +kernel
theorem dX4_weather_45 : decode cX4_weather 45 = .ok (.iload_n 1, 1) := by decide +kernel
theorem dX4_weather_46 : decode cX4_weather 46 = .ok (.bipush 32, 2) := by decide +kernel
theorem dX4_weather_48 : decode cX4_weather 48 = .ok (.idiv, 1) := by decide +kernel
theorem dX4_weather_49 : decode cX4_weather 49 = .ok (.aload_n 0, 1) := by decide +kernel
theorem dX4_weather_50 : decode cX4_weather 50 = .ok (.getfield 31, 3) := by decide +kernel
theorem dX4_weather_53 : decode cX4_weather 53 = .ok (.getfield 52, 3) := by decide +kernel
theorem dX4_weather_56 : decode cX4_weather 56 = .ok (.irem, 1) := by decide +kernel
theorem dX4_weather_57 : decode cX4_weather 57 = .ok (.bipush (-2), 2) := by decide +kernel
theorem dX4_weather_59 : decode cX4_weather 59 = .ok (.invokevirtual 99, 3) := by decide +kernel
theorem dX4_weather_62 : decode cX4_weather 62 = .ok (.return_, 1) := by decide +kernel
theorem dX5_init_0 : decode cX5_init 0 = .ok (.aload_n 0, 1) := by decide +kernel
theorem dX5_init_1 : decode cX5_init 1 = .ok (.invokespecial 3, 3) := by decide +kernel
theorem dX5_init_4 : decode cX5_init 4 = .ok (.aload_n 0, 1) := by decide +kernel
theorem dX5_init_5 : decode cX5_init 5 = .ok (.sipush 200, 3) := by decide +kernel
theorem dX5_init_8 : decode cX5_init 8 = .ok (.newarray .char, 2) := by decide +kernel
theorem dX5_init_10 : decode cX5_init 10 = .ok (.putfield 9, 3) := by decide +kernel
theorem dX5_init_13 : decode cX5_init 13 = .ok (.aload_n 0, 1) := by decide +kernel
theorem dX5_init_14 : decode cX5_init 14 = .ok (.iconst 0, 1) := by decide +kernel
theorem dX5_init_15 : decode cX5_init 15 = .ok (.putfield 15, 3) := by decide +kernel
theorem dX5_init_18 : decode cX5_init 18 = .ok (.return_, 1) := by decide +kernel
theorem dX5_add_0 : decode cX5_add 0 = .ok (.aload_n 0, 1) := by decide +kernel
theorem dX5_add_1 : decode cX5_add 1 = .ok (.getfield 15, 3) := by decide +kernel
theorem dX5_add_4 : decode cX5_add 4 = .ok (.aload_n 0, 1) := by decide +kernel
theorem dX5_add_5 : decode cX5_add 5 = .ok (.getfield 9, 3) := by decide +kernel
theorem dX5_add_8 : decode cX5_add 8 = .ok (.arraylength, 1) := by decide +kernel
theorem dX5_add_9 : decode cX5_add 9 = .ok (.if_icmp .lt 5, 3) := by decide +kernel
theorem dX5_add_12 : decode cX5_add 12 = .ok (.iconst 0, 1) := by decide +kernel
theorem dX5_add_13 : decode cX5_add 13 = .ok (.ireturn, 1) := by decide +kernel
theorem dX5_add_14 : decode cX5_add 14 = .ok (.aload_n 0, 1) := by decide +kernel
theorem dX5_add_15 : decode cX5_add 15 = .ok (.getfield 9, 3) := by decide +kernel
theorem dX5_add_18 : decode cX5_add 18 = .ok (.aload_n 0, 1) := by decide +kernel
theorem dX5_add_19 : decode cX5_add 19 = .ok (.getfield 15, 3) := by decide +kernel
theorem dX5_add_22 : decode cX5_add 22 = .ok (.iload_n 1, 1) := by decide +kernel
theorem dX5_add_23 : decode cX5_add 23 = .ok (.castore, 1) := by decide +kernel
theorem dX5_add_24 : decode cX5_add 24 = .ok (.aload_n 0, 1) := by decide +kernel
theorem dX5_add_25 : decode cX5_add 25 = .ok (.dup, 1) := by decide +kernel
theorem dX5_add_26 : decode cX5_add 26 = .ok (.getfield 15, 3) := by decide +kernel
theorem dX5_add_29 : decode cX5_add 29 = .ok (.iconst 1, 1) := by decide +kernel
theorem dX5_add_30 : decode cX5_add 30 = .ok (.iadd, 1) := by decide +kernel
theorem dX5_add_31 : decode cX5_add 31 = .ok (.putfield 15, 3) := by decide +kernel
theorem dX5_add_34 : decode cX5_add 34 = .ok (.iconst 1, 1) := by decide +kernel
theorem dX5_add_35 : decode cX5_add 35 = .ok (.ireturn, 1) := by decide +kernel
theorem dX6_init_0 : decode cX6_init 0 = .ok (.aload_n 0, 1) := by decide +kernel
theorem dX6_init_1 : decode cX6_init 1 = .ok (.invokespecial 1, 3) := by decide +kernel
theorem dX6_init_4 : decode cX6_init 4 = .ok (.aload_n 0, 1) := by decide +kernel
theorem dX6_init_5 : decode cX6_init 5 = .ok (.new 7, 3) := by decide +kernel
theorem dX6_init_8 : decode cX6_init 8 = .ok (.dup, 1) := by decide +kernel
theorem dX6_init_9 : decode cX6_init 9 = .ok (.invokespecial 9, 3) := by decide +kernel
theorem dX6_init_12 : decode cX6_init 12 = .ok (.putfield 10, 3) := by decide +kernel
theorem dX6_init_15 : decode cX6_init 15 = .ok (.aload_n 0, 1) := by decide +kernel
theorem dX6_init_16 : decode cX6_init 16 = .ok (.new 16, 3) := by decide +kernel
theorem dX6_init_19 : decode cX6_init 19 = .ok (.dup, 1) := by decide +kernel
theorem dX6_init_20 : decode cX6_init 20 = .ok (.invokespecial 18, 3) := by decide +kernel
theorem dX6_init_23 : decode cX6_init 23 = .ok (.putfield 19, 3) := by decide +kernel
theorem dX6_init_26 : decode cX6_init 26 = .ok (.aload_n 0, 1) := by decide +kernel
theorem dX6_init_27 : decode cX6_init 27 = .ok (.new 23, 3) := by decide +kernel
theorem dX6_init_30 : decode cX6_init 30 = .ok (.dup, 1) := by decide +kernel
theorem dX6_init_31 : decode cX6_init 31 = .ok (.invokespecial 25, 3) := by decide +kernel
theorem dX6_init_34 : decode cX6_init 34 = .ok (.putfield 26, 3) := by decide +kernel
theorem dX6_init_37 : decode cX6_init 37 = .ok (.aload_n 0, 1) := by decide +kernel
theorem dX6_init_38 : decode cX6_init 38 = .ok (.new 30, 3) := by decide +kernel
theorem dX6_init_41 : decode cX6_init 41 = .ok (.dup, 1) := by decide +kernel
theorem dX6_init_42 : decode cX6_init 42 = .ok (.aload_n 0, 1) := by decide +kernel
theorem dX6_init_43 : decode cX6_init 43 = .ok (.getfield 26, 3) := by decide +kernel
theorem dX6_init_46 : decode cX6_init 46 = .ok (.invokespecial 32, 3) := by decide +kernel
theorem dX6_init_49 : decode cX6_init 49 = .ok (.putfield 35, 3) := by decide +kernel
theorem dX6_init_52 : decode cX6_init 52 = .ok (.aload_n 0, 1) := by decide +kernel
theorem dX6_init_53 : decode cX6_init 53 = .ok (.new 30, 3) := by decide +kernel
theorem dX6_init_56 : decode cX6_init 56 = .ok (.dup, 1) := by decide +kernel
theorem dX6_init_57 : decode cX6_init 57 = .ok (.aload_n 0, 1) := by decide +kernel
theorem dX6_init_58 : decode cX6_init 58 = .ok (.getfield 26, 3) := by decide +kernel
theorem dX6_init_61 : decode cX6_init 61 = .ok (.invokespecial 32, 3) := by decide +kernel
theorem dX6_init_64 : decode cX6_init 64 = .ok (.putfield 39, 3) := by decide +kernel
theorem dX6_init_67 : decode cX6_init 67 = .ok (.aload_n 0, 1) := by decide +kernel
theorem dX6_init_68 : decode cX6_init 68 = .ok (.new 42, 3) := by decide +kernel
theorem dX6_init_71 : decode cX6_init 71 = .ok (.dup, 1) := by decide +kernel
theorem dX6_init_72 : decode cX6_init 72 = .ok (.aload_n 0, 1) := by decide +kernel
theorem dX6_init_73 : decode cX6_init 73 = .ok (.getfield 26, 3) := by decide +kernel
theorem dX6_init_76 : decode cX6_init 76 = .ok (.bipush 8, 2) := by decide +kernel
theorem dX6_init_78 : decode cX6_init 78 = .ok (.invokespecial 44, 3) := by decide +kernel
theorem dX6_init_81 : decode cX6_init 81 = .ok (.putfield 47, 3) := by decide +kernel
theorem dX6_init_84 : decode cX6_init 84 = .ok (.aload_n 0, 1) := by decide +kernel
theorem dX6_init_85 : decode cX6_init 85 = .ok (.new 42, 3) := by decide +kernel
theorem dX6_init_88 : decode cX6_init 88 = .ok (.dup, 1) := by decide +kernel
theorem dX6_init_89 : decode cX6_init 89 = .ok (.aload_n 0, 1) := by decide +kernel
theorem dX6_init_90 : decode cX6_init 90 = .ok (.getfield 26, 3) := by decide +kernel
theorem dX6_init_93 : decode cX6_init 93 = .ok (.iconst 2, 1) := by decide +kernel
theorem dX6_init_94 : decode cX6_init 94 = .ok (.invokespecial 44, 3) := by decide +kernel
theorem dX6_init_97 : decode cX6_init 97 = .ok (.putfield 51, 3) := by decide +kernel
theorem dX6_init_100 : decode cX6_init 100 = .ok (.aload_n 0, 1) := by decide +kernel
theorem dX6_init_101 : decode cX6_init 101 = .ok (.new 54, 3) := by decide +kernel
theorem dX6_init_104 : decode cX6_init 104 = .ok (.dup, 1) := by decide +kernel
theorem dX6_init_105 : decode cX6_init 105 = .ok (.invokespecial 56, 3) := by decide +kernel
theorem dX6_init_108 : decode cX6_init 108 = .ok (.putfield 57, 3) := by decide +kernel
theorem dX6_init_111 : decode cX6_init 111 = .ok (.iconst 0, 1) := by decide +kernel
theorem dX6_init_112 : decode cX6_init 112 = .ok (.istore_n 1, 1) := by decide +kernel
theorem dX6_init_113 : decode cX6_init 113 = .ok (.iload_n 1, 1) := by decide +kernel
theorem dX6_init_114 : decode cX6_init 114 = .ok (.ldc 61, 2) := by decide +kernel
theorem dX6_init_116 : decode cX6_init 116 = .ok (.invokevirtual 63, 3) := by decide +kernel
theorem dX6_init_119 : decode cX6_init 119 = .ok (.if_icmp .ge 23, 3) := by decide +kernel
theorem dX6_init_122 : decode cX6_init 122 = .ok (.aload_n 0, 1) := by decide +kernel
theorem dX6_init_123 : decode cX6_init 123 = .ok (.getfield 10, 3) := by decide +kernel
theorem dX6_init_126 : decode cX6_init 126 = .ok (.ldc 61, 2) := by decide +kernel
theorem dX6_init_128 : decode cX6_init 128 = .ok (.iload_n 1, 1) := by decide +kernel
theorem dX6_init_129 : decode cX6_init 129 = .ok (.invokevirtual 69, 3) := by decide +kernel
theorem dX6_init_132 : decode cX6_init 132 = .ok (.invokevirtual 73, 3) := by decide +kernel
theorem dX6_init_135 : decode cX6_init 135 = .ok (.pop, 1) := by decide +kernel
theorem dX6_init_136 : decode cX6_init 136 = .ok (.iinc 1 1, 3) := by decide +kernel
theorem dX6_init_139 : decode cX6_init 139 = .ok (.goto (-26), 3) := by decide +kernel
theorem dX6_init_142 : decode cX6_init 142 = .ok (.aload_n 0, 1) := by decide +kernel
theorem dX6_init_143 : decode cX6_init 143 = .ok (.invokevirtual 77, 3) := by decide +kernel
theorem dX6_init_146 : decode cX6_init 146 = .ok (.pop, 1) := by decide +kernel
theorem dX6_init_147 : decode cX6_init 147 = .ok (.aload_n 0, 1) := by decide +kernel
theorem dX6_init_148 : decode cX6_init 148 = .ok (.getfield 10, 3) := by decide +kernel
theorem dX6_init_151 : decode cX6_init 151 = .ok (.iconst 0, 1) := by decide +kernel
theorem dX6_init_152 : decode cX6_init 152 = .ok (.putfield 81, 3) := by decide +kernel
theorem dX6_init_155 : decode cX6_init 155 = .ok (.return_, 1) := by decide +kernel
theorem dX6_write_0 : decode cX6_write 0 = .ok (.iload_n 1, 1) := by decide +kernel
theorem dX6_write_1 : decode cX6_write 1 = .ok (.bipush 32, 2) := by decide +kernel
theorem dX6_write_3 : decode cX6_write 3 = .ok (.bipush 126, 2) := by decide +kernel
theorem dX6_write_5 : decode cX6_write 5 = .ok (.invokestatic 84, 3) := by decide +kernel
theorem dX6_write_8 : decode cX6_write 8 = .ok (.ifCond .ne 5, 3) := by decide +kernel
theorem dX6_write_11 : decode cX6_write 11 = .ok (.iconst (-1), 1) := by decide +kernel
theorem dX6_write_12 : decode cX6_write 12 = .ok (.ireturn, 1) := by decide +kernel
theorem dX6_write_13 : decode cX6_write 13 = .ok (.aload_n 0, 1) := by decide +kernel
theorem dX6_write_14 : decode cX6_write 14 = .ok (.getfield 10, 3) := by decide +kernel
theorem dX6_write_17 : decode cX6_write 17 = .ok (.iload_n 1, 1) := by decide +kernel
theorem dX6_write_18 : decode cX6_write 18 = .ok (.i2c, 1) := by decide +kernel
theorem dX6_write_19 : decode cX6_write 19 = .ok (.invokevirtual 73, 3) := by decide +kernel
theorem dX6_write_22 : decode cX6_write 22 = .ok (.ifCond .eq 13, 3) := by decide +kernel
theorem dX6_write_25 : decode cX6_write 25 = .ok (.aload_n 0, 1) := by decide +kernel
theorem dX6_write_26 : decode cX6_write 26 = .ok (.getfield 10, 3) := by decide +kernel
theorem dX6_write_29 : decode cX6_write 29 = .ok (.getfield 81, 3) := by decide +kernel
theorem dX6_write_32 : decode cX6_write 32 = .ok (.goto 5, 3) := by decide +kernel
theorem dX6_write_35 : decode cX6_write 35 = .ok (.bipush (-3), 2) := by decide +kernel
theorem dX6_write_37 : decode cX6_write 37 = .ok (.ireturn, 1) := by decide +kernel
theorem dX6_wipe_0 : decode cX6_wipe 0 = .ok (.aload_n 0, 1) := by decide +kernel
theorem dX6_wipe_1 : decode cX6_wipe 1 = .ok (.getfield 10, 3) := by decide +kernel
theorem dX6_wipe_4 : decode cX6_wipe 4 = .ok (.getfield 81, 3) := by decide +kernel
theorem dX6_wipe_7 : decode cX6_wipe 7 = .ok (.istore_n 1, 1) := by decide +kernel
theorem dX6_wipe_8 : decode cX6_wipe 8 = .ok (.aload_n 0, 1) := by decide +kernel
theorem dX6_wipe_9 : decode cX6_wipe 9 = .ok (.getfield 10, 3) := by decide +kernel
theorem dX6_wipe_12 : decode cX6_wipe 12 = .ok (.iconst 0, 1) := by decide +kernel
theorem dX6_wipe_13 : decode cX6_wipe 13 = .ok (.putfield 81, 3) := by decide +kernel
theorem dX6_wipe_16 : decode cX6_wipe 16 = .ok (.iload_n 1, 1) := by decide +kernel
theorem dX6_wipe_17 : decode cX6_wipe 17 = .ok (.ireturn, 1) := by decide +kernel
theorem dX6_fault_0 : decode cX6_fault 0 = .ok (.aload_n 0, 1) := by decide +kernel
theorem dX6_fault_1 : decode cX6_fault 1 = .ok (.getfield 19, 3) := by decide +kernel
theorem dX6_fault_4 : decode cX6_fault 4 = .ok (.aload_n 0, 1) := by decide +kernel
theorem dX6_fault_5 : decode cX6_fault 5 = .ok (.getfield 10, 3) := by decide +kernel
theorem dX6_fault_8 : decode cX6_fault 8 = .ok (.invokevirtual 88, 3) := by decide +kernel
theorem dX6_fault_11 : decode cX6_fault 11 = .ok (.ireturn, 1) := by decide +kernel
theorem dX6_lay_0 : decode cX6_lay 0 = .ok (.aload_n 0, 1) := by decide +kernel
theorem dX6_lay_1 : decode cX6_lay 1 = .ok (.invokevirtual 77, 3) := by decide +kernel
theorem dX6_lay_4 : decode cX6_lay 4 = .ok (.ifCond .eq 13, 3) := by decide +kernel
theorem dX6_lay_7 : decode cX6_lay 7 = .ok (.aload_n 0, 1) := by decide +kernel
theorem dX6_lay_8 : decode cX6_lay 8 = .ok (.getfield 26, 3) := by decide +kernel
theorem dX6_lay_11 : decode cX6_lay 11 = .ok (.getfield 92, 3) := by decide +kernel
theorem dX6_lay_14 : decode cX6_lay 14 = .ok (.goto 5, 3) := by decide +kernel
theorem dX6_lay_17 : decode cX6_lay 17 = .ok (.bipush (-2), 2) := by decide +kernel
theorem dX6_lay_19 : decode cX6_lay 19 = .ok (.ireturn, 1) := by decide +kernel
theorem dX6_minister_0 : decode cX6_minister 0 = .ok (.aload_n 0, 1) := by decide +kernel
theorem dX6_minister_1 : decode cX6_minister 1 = .ok (.getfield 26, 3) := by decide +kernel
theorem dX6_minister_4 : decode cX6_minister 4 = .ok (.iload_n 1, 1) := by decide +kernel
theorem dX6_minister_5 : decode cX6_minister 5 = .ok (.invokevirtual 95, 3) := by decide +kernel
theorem dX6_minister_8 : decode cX6_minister 8 = .ok (.ifCond .ne 5, 3) := by decide +kernel
theorem dX6_minister_11 : decode cX6_minister 11 = .ok (.iconst (-1), 1) := by decide +kernel
theorem dX6_minister_12 : decode cX6_minister 12 = .ok (.ireturn, 1) := by decide +kernel
theorem dX6_minister_13 : decode cX6_minister 13 = .ok (.iload_n 2, 1) := by decide +kernel
theorem dX6_minister_14 : decode cX6_minister 14 = .ok (.tableswitch 91 0 4 #[34, 44, 54, 64, 74], 34) := by decide +kernel
theorem dX6_minister_48 : decode cX6_minister 48 = .ok (.aload_n 0, 1) := by decide +kernel
theorem dX6_minister_49 : decode cX6_minister 49 = .ok (.getfield 26, 3) := by decide +kernel
theorem dX6_minister_52 : decode cX6_minister 52 = .ok (.getfield 99, 3) := by decide +kernel
theorem dX6_minister_55 : decode cX6_minister 55 = .ok (.iload_n 1, 1) := by decide +kernel
theorem dX6_minister_56 : decode cX6_minister 56 = .ok (.iaload, 1) := by decide +kernel
theorem dX6_minister_57 : decode cX6_minister 57 = .ok (.ireturn, 1) := by decide +kernel
theorem dX6_minister_58 : decode cX6_minister 58 = .ok (.aload_n 0, 1) := by decide +kernel
theorem dX6_minister_59 : decode cX6_minister 59 = .ok (.getfield 35, 3) := by decide +kernel
theorem dX6_minister_62 : decode cX6_minister 62 = .ok (.getfield 103, 3) := by decide +kernel
theorem dX6_minister_65 : decode cX6_minister 65 = .ok (.iload_n 1, 1) := by decide +kernel
theorem dX6_minister_66 : decode cX6_minister 66 = .ok (.iaload, 1) := by decide +kernel
theorem dX6_minister_67 : decode cX6_minister 67 = .ok (.ireturn, 1) := by decide +kernel
theorem dX6_minister_68 : decode cX6_minister 68 = .ok (.aload_n 0, 1) := by decide +kernel
theorem dX6_minister_69 : decode cX6_minister 69 = .ok (.getfield 35, 3) := by decide +kernel
theorem dX6_minister_72 : decode cX6_minister 72 = .ok (.getfield 106, 3) := by decide +kernel
theorem dX6_minister_75 : decode cX6_minister 75 = .ok (.iload_n 1, 1) := by decide +kernel
theorem dX6_minister_76 : decode cX6_minister 76 = .ok (.iaload, 1) := by decide +kernel
theorem dX6_minister_77 : decode cX6_minister 77 = .ok (.ireturn, 1) := by decide +kernel
theorem dX6_minister_78 : decode cX6_minister 78 = .ok (.aload_n 0, 1) := by decide +kernel
theorem dX6_minister_79 : decode cX6_minister 79 = .ok (.getfield 35, 3) := by decide +kernel
theorem dX6_minister_82 : decode cX6_minister 82 = .ok (.getfield 109, 3) := by decide +kernel
theorem dX6_minister_85 : decode cX6_minister 85 = .ok (.iload_n 1, 1) := by decide +kernel
theorem dX6_minister_86 : decode cX6_minister 86 = .ok (.iaload, 1) := by decide +kernel
theorem dX6_minister_87 : decode cX6_minister 87 = .ok (.ireturn, 1) := by decide +kernel
theorem dX6_minister_88 : decode cX6_minister 88 = .ok (.aload_n 0, 1) := by decide +kernel
theorem dX6_minister_89 : decode cX6_minister 89 = .ok (.getfield 35, 3) := by decide +kernel
theorem dX6_minister_92 : decode cX6_minister 92 = .ok (.iload_n 1, 1) := by decide +kernel
theorem dX6_minister_93 : decode cX6_minister 93 = .ok (.invokevirtual 112, 3) := by decide +kernel
theorem dX6_minister_96 : decode cX6_minister 96 = .ok (.ifCond .le 7, 3) := by decide +kernel
theorem dX6_minister_99 : decode cX6_minister 99 = .ok (.iconst 1, 1) := by decide +kernel
theorem dX6_minister_100 : decode cX6_minister 100 = .ok (.goto 4, 3) := by decide +kernel
theorem dX6_minister_103 : decode cX6_minister 103 = .ok (.iconst 0, 1) := by decide +kernel
theorem dX6_minister_104 : decode cX6_minister 104 = .ok (.ireturn, 1) := by decide +kernel
theorem dX6_minister_105 : decode cX6_minister 105 = .ok (.iconst (-1), 1) := by decide +kernel
theorem dX6_minister_106 : decode cX6_minister 106 = .ok (.ireturn, 1) := by decide +kernel
theorem dX6_step_0 : decode cX6_step 0 = .ok (.aload_n 0, 1) := by decide +kernel
theorem dX6_step_1 : decode cX6_step 1 = .ok (.getfield 26, 3) := by decide +kernel
theorem dX6_step_4 : decode cX6_step 4 = .ok (.iload_n 1, 1) := by decide +kernel
theorem dX6_step_5 : decode cX6_step 5 = .ok (.invokevirtual 116, 3) := by decide +kernel
theorem dX6_step_8 : decode cX6_step 8 = .ok (.ifCond .ne 5, 3) := by decide +kernel
theorem dX6_step_11 : decode cX6_step 11 = .ok (.iconst (-1), 1) := by decide +kernel
theorem dX6_step_12 : decode cX6_step 12 = .ok (.ireturn, 1) := by decide +kernel
theorem dX6_step_13 : decode cX6_step 13 = .ok (.iload_n 2, 1) := by decide +kernel
theorem dX6_step_14 : decode cX6_step 14 = .ok (.tableswitch 83 0 3 #[30, 40, 57, 74], 30) := by decide +kernel
theorem dX6_step_44 : decode cX6_step 44 = .ok (.aload_n 0, 1) := by decide +kernel
theorem dX6_step_45 : decode cX6_step 45 = .ok (.getfield 35, 3) := by decide +kernel
theorem dX6_step_48 : decode cX6_step 48 = .ok (.getfield 119, 3) := by decide +kernel
theorem dX6_step_51 : decode cX6_step 51 = .ok (.iload_n 1, 1) := by decide +kernel
theorem dX6_step_52 : decode cX6_step 52 = .ok (.iaload, 1) := by decide +kernel
theorem dX6_step_53 : decode cX6_step 53 = .ok (.ireturn, 1) := by decide +kernel
theorem dX6_step_54 : decode cX6_step 54 = .ok (.aload_n 0, 1) := by decide +kernel
theorem dX6_step_55 : decode cX6_step 55 = .ok (.getfield 26, 3) := by decide +kernel
theorem dX6_step_58 : decode cX6_step 58 = .ok (.iload_n 1, 1) := by decide +kernel
theorem dX6_step_59 : decode cX6_step 59 = .ok (.invokevirtual 122, 3) := by decide +kernel
theorem dX6_step_62 : decode cX6_step 62 = .ok (.ifCond .eq 7, 3) := by decide +kernel
theorem dX6_step_65 : decode cX6_step 65 = .ok (.iconst 1, 1) := by decide +kernel
theorem dX6_step_66 : decode cX6_step 66 = .ok (.goto 4, 3) := by decide +kernel
theorem dX6_step_69 : decode cX6_step 69 = .ok (.iconst 0, 1) := by decide +kernel
theorem dX6_step_70 : decode cX6_step 70 = .ok (.ireturn, 1) := by decide +kernel
theorem dX6_step_71 : decode cX6_step 71 = .ok (.aload_n 0, 1) := by decide +kernel
theorem dX6_step_72 : decode cX6_step 72 = .ok (.getfield 26, 3) := by decide +kernel
theorem dX6_step_75 : decode cX6_step 75 = .ok (.iload_n 1, 1) := by decide +kernel
theorem dX6_step_76 : decode cX6_step 76 = .ok (.invokevirtual 125, 3) := by decide +kernel
theorem dX6_step_79 : decode cX6_step 79 = .ok (.ifCond .eq 7, 3) := by decide +kernel
theorem dX6_step_82 : decode cX6_step 82 = .ok (.iconst 1, 1) := by decide +kernel
theorem dX6_step_83 : decode cX6_step 83 = .ok (.goto 4, 3) := by decide +kernel
theorem dX6_step_86 : decode cX6_step 86 = .ok (.iconst 0, 1) := by decide +kernel
theorem dX6_step_87 : decode cX6_step 87 = .ok (.ireturn, 1) := by decide +kernel
theorem dX6_step_88 : decode cX6_step 88 = .ok (.aload_n 0, 1) := by decide +kernel
theorem dX6_step_89 : decode cX6_step 89 = .ok (.getfield 35, 3) := by decide +kernel
theorem dX6_step_92 : decode cX6_step 92 = .ok (.iload_n 1, 1) := by decide +kernel
theorem dX6_step_93 : decode cX6_step 93 = .ok (.invokevirtual 128, 3) := by decide +kernel
theorem dX6_step_96 : decode cX6_step 96 = .ok (.ireturn, 1) := by decide +kernel
theorem dX6_step_97 : decode cX6_step 97 = .ok (.iconst (-1), 1) := by decide +kernel
theorem dX6_step_98 : decode cX6_step 98 = .ok (.ireturn, 1) := by decide +kernel
theorem dX6_pass_0 : decode cX6_pass 0 = .ok (.iload_n 1, 1) := by decide +kernel
theorem dX6_pass_1 : decode cX6_pass 1 = .ok (.iconst 1, 1) := by decide +kernel
theorem dX6_pass_2 : decode cX6_pass 2 = .ok (.bipush 40, 2) := by decide +kernel
theorem dX6_pass_4 : decode cX6_pass 4 = .ok (.invokestatic 84, 3) := by decide +kernel
theorem dX6_pass_7 : decode cX6_pass 7 = .ok (.ifCond .ne 5, 3) := by decide +kernel
theorem dX6_pass_10 : decode cX6_pass 10 = .ok (.iconst (-1), 1) := by decide +kernel
theorem dX6_pass_11 : decode cX6_pass 11 = .ok (.ireturn, 1) := by decide +kernel
theorem dX6_pass_12 : decode cX6_pass 12 = .ok (.aload_n 0, 1) := by decide +kernel
theorem dX6_pass_13 : decode cX6_pass 13 = .ok (.getfield 35, 3) := by decide +kernel
theorem dX6_pass_16 : decode cX6_pass 16 = .ok (.getfield 131, 3) := by decide +kernel
theorem dX6_pass_19 : decode cX6_pass 19 = .ok (.iload_n 1, 1) := by decide +kernel
theorem dX6_pass_20 : decode cX6_pass 20 = .ok (.iadd, 1) := by decide +kernel
theorem dX6_pass_21 : decode cX6_pass 21 = .ok (.sipush 999, 3) := by decide +kernel
theorem dX6_pass_24 : decode cX6_pass 24 = .ok (.if_icmp .le 6, 3) := by decide +kernel
theorem dX6_pass_27 : decode cX6_pass 27 = .ok (.bipush (-2), 2) := by decide +kernel
theorem dX6_pass_29 : decode cX6_pass 29 = .ok (.ireturn, 1) := by decide +kernel
theorem dX6_pass_30 : decode cX6_pass 30 = .ok (.aload_n 0, 1) := by decide +kernel
theorem dX6_pass_31 : decode cX6_pass 31 = .ok (.getfield 47, 3) := by decide +kernel
theorem dX6_pass_34 : decode cX6_pass 34 = .ok (.aload_n 0, 1) := by decide +kernel
theorem dX6_pass_35 : decode cX6_pass 35 = .ok (.getfield 35, 3) := by decide +kernel
theorem dX6_pass_38 : decode cX6_pass 38 = .ok (.invokevirtual 134, 3) := by decide +kernel
theorem dX6_pass_41 : decode cX6_pass 41 = .ok (.aload_n 0, 1) := by decide +kernel
theorem dX6_pass_42 : decode cX6_pass 42 = .ok (.getfield 35, 3) := by decide +kernel
theorem dX6_pass_45 : decode cX6_pass 45 = .ok (.iload_n 1, 1) := by decide +kernel
theorem dX6_pass_46 : decode cX6_pass 46 = .ok (.invokevirtual 138, 3) := by decide +kernel
theorem dX6_pass_49 : decode cX6_pass 49 = .ok (.aload_n 0, 1) := by decide +kernel
theorem dX6_pass_50 : decode cX6_pass 50 = .ok (.getfield 35, 3) := by decide +kernel
theorem dX6_pass_53 : decode cX6_pass 53 = .ok (.getfield 131, 3) := by decide +kernel
theorem dX6_pass_56 : decode cX6_pass 56 = .ok (.ireturn, 1) := by decide +kernel
theorem dX6_wax_0 : decode cX6_wax 0 = .ok (.aload_n 0, 1) := by decide +kernel
theorem dX6_wax_1 : decode cX6_wax 1 = .ok (.getfield 26, 3) := by decide +kernel
theorem dX6_wax_4 : decode cX6_wax 4 = .ok (.iload_n 1, 1) := by decide +kernel
theorem dX6_wax_5 : decode cX6_wax 5 = .ok (.invokevirtual 116, 3) := by decide +kernel
theorem dX6_wax_8 : decode cX6_wax 8 = .ok (.ifCond .ne 5, 3) := by decide +kernel
theorem dX6_wax_11 : decode cX6_wax 11 = .ok (.iconst (-1), 1) := by decide +kernel
theorem dX6_wax_12 : decode cX6_wax 12 = .ok (.ireturn, 1) := by decide +kernel
theorem dX6_wax_13 : decode cX6_wax 13 = .ok (.aload_n 0, 1) := by decide +kernel
theorem dX6_wax_14 : decode cX6_wax 14 = .ok (.getfield 35, 3) := by decide +kernel
theorem dX6_wax_17 : decode cX6_wax 17 = .ok (.getfield 119, 3) := by decide +kernel
theorem dX6_wax_20 : decode cX6_wax 20 = .ok (.iload_n 1, 1) := by decide +kernel
theorem dX6_wax_21 : decode cX6_wax 21 = .ok (.iaload, 1) := by decide +kernel
theorem dX6_wax_22 : decode cX6_wax 22 = .ok (.bipush 9, 2) := by decide +kernel
theorem dX6_wax_24 : decode cX6_wax 24 = .ok (.if_icmp .ge 14, 3) := by decide +kernel
theorem dX6_wax_27 : decode cX6_wax 27 = .ok (.aload_n 0, 1) := by decide +kernel
theorem dX6_wax_28 : decode cX6_wax 28 = .ok (.getfield 35, 3) := by decide +kernel
theorem dX6_wax_31 : decode cX6_wax 31 = .ok (.getfield 142, 3) := by decide +kernel
theorem dX6_wax_34 : decode cX6_wax 34 = .ok (.iconst 1, 1) := by decide +kernel
theorem dX6_wax_35 : decode cX6_wax 35 = .ok (.if_icmp .ge 6, 3) := by decide +kernel
theorem dX6_wax_38 : decode cX6_wax 38 = .ok (.bipush (-2), 2) := by decide +kernel
theorem dX6_wax_40 : decode cX6_wax 40 = .ok (.ireturn, 1) := by decide +kernel
theorem dX6_wax_41 : decode cX6_wax 41 = .ok (.aload_n 0, 1) := by decide +kernel
theorem dX6_wax_42 : decode cX6_wax 42 = .ok (.getfield 47, 3) := by decide +kernel
theorem dX6_wax_45 : decode cX6_wax 45 = .ok (.aload_n 0, 1) := by decide +kernel
theorem dX6_wax_46 : decode cX6_wax 46 = .ok (.getfield 35, 3) := by decide +kernel
theorem dX6_wax_49 : decode cX6_wax 49 = .ok (.invokevirtual 134, 3) := by decide +kernel
theorem dX6_wax_52 : decode cX6_wax 52 = .ok (.aload_n 0, 1) := by decide +kernel
theorem dX6_wax_53 : decode cX6_wax 53 = .ok (.getfield 35, 3) := by decide +kernel
theorem dX6_wax_56 : decode cX6_wax 56 = .ok (.dup, 1) := by decide +kernel
theorem dX6_wax_57 : decode cX6_wax 57 = .ok (.getfield 142, 3) := by decide +kernel
theorem dX6_wax_60 : decode cX6_wax 60 = .ok (.iconst 1, 1) := by decide +kernel
theorem dX6_wax_61 : decode cX6_wax 61 = .ok (.isub, 1) := by decide +kernel
theorem dX6_wax_62 : decode cX6_wax 62 = .ok (.putfield 142, 3) := by decide +kernel
theorem dX6_wax_65 : decode cX6_wax 65 = .ok (.aload_n 0, 1) := by decide +kernel
theorem dX6_wax_66 : decode cX6_wax 66 = .ok (.getfield 35, 3) := by decide +kernel
theorem dX6_wax_69 : decode cX6_wax 69 = .ok (.iload_n 1, 1) := by decide +kernel
theorem dX6_wax_70 : decode cX6_wax 70 = .ok (.iconst 1, 1) := by decide +kernel
theorem dX6_wax_71 : decode cX6_wax 71 = .ok (.invokevirtual 145, 3) := by decide +kernel
theorem dX6_wax_74 : decode cX6_wax 74 = .ok (.aload_n 0, 1) := by decide +kernel
theorem dX6_wax_75 : decode cX6_wax 75 = .ok (.getfield 35, 3) := by decide +kernel
theorem dX6_wax_78 : decode cX6_wax 78 = .ok (.getfield 119, 3) := by decide +kernel
theorem dX6_wax_81 : decode cX6_wax 81 = .ok (.iload_n 1, 1) := by decide +kernel
theorem dX6_wax_82 : decode cX6_wax 82 = .ok (.iaload, 1) := by decide +kernel
theorem dX6_wax_83 : decode cX6_wax 83 = .ok (.ireturn, 1) := by decide +kernel
theorem dX6_sand_0 : decode cX6_sand 0 = .ok (.aload_n 0, 1) := by decide +kernel
theorem dX6_sand_1 : decode cX6_sand 1 = .ok (.getfield 26, 3) := by decide +kernel
theorem dX6_sand_4 : decode cX6_sand 4 = .ok (.iload_n 1, 1) := by decide +kernel
theorem dX6_sand_5 : decode cX6_sand 5 = .ok (.invokevirtual 116, 3) := by decide +kernel
theorem dX6_sand_8 : decode cX6_sand 8 = .ok (.ifCond .ne 5, 3) := by decide +kernel
theorem dX6_sand_11 : decode cX6_sand 11 = .ok (.iconst (-1), 1) := by decide +kernel
theorem dX6_sand_12 : decode cX6_sand 12 = .ok (.ireturn, 1) := by decide +kernel
theorem dX6_sand_13 : decode cX6_sand 13 = .ok (.aload_n 0, 1) := by decide +kernel
theorem dX6_sand_14 : decode cX6_sand 14 = .ok (.getfield 35, 3) := by decide +kernel
theorem dX6_sand_17 : decode cX6_sand 17 = .ok (.getfield 119, 3) := by decide +kernel
theorem dX6_sand_20 : decode cX6_sand 20 = .ok (.iload_n 1, 1) := by decide +kernel
theorem dX6_sand_21 : decode cX6_sand 21 = .ok (.iaload, 1) := by decide +kernel
theorem dX6_sand_22 : decode cX6_sand 22 = .ok (.ifCond .eq 14, 3) := by decide +kernel
theorem dX6_sand_25 : decode cX6_sand 25 = .ok (.aload_n 0, 1) := by decide +kernel
theorem dX6_sand_26 : decode cX6_sand 26 = .ok (.getfield 35, 3) := by decide +kernel
theorem dX6_sand_29 : decode cX6_sand 29 = .ok (.getfield 142, 3) := by decide +kernel
theorem dX6_sand_32 : decode cX6_sand 32 = .ok (.iconst 2, 1) := by decide +kernel
theorem dX6_sand_33 : decode cX6_sand 33 = .ok (.if_icmp .ge 6, 3) := by decide +kernel
theorem dX6_sand_36 : decode cX6_sand 36 = .ok (.bipush (-2), 2) := by decide +kernel
theorem dX6_sand_38 : decode cX6_sand 38 = .ok (.ireturn, 1) := by decide +kernel
theorem dX6_sand_39 : decode cX6_sand 39 = .ok (.aload_n 0, 1) := by decide +kernel
theorem dX6_sand_40 : decode cX6_sand 40 = .ok (.getfield 47, 3) := by decide +kernel
theorem dX6_sand_43 : decode cX6_sand 43 = .ok (.aload_n 0, 1) := by decide +kernel
theorem dX6_sand_44 : decode cX6_sand 44 = .ok (.getfield 35, 3) := by decide +kernel
theorem dX6_sand_47 : decode cX6_sand 47 = .ok (.invokevirtual 134, 3) := by decide +kernel
theorem dX6_sand_50 : decode cX6_sand 50 = .ok (.aload_n 0, 1) := by decide +kernel
theorem dX6_sand_51 : decode cX6_sand 51 = .ok (.getfield 35, 3) := by decide +kernel
theorem dX6_sand_54 : decode cX6_sand 54 = .ok (.dup, 1) := by decide +kernel
theorem dX6_sand_55 : decode cX6_sand 55 = .ok (.getfield 142, 3) := by decide +kernel
theorem dX6_sand_58 : decode cX6_sand 58 = .ok (.iconst 2, 1) := by decide +kernel
theorem dX6_sand_59 : decode cX6_sand 59 = .ok (.isub, 1) := by decide +kernel
theorem dX6_sand_60 : decode cX6_sand 60 = .ok (.putfield 142, 3) := by decide +kernel
theorem dX6_sand_63 : decode cX6_sand 63 = .ok (.aload_n 0, 1) := by decide +kernel
theorem dX6_sand_64 : decode cX6_sand 64 = .ok (.getfield 35, 3) := by decide +kernel
theorem dX6_sand_67 : decode cX6_sand 67 = .ok (.iload_n 1, 1) := by decide +kernel
theorem dX6_sand_68 : decode cX6_sand 68 = .ok (.bipush (-2), 2) := by decide +kernel
theorem dX6_sand_70 : decode cX6_sand 70 = .ok (.invokevirtual 145, 3) := by decide +kernel
theorem dX6_sand_73 : decode cX6_sand 73 = .ok (.aload_n 0, 1) := by decide +kernel
theorem dX6_sand_74 : decode cX6_sand 74 = .ok (.getfield 35, 3) := by decide +kernel
theorem dX6_sand_77 : decode cX6_sand 77 = .ok (.getfield 119, 3) := by decide +kernel
theorem dX6_sand_80 : decode cX6_sand 80 = .ok (.iload_n 1, 1) := by decide +kernel
theorem dX6_sand_81 : decode cX6_sand 81 = .ok (.iaload, 1) := by decide +kernel
theorem dX6_sand_82 : decode cX6_sand 82 = .ok (.ireturn, 1) := by decide +kernel
theorem dX6_help_0 : decode cX6_help 0 = .ok (.aload_n 0, 1) := by decide +kernel
theorem dX6_help_1 : decode cX6_help 1 = .ok (.getfield 26, 3) := by decide +kernel
theorem dX6_help_4 : decode cX6_help 4 = .ok (.iload_n 1, 1) := by decide +kernel
theorem dX6_help_5 : decode cX6_help 5 = .ok (.invokevirtual 95, 3) := by decide +kernel
theorem dX6_help_8 : decode cX6_help 8 = .ok (.ifCond .ne 5, 3) := by decide +kernel
theorem dX6_help_11 : decode cX6_help 11 = .ok (.iconst (-1), 1) := by decide +kernel
theorem dX6_help_12 : decode cX6_help 12 = .ok (.ireturn, 1) := by decide +kernel
theorem dX6_help_13 : decode cX6_help 13 = .ok (.aload_n 0, 1) := by decide +kernel
theorem dX6_help_14 : decode cX6_help 14 = .ok (.getfield 35, 3) := by decide +kernel
theorem dX6_help_17 : decode cX6_help 17 = .ok (.getfield 103, 3) := by decide +kernel
theorem dX6_help_20 : decode cX6_help 20 = .ok (.iload_n 1, 1) := by decide +kernel
theorem dX6_help_21 : decode cX6_help 21 = .ok (.iaload, 1) := by decide +kernel
theorem dX6_help_22 : decode cX6_help 22 = .ok (.istore_n 2, 1) := by decide +kernel
theorem dX6_help_23 : decode cX6_help 23 = .ok (.iload_n 2, 1) := by decide +kernel
theorem dX6_help_24 : decode cX6_help 24 = .ok (.ifCond .ne 6, 3) := by decide +kernel
theorem dX6_help_27 : decode cX6_help 27 = .ok (.bipush (-2), 2) := by decide +kernel
theorem dX6_help_29 : decode cX6_help 29 = .ok (.ireturn, 1) := by decide +kernel
theorem dX6_help_30 : decode cX6_help 30 = .ok (.aload_n 0, 1) := by decide +kernel
theorem dX6_help_31 : decode cX6_help 31 = .ok (.getfield 47, 3) := by decide +kernel
theorem dX6_help_34 : decode cX6_help 34 = .ok (.aload_n 0, 1) := by decide +kernel
theorem dX6_help_35 : decode cX6_help 35 = .ok (.getfield 35, 3) := by decide +kernel
theorem dX6_help_38 : decode cX6_help 38 = .ok (.invokevirtual 134, 3) := by decide +kernel
theorem dX6_help_41 : decode cX6_help 41 = .ok (.aload_n 0, 1) := by decide +kernel
theorem dX6_help_42 : decode cX6_help 42 = .ok (.getfield 35, 3) := by decide +kernel
theorem dX6_help_45 : decode cX6_help 45 = .ok (.getfield 103, 3) := by decide +kernel
theorem dX6_help_48 : decode cX6_help 48 = .ok (.iload_n 1, 1) := by decide +kernel
theorem dX6_help_49 : decode cX6_help 49 = .ok (.iconst 0, 1) := by decide +kernel
theorem dX6_help_50 : decode cX6_help 50 = .ok (.iastore, 1) := by decide +kernel
theorem dX6_help_51 : decode cX6_help 51 = .ok (.iload_n 2, 1) := by decide +kernel
theorem dX6_help_52 : decode cX6_help 52 = .ok (.ireturn, 1) := by decide +kernel
theorem dX6_undo_0 : decode cX6_undo 0 = .ok (.aload_n 0, 1) := by decide +kernel
theorem dX6_undo_1 : decode cX6_undo 1 = .ok (.getfield 47, 3) := by decide +kernel
theorem dX6_undo_4 : decode cX6_undo 4 = .ok (.aload_n 0, 1) := by decide +kernel
theorem dX6_undo_5 : decode cX6_undo 5 = .ok (.getfield 35, 3) := by decide +kernel
theorem dX6_undo_8 : decode cX6_undo 8 = .ok (.invokevirtual 149, 3) := by decide +kernel
theorem dX6_undo_11 : decode cX6_undo 11 = .ok (.ifCond .eq 13, 3) := by decide +kernel
theorem dX6_undo_14 : decode cX6_undo 14 = .ok (.aload_n 0, 1) := by decide +kernel
theorem dX6_undo_15 : decode cX6_undo 15 = .ok (.getfield 47, 3) := by decide +kernel
theorem dX6_undo_18 : decode cX6_undo 18 = .ok (.getfield 153, 3) := by decide +kernel
theorem dX6_undo_21 : decode cX6_undo 21 = .ok (.goto 5, 3) := by decide +kernel
theorem dX6_undo_24 : decode cX6_undo 24 = .ok (.bipush (-2), 2) := by decide +kernel
theorem dX6_undo_26 : decode cX6_undo 26 = .ok (.ireturn, 1) := by decide +kernel
theorem dX6_governs_0 : decode cX6_governs 0 = .ok (.aload_n 0, 1) := by decide +kernel
theorem dX6_governs_1 : decode cX6_governs 1 = .ok (.getfield 35, 3) := by decide +kernel
theorem dX6_governs_4 : decode cX6_governs 4 = .ok (.invokevirtual 156, 3) := by decide +kernel
theorem dX6_governs_7 : decode cX6_governs 7 = .ok (.ireturn, 1) := by decide +kernel
theorem dX6_behind_0 : decode cX6_behind 0 = .ok (.iload_n 1, 1) := by decide +kernel
theorem dX6_behind_1 : decode cX6_behind 1 = .ok (.iconst 0, 1) := by decide +kernel
theorem dX6_behind_2 : decode cX6_behind 2 = .ok (.bipush 40, 2) := by decide +kernel
theorem dX6_behind_4 : decode cX6_behind 4 = .ok (.invokestatic 84, 3) := by decide +kernel
theorem dX6_behind_7 : decode cX6_behind 7 = .ok (.ifCond .eq 23, 3) := by decide +kernel
theorem dX6_behind_10 : decode cX6_behind 10 = .ok (.aload_n 0, 1) := by decide +kernel
theorem dX6_behind_11 : decode cX6_behind 11 = .ok (.getfield 26, 3) := by decide +kernel
theorem dX6_behind_14 : decode cX6_behind 14 = .ok (.iload_n 2, 1) := by decide +kernel
theorem dX6_behind_15 : decode cX6_behind 15 = .ok (.invokevirtual 95, 3) := by decide +kernel
theorem dX6_behind_18 : decode cX6_behind 18 = .ok (.ifCond .eq 12, 3) := by decide +kernel
theorem dX6_behind_21 : decode cX6_behind 21 = .ok (.iload_n 3, 1) := by decide +kernel
theorem dX6_behind_22 : decode cX6_behind 22 = .ok (.iconst 0, 1) := by decide +kernel
theorem dX6_behind_23 : decode cX6_behind 23 = .ok (.iconst 2, 1) := by decide +kernel
theorem dX6_behind_24 : decode cX6_behind 24 = .ok (.invokestatic 84, 3) := by decide +kernel
theorem dX6_behind_27 : decode cX6_behind 27 = .ok (.ifCond .ne 5, 3) := by decide +kernel
theorem dX6_behind_30 : decode cX6_behind 30 = .ok (.iconst (-1), 1) := by decide +kernel
theorem dX6_behind_31 : decode cX6_behind 31 = .ok (.ireturn, 1) := by decide +kernel
theorem dX6_behind_32 : decode cX6_behind 32 = .ok (.aload_n 0, 1) := by decide +kernel
theorem dX6_behind_33 : decode cX6_behind 33 = .ok (.getfield 39, 3) := by decide +kernel
theorem dX6_behind_36 : decode cX6_behind 36 = .ok (.aload_n 0, 1) := by decide +kernel
theorem dX6_behind_37 : decode cX6_behind 37 = .ok (.getfield 35, 3) := by decide +kernel
theorem dX6_behind_40 : decode cX6_behind 40 = .ok (.invokevirtual 159, 3) := by decide +kernel
theorem dX6_behind_43 : decode cX6_behind 43 = .ok (.aload_n 0, 1) := by decide +kernel
theorem dX6_behind_44 : decode cX6_behind 44 = .ok (.getfield 39, 3) := by decide +kernel
theorem dX6_behind_47 : decode cX6_behind 47 = .ok (.iload_n 1, 1) := by decide +kernel
theorem dX6_behind_48 : decode cX6_behind 48 = .ok (.invokevirtual 138, 3) := by decide +kernel
theorem dX6_behind_51 : decode cX6_behind 51 = .ok (.iload_n 3, 1) := by decide +kernel
theorem dX6_behind_52 : decode cX6_behind 52 = .ok (.lookupswitch 46 #[(0, 28), (1, 38)], 28) := by decide +kernel
theorem dX6_behind_80 : decode cX6_behind 80 = .ok (.aload_n 0, 1) := by decide +kernel
theorem dX6_behind_81 : decode cX6_behind 81 = .ok (.getfield 39, 3) := by decide +kernel
theorem dX6_behind_84 : decode cX6_behind 84 = .ok (.getfield 103, 3) := by decide +kernel
theorem dX6_behind_87 : decode cX6_behind 87 = .ok (.iload_n 2, 1) := by decide +kernel
theorem dX6_behind_88 : decode cX6_behind 88 = .ok (.iaload, 1) := by decide +kernel
theorem dX6_behind_89 : decode cX6_behind 89 = .ok (.ireturn, 1) := by decide +kernel
theorem dX6_behind_90 : decode cX6_behind 90 = .ok (.aload_n 0, 1) := by decide +kernel
theorem dX6_behind_91 : decode cX6_behind 91 = .ok (.getfield 39, 3) := by decide +kernel
theorem dX6_behind_94 : decode cX6_behind 94 = .ok (.invokevirtual 156, 3) := by decide +kernel
theorem dX6_behind_97 : decode cX6_behind 97 = .ok (.ireturn, 1) := by decide +kernel
theorem dX6_behind_98 : decode cX6_behind 98 = .ok (.aload_n 0, 1) := by decide +kernel
theorem dX6_behind_99 : decode cX6_behind 99 = .ok (.getfield 39, 3) := by decide +kernel
theorem dX6_behind_102 : decode cX6_behind 102 = .ok (.getfield 109, 3) := by decide +kernel
theorem dX6_behind_105 : decode cX6_behind 105 = .ok (.iload_n 2, 1) := by decide +kernel
theorem dX6_behind_106 : decode cX6_behind 106 = .ok (.iaload, 1) := by decide +kernel
theorem dX6_behind_107 : decode cX6_behind 107 = .ok (.ireturn, 1) := by decide +kernel
theorem dX6_slide_0 : decode cX6_slide 0 = .ok (.aload_n 0, 1) := by decide +kernel
theorem dX6_slide_1 : decode cX6_slide 1 = .ok (.getfield 26, 3) := by decide +kernel
theorem dX6_slide_4 : decode cX6_slide 4 = .ok (.iload_n 1, 1) := by decide +kernel
theorem dX6_slide_5 : decode cX6_slide 5 = .ok (.invokevirtual 95, 3) := by decide +kernel
theorem dX6_slide_8 : decode cX6_slide 8 = .ok (.ifCond .ne 5, 3) := by decide +kernel
theorem dX6_slide_11 : decode cX6_slide 11 = .ok (.iconst (-1), 1) := by decide +kernel
theorem dX6_slide_12 : decode cX6_slide 12 = .ok (.ireturn, 1) := by decide +kernel
theorem dX6_slide_13 : decode cX6_slide 13 = .ok (.aload_n 0, 1) := by decide +kernel
theorem dX6_slide_14 : decode cX6_slide 14 = .ok (.getfield 39, 3) := by decide +kernel
theorem dX6_slide_17 : decode cX6_slide 17 = .ok (.aload_n 0, 1) := by decide +kernel
theorem dX6_slide_18 : decode cX6_slide 18 = .ok (.getfield 35, 3) := by decide +kernel
theorem dX6_slide_21 : decode cX6_slide 21 = .ok (.invokevirtual 159, 3) := by decide +kernel
theorem dX6_slide_24 : decode cX6_slide 24 = .ok (.aload_n 0, 1) := by decide +kernel
theorem dX6_slide_25 : decode cX6_slide 25 = .ok (.getfield 39, 3) := by decide +kernel
theorem dX6_slide_28 : decode cX6_slide 28 = .ok (.invokevirtual 162, 3) := by decide +kernel
theorem dX6_slide_31 : decode cX6_slide 31 = .ok (.aload_n 0, 1) := by decide +kernel
theorem dX6_slide_32 : decode cX6_slide 32 = .ok (.getfield 39, 3) := by decide +kernel
theorem dX6_slide_35 : decode cX6_slide 35 = .ok (.getfield 103, 3) := by decide +kernel
theorem dX6_slide_38 : decode cX6_slide 38 = .ok (.iload_n 1, 1) := by decide +kernel
theorem dX6_slide_39 : decode cX6_slide 39 = .ok (.iaload, 1) := by decide +kernel
theorem dX6_slide_40 : decode cX6_slide 40 = .ok (.ireturn, 1) := by decide +kernel
theorem dX6_top_0 : decode cX6_top 0 = .ok (.aload_n 0, 1) := by decide +kernel
theorem dX6_top_1 : decode cX6_top 1 = .ok (.getfield 26, 3) := by decide +kernel
theorem dX6_top_4 : decode cX6_top 4 = .ok (.iload_n 1, 1) := by decide +kernel
theorem dX6_top_5 : decode cX6_top 5 = .ok (.invokevirtual 95, 3) := by decide +kernel
theorem dX6_top_8 : decode cX6_top 8 = .ok (.ifCond .ne 5, 3) := by decide +kernel
theorem dX6_top_11 : decode cX6_top 11 = .ok (.iconst (-1), 1) := by decide +kernel
theorem dX6_top_12 : decode cX6_top 12 = .ok (.ireturn, 1) := by decide +kernel
theorem dX6_top_13 : decode cX6_top 13 = .ok (.aload_n 0, 1) := by decide +kernel
theorem dX6_top_14 : decode cX6_top 14 = .ok (.getfield 39, 3) := by decide +kernel
theorem dX6_top_17 : decode cX6_top 17 = .ok (.aload_n 0, 1) := by decide +kernel
theorem dX6_top_18 : decode cX6_top 18 = .ok (.getfield 35, 3) := by decide +kernel
theorem dX6_top_21 : decode cX6_top 21 = .ok (.invokevirtual 159, 3) := by decide +kernel
theorem dX6_top_24 : decode cX6_top 24 = .ok (.iconst 0, 1) := by decide +kernel
theorem dX6_top_25 : decode cX6_top 25 = .ok (.istore_n 2, 1) := by decide +kernel
theorem dX6_top_26 : decode cX6_top 26 = .ok (.iload_n 2, 1) := by decide +kernel
theorem dX6_top_27 : decode cX6_top 27 = .ok (.bipush 40, 2) := by decide +kernel
theorem dX6_top_29 : decode cX6_top 29 = .ok (.if_icmp .gt 37, 3) := by decide +kernel
theorem dX6_top_32 : decode cX6_top 32 = .ok (.aload_n 0, 1) := by decide +kernel
theorem dX6_top_33 : decode cX6_top 33 = .ok (.getfield 26, 3) := by decide +kernel
theorem dX6_top_36 : decode cX6_top 36 = .ok (.aload_n 0, 1) := by decide +kernel
theorem dX6_top_37 : decode cX6_top 37 = .ok (.getfield 39, 3) := by decide +kernel
theorem dX6_top_40 : decode cX6_top 40 = .ok (.getfield 103, 3) := by decide +kernel
theorem dX6_top_43 : decode cX6_top 43 = .ok (.iload_n 1, 1) := by decide +kernel
theorem dX6_top_44 : decode cX6_top 44 = .ok (.iaload, 1) := by decide +kernel
theorem dX6_top_45 : decode cX6_top 45 = .ok (.invokevirtual 165, 3) := by decide +kernel
theorem dX6_top_48 : decode cX6_top 48 = .ok (.ifCond .eq 5, 3) := by decide +kernel
theorem dX6_top_51 : decode cX6_top 51 = .ok (.iload_n 2, 1) := by decide +kernel
theorem dX6_top_52 : decode cX6_top 52 = .ok (.ireturn, 1) := by decide +kernel
theorem dX6_top_53 : decode cX6_top 53 = .ok (.aload_n 0, 1) := by decide +kernel
theorem dX6_top_54 : decode cX6_top 54 = .ok (.getfield 39, 3) := by decide +kernel
theorem dX6_top_57 : decode cX6_top 57 = .ok (.invokevirtual 162, 3) := by decide +kernel
theorem dX6_top_60 : decode cX6_top 60 = .ok (.iinc 2 1, 3) := by decide +kernel
theorem dX6_top_63 : decode cX6_top 63 = .ok (.goto (-37), 3) := by decide +kernel
theorem dX6_top_66 : decode cX6_top 66 = .ok (.bipush (-4), 2) := by decide +kernel
theorem dX6_top_68 : decode cX6_top 68 = .ok (.ireturn, 1) := by decide +kernel
theorem dX6_topple_0 : decode cX6_topple 0 = .ok (.aload_n 0, 1) := by decide +kernel
theorem dX6_topple_1 : decode cX6_topple 1 = .ok (.getfield 26, 3) := by decide +kernel
theorem dX6_topple_4 : decode cX6_topple 4 = .ok (.iload_n 1, 1) := by decide +kernel
theorem dX6_topple_5 : decode cX6_topple 5 = .ok (.invokevirtual 95, 3) := by decide +kernel
theorem dX6_topple_8 : decode cX6_topple 8 = .ok (.ifCond .ne 5, 3) := by decide +kernel
theorem dX6_topple_11 : decode cX6_topple 11 = .ok (.iconst (-1), 1) := by decide +kernel
theorem dX6_topple_12 : decode cX6_topple 12 = .ok (.ireturn, 1) := by decide +kernel
theorem dX6_topple_13 : decode cX6_topple 13 = .ok (.aload_n 0, 1) := by decide +kernel
theorem dX6_topple_14 : decode cX6_topple 14 = .ok (.getfield 35, 3) := by decide +kernel
theorem dX6_topple_17 : decode cX6_topple 17 = .ok (.getfield 103, 3) := by decide +kernel
theorem dX6_topple_20 : decode cX6_topple 20 = .ok (.iload_n 1, 1) := by decide +kernel
theorem dX6_topple_21 : decode cX6_topple 21 = .ok (.iaload, 1) := by decide +kernel
theorem dX6_topple_22 : decode cX6_topple 22 = .ok (.istore_n 2, 1) := by decide +kernel
theorem dX6_topple_23 : decode cX6_topple 23 = .ok (.aload_n 0, 1) := by decide +kernel
theorem dX6_topple_24 : decode cX6_topple 24 = .ok (.getfield 26, 3) := by decide +kernel
theorem dX6_topple_27 : decode cX6_topple 27 = .ok (.iload_n 2, 1) := by decide +kernel
theorem dX6_topple_28 : decode cX6_topple 28 = .ok (.invokevirtual 116, 3) := by decide +kernel
theorem dX6_topple_31 : decode cX6_topple 31 = .ok (.ifCond .ne 6, 3) := by decide +kernel
theorem dX6_topple_34 : decode cX6_topple 34 = .ok (.bipush (-4), 2) := by decide +kernel
theorem dX6_topple_36 : decode cX6_topple 36 = .ok (.ireturn, 1) := by decide +kernel
theorem dX6_topple_37 : decode cX6_topple 37 = .ok (.iconst 0, 1) := by decide +kernel
theorem dX6_topple_38 : decode cX6_topple 38 = .ok (.istore_n 3, 1) := by decide +kernel
theorem dX6_topple_39 : decode cX6_topple 39 = .ok (.aload_n 0, 1) := by decide +kernel
theorem dX6_topple_40 : decode cX6_topple 40 = .ok (.getfield 35, 3) := by decide +kernel
theorem dX6_topple_43 : decode cX6_topple 43 = .ok (.getfield 119, 3) := by decide +kernel
theorem dX6_topple_46 : decode cX6_topple 46 = .ok (.iload_n 2, 1) := by decide +kernel
theorem dX6_topple_47 : decode cX6_topple 47 = .ok (.iaload, 1) := by decide +kernel
theorem dX6_topple_48 : decode cX6_topple 48 = .ok (.iload_n 3, 1) := by decide +kernel
theorem dX6_topple_49 : decode cX6_topple 49 = .ok (.iadd, 1) := by decide +kernel
theorem dX6_topple_50 : decode cX6_topple 50 = .ok (.bipush 9, 2) := by decide +kernel
theorem dX6_topple_52 : decode cX6_topple 52 = .ok (.if_icmp .gt 46, 3) := by decide +kernel
theorem dX6_topple_55 : decode cX6_topple 55 = .ok (.aload_n 0, 1) := by decide +kernel
theorem dX6_topple_56 : decode cX6_topple 56 = .ok (.getfield 39, 3) := by decide +kernel
theorem dX6_topple_59 : decode cX6_topple 59 = .ok (.aload_n 0, 1) := by decide +kernel
theorem dX6_topple_60 : decode cX6_topple 60 = .ok (.getfield 35, 3) := by decide +kernel
theorem dX6_topple_63 : decode cX6_topple 63 = .ok (.invokevirtual 159, 3) := by decide +kernel
theorem dX6_topple_66 : decode cX6_topple 66 = .ok (.aload_n 0, 1) := by decide +kernel
theorem dX6_topple_67 : decode cX6_topple 67 = .ok (.getfield 39, 3) := by decide +kernel
theorem dX6_topple_70 : decode cX6_topple 70 = .ok (.getfield 119, 3) := by decide +kernel
theorem dX6_topple_73 : decode cX6_topple 73 = .ok (.iload_n 2, 1) := by decide +kernel
theorem dX6_topple_74 : decode cX6_topple 74 = .ok (.dup2, 1) := by decide +kernel
theorem dX6_topple_75 : decode cX6_topple 75 = .ok (.iaload, 1) := by decide +kernel
theorem dX6_topple_76 : decode cX6_topple 76 = .ok (.iload_n 3, 1) := by decide +kernel
theorem dX6_topple_77 : decode cX6_topple 77 = .ok (.iadd, 1) := by decide +kernel
theorem dX6_topple_78 : decode cX6_topple 78 = .ok (.iastore, 1) := by decide +kernel
theorem dX6_topple_79 : decode cX6_topple 79 = .ok (.aload_n 0, 1) := by decide +kernel
theorem dX6_topple_80 : decode cX6_topple 80 = .ok (.getfield 39, 3) := by decide +kernel
theorem dX6_topple_83 : decode cX6_topple 83 = .ok (.iload_n 1, 1) := by decide +kernel
theorem dX6_topple_84 : decode cX6_topple 84 = .ok (.invokevirtual 168, 3) := by decide +kernel
theorem dX6_topple_87 : decode cX6_topple 87 = .ok (.ifCond .eq 5, 3) := by decide +kernel
theorem dX6_topple_90 : decode cX6_topple 90 = .ok (.iload_n 3, 1) := by decide +kernel
theorem dX6_topple_91 : decode cX6_topple 91 = .ok (.ireturn, 1) := by decide +kernel
theorem dX6_topple_92 : decode cX6_topple 92 = .ok (.iinc 3 1, 3) := by decide +kernel
theorem dX6_topple_95 : decode cX6_topple 95 = .ok (.goto (-56), 3) := by decide +kernel
theorem dX6_topple_98 : decode cX6_topple 98 = .ok (.bipush (-4), 2) := by decide +kernel
theorem dX6_topple_100 : decode cX6_topple 100 = .ok (.ireturn, 1) := by decide +kernel
theorem dX6_plot_0 : decode cX6_plot 0 = .ok (.aload_n 0, 1) := by decide +kernel
theorem dX6_plot_1 : decode cX6_plot 1 = .ok (.getfield 26, 3) := by decide +kernel
theorem dX6_plot_4 : decode cX6_plot 4 = .ok (.iload_n 1, 1) := by decide +kernel
theorem dX6_plot_5 : decode cX6_plot 5 = .ok (.invokevirtual 95, 3) := by decide +kernel
theorem dX6_plot_8 : decode cX6_plot 8 = .ok (.ifCond .eq 22, 3) := by decide +kernel
theorem dX6_plot_11 : decode cX6_plot 11 = .ok (.iload_n 2, 1) := by decide +kernel
theorem dX6_plot_12 : decode cX6_plot 12 = .ok (.iconst 1, 1) := by decide +kernel
theorem dX6_plot_13 : decode cX6_plot 13 = .ok (.bipush 9, 2) := by decide +kernel
theorem dX6_plot_15 : decode cX6_plot 15 = .ok (.invokestatic 84, 3) := by decide +kernel
theorem dX6_plot_18 : decode cX6_plot 18 = .ok (.ifCond .eq 12, 3) := by decide +kernel
theorem dX6_plot_21 : decode cX6_plot 21 = .ok (.iload_n 3, 1) := by decide +kernel
theorem dX6_plot_22 : decode cX6_plot 22 = .ok (.iconst 0, 1) := by decide +kernel
theorem dX6_plot_23 : decode cX6_plot 23 = .ok (.iconst 1, 1) := by decide +kernel
theorem dX6_plot_24 : decode cX6_plot 24 = .ok (.invokestatic 84, 3) := by decide +kernel
theorem dX6_plot_27 : decode cX6_plot 27 = .ok (.ifCond .ne 5, 3) := by decide +kernel
theorem dX6_plot_30 : decode cX6_plot 30 = .ok (.iconst (-1), 1) := by decide +kernel
theorem dX6_plot_31 : decode cX6_plot 31 = .ok (.ireturn, 1) := by decide +kernel
theorem dX6_plot_32 : decode cX6_plot 32 = .ok (.aload_n 0, 1) := by decide +kernel
theorem dX6_plot_33 : decode cX6_plot 33 = .ok (.iload_n 1, 1) := by decide +kernel
theorem dX6_plot_34 : decode cX6_plot 34 = .ok (.iload_n 2, 1) := by decide +kernel
theorem dX6_plot_35 : decode cX6_plot 35 = .ok (.iconst 0, 1) := by decide +kernel
theorem dX6_plot_36 : decode cX6_plot 36 = .ok (.iconst 0, 1) := by decide +kernel
theorem dX6_plot_37 : decode cX6_plot 37 = .ok (.invokevirtual 171, 3) := by decide +kernel
theorem dX6_plot_40 : decode cX6_plot 40 = .ok (.ifCond .eq 14, 3) := by decide +kernel
theorem dX6_plot_43 : decode cX6_plot 43 = .ok (.iload_n 3, 1) := by decide +kernel
theorem dX6_plot_44 : decode cX6_plot 44 = .ok (.ifCond .ne 7, 3) := by decide +kernel
theorem dX6_plot_47 : decode cX6_plot 47 = .ok (.iconst 0, 1) := by decide +kernel
theorem dX6_plot_48 : decode cX6_plot 48 = .ok (.goto 5, 3) := by decide +kernel
theorem dX6_plot_51 : decode cX6_plot 51 = .ok (.bipush (-4), 2) := by decide +kernel
theorem dX6_plot_53 : decode cX6_plot 53 = .ok (.ireturn, 1) := by decide +kernel
theorem dX6_plot_54 : decode cX6_plot 54 = .ok (.iconst 1, 1) := by decide +kernel
theorem dX6_plot_55 : decode cX6_plot 55 = .ok (.istore 4, 2) := by decide +kernel
theorem dX6_plot_57 : decode cX6_plot 57 = .ok (.iload 4, 2) := by decide +kernel
theorem dX6_plot_59 : decode cX6_plot 59 = .ok (.bipush 9, 2) := by decide +kernel
theorem dX6_plot_61 : decode cX6_plot 61 = .ok (.if_icmp .gt 55, 3) := by decide +kernel
theorem dX6_plot_64 : decode cX6_plot 64 = .ok (.iconst 0, 1) := by decide +kernel
theorem dX6_plot_65 : decode cX6_plot 65 = .ok (.istore 5, 2) := by decide +kernel
theorem dX6_plot_67 : decode cX6_plot 67 = .ok (.iload 5, 2) := by decide +kernel
theorem dX6_plot_69 : decode cX6_plot 69 = .ok (.aload_n 0, 1) := by decide +kernel
theorem dX6_plot_70 : decode cX6_plot 70 = .ok (.getfield 26, 3) := by decide +kernel
theorem dX6_plot_73 : decode cX6_plot 73 = .ok (.getfield 175, 3) := by decide +kernel
theorem dX6_plot_76 : decode cX6_plot 76 = .ok (.if_icmp .ge 34, 3) := by decide +kernel
theorem dX6_plot_79 : decode cX6_plot 79 = .ok (.aload_n 0, 1) := by decide +kernel
theorem dX6_plot_80 : decode cX6_plot 80 = .ok (.iload_n 1, 1) := by decide +kernel
theorem dX6_plot_81 : decode cX6_plot 81 = .ok (.iload_n 2, 1) := by decide +kernel
theorem dX6_plot_82 : decode cX6_plot 82 = .ok (.iload 5, 2) := by decide +kernel
theorem dX6_plot_84 : decode cX6_plot 84 = .ok (.iload 4, 2) := by decide +kernel
theorem dX6_plot_86 : decode cX6_plot 86 = .ok (.invokevirtual 171, 3) := by decide +kernel
theorem dX6_plot_89 : decode cX6_plot 89 = .ok (.ifCond .eq 15, 3) := by decide +kernel
theorem dX6_plot_92 : decode cX6_plot 92 = .ok (.iload_n 3, 1) := by decide +kernel
theorem dX6_plot_93 : decode cX6_plot 93 = .ok (.ifCond .ne 8, 3) := by decide +kernel
theorem dX6_plot_96 : decode cX6_plot 96 = .ok (.iload 4, 2) := by decide +kernel
theorem dX6_plot_98 : decode cX6_plot 98 = .ok (.goto 5, 3) := by decide +kernel
theorem dX6_plot_101 : decode cX6_plot 101 = .ok (.iload 5, 2) := by decide +kernel
theorem dX6_plot_103 : decode cX6_plot 103 = .ok (.ireturn, 1) := by decide +kernel
theorem dX6_plot_104 : decode cX6_plot 104 = .ok (.iinc 5 1, 3) := by decide +kernel
theorem dX6_plot_107 : decode cX6_plot 107 = .ok (.goto (-40), 3) := by decide +kernel
theorem dX6_plot_110 : decode cX6_plot 110 = .ok (.iinc 4 1, 3) := by decide +kernel
theorem dX6_plot_113 : decode cX6_plot 113 = .ok (.goto (-56), 3) := by decide +kernel
theorem dX6_plot_116 : decode cX6_plot 116 = .ok (.bipush (-4), 2) := by decide +kernel
theorem dX6_plot_118 : decode cX6_plot 118 = .ok (.ireturn, 1) := by decide +kernel
theorem dX6_hold_0 : decode cX6_hold 0 = .ok (.iload_n 1, 1) := by decide +kernel
theorem dX6_hold_1 : decode cX6_hold 1 = .ok (.iconst 1, 1) := by decide +kernel
theorem dX6_hold_2 : decode cX6_hold 2 = .ok (.bipush 9, 2) := by decide +kernel
theorem dX6_hold_4 : decode cX6_hold 4 = .ok (.invokestatic 84, 3) := by decide +kernel
theorem dX6_hold_7 : decode cX6_hold 7 = .ok (.ifCond .eq 12, 3) := by decide +kernel
theorem dX6_hold_10 : decode cX6_hold 10 = .ok (.iload_n 2, 1) := by decide +kernel
theorem dX6_hold_11 : decode cX6_hold 11 = .ok (.iconst 0, 1) := by decide +kernel
theorem dX6_hold_12 : decode cX6_hold 12 = .ok (.iconst 1, 1) := by decide +kernel
theorem dX6_hold_13 : decode cX6_hold 13 = .ok (.invokestatic 84, 3) := by decide +kernel
theorem dX6_hold_16 : decode cX6_hold 16 = .ok (.ifCond .ne 5, 3) := by decide +kernel
theorem dX6_hold_19 : decode cX6_hold 19 = .ok (.iconst (-1), 1) := by decide +kernel
theorem dX6_hold_20 : decode cX6_hold 20 = .ok (.ireturn, 1) := by decide +kernel
theorem dX6_hold_21 : decode cX6_hold 21 = .ok (.aload_n 0, 1) := by decide +kernel
theorem dX6_hold_22 : decode cX6_hold 22 = .ok (.iload_n 1, 1) := by decide +kernel
theorem dX6_hold_23 : decode cX6_hold 23 = .ok (.iconst 0, 1) := by decide +kernel
theorem dX6_hold_24 : decode cX6_hold 24 = .ok (.iconst 0, 1) := by decide +kernel
theorem dX6_hold_25 : decode cX6_hold 25 = .ok (.invokevirtual 178, 3) := by decide +kernel
theorem dX6_hold_28 : decode cX6_hold 28 = .ok (.ifCond .eq 14, 3) := by decide +kernel
theorem dX6_hold_31 : decode cX6_hold 31 = .ok (.iload_n 2, 1) := by decide +kernel
theorem dX6_hold_32 : decode cX6_hold 32 = .ok (.ifCond .ne 7, 3) := by decide +kernel
theorem dX6_hold_35 : decode cX6_hold 35 = .ok (.iconst 0, 1) := by decide +kernel
theorem dX6_hold_36 : decode cX6_hold 36 = .ok (.goto 5, 3) := by decide +kernel
theorem dX6_hold_39 : decode cX6_hold 39 = .ok (.bipush (-4), 2) := by decide +kernel
theorem dX6_hold_41 : decode cX6_hold 41 = .ok (.ireturn, 1) := by decide +kernel
theorem dX6_hold_42 : decode cX6_hold 42 = .ok (.iconst 1, 1) := by decide +kernel
theorem dX6_hold_43 : decode cX6_hold 43 = .ok (.istore_n 3, 1) := by decide +kernel
theorem dX6_hold_44 : decode cX6_hold 44 = .ok (.iload_n 3, 1) := by decide +kernel
theorem dX6_hold_45 : decode cX6_hold 45 = .ok (.iconst 5, 1) := by decide +kernel
theorem dX6_hold_46 : decode cX6_hold 46 = .ok (.if_icmp .gt 52, 3) := by decide +kernel
theorem dX6_hold_49 : decode cX6_hold 49 = .ok (.iconst 0, 1) := by decide +kernel
theorem dX6_hold_50 : decode cX6_hold 50 = .ok (.istore 4, 2) := by decide +kernel
theorem dX6_hold_52 : decode cX6_hold 52 = .ok (.iload 4, 2) := by decide +kernel
theorem dX6_hold_54 : decode cX6_hold 54 = .ok (.aload_n 0, 1) := by decide +kernel
theorem dX6_hold_55 : decode cX6_hold 55 = .ok (.getfield 26, 3) := by decide +kernel
theorem dX6_hold_58 : decode cX6_hold 58 = .ok (.getfield 175, 3) := by decide +kernel
theorem dX6_hold_61 : decode cX6_hold 61 = .ok (.if_icmp .ge 31, 3) := by decide +kernel
theorem dX6_hold_64 : decode cX6_hold 64 = .ok (.aload_n 0, 1) := by decide +kernel
theorem dX6_hold_65 : decode cX6_hold 65 = .ok (.iload_n 1, 1) := by decide +kernel
theorem dX6_hold_66 : decode cX6_hold 66 = .ok (.iload 4, 2) := by decide +kernel
theorem dX6_hold_68 : decode cX6_hold 68 = .ok (.iload_n 3, 1) := by decide +kernel
theorem dX6_hold_69 : decode cX6_hold 69 = .ok (.invokevirtual 178, 3) := by decide +kernel
theorem dX6_hold_72 : decode cX6_hold 72 = .ok (.ifCond .eq 14, 3) := by decide +kernel
theorem dX6_hold_75 : decode cX6_hold 75 = .ok (.iload_n 2, 1) := by decide +kernel
theorem dX6_hold_76 : decode cX6_hold 76 = .ok (.ifCond .ne 7, 3) := by decide +kernel
theorem dX6_hold_79 : decode cX6_hold 79 = .ok (.iload_n 3, 1) := by decide +kernel
theorem dX6_hold_80 : decode cX6_hold 80 = .ok (.goto 5, 3) := by decide +kernel
theorem dX6_hold_83 : decode cX6_hold 83 = .ok (.iload 4, 2) := by decide +kernel
theorem dX6_hold_85 : decode cX6_hold 85 = .ok (.ireturn, 1) := by decide +kernel
theorem dX6_hold_86 : decode cX6_hold 86 = .ok (.iinc 4 1, 3) := by decide +kernel
theorem dX6_hold_89 : decode cX6_hold 89 = .ok (.goto (-37), 3) := by decide +kernel
theorem dX6_hold_92 : decode cX6_hold 92 = .ok (.iinc 3 1, 3) := by decide +kernel
theorem dX6_hold_95 : decode cX6_hold 95 = .ok (.goto (-51), 3) := by decide +kernel
theorem dX6_hold_98 : decode cX6_hold 98 = .ok (.bipush (-4), 2) := by decide +kernel
theorem dX6_hold_100 : decode cX6_hold 100 = .ok (.ireturn, 1) := by decide +kernel
theorem dX6_cabinet_0 : decode cX6_cabinet 0 = .ok (.iload_n 1, 1) := by decide +kernel
theorem dX6_cabinet_1 : decode cX6_cabinet 1 = .ok (.iconst 0, 1) := by decide +kernel
theorem dX6_cabinet_2 : decode cX6_cabinet 2 = .ok (.iconst 1, 1) := by decide +kernel
theorem dX6_cabinet_3 : decode cX6_cabinet 3 = .ok (.invokestatic 84, 3) := by decide +kernel
theorem dX6_cabinet_6 : decode cX6_cabinet 6 = .ok (.ifCond .ne 5, 3) := by decide +kernel
theorem dX6_cabinet_9 : decode cX6_cabinet 9 = .ok (.iconst (-1), 1) := by decide +kernel
theorem dX6_cabinet_10 : decode cX6_cabinet 10 = .ok (.ireturn, 1) := by decide +kernel
theorem dX6_cabinet_11 : decode cX6_cabinet 11 = .ok (.aload_n 0, 1) := by decide +kernel
theorem dX6_cabinet_12 : decode cX6_cabinet 12 = .ok (.invokevirtual 181, 3) := by decide +kernel
theorem dX6_cabinet_15 : decode cX6_cabinet 15 = .ok (.istore_n 2, 1) := by decide +kernel
theorem dX6_cabinet_16 : decode cX6_cabinet 16 = .ok (.iload_n 1, 1) := by decide +kernel
theorem dX6_cabinet_17 : decode cX6_cabinet 17 = .ok (.ifCond .ne 10, 3) := by decide +kernel
theorem dX6_cabinet_20 : decode cX6_cabinet 20 = .ok (.iload_n 2, 1) := by decide +kernel
theorem dX6_cabinet_21 : decode cX6_cabinet 21 = .ok (.invokestatic 184, 3) := by decide +kernel
theorem dX6_cabinet_24 : decode cX6_cabinet 24 = .ok (.goto 4, 3) := by decide +kernel
theorem dX6_cabinet_27 : decode cX6_cabinet 27 = .ok (.iload_n 2, 1) := by decide +kernel
theorem dX6_cabinet_28 : decode cX6_cabinet 28 = .ok (.ireturn, 1) := by decide +kernel
theorem dX6_seen_0 : decode cX6_seen 0 = .ok (.aload_n 0, 1) := by decide +kernel
theorem dX6_seen_1 : decode cX6_seen 1 = .ok (.getfield 26, 3) := by decide +kernel
theorem dX6_seen_4 : decode cX6_seen 4 = .ok (.iload_n 1, 1) := by decide +kernel
theorem dX6_seen_5 : decode cX6_seen 5 = .ok (.invokevirtual 95, 3) := by decide +kernel
theorem dX6_seen_8 : decode cX6_seen 8 = .ok (.ifCond .eq 14, 3) := by decide +kernel
theorem dX6_seen_11 : decode cX6_seen 11 = .ok (.aload_n 0, 1) := by decide +kernel
theorem dX6_seen_12 : decode cX6_seen 12 = .ok (.getfield 26, 3) := by decide +kernel
theorem dX6_seen_15 : decode cX6_seen 15 = .ok (.iload_n 2, 1) := by decide +kernel
theorem dX6_seen_16 : decode cX6_seen 16 = .ok (.invokevirtual 116, 3) := by decide +kernel
theorem dX6_seen_19 : decode cX6_seen 19 = .ok (.ifCond .ne 5, 3) := by decide +kernel
theorem dX6_seen_22 : decode cX6_seen 22 = .ok (.iconst (-1), 1) := by decide +kernel
theorem dX6_seen_23 : decode cX6_seen 23 = .ok (.ireturn, 1) := by decide +kernel
theorem dX6_seen_24 : decode cX6_seen 24 = .ok (.aload_n 0, 1) := by decide +kernel
theorem dX6_seen_25 : decode cX6_seen 25 = .ok (.getfield 57, 3) := by decide +kernel
theorem dX6_seen_28 : decode cX6_seen 28 = .ok (.iload_n 1, 1) := by decide +kernel
theorem dX6_seen_29 : decode cX6_seen 29 = .ok (.iload_n 2, 1) := by decide +kernel
theorem dX6_seen_30 : decode cX6_seen 30 = .ok (.invokevirtual 189, 3) := by decide +kernel
theorem dX6_seen_33 : decode cX6_seen 33 = .ok (.ifCond .eq 13, 3) := by decide +kernel
theorem dX6_seen_36 : decode cX6_seen 36 = .ok (.aload_n 0, 1) := by decide +kernel
theorem dX6_seen_37 : decode cX6_seen 37 = .ok (.getfield 57, 3) := by decide +kernel
theorem dX6_seen_40 : decode cX6_seen 40 = .ok (.getfield 192, 3) := by decide +kernel
theorem dX6_seen_43 : decode cX6_seen 43 = .ok (.goto 5, 3) := by decide +kernel
theorem dX6_seen_46 : decode cX6_seen 46 = .ok (.bipush (-3), 2) := by decide +kernel
theorem dX6_seen_48 : decode cX6_seen 48 = .ok (.ireturn, 1) := by decide +kernel
theorem dX6_forget_0 : decode cX6_forget 0 = .ok (.aload_n 0, 1) := by decide +kernel
theorem dX6_forget_1 : decode cX6_forget 1 = .ok (.getfield 57, 3) := by decide +kernel
theorem dX6_forget_4 : decode cX6_forget 4 = .ok (.getfield 192, 3) := by decide +kernel
theorem dX6_forget_7 : decode cX6_forget 7 = .ok (.istore_n 1, 1) := by decide +kernel
theorem dX6_forget_8 : decode cX6_forget 8 = .ok (.aload_n 0, 1) := by decide +kernel
theorem dX6_forget_9 : decode cX6_forget 9 = .ok (.getfield 57, 3) := by decide +kernel
theorem dX6_forget_12 : decode cX6_forget 12 = .ok (.iconst 0, 1) := by decide +kernel
theorem dX6_forget_13 : decode cX6_forget 13 = .ok (.putfield 192, 3) := by decide +kernel
theorem dX6_forget_16 : decode cX6_forget 16 = .ok (.iload_n 1, 1) := by decide +kernel
theorem dX6_forget_17 : decode cX6_forget 17 = .ok (.ireturn, 1) := by decide +kernel
theorem dX6_waxes_0 : decode cX6_waxes 0 = .ok (.aload_n 0, 1) := by decide +kernel
theorem dX6_waxes_1 : decode cX6_waxes 1 = .ok (.getfield 26, 3) := by decide +kernel
theorem dX6_waxes_4 : decode cX6_waxes 4 = .ok (.iload_n 1, 1) := by decide +kernel
theorem dX6_waxes_5 : decode cX6_waxes 5 = .ok (.invokevirtual 116, 3) := by decide +kernel
theorem dX6_waxes_8 : decode cX6_waxes 8 = .ok (.ifCond .ne 5, 3) := by decide +kernel
theorem dX6_waxes_11 : decode cX6_waxes 11 = .ok (.iconst (-1), 1) := by decide +kernel
theorem dX6_waxes_12 : decode cX6_waxes 12 = .ok (.ireturn, 1) := by decide +kernel
theorem dX6_waxes_13 : decode cX6_waxes 13 = .ok (.iconst 0, 1) := by decide +kernel
theorem dX6_waxes_14 : decode cX6_waxes 14 = .ok (.istore_n 2, 1) := by decide +kernel
theorem dX6_waxes_15 : decode cX6_waxes 15 = .ok (.iconst 0, 1) := by decide +kernel
theorem dX6_waxes_16 : decode cX6_waxes 16 = .ok (.istore_n 3, 1) := by decide +kernel
theorem dX6_waxes_17 : decode cX6_waxes 17 = .ok (.iload_n 3, 1) := by decide +kernel
theorem dX6_waxes_18 : decode cX6_waxes 18 = .ok (.bipush 9, 2) := by decide +kernel
theorem dX6_waxes_20 : decode cX6_waxes 20 = .ok (.if_icmp .gt 38, 3) := by decide +kernel
theorem dX6_waxes_23 : decode cX6_waxes 23 = .ok (.aload_n 0, 1) := by decide +kernel
theorem dX6_waxes_24 : decode cX6_waxes 24 = .ok (.getfield 39, 3) := by decide +kernel
theorem dX6_waxes_27 : decode cX6_waxes 27 = .ok (.aload_n 0, 1) := by decide +kernel
theorem dX6_waxes_28 : decode cX6_waxes 28 = .ok (.getfield 35, 3) := by decide +kernel
theorem dX6_waxes_31 : decode cX6_waxes 31 = .ok (.invokevirtual 159, 3) := by decide +kernel
theorem dX6_waxes_34 : decode cX6_waxes 34 = .ok (.aload_n 0, 1) := by decide +kernel
theorem dX6_waxes_35 : decode cX6_waxes 35 = .ok (.getfield 39, 3) := by decide +kernel
theorem dX6_waxes_38 : decode cX6_waxes 38 = .ok (.getfield 119, 3) := by decide +kernel
theorem dX6_waxes_41 : decode cX6_waxes 41 = .ok (.iload_n 1, 1) := by decide +kernel
theorem dX6_waxes_42 : decode cX6_waxes 42 = .ok (.iload_n 3, 1) := by decide +kernel
theorem dX6_waxes_43 : decode cX6_waxes 43 = .ok (.iastore, 1) := by decide +kernel
theorem dX6_waxes_44 : decode cX6_waxes 44 = .ok (.iload_n 2, 1) := by decide +kernel
theorem dX6_waxes_45 : decode cX6_waxes 45 = .ok (.aload_n 0, 1) := by decide +kernel
theorem dX6_waxes_46 : decode cX6_waxes 46 = .ok (.iload_n 3, 1) := by decide +kernel
theorem dX6_waxes_47 : decode cX6_waxes 47 = .ok (.invokevirtual 193, 3) := by decide +kernel
theorem dX6_waxes_50 : decode cX6_waxes 50 = .ok (.ior, 1) := by decide +kernel
theorem dX6_waxes_51 : decode cX6_waxes 51 = .ok (.istore_n 2, 1) := by decide +kernel
theorem dX6_waxes_52 : decode cX6_waxes 52 = .ok (.iinc 3 1, 3) := by decide +kernel
theorem dX6_waxes_55 : decode cX6_waxes 55 = .ok (.goto (-38), 3) := by decide +kernel
theorem dX6_waxes_58 : decode cX6_waxes 58 = .ok (.iload_n 2, 1) := by decide +kernel
theorem dX6_waxes_59 : decode cX6_waxes 59 = .ok (.ireturn, 1) := by decide +kernel
theorem dX6_grips_0 : decode cX6_grips 0 = .ok (.aload_n 0, 1) := by decide +kernel
theorem dX6_grips_1 : decode cX6_grips 1 = .ok (.getfield 26, 3) := by decide +kernel
theorem dX6_grips_4 : decode cX6_grips 4 = .ok (.iload_n 1, 1) := by decide +kernel
theorem dX6_grips_5 : decode cX6_grips 5 = .ok (.invokevirtual 95, 3) := by decide +kernel
theorem dX6_grips_8 : decode cX6_grips 8 = .ok (.ifCond .ne 5, 3) := by decide +kernel
theorem dX6_grips_11 : decode cX6_grips 11 = .ok (.iconst (-1), 1) := by decide +kernel
theorem dX6_grips_12 : decode cX6_grips 12 = .ok (.ireturn, 1) := by decide +kernel
theorem dX6_grips_13 : decode cX6_grips 13 = .ok (.iconst 0, 1) := by decide +kernel
theorem dX6_grips_14 : decode cX6_grips 14 = .ok (.istore_n 2, 1) := by decide +kernel
theorem dX6_grips_15 : decode cX6_grips 15 = .ok (.iconst 0, 1) := by decide +kernel
theorem dX6_grips_16 : decode cX6_grips 16 = .ok (.istore_n 3, 1) := by decide +kernel
theorem dX6_grips_17 : decode cX6_grips 17 = .ok (.iload_n 3, 1) := by decide +kernel
theorem dX6_grips_18 : decode cX6_grips 18 = .ok (.bipush 9, 2) := by decide +kernel
theorem dX6_grips_20 : decode cX6_grips 20 = .ok (.if_icmp .gt 38, 3) := by decide +kernel
theorem dX6_grips_23 : decode cX6_grips 23 = .ok (.aload_n 0, 1) := by decide +kernel
theorem dX6_grips_24 : decode cX6_grips 24 = .ok (.getfield 39, 3) := by decide +kernel
theorem dX6_grips_27 : decode cX6_grips 27 = .ok (.aload_n 0, 1) := by decide +kernel
theorem dX6_grips_28 : decode cX6_grips 28 = .ok (.getfield 35, 3) := by decide +kernel
theorem dX6_grips_31 : decode cX6_grips 31 = .ok (.invokevirtual 159, 3) := by decide +kernel
theorem dX6_grips_34 : decode cX6_grips 34 = .ok (.aload_n 0, 1) := by decide +kernel
theorem dX6_grips_35 : decode cX6_grips 35 = .ok (.getfield 39, 3) := by decide +kernel
theorem dX6_grips_38 : decode cX6_grips 38 = .ok (.getfield 106, 3) := by decide +kernel
theorem dX6_grips_41 : decode cX6_grips 41 = .ok (.iload_n 1, 1) := by decide +kernel
theorem dX6_grips_42 : decode cX6_grips 42 = .ok (.iload_n 3, 1) := by decide +kernel
theorem dX6_grips_43 : decode cX6_grips 43 = .ok (.iastore, 1) := by decide +kernel
theorem dX6_grips_44 : decode cX6_grips 44 = .ok (.iload_n 2, 1) := by decide +kernel
theorem dX6_grips_45 : decode cX6_grips 45 = .ok (.aload_n 0, 1) := by decide +kernel
theorem dX6_grips_46 : decode cX6_grips 46 = .ok (.iload_n 3, 1) := by decide +kernel
theorem dX6_grips_47 : decode cX6_grips 47 = .ok (.invokevirtual 193, 3) := by decide +kernel
theorem dX6_grips_50 : decode cX6_grips 50 = .ok (.ior, 1) := by decide +kernel
theorem dX6_grips_51 : decode cX6_grips 51 = .ok (.istore_n 2, 1) := by decide +kernel
theorem dX6_grips_52 : decode cX6_grips 52 = .ok (.iinc 3 1, 3) := by decide +kernel
theorem dX6_grips_55 : decode cX6_grips 55 = .ok (.goto (-38), 3) := by decide +kernel
theorem dX6_grips_58 : decode cX6_grips 58 = .ok (.iload_n 2, 1) := by decide +kernel
theorem dX6_grips_59 : decode cX6_grips 59 = .ok (.ireturn, 1) := by decide +kernel
theorem dX6_likely_0 : decode cX6_likely 0 = .ok (.aload_n 0, 1) := by decide +kernel
theorem dX6_likely_1 : decode cX6_likely 1 = .ok (.getfield 26, 3) := by decide +kernel
theorem dX6_likely_4 : decode cX6_likely 4 = .ok (.iload_n 1, 1) := by decide +kernel
theorem dX6_likely_5 : decode cX6_likely 5 = .ok (.invokevirtual 95, 3) := by decide +kernel
theorem dX6_likely_8 : decode cX6_likely 8 = .ok (.ifCond .eq 33, 3) := by decide +kernel
theorem dX6_likely_11 : decode cX6_likely 11 = .ok (.iload_n 2, 1) := by decide +kernel
theorem dX6_likely_12 : decode cX6_likely 12 = .ok (.iconst 0, 1) := by decide +kernel
theorem dX6_likely_13 : decode cX6_likely 13 = .ok (.bipush 6, 2) := by decide +kernel
theorem dX6_likely_15 : decode cX6_likely 15 = .ok (.invokestatic 84, 3) := by decide +kernel
theorem dX6_likely_18 : decode cX6_likely 18 = .ok (.ifCond .eq 23, 3) := by decide +kernel
theorem dX6_likely_21 : decode cX6_likely 21 = .ok (.iload_n 3, 1) := by decide +kernel
theorem dX6_likely_22 : decode cX6_likely 22 = .ok (.iconst 0, 1) := by decide +kernel
theorem dX6_likely_23 : decode cX6_likely 23 = .ok (.bipush 10, 2) := by decide +kernel
theorem dX6_likely_25 : decode cX6_likely 25 = .ok (.invokestatic 84, 3) := by decide +kernel
theorem dX6_likely_28 : decode cX6_likely 28 = .ok (.ifCond .eq 13, 3) := by decide +kernel
theorem dX6_likely_31 : decode cX6_likely 31 = .ok (.iload 4, 2) := by decide +kernel
theorem dX6_likely_33 : decode cX6_likely 33 = .ok (.iconst 0, 1) := by decide +kernel
theorem dX6_likely_34 : decode cX6_likely 34 = .ok (.iconst 1, 1) := by decide +kernel
theorem dX6_likely_35 : decode cX6_likely 35 = .ok (.invokestatic 84, 3) := by decide +kernel
theorem dX6_likely_38 : decode cX6_likely 38 = .ok (.ifCond .ne 5, 3) := by decide +kernel
theorem dX6_likely_41 : decode cX6_likely 41 = .ok (.iconst (-1), 1) := by decide +kernel
theorem dX6_likely_42 : decode cX6_likely 42 = .ok (.ireturn, 1) := by decide +kernel
theorem dX6_likely_43 : decode cX6_likely 43 = .ok (.iconst 0, 1) := by decide +kernel
theorem dX6_likely_44 : decode cX6_likely 44 = .ok (.istore 5, 2) := by decide +kernel
theorem dX6_likely_46 : decode cX6_likely 46 = .ok (.iconst 0, 1) := by decide +kernel
theorem dX6_likely_47 : decode cX6_likely 47 = .ok (.istore 6, 2) := by decide +kernel
theorem dX6_likely_49 : decode cX6_likely 49 = .ok (.iload 6, 2) := by decide +kernel
theorem dX6_likely_51 : decode cX6_likely 51 = .ok (.iconst 1, 1) := by decide +kernel
theorem dX6_likely_52 : decode cX6_likely 52 = .ok (.iload_n 2, 1) := by decide +kernel
theorem dX6_likely_53 : decode cX6_likely 53 = .ok (.ishl, 1) := by decide +kernel
theorem dX6_likely_54 : decode cX6_likely 54 = .ok (.if_icmp .ge 41, 3) := by decide +kernel
theorem dX6_likely_57 : decode cX6_likely 57 = .ok (.iload 6, 2) := by decide +kernel
theorem dX6_likely_59 : decode cX6_likely 59 = .ok (.iload_n 2, 1) := by decide +kernel
theorem dX6_likely_60 : decode cX6_likely 60 = .ok (.iload_n 3, 1) := by decide +kernel
theorem dX6_likely_61 : decode cX6_likely 61 = .ok (.invokestatic 196, 3) := by decide +kernel
theorem dX6_likely_64 : decode cX6_likely 64 = .ok (.istore 7, 2) := by decide +kernel
theorem dX6_likely_66 : decode cX6_likely 66 = .ok (.iload 7, 2) := by decide +kernel
theorem dX6_likely_68 : decode cX6_likely 68 = .ok (.ifCond .le 21, 3) := by decide +kernel
theorem dX6_likely_71 : decode cX6_likely 71 = .ok (.aload_n 0, 1) := by decide +kernel
theorem dX6_likely_72 : decode cX6_likely 72 = .ok (.iload_n 1, 1) := by decide +kernel
theorem dX6_likely_73 : decode cX6_likely 73 = .ok (.iload_n 2, 1) := by decide +kernel
theorem dX6_likely_74 : decode cX6_likely 74 = .ok (.iload 6, 2) := by decide +kernel
theorem dX6_likely_76 : decode cX6_likely 76 = .ok (.invokevirtual 200, 3) := by decide +kernel
theorem dX6_likely_79 : decode cX6_likely 79 = .ok (.ifCond .eq 10, 3) := by decide +kernel
theorem dX6_likely_82 : decode cX6_likely 82 = .ok (.iload 5, 2) := by decide +kernel
theorem dX6_likely_84 : decode cX6_likely 84 = .ok (.iload 7, 2) := by decide +kernel
theorem dX6_likely_86 : decode cX6_likely 86 = .ok (.iadd, 1) := by decide +kernel
theorem dX6_likely_87 : decode cX6_likely 87 = .ok (.istore 5, 2) := by decide +kernel
theorem dX6_likely_89 : decode cX6_likely 89 = .ok (.iinc 6 1, 3) := by decide +kernel
theorem dX6_likely_92 : decode cX6_likely 92 = .ok (.goto (-43), 3) := by decide +kernel
theorem dX6_likely_95 : decode cX6_likely 95 = .ok (.bipush 10, 2) := by decide +kernel
theorem dX6_likely_97 : decode cX6_likely 97 = .ok (.iload_n 2, 1) := by decide +kernel
theorem dX6_likely_98 : decode cX6_likely 98 = .ok (.invokestatic 203, 3) := by decide +kernel
theorem dX6_likely_101 : decode cX6_likely 101 = .ok (.istore 6, 2) := by decide +kernel
theorem dX6_likely_103 : decode cX6_likely 103 = .ok (.iload 5, 2) := by decide +kernel
theorem dX6_likely_105 : decode cX6_likely 105 = .ok (.iload 6, 2) := by decide +kernel
theorem dX6_likely_107 : decode cX6_likely 107 = .ok (.invokestatic 207, 3) := by decide +kernel
theorem dX6_likely_110 : decode cX6_likely 110 = .ok (.istore 7, 2) := by decide +kernel
theorem dX6_likely_112 : decode cX6_likely 112 = .ok (.iload 4, 2) := by decide +kernel
theorem dX6_likely_114 : decode cX6_likely 114 = .ok (.ifCond .ne 8, 3) := by decide +kernel
theorem dX6_likely_117 : decode cX6_likely 117 = .ok (.iload 5, 2) := by decide +kernel
theorem dX6_likely_119 : decode cX6_likely 119 = .ok (.goto 5, 3) := by decide +kernel
theorem dX6_likely_122 : decode cX6_likely 122 = .ok (.iload 6, 2) := by decide +kernel
theorem dX6_likely_124 : decode cX6_likely 124 = .ok (.iload 7, 2) := by decide +kernel
theorem dX6_likely_126 : decode cX6_likely 126 = .ok (.idiv, 1) := by decide +kernel
theorem dX6_likely_127 : decode cX6_likely 127 = .ok (.ireturn, 1) := by decide +kernel
theorem dX6_century_0 : decode cX6_century 0 = .ok (.iload_n 1, 1) := by decide +kernel
theorem dX6_century_1 : decode cX6_century 1 = .ok (.iconst 0, 1) := by decide +kernel
theorem dX6_century_2 : decode cX6_century 2 = .ok (.sipush 9999, 3) := by decide +kernel
theorem dX6_century_5 : decode cX6_century 5 = .ok (.invokestatic 84, 3) := by decide +kernel
theorem dX6_century_8 : decode cX6_century 8 = .ok (.ifCond .eq 22, 3) := by decide +kernel
theorem dX6_century_11 : decode cX6_century 11 = .ok (.iload_n 2, 1) := by decide +kernel
theorem dX6_century_12 : decode cX6_century 12 = .ok (.iconst 1, 1) := by decide +kernel
theorem dX6_century_13 : decode cX6_century 13 = .ok (.bipush 60, 2) := by decide +kernel
theorem dX6_century_15 : decode cX6_century 15 = .ok (.invokestatic 84, 3) := by decide +kernel
theorem dX6_century_18 : decode cX6_century 18 = .ok (.ifCond .eq 12, 3) := by decide +kernel
theorem dX6_century_21 : decode cX6_century 21 = .ok (.iload_n 3, 1) := by decide +kernel
theorem dX6_century_22 : decode cX6_century 22 = .ok (.iconst 0, 1) := by decide +kernel
theorem dX6_century_23 : decode cX6_century 23 = .ok (.iconst 1, 1) := by decide +kernel
theorem dX6_century_24 : decode cX6_century 24 = .ok (.invokestatic 84, 3) := by decide +kernel
theorem dX6_century_27 : decode cX6_century 27 = .ok (.ifCond .ne 5, 3) := by decide +kernel
theorem dX6_century_30 : decode cX6_century 30 = .ok (.iconst (-1), 1) := by decide +kernel
theorem dX6_century_31 : decode cX6_century 31 = .ok (.ireturn, 1) := by decide +kernel
theorem dX6_century_32 : decode cX6_century 32 = .ok (.aload_n 0, 1) := by decide +kernel
theorem dX6_century_33 : decode cX6_century 33 = .ok (.getfield 39, 3) := by decide +kernel
theorem dX6_century_36 : decode cX6_century 36 = .ok (.aload_n 0, 1) := by decide +kernel
theorem dX6_century_37 : decode cX6_century 37 = .ok (.getfield 35, 3) := by decide +kernel
theorem dX6_century_40 : decode cX6_century 40 = .ok (.invokevirtual 159, 3) := by decide +kernel
theorem dX6_century_43 : decode cX6_century 43 = .ok (.aload_n 0, 1) := by decide +kernel
theorem dX6_century_44 : decode cX6_century 44 = .ok (.getfield 39, 3) := by decide +kernel
theorem dX6_century_47 : decode cX6_century 47 = .ok (.invokevirtual 156, 3) := by decide +kernel
theorem dX6_century_50 : decode cX6_century 50 = .ok (.istore 4, 2) := by decide +kernel
theorem dX6_century_52 : decode cX6_century 52 = .ok (.iconst 0, 1) := by decide +kernel
theorem dX6_century_53 : decode cX6_century 53 = .ok (.istore 5, 2) := by decide +kernel
theorem dX6_century_55 : decode cX6_century 55 = .ok (.iconst 0, 1) := by decide +kernel
theorem dX6_century_56 : decode cX6_century 56 = .ok (.istore 6, 2) := by decide +kernel
theorem dX6_century_58 : decode cX6_century 58 = .ok (.iload 6, 2) := by decide +kernel
theorem dX6_century_60 : decode cX6_century 60 = .ok (.iload_n 2, 1) := by decide +kernel
theorem dX6_century_61 : decode cX6_century 61 = .ok (.if_icmp .ge 52, 3) := by decide +kernel
theorem dX6_century_64 : decode cX6_century 64 = .ok (.aload_n 0, 1) := by decide +kernel
theorem dX6_century_65 : decode cX6_century 65 = .ok (.getfield 39, 3) := by decide +kernel
theorem dX6_century_68 : decode cX6_century 68 = .ok (.iload_n 1, 1) := by decide +kernel
theorem dX6_century_69 : decode cX6_century 69 = .ok (.iload 6, 2) := by decide +kernel
theorem dX6_century_71 : decode cX6_century 71 = .ok (.invokestatic 210, 3) := by decide +kernel
theorem dX6_century_74 : decode cX6_century 74 = .ok (.invokevirtual 213, 3) := by decide +kernel
theorem dX6_century_77 : decode cX6_century 77 = .ok (.aload_n 0, 1) := by decide +kernel
theorem dX6_century_78 : decode cX6_century 78 = .ok (.getfield 39, 3) := by decide +kernel
theorem dX6_century_81 : decode cX6_century 81 = .ok (.invokevirtual 162, 3) := by decide +kernel
theorem dX6_century_84 : decode cX6_century 84 = .ok (.aload_n 0, 1) := by decide +kernel
theorem dX6_century_85 : decode cX6_century 85 = .ok (.getfield 39, 3) := by decide +kernel
theorem dX6_century_88 : decode cX6_century 88 = .ok (.invokevirtual 156, 3) := by decide +kernel
theorem dX6_century_91 : decode cX6_century 91 = .ok (.istore 7, 2) := by decide +kernel
theorem dX6_century_93 : decode cX6_century 93 = .ok (.iload 7, 2) := by decide +kernel
theorem dX6_century_95 : decode cX6_century 95 = .ok (.iload 4, 2) := by decide +kernel
theorem dX6_century_97 : decode cX6_century 97 = .ok (.if_icmp .eq 6, 3) := by decide +kernel
theorem dX6_century_100 : decode cX6_century 100 = .ok (.iinc 5 1, 3) := by decide +kernel
theorem dX6_century_103 : decode cX6_century 103 = .ok (.iload 7, 2) := by decide +kernel
theorem dX6_century_105 : decode cX6_century 105 = .ok (.istore 4, 2) := by decide +kernel
theorem dX6_century_107 : decode cX6_century 107 = .ok (.iinc 6 1, 3) := by decide +kernel
theorem dX6_century_110 : decode cX6_century 110 = .ok (.goto (-52), 3) := by decide +kernel
theorem dX6_century_113 : decode cX6_century 113 = .ok (.iload_n 3, 1) := by decide +kernel
theorem dX6_century_114 : decode cX6_century 114 = .ok (.ifCond .ne 8, 3) := by decide +kernel
theorem dX6_century_117 : decode cX6_century 117 = .ok (.iload 4, 2) := by decide +kernel
theorem dX6_century_119 : decode cX6_century 119 = .ok (.goto 5, 3) := by decide +kernel
theorem dX6_century_122 : decode cX6_century 122 = .ok (.iload 5, 2) := by decide +kernel
theorem dX6_century_124 : decode cX6_century 124 = .ok (.ireturn, 1) := by decide +kernel
theorem dX6_keep_0 : decode cX6_keep 0 = .ok (.aload_n 0, 1) := by decide +kernel
theorem dX6_keep_1 : decode cX6_keep 1 = .ok (.getfield 51, 3) := by decide +kernel
theorem dX6_keep_4 : decode cX6_keep 4 = .ok (.invokevirtual 216, 3) := by decide +kernel
theorem dX6_keep_7 : decode cX6_keep 7 = .ok (.ifCond .eq 6, 3) := by decide +kernel
theorem dX6_keep_10 : decode cX6_keep 10 = .ok (.bipush (-3), 2) := by decide +kernel
theorem dX6_keep_12 : decode cX6_keep 12 = .ok (.ireturn, 1) := by decide +kernel
theorem dX6_keep_13 : decode cX6_keep 13 = .ok (.aload_n 0, 1) := by decide +kernel
theorem dX6_keep_14 : decode cX6_keep 14 = .ok (.getfield 51, 3) := by decide +kernel
theorem dX6_keep_17 : decode cX6_keep 17 = .ok (.aload_n 0, 1) := by decide +kernel
theorem dX6_keep_18 : decode cX6_keep 18 = .ok (.getfield 35, 3) := by decide +kernel
theorem dX6_keep_21 : decode cX6_keep 21 = .ok (.invokevirtual 134, 3) := by decide +kernel
theorem dX6_keep_24 : decode cX6_keep 24 = .ok (.aload_n 0, 1) := by decide +kernel
theorem dX6_keep_25 : decode cX6_keep 25 = .ok (.getfield 51, 3) := by decide +kernel
theorem dX6_keep_28 : decode cX6_keep 28 = .ok (.getfield 153, 3) := by decide +kernel
theorem dX6_keep_31 : decode cX6_keep 31 = .ok (.ireturn, 1) := by decide +kernel
theorem dX6_back_0 : decode cX6_back 0 = .ok (.aload_n 0, 1) := by decide +kernel
theorem dX6_back_1 : decode cX6_back 1 = .ok (.getfield 51, 3) := by decide +kernel
theorem dX6_back_4 : decode cX6_back 4 = .ok (.aload_n 0, 1) := by decide +kernel
theorem dX6_back_5 : decode cX6_back 5 = .ok (.getfield 35, 3) := by decide +kernel
theorem dX6_back_8 : decode cX6_back 8 = .ok (.invokevirtual 149, 3) := by decide +kernel
theorem dX6_back_11 : decode cX6_back 11 = .ok (.ifCond .ne 6, 3) := by decide +kernel
theorem dX6_back_14 : decode cX6_back 14 = .ok (.bipush (-2), 2) := by decide +kernel
theorem dX6_back_16 : decode cX6_back 16 = .ok (.ireturn, 1) := by decide +kernel
theorem dX6_back_17 : decode cX6_back 17 = .ok (.aload_n 0, 1) := by decide +kernel
theorem dX6_back_18 : decode cX6_back 18 = .ok (.getfield 47, 3) := by decide +kernel
theorem dX6_back_21 : decode cX6_back 21 = .ok (.iconst 0, 1) := by decide +kernel
theorem dX6_back_22 : decode cX6_back 22 = .ok (.putfield 153, 3) := by decide +kernel
theorem dX6_back_25 : decode cX6_back 25 = .ok (.aload_n 0, 1) := by decide +kernel
theorem dX6_back_26 : decode cX6_back 26 = .ok (.getfield 51, 3) := by decide +kernel
theorem dX6_back_29 : decode cX6_back 29 = .ok (.getfield 153, 3) := by decide +kernel
theorem dX6_back_32 : decode cX6_back 32 = .ok (.ireturn, 1) := by decide +kernel
theorem dX6_count_0 : decode cX6_count 0 = .ok (.iload_n 1, 1) := by decide +kernel
theorem dX6_count_1 : decode cX6_count 1 = .ok (.tableswitch 123 0 8 #[51, 59, 67, 75, 83, 91, 99, 107, 115], 51) := by decide +kernel
theorem dX6_count_52 : decode cX6_count 52 = .ok (.aload_n 0, 1) := by decide +kernel
theorem dX6_count_53 : decode cX6_count 53 = .ok (.getfield 26, 3) := by decide +kernel
theorem dX6_count_56 : decode cX6_count 56 = .ok (.getfield 92, 3) := by decide +kernel
theorem dX6_count_59 : decode cX6_count 59 = .ok (.ireturn, 1) := by decide +kernel
theorem dX6_count_60 : decode cX6_count 60 = .ok (.aload_n 0, 1) := by decide +kernel
theorem dX6_count_61 : decode cX6_count 61 = .ok (.getfield 26, 3) := by decide +kernel
theorem dX6_count_64 : decode cX6_count 64 = .ok (.getfield 175, 3) := by decide +kernel
theorem dX6_count_67 : decode cX6_count 67 = .ok (.ireturn, 1) := by decide +kernel
theorem dX6_count_68 : decode cX6_count 68 = .ok (.aload_n 0, 1) := by decide +kernel
theorem dX6_count_69 : decode cX6_count 69 = .ok (.getfield 35, 3) := by decide +kernel
theorem dX6_count_72 : decode cX6_count 72 = .ok (.getfield 131, 3) := by decide +kernel
theorem dX6_count_75 : decode cX6_count 75 = .ok (.ireturn, 1) := by decide +kernel
theorem dX6_count_76 : decode cX6_count 76 = .ok (.aload_n 0, 1) := by decide +kernel
theorem dX6_count_77 : decode cX6_count 77 = .ok (.getfield 35, 3) := by decide +kernel
theorem dX6_count_80 : decode cX6_count 80 = .ok (.getfield 142, 3) := by decide +kernel
theorem dX6_count_83 : decode cX6_count 83 = .ok (.ireturn, 1) := by decide +kernel
theorem dX6_count_84 : decode cX6_count 84 = .ok (.aload_n 0, 1) := by decide +kernel
theorem dX6_count_85 : decode cX6_count 85 = .ok (.getfield 35, 3) := by decide +kernel
theorem dX6_count_88 : decode cX6_count 88 = .ok (.invokevirtual 219, 3) := by decide +kernel
theorem dX6_count_91 : decode cX6_count 91 = .ok (.ireturn, 1) := by decide +kernel
theorem dX6_count_92 : decode cX6_count 92 = .ok (.aload_n 0, 1) := by decide +kernel
theorem dX6_count_93 : decode cX6_count 93 = .ok (.getfield 57, 3) := by decide +kernel
theorem dX6_count_96 : decode cX6_count 96 = .ok (.getfield 192, 3) := by decide +kernel
theorem dX6_count_99 : decode cX6_count 99 = .ok (.ireturn, 1) := by decide +kernel
theorem dX6_count_100 : decode cX6_count 100 = .ok (.aload_n 0, 1) := by decide +kernel
theorem dX6_count_101 : decode cX6_count 101 = .ok (.getfield 47, 3) := by decide +kernel
theorem dX6_count_104 : decode cX6_count 104 = .ok (.getfield 153, 3) := by decide +kernel
theorem dX6_count_107 : decode cX6_count 107 = .ok (.ireturn, 1) := by decide +kernel
theorem dX6_count_108 : decode cX6_count 108 = .ok (.aload_n 0, 1) := by decide +kernel
theorem dX6_count_109 : decode cX6_count 109 = .ok (.getfield 51, 3) := by decide +kernel
theorem dX6_count_112 : decode cX6_count 112 = .ok (.getfield 153, 3) := by decide +kernel
theorem dX6_count_115 : decode cX6_count 115 = .ok (.ireturn, 1) := by decide +kernel
theorem dX6_count_116 : decode cX6_count 116 = .ok (.aload_n 0, 1) := by decide +kernel
theorem dX6_count_117 : decode cX6_count 117 = .ok (.getfield 10, 3) := by decide +kernel
theorem dX6_count_120 : decode cX6_count 120 = .ok (.getfield 81, 3) := by decide +kernel
theorem dX6_count_123 : decode cX6_count 123 = .ok (.ireturn, 1) := by decide +kernel
theorem dX6_count_124 : decode cX6_count 124 = .ok (.iconst (-1), 1) := by decide +kernel
theorem dX6_count_125 : decode cX6_count 125 = .ok (.ireturn, 1) := by decide +kernel
theorem dX6_layOut_0 : decode cX6_layOut 0 = .ok (.aload_n 0, 1) := by decide +kernel
theorem dX6_layOut_1 : decode cX6_layOut 1 = .ok (.getfield 19, 3) := by decide +kernel
theorem dX6_layOut_4 : decode cX6_layOut 4 = .ok (.aload_n 0, 1) := by decide +kernel
theorem dX6_layOut_5 : decode cX6_layOut 5 = .ok (.getfield 10, 3) := by decide +kernel
theorem dX6_layOut_8 : decode cX6_layOut 8 = .ok (.invokevirtual 88, 3) := by decide +kernel
theorem dX6_layOut_11 : decode cX6_layOut 11 = .ok (.bipush (-4), 2) := by decide +kernel
theorem dX6_layOut_13 : decode cX6_layOut 13 = .ok (.if_icmp .ne 16, 3) := by decide +kernel
theorem dX6_layOut_16 : decode cX6_layOut 16 = .ok (.aload_n 0, 1) := by decide +kernel
theorem dX6_layOut_17 : decode cX6_layOut 17 = .ok (.getfield 19, 3) := by decide +kernel
theorem dX6_layOut_20 : decode cX6_layOut 20 = .ok (.getfield 222, 3) := by decide +kernel
theorem dX6_layOut_23 : decode cX6_layOut 23 = .ok (.getfield 92, 3) := by decide +kernel
theorem dX6_layOut_26 : decode cX6_layOut 26 = .ok (.ifCond .ne 5, 3) := by decide +kernel
theorem dX6_layOut_29 : decode cX6_layOut 29 = .ok (.iconst 0, 1) := by decide +kernel
theorem dX6_layOut_30 : decode cX6_layOut 30 = .ok (.ireturn, 1) := by decide +kernel
theorem dX6_layOut_31 : decode cX6_layOut 31 = .ok (.aload_n 0, 1) := by decide +kernel
theorem dX6_layOut_32 : decode cX6_layOut 32 = .ok (.getfield 26, 3) := by decide +kernel
theorem dX6_layOut_35 : decode cX6_layOut 35 = .ok (.aload_n 0, 1) := by decide +kernel
theorem dX6_layOut_36 : decode cX6_layOut 36 = .ok (.getfield 19, 3) := by decide +kernel
theorem dX6_layOut_39 : decode cX6_layOut 39 = .ok (.getfield 222, 3) := by decide +kernel
theorem dX6_layOut_42 : decode cX6_layOut 42 = .ok (.invokevirtual 223, 3) := by decide +kernel
theorem dX6_layOut_45 : decode cX6_layOut 45 = .ok (.aload_n 0, 1) := by decide +kernel
theorem dX6_layOut_46 : decode cX6_layOut 46 = .ok (.getfield 35, 3) := by decide +kernel
theorem dX6_layOut_49 : decode cX6_layOut 49 = .ok (.aload_n 0, 1) := by decide +kernel
theorem dX6_layOut_50 : decode cX6_layOut 50 = .ok (.getfield 19, 3) := by decide +kernel
theorem dX6_layOut_53 : decode cX6_layOut 53 = .ok (.getfield 225, 3) := by decide +kernel
theorem dX6_layOut_56 : decode cX6_layOut 56 = .ok (.invokevirtual 159, 3) := by decide +kernel
theorem dX6_layOut_59 : decode cX6_layOut 59 = .ok (.aload_n 0, 1) := by decide +kernel
theorem dX6_layOut_60 : decode cX6_layOut 60 = .ok (.getfield 57, 3) := by decide +kernel
theorem dX6_layOut_63 : decode cX6_layOut 63 = .ok (.iconst 0, 1) := by decide +kernel
theorem dX6_layOut_64 : decode cX6_layOut 64 = .ok (.putfield 192, 3) := by decide +kernel
theorem dX6_layOut_67 : decode cX6_layOut 67 = .ok (.aload_n 0, 1) := by decide +kernel
theorem dX6_layOut_68 : decode cX6_layOut 68 = .ok (.getfield 47, 3) := by decide +kernel
theorem dX6_layOut_71 : decode cX6_layOut 71 = .ok (.iconst 0, 1) := by decide +kernel
theorem dX6_layOut_72 : decode cX6_layOut 72 = .ok (.putfield 153, 3) := by decide +kernel
theorem dX6_layOut_75 : decode cX6_layOut 75 = .ok (.aload_n 0, 1) := by decide +kernel
theorem dX6_layOut_76 : decode cX6_layOut 76 = .ok (.getfield 51, 3) := by decide +kernel
theorem dX6_layOut_79 : decode cX6_layOut 79 = .ok (.iconst 0, 1) := by decide +kernel
theorem dX6_layOut_80 : decode cX6_layOut 80 = .ok (.putfield 153, 3) := by decide +kernel
theorem dX6_layOut_83 : decode cX6_layOut 83 = .ok (.iconst 1, 1) := by decide +kernel
theorem dX6_layOut_84 : decode cX6_layOut 84 = .ok (.ireturn, 1) := by decide +kernel
theorem dX6_governsByWax_0 : decode cX6_governsByWax 0 = .ok (.aload_n 0, 1) := by decide +kernel
theorem dX6_governsByWax_1 : decode cX6_governsByWax 1 = .ok (.getfield 26, 3) := by decide +kernel
theorem dX6_governsByWax_4 : decode cX6_governsByWax 4 = .ok (.iload_n 3, 1) := by decide +kernel
theorem dX6_governsByWax_5 : decode cX6_governsByWax 5 = .ok (.invokevirtual 116, 3) := by decide +kernel
theorem dX6_governsByWax_8 : decode cX6_governsByWax 8 = .ok (.ifCond .eq 20, 3) := by decide +kernel
theorem dX6_governsByWax_11 : decode cX6_governsByWax 11 = .ok (.aload_n 0, 1) := by decide +kernel
theorem dX6_governsByWax_12 : decode cX6_governsByWax 12 = .ok (.getfield 35, 3) := by decide +kernel
theorem dX6_governsByWax_15 : decode cX6_governsByWax 15 = .ok (.getfield 119, 3) := by decide +kernel
theorem dX6_governsByWax_18 : decode cX6_governsByWax 18 = .ok (.iload_n 3, 1) := by decide +kernel
theorem dX6_governsByWax_19 : decode cX6_governsByWax 19 = .ok (.iaload, 1) := by decide +kernel
theorem dX6_governsByWax_20 : decode cX6_governsByWax 20 = .ok (.iload 4, 2) := by decide +kernel
theorem dX6_governsByWax_22 : decode cX6_governsByWax 22 = .ok (.iadd, 1) := by decide +kernel
theorem dX6_governsByWax_23 : decode cX6_governsByWax 23 = .ok (.bipush 9, 2) := by decide +kernel
theorem dX6_governsByWax_25 : decode cX6_governsByWax 25 = .ok (.if_icmp .le 5, 3) := by decide +kernel
theorem dX6_governsByWax_28 : decode cX6_governsByWax 28 = .ok (.iconst 0, 1) := by decide +kernel
theorem dX6_governsByWax_29 : decode cX6_governsByWax 29 = .ok (.ireturn, 1) := by decide +kernel
theorem dX6_governsByWax_30 : decode cX6_governsByWax 30 = .ok (.aload_n 0, 1) := by decide +kernel
theorem dX6_governsByWax_31 : decode cX6_governsByWax 31 = .ok (.getfield 39, 3) := by decide +kernel
theorem dX6_governsByWax_34 : decode cX6_governsByWax 34 = .ok (.aload_n 0, 1) := by decide +kernel
theorem dX6_governsByWax_35 : decode cX6_governsByWax 35 = .ok (.getfield 35, 3) := by decide +kernel
theorem dX6_governsByWax_38 : decode cX6_governsByWax 38 = .ok (.invokevirtual 159, 3) := by decide +kernel
theorem dX6_governsByWax_41 : decode cX6_governsByWax 41 = .ok (.aload_n 0, 1) := by decide +kernel
theorem dX6_governsByWax_42 : decode cX6_governsByWax 42 = .ok (.getfield 39, 3) := by decide +kernel
theorem dX6_governsByWax_45 : decode cX6_governsByWax 45 = .ok (.getfield 119, 3) := by decide +kernel
theorem dX6_governsByWax_48 : decode cX6_governsByWax 48 = .ok (.iload_n 3, 1) := by decide +kernel
theorem dX6_governsByWax_49 : decode cX6_governsByWax 49 = .ok (.dup2, 1) := by decide +kernel
theorem dX6_governsByWax_50 : decode cX6_governsByWax 50 = .ok (.iaload, 1) := by decide +kernel
theorem dX6_governsByWax_51 : decode cX6_governsByWax 51 = .ok (.iload 4, 2) := by decide +kernel
theorem dX6_governsByWax_53 : decode cX6_governsByWax 53 = .ok (.iadd, 1) := by decide +kernel
theorem dX6_governsByWax_54 : decode cX6_governsByWax 54 = .ok (.iastore, 1) := by decide +kernel
theorem dX6_governsByWax_55 : decode cX6_governsByWax 55 = .ok (.aload_n 0, 1) := by decide +kernel
theorem dX6_governsByWax_56 : decode cX6_governsByWax 56 = .ok (.getfield 39, 3) := by decide +kernel
theorem dX6_governsByWax_59 : decode cX6_governsByWax 59 = .ok (.iload_n 2, 1) := by decide +kernel
theorem dX6_governsByWax_60 : decode cX6_governsByWax 60 = .ok (.invokevirtual 138, 3) := by decide +kernel
theorem dX6_governsByWax_63 : decode cX6_governsByWax 63 = .ok (.aload_n 0, 1) := by decide +kernel
theorem dX6_governsByWax_64 : decode cX6_governsByWax 64 = .ok (.getfield 39, 3) := by decide +kernel
theorem dX6_governsByWax_67 : decode cX6_governsByWax 67 = .ok (.invokevirtual 156, 3) := by decide +kernel
theorem dX6_governsByWax_70 : decode cX6_governsByWax 70 = .ok (.iload_n 1, 1) := by decide +kernel
theorem dX6_governsByWax_71 : decode cX6_governsByWax 71 = .ok (.if_icmp .ne 7, 3) := by decide +kernel
theorem dX6_governsByWax_74 : decode cX6_governsByWax 74 = .ok (.iconst 1, 1) := by decide +kernel
theorem dX6_governsByWax_75 : decode cX6_governsByWax 75 = .ok (.goto 4, 3) := by decide +kernel
theorem dX6_governsByWax_78 : decode cX6_governsByWax 78 = .ok (.iconst 0, 1) := by decide +kernel
theorem dX6_governsByWax_79 : decode cX6_governsByWax 79 = .ok (.ireturn, 1) := by decide +kernel
theorem dX6_holdsBySand_0 : decode cX6_holdsBySand 0 = .ok (.aload_n 0, 1) := by decide +kernel
theorem dX6_holdsBySand_1 : decode cX6_holdsBySand 1 = .ok (.getfield 35, 3) := by decide +kernel
theorem dX6_holdsBySand_4 : decode cX6_holdsBySand 4 = .ok (.invokevirtual 156, 3) := by decide +kernel
theorem dX6_holdsBySand_7 : decode cX6_holdsBySand 7 = .ok (.istore 4, 2) := by decide +kernel
theorem dX6_holdsBySand_9 : decode cX6_holdsBySand 9 = .ok (.aload_n 0, 1) := by decide +kernel
theorem dX6_holdsBySand_10 : decode cX6_holdsBySand 10 = .ok (.getfield 39, 3) := by decide +kernel
theorem dX6_holdsBySand_13 : decode cX6_holdsBySand 13 = .ok (.aload_n 0, 1) := by decide +kernel
theorem dX6_holdsBySand_14 : decode cX6_holdsBySand 14 = .ok (.getfield 35, 3) := by decide +kernel
theorem dX6_holdsBySand_17 : decode cX6_holdsBySand 17 = .ok (.invokevirtual 159, 3) := by decide +kernel
theorem dX6_holdsBySand_20 : decode cX6_holdsBySand 20 = .ok (.aload_n 0, 1) := by decide +kernel
theorem dX6_holdsBySand_21 : decode cX6_holdsBySand 21 = .ok (.getfield 39, 3) := by decide +kernel
theorem dX6_holdsBySand_24 : decode cX6_holdsBySand 24 = .ok (.iload_n 2, 1) := by decide +kernel
theorem dX6_holdsBySand_25 : decode cX6_holdsBySand 25 = .ok (.bipush (-2), 2) := by decide +kernel
theorem dX6_holdsBySand_27 : decode cX6_holdsBySand 27 = .ok (.iload_n 3, 1) := by decide +kernel
theorem dX6_holdsBySand_28 : decode cX6_holdsBySand 28 = .ok (.imul, 1) := by decide +kernel
theorem dX6_holdsBySand_29 : decode cX6_holdsBySand 29 = .ok (.invokevirtual 145, 3) := by decide +kernel
theorem dX6_holdsBySand_32 : decode cX6_holdsBySand 32 = .ok (.iconst 0, 1) := by decide +kernel
theorem dX6_holdsBySand_33 : decode cX6_holdsBySand 33 = .ok (.istore 5, 2) := by decide +kernel
theorem dX6_holdsBySand_35 : decode cX6_holdsBySand 35 = .ok (.iload 5, 2) := by decide +kernel
theorem dX6_holdsBySand_37 : decode cX6_holdsBySand 37 = .ok (.iload_n 1, 1) := by decide +kernel
theorem dX6_holdsBySand_38 : decode cX6_holdsBySand 38 = .ok (.if_icmp .ge 30, 3) := by decide +kernel
theorem dX6_holdsBySand_41 : decode cX6_holdsBySand 41 = .ok (.aload_n 0, 1) := by decide +kernel
theorem dX6_holdsBySand_42 : decode cX6_holdsBySand 42 = .ok (.getfield 39, 3) := by decide +kernel
theorem dX6_holdsBySand_45 : decode cX6_holdsBySand 45 = .ok (.invokevirtual 162, 3) := by decide +kernel
theorem dX6_holdsBySand_48 : decode cX6_holdsBySand 48 = .ok (.aload_n 0, 1) := by decide +kernel
theorem dX6_holdsBySand_49 : decode cX6_holdsBySand 49 = .ok (.getfield 39, 3) := by decide +kernel
theorem dX6_holdsBySand_52 : decode cX6_holdsBySand 52 = .ok (.invokevirtual 156, 3) := by decide +kernel
theorem dX6_holdsBySand_55 : decode cX6_holdsBySand 55 = .ok (.iload 4, 2) := by decide +kernel
theorem dX6_holdsBySand_57 : decode cX6_holdsBySand 57 = .ok (.if_icmp .eq 5, 3) := by decide +kernel
theorem dX6_holdsBySand_60 : decode cX6_holdsBySand 60 = .ok (.iconst 0, 1) := by decide +kernel
theorem dX6_holdsBySand_61 : decode cX6_holdsBySand 61 = .ok (.ireturn, 1) := by decide +kernel
theorem dX6_holdsBySand_62 : decode cX6_holdsBySand 62 = .ok (.iinc 5 1, 3) := by decide +kernel
theorem dX6_holdsBySand_65 : decode cX6_holdsBySand 65 = .ok (.goto (-30), 3) := by decide +kernel
theorem dX6_holdsBySand_68 : decode cX6_holdsBySand 68 = .ok (.iconst 1, 1) := by decide +kernel
theorem dX6_holdsBySand_69 : decode cX6_holdsBySand 69 = .ok (.ireturn, 1) := by decide +kernel
theorem dX6_smallestCabinet_0 : decode cX6_smallestCabinet 0 = .ok (.iconst 1, 1) := by decide +kernel
theorem dX6_smallestCabinet_1 : decode cX6_smallestCabinet 1 = .ok (.aload_n 0, 1) := by decide +kernel
theorem dX6_smallestCabinet_2 : decode cX6_smallestCabinet 2 = .ok (.getfield 26, 3) := by decide +kernel
theorem dX6_smallestCabinet_5 : decode cX6_smallestCabinet 5 = .ok (.getfield 92, 3) := by decide +kernel
theorem dX6_smallestCabinet_8 : decode cX6_smallestCabinet 8 = .ok (.ishl, 1) := by decide +kernel
theorem dX6_smallestCabinet_9 : decode cX6_smallestCabinet 9 = .ok (.iconst 1, 1) := by decide +kernel
theorem dX6_smallestCabinet_10 : decode cX6_smallestCabinet 10 = .ok (.isub, 1) := by decide +kernel
theorem dX6_smallestCabinet_11 : decode cX6_smallestCabinet 11 = .ok (.istore_n 1, 1) := by decide +kernel
theorem dX6_smallestCabinet_12 : decode cX6_smallestCabinet 12 = .ok (.aload_n 0, 1) := by decide +kernel
theorem dX6_smallestCabinet_13 : decode cX6_smallestCabinet 13 = .ok (.getfield 35, 3) := by decide +kernel
theorem dX6_smallestCabinet_16 : decode cX6_smallestCabinet 16 = .ok (.iload_n 1, 1) := by decide +kernel
theorem dX6_smallestCabinet_17 : decode cX6_smallestCabinet 17 = .ok (.invokevirtual 228, 3) := by decide +kernel
theorem dX6_smallestCabinet_20 : decode cX6_smallestCabinet 20 = .ok (.istore_n 2, 1) := by decide +kernel
theorem dX6_smallestCabinet_21 : decode cX6_smallestCabinet 21 = .ok (.iload_n 1, 1) := by decide +kernel
theorem dX6_smallestCabinet_22 : decode cX6_smallestCabinet 22 = .ok (.istore_n 3, 1) := by decide +kernel
theorem dX6_smallestCabinet_23 : decode cX6_smallestCabinet 23 = .ok (.iconst 0, 1) := by decide +kernel
theorem dX6_smallestCabinet_24 : decode cX6_smallestCabinet 24 = .ok (.istore 4, 2) := by decide +kernel
theorem dX6_smallestCabinet_26 : decode cX6_smallestCabinet 26 = .ok (.iload 4, 2) := by decide +kernel
theorem dX6_smallestCabinet_28 : decode cX6_smallestCabinet 28 = .ok (.iload_n 1, 1) := by decide +kernel
theorem dX6_smallestCabinet_29 : decode cX6_smallestCabinet 29 = .ok (.if_icmp .ge 39, 3) := by decide +kernel
theorem dX6_smallestCabinet_32 : decode cX6_smallestCabinet 32 = .ok (.iconst 2, 1) := by decide +kernel
theorem dX6_smallestCabinet_33 : decode cX6_smallestCabinet 33 = .ok (.aload_n 0, 1) := by decide +kernel
theorem dX6_smallestCabinet_34 : decode cX6_smallestCabinet 34 = .ok (.getfield 35, 3) := by decide +kernel
theorem dX6_smallestCabinet_37 : decode cX6_smallestCabinet 37 = .ok (.iload 4, 2) := by decide +kernel
theorem dX6_smallestCabinet_39 : decode cX6_smallestCabinet 39 = .ok (.invokevirtual 228, 3) := by decide +kernel
theorem dX6_smallestCabinet_42 : decode cX6_smallestCabinet 42 = .ok (.imul, 1) := by decide +kernel
theorem dX6_smallestCabinet_43 : decode cX6_smallestCabinet 43 = .ok (.iload_n 2, 1) := by decide +kernel
theorem dX6_smallestCabinet_44 : decode cX6_smallestCabinet 44 = .ok (.if_icmp .le 18, 3) := by decide +kernel
theorem dX6_smallestCabinet_47 : decode cX6_smallestCabinet 47 = .ok (.iload 4, 2) := by decide +kernel
theorem dX6_smallestCabinet_49 : decode cX6_smallestCabinet 49 = .ok (.invokestatic 184, 3) := by decide +kernel
theorem dX6_smallestCabinet_52 : decode cX6_smallestCabinet 52 = .ok (.iload_n 3, 1) := by decide +kernel
theorem dX6_smallestCabinet_53 : decode cX6_smallestCabinet 53 = .ok (.invokestatic 184, 3) := by decide +kernel
theorem dX6_smallestCabinet_56 : decode cX6_smallestCabinet 56 = .ok (.if_icmp .ge 6, 3) := by decide +kernel
theorem dX6_smallestCabinet_59 : decode cX6_smallestCabinet 59 = .ok (.iload 4, 2) := by decide +kernel
theorem dX6_smallestCabinet_61 : decode cX6_smallestCabinet 61 = .ok (.istore_n 3, 1) := by decide +kernel
theorem dX6_smallestCabinet_62 : decode cX6_smallestCabinet 62 = .ok (.iinc 4 1, 3) := by decide +kernel
theorem dX6_smallestCabinet_65 : decode cX6_smallestCabinet 65 = .ok (.goto (-39), 3) := by decide +kernel
theorem dX6_smallestCabinet_68 : decode cX6_smallestCabinet 68 = .ok (.iload_n 3, 1) := by decide +kernel
theorem dX6_smallestCabinet_69 : decode cX6_smallestCabinet 69 = .ok (.ireturn, 1) := by decide +kernel
theorem dX6_bitIfSeen_0 : decode cX6_bitIfSeen 0 = .ok (.aload_n 0, 1) := by decide +kernel
theorem dX6_bitIfSeen_1 : decode cX6_bitIfSeen 1 = .ok (.getfield 39, 3) := by decide +kernel
theorem dX6_bitIfSeen_4 : decode cX6_bitIfSeen 4 = .ok (.invokevirtual 162, 3) := by decide +kernel
theorem dX6_bitIfSeen_7 : decode cX6_bitIfSeen 7 = .ok (.aload_n 0, 1) := by decide +kernel
theorem dX6_bitIfSeen_8 : decode cX6_bitIfSeen 8 = .ok (.getfield 57, 3) := by decide +kernel
theorem dX6_bitIfSeen_11 : decode cX6_bitIfSeen 11 = .ok (.aload_n 0, 1) := by decide +kernel
theorem dX6_bitIfSeen_12 : decode cX6_bitIfSeen 12 = .ok (.getfield 39, 3) := by decide +kernel
theorem dX6_bitIfSeen_15 : decode cX6_bitIfSeen 15 = .ok (.invokevirtual 231, 3) := by decide +kernel
theorem dX6_bitIfSeen_18 : decode cX6_bitIfSeen 18 = .ok (.ifCond .eq 9, 3) := by decide +kernel
theorem dX6_bitIfSeen_21 : decode cX6_bitIfSeen 21 = .ok (.iconst 1, 1) := by decide +kernel
theorem dX6_bitIfSeen_22 : decode cX6_bitIfSeen 22 = .ok (.iload_n 1, 1) := by decide +kernel
theorem dX6_bitIfSeen_23 : decode cX6_bitIfSeen 23 = .ok (.ishl, 1) := by decide +kernel
theorem dX6_bitIfSeen_24 : decode cX6_bitIfSeen 24 = .ok (.goto 4, 3) := by decide +kernel
theorem dX6_bitIfSeen_27 : decode cX6_bitIfSeen 27 = .ok (.iconst 0, 1) := by decide +kernel
theorem dX6_bitIfSeen_28 : decode cX6_bitIfSeen 28 = .ok (.ireturn, 1) := by decide +kernel
theorem dX6_weightOf_0 : decode cX6_weightOf 0 = .ok (.iload_n 0, 1) := by decide +kernel
theorem dX6_weightOf_1 : decode cX6_weightOf 1 = .ok (.invokestatic 184, 3) := by decide +kernel
theorem dX6_weightOf_4 : decode cX6_weightOf 4 = .ok (.istore_n 3, 1) := by decide +kernel
theorem dX6_weightOf_5 : decode cX6_weightOf 5 = .ok (.iload_n 2, 1) := by decide +kernel
theorem dX6_weightOf_6 : decode cX6_weightOf 6 = .ok (.iload_n 3, 1) := by decide +kernel
theorem dX6_weightOf_7 : decode cX6_weightOf 7 = .ok (.invokestatic 203, 3) := by decide +kernel
theorem dX6_weightOf_10 : decode cX6_weightOf 10 = .ok (.bipush 10, 2) := by decide +kernel
theorem dX6_weightOf_12 : decode cX6_weightOf 12 = .ok (.iload_n 2, 1) := by decide +kernel
theorem dX6_weightOf_13 : decode cX6_weightOf 13 = .ok (.isub, 1) := by decide +kernel
theorem dX6_weightOf_14 : decode cX6_weightOf 14 = .ok (.iload_n 1, 1) := by decide +kernel
theorem dX6_weightOf_15 : decode cX6_weightOf 15 = .ok (.iload_n 3, 1) := by decide +kernel
theorem dX6_weightOf_16 : decode cX6_weightOf 16 = .ok (.isub, 1) := by decide +kernel
theorem dX6_weightOf_17 : decode cX6_weightOf 17 = .ok (.invokestatic 203, 3) := by decide +kernel
theorem dX6_weightOf_20 : decode cX6_weightOf 20 = .ok (.imul, 1) := by decide +kernel
theorem dX6_weightOf_21 : decode cX6_weightOf 21 = .ok (.ireturn, 1) := by decide +kernel
theorem dX6_governsByPath_0 : decode cX6_governsByPath 0 = .ok (.aload_n 0, 1) := by decide +kernel
theorem dX6_governsByPath_1 : decode cX6_governsByPath 1 = .ok (.getfield 39, 3) := by decide +kernel
theorem dX6_governsByPath_4 : decode cX6_governsByPath 4 = .ok (.aload_n 0, 1) := by decide +kernel
theorem dX6_governsByPath_5 : decode cX6_governsByPath 5 = .ok (.getfield 35, 3) := by decide +kernel
theorem dX6_governsByPath_8 : decode cX6_governsByPath 8 = .ok (.invokevirtual 159, 3) := by decide +kernel
theorem dX6_governsByPath_11 : decode cX6_governsByPath 11 = .ok (.iconst 0, 1) := by decide +kernel
theorem dX6_governsByPath_12 : decode cX6_governsByPath 12 = .ok (.istore 4, 2) := by decide +kernel
theorem dX6_governsByPath_14 : decode cX6_governsByPath 14 = .ok (.iload 4, 2) := by decide +kernel
theorem dX6_governsByPath_16 : decode cX6_governsByPath 16 = .ok (.iload_n 2, 1) := by decide +kernel
theorem dX6_governsByPath_17 : decode cX6_governsByPath 17 = .ok (.if_icmp .ge 49, 3) := by decide +kernel
theorem dX6_governsByPath_20 : decode cX6_governsByPath 20 = .ok (.iload_n 3, 1) := by decide +kernel
theorem dX6_governsByPath_21 : decode cX6_governsByPath 21 = .ok (.iload 4, 2) := by decide +kernel
theorem dX6_governsByPath_23 : decode cX6_governsByPath 23 = .ok (.ishr, 1) := by decide +kernel
theorem dX6_governsByPath_24 : decode cX6_governsByPath 24 = .ok (.iconst 1, 1) := by decide +kernel
theorem dX6_governsByPath_25 : decode cX6_governsByPath 25 = .ok (.iand, 1) := by decide +kernel
theorem dX6_governsByPath_26 : decode cX6_governsByPath 26 = .ok (.iconst 1, 1) := by decide +kernel
theorem dX6_governsByPath_27 : decode cX6_governsByPath 27 = .ok (.if_icmp .ne 26, 3) := by decide +kernel
theorem dX6_governsByPath_30 : decode cX6_governsByPath 30 = .ok (.aload_n 0, 1) := by decide +kernel
theorem dX6_governsByPath_31 : decode cX6_governsByPath 31 = .ok (.getfield 39, 3) := by decide +kernel
theorem dX6_governsByPath_34 : decode cX6_governsByPath 34 = .ok (.aload_n 0, 1) := by decide +kernel
theorem dX6_governsByPath_35 : decode cX6_governsByPath 35 = .ok (.getfield 39, 3) := by decide +kernel
theorem dX6_governsByPath_38 : decode cX6_governsByPath 38 = .ok (.getfield 103, 3) := by decide +kernel
theorem dX6_governsByPath_41 : decode cX6_governsByPath 41 = .ok (.aload_n 0, 1) := by decide +kernel
theorem dX6_governsByPath_42 : decode cX6_governsByPath 42 = .ok (.getfield 39, 3) := by decide +kernel
theorem dX6_governsByPath_45 : decode cX6_governsByPath 45 = .ok (.invokevirtual 156, 3) := by decide +kernel
theorem dX6_governsByPath_48 : decode cX6_governsByPath 48 = .ok (.iaload, 1) := by decide +kernel
theorem dX6_governsByPath_49 : decode cX6_governsByPath 49 = .ok (.iconst 2, 1) := by decide +kernel
theorem dX6_governsByPath_50 : decode cX6_governsByPath 50 = .ok (.invokevirtual 145, 3) := by decide +kernel
theorem dX6_governsByPath_53 : decode cX6_governsByPath 53 = .ok (.aload_n 0, 1) := by decide +kernel
theorem dX6_governsByPath_54 : decode cX6_governsByPath 54 = .ok (.getfield 39, 3) := by decide +kernel
theorem dX6_governsByPath_57 : decode cX6_governsByPath 57 = .ok (.invokevirtual 162, 3) := by decide +kernel
theorem dX6_governsByPath_60 : decode cX6_governsByPath 60 = .ok (.iinc 4 1, 3) := by decide +kernel
theorem dX6_governsByPath_63 : decode cX6_governsByPath 63 = .ok (.goto (-49), 3) := by decide +kernel
theorem dX6_governsByPath_66 : decode cX6_governsByPath 66 = .ok (.aload_n 0, 1) := by decide +kernel
theorem dX6_governsByPath_67 : decode cX6_governsByPath 67 = .ok (.getfield 39, 3) := by decide +kernel
theorem dX6_governsByPath_70 : decode cX6_governsByPath 70 = .ok (.invokevirtual 156, 3) := by decide +kernel
theorem dX6_governsByPath_73 : decode cX6_governsByPath 73 = .ok (.iload_n 1, 1) := by decide +kernel
theorem dX6_governsByPath_74 : decode cX6_governsByPath 74 = .ok (.if_icmp .ne 7, 3) := by decide +kernel
theorem dX6_governsByPath_77 : decode cX6_governsByPath 77 = .ok (.iconst 1, 1) := by decide +kernel
theorem dX6_governsByPath_78 : decode cX6_governsByPath 78 = .ok (.goto 4, 3) := by decide +kernel
theorem dX6_governsByPath_81 : decode cX6_governsByPath 81 = .ok (.iconst 0, 1) := by decide +kernel
theorem dX6_governsByPath_82 : decode cX6_governsByPath 82 = .ok (.ireturn, 1) := by decide +kernel
theorem dX6_draw_0 : decode cX6_draw 0 = .ok (.ldc2_w 234, 3) := by decide +kernel
theorem dX6_draw_3 : decode cX6_draw 3 = .ok (.iload_n 0, 1) := by decide +kernel
theorem dX6_draw_4 : decode cX6_draw 4 = .ok (.i2l, 1) := by decide +kernel
theorem dX6_draw_5 : decode cX6_draw 5 = .ok (.lmul, 1) := by decide +kernel
theorem dX6_draw_6 : decode cX6_draw 6 = .ok (.ldc2_w 236, 3) := by decide +kernel
theorem dX6_draw_9 : decode cX6_draw 9 = .ok (.iload_n 1, 1) := by decide +kernel
theorem dX6_draw_10 : decode cX6_draw 10 = .ok (.i2l, 1) := by decide +kernel
theorem dX6_draw_11 : decode cX6_draw 11 = .ok (.lmul, 1) := by decide +kernel
theorem dX6_draw_12 : decode cX6_draw 12 = .ok (.ladd, 1) := by decide +kernel
theorem dX6_draw_13 : decode cX6_draw 13 = .ok (.lconst 1, 1) := by decide +kernel
theorem dX6_draw_14 : decode cX6_draw 14 = .ok (.ladd, 1) := by decide +kernel
theorem dX6_draw_15 : decode cX6_draw 15 = .ok (.lstore_n 2, 1) := by decide +kernel
theorem dX6_draw_16 : decode cX6_draw 16 = .ok (.lload_n 2, 1) := by decide +kernel
theorem dX6_draw_17 : decode cX6_draw 17 = .ok (.lload_n 2, 1) := by decide +kernel
theorem dX6_draw_18 : decode cX6_draw 18 = .ok (.lmul, 1) := by decide +kernel
theorem dX6_draw_19 : decode cX6_draw 19 = .ok (.ldc2_w 238, 3) := by decide +kernel
theorem dX6_draw_22 : decode cX6_draw 22 = .ok (.lrem, 1) := by decide +kernel
theorem dX6_draw_23 : decode cX6_draw 23 = .ok (.ldc2_w 240, 3) := by decide +kernel
theorem dX6_draw_26 : decode cX6_draw 26 = .ok (.ldiv, 1) := by decide +kernel
theorem dX6_draw_27 : decode cX6_draw 27 = .ok (.l2i, 1) := by decide +kernel
theorem dX6_draw_28 : decode cX6_draw 28 = .ok (.ireturn, 1) := by decide +kernel
theorem dX6_power_0 : decode cX6_power 0 = .ok (.iconst 1, 1) := by decide +kernel
theorem dX6_power_1 : decode cX6_power 1 = .ok (.istore_n 2, 1) := by decide +kernel
theorem dX6_power_2 : decode cX6_power 2 = .ok (.iconst 0, 1) := by decide +kernel
theorem dX6_power_3 : decode cX6_power 3 = .ok (.istore_n 3, 1) := by decide +kernel
theorem dX6_power_4 : decode cX6_power 4 = .ok (.iload_n 3, 1) := by decide +kernel
theorem dX6_power_5 : decode cX6_power 5 = .ok (.iload_n 1, 1) := by decide +kernel
theorem dX6_power_6 : decode cX6_power 6 = .ok (.if_icmp .ge 13, 3) := by decide +kernel
theorem dX6_power_9 : decode cX6_power 9 = .ok (.iload_n 2, 1) := by decide +kernel
theorem dX6_power_10 : decode cX6_power 10 = .ok (.iload_n 0, 1) := by decide +kernel
theorem dX6_power_11 : decode cX6_power 11 = .ok (.imul, 1) := by decide +kernel
theorem dX6_power_12 : decode cX6_power 12 = .ok (.istore_n 2, 1) := by decide +kernel
theorem dX6_power_13 : decode cX6_power 13 = .ok (.iinc 3 1, 3) := by decide +kernel
theorem dX6_power_16 : decode cX6_power 16 = .ok (.goto (-12), 3) := by decide +kernel
theorem dX6_power_19 : decode cX6_power 19 = .ok (.iload_n 2, 1) := by decide +kernel
theorem dX6_power_20 : decode cX6_power 20 = .ok (.ireturn, 1) := by decide +kernel
theorem dX6_commonDivisor_0 : decode cX6_commonDivisor 0 = .ok (.iload_n 1, 1) := by decide +kernel
theorem dX6_commonDivisor_1 : decode cX6_commonDivisor 1 = .ok (.istore_n 2, 1) := by decide +kernel
theorem dX6_commonDivisor_2 : decode cX6_commonDivisor 2 = .ok (.iload_n 0, 1) := by decide +kernel
theorem dX6_commonDivisor_3 : decode cX6_commonDivisor 3 = .ok (.istore_n 3, 1) := by decide +kernel
theorem dX6_commonDivisor_4 : decode cX6_commonDivisor 4 = .ok (.iconst 0, 1) := by decide +kernel
theorem dX6_commonDivisor_5 : decode cX6_commonDivisor 5 = .ok (.istore 4, 2) := by decide +kernel
theorem dX6_commonDivisor_7 : decode cX6_commonDivisor 7 = .ok (.iload 4, 2) := by decide +kernel
theorem dX6_commonDivisor_9 : decode cX6_commonDivisor 9 = .ok (.bipush 100, 2) := by decide +kernel
theorem dX6_commonDivisor_11 : decode cX6_commonDivisor 11 = .ok (.if_icmp .ge 23, 3) := by decide +kernel
theorem dX6_commonDivisor_14 : decode cX6_commonDivisor 14 = .ok (.iload_n 3, 1) := by decide +kernel
theorem dX6_commonDivisor_15 : decode cX6_commonDivisor 15 = .ok (.ifCond .eq 19, 3) := by decide +kernel
theorem dX6_commonDivisor_18 : decode cX6_commonDivisor 18 = .ok (.iload_n 2, 1) := by decide +kernel
theorem dX6_commonDivisor_19 : decode cX6_commonDivisor 19 = .ok (.iload_n 3, 1) := by decide +kernel
theorem dX6_commonDivisor_20 : decode cX6_commonDivisor 20 = .ok (.irem, 1) := by decide +kernel
theorem dX6_commonDivisor_21 : decode cX6_commonDivisor 21 = .ok (.istore 5, 2) := by decide +kernel
theorem dX6_commonDivisor_23 : decode cX6_commonDivisor 23 = .ok (.iload_n 3, 1) := by decide +kernel
theorem dX6_commonDivisor_24 : decode cX6_commonDivisor 24 = .ok (.istore_n 2, 1) := by decide +kernel
theorem dX6_commonDivisor_25 : decode cX6_commonDivisor 25 = .ok (.iload 5, 2) := by decide +kernel
theorem dX6_commonDivisor_27 : decode cX6_commonDivisor 27 = .ok (.istore_n 3, 1) := by decide +kernel
theorem dX6_commonDivisor_28 : decode cX6_commonDivisor 28 = .ok (.iinc 4 1, 3) := by decide +kernel
theorem dX6_commonDivisor_31 : decode cX6_commonDivisor 31 = .ok (.goto (-24), 3) := by decide +kernel
theorem dX6_commonDivisor_34 : decode cX6_commonDivisor 34 = .ok (.iload_n 2, 1) := by decide +kernel
theorem dX6_commonDivisor_35 : decode cX6_commonDivisor 35 = .ok (.iconst 1, 1) := by decide +kernel
theorem dX6_commonDivisor_36 : decode cX6_commonDivisor 36 = .ok (.invokestatic 242, 3) := by decide +kernel
theorem dX6_commonDivisor_39 : decode cX6_commonDivisor 39 = .ok (.ireturn, 1) := by decide +kernel
theorem dX6_within_0 : decode cX6_within 0 = .ok (.iload_n 0, 1) := by decide +kernel
theorem dX6_within_1 : decode cX6_within 1 = .ok (.iload_n 1, 1) := by decide +kernel
theorem dX6_within_2 : decode cX6_within 2 = .ok (.if_icmp .lt 12, 3) := by decide +kernel
theorem dX6_within_5 : decode cX6_within 5 = .ok (.iload_n 0, 1) := by decide +kernel
theorem dX6_within_6 : decode cX6_within 6 = .ok (.iload_n 2, 1) := by decide +kernel
theorem dX6_within_7 : decode cX6_within 7 = .ok (.if_icmp .gt 7, 3) := by decide +kernel
theorem dX6_within_10 : decode cX6_within 10 = .ok (.iconst 1, 1) := by decide +kernel
theorem dX6_within_11 : decode cX6_within 11 = .ok (.goto 4, 3) := by decide +kernel
theorem dX6_within_14 : decode cX6_within 14 = .ok (.iconst 0, 1) := by decide +kernel
theorem dX6_within_15 : decode cX6_within 15 = .ok (.ireturn, 1) := by decide +kernel
theorem dJ6_bitCount_0f7a4_0 : decode cJ6_bitCount_0f7a4 0 = .ok (.iload_n 0, 1) := by decide +kernel
theorem dJ6_bitCount_0f7a4_1 : decode cJ6_bitCount_0f7a4 1 = .ok (.iload_n 0, 1) := by decide +kernel
theorem dJ6_bitCount_0f7a4_2 : decode cJ6_bitCount_0f7a4 2 = .ok (.iconst 1, 1) := by decide +kernel
theorem dJ6_bitCount_0f7a4_3 : decode cJ6_bitCount_0f7a4 3 = .ok (.iushr, 1) := by decide +kernel
theorem dJ6_bitCount_0f7a4_4 : decode cJ6_bitCount_0f7a4 4 = .ok (.ldc_w 265, 3) := by decide +kernel
theorem dJ6_bitCount_0f7a4_7 : decode cJ6_bitCount_0f7a4 7 = .ok (.iand, 1) := by decide +kernel
theorem dJ6_bitCount_0f7a4_8 : decode cJ6_bitCount_0f7a4 8 = .ok (.isub, 1) := by decide +kernel
theorem dJ6_bitCount_0f7a4_9 : decode cJ6_bitCount_0f7a4 9 = .ok (.istore_n 0, 1) := by decide +kernel
theorem dJ6_bitCount_0f7a4_10 : decode cJ6_bitCount_0f7a4 10 = .ok (.iload_n 0, 1) := by decide +kernel
theorem dJ6_bitCount_0f7a4_11 : decode cJ6_bitCount_0f7a4 11 = .ok (.ldc_w 266, 3) := by decide +kernel
theorem dJ6_bitCount_0f7a4_14 : decode cJ6_bitCount_0f7a4 14 = .ok (.iand, 1) := by decide +kernel
theorem dJ6_bitCount_0f7a4_15 : decode cJ6_bitCount_0f7a4 15 = .ok (.iload_n 0, 1) := by decide +kernel
theorem dJ6_bitCount_0f7a4_16 : decode cJ6_bitCount_0f7a4 16 = .ok (.iconst 2, 1) := by decide +kernel
theorem dJ6_bitCount_0f7a4_17 : decode cJ6_bitCount_0f7a4 17 = .ok (.iushr, 1) := by decide +kernel
theorem dJ6_bitCount_0f7a4_18 : decode cJ6_bitCount_0f7a4 18 = .ok (.ldc_w 266, 3) := by decide +kernel
theorem dJ6_bitCount_0f7a4_21 : decode cJ6_bitCount_0f7a4 21 = .ok (.iand, 1) := by decide +kernel
theorem dJ6_bitCount_0f7a4_22 : decode cJ6_bitCount_0f7a4 22 = .ok (.iadd, 1) := by decide +kernel
theorem dJ6_bitCount_0f7a4_23 : decode cJ6_bitCount_0f7a4 23 = .ok (.istore_n 0, 1) := by decide +kernel
theorem dJ6_bitCount_0f7a4_24 : decode cJ6_bitCount_0f7a4 24 = .ok (.iload_n 0, 1) := by decide +kernel
theorem dJ6_bitCount_0f7a4_25 : decode cJ6_bitCount_0f7a4 25 = .ok (.iload_n 0, 1) := by decide +kernel
theorem dJ6_bitCount_0f7a4_26 : decode cJ6_bitCount_0f7a4 26 = .ok (.iconst 4, 1) := by decide +kernel
theorem dJ6_bitCount_0f7a4_27 : decode cJ6_bitCount_0f7a4 27 = .ok (.iushr, 1) := by decide +kernel
theorem dJ6_bitCount_0f7a4_28 : decode cJ6_bitCount_0f7a4 28 = .ok (.iadd, 1) := by decide +kernel
theorem dJ6_bitCount_0f7a4_29 : decode cJ6_bitCount_0f7a4 29 = .ok (.ldc_w 267, 3) := by decide +kernel
theorem dJ6_bitCount_0f7a4_32 : decode cJ6_bitCount_0f7a4 32 = .ok (.iand, 1) := by decide +kernel
theorem dJ6_bitCount_0f7a4_33 : decode cJ6_bitCount_0f7a4 33 = .ok (.istore_n 0, 1) := by decide +kernel
theorem dJ6_bitCount_0f7a4_34 : decode cJ6_bitCount_0f7a4 34 = .ok (.iload_n 0, 1) := by decide +kernel
theorem dJ6_bitCount_0f7a4_35 : decode cJ6_bitCount_0f7a4 35 = .ok (.iload_n 0, 1) := by decide +kernel
theorem dJ6_bitCount_0f7a4_36 : decode cJ6_bitCount_0f7a4 36 = .ok (.bipush 8, 2) := by decide +kernel
theorem dJ6_bitCount_0f7a4_38 : decode cJ6_bitCount_0f7a4 38 = .ok (.iushr, 1) := by decide +kernel
theorem dJ6_bitCount_0f7a4_39 : decode cJ6_bitCount_0f7a4 39 = .ok (.iadd, 1) := by decide +kernel
theorem dJ6_bitCount_0f7a4_40 : decode cJ6_bitCount_0f7a4 40 = .ok (.istore_n 0, 1) := by decide +kernel
theorem dJ6_bitCount_0f7a4_41 : decode cJ6_bitCount_0f7a4 41 = .ok (.iload_n 0, 1) := by decide +kernel
theorem dJ6_bitCount_0f7a4_42 : decode cJ6_bitCount_0f7a4 42 = .ok (.iload_n 0, 1) := by decide +kernel
theorem dJ6_bitCount_0f7a4_43 : decode cJ6_bitCount_0f7a4 43 = .ok (.bipush 16, 2) := by decide +kernel
theorem dJ6_bitCount_0f7a4_45 : decode cJ6_bitCount_0f7a4 45 = .ok (.iushr, 1) := by decide +kernel
theorem dJ6_bitCount_0f7a4_46 : decode cJ6_bitCount_0f7a4 46 = .ok (.iadd, 1) := by decide +kernel
theorem dJ6_bitCount_0f7a4_47 : decode cJ6_bitCount_0f7a4 47 = .ok (.istore_n 0, 1) := by decide +kernel
theorem dJ6_bitCount_0f7a4_48 : decode cJ6_bitCount_0f7a4 48 = .ok (.iload_n 0, 1) := by decide +kernel
theorem dJ6_bitCount_0f7a4_49 : decode cJ6_bitCount_0f7a4 49 = .ok (.bipush 63, 2) := by decide +kernel
theorem dJ6_bitCount_0f7a4_51 : decode cJ6_bitCount_0f7a4 51 = .ok (.iand, 1) := by decide +kernel
theorem dJ6_bitCount_0f7a4_52 : decode cJ6_bitCount_0f7a4 52 = .ok (.ireturn, 1) := by decide +kernel
theorem dJ9_max_7cf53_0 : decode cJ9_max_7cf53 0 = .ok (.iload_n 0, 1) := by decide +kernel
theorem dJ9_max_7cf53_1 : decode cJ9_max_7cf53 1 = .ok (.iload_n 1, 1) := by decide +kernel
theorem dJ9_max_7cf53_2 : decode cJ9_max_7cf53 2 = .ok (.if_icmp .lt 7, 3) := by decide +kernel
theorem dJ9_max_7cf53_5 : decode cJ9_max_7cf53 5 = .ok (.iload_n 0, 1) := by decide +kernel
theorem dJ9_max_7cf53_6 : decode cJ9_max_7cf53 6 = .ok (.goto 4, 3) := by decide +kernel
theorem dJ9_max_7cf53_9 : decode cJ9_max_7cf53 9 = .ok (.iload_n 1, 1) := by decide +kernel
theorem dJ9_max_7cf53_10 : decode cJ9_max_7cf53 10 = .ok (.ireturn, 1) := by decide +kernel
theorem dJ9_min_7cf53_0 : decode cJ9_min_7cf53 0 = .ok (.iload_n 0, 1) := by decide +kernel
theorem dJ9_min_7cf53_1 : decode cJ9_min_7cf53 1 = .ok (.iload_n 1, 1) := by decide +kernel
theorem dJ9_min_7cf53_2 : decode cJ9_min_7cf53 2 = .ok (.if_icmp .gt 7, 3) := by decide +kernel
theorem dJ9_min_7cf53_5 : decode cJ9_min_7cf53 5 = .ok (.iload_n 0, 1) := by decide +kernel
theorem dJ9_min_7cf53_6 : decode cJ9_min_7cf53 6 = .ok (.goto 4, 3) := by decide +kernel
theorem dJ9_min_7cf53_9 : decode cJ9_min_7cf53 9 = .ok (.iload_n 1, 1) := by decide +kernel
theorem dJ9_min_7cf53_10 : decode cJ9_min_7cf53 10 = .ok (.ireturn, 1) := by decide +kernel
theorem dJ0_length_8abf5_0 : decode cJ0_length_8abf5 0 = .ok (.aload_n 0, 1) := by decide +kernel
theorem dJ0_length_8abf5_1 : decode cJ0_length_8abf5 1 = .ok (.getfield 9, 3) := by decide +kernel
theorem dJ0_length_8abf5_4 : decode cJ0_length_8abf5 4 = .ok (.arraylength, 1) := by decide +kernel
theorem dJ0_length_8abf5_5 : decode cJ0_length_8abf5 5 = .ok (.aload_n 0, 1) := by decide +kernel
theorem dJ0_length_8abf5_6 : decode cJ0_length_8abf5 6 = .ok (.invokevirtual 335, 3) := by decide +kernel
theorem dJ0_length_8abf5_9 : decode cJ0_length_8abf5 9 = .ok (.ishr, 1) := by decide +kernel
theorem dJ0_length_8abf5_10 : decode cJ0_length_8abf5 10 = .ok (.ireturn, 1) := by decide +kernel
theorem dJ0_charAt_5068e_0 : decode cJ0_charAt_5068e 0 = .ok (.aload_n 0, 1) := by decide +kernel
theorem dJ0_charAt_5068e_1 : decode cJ0_charAt_5068e 1 = .ok (.invokevirtual 492, 3) := by decide +kernel
theorem dJ0_charAt_5068e_4 : decode cJ0_charAt_5068e 4 = .ok (.ifCond .eq 12, 3) := by decide +kernel
theorem dJ0_charAt_5068e_7 : decode cJ0_charAt_5068e 7 = .ok (.aload_n 0, 1) := by decide +kernel
theorem dJ0_charAt_5068e_8 : decode cJ0_charAt_5068e 8 = .ok (.getfield 9, 3) := by decide +kernel
theorem dJ0_charAt_5068e_11 : decode cJ0_charAt_5068e 11 = .ok (.iload_n 1, 1) := by decide +kernel
theorem dJ0_charAt_5068e_12 : decode cJ0_charAt_5068e 12 = .ok (.invokestatic 495, 3) := by decide +kernel
theorem dJ0_charAt_5068e_15 : decode cJ0_charAt_5068e 15 = .ok (.ireturn, 1) := by decide +kernel
theorem dJ0_charAt_5068e_16 : decode cJ0_charAt_5068e 16 = .ok (.aload_n 0, 1) := by decide +kernel
theorem dJ0_charAt_5068e_17 : decode cJ0_charAt_5068e 17 = .ok (.getfield 9, 3) := by decide +kernel
theorem dJ0_charAt_5068e_20 : decode cJ0_charAt_5068e 20 = .ok (.iload_n 1, 1) := by decide +kernel
theorem dJ0_charAt_5068e_21 : decode cJ0_charAt_5068e 21 = .ok (.invokestatic 498, 3) := by decide +kernel
theorem dJ0_charAt_5068e_24 : decode cJ0_charAt_5068e 24 = .ok (.ireturn, 1) := by decide +kernel
theorem dJ0_coder_7d493_0 : decode cJ0_coder_7d493 0 = .ok (.getstatic 38, 3) := by decide +kernel
theorem dJ0_coder_7d493_3 : decode cJ0_coder_7d493 3 = .ok (.ifCond .eq 10, 3) := by decide +kernel
theorem dJ0_coder_7d493_6 : decode cJ0_coder_7d493 6 = .ok (.aload_n 0, 1) := by decide +kernel
theorem dJ0_coder_7d493_7 : decode cJ0_coder_7d493 7 = .ok (.getfield 15, 3) := by decide +kernel
theorem dJ0_coder_7d493_10 : decode cJ0_coder_7d493 10 = .ok (.goto 4, 3) := by decide +kernel
theorem dJ0_coder_7d493_13 : decode cJ0_coder_7d493 13 = .ok (.iconst 1, 1) := by decide +kernel
theorem dJ0_coder_7d493_14 : decode cJ0_coder_7d493 14 = .ok (.ireturn, 1) := by decide +kernel
theorem dJ0_isLatin1_aae02_0 : decode cJ0_isLatin1_aae02 0 = .ok (.getstatic 38, 3) := by decide +kernel
theorem dJ0_isLatin1_aae02_3 : decode cJ0_isLatin1_aae02 3 = .ok (.ifCond .eq 14, 3) := by decide +kernel
theorem dJ0_isLatin1_aae02_6 : decode cJ0_isLatin1_aae02 6 = .ok (.aload_n 0, 1) := by decide +kernel
theorem dJ0_isLatin1_aae02_7 : decode cJ0_isLatin1_aae02 7 = .ok (.getfield 15, 3) := by decide +kernel
theorem dJ0_isLatin1_aae02_10 : decode cJ0_isLatin1_aae02 10 = .ok (.ifCond .ne 7, 3) := by decide +kernel
theorem dJ0_isLatin1_aae02_13 : decode cJ0_isLatin1_aae02 13 = .ok (.iconst 1, 1) := by decide +kernel
theorem dJ0_isLatin1_aae02_14 : decode cJ0_isLatin1_aae02 14 = .ok (.goto 4, 3) := by decide +kernel
theorem dJ0_isLatin1_aae02_17 : decode cJ0_isLatin1_aae02 17 = .ok (.iconst 0, 1) := by decide +kernel
theorem dJ0_isLatin1_aae02_18 : decode cJ0_isLatin1_aae02 18 = .ok (.ireturn, 1) := by decide +kernel
theorem dJ0_checkIndex_df160_0 : decode cJ0_checkIndex_df160 0 = .ok (.iload_n 0, 1) := by decide +kernel
theorem dJ0_checkIndex_df160_1 : decode cJ0_checkIndex_df160 1 = .ok (.iload_n 1, 1) := by decide +kernel
theorem dJ0_checkIndex_df160_2 : decode cJ0_checkIndex_df160 2 = .ok (.getstatic 1053, 3) := by decide +kernel
theorem dJ0_checkIndex_df160_5 : decode cJ0_checkIndex_df160 5 = .ok (.invokestatic 1059, 3) := by decide +kernel
theorem dJ0_checkIndex_df160_8 : decode cJ0_checkIndex_df160 8 = .ok (.pop, 1) := by decide +kernel
theorem dJ0_checkIndex_df160_9 : decode cJ0_checkIndex_df160 9 = .ok (.return_, 1) := by decide +kernel
theorem dJ1_charAt_3b067_0 : decode cJ1_charAt_3b067 0 = .ok (.iload_n 1, 1) := by decide +kernel
theorem dJ1_charAt_3b067_1 : decode cJ1_charAt_3b067 1 = .ok (.aload_n 0, 1) := by decide +kernel
theorem dJ1_charAt_3b067_2 : decode cJ1_charAt_3b067 2 = .ok (.arraylength, 1) := by decide +kernel
theorem dJ1_charAt_3b067_3 : decode cJ1_charAt_3b067 3 = .ok (.invokestatic 9, 3) := by decide +kernel
theorem dJ1_charAt_3b067_6 : decode cJ1_charAt_3b067 6 = .ok (.aload_n 0, 1) := by decide +kernel
theorem dJ1_charAt_3b067_7 : decode cJ1_charAt_3b067 7 = .ok (.iload_n 1, 1) := by decide +kernel
theorem dJ1_charAt_3b067_8 : decode cJ1_charAt_3b067 8 = .ok (.baload, 1) := by decide +kernel
theorem dJ1_charAt_3b067_9 : decode cJ1_charAt_3b067 9 = .ok (.sipush 255, 3) := by decide +kernel
theorem dJ1_charAt_3b067_12 : decode cJ1_charAt_3b067 12 = .ok (.iand, 1) := by decide +kernel
theorem dJ1_charAt_3b067_13 : decode cJ1_charAt_3b067 13 = .ok (.i2c, 1) := by decide +kernel
theorem dJ1_charAt_3b067_14 : decode cJ1_charAt_3b067 14 = .ok (.ireturn, 1) := by decide +kernel
theorem dJ2_getChar_3b067_0 : decode cJ2_getChar_3b067 0 = .ok (.getstatic 44, 3) := by decide +kernel
theorem dJ2_getChar_3b067_3 : decode cJ2_getChar_3b067 3 = .ok (.ifCond .ne 25, 3) := by decide +kernel
theorem dJ2_getChar_3b067_6 : decode cJ2_getChar_3b067 6 = .ok (.iload_n 1, 1) := by decide +kernel
theorem dJ2_getChar_3b067_7 : decode cJ2_getChar_3b067 7 = .ok (.ifCond .lt 11, 3) := by decide +kernel
theorem dJ2_getChar_3b067_10 : decode cJ2_getChar_3b067 10 = .ok (.iload_n 1, 1) := by decide +kernel
theorem dJ2_getChar_3b067_11 : decode cJ2_getChar_3b067 11 = .ok (.aload_n 0, 1) := by decide +kernel
theorem dJ2_getChar_3b067_12 : decode cJ2_getChar_3b067 12 = .ok (.invokestatic 48, 3) := by decide +kernel
theorem dJ2_getChar_3b067_15 : decode cJ2_getChar_3b067 15 = .ok (.if_icmp .lt 13, 3) := by decide +kernel
theorem dJ2_getChar_3b067_18 : decode cJ2_getChar_3b067 18 = .ok (.new 52, 3) := by decide +kernel
theorem dJ2_getChar_3b067_21 : decode cJ2_getChar_3b067 21 = .ok (.dup, 1) := by decide +kernel
theorem dJ2_getChar_3b067_22 : decode cJ2_getChar_3b067 22 = .ok (.ldc 54, 2) := by decide +kernel
theorem dJ2_getChar_3b067_24 : decode cJ2_getChar_3b067 24 = .ok (.invokespecial 56, 3) := by decide +kernel
theorem dJ2_getChar_3b067_27 : decode cJ2_getChar_3b067 27 = .ok (.athrow, 1) := by decide +kernel
theorem dJ2_getChar_3b067_28 : decode cJ2_getChar_3b067 28 = .ok (.iload_n 1, 1) := by decide +kernel
theorem dJ2_getChar_3b067_29 : decode cJ2_getChar_3b067 29 = .ok (.iconst 1, 1) := by decide +kernel
theorem dJ2_getChar_3b067_30 : decode cJ2_getChar_3b067 30 = .ok (.ishl, 1) := by decide +kernel
theorem dJ2_getChar_3b067_31 : decode cJ2_getChar_3b067 31 = .ok (.istore_n 1, 1) := by decide +kernel
theorem dJ2_getChar_3b067_32 : decode cJ2_getChar_3b067 32 = .ok (.aload_n 0, 1) := by decide +kernel
theorem dJ2_getChar_3b067_33 : decode cJ2_getChar_3b067 33 = .ok (.iload_n 1, 1) := by decide +kernel
theorem dJ2_getChar_3b067_34 : decode cJ2_getChar_3b067 34 = .ok (.iinc 1 1, 3) := by decide +kernel
theorem dJ2_getChar_3b067_37 : decode cJ2_getChar_3b067 37 = .ok (.baload, 1) := by decide +kernel
theorem dJ2_getChar_3b067_38 : decode cJ2_getChar_3b067 38 = .ok (.sipush 255, 3) := by decide +kernel
theorem dJ2_getChar_3b067_41 : decode cJ2_getChar_3b067 41 = .ok (.iand, 1) := by decide +kernel
theorem dJ2_getChar_3b067_42 : decode cJ2_getChar_3b067 42 = .ok (.getstatic 59, 3) := by decide +kernel
theorem dJ2_getChar_3b067_45 : decode cJ2_getChar_3b067 45 = .ok (.ishl, 1) := by decide +kernel
theorem dJ2_getChar_3b067_46 : decode cJ2_getChar_3b067 46 = .ok (.aload_n 0, 1) := by decide +kernel
theorem dJ2_getChar_3b067_47 : decode cJ2_getChar_3b067 47 = .ok (.iload_n 1, 1) := by decide +kernel
theorem dJ2_getChar_3b067_48 : decode cJ2_getChar_3b067 48 = .ok (.baload, 1) := by decide +kernel
theorem dJ2_getChar_3b067_49 : decode cJ2_getChar_3b067 49 = .ok (.sipush 255, 3) := by decide +kernel
theorem dJ2_getChar_3b067_52 : decode cJ2_getChar_3b067 52 = .ok (.iand, 1) := by decide +kernel
theorem dJ2_getChar_3b067_53 : decode cJ2_getChar_3b067 53 = .ok (.getstatic 63, 3) := by decide +kernel
theorem dJ2_getChar_3b067_56 : decode cJ2_getChar_3b067 56 = .ok (.ishl, 1) := by decide +kernel
theorem dJ2_getChar_3b067_57 : decode cJ2_getChar_3b067 57 = .ok (.ior, 1) := by decide +kernel
theorem dJ2_getChar_3b067_58 : decode cJ2_getChar_3b067 58 = .ok (.i2c, 1) := by decide +kernel
theorem dJ2_getChar_3b067_59 : decode cJ2_getChar_3b067 59 = .ok (.ireturn, 1) := by decide +kernel
theorem dJ2_length_9d52b_0 : decode cJ2_length_9d52b 0 = .ok (.aload_n 0, 1) := by decide +kernel
theorem dJ2_length_9d52b_1 : decode cJ2_length_9d52b 1 = .ok (.arraylength, 1) := by decide +kernel
theorem dJ2_length_9d52b_2 : decode cJ2_length_9d52b 2 = .ok (.iconst 1, 1) := by decide +kernel
theorem dJ2_length_9d52b_3 : decode cJ2_length_9d52b 3 = .ok (.ishr, 1) := by decide +kernel
theorem dJ2_length_9d52b_4 : decode cJ2_length_9d52b 4 = .ok (.ireturn, 1) := by decide +kernel
theorem dJ2_charAt_3b067_0 : decode cJ2_charAt_3b067 0 = .ok (.iload_n 1, 1) := by decide +kernel
theorem dJ2_charAt_3b067_1 : decode cJ2_charAt_3b067 1 = .ok (.aload_n 0, 1) := by decide +kernel
theorem dJ2_charAt_3b067_2 : decode cJ2_charAt_3b067 2 = .ok (.invokestatic 67, 3) := by decide +kernel
theorem dJ2_charAt_3b067_5 : decode cJ2_charAt_3b067 5 = .ok (.aload_n 0, 1) := by decide +kernel
theorem dJ2_charAt_3b067_6 : decode cJ2_charAt_3b067 6 = .ok (.iload_n 1, 1) := by decide +kernel
theorem dJ2_charAt_3b067_7 : decode cJ2_charAt_3b067 7 = .ok (.invokestatic 71, 3) := by decide +kernel
theorem dJ2_charAt_3b067_10 : decode cJ2_charAt_3b067 10 = .ok (.ireturn, 1) := by decide +kernel
theorem dJ2_checkIndex_2214a_0 : decode cJ2_checkIndex_2214a 0 = .ok (.iload_n 0, 1) := by decide +kernel
theorem dJ2_checkIndex_2214a_1 : decode cJ2_checkIndex_2214a 1 = .ok (.aload_n 1, 1) := by decide +kernel
theorem dJ2_checkIndex_2214a_2 : decode cJ2_checkIndex_2214a 2 = .ok (.invokestatic 48, 3) := by decide +kernel
theorem dJ2_checkIndex_2214a_5 : decode cJ2_checkIndex_2214a 5 = .ok (.invokestatic 414, 3) := by decide +kernel
theorem dJ2_checkIndex_2214a_8 : decode cJ2_checkIndex_2214a 8 = .ok (.return_, 1) := by decide +kernel
theorem dJ7_fill_53178_0 : decode cJ7_fill_53178 0 = .ok (.iconst 0, 1) := by decide +kernel
theorem dJ7_fill_53178_1 : decode cJ7_fill_53178 1 = .ok (.istore_n 2, 1) := by decide +kernel
theorem dJ7_fill_53178_2 : decode cJ7_fill_53178 2 = .ok (.aload_n 0, 1) := by decide +kernel
theorem dJ7_fill_53178_3 : decode cJ7_fill_53178 3 = .ok (.arraylength, 1) := by decide +kernel
theorem dJ7_fill_53178_4 : decode cJ7_fill_53178 4 = .ok (.istore_n 3, 1) := by decide +kernel
theorem dJ7_fill_53178_5 : decode cJ7_fill_53178 5 = .ok (.iload_n 2, 1) := by decide +kernel
theorem dJ7_fill_53178_6 : decode cJ7_fill_53178 6 = .ok (.iload_n 3, 1) := by decide +kernel
theorem dJ7_fill_53178_7 : decode cJ7_fill_53178 7 = .ok (.if_icmp .ge 13, 3) := by decide +kernel
theorem dJ7_fill_53178_10 : decode cJ7_fill_53178 10 = .ok (.aload_n 0, 1) := by decide +kernel
theorem dJ7_fill_53178_11 : decode cJ7_fill_53178 11 = .ok (.iload_n 2, 1) := by decide +kernel
theorem dJ7_fill_53178_12 : decode cJ7_fill_53178 12 = .ok (.iload_n 1, 1) := by decide +kernel
theorem dJ7_fill_53178_13 : decode cJ7_fill_53178 13 = .ok (.iastore, 1) := by decide +kernel
theorem dJ7_fill_53178_14 : decode cJ7_fill_53178 14 = .ok (.iinc 2 1, 3) := by decide +kernel
theorem dJ7_fill_53178_17 : decode cJ7_fill_53178 17 = .ok (.goto (-12), 3) := by decide +kernel
theorem dJ7_fill_53178_20 : decode cJ7_fill_53178 20 = .ok (.return_, 1) := by decide +kernel
theorem dJ3_checkIndex_8e157_0 : decode cJ3_checkIndex_8e157 0 = .ok (.iload_n 0, 1) := by decide +kernel
theorem dJ3_checkIndex_8e157_1 : decode cJ3_checkIndex_8e157 1 = .ok (.ifCond .lt 8, 3) := by decide +kernel
theorem dJ3_checkIndex_8e157_4 : decode cJ3_checkIndex_8e157 4 = .ok (.iload_n 0, 1) := by decide +kernel
theorem dJ3_checkIndex_8e157_5 : decode cJ3_checkIndex_8e157 5 = .ok (.iload_n 1, 1) := by decide +kernel
theorem dJ3_checkIndex_8e157_6 : decode cJ3_checkIndex_8e157 6 = .ok (.if_icmp .lt 10, 3) := by decide +kernel
theorem dJ3_checkIndex_8e157_9 : decode cJ3_checkIndex_8e157 9 = .ok (.aload_n 2, 1) := by decide +kernel
theorem dJ3_checkIndex_8e157_10 : decode cJ3_checkIndex_8e157 10 = .ok (.iload_n 0, 1) := by decide +kernel
theorem dJ3_checkIndex_8e157_11 : decode cJ3_checkIndex_8e157 11 = .ok (.iload_n 1, 1) := by decide +kernel
theorem dJ3_checkIndex_8e157_12 : decode cJ3_checkIndex_8e157 12 = .ok (.invokestatic 95, 3) := by decide +kernel
theorem dJ3_checkIndex_8e157_15 : decode cJ3_checkIndex_8e157 15 = .ok (.athrow, 1) := by decide +kernel
theorem dJ3_checkIndex_8e157_16 : decode cJ3_checkIndex_8e157 16 = .ok (.iload_n 0, 1) := by decide +kernel
theorem dJ3_checkIndex_8e157_17 : decode cJ3_checkIndex_8e157 17 = .ok (.ireturn, 1) := by decide +kernel
