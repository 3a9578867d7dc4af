theorem dX0_init_0 : decode cX0_init 0 = .ok (.aload_n 0, 1) := by decide +kernel
theorem dX0_init_1 : decode cX0_init 1 = .ok (.invokespecial 3, 3) := by decide +kernel
theorem dX0_init_4 : decode cX0_init 4 = .ok (.aload_n 0, 1) := by decide +kernel
theorem dX0_init_5 : decode cX0_init 5 = .ok (.sipush 2816, 3) := by decide +kernel
theorem dX0_init_8 : decode cX0_init 8 = .ok (.newarray .int, 2) := by decide +kernel
theorem dX0_init_10 : decode cX0_init 10 = .ok (.putfield 9, 3) := by decide +kernel
theorem dX0_init_13 : decode cX0_init 13 = .ok (.aload_n 0, 1) := by decide +kernel
theorem dX0_init_14 : decode cX0_init 14 = .ok (.bipush 11, 2) := by decide +kernel
theorem dX0_init_16 : decode cX0_init 16 = .ok (.newarray .int, 2) := by decide +kernel
theorem dX0_init_18 : decode cX0_init 18 = .ok (.putfield 15, 3) := by decide +kernel
theorem dX0_init_21 : decode cX0_init 21 = .ok (.aload_n 0, 1) := by decide +kernel
theorem dX0_init_22 : decode cX0_init 22 = .ok (.bipush 8, 2) := by decide +kernel
theorem dX0_init_24 : decode cX0_init 24 = .ok (.newarray .int, 2) := by decide +kernel
theorem dX0_init_26 : decode cX0_init 26 = .ok (.putfield 18, 3) := by decide +kernel
theorem dX0_init_29 : decode cX0_init 29 = .ok (.iconst 0, 1) := by decide +kernel
theorem dX0_init_30 : decode cX0_init 30 = .ok (.istore_n 1, 1) := by decide +kernel
theorem dX0_init_31 : decode cX0_init 31 = .ok (.iload_n 1, 1) := by decide +kernel
theorem dX0_init_32 : decode cX0_init 32 = .ok (.sipush 2816, 3) := by decide +kernel
theorem dX0_init_35 : decode cX0_init 35 = .ok (.if_icmp .ge 18, 3) := by decide +kernel
theorem dX0_init_38 : decode cX0_init 38 = .ok (.aload_n 0, 1) := by decide +kernel
theorem dX0_init_39 : decode cX0_init 39 = .ok (.getfield 9, 3) := by decide +kernel
theorem dX0_init_42 : decode cX0_init 42 = .ok (.iload_n 1, 1) := by decide +kernel
theorem dX0_init_43 : decode cX0_init 43 = .ok (.sipush 255, 3) := by decide +kernel
theorem dX0_init_46 : decode cX0_init 46 = .ok (.iastore, 1) := by decide +kernel
theorem dX0_init_47 : decode cX0_init 47 = .ok (.iinc 1 1, 3) := by decide +kernel
theorem dX0_init_50 : decode cX0_init 50 = .ok (.goto (-19), 3) := by decide +kernel
theorem dX0_init_53 : decode cX0_init 53 = .ok (.aload_n 0, 1) := by decide +kernel
theorem dX0_init_54 : decode cX0_init 54 = .ok (.iconst 0, 1) := by decide +kernel
theorem dX0_init_55 : decode cX0_init 55 = .ok (.putfield 21, 3) := by decide +kernel
theorem dX0_init_58 : decode cX0_init 58 = .ok (.aload_n 0, 1) := by decide +kernel
theorem dX0_init_59 : decode cX0_init 59 = .ok (.iconst 0, 1) := by decide +kernel
theorem dX0_init_60 : decode cX0_init 60 = .ok (.putfield 25, 3) := by decide +kernel
theorem dX0_init_63 : decode cX0_init 63 = .ok (.aload_n 0, 1) := by decide +kernel
theorem dX0_init_64 : decode cX0_init 64 = .ok (.iconst 0, 1) := by decide +kernel
theorem dX0_init_65 : decode cX0_init 65 = .ok (.putfield 28, 3) := by decide +kernel
theorem dX0_init_68 : decode cX0_init 68 = .ok (.aload_n 0, 1) := by decide +kernel
theorem dX0_init_69 : decode cX0_init 69 = .ok (.iconst 0, 1) := by decide +kernel
theorem dX0_init_70 : decode cX0_init 70 = .ok (.putfield 32, 3) := by decide +kernel
theorem dX0_init_73 : decode cX0_init 73 = .ok (.aload_n 0, 1) := by decide +kernel
theorem dX0_init_74 : decode cX0_init 74 = .ok (.iconst 0, 1) := by decide +kernel
theorem dX0_init_75 : decode cX0_init 75 = .ok (.putfield 35, 3) := by decide +kernel
theorem dX0_init_78 : decode cX0_init 78 = .ok (.aload_n 0, 1) := by decide +kernel
theorem dX0_init_79 : decode cX0_init 79 = .ok (.iconst 0, 1) := by decide +kernel
theorem dX0_init_80 : decode cX0_init 80 = .ok (.putfield 38, 3) := by decide +kernel
theorem dX0_init_83 : decode cX0_init 83 = .ok (.return_, 1) := by decide +kernel
theorem dX0_has_0 : decode cX0_has 0 = .ok (.iload_n 0, 1) := by decide +kernel
theorem dX0_has_1 : decode cX0_has 1 = .ok (.ifCond .lt 14, 3) := by decide +kernel
theorem dX0_has_4 : decode cX0_has 4 = .ok (.iload_n 0, 1) := by decide +kernel
theorem dX0_has_5 : decode cX0_has 5 = .ok (.sipush 2816, 3) := by decide +kernel
theorem dX0_has_8 : decode cX0_has 8 = .ok (.if_icmp .ge 7, 3) := by decide +kernel
theorem dX0_has_11 : decode cX0_has 11 = .ok (.iconst 1, 1) := by decide +kernel
theorem dX0_has_12 : decode cX0_has 12 = .ok (.goto 4, 3) := by decide +kernel
theorem dX0_has_15 : decode cX0_has 15 = .ok (.iconst 0, 1) := by decide +kernel
theorem dX0_has_16 : decode cX0_has 16 = .ok (.ireturn, 1) := by decide +kernel
theorem dX0_hasSector_0 : decode cX0_hasSector 0 = .ok (.iload_n 0, 1) := by decide +kernel
theorem dX0_hasSector_1 : decode cX0_hasSector 1 = .ok (.ifCond .lt 13, 3) := by decide +kernel
theorem dX0_hasSector_4 : decode cX0_hasSector 4 = .ok (.iload_n 0, 1) := by decide +kernel
theorem dX0_hasSector_5 : decode cX0_hasSector 5 = .ok (.bipush 11, 2) := by decide +kernel
theorem dX0_hasSector_7 : decode cX0_hasSector 7 = .ok (.if_icmp .ge 7, 3) := by decide +kernel
theorem dX0_hasSector_10 : decode cX0_hasSector 10 = .ok (.iconst 1, 1) := by decide +kernel
theorem dX0_hasSector_11 : decode cX0_hasSector 11 = .ok (.goto 4, 3) := by decide +kernel
theorem dX0_hasSector_14 : decode cX0_hasSector 14 = .ok (.iconst 0, 1) := by decide +kernel
theorem dX0_hasSector_15 : decode cX0_hasSector 15 = .ok (.ireturn, 1) := by decide +kernel
theorem dX0_unitAt_0 : decode cX0_unitAt 0 = .ok (.iload_n 0, 1) := by decide +kernel
theorem dX0_unitAt_1 : decode cX0_unitAt 1 = .ok (.sipush 256, 3) := by decide +kernel
theorem dX0_unitAt_4 : decode cX0_unitAt 4 = .ok (.imul, 1) := by decide +kernel
theorem dX0_unitAt_5 : decode cX0_unitAt 5 = .ok (.iload_n 1, 1) := by decide +kernel
theorem dX0_unitAt_6 : decode cX0_unitAt 6 = .ok (.bipush 8, 2) := by decide +kernel
theorem dX0_unitAt_8 : decode cX0_unitAt 8 = .ok (.imul, 1) := by decide +kernel
theorem dX0_unitAt_9 : decode cX0_unitAt 9 = .ok (.iadd, 1) := by decide +kernel
theorem dX0_unitAt_10 : decode cX0_unitAt 10 = .ok (.ireturn, 1) := by decide +kernel
theorem dX0_byteAt_0 : decode cX0_byteAt 0 = .ok (.iload_n 1, 1) := by decide +kernel
theorem dX0_byteAt_1 : decode cX0_byteAt 1 = .ok (.ifCond .lt 19, 3) := by decide +kernel
theorem dX0_byteAt_4 : decode cX0_byteAt 4 = .ok (.iload_n 1, 1) := by decide +kernel
theorem dX0_byteAt_5 : decode cX0_byteAt 5 = .ok (.sipush 2816, 3) := by decide +kernel
theorem dX0_byteAt_8 : decode cX0_byteAt 8 = .ok (.if_icmp .ge 12, 3) := by decide +kernel
theorem dX0_byteAt_11 : decode cX0_byteAt 11 = .ok (.aload_n 0, 1) := by decide +kernel
theorem dX0_byteAt_12 : decode cX0_byteAt 12 = .ok (.getfield 9, 3) := by decide +kernel
theorem dX0_byteAt_15 : decode cX0_byteAt 15 = .ok (.iload_n 1, 1) := by decide +kernel
theorem dX0_byteAt_16 : decode cX0_byteAt 16 = .ok (.iaload, 1) := by decide +kernel
theorem dX0_byteAt_17 : decode cX0_byteAt 17 = .ok (.goto 6, 3) := by decide +kernel
theorem dX0_byteAt_20 : decode cX0_byteAt 20 = .ok (.sipush 255, 3) := by decide +kernel
theorem dX0_byteAt_23 : decode cX0_byteAt 23 = .ok (.ireturn, 1) := by decide +kernel
set_option maxRecDepth 20000 in
theorem ggX0_intAt_X0_byteAt : GoodIn wsX0_intAt wsX0_byteAt := goodIn_r _ [5, 6, 7, 8, 9, 10, 11, 12, 13, 14, 15] (by decide +kernel) (by decide +kernel)
set_option maxRecDepth 20000 in
theorem gX0_intAt_X0_byteAt : GoodIn wsX0_intAt (wsV RX0 41 RX0 yX0_byteAt wsX0_byteAt) := goodIn_app (goodIn_of _ (by decide +kernel)) ggX0_intAt_X0_byteAt
theorem dX0_intAt_0 : decode cX0_intAt 0 = .ok (.aload_n 0, 1) := by decide +kernel
theorem dX0_intAt_1 : decode cX0_intAt 1 = .ok (.iload_n 1, 1) := by decide +kernel
theorem dX0_intAt_2 : decode cX0_intAt 2 = .ok (.invokevirtual 41, 3) := by decide +kernel
theorem dX0_intAt_5 : decode cX0_intAt 5 = .ok (.aload_n 0, 1) := by decide +kernel
theorem dX0_intAt_6 : decode cX0_intAt 6 = .ok (.iload_n 1, 1) := by decide +kernel
theorem dX0_intAt_7 : decode cX0_intAt 7 = .ok (.iconst 1, 1) := by decide +kernel
theorem dX0_intAt_8 : decode cX0_intAt 8 = .ok (.iadd, 1) := by decide +kernel
theorem dX0_intAt_9 : decode cX0_intAt 9 = .ok (.invokevirtual 41, 3) := by decide +kernel
theorem dX0_intAt_12 : decode cX0_intAt 12 = .ok (.bipush 8, 2) := by decide +kernel
theorem dX0_intAt_14 : decode cX0_intAt 14 = .ok (.ishl, 1) := by decide +kernel
theorem dX0_intAt_15 : decode cX0_intAt 15 = .ok (.ior, 1) := by decide +kernel
theorem dX0_intAt_16 : decode cX0_intAt 16 = .ok (.aload_n 0, 1) := by decide +kernel
theorem dX0_intAt_17 : decode cX0_intAt 17 = .ok (.iload_n 1, 1) := by decide +kernel
theorem dX0_intAt_18 : decode cX0_intAt 18 = .ok (.iconst 2, 1) := by decide +kernel
theorem dX0_intAt_19 : decode cX0_intAt 19 = .ok (.iadd, 1) := by decide +kernel
theorem dX0_intAt_20 : decode cX0_intAt 20 = .ok (.invokevirtual 41, 3) := by decide +kernel
theorem dX0_intAt_23 : decode cX0_intAt 23 = .ok (.bipush 16, 2) := by decide +kernel
theorem dX0_intAt_25 : decode cX0_intAt 25 = .ok (.ishl, 1) := by decide +kernel
theorem dX0_intAt_26 : decode cX0_intAt 26 = .ok (.ior, 1) := by decide +kernel
theorem dX0_intAt_27 : decode cX0_intAt 27 = .ok (.aload_n 0, 1) := by decide +kernel
theorem dX0_intAt_28 : decode cX0_intAt 28 = .ok (.iload_n 1, 1) := by decide +kernel
theorem dX0_intAt_29 : decode cX0_intAt 29 = .ok (.iconst 3, 1) := by decide +kernel
theorem dX0_intAt_30 : decode cX0_intAt 30 = .ok (.iadd, 1) := by decide +kernel
theorem dX0_intAt_31 : decode cX0_intAt 31 = .ok (.invokevirtual 41, 3) := by decide +kernel
theorem dX0_intAt_34 : decode cX0_intAt 34 = .ok (.bipush 24, 2) := by decide +kernel
theorem dX0_intAt_36 : decode cX0_intAt 36 = .ok (.ishl, 1) := by decide +kernel
theorem dX0_intAt_37 : decode cX0_intAt 37 = .ok (.ior, 1) := by decide +kernel
theorem dX0_intAt_38 : decode cX0_intAt 38 = .ok (.ireturn, 1) := by decide +kernel
theorem dX0_keepBits_0 : decode cX0_keepBits 0 = .ok (.iload_n 1, 1) := by decide +kernel
theorem dX0_keepBits_1 : decode cX0_keepBits 1 = .ok (.ifCond .lt 20, 3) := by decide +kernel
theorem dX0_keepBits_4 : decode cX0_keepBits 4 = .ok (.iload_n 1, 1) := by decide +kernel
theorem dX0_keepBits_5 : decode cX0_keepBits 5 = .ok (.sipush 2816, 3) := by decide +kernel
theorem dX0_keepBits_8 : decode cX0_keepBits 8 = .ok (.if_icmp .ge 13, 3) := by decide +kernel
theorem dX0_keepBits_11 : decode cX0_keepBits 11 = .ok (.aload_n 0, 1) := by decide +kernel
theorem dX0_keepBits_12 : decode cX0_keepBits 12 = .ok (.getfield 9, 3) := by decide +kernel
theorem dX0_keepBits_15 : decode cX0_keepBits 15 = .ok (.iload_n 1, 1) := by decide +kernel
theorem dX0_keepBits_16 : decode cX0_keepBits 16 = .ok (.dup2, 1) := by decide +kernel
theorem dX0_keepBits_17 : decode cX0_keepBits 17 = .ok (.iaload, 1) := by decide +kernel
theorem dX0_keepBits_18 : decode cX0_keepBits 18 = .ok (.iload_n 2, 1) := by decide +kernel
theorem dX0_keepBits_19 : decode cX0_keepBits 19 = .ok (.iand, 1) := by decide +kernel
theorem dX0_keepBits_20 : decode cX0_keepBits 20 = .ok (.iastore, 1) := by decide +kernel
theorem dX0_keepBits_21 : decode cX0_keepBits 21 = .ok (.return_, 1) := by decide +kernel
theorem dX0_tellToGo_0 : decode cX0_tellToGo 0 = .ok (.aload_n 0, 1) := by decide +kernel
theorem dX0_tellToGo_1 : decode cX0_tellToGo 1 = .ok (.iconst 1, 1) := by decide +kernel
theorem dX0_tellToGo_2 : decode cX0_tellToGo 2 = .ok (.putfield 25, 3) := by decide +kernel
theorem dX0_tellToGo_5 : decode cX0_tellToGo 5 = .ok (.aload_n 0, 1) := by decide +kernel
theorem dX0_tellToGo_6 : decode cX0_tellToGo 6 = .ok (.iload_n 1, 1) := by decide +kernel
theorem dX0_tellToGo_7 : decode cX0_tellToGo 7 = .ok (.putfield 28, 3) := by decide +kernel
theorem dX0_tellToGo_10 : decode cX0_tellToGo 10 = .ok (.aload_n 0, 1) := by decide +kernel
theorem dX0_tellToGo_11 : decode cX0_tellToGo 11 = .ok (.iload_n 2, 1) := by decide +kernel
theorem dX0_tellToGo_12 : decode cX0_tellToGo 12 = .ok (.putfield 32, 3) := by decide +kernel
theorem dX0_tellToGo_15 : decode cX0_tellToGo 15 = .ok (.return_, 1) := by decide +kernel
theorem dX0_powerComes_0 : decode cX0_powerComes 0 = .ok (.aload_n 0, 1) := by decide +kernel
theorem dX0_powerComes_1 : decode cX0_powerComes 1 = .ok (.iconst 0, 1) := by decide +kernel
theorem dX0_powerComes_2 : decode cX0_powerComes 2 = .ok (.putfield 21, 3) := by decide +kernel
theorem dX0_powerComes_5 : decode cX0_powerComes 5 = .ok (.aload_n 0, 1) := by decide +kernel
theorem dX0_powerComes_6 : decode cX0_powerComes 6 = .ok (.iconst 0, 1) := by decide +kernel
theorem dX0_powerComes_7 : decode cX0_powerComes 7 = .ok (.putfield 25, 3) := by decide +kernel
theorem dX0_powerComes_10 : decode cX0_powerComes 10 = .ok (.return_, 1) := by decide +kernel
theorem dX0_actsStillDone_0 : decode cX0_actsStillDone 0 = .ok (.aload_n 0, 1) := by decide +kernel
theorem dX0_actsStillDone_1 : decode cX0_actsStillDone 1 = .ok (.getfield 21, 3) := by decide +kernel
theorem dX0_actsStillDone_4 : decode cX0_actsStillDone 4 = .ok (.ifCond .eq 5, 3) := by decide +kernel
theorem dX0_actsStillDone_7 : decode cX0_actsStillDone 7 = .ok (.iconst 0, 1) := by decide +kernel
theorem dX0_actsStillDone_8 : decode cX0_actsStillDone 8 = .ok (.ireturn, 1) := by decide +kernel
theorem dX0_actsStillDone_9 : decode cX0_actsStillDone 9 = .ok (.aload_n 0, 1) := by decide +kernel
theorem dX0_actsStillDone_10 : decode cX0_actsStillDone 10 = .ok (.getfield 25, 3) := by decide +kernel
theorem dX0_actsStillDone_13 : decode cX0_actsStillDone 13 = .ok (.ifCond .eq 10, 3) := by decide +kernel
theorem dX0_actsStillDone_16 : decode cX0_actsStillDone 16 = .ok (.aload_n 0, 1) := by decide +kernel
theorem dX0_actsStillDone_17 : decode cX0_actsStillDone 17 = .ok (.getfield 28, 3) := by decide +kernel
theorem dX0_actsStillDone_20 : decode cX0_actsStillDone 20 = .ok (.goto 4, 3) := by decide +kernel
theorem dX0_actsStillDone_23 : decode cX0_actsStillDone 23 = .ok (.iconst (-1), 1) := by decide +kernel
theorem dX0_actsStillDone_24 : decode cX0_actsStillDone 24 = .ok (.ireturn, 1) := by decide +kernel
theorem dX0_beginAct_0 : decode cX0_beginAct 0 = .ok (.aload_n 0, 1) := by decide +kernel
theorem dX0_beginAct_1 : decode cX0_beginAct 1 = .ok (.getfield 21, 3) := by decide +kernel
theorem dX0_beginAct_4 : decode cX0_beginAct 4 = .ok (.ifCond .eq 5, 3) := by decide +kernel
theorem dX0_beginAct_7 : decode cX0_beginAct 7 = .ok (.iconst 0, 1) := by decide +kernel
theorem dX0_beginAct_8 : decode cX0_beginAct 8 = .ok (.ireturn, 1) := by decide +kernel
theorem dX0_beginAct_9 : decode cX0_beginAct 9 = .ok (.aload_n 0, 1) := by decide +kernel
theorem dX0_beginAct_10 : decode cX0_beginAct 10 = .ok (.getfield 25, 3) := by decide +kernel
theorem dX0_beginAct_13 : decode cX0_beginAct 13 = .ok (.ifCond .eq 27, 3) := by decide +kernel
theorem dX0_beginAct_16 : decode cX0_beginAct 16 = .ok (.aload_n 0, 1) := by decide +kernel
theorem dX0_beginAct_17 : decode cX0_beginAct 17 = .ok (.getfield 28, 3) := by decide +kernel
theorem dX0_beginAct_20 : decode cX0_beginAct 20 = .ok (.ifCond .ne 20, 3) := by decide +kernel
theorem dX0_beginAct_23 : decode cX0_beginAct 23 = .ok (.aload_n 0, 1) := by decide +kernel
theorem dX0_beginAct_24 : decode cX0_beginAct 24 = .ok (.iconst 1, 1) := by decide +kernel
theorem dX0_beginAct_25 : decode cX0_beginAct 25 = .ok (.putfield 21, 3) := by decide +kernel
theorem dX0_beginAct_28 : decode cX0_beginAct 28 = .ok (.aload_n 0, 1) := by decide +kernel
theorem dX0_beginAct_29 : decode cX0_beginAct 29 = .ok (.dup, 1) := by decide +kernel
theorem dX0_beginAct_30 : decode cX0_beginAct 30 = .ok (.getfield 38, 3) := by decide +kernel
theorem dX0_beginAct_33 : decode cX0_beginAct 33 = .ok (.iconst 1, 1) := by decide +kernel
theorem dX0_beginAct_34 : decode cX0_beginAct 34 = .ok (.iadd, 1) := by decide +kernel
theorem dX0_beginAct_35 : decode cX0_beginAct 35 = .ok (.putfield 38, 3) := by decide +kernel
theorem dX0_beginAct_38 : decode cX0_beginAct 38 = .ok (.iconst 0, 1) := by decide +kernel
theorem dX0_beginAct_39 : decode cX0_beginAct 39 = .ok (.ireturn, 1) := by decide +kernel
theorem dX0_beginAct_40 : decode cX0_beginAct 40 = .ok (.aload_n 0, 1) := by decide +kernel
theorem dX0_beginAct_41 : decode cX0_beginAct 41 = .ok (.getfield 25, 3) := by decide +kernel
theorem dX0_beginAct_44 : decode cX0_beginAct 44 = .ok (.ifCond .eq 13, 3) := by decide +kernel
theorem dX0_beginAct_47 : decode cX0_beginAct 47 = .ok (.aload_n 0, 1) := by decide +kernel
theorem dX0_beginAct_48 : decode cX0_beginAct 48 = .ok (.dup, 1) := by decide +kernel
theorem dX0_beginAct_49 : decode cX0_beginAct 49 = .ok (.getfield 28, 3) := by decide +kernel
theorem dX0_beginAct_52 : decode cX0_beginAct 52 = .ok (.iconst 1, 1) := by decide +kernel
theorem dX0_beginAct_53 : decode cX0_beginAct 53 = .ok (.isub, 1) := by decide +kernel
theorem dX0_beginAct_54 : decode cX0_beginAct 54 = .ok (.putfield 28, 3) := by decide +kernel
theorem dX0_beginAct_57 : decode cX0_beginAct 57 = .ok (.aload_n 0, 1) := by decide +kernel
theorem dX0_beginAct_58 : decode cX0_beginAct 58 = .ok (.dup, 1) := by decide +kernel
theorem dX0_beginAct_59 : decode cX0_beginAct 59 = .ok (.getfield 35, 3) := by decide +kernel
theorem dX0_beginAct_62 : decode cX0_beginAct 62 = .ok (.iconst 1, 1) := by decide +kernel
theorem dX0_beginAct_63 : decode cX0_beginAct 63 = .ok (.iadd, 1) := by decide +kernel
theorem dX0_beginAct_64 : decode cX0_beginAct 64 = .ok (.putfield 35, 3) := by decide +kernel
theorem dX0_beginAct_67 : decode cX0_beginAct 67 = .ok (.iconst 1, 1) := by decide +kernel
theorem dX0_beginAct_68 : decode cX0_beginAct 68 = .ok (.ireturn, 1) := by decide +kernel
set_option maxRecDepth 20000 in
theorem ggX0_eraseSector_X0_hasSector : GoodIn wsX0_eraseSector wsX0_hasSector := goodIn_r _ [8] (by decide +kernel) (by decide +kernel)
set_option maxRecDepth 20000 in
theorem gX0_eraseSector_X0_hasSector : GoodIn wsX0_eraseSector (va_wsS RX0 45 yX0_hasSector wsX0_hasSector) := goodIn_app (goodIn_of _ (by decide +kernel)) ggX0_eraseSector_X0_hasSector
set_option maxRecDepth 20000 in
theorem ggX0_eraseSector_X0_beginAct : GoodIn wsX0_eraseSector wsX0_beginAct := goodIn_r _ [12, 1, 13, 14, 15, 16, 20, 21, 22, 23, 24, 25, 26, 27, 28] (by decide +kernel) (by decide +kernel)
set_option maxRecDepth 20000 in
theorem gX0_eraseSector_X0_beginAct : GoodIn wsX0_eraseSector (wsV RX0 49 RX0 yX0_beginAct wsX0_beginAct) := goodIn_app (goodIn_of _ (by decide +kernel)) ggX0_eraseSector_X0_beginAct
set_option maxRecDepth 20000 in
theorem ggX0_eraseSector_X0_has : GoodIn wsX0_eraseSector wsX0_has := goodIn_r _ [19] (by decide +kernel) (by decide +kernel)
set_option maxRecDepth 20000 in
theorem gX0_eraseSector_X0_has : GoodIn wsX0_eraseSector (va_wsS RX0 53 yX0_has wsX0_has) := goodIn_app (goodIn_of _ (by decide +kernel)) ggX0_eraseSector_X0_has
theorem dX0_eraseSector_0 : decode cX0_eraseSector 0 = .ok (.aload_n 0, 1) := by decide +kernel
theorem dX0_eraseSector_1 : decode cX0_eraseSector 1 = .ok (.getfield 21, 3) := by decide +kernel
theorem dX0_eraseSector_4 : decode cX0_eraseSector 4 = .ok (.ifCond .ne 10, 3) := by decide +kernel
theorem dX0_eraseSector_7 : decode cX0_eraseSector 7 = .ok (.iload_n 1, 1) := by decide +kernel
theorem dX0_eraseSector_8 : decode cX0_eraseSector 8 = .ok (.invokestatic 45, 3) := by decide +kernel
theorem dX0_eraseSector_11 : decode cX0_eraseSector 11 = .ok (.ifCond .ne 5, 3) := by decide +kernel
theorem dX0_eraseSector_14 : decode cX0_eraseSector 14 = .ok (.iconst 0, 1) := by decide +kernel
theorem dX0_eraseSector_15 : decode cX0_eraseSector 15 = .ok (.ireturn, 1) := by decide +kernel
theorem dX0_eraseSector_16 : decode cX0_eraseSector 16 = .ok (.aload_n 0, 1) := by decide +kernel
theorem dX0_eraseSector_17 : decode cX0_eraseSector 17 = .ok (.getfield 15, 3) := by decide +kernel
theorem dX0_eraseSector_20 : decode cX0_eraseSector 20 = .ok (.iload_n 1, 1) := by decide +kernel
theorem dX0_eraseSector_21 : decode cX0_eraseSector 21 = .ok (.dup2, 1) := by decide +kernel
theorem dX0_eraseSector_22 : decode cX0_eraseSector 22 = .ok (.iaload, 1) := by decide +kernel
theorem dX0_eraseSector_23 : decode cX0_eraseSector 23 = .ok (.iconst 1, 1) := by decide +kernel
theorem dX0_eraseSector_24 : decode cX0_eraseSector 24 = .ok (.iadd, 1) := by decide +kernel
theorem dX0_eraseSector_25 : decode cX0_eraseSector 25 = .ok (.iastore, 1) := by decide +kernel
theorem dX0_eraseSector_26 : decode cX0_eraseSector 26 = .ok (.aload_n 0, 1) := by decide +kernel
theorem dX0_eraseSector_27 : decode cX0_eraseSector 27 = .ok (.invokevirtual 49, 3) := by decide +kernel
theorem dX0_eraseSector_30 : decode cX0_eraseSector 30 = .ok (.istore_n 2, 1) := by decide +kernel
theorem dX0_eraseSector_31 : decode cX0_eraseSector 31 = .ok (.iload_n 2, 1) := by decide +kernel
theorem dX0_eraseSector_32 : decode cX0_eraseSector 32 = .ok (.ifCond .eq 8, 3) := by decide +kernel
theorem dX0_eraseSector_35 : decode cX0_eraseSector 35 = .ok (.bipush 32, 2) := by decide +kernel
theorem dX0_eraseSector_37 : decode cX0_eraseSector 37 = .ok (.goto 7, 3) := by decide +kernel
theorem dX0_eraseSector_40 : decode cX0_eraseSector 40 = .ok (.aload_n 0, 1) := by decide +kernel
theorem dX0_eraseSector_41 : decode cX0_eraseSector 41 = .ok (.getfield 32, 3) := by decide +kernel
theorem dX0_eraseSector_44 : decode cX0_eraseSector 44 = .ok (.istore_n 3, 1) := by decide +kernel
theorem dX0_eraseSector_45 : decode cX0_eraseSector 45 = .ok (.iload_n 1, 1) := by decide +kernel
theorem dX0_eraseSector_46 : decode cX0_eraseSector 46 = .ok (.sipush 256, 3) := by decide +kernel
theorem dX0_eraseSector_49 : decode cX0_eraseSector 49 = .ok (.imul, 1) := by decide +kernel
theorem dX0_eraseSector_50 : decode cX0_eraseSector 50 = .ok (.istore 4, 2) := by decide +kernel
theorem dX0_eraseSector_52 : decode cX0_eraseSector 52 = .ok (.iconst 0, 1) := by decide +kernel
theorem dX0_eraseSector_53 : decode cX0_eraseSector 53 = .ok (.istore 5, 2) := by decide +kernel
theorem dX0_eraseSector_55 : decode cX0_eraseSector 55 = .ok (.iload 5, 2) := by decide +kernel
theorem dX0_eraseSector_57 : decode cX0_eraseSector 57 = .ok (.iload_n 3, 1) := by decide +kernel
theorem dX0_eraseSector_58 : decode cX0_eraseSector 58 = .ok (.bipush 8, 2) := by decide +kernel
theorem dX0_eraseSector_60 : decode cX0_eraseSector 60 = .ok (.imul, 1) := by decide +kernel
theorem dX0_eraseSector_61 : decode cX0_eraseSector 61 = .ok (.if_icmp .ge 33, 3) := by decide +kernel
theorem dX0_eraseSector_64 : decode cX0_eraseSector 64 = .ok (.iload 4, 2) := by decide +kernel
theorem dX0_eraseSector_66 : decode cX0_eraseSector 66 = .ok (.iload 5, 2) := by decide +kernel
theorem dX0_eraseSector_68 : decode cX0_eraseSector 68 = .ok (.iadd, 1) := by decide +kernel
theorem dX0_eraseSector_69 : decode cX0_eraseSector 69 = .ok (.invokestatic 53, 3) := by decide +kernel
theorem dX0_eraseSector_72 : decode cX0_eraseSector 72 = .ok (.ifCond .eq 16, 3) := by decide +kernel
theorem dX0_eraseSector_75 : decode cX0_eraseSector 75 = .ok (.aload_n 0, 1) := by decide +kernel
theorem dX0_eraseSector_76 : decode cX0_eraseSector 76 = .ok (.getfield 9, 3) := by decide +kernel
theorem dX0_eraseSector_79 : decode cX0_eraseSector 79 = .ok (.iload 4, 2) := by decide +kernel
theorem dX0_eraseSector_81 : decode cX0_eraseSector 81 = .ok (.iload 5, 2) := by decide +kernel
theorem dX0_eraseSector_83 : decode cX0_eraseSector 83 = .ok (.iadd, 1) := by decide +kernel
theorem dX0_eraseSector_84 : decode cX0_eraseSector 84 = .ok (.sipush 255, 3) := by decide +kernel
theorem dX0_eraseSector_87 : decode cX0_eraseSector 87 = .ok (.iastore, 1) := by decide +kernel
theorem dX0_eraseSector_88 : decode cX0_eraseSector 88 = .ok (.iinc 5 1, 3) := by decide +kernel
theorem dX0_eraseSector_91 : decode cX0_eraseSector 91 = .ok (.goto (-36), 3) := by decide +kernel
theorem dX0_eraseSector_94 : decode cX0_eraseSector 94 = .ok (.iload_n 2, 1) := by decide +kernel
theorem dX0_eraseSector_95 : decode cX0_eraseSector 95 = .ok (.ireturn, 1) := by decide +kernel
set_option maxRecDepth 20000 in
theorem ggX0_replaceSector_X0_eraseSector : GoodIn wsX0_replaceSector wsX0_eraseSector := goodIn_r _ [6, 7, 8, 9, 1, 10, 11, 5, 12, 13, 14, 15, 16, 17, 18, 19, 20, 21, 22, 23, 40, 41, 42, 43, 44, 45, 46, 47, 48] (by decide +kernel) (by decide +kernel)
set_option maxRecDepth 20000 in
theorem gX0_replaceSector_X0_eraseSector : GoodIn wsX0_replaceSector (wsV RX0 56 RX0 yX0_eraseSector wsX0_eraseSector) := goodIn_app (goodIn_of _ (by decide +kernel)) ggX0_replaceSector_X0_eraseSector
set_option maxRecDepth 20000 in
theorem ggX0_replaceSector_X0_unitAt : GoodIn wsX0_replaceSector wsX0_unitAt := goodIn_r _ [26] (by decide +kernel) (by decide +kernel)
set_option maxRecDepth 20000 in
theorem gX0_replaceSector_X0_unitAt : GoodIn wsX0_replaceSector (va_wsS RX0 59 yX0_unitAt wsX0_unitAt) := goodIn_app (goodIn_of _ (by decide +kernel)) ggX0_replaceSector_X0_unitAt
set_option maxRecDepth 20000 in
theorem ggX0_replaceSector_X0_writeUnit : GoodIn wsX0_replaceSector wsX0_writeUnit := goodIn_r _ [30, 31, 32, 33, 34, 5, 35, 13, 14, 15, 16, 7, 17, 18, 19, 20, 36, 37, 38, 39, 1, 40, 41, 42, 43, 44, 45, 46, 47, 48] (by decide +kernel) (by decide +kernel)
set_option maxRecDepth 20000 in
theorem gX0_replaceSector_X0_writeUnit : GoodIn wsX0_replaceSector (wsV RX0 63 RX0 yX0_writeUnit wsX0_writeUnit) := goodIn_app (goodIn_of _ (by decide +kernel)) ggX0_replaceSector_X0_writeUnit
theorem dX0_replaceSector_0 : decode cX0_replaceSector 0 = .ok (.aload_n 0, 1) := by decide +kernel
theorem dX0_replaceSector_1 : decode cX0_replaceSector 1 = .ok (.iload_n 1, 1) := by decide +kernel
theorem dX0_replaceSector_2 : decode cX0_replaceSector 2 = .ok (.invokevirtual 56, 3) := by decide +kernel
theorem dX0_replaceSector_5 : decode cX0_replaceSector 5 = .ok (.ifCond .ne 5, 3) := by decide +kernel
theorem dX0_replaceSector_8 : decode cX0_replaceSector 8 = .ok (.iconst 0, 1) := by decide +kernel
theorem dX0_replaceSector_9 : decode cX0_replaceSector 9 = .ok (.ireturn, 1) := by decide +kernel
theorem dX0_replaceSector_10 : decode cX0_replaceSector 10 = .ok (.iconst 0, 1) := by decide +kernel
theorem dX0_replaceSector_11 : decode cX0_replaceSector 11 = .ok (.istore_n 3, 1) := by decide +kernel
theorem dX0_replaceSector_12 : decode cX0_replaceSector 12 = .ok (.iload_n 3, 1) := by decide +kernel
theorem dX0_replaceSector_13 : decode cX0_replaceSector 13 = .ok (.bipush 32, 2) := by decide +kernel
theorem dX0_replaceSector_15 : decode cX0_replaceSector 15 = .ok (.if_icmp .ge 35, 3) := by decide +kernel
theorem dX0_replaceSector_18 : decode cX0_replaceSector 18 = .ok (.aload_n 0, 1) := by decide +kernel
theorem dX0_replaceSector_19 : decode cX0_replaceSector 19 = .ok (.iload_n 1, 1) := by decide +kernel
theorem dX0_replaceSector_20 : decode cX0_replaceSector 20 = .ok (.iload_n 3, 1) := by decide +kernel
theorem dX0_replaceSector_21 : decode cX0_replaceSector 21 = .ok (.invokestatic 59, 3) := by decide +kernel
theorem dX0_replaceSector_24 : decode cX0_replaceSector 24 = .ok (.aload_n 0, 1) := by decide +kernel
theorem dX0_replaceSector_25 : decode cX0_replaceSector 25 = .ok (.getfield 9, 3) := by decide +kernel
theorem dX0_replaceSector_28 : decode cX0_replaceSector 28 = .ok (.iload_n 2, 1) := by decide +kernel
theorem dX0_replaceSector_29 : decode cX0_replaceSector 29 = .ok (.iload_n 3, 1) := by decide +kernel
theorem dX0_replaceSector_30 : decode cX0_replaceSector 30 = .ok (.invokestatic 59, 3) := by decide +kernel
theorem dX0_replaceSector_33 : decode cX0_replaceSector 33 = .ok (.sipush 2816, 3) := by decide +kernel
theorem dX0_replaceSector_36 : decode cX0_replaceSector 36 = .ok (.invokevirtual 63, 3) := by decide +kernel
theorem dX0_replaceSector_39 : decode cX0_replaceSector 39 = .ok (.ifCond .ne 5, 3) := by decide +kernel
theorem dX0_replaceSector_42 : decode cX0_replaceSector 42 = .ok (.iconst 0, 1) := by decide +kernel
theorem dX0_replaceSector_43 : decode cX0_replaceSector 43 = .ok (.ireturn, 1) := by decide +kernel
theorem dX0_replaceSector_44 : decode cX0_replaceSector 44 = .ok (.iinc 3 1, 3) := by decide +kernel
theorem dX0_replaceSector_47 : decode cX0_replaceSector 47 = .ok (.goto (-35), 3) := by decide +kernel
theorem dX0_replaceSector_50 : decode cX0_replaceSector 50 = .ok (.iconst 1, 1) := by decide +kernel
theorem dX0_replaceSector_51 : decode cX0_replaceSector 51 = .ok (.ireturn, 1) := by decide +kernel
set_option maxRecDepth 20000 in
theorem ggX0_writeRow_X0_writeUnit : GoodIn wsX0_writeRow wsX0_writeUnit := goodIn_r _ [5, 6, 7, 8, 9, 4, 10, 11, 12, 13, 14, 15, 16, 17, 18, 19, 20, 21, 22, 23, 24, 25, 26, 27, 28, 29, 30, 31, 32, 33] (by decide +kernel) (by decide +kernel)
set_option maxRecDepth 20000 in
theorem gX0_writeRow_X0_writeUnit : GoodIn wsX0_writeRow (wsV RX0 63 RX0 yX0_writeUnit wsX0_writeUnit) := goodIn_app (goodIn_of _ (by decide +kernel)) ggX0_writeRow_X0_writeUnit
theorem dX0_writeRow_0 : decode cX0_writeRow 0 = .ok (.iconst 0, 1) := by decide +kernel
theorem dX0_writeRow_1 : decode cX0_writeRow 1 = .ok (.istore 4, 2) := by decide +kernel
theorem dX0_writeRow_3 : decode cX0_writeRow 3 = .ok (.iload 4, 2) := by decide +kernel
theorem dX0_writeRow_5 : decode cX0_writeRow 5 = .ok (.iload_n 3, 1) := by decide +kernel
theorem dX0_writeRow_6 : decode cX0_writeRow 6 = .ok (.if_icmp .ge 26, 3) := by decide +kernel
theorem dX0_writeRow_9 : decode cX0_writeRow 9 = .ok (.aload_n 0, 1) := by decide +kernel
theorem dX0_writeRow_10 : decode cX0_writeRow 10 = .ok (.iload_n 1, 1) := by decide +kernel
theorem dX0_writeRow_11 : decode cX0_writeRow 11 = .ok (.iload 4, 2) := by decide +kernel
theorem dX0_writeRow_13 : decode cX0_writeRow 13 = .ok (.iadd, 1) := by decide +kernel
theorem dX0_writeRow_14 : decode cX0_writeRow 14 = .ok (.aload_n 2, 1) := by decide +kernel
theorem dX0_writeRow_15 : decode cX0_writeRow 15 = .ok (.iload 4, 2) := by decide +kernel
theorem dX0_writeRow_17 : decode cX0_writeRow 17 = .ok (.iload_n 3, 1) := by decide +kernel
theorem dX0_writeRow_18 : decode cX0_writeRow 18 = .ok (.invokevirtual 63, 3) := by decide +kernel
theorem dX0_writeRow_21 : decode cX0_writeRow 21 = .ok (.ifCond .ne 5, 3) := by decide +kernel
theorem dX0_writeRow_24 : decode cX0_writeRow 24 = .ok (.iconst 0, 1) := by decide +kernel
theorem dX0_writeRow_25 : decode cX0_writeRow 25 = .ok (.ireturn, 1) := by decide +kernel
theorem dX0_writeRow_26 : decode cX0_writeRow 26 = .ok (.iinc 4 8, 3) := by decide +kernel
theorem dX0_writeRow_29 : decode cX0_writeRow 29 = .ok (.goto (-26), 3) := by decide +kernel
theorem dX0_writeRow_32 : decode cX0_writeRow 32 = .ok (.iconst 1, 1) := by decide +kernel
theorem dX0_writeRow_33 : decode cX0_writeRow 33 = .ok (.ireturn, 1) := by decide +kernel
set_option maxRecDepth 20000 in
theorem ggX0_writeUnit_X0_isBlankWhenTaken : GoodIn wsX0_writeUnit wsX0_isBlankWhenTaken := goodIn_r _ [6, 1, 21, 22, 23, 24, 25, 26, 27, 28, 29] (by decide +kernel) (by decide +kernel)
set_option maxRecDepth 20000 in
theorem gX0_writeUnit_X0_isBlankWhenTaken : GoodIn wsX0_writeUnit (wsV RX0 67 RX0 yX0_isBlankWhenTaken wsX0_isBlankWhenTaken) := goodIn_app (goodIn_of _ (by decide +kernel)) ggX0_writeUnit_X0_isBlankWhenTaken
set_option maxRecDepth 20000 in
theorem ggX0_writeUnit_X0_beginAct : GoodIn wsX0_writeUnit wsX0_beginAct := goodIn_r _ [10, 11, 12, 13, 14, 15, 21, 22, 23, 24, 25, 26, 27, 28, 29] (by decide +kernel) (by decide +kernel)
set_option maxRecDepth 20000 in
theorem gX0_writeUnit_X0_beginAct : GoodIn wsX0_writeUnit (wsV RX0 49 RX0 yX0_beginAct wsX0_beginAct) := goodIn_app (goodIn_of _ (by decide +kernel)) ggX0_writeUnit_X0_beginAct
set_option maxRecDepth 20000 in
theorem ggX0_writeUnit_X0_keepBits : GoodIn wsX0_writeUnit wsX0_keepBits := goodIn_r _ [19, 20, 21, 22, 23, 24, 25, 26, 27, 28, 29] (by decide +kernel) (by decide +kernel)
set_option maxRecDepth 20000 in
theorem gX0_writeUnit_X0_keepBits : GoodIn wsX0_writeUnit (wsV RX0 71 RX0 yX0_keepBits wsX0_keepBits) := goodIn_app (goodIn_of _ (by decide +kernel)) ggX0_writeUnit_X0_keepBits
theorem dX0_writeUnit_0 : decode cX0_writeUnit 0 = .ok (.aload_n 0, 1) := by decide +kernel
theorem dX0_writeUnit_1 : decode cX0_writeUnit 1 = .ok (.aload_n 2, 1) := by decide +kernel
theorem dX0_writeUnit_2 : decode cX0_writeUnit 2 = .ok (.iload_n 3, 1) := by decide +kernel
theorem dX0_writeUnit_3 : decode cX0_writeUnit 3 = .ok (.iload 4, 2) := by decide +kernel
theorem dX0_writeUnit_5 : decode cX0_writeUnit 5 = .ok (.invokevirtual 67, 3) := by decide +kernel
theorem dX0_writeUnit_8 : decode cX0_writeUnit 8 = .ok (.ifCond .eq 5, 3) := by decide +kernel
theorem dX0_writeUnit_11 : decode cX0_writeUnit 11 = .ok (.iconst 1, 1) := by decide +kernel
theorem dX0_writeUnit_12 : decode cX0_writeUnit 12 = .ok (.ireturn, 1) := by decide +kernel
theorem dX0_writeUnit_13 : decode cX0_writeUnit 13 = .ok (.aload_n 0, 1) := by decide +kernel
theorem dX0_writeUnit_14 : decode cX0_writeUnit 14 = .ok (.invokevirtual 49, 3) := by decide +kernel
theorem dX0_writeUnit_17 : decode cX0_writeUnit 17 = .ok (.ifCond .ne 5, 3) := by decide +kernel
theorem dX0_writeUnit_20 : decode cX0_writeUnit 20 = .ok (.iconst 0, 1) := by decide +kernel
theorem dX0_writeUnit_21 : decode cX0_writeUnit 21 = .ok (.ireturn, 1) := by decide +kernel
theorem dX0_writeUnit_22 : decode cX0_writeUnit 22 = .ok (.iconst 0, 1) := by decide +kernel
theorem dX0_writeUnit_23 : decode cX0_writeUnit 23 = .ok (.istore 5, 2) := by decide +kernel
theorem dX0_writeUnit_25 : decode cX0_writeUnit 25 = .ok (.iload 5, 2) := by decide +kernel
theorem dX0_writeUnit_27 : decode cX0_writeUnit 27 = .ok (.bipush 8, 2) := by decide +kernel
theorem dX0_writeUnit_29 : decode cX0_writeUnit 29 = .ok (.if_icmp .ge 24, 3) := by decide +kernel
theorem dX0_writeUnit_32 : decode cX0_writeUnit 32 = .ok (.aload_n 0, 1) := by decide +kernel
theorem dX0_writeUnit_33 : decode cX0_writeUnit 33 = .ok (.iload_n 1, 1) := by decide +kernel
theorem dX0_writeUnit_34 : decode cX0_writeUnit 34 = .ok (.iload 5, 2) := by decide +kernel
theorem dX0_writeUnit_36 : decode cX0_writeUnit 36 = .ok (.iadd, 1) := by decide +kernel
theorem dX0_writeUnit_37 : decode cX0_writeUnit 37 = .ok (.aload_n 0, 1) := by decide +kernel
theorem dX0_writeUnit_38 : decode cX0_writeUnit 38 = .ok (.getfield 18, 3) := by decide +kernel
theorem dX0_writeUnit_41 : decode cX0_writeUnit 41 = .ok (.iload 5, 2) := by decide +kernel
theorem dX0_writeUnit_43 : decode cX0_writeUnit 43 = .ok (.iaload, 1) := by decide +kernel
theorem dX0_writeUnit_44 : decode cX0_writeUnit 44 = .ok (.invokevirtual 71, 3) := by decide +kernel
theorem dX0_writeUnit_47 : decode cX0_writeUnit 47 = .ok (.iinc 5 1, 3) := by decide +kernel
theorem dX0_writeUnit_50 : decode cX0_writeUnit 50 = .ok (.goto (-25), 3) := by decide +kernel
theorem dX0_writeUnit_53 : decode cX0_writeUnit 53 = .ok (.iconst 1, 1) := by decide +kernel
theorem dX0_writeUnit_54 : decode cX0_writeUnit 54 = .ok (.ireturn, 1) := by decide +kernel
theorem dX0_isBlankWhenTaken_0 : decode cX0_isBlankWhenTaken 0 = .ok (.iconst 1, 1) := by decide +kernel
theorem dX0_isBlankWhenTaken_1 : decode cX0_isBlankWhenTaken 1 = .ok (.istore 4, 2) := by decide +kernel
theorem dX0_isBlankWhenTaken_3 : decode cX0_isBlankWhenTaken 3 = .ok (.iconst 0, 1) := by decide +kernel
theorem dX0_isBlankWhenTaken_4 : decode cX0_isBlankWhenTaken 4 = .ok (.istore 5, 2) := by decide +kernel
theorem dX0_isBlankWhenTaken_6 : decode cX0_isBlankWhenTaken 6 = .ok (.iload 5, 2) := by decide +kernel
theorem dX0_isBlankWhenTaken_8 : decode cX0_isBlankWhenTaken 8 = .ok (.bipush 8, 2) := by decide +kernel
theorem dX0_isBlankWhenTaken_10 : decode cX0_isBlankWhenTaken 10 = .ok (.if_icmp .ge 91, 3) := by decide +kernel
theorem dX0_isBlankWhenTaken_13 : decode cX0_isBlankWhenTaken 13 = .ok (.iload_n 2, 1) := by decide +kernel
theorem dX0_isBlankWhenTaken_14 : decode cX0_isBlankWhenTaken 14 = .ok (.iload 5, 2) := by decide +kernel
theorem dX0_isBlankWhenTaken_16 : decode cX0_isBlankWhenTaken 16 = .ok (.iadd, 1) := by decide +kernel
theorem dX0_isBlankWhenTaken_17 : decode cX0_isBlankWhenTaken 17 = .ok (.istore 6, 2) := by decide +kernel
theorem dX0_isBlankWhenTaken_19 : decode cX0_isBlankWhenTaken 19 = .ok (.aload_n 1, 1) := by decide +kernel
theorem dX0_isBlankWhenTaken_20 : decode cX0_isBlankWhenTaken 20 = .ok (.ifnull 25, 3) := by decide +kernel
theorem dX0_isBlankWhenTaken_23 : decode cX0_isBlankWhenTaken 23 = .ok (.iload 6, 2) := by decide +kernel
theorem dX0_isBlankWhenTaken_25 : decode cX0_isBlankWhenTaken 25 = .ok (.ifCond .lt 20, 3) := by decide +kernel
theorem dX0_isBlankWhenTaken_28 : decode cX0_isBlankWhenTaken 28 = .ok (.iload 6, 2) := by decide +kernel
theorem dX0_isBlankWhenTaken_30 : decode cX0_isBlankWhenTaken 30 = .ok (.iload_n 3, 1) := by decide +kernel
theorem dX0_isBlankWhenTaken_31 : decode cX0_isBlankWhenTaken 31 = .ok (.if_icmp .ge 14, 3) := by decide +kernel
theorem dX0_isBlankWhenTaken_34 : decode cX0_isBlankWhenTaken 34 = .ok (.iload 6, 2) := by decide +kernel
theorem dX0_isBlankWhenTaken_36 : decode cX0_isBlankWhenTaken 36 = .ok (.aload_n 1, 1) := by decide +kernel
theorem dX0_isBlankWhenTaken_37 : decode cX0_isBlankWhenTaken 37 = .ok (.arraylength, 1) := by decide +kernel
theorem dX0_isBlankWhenTaken_38 : decode cX0_isBlankWhenTaken 38 = .ok (.if_icmp .ge 7, 3) := by decide +kernel
theorem dX0_isBlankWhenTaken_41 : decode cX0_isBlankWhenTaken 41 = .ok (.iconst 1, 1) := by decide +kernel
theorem dX0_isBlankWhenTaken_42 : decode cX0_isBlankWhenTaken 42 = .ok (.goto 4, 3) := by decide +kernel
theorem dX0_isBlankWhenTaken_45 : decode cX0_isBlankWhenTaken 45 = .ok (.iconst 0, 1) := by decide +kernel
theorem dX0_isBlankWhenTaken_46 : decode cX0_isBlankWhenTaken 46 = .ok (.istore 7, 2) := by decide +kernel
theorem dX0_isBlankWhenTaken_48 : decode cX0_isBlankWhenTaken 48 = .ok (.aload_n 0, 1) := by decide +kernel
theorem dX0_isBlankWhenTaken_49 : decode cX0_isBlankWhenTaken 49 = .ok (.getfield 18, 3) := by decide +kernel
theorem dX0_isBlankWhenTaken_52 : decode cX0_isBlankWhenTaken 52 = .ok (.iload 5, 2) := by decide +kernel
theorem dX0_isBlankWhenTaken_54 : decode cX0_isBlankWhenTaken 54 = .ok (.iload 7, 2) := by decide +kernel
theorem dX0_isBlankWhenTaken_56 : decode cX0_isBlankWhenTaken 56 = .ok (.ifCond .eq 10, 3) := by decide +kernel
theorem dX0_isBlankWhenTaken_59 : decode cX0_isBlankWhenTaken 59 = .ok (.aload_n 1, 1) := by decide +kernel
theorem dX0_isBlankWhenTaken_60 : decode cX0_isBlankWhenTaken 60 = .ok (.iload 6, 2) := by decide +kernel
theorem dX0_isBlankWhenTaken_62 : decode cX0_isBlankWhenTaken 62 = .ok (.iaload, 1) := by decide +kernel
theorem dX0_isBlankWhenTaken_63 : decode cX0_isBlankWhenTaken 63 = .ok (.goto 6, 3) := by decide +kernel
theorem dX0_isBlankWhenTaken_66 : decode cX0_isBlankWhenTaken 66 = .ok (.sipush 255, 3) := by decide +kernel
theorem dX0_isBlankWhenTaken_69 : decode cX0_isBlankWhenTaken 69 = .ok (.iastore, 1) := by decide +kernel
theorem dX0_isBlankWhenTaken_70 : decode cX0_isBlankWhenTaken 70 = .ok (.iload 4, 2) := by decide +kernel
theorem dX0_isBlankWhenTaken_72 : decode cX0_isBlankWhenTaken 72 = .ok (.ifCond .eq 20, 3) := by decide +kernel
theorem dX0_isBlankWhenTaken_75 : decode cX0_isBlankWhenTaken 75 = .ok (.aload_n 0, 1) := by decide +kernel
theorem dX0_isBlankWhenTaken_76 : decode cX0_isBlankWhenTaken 76 = .ok (.getfield 18, 3) := by decide +kernel
theorem dX0_isBlankWhenTaken_79 : decode cX0_isBlankWhenTaken 79 = .ok (.iload 5, 2) := by decide +kernel
theorem dX0_isBlankWhenTaken_81 : decode cX0_isBlankWhenTaken 81 = .ok (.iaload, 1) := by decide +kernel
theorem dX0_isBlankWhenTaken_82 : decode cX0_isBlankWhenTaken 82 = .ok (.sipush 255, 3) := by decide +kernel
theorem dX0_isBlankWhenTaken_85 : decode cX0_isBlankWhenTaken 85 = .ok (.if_icmp .ne 7, 3) := by decide +kernel
theorem dX0_isBlankWhenTaken_88 : decode cX0_isBlankWhenTaken 88 = .ok (.iconst 1, 1) := by decide +kernel
theorem dX0_isBlankWhenTaken_89 : decode cX0_isBlankWhenTaken 89 = .ok (.goto 4, 3) := by decide +kernel
theorem dX0_isBlankWhenTaken_92 : decode cX0_isBlankWhenTaken 92 = .ok (.iconst 0, 1) := by decide +kernel
theorem dX0_isBlankWhenTaken_93 : decode cX0_isBlankWhenTaken 93 = .ok (.istore 4, 2) := by decide +kernel
theorem dX0_isBlankWhenTaken_95 : decode cX0_isBlankWhenTaken 95 = .ok (.iinc 5 1, 3) := by decide +kernel
theorem dX0_isBlankWhenTaken_98 : decode cX0_isBlankWhenTaken 98 = .ok (.goto (-92), 3) := by decide +kernel
theorem dX0_isBlankWhenTaken_101 : decode cX0_isBlankWhenTaken 101 = .ok (.iload 4, 2) := by decide +kernel
theorem dX0_isBlankWhenTaken_103 : decode cX0_isBlankWhenTaken 103 = .ok (.ireturn, 1) := by decide +kernel
set_option maxRecDepth 20000 in
theorem ggX0_markUnit_X0_beginAct : GoodIn wsX0_markUnit wsX0_beginAct := goodIn_r _ [5, 6, 7, 8, 9, 10, 19, 20, 21, 22, 23, 24, 25, 26, 27] (by decide +kernel) (by decide +kernel)
set_option maxRecDepth 20000 in
theorem gX0_markUnit_X0_beginAct : GoodIn wsX0_markUnit (wsV RX0 49 RX0 yX0_beginAct wsX0_beginAct) := goodIn_app (goodIn_of _ (by decide +kernel)) ggX0_markUnit_X0_beginAct
set_option maxRecDepth 20000 in
theorem ggX0_markUnit_X0_unitAt : GoodIn wsX0_markUnit wsX0_unitAt := goodIn_r _ [13] (by decide +kernel) (by decide +kernel)
set_option maxRecDepth 20000 in
theorem gX0_markUnit_X0_unitAt : GoodIn wsX0_markUnit (va_wsS RX0 59 yX0_unitAt wsX0_unitAt) := goodIn_app (goodIn_of _ (by decide +kernel)) ggX0_markUnit_X0_unitAt
set_option maxRecDepth 20000 in
theorem ggX0_markUnit_X0_keepBits : GoodIn wsX0_markUnit wsX0_keepBits := goodIn_r _ [17, 18, 19, 20, 21, 22, 23, 24, 25, 26, 27] (by decide +kernel) (by decide +kernel)
set_option maxRecDepth 20000 in
theorem gX0_markUnit_X0_keepBits : GoodIn wsX0_markUnit (wsV RX0 71 RX0 yX0_keepBits wsX0_keepBits) := goodIn_app (goodIn_of _ (by decide +kernel)) ggX0_markUnit_X0_keepBits
theorem dX0_markUnit_0 : decode cX0_markUnit 0 = .ok (.aload_n 0, 1) := by decide +kernel
theorem dX0_markUnit_1 : decode cX0_markUnit 1 = .ok (.invokevirtual 49, 3) := by decide +kernel
theorem dX0_markUnit_4 : decode cX0_markUnit 4 = .ok (.ifCond .ne 5, 3) := by decide +kernel
theorem dX0_markUnit_7 : decode cX0_markUnit 7 = .ok (.iconst 0, 1) := by decide +kernel
theorem dX0_markUnit_8 : decode cX0_markUnit 8 = .ok (.ireturn, 1) := by decide +kernel
theorem dX0_markUnit_9 : decode cX0_markUnit 9 = .ok (.iload_n 1, 1) := by decide +kernel
theorem dX0_markUnit_10 : decode cX0_markUnit 10 = .ok (.iload_n 2, 1) := by decide +kernel
theorem dX0_markUnit_11 : decode cX0_markUnit 11 = .ok (.invokestatic 59, 3) := by decide +kernel
theorem dX0_markUnit_14 : decode cX0_markUnit 14 = .ok (.istore 4, 2) := by decide +kernel
theorem dX0_markUnit_16 : decode cX0_markUnit 16 = .ok (.iconst 0, 1) := by decide +kernel
theorem dX0_markUnit_17 : decode cX0_markUnit 17 = .ok (.istore 5, 2) := by decide +kernel
theorem dX0_markUnit_19 : decode cX0_markUnit 19 = .ok (.iload 5, 2) := by decide +kernel
theorem dX0_markUnit_21 : decode cX0_markUnit 21 = .ok (.bipush 8, 2) := by decide +kernel
theorem dX0_markUnit_23 : decode cX0_markUnit 23 = .ok (.if_icmp .ge 19, 3) := by decide +kernel
theorem dX0_markUnit_26 : decode cX0_markUnit 26 = .ok (.aload_n 0, 1) := by decide +kernel
theorem dX0_markUnit_27 : decode cX0_markUnit 27 = .ok (.iload 4, 2) := by decide +kernel
theorem dX0_markUnit_29 : decode cX0_markUnit 29 = .ok (.iload 5, 2) := by decide +kernel
theorem dX0_markUnit_31 : decode cX0_markUnit 31 = .ok (.iadd, 1) := by decide +kernel
theorem dX0_markUnit_32 : decode cX0_markUnit 32 = .ok (.iload_n 3, 1) := by decide +kernel
theorem dX0_markUnit_33 : decode cX0_markUnit 33 = .ok (.invokevirtual 71, 3) := by decide +kernel
theorem dX0_markUnit_36 : decode cX0_markUnit 36 = .ok (.iinc 5 1, 3) := by decide +kernel
theorem dX0_markUnit_39 : decode cX0_markUnit 39 = .ok (.goto (-20), 3) := by decide +kernel
theorem dX0_markUnit_42 : decode cX0_markUnit 42 = .ok (.iconst 1, 1) := by decide +kernel
theorem dX0_markUnit_43 : decode cX0_markUnit 43 = .ok (.ireturn, 1) := by decide +kernel
set_option maxRecDepth 20000 in
theorem ggX0_markIn_X0_unitAt : GoodIn wsX0_markIn wsX0_unitAt := goodIn_r _ [4] (by decide +kernel) (by decide +kernel)
set_option maxRecDepth 20000 in
theorem gX0_markIn_X0_unitAt : GoodIn wsX0_markIn (va_wsS RX0 59 yX0_unitAt wsX0_unitAt) := goodIn_app (goodIn_of _ (by decide +kernel)) ggX0_markIn_X0_unitAt
set_option maxRecDepth 20000 in
theorem ggX0_markIn_X0_byteAt : GoodIn wsX0_markIn wsX0_byteAt := goodIn_r _ [8, 9, 10, 11, 12, 13, 14, 15, 16, 17, 18] (by decide +kernel) (by decide +kernel)
set_option maxRecDepth 20000 in
theorem gX0_markIn_X0_byteAt : GoodIn wsX0_markIn (wsV RX0 41 RX0 yX0_byteAt wsX0_byteAt) := goodIn_app (goodIn_of _ (by decide +kernel)) ggX0_markIn_X0_byteAt
theorem dX0_markIn_0 : decode cX0_markIn 0 = .ok (.iload_n 1, 1) := by decide +kernel
theorem dX0_markIn_1 : decode cX0_markIn 1 = .ok (.iload_n 2, 1) := by decide +kernel
theorem dX0_markIn_2 : decode cX0_markIn 2 = .ok (.invokestatic 59, 3) := by decide +kernel
theorem dX0_markIn_5 : decode cX0_markIn 5 = .ok (.istore_n 3, 1) := by decide +kernel
theorem dX0_markIn_6 : decode cX0_markIn 6 = .ok (.aload_n 0, 1) := by decide +kernel
theorem dX0_markIn_7 : decode cX0_markIn 7 = .ok (.iload_n 3, 1) := by decide +kernel
theorem dX0_markIn_8 : decode cX0_markIn 8 = .ok (.invokevirtual 41, 3) := by decide +kernel
theorem dX0_markIn_11 : decode cX0_markIn 11 = .ok (.istore 4, 2) := by decide +kernel
theorem dX0_markIn_13 : decode cX0_markIn 13 = .ok (.iload 4, 2) := by decide +kernel
theorem dX0_markIn_15 : decode cX0_markIn 15 = .ok (.iconst 1, 1) := by decide +kernel
theorem dX0_markIn_16 : decode cX0_markIn 16 = .ok (.if_icmp .lt 9, 3) := by decide +kernel
theorem dX0_markIn_19 : decode cX0_markIn 19 = .ok (.iload 4, 2) := by decide +kernel
theorem dX0_markIn_21 : decode cX0_markIn 21 = .ok (.iconst 3, 1) := by decide +kernel
theorem dX0_markIn_22 : decode cX0_markIn 22 = .ok (.if_icmp .le 5, 3) := by decide +kernel
theorem dX0_markIn_25 : decode cX0_markIn 25 = .ok (.iconst 0, 1) := by decide +kernel
theorem dX0_markIn_26 : decode cX0_markIn 26 = .ok (.ireturn, 1) := by decide +kernel
theorem dX0_markIn_27 : decode cX0_markIn 27 = .ok (.iconst 1, 1) := by decide +kernel
theorem dX0_markIn_28 : decode cX0_markIn 28 = .ok (.istore 5, 2) := by decide +kernel
theorem dX0_markIn_30 : decode cX0_markIn 30 = .ok (.iload 5, 2) := by decide +kernel
theorem dX0_markIn_32 : decode cX0_markIn 32 = .ok (.bipush 8, 2) := by decide +kernel
theorem dX0_markIn_34 : decode cX0_markIn 34 = .ok (.if_icmp .ge 24, 3) := by decide +kernel
theorem dX0_markIn_37 : decode cX0_markIn 37 = .ok (.aload_n 0, 1) := by decide +kernel
theorem dX0_markIn_38 : decode cX0_markIn 38 = .ok (.iload_n 3, 1) := by decide +kernel
theorem dX0_markIn_39 : decode cX0_markIn 39 = .ok (.iload 5, 2) := by decide +kernel
theorem dX0_markIn_41 : decode cX0_markIn 41 = .ok (.iadd, 1) := by decide +kernel
theorem dX0_markIn_42 : decode cX0_markIn 42 = .ok (.invokevirtual 41, 3) := by decide +kernel
theorem dX0_markIn_45 : decode cX0_markIn 45 = .ok (.iload 4, 2) := by decide +kernel
theorem dX0_markIn_47 : decode cX0_markIn 47 = .ok (.if_icmp .eq 5, 3) := by decide +kernel
theorem dX0_markIn_50 : decode cX0_markIn 50 = .ok (.iconst 0, 1) := by decide +kernel
theorem dX0_markIn_51 : decode cX0_markIn 51 = .ok (.ireturn, 1) := by decide +kernel
theorem dX0_markIn_52 : decode cX0_markIn 52 = .ok (.iinc 5 1, 3) := by decide +kernel
theorem dX0_markIn_55 : decode cX0_markIn 55 = .ok (.goto (-25), 3) := by decide +kernel
theorem dX0_markIn_58 : decode cX0_markIn 58 = .ok (.iload 4, 2) := by decide +kernel
theorem dX0_markIn_60 : decode cX0_markIn 60 = .ok (.ireturn, 1) := by decide +kernel
set_option maxRecDepth 20000 in
theorem ggX0_hasMagic_X0_unitAt : GoodIn wsX0_hasMagic wsX0_unitAt := goodIn_r _ [4] (by decide +kernel) (by decide +kernel)
set_option maxRecDepth 20000 in
theorem gX0_hasMagic_X0_unitAt : GoodIn wsX0_hasMagic (va_wsS RX0 59 yX0_unitAt wsX0_unitAt) := goodIn_app (goodIn_of _ (by decide +kernel)) ggX0_hasMagic_X0_unitAt
set_option maxRecDepth 20000 in
theorem ggX0_hasMagic_X0_byteAt : GoodIn wsX0_hasMagic wsX0_byteAt := goodIn_r _ [8, 9, 10, 11, 12, 13, 14, 15, 16, 17, 18] (by decide +kernel) (by decide +kernel)
set_option maxRecDepth 20000 in
theorem gX0_hasMagic_X0_byteAt : GoodIn wsX0_hasMagic (wsV RX0 41 RX0 yX0_byteAt wsX0_byteAt) := goodIn_app (goodIn_of _ (by decide +kernel)) ggX0_hasMagic_X0_byteAt
theorem dX0_hasMagic_0 : decode cX0_hasMagic 0 = .ok (.iload_n 1, 1) := by decide +kernel
theorem dX0_hasMagic_1 : decode cX0_hasMagic 1 = .ok (.iconst 0, 1) := by decide +kernel
theorem dX0_hasMagic_2 : decode cX0_hasMagic 2 = .ok (.invokestatic 59, 3) := by decide +kernel
theorem dX0_hasMagic_5 : decode cX0_hasMagic 5 = .ok (.istore_n 2, 1) := by decide +kernel
theorem dX0_hasMagic_6 : decode cX0_hasMagic 6 = .ok (.iconst 0, 1) := by decide +kernel
theorem dX0_hasMagic_7 : decode cX0_hasMagic 7 = .ok (.istore_n 3, 1) := by decide +kernel
theorem dX0_hasMagic_8 : decode cX0_hasMagic 8 = .ok (.iload_n 3, 1) := by decide +kernel
theorem dX0_hasMagic_9 : decode cX0_hasMagic 9 = .ok (.bipush 8, 2) := by decide +kernel
theorem dX0_hasMagic_11 : decode cX0_hasMagic 11 = .ok (.if_icmp .ge 26, 3) := by decide +kernel
theorem dX0_hasMagic_14 : decode cX0_hasMagic 14 = .ok (.aload_n 0, 1) := by decide +kernel
theorem dX0_hasMagic_15 : decode cX0_hasMagic 15 = .ok (.iload_n 2, 1) := by decide +kernel
theorem dX0_hasMagic_16 : decode cX0_hasMagic 16 = .ok (.iload_n 3, 1) := by decide +kernel
theorem dX0_hasMagic_17 : decode cX0_hasMagic 17 = .ok (.iadd, 1) := by decide +kernel
theorem dX0_hasMagic_18 : decode cX0_hasMagic 18 = .ok (.invokevirtual 41, 3) := by decide +kernel
theorem dX0_hasMagic_21 : decode cX0_hasMagic 21 = .ok (.getstatic 75, 3) := by decide +kernel
theorem dX0_hasMagic_24 : decode cX0_hasMagic 24 = .ok (.iload_n 3, 1) := by decide +kernel
theorem dX0_hasMagic_25 : decode cX0_hasMagic 25 = .ok (.iaload, 1) := by decide +kernel
theorem dX0_hasMagic_26 : decode cX0_hasMagic 26 = .ok (.if_icmp .eq 5, 3) := by decide +kernel
theorem dX0_hasMagic_29 : decode cX0_hasMagic 29 = .ok (.iconst 0, 1) := by decide +kernel
theorem dX0_hasMagic_30 : decode cX0_hasMagic 30 = .ok (.ireturn, 1) := by decide +kernel
theorem dX0_hasMagic_31 : decode cX0_hasMagic 31 = .ok (.iinc 3 1, 3) := by decide +kernel
theorem dX0_hasMagic_34 : decode cX0_hasMagic 34 = .ok (.goto (-26), 3) := by decide +kernel
theorem dX0_hasMagic_37 : decode cX0_hasMagic 37 = .ok (.iconst 1, 1) := by decide +kernel
theorem dX0_hasMagic_38 : decode cX0_hasMagic 38 = .ok (.ireturn, 1) := by decide +kernel
theorem dX1_init_0 : decode cX1_init 0 = .ok (.aload_n 0, 1) := by decide +kernel
theorem dX1_init_1 : decode cX1_init 1 = .ok (.invokespecial 3, 3) := by decide +kernel
theorem dX1_init_4 : decode cX1_init 4 = .ok (.aload_n 0, 1) := by decide +kernel
theorem dX1_init_5 : decode cX1_init 5 = .ok (.bipush 64, 2) := by decide +kernel
theorem dX1_init_7 : decode cX1_init 7 = .ok (.newarray .int, 2) := by decide +kernel
theorem dX1_init_9 : decode cX1_init 9 = .ok (.putfield 11, 3) := by decide +kernel
theorem dX1_init_12 : decode cX1_init 12 = .ok (.aload_n 0, 1) := by decide +kernel
theorem dX1_init_13 : decode cX1_init 13 = .ok (.bipush 8, 2) := by decide +kernel
theorem dX1_init_15 : decode cX1_init 15 = .ok (.newarray .int, 2) := by decide +kernel
theorem dX1_init_17 : decode cX1_init 17 = .ok (.putfield 15, 3) := by decide +kernel
theorem dX1_init_20 : decode cX1_init 20 = .ok (.return_, 1) := by decide +kernel
set_option maxRecDepth 20000 in
theorem ggX1_digest_X1_paddedWord : GoodIn wsX1_digest wsX1_paddedWord := goodIn_r _ [7, 8, 9, 6, 10] (by decide +kernel) (by decide +kernel)
set_option maxRecDepth 20000 in
theorem gX1_digest_X1_paddedWord : GoodIn wsX1_digest (va_wsS RX1 21 yX1_paddedWord wsX1_paddedWord) := goodIn_app (goodIn_of _ (by decide +kernel)) ggX1_digest_X1_paddedWord
set_option maxRecDepth 20000 in
theorem ggX1_digest_X1_stretchSchedule : GoodIn wsX1_digest wsX1_stretchSchedule := goodIn_r _ [14, 3, 15, 16, 6, 17, 23, 24] (by decide +kernel) (by decide +kernel)
set_option maxRecDepth 20000 in
theorem gX1_digest_X1_stretchSchedule : GoodIn wsX1_digest (wsV RX1 25 RX1 yX1_stretchSchedule wsX1_stretchSchedule) := goodIn_app (goodIn_of _ (by decide +kernel)) ggX1_digest_X1_stretchSchedule
set_option maxRecDepth 20000 in
theorem ggX1_digest_X1_mixBlock : GoodIn wsX1_digest wsX1_mixBlock := goodIn_r _ [21, 1, 22, 3, 15, 16, 6, 17, 23, 24] (by decide +kernel) (by decide +kernel)
set_option maxRecDepth 20000 in
theorem gX1_digest_X1_mixBlock : GoodIn wsX1_digest (wsV RX1 28 RX1 yX1_mixBlock wsX1_mixBlock) := goodIn_app (goodIn_of _ (by decide +kernel)) ggX1_digest_X1_mixBlock
theorem dX1_digest_0 : decode cX1_digest 0 = .ok (.aload_n 1, 1) := by decide +kernel
theorem dX1_digest_1 : decode cX1_digest 1 = .ok (.ifnull 26, 3) := by decide +kernel
theorem dX1_digest_4 : decode cX1_digest 4 = .ok (.iload_n 2, 1) := by decide +kernel
theorem dX1_digest_5 : decode cX1_digest 5 = .ok (.ifCond .lt 22, 3) := by decide +kernel
theorem dX1_digest_8 : decode cX1_digest 8 = .ok (.iload_n 3, 1) := by decide +kernel
theorem dX1_digest_9 : decode cX1_digest 9 = .ok (.ifCond .lt 18, 3) := by decide +kernel
theorem dX1_digest_12 : decode cX1_digest 12 = .ok (.iload_n 3, 1) := by decide +kernel
theorem dX1_digest_13 : decode cX1_digest 13 = .ok (.sipush 1024, 3) := by decide +kernel
theorem dX1_digest_16 : decode cX1_digest 16 = .ok (.if_icmp .gt 11, 3) := by decide +kernel
theorem dX1_digest_19 : decode cX1_digest 19 = .ok (.iload_n 2, 1) := by decide +kernel
theorem dX1_digest_20 : decode cX1_digest 20 = .ok (.aload_n 1, 1) := by decide +kernel
theorem dX1_digest_21 : decode cX1_digest 21 = .ok (.arraylength, 1) := by decide +kernel
theorem dX1_digest_22 : decode cX1_digest 22 = .ok (.iload_n 3, 1) := by decide +kernel
theorem dX1_digest_23 : decode cX1_digest 23 = .ok (.isub, 1) := by decide +kernel
theorem dX1_digest_24 : decode cX1_digest 24 = .ok (.if_icmp .le 4, 3) := by decide +kernel
theorem dX1_digest_27 : decode cX1_digest 27 = .ok (.return_, 1) := by decide +kernel
theorem dX1_digest_28 : decode cX1_digest 28 = .ok (.iconst 0, 1) := by decide +kernel
theorem dX1_digest_29 : decode cX1_digest 29 = .ok (.istore 4, 2) := by decide +kernel
theorem dX1_digest_31 : decode cX1_digest 31 = .ok (.iload 4, 2) := by decide +kernel
theorem dX1_digest_33 : decode cX1_digest 33 = .ok (.bipush 8, 2) := by decide +kernel
theorem dX1_digest_35 : decode cX1_digest 35 = .ok (.if_icmp .ge 22, 3) := by decide +kernel
theorem dX1_digest_38 : decode cX1_digest 38 = .ok (.aload_n 0, 1) := by decide +kernel
theorem dX1_digest_39 : decode cX1_digest 39 = .ok (.getfield 15, 3) := by decide +kernel
theorem dX1_digest_42 : decode cX1_digest 42 = .ok (.iload 4, 2) := by decide +kernel
theorem dX1_digest_44 : decode cX1_digest 44 = .ok (.getstatic 18, 3) := by decide +kernel
theorem dX1_digest_47 : decode cX1_digest 47 = .ok (.iload 4, 2) := by decide +kernel
theorem dX1_digest_49 : decode cX1_digest 49 = .ok (.iaload, 1) := by decide +kernel
theorem dX1_digest_50 : decode cX1_digest 50 = .ok (.iastore, 1) := by decide +kernel
theorem dX1_digest_51 : decode cX1_digest 51 = .ok (.iinc 4 1, 3) := by decide +kernel
theorem dX1_digest_54 : decode cX1_digest 54 = .ok (.goto (-23), 3) := by decide +kernel
theorem dX1_digest_57 : decode cX1_digest 57 = .ok (.iload_n 3, 1) := by decide +kernel
theorem dX1_digest_58 : decode cX1_digest 58 = .ok (.bipush 8, 2) := by decide +kernel
theorem dX1_digest_60 : decode cX1_digest 60 = .ok (.iadd, 1) := by decide +kernel
theorem dX1_digest_61 : decode cX1_digest 61 = .ok (.bipush 64, 2) := by decide +kernel
theorem dX1_digest_63 : decode cX1_digest 63 = .ok (.idiv, 1) := by decide +kernel
theorem dX1_digest_64 : decode cX1_digest 64 = .ok (.iconst 1, 1) := by decide +kernel
theorem dX1_digest_65 : decode cX1_digest 65 = .ok (.iadd, 1) := by decide +kernel
theorem dX1_digest_66 : decode cX1_digest 66 = .ok (.istore 4, 2) := by decide +kernel
theorem dX1_digest_68 : decode cX1_digest 68 = .ok (.iconst 0, 1) := by decide +kernel
theorem dX1_digest_69 : decode cX1_digest 69 = .ok (.istore 5, 2) := by decide +kernel
theorem dX1_digest_71 : decode cX1_digest 71 = .ok (.iload 5, 2) := by decide +kernel
theorem dX1_digest_73 : decode cX1_digest 73 = .ok (.iload 4, 2) := by decide +kernel
theorem dX1_digest_75 : decode cX1_digest 75 = .ok (.if_icmp .ge 76, 3) := by decide +kernel
theorem dX1_digest_78 : decode cX1_digest 78 = .ok (.iconst 0, 1) := by decide +kernel
theorem dX1_digest_79 : decode cX1_digest 79 = .ok (.istore 6, 2) := by decide +kernel
theorem dX1_digest_81 : decode cX1_digest 81 = .ok (.iload 6, 2) := by decide +kernel
theorem dX1_digest_83 : decode cX1_digest 83 = .ok (.bipush 16, 2) := by decide +kernel
theorem dX1_digest_85 : decode cX1_digest 85 = .ok (.if_icmp .ge 32, 3) := by decide +kernel
theorem dX1_digest_88 : decode cX1_digest 88 = .ok (.aload_n 0, 1) := by decide +kernel
theorem dX1_digest_89 : decode cX1_digest 89 = .ok (.getfield 11, 3) := by decide +kernel
theorem dX1_digest_92 : decode cX1_digest 92 = .ok (.iload 6, 2) := by decide +kernel
theorem dX1_digest_94 : decode cX1_digest 94 = .ok (.aload_n 1, 1) := by decide +kernel
theorem dX1_digest_95 : decode cX1_digest 95 = .ok (.iload_n 2, 1) := by decide +kernel
theorem dX1_digest_96 : decode cX1_digest 96 = .ok (.iload_n 3, 1) := by decide +kernel
theorem dX1_digest_97 : decode cX1_digest 97 = .ok (.iload 5, 2) := by decide +kernel
theorem dX1_digest_99 : decode cX1_digest 99 = .ok (.bipush 64, 2) := by decide +kernel
theorem dX1_digest_101 : decode cX1_digest 101 = .ok (.imul, 1) := by decide +kernel
theorem dX1_digest_102 : decode cX1_digest 102 = .ok (.iconst 4, 1) := by decide +kernel
theorem dX1_digest_103 : decode cX1_digest 103 = .ok (.iload 6, 2) := by decide +kernel
theorem dX1_digest_105 : decode cX1_digest 105 = .ok (.imul, 1) := by decide +kernel
theorem dX1_digest_106 : decode cX1_digest 106 = .ok (.iadd, 1) := by decide +kernel
theorem dX1_digest_107 : decode cX1_digest 107 = .ok (.invokestatic 21, 3) := by decide +kernel
theorem dX1_digest_110 : decode cX1_digest 110 = .ok (.iastore, 1) := by decide +kernel
theorem dX1_digest_111 : decode cX1_digest 111 = .ok (.iinc 6 1, 3) := by decide +kernel
theorem dX1_digest_114 : decode cX1_digest 114 = .ok (.goto (-33), 3) := by decide +kernel
theorem dX1_digest_117 : decode cX1_digest 117 = .ok (.iload 5, 2) := by decide +kernel
theorem dX1_digest_119 : decode cX1_digest 119 = .ok (.iload 4, 2) := by decide +kernel
theorem dX1_digest_121 : decode cX1_digest 121 = .ok (.iconst 1, 1) := by decide +kernel
theorem dX1_digest_122 : decode cX1_digest 122 = .ok (.isub, 1) := by decide +kernel
theorem dX1_digest_123 : decode cX1_digest 123 = .ok (.if_icmp .ne 14, 3) := by decide +kernel
theorem dX1_digest_126 : decode cX1_digest 126 = .ok (.aload_n 0, 1) := by decide +kernel
theorem dX1_digest_127 : decode cX1_digest 127 = .ok (.getfield 11, 3) := by decide +kernel
theorem dX1_digest_130 : decode cX1_digest 130 = .ok (.bipush 15, 2) := by decide +kernel
theorem dX1_digest_132 : decode cX1_digest 132 = .ok (.bipush 8, 2) := by decide +kernel
theorem dX1_digest_134 : decode cX1_digest 134 = .ok (.iload_n 3, 1) := by decide +kernel
theorem dX1_digest_135 : decode cX1_digest 135 = .ok (.imul, 1) := by decide +kernel
theorem dX1_digest_136 : decode cX1_digest 136 = .ok (.iastore, 1) := by decide +kernel
theorem dX1_digest_137 : decode cX1_digest 137 = .ok (.aload_n 0, 1) := by decide +kernel
theorem dX1_digest_138 : decode cX1_digest 138 = .ok (.invokevirtual 25, 3) := by decide +kernel
theorem dX1_digest_141 : decode cX1_digest 141 = .ok (.aload_n 0, 1) := by decide +kernel
theorem dX1_digest_142 : decode cX1_digest 142 = .ok (.invokevirtual 28, 3) := by decide +kernel
theorem dX1_digest_145 : decode cX1_digest 145 = .ok (.iinc 5 1, 3) := by decide +kernel
theorem dX1_digest_148 : decode cX1_digest 148 = .ok (.goto (-77), 3) := by decide +kernel
theorem dX1_digest_151 : decode cX1_digest 151 = .ok (.return_, 1) := by decide +kernel
theorem dX1_digestByte_0 : decode cX1_digestByte 0 = .ok (.iload_n 1, 1) := by decide +kernel
theorem dX1_digestByte_1 : decode cX1_digestByte 1 = .ok (.ifCond .lt 9, 3) := by decide +kernel
theorem dX1_digestByte_4 : decode cX1_digestByte 4 = .ok (.iload_n 1, 1) := by decide +kernel
theorem dX1_digestByte_5 : decode cX1_digestByte 5 = .ok (.bipush 32, 2) := by decide +kernel
theorem dX1_digestByte_7 : decode cX1_digestByte 7 = .ok (.if_icmp .lt 5, 3) := by decide +kernel
theorem dX1_digestByte_10 : decode cX1_digestByte 10 = .ok (.iconst 0, 1) := by decide +kernel
theorem dX1_digestByte_11 : decode cX1_digestByte 11 = .ok (.ireturn, 1) := by decide +kernel
theorem dX1_digestByte_12 : decode cX1_digestByte 12 = .ok (.aload_n 0, 1) := by decide +kernel
theorem dX1_digestByte_13 : decode cX1_digestByte 13 = .ok (.getfield 15, 3) := by decide +kernel
theorem dX1_digestByte_16 : decode cX1_digestByte 16 = .ok (.iload_n 1, 1) := by decide +kernel
theorem dX1_digestByte_17 : decode cX1_digestByte 17 = .ok (.iconst 4, 1) := by decide +kernel
theorem dX1_digestByte_18 : decode cX1_digestByte 18 = .ok (.idiv, 1) := by decide +kernel
theorem dX1_digestByte_19 : decode cX1_digestByte 19 = .ok (.iaload, 1) := by decide +kernel
theorem dX1_digestByte_20 : decode cX1_digestByte 20 = .ok (.bipush 24, 2) := by decide +kernel
theorem dX1_digestByte_22 : decode cX1_digestByte 22 = .ok (.bipush 8, 2) := by decide +kernel
theorem dX1_digestByte_24 : decode cX1_digestByte 24 = .ok (.iload_n 1, 1) := by decide +kernel
theorem dX1_digestByte_25 : decode cX1_digestByte 25 = .ok (.iconst 4, 1) := by decide +kernel
theorem dX1_digestByte_26 : decode cX1_digestByte 26 = .ok (.irem, 1) := by decide +kernel
theorem dX1_digestByte_27 : decode cX1_digestByte 27 = .ok (.imul, 1) := by decide +kernel
theorem dX1_digestByte_28 : decode cX1_digestByte 28 = .ok (.isub, 1) := by decide +kernel
theorem dX1_digestByte_29 : decode cX1_digestByte 29 = .ok (.iushr, 1) := by decide +kernel
theorem dX1_digestByte_30 : decode cX1_digestByte 30 = .ok (.sipush 255, 3) := by decide +kernel
theorem dX1_digestByte_33 : decode cX1_digestByte 33 = .ok (.iand, 1) := by decide +kernel
theorem dX1_digestByte_34 : decode cX1_digestByte 34 = .ok (.ireturn, 1) := by decide +kernel
set_option maxRecDepth 20000 in
theorem ggX1_paddedWord_X1_paddedByte : GoodIn wsX1_paddedWord wsX1_paddedByte := goodIn_r _ [4] (by decide +kernel) (by decide +kernel)
set_option maxRecDepth 20000 in
theorem gX1_paddedWord_X1_paddedByte : GoodIn wsX1_paddedWord (va_wsS RX1 31 yX1_paddedByte wsX1_paddedByte) := goodIn_app (goodIn_of _ (by decide +kernel)) ggX1_paddedWord_X1_paddedByte
theorem dX1_paddedWord_0 : decode cX1_paddedWord 0 = .ok (.iconst 0, 1) := by decide +kernel
theorem dX1_paddedWord_1 : decode cX1_paddedWord 1 = .ok (.istore 4, 2) := by decide +kernel
theorem dX1_paddedWord_3 : decode cX1_paddedWord 3 = .ok (.iload_n 3, 1) := by decide +kernel
theorem dX1_paddedWord_4 : decode cX1_paddedWord 4 = .ok (.istore 5, 2) := by decide +kernel
theorem dX1_paddedWord_6 : decode cX1_paddedWord 6 = .ok (.iload 5, 2) := by decide +kernel
theorem dX1_paddedWord_8 : decode cX1_paddedWord 8 = .ok (.iload_n 3, 1) := by decide +kernel
theorem dX1_paddedWord_9 : decode cX1_paddedWord 9 = .ok (.iconst 4, 1) := by decide +kernel
theorem dX1_paddedWord_10 : decode cX1_paddedWord 10 = .ok (.iadd, 1) := by decide +kernel
theorem dX1_paddedWord_11 : decode cX1_paddedWord 11 = .ok (.if_icmp .ge 25, 3) := by decide +kernel
theorem dX1_paddedWord_14 : decode cX1_paddedWord 14 = .ok (.iload 4, 2) := by decide +kernel
theorem dX1_paddedWord_16 : decode cX1_paddedWord 16 = .ok (.bipush 8, 2) := by decide +kernel
theorem dX1_paddedWord_18 : decode cX1_paddedWord 18 = .ok (.ishl, 1) := by decide +kernel
theorem dX1_paddedWord_19 : decode cX1_paddedWord 19 = .ok (.aload_n 0, 1) := by decide +kernel
theorem dX1_paddedWord_20 : decode cX1_paddedWord 20 = .ok (.iload_n 1, 1) := by decide +kernel
theorem dX1_paddedWord_21 : decode cX1_paddedWord 21 = .ok (.iload_n 2, 1) := by decide +kernel
theorem dX1_paddedWord_22 : decode cX1_paddedWord 22 = .ok (.iload 5, 2) := by decide +kernel
theorem dX1_paddedWord_24 : decode cX1_paddedWord 24 = .ok (.invokestatic 31, 3) := by decide +kernel
theorem dX1_paddedWord_27 : decode cX1_paddedWord 27 = .ok (.ior, 1) := by decide +kernel
theorem dX1_paddedWord_28 : decode cX1_paddedWord 28 = .ok (.istore 4, 2) := by decide +kernel
theorem dX1_paddedWord_30 : decode cX1_paddedWord 30 = .ok (.iinc 5 1, 3) := by decide +kernel
theorem dX1_paddedWord_33 : decode cX1_paddedWord 33 = .ok (.goto (-27), 3) := by decide +kernel
theorem dX1_paddedWord_36 : decode cX1_paddedWord 36 = .ok (.iload 4, 2) := by decide +kernel
theorem dX1_paddedWord_38 : decode cX1_paddedWord 38 = .ok (.ireturn, 1) := by decide +kernel
theorem dX1_paddedByte_0 : decode cX1_paddedByte 0 = .ok (.iload_n 3, 1) := by decide +kernel
theorem dX1_paddedByte_1 : decode cX1_paddedByte 1 = .ok (.iload_n 2, 1) := by decide +kernel
theorem dX1_paddedByte_2 : decode cX1_paddedByte 2 = .ok (.if_icmp .ne 7, 3) := by decide +kernel
theorem dX1_paddedByte_5 : decode cX1_paddedByte 5 = .ok (.sipush 128, 3) := by decide +kernel
theorem dX1_paddedByte_8 : decode cX1_paddedByte 8 = .ok (.ireturn, 1) := by decide +kernel
theorem dX1_paddedByte_9 : decode cX1_paddedByte 9 = .ok (.iload_n 1, 1) := by decide +kernel
theorem dX1_paddedByte_10 : decode cX1_paddedByte 10 = .ok (.iload_n 3, 1) := by decide +kernel
theorem dX1_paddedByte_11 : decode cX1_paddedByte 11 = .ok (.iadd, 1) := by decide +kernel
theorem dX1_paddedByte_12 : decode cX1_paddedByte 12 = .ok (.istore 4, 2) := by decide +kernel
theorem dX1_paddedByte_14 : decode cX1_paddedByte 14 = .ok (.iload_n 3, 1) := by decide +kernel
theorem dX1_paddedByte_15 : decode cX1_paddedByte 15 = .ok (.iload_n 2, 1) := by decide +kernel
theorem dX1_paddedByte_16 : decode cX1_paddedByte 16 = .ok (.if_icmp .ge 22, 3) := by decide +kernel
theorem dX1_paddedByte_19 : decode cX1_paddedByte 19 = .ok (.iload 4, 2) := by decide +kernel
theorem dX1_paddedByte_21 : decode cX1_paddedByte 21 = .ok (.ifCond .lt 17, 3) := by decide +kernel
theorem dX1_paddedByte_24 : decode cX1_paddedByte 24 = .ok (.iload 4, 2) := by decide +kernel
theorem dX1_paddedByte_26 : decode cX1_paddedByte 26 = .ok (.aload_n 0, 1) := by decide +kernel
theorem dX1_paddedByte_27 : decode cX1_paddedByte 27 = .ok (.arraylength, 1) := by decide +kernel
theorem dX1_paddedByte_28 : decode cX1_paddedByte 28 = .ok (.if_icmp .ge 10, 3) := by decide +kernel
theorem dX1_paddedByte_31 : decode cX1_paddedByte 31 = .ok (.aload_n 0, 1) := by decide +kernel
theorem dX1_paddedByte_32 : decode cX1_paddedByte 32 = .ok (.iload 4, 2) := by decide +kernel
theorem dX1_paddedByte_34 : decode cX1_paddedByte 34 = .ok (.iaload, 1) := by decide +kernel
theorem dX1_paddedByte_35 : decode cX1_paddedByte 35 = .ok (.goto 4, 3) := by decide +kernel
theorem dX1_paddedByte_38 : decode cX1_paddedByte 38 = .ok (.iconst 0, 1) := by decide +kernel
theorem dX1_paddedByte_39 : decode cX1_paddedByte 39 = .ok (.ireturn, 1) := by decide +kernel
set_option maxRecDepth 20000 in
theorem ggX1_stretchSchedule_X1_turn : GoodIn wsX1_stretchSchedule wsX1_turn := goodIn_r _ [5] (by decide +kernel) (by decide +kernel)
set_option maxRecDepth 20000 in
theorem gX1_stretchSchedule_X1_turn : GoodIn wsX1_stretchSchedule (va_wsS RX1 34 yX1_turn wsX1_turn) := goodIn_app (goodIn_of _ (by decide +kernel)) ggX1_stretchSchedule_X1_turn
theorem dX1_stretchSchedule_0 : decode cX1_stretchSchedule 0 = .ok (.bipush 16, 2) := by decide +kernel
theorem dX1_stretchSchedule_2 : decode cX1_stretchSchedule 2 = .ok (.istore_n 1, 1) := by decide +kernel
theorem dX1_stretchSchedule_3 : decode cX1_stretchSchedule 3 = .ok (.iload_n 1, 1) := by decide +kernel
theorem dX1_stretchSchedule_4 : decode cX1_stretchSchedule 4 = .ok (.bipush 64, 2) := by decide +kernel
theorem dX1_stretchSchedule_6 : decode cX1_stretchSchedule 6 = .ok (.if_icmp .ge 98, 3) := by decide +kernel
theorem dX1_stretchSchedule_9 : decode cX1_stretchSchedule 9 = .ok (.aload_n 0, 1) := by decide +kernel
theorem dX1_stretchSchedule_10 : decode cX1_stretchSchedule 10 = .ok (.getfield 11, 3) := by decide +kernel
theorem dX1_stretchSchedule_13 : decode cX1_stretchSchedule 13 = .ok (.iload_n 1, 1) := by decide +kernel
theorem dX1_stretchSchedule_14 : decode cX1_stretchSchedule 14 = .ok (.iconst 2, 1) := by decide +kernel
theorem dX1_stretchSchedule_15 : decode cX1_stretchSchedule 15 = .ok (.isub, 1) := by decide +kernel
theorem dX1_stretchSchedule_16 : decode cX1_stretchSchedule 16 = .ok (.iaload, 1) := by decide +kernel
theorem dX1_stretchSchedule_17 : decode cX1_stretchSchedule 17 = .ok (.istore_n 2, 1) := by decide +kernel
theorem dX1_stretchSchedule_18 : decode cX1_stretchSchedule 18 = .ok (.aload_n 0, 1) := by decide +kernel
theorem dX1_stretchSchedule_19 : decode cX1_stretchSchedule 19 = .ok (.getfield 11, 3) := by decide +kernel
theorem dX1_stretchSchedule_22 : decode cX1_stretchSchedule 22 = .ok (.iload_n 1, 1) := by decide +kernel
theorem dX1_stretchSchedule_23 : decode cX1_stretchSchedule 23 = .ok (.bipush 15, 2) := by decide +kernel
theorem dX1_stretchSchedule_25 : decode cX1_stretchSchedule 25 = .ok (.isub, 1) := by decide +kernel
theorem dX1_stretchSchedule_26 : decode cX1_stretchSchedule 26 = .ok (.iaload, 1) := by decide +kernel
theorem dX1_stretchSchedule_27 : decode cX1_stretchSchedule 27 = .ok (.istore_n 3, 1) := by decide +kernel
theorem dX1_stretchSchedule_28 : decode cX1_stretchSchedule 28 = .ok (.iload_n 2, 1) := by decide +kernel
theorem dX1_stretchSchedule_29 : decode cX1_stretchSchedule 29 = .ok (.bipush 17, 2) := by decide +kernel
theorem dX1_stretchSchedule_31 : decode cX1_stretchSchedule 31 = .ok (.invokestatic 34, 3) := by decide +kernel
theorem dX1_stretchSchedule_34 : decode cX1_stretchSchedule 34 = .ok (.iload_n 2, 1) := by decide +kernel
theorem dX1_stretchSchedule_35 : decode cX1_stretchSchedule 35 = .ok (.bipush 19, 2) := by decide +kernel
theorem dX1_stretchSchedule_37 : decode cX1_stretchSchedule 37 = .ok (.invokestatic 34, 3) := by decide +kernel
theorem dX1_stretchSchedule_40 : decode cX1_stretchSchedule 40 = .ok (.ixor, 1) := by decide +kernel
theorem dX1_stretchSchedule_41 : decode cX1_stretchSchedule 41 = .ok (.iload_n 2, 1) := by decide +kernel
theorem dX1_stretchSchedule_42 : decode cX1_stretchSchedule 42 = .ok (.bipush 10, 2) := by decide +kernel
theorem dX1_stretchSchedule_44 : decode cX1_stretchSchedule 44 = .ok (.iushr, 1) := by decide +kernel
theorem dX1_stretchSchedule_45 : decode cX1_stretchSchedule 45 = .ok (.ixor, 1) := by decide +kernel
theorem dX1_stretchSchedule_46 : decode cX1_stretchSchedule 46 = .ok (.istore 4, 2) := by decide +kernel
theorem dX1_stretchSchedule_48 : decode cX1_stretchSchedule 48 = .ok (.iload_n 3, 1) := by decide +kernel
theorem dX1_stretchSchedule_49 : decode cX1_stretchSchedule 49 = .ok (.bipush 7, 2) := by decide +kernel
theorem dX1_stretchSchedule_51 : decode cX1_stretchSchedule 51 = .ok (.invokestatic 34, 3) := by decide +kernel
theorem dX1_stretchSchedule_54 : decode cX1_stretchSchedule 54 = .ok (.iload_n 3, 1) := by decide +kernel
theorem dX1_stretchSchedule_55 : decode cX1_stretchSchedule 55 = .ok (.bipush 18, 2) := by decide +kernel
theorem dX1_stretchSchedule_57 : decode cX1_stretchSchedule 57 = .ok (.invokestatic 34, 3) := by decide +kernel
theorem dX1_stretchSchedule_60 : decode cX1_stretchSchedule 60 = .ok (.ixor, 1) := by decide +kernel
theorem dX1_stretchSchedule_61 : decode cX1_stretchSchedule 61 = .ok (.iload_n 3, 1) := by decide +kernel
theorem dX1_stretchSchedule_62 : decode cX1_stretchSchedule 62 = .ok (.iconst 3, 1) := by decide +kernel
theorem dX1_stretchSchedule_63 : decode cX1_stretchSchedule 63 = .ok (.iushr, 1) := by decide +kernel
theorem dX1_stretchSchedule_64 : decode cX1_stretchSchedule 64 = .ok (.ixor, 1) := by decide +kernel
theorem dX1_stretchSchedule_65 : decode cX1_stretchSchedule 65 = .ok (.istore 5, 2) := by decide +kernel
theorem dX1_stretchSchedule_67 : decode cX1_stretchSchedule 67 = .ok (.aload_n 0, 1) := by decide +kernel
theorem dX1_stretchSchedule_68 : decode cX1_stretchSchedule 68 = .ok (.getfield 11, 3) := by decide +kernel
theorem dX1_stretchSchedule_71 : decode cX1_stretchSchedule 71 = .ok (.iload_n 1, 1) := by decide +kernel
theorem dX1_stretchSchedule_72 : decode cX1_stretchSchedule 72 = .ok (.iload 4, 2) := by decide +kernel
theorem dX1_stretchSchedule_74 : decode cX1_stretchSchedule 74 = .ok (.aload_n 0, 1) := by decide +kernel
theorem dX1_stretchSchedule_75 : decode cX1_stretchSchedule 75 = .ok (.getfield 11, 3) := by decide +kernel
theorem dX1_stretchSchedule_78 : decode cX1_stretchSchedule 78 = .ok (.iload_n 1, 1) := by decide +kernel
theorem dX1_stretchSchedule_79 : decode cX1_stretchSchedule 79 = .ok (.bipush 7, 2) := by decide +kernel
theorem dX1_stretchSchedule_81 : decode cX1_stretchSchedule 81 = .ok (.isub, 1) := by decide +kernel
theorem dX1_stretchSchedule_82 : decode cX1_stretchSchedule 82 = .ok (.iaload, 1) := by decide +kernel
theorem dX1_stretchSchedule_83 : decode cX1_stretchSchedule 83 = .ok (.iadd, 1) := by decide +kernel
theorem dX1_stretchSchedule_84 : decode cX1_stretchSchedule 84 = .ok (.iload 5, 2) := by decide +kernel
theorem dX1_stretchSchedule_86 : decode cX1_stretchSchedule 86 = .ok (.iadd, 1) := by decide +kernel
theorem dX1_stretchSchedule_87 : decode cX1_stretchSchedule 87 = .ok (.aload_n 0, 1) := by decide +kernel
theorem dX1_stretchSchedule_88 : decode cX1_stretchSchedule 88 = .ok (.getfield 11, 3) := by decide +kernel
theorem dX1_stretchSchedule_91 : decode cX1_stretchSchedule 91 = .ok (.iload_n 1, 1) := by decide +kernel
theorem dX1_stretchSchedule_92 : decode cX1_stretchSchedule 92 = .ok (.bipush 16, 2) := by decide +kernel
theorem dX1_stretchSchedule_94 : decode cX1_stretchSchedule 94 = .ok (.isub, 1) := by decide +kernel
theorem dX1_stretchSchedule_95 : decode cX1_stretchSchedule 95 = .ok (.iaload, 1) := by decide +kernel
theorem dX1_stretchSchedule_96 : decode cX1_stretchSchedule 96 = .ok (.iadd, 1) := by decide +kernel
theorem dX1_stretchSchedule_97 : decode cX1_stretchSchedule 97 = .ok (.iastore, 1) := by decide +kernel
theorem dX1_stretchSchedule_98 : decode cX1_stretchSchedule 98 = .ok (.iinc 1 1, 3) := by decide +kernel
theorem dX1_stretchSchedule_101 : decode cX1_stretchSchedule 101 = .ok (.goto (-98), 3) := by decide +kernel
theorem dX1_stretchSchedule_104 : decode cX1_stretchSchedule 104 = .ok (.return_, 1) := by decide +kernel
set_option maxRecDepth 20000 in
theorem ggX1_mixBlock_X1_turn : GoodIn wsX1_mixBlock wsX1_turn := goodIn_r _ [7] (by decide +kernel) (by decide +kernel)
set_option maxRecDepth 20000 in
theorem gX1_mixBlock_X1_turn : GoodIn wsX1_mixBlock (va_wsS RX1 34 yX1_turn wsX1_turn) := goodIn_app (goodIn_of _ (by decide +kernel)) ggX1_mixBlock_X1_turn
theorem dX1_mixBlock_0 : decode cX1_mixBlock 0 = .ok (.aload_n 0, 1) := by decide +kernel
theorem dX1_mixBlock_1 : decode cX1_mixBlock 1 = .ok (.getfield 15, 3) := by decide +kernel
theorem dX1_mixBlock_4 : decode cX1_mixBlock 4 = .ok (.iconst 0, 1) := by decide +kernel
theorem dX1_mixBlock_5 : decode cX1_mixBlock 5 = .ok (.iaload, 1) := by decide +kernel
theorem dX1_mixBlock_6 : decode cX1_mixBlock 6 = .ok (.istore_n 1, 1) := by decide +kernel
theorem dX1_mixBlock_7 : decode cX1_mixBlock 7 = .ok (.aload_n 0, 1) := by decide +kernel
theorem dX1_mixBlock_8 : decode cX1_mixBlock 8 = .ok (.getfield 15, 3) := by decide +kernel
theorem dX1_mixBlock_11 : decode cX1_mixBlock 11 = .ok (.iconst 1, 1) := by decide +kernel
theorem dX1_mixBlock_12 : decode cX1_mixBlock 12 = .ok (.iaload, 1) := by decide +kernel
theorem dX1_mixBlock_13 : decode cX1_mixBlock 13 = .ok (.istore_n 2, 1) := by decide +kernel
theorem dX1_mixBlock_14 : decode cX1_mixBlock 14 = .ok (.aload_n 0, 1) := by decide +kernel
theorem dX1_mixBlock_15 : decode cX1_mixBlock 15 = .ok (.getfield 15, 3) := by decide +kernel
theorem dX1_mixBlock_18 : decode cX1_mixBlock 18 = .ok (.iconst 2, 1) := by decide +kernel
theorem dX1_mixBlock_19 : decode cX1_mixBlock 19 = .ok (.iaload, 1) := by decide +kernel
theorem dX1_mixBlock_20 : decode cX1_mixBlock 20 = .ok (.istore_n 3, 1) := by decide +kernel
theorem dX1_mixBlock_21 : decode cX1_mixBlock 21 = .ok (.aload_n 0, 1) := by decide +kernel
theorem dX1_mixBlock_22 : decode cX1_mixBlock 22 = .ok (.getfield 15, 3) := by decide +kernel
theorem dX1_mixBlock_25 : decode cX1_mixBlock 25 = .ok (.iconst 3, 1) := by decide +kernel
theorem dX1_mixBlock_26 : decode cX1_mixBlock 26 = .ok (.iaload, 1) := by decide +kernel
theorem dX1_mixBlock_27 : decode cX1_mixBlock 27 = .ok (.istore 4, 2) := by decide +kernel
theorem dX1_mixBlock_29 : decode cX1_mixBlock 29 = .ok (.aload_n 0, 1) := by decide +kernel
theorem dX1_mixBlock_30 : decode cX1_mixBlock 30 = .ok (.getfield 15, 3) := by decide +kernel
theorem dX1_mixBlock_33 : decode cX1_mixBlock 33 = .ok (.iconst 4, 1) := by decide +kernel
theorem dX1_mixBlock_34 : decode cX1_mixBlock 34 = .ok (.iaload, 1) := by decide +kernel
theorem dX1_mixBlock_35 : decode cX1_mixBlock 35 = .ok (.istore 5, 2) := by decide +kernel
theorem dX1_mixBlock_37 : decode cX1_mixBlock 37 = .ok (.aload_n 0, 1) := by decide +kernel
theorem dX1_mixBlock_38 : decode cX1_mixBlock 38 = .ok (.getfield 15, 3) := by decide +kernel
theorem dX1_mixBlock_41 : decode cX1_mixBlock 41 = .ok (.iconst 5, 1) := by decide +kernel
theorem dX1_mixBlock_42 : decode cX1_mixBlock 42 = .ok (.iaload, 1) := by decide +kernel
theorem dX1_mixBlock_43 : decode cX1_mixBlock 43 = .ok (.istore 6, 2) := by decide +kernel
theorem dX1_mixBlock_45 : decode cX1_mixBlock 45 = .ok (.aload_n 0, 1) := by decide +kernel
theorem dX1_mixBlock_46 : decode cX1_mixBlock 46 = .ok (.getfield 15, 3) := by decide +kernel
theorem dX1_mixBlock_49 : decode cX1_mixBlock 49 = .ok (.bipush 6, 2) := by decide +kernel
theorem dX1_mixBlock_51 : decode cX1_mixBlock 51 = .ok (.iaload, 1) := by decide +kernel
theorem dX1_mixBlock_52 : decode cX1_mixBlock 52 = .ok (.istore 7, 2) := by decide +kernel
theorem dX1_mixBlock_54 : decode cX1_mixBlock 54 = .ok (.aload_n 0, 1) := by decide +kernel
theorem dX1_mixBlock_55 : decode cX1_mixBlock 55 = .ok (.getfield 15, 3) := by decide +kernel
theorem dX1_mixBlock_58 : decode cX1_mixBlock 58 = .ok (.bipush 7, 2) := by decide +kernel
theorem dX1_mixBlock_60 : decode cX1_mixBlock 60 = .ok (.iaload, 1) := by decide +kernel
theorem dX1_mixBlock_61 : decode cX1_mixBlock 61 = .ok (.istore 8, 2) := by decide +kernel
theorem dX1_mixBlock_63 : decode cX1_mixBlock 63 = .ok (.iconst 0, 1) := by decide +kernel
theorem dX1_mixBlock_64 : decode cX1_mixBlock 64 = .ok (.istore 9, 2) := by decide +kernel
theorem dX1_mixBlock_66 : decode cX1_mixBlock 66 = .ok (.iload 9, 2) := by decide +kernel
theorem dX1_mixBlock_68 : decode cX1_mixBlock 68 = .ok (.bipush 64, 2) := by decide +kernel
theorem dX1_mixBlock_70 : decode cX1_mixBlock 70 = .ok (.if_icmp .ge 139, 3) := by decide +kernel
theorem dX1_mixBlock_73 : decode cX1_mixBlock 73 = .ok (.iload 5, 2) := by decide +kernel
theorem dX1_mixBlock_75 : decode cX1_mixBlock 75 = .ok (.iload 6, 2) := by decide +kernel
theorem dX1_mixBlock_77 : decode cX1_mixBlock 77 = .ok (.iand, 1) := by decide +kernel
theorem dX1_mixBlock_78 : decode cX1_mixBlock 78 = .ok (.iload 5, 2) := by decide +kernel
theorem dX1_mixBlock_80 : decode cX1_mixBlock 80 = .ok (.iconst (-1), 1) := by decide +kernel
theorem dX1_mixBlock_81 : decode cX1_mixBlock 81 = .ok (.ixor, 1) := by decide +kernel
theorem dX1_mixBlock_82 : decode cX1_mixBlock 82 = .ok (.iload 7, 2) := by decide +kernel
theorem dX1_mixBlock_84 : decode cX1_mixBlock 84 = .ok (.iand, 1) := by decide +kernel
theorem dX1_mixBlock_85 : decode cX1_mixBlock 85 = .ok (.ixor, 1) := by decide +kernel
theorem dX1_mixBlock_86 : decode cX1_mixBlock 86 = .ok (.istore 10, 2) := by decide +kernel
theorem dX1_mixBlock_88 : decode cX1_mixBlock 88 = .ok (.iload_n 1, 1) := by decide +kernel
theorem dX1_mixBlock_89 : decode cX1_mixBlock 89 = .ok (.iload_n 2, 1) := by decide +kernel
theorem dX1_mixBlock_90 : decode cX1_mixBlock 90 = .ok (.iand, 1) := by decide +kernel
theorem dX1_mixBlock_91 : decode cX1_mixBlock 91 = .ok (.iload_n 1, 1) := by decide +kernel
theorem dX1_mixBlock_92 : decode cX1_mixBlock 92 = .ok (.iload_n 3, 1) := by decide +kernel
theorem dX1_mixBlock_93 : decode cX1_mixBlock 93 = .ok (.iand, 1) := by decide +kernel
theorem dX1_mixBlock_94 : decode cX1_mixBlock 94 = .ok (.ixor, 1) := by decide +kernel
theorem dX1_mixBlock_95 : decode cX1_mixBlock 95 = .ok (.iload_n 2, 1) := by decide +kernel
theorem dX1_mixBlock_96 : decode cX1_mixBlock 96 = .ok (.iload_n 3, 1) := by decide +kernel
theorem dX1_mixBlock_97 : decode cX1_mixBlock 97 = .ok (.iand, 1) := by decide +kernel
theorem dX1_mixBlock_98 : decode cX1_mixBlock 98 = .ok (.ixor, 1) := by decide +kernel
theorem dX1_mixBlock_99 : decode cX1_mixBlock 99 = .ok (.istore 11, 2) := by decide +kernel
theorem dX1_mixBlock_101 : decode cX1_mixBlock 101 = .ok (.iload 8, 2) := by decide +kernel
theorem dX1_mixBlock_103 : decode cX1_mixBlock 103 = .ok (.iload 5, 2) := by decide +kernel
theorem dX1_mixBlock_105 : decode cX1_mixBlock 105 = .ok (.bipush 6, 2) := by decide +kernel
theorem dX1_mixBlock_107 : decode cX1_mixBlock 107 = .ok (.invokestatic 34, 3) := by decide +kernel
theorem dX1_mixBlock_110 : decode cX1_mixBlock 110 = .ok (.iload 5, 2) := by decide +kernel
theorem dX1_mixBlock_112 : decode cX1_mixBlock 112 = .ok (.bipush 11, 2) := by decide +kernel
theorem dX1_mixBlock_114 : decode cX1_mixBlock 114 = .ok (.invokestatic 34, 3) := by decide +kernel
theorem dX1_mixBlock_117 : decode cX1_mixBlock 117 = .ok (.ixor, 1) := by decide +kernel
theorem dX1_mixBlock_118 : decode cX1_mixBlock 118 = .ok (.iload 5, 2) := by decide +kernel
theorem dX1_mixBlock_120 : decode cX1_mixBlock 120 = .ok (.bipush 25, 2) := by decide +kernel
theorem dX1_mixBlock_122 : decode cX1_mixBlock 122 = .ok (.invokestatic 34, 3) := by decide +kernel
theorem dX1_mixBlock_125 : decode cX1_mixBlock 125 = .ok (.ixor, 1) := by decide +kernel
theorem dX1_mixBlock_126 : decode cX1_mixBlock 126 = .ok (.iadd, 1) := by decide +kernel
theorem dX1_mixBlock_127 : decode cX1_mixBlock 127 = .ok (.iload 10, 2) := by decide +kernel
theorem dX1_mixBlock_129 : decode cX1_mixBlock 129 = .ok (.iadd, 1) := by decide +kernel
theorem dX1_mixBlock_130 : decode cX1_mixBlock 130 = .ok (.getstatic 38, 3) := by decide +kernel
theorem dX1_mixBlock_133 : decode cX1_mixBlock 133 = .ok (.iload 9, 2) := by decide +kernel
theorem dX1_mixBlock_135 : decode cX1_mixBlock 135 = .ok (.iaload, 1) := by decide +kernel
theorem dX1_mixBlock_136 : decode cX1_mixBlock 136 = .ok (.iadd, 1) := by decide +kernel
theorem dX1_mixBlock_137 : decode cX1_mixBlock 137 = .ok (.aload_n 0, 1) := by decide +kernel
theorem dX1_mixBlock_138 : decode cX1_mixBlock 138 = .ok (.getfield 11, 3) := by decide +kernel
theorem dX1_mixBlock_141 : decode cX1_mixBlock 141 = .ok (.iload 9, 2) := by decide +kernel
theorem dX1_mixBlock_143 : decode cX1_mixBlock 143 = .ok (.iaload, 1) := by decide +kernel
theorem dX1_mixBlock_144 : decode cX1_mixBlock 144 = .ok (.iadd, 1) := by decide +kernel
theorem dX1_mixBlock_145 : decode cX1_mixBlock 145 = .ok (.istore 12, 2) := by decide +kernel
theorem dX1_mixBlock_147 : decode cX1_mixBlock 147 = .ok (.iload_n 1, 1) := by decide +kernel
theorem dX1_mixBlock_148 : decode cX1_mixBlock 148 = .ok (.iconst 2, 1) := by decide +kernel
theorem dX1_mixBlock_149 : decode cX1_mixBlock 149 = .ok (.invokestatic 34, 3) := by decide +kernel
theorem dX1_mixBlock_152 : decode cX1_mixBlock 152 = .ok (.iload_n 1, 1) := by decide +kernel
theorem dX1_mixBlock_153 : decode cX1_mixBlock 153 = .ok (.bipush 13, 2) := by decide +kernel
theorem dX1_mixBlock_155 : decode cX1_mixBlock 155 = .ok (.invokestatic 34, 3) := by decide +kernel
theorem dX1_mixBlock_158 : decode cX1_mixBlock 158 = .ok (.ixor, 1) := by decide +kernel
theorem dX1_mixBlock_159 : decode cX1_mixBlock 159 = .ok (.iload_n 1, 1) := by decide +kernel
theorem dX1_mixBlock_160 : decode cX1_mixBlock 160 = .ok (.bipush 22, 2) := by decide +kernel
theorem dX1_mixBlock_162 : decode cX1_mixBlock 162 = .ok (.invokestatic 34, 3) := by decide +kernel
theorem dX1_mixBlock_165 : decode cX1_mixBlock 165 = .ok (.ixor, 1) := by decide +kernel
theorem dX1_mixBlock_166 : decode cX1_mixBlock 166 = .ok (.iload 11, 2) := by decide +kernel
theorem dX1_mixBlock_168 : decode cX1_mixBlock 168 = .ok (.iadd, 1) := by decide +kernel
theorem dX1_mixBlock_169 : decode cX1_mixBlock 169 = .ok (.istore 13, 2) := by decide +kernel
theorem dX1_mixBlock_171 : decode cX1_mixBlock 171 = .ok (.iload 7, 2) := by decide +kernel
theorem dX1_mixBlock_173 : decode cX1_mixBlock 173 = .ok (.istore 8, 2) := by decide +kernel
theorem dX1_mixBlock_175 : decode cX1_mixBlock 175 = .ok (.iload 6, 2) := by decide +kernel
theorem dX1_mixBlock_177 : decode cX1_mixBlock 177 = .ok (.istore 7, 2) := by decide +kernel
theorem dX1_mixBlock_179 : decode cX1_mixBlock 179 = .ok (.iload 5, 2) := by decide +kernel
theorem dX1_mixBlock_181 : decode cX1_mixBlock 181 = .ok (.istore 6, 2) := by decide +kernel
theorem dX1_mixBlock_183 : decode cX1_mixBlock 183 = .ok (.iload 4, 2) := by decide +kernel
theorem dX1_mixBlock_185 : decode cX1_mixBlock 185 = .ok (.iload 12, 2) := by decide +kernel
theorem dX1_mixBlock_187 : decode cX1_mixBlock 187 = .ok (.iadd, 1) := by decide +kernel
theorem dX1_mixBlock_188 : decode cX1_mixBlock 188 = .ok (.istore 5, 2) := by decide +kernel
theorem dX1_mixBlock_190 : decode cX1_mixBlock 190 = .ok (.iload_n 3, 1) := by decide +kernel
theorem dX1_mixBlock_191 : decode cX1_mixBlock 191 = .ok (.istore 4, 2) := by decide +kernel
theorem dX1_mixBlock_193 : decode cX1_mixBlock 193 = .ok (.iload_n 2, 1) := by decide +kernel
theorem dX1_mixBlock_194 : decode cX1_mixBlock 194 = .ok (.istore_n 3, 1) := by decide +kernel
theorem dX1_mixBlock_195 : decode cX1_mixBlock 195 = .ok (.iload_n 1, 1) := by decide +kernel
theorem dX1_mixBlock_196 : decode cX1_mixBlock 196 = .ok (.istore_n 2, 1) := by decide +kernel
theorem dX1_mixBlock_197 : decode cX1_mixBlock 197 = .ok (.iload 12, 2) := by decide +kernel
theorem dX1_mixBlock_199 : decode cX1_mixBlock 199 = .ok (.iload 13, 2) := by decide +kernel
theorem dX1_mixBlock_201 : decode cX1_mixBlock 201 = .ok (.iadd, 1) := by decide +kernel
theorem dX1_mixBlock_202 : decode cX1_mixBlock 202 = .ok (.istore_n 1, 1) := by decide +kernel
theorem dX1_mixBlock_203 : decode cX1_mixBlock 203 = .ok (.iinc 9 1, 3) := by decide +kernel
theorem dX1_mixBlock_206 : decode cX1_mixBlock 206 = .ok (.goto (-140), 3) := by decide +kernel
theorem dX1_mixBlock_209 : decode cX1_mixBlock 209 = .ok (.aload_n 0, 1) := by decide +kernel
theorem dX1_mixBlock_210 : decode cX1_mixBlock 210 = .ok (.getfield 15, 3) := by decide +kernel
theorem dX1_mixBlock_213 : decode cX1_mixBlock 213 = .ok (.iconst 0, 1) := by decide +kernel
theorem dX1_mixBlock_214 : decode cX1_mixBlock 214 = .ok (.dup2, 1) := by decide +kernel
theorem dX1_mixBlock_215 : decode cX1_mixBlock 215 = .ok (.iaload, 1) := by decide +kernel
theorem dX1_mixBlock_216 : decode cX1_mixBlock 216 = .ok (.iload_n 1, 1) := by decide +kernel
theorem dX1_mixBlock_217 : decode cX1_mixBlock 217 = .ok (.iadd, 1) := by decide +kernel
theorem dX1_mixBlock_218 : decode cX1_mixBlock 218 = .ok (.iastore, 1) := by decide +kernel
theorem dX1_mixBlock_219 : decode cX1_mixBlock 219 = .ok (.aload_n 0, 1) := by decide +kernel
theorem dX1_mixBlock_220 : decode cX1_mixBlock 220 = .ok (.getfield 15, 3) := by decide +kernel
theorem dX1_mixBlock_223 : decode cX1_mixBlock 223 = .ok (.iconst 1, 1) := by decide +kernel
theorem dX1_mixBlock_224 : decode cX1_mixBlock 224 = .ok (.dup2, 1) := by decide +kernel
theorem dX1_mixBlock_225 : decode cX1_mixBlock 225 = .ok (.iaload, 1) := by decide +kernel
theorem dX1_mixBlock_226 : decode cX1_mixBlock 226 = .ok (.iload_n 2, 1) := by decide +kernel
theorem dX1_mixBlock_227 : decode cX1_mixBlock 227 = .ok (.iadd, 1) := by decide +kernel
theorem dX1_mixBlock_228 : decode cX1_mixBlock 228 = .ok (.iastore, 1) := by decide +kernel
theorem dX1_mixBlock_229 : decode cX1_mixBlock 229 = .ok (.aload_n 0, 1) := by decide +kernel
theorem dX1_mixBlock_230 : decode cX1_mixBlock 230 = .ok (.getfield 15, 3) := by decide +kernel
theorem dX1_mixBlock_233 : decode cX1_mixBlock 233 = .ok (.iconst 2, 1) := by decide +kernel
theorem dX1_mixBlock_234 : decode cX1_mixBlock 234 = .ok (.dup2, 1) := by decide +kernel
theorem dX1_mixBlock_235 : decode cX1_mixBlock 235 = .ok (.iaload, 1) := by decide +kernel
theorem dX1_mixBlock_236 : decode cX1_mixBlock 236 = .ok (.iload_n 3, 1) := by decide +kernel
theorem dX1_mixBlock_237 : decode cX1_mixBlock 237 = .ok (.iadd, 1) := by decide +kernel
theorem dX1_mixBlock_238 : decode cX1_mixBlock 238 = .ok (.iastore, 1) := by decide +kernel
theorem dX1_mixBlock_239 : decode cX1_mixBlock 239 = .ok (.aload_n 0, 1) := by decide +kernel
theorem dX1_mixBlock_240 : decode cX1_mixBlock 240 = .ok (.getfield 15, 3) := by decide +kernel
theorem dX1_mixBlock_243 : decode cX1_mixBlock 243 = .ok (.iconst 3, 1) := by decide +kernel
theorem dX1_mixBlock_244 : decode cX1_mixBlock 244 = .ok (.dup2, 1) := by decide +kernel
theorem dX1_mixBlock_245 : decode cX1_mixBlock 245 = .ok (.iaload, 1) := by decide +kernel
theorem dX1_mixBlock_246 : decode cX1_mixBlock 246 = .ok (.iload 4, 2) := by decide +kernel
theorem dX1_mixBlock_248 : decode cX1_mixBlock 248 = .ok (.iadd, 1) := by decide +kernel
theorem dX1_mixBlock_249 : decode cX1_mixBlock 249 = .ok (.iastore, 1) := by decide +kernel
theorem dX1_mixBlock_250 : decode cX1_mixBlock 250 = .ok (.aload_n 0, 1) := by decide +kernel
theorem dX1_mixBlock_251 : decode cX1_mixBlock 251 = .ok (.getfield 15, 3) := by decide +kernel
theorem dX1_mixBlock_254 : decode cX1_mixBlock 254 = .ok (.iconst 4, 1) := by decide +kernel
theorem dX1_mixBlock_255 : decode cX1_mixBlock 255 = .ok (.dup2, 1) := by decide +kernel
theorem dX1_mixBlock_256 : decode cX1_mixBlock 256 = .ok (.iaload, 1) := by decide +kernel
theorem dX1_mixBlock_257 : decode cX1_mixBlock 257 = .ok (.iload 5, 2) := by decide +kernel
theorem dX1_mixBlock_259 : decode cX1_mixBlock 259 = .ok (.iadd, 1) := by decide +kernel
theorem dX1_mixBlock_260 : decode cX1_mixBlock 260 = .ok (.iastore, 1) := by decide +kernel
theorem dX1_mixBlock_261 : decode cX1_mixBlock 261 = .ok (.aload_n 0, 1) := by decide +kernel
theorem dX1_mixBlock_262 : decode cX1_mixBlock 262 = .ok (.getfield 15, 3) := by decide +kernel
theorem dX1_mixBlock_265 : decode cX1_mixBlock 265 = .ok (.iconst 5, 1) := by decide +kernel
theorem dX1_mixBlock_266 : decode cX1_mixBlock 266 = .ok (.dup2, 1) := by decide +kernel
theorem dX1_mixBlock_267 : decode cX1_mixBlock 267 = .ok (.iaload, 1) := by decide +kernel
theorem dX1_mixBlock_268 : decode cX1_mixBlock 268 = .ok (.iload 6, 2) := by decide +kernel
theorem dX1_mixBlock_270 : decode cX1_mixBlock 270 = .ok (.iadd, 1) := by decide +kernel
theorem dX1_mixBlock_271 : decode cX1_mixBlock 271 = .ok (.iastore, 1) := by decide +kernel
theorem dX1_mixBlock_272 : decode cX1_mixBlock 272 = .ok (.aload_n 0, 1) := by decide +kernel
theorem dX1_mixBlock_273 : decode cX1_mixBlock 273 = .ok (.getfield 15, 3) := by decide +kernel
theorem dX1_mixBlock_276 : decode cX1_mixBlock 276 = .ok (.bipush 6, 2) := by decide +kernel
theorem dX1_mixBlock_278 : decode cX1_mixBlock 278 = .ok (.dup2, 1) := by decide +kernel
theorem dX1_mixBlock_279 : decode cX1_mixBlock 279 = .ok (.iaload, 1) := by decide +kernel
theorem dX1_mixBlock_280 : decode cX1_mixBlock 280 = .ok (.iload 7, 2) := by decide +kernel
theorem dX1_mixBlock_282 : decode cX1_mixBlock 282 = .ok (.iadd, 1) := by decide +kernel
theorem dX1_mixBlock_283 : decode cX1_mixBlock 283 = .ok (.iastore, 1) := by decide +kernel
theorem dX1_mixBlock_284 : decode cX1_mixBlock 284 = .ok (.aload_n 0, 1) := by decide +kernel
theorem dX1_mixBlock_285 : decode cX1_mixBlock 285 = .ok (.getfield 15, 3) := by decide +kernel
theorem dX1_mixBlock_288 : decode cX1_mixBlock 288 = .ok (.bipush 7, 2) := by decide +kernel
theorem dX1_mixBlock_290 : decode cX1_mixBlock 290 = .ok (.dup2, 1) := by decide +kernel
theorem dX1_mixBlock_291 : decode cX1_mixBlock 291 = .ok (.iaload, 1) := by decide +kernel
theorem dX1_mixBlock_292 : decode cX1_mixBlock 292 = .ok (.iload 8, 2) := by decide +kernel
theorem dX1_mixBlock_294 : decode cX1_mixBlock 294 = .ok (.iadd, 1) := by decide +kernel
theorem dX1_mixBlock_295 : decode cX1_mixBlock 295 = .ok (.iastore, 1) := by decide +kernel
theorem dX1_mixBlock_296 : decode cX1_mixBlock 296 = .ok (.return_, 1) := by decide +kernel
theorem dX1_turn_0 : decode cX1_turn 0 = .ok (.iload_n 0, 1) := by decide +kernel
theorem dX1_turn_1 : decode cX1_turn 1 = .ok (.iload_n 1, 1) := by decide +kernel
theorem dX1_turn_2 : decode cX1_turn 2 = .ok (.iushr, 1) := by decide +kernel
theorem dX1_turn_3 : decode cX1_turn 3 = .ok (.iload_n 0, 1) := by decide +kernel
theorem dX1_turn_4 : decode cX1_turn 4 = .ok (.bipush 32, 2) := by decide +kernel
theorem dX1_turn_6 : decode cX1_turn 6 = .ok (.iload_n 1, 1) := by decide +kernel
theorem dX1_turn_7 : decode cX1_turn 7 = .ok (.isub, 1) := by decide +kernel
theorem dX1_turn_8 : decode cX1_turn 8 = .ok (.ishl, 1) := by decide +kernel
theorem dX1_turn_9 : decode cX1_turn 9 = .ok (.ior, 1) := by decide +kernel
theorem dX1_turn_10 : decode cX1_turn 10 = .ok (.ireturn, 1) := by decide +kernel
theorem dX2_init_0 : decode cX2_init 0 = .ok (.aload_n 0, 1) := by decide +kernel
theorem dX2_init_1 : decode cX2_init 1 = .ok (.invokespecial 3, 3) := by decide +kernel
theorem dX2_init_4 : decode cX2_init 4 = .ok (.aload_n 0, 1) := by decide +kernel
theorem dX2_init_5 : decode cX2_init 5 = .ok (.sipush 1024, 3) := by decide +kernel
theorem dX2_init_8 : decode cX2_init 8 = .ok (.newarray .int, 2) := by decide +kernel
theorem dX2_init_10 : decode cX2_init 10 = .ok (.putfield 9, 3) := by decide +kernel
theorem dX2_init_13 : decode cX2_init 13 = .ok (.aload_n 0, 1) := by decide +kernel
theorem dX2_init_14 : decode cX2_init 14 = .ok (.iconst 0, 1) := by decide +kernel
theorem dX2_init_15 : decode cX2_init 15 = .ok (.putfield 15, 3) := by decide +kernel
theorem dX2_init_18 : decode cX2_init 18 = .ok (.return_, 1) := by decide +kernel
theorem dX2_add_0 : decode cX2_add 0 = .ok (.aload_n 0, 1) := by decide +kernel
theorem dX2_add_1 : decode cX2_add 1 = .ok (.getfield 15, 3) := by decide +kernel
theorem dX2_add_4 : decode cX2_add 4 = .ok (.ifCond .lt 37, 3) := by decide +kernel
theorem dX2_add_7 : decode cX2_add 7 = .ok (.aload_n 0, 1) := by decide +kernel
theorem dX2_add_8 : decode cX2_add 8 = .ok (.getfield 15, 3) := by decide +kernel
theorem dX2_add_11 : decode cX2_add 11 = .ok (.sipush 1024, 3) := by decide +kernel
theorem dX2_add_14 : decode cX2_add 14 = .ok (.if_icmp .ge 27, 3) := by decide +kernel
theorem dX2_add_17 : decode cX2_add 17 = .ok (.aload_n 0, 1) := by decide +kernel
theorem dX2_add_18 : decode cX2_add 18 = .ok (.getfield 9, 3) := by decide +kernel
theorem dX2_add_21 : decode cX2_add 21 = .ok (.aload_n 0, 1) := by decide +kernel
theorem dX2_add_22 : decode cX2_add 22 = .ok (.getfield 15, 3) := by decide +kernel
theorem dX2_add_25 : decode cX2_add 25 = .ok (.iload_n 1, 1) := by decide +kernel
theorem dX2_add_26 : decode cX2_add 26 = .ok (.sipush 255, 3) := by decide +kernel
theorem dX2_add_29 : decode cX2_add 29 = .ok (.iand, 1) := by decide +kernel
theorem dX2_add_30 : decode cX2_add 30 = .ok (.iastore, 1) := by decide +kernel
theorem dX2_add_31 : decode cX2_add 31 = .ok (.aload_n 0, 1) := by decide +kernel
theorem dX2_add_32 : decode cX2_add 32 = .ok (.dup, 1) := by decide +kernel
theorem dX2_add_33 : decode cX2_add 33 = .ok (.getfield 15, 3) := by decide +kernel
theorem dX2_add_36 : decode cX2_add 36 = .ok (.iconst 1, 1) := by decide +kernel
theorem dX2_add_37 : decode cX2_add 37 = .ok (.iadd, 1) := by decide +kernel
theorem dX2_add_38 : decode cX2_add 38 = .ok (.putfield 15, 3) := by decide +kernel
theorem dX2_add_41 : decode cX2_add 41 = .ok (.return_, 1) := by decide +kernel
set_option maxRecDepth 20000 in
theorem ggX2_addHighestFirst_X2_add : GoodIn wsX2_addHighestFirst wsX2_add := goodIn_r _ [5, 6, 7, 8, 9] (by decide +kernel) (by decide +kernel)
set_option maxRecDepth 20000 in
theorem gX2_addHighestFirst_X2_add : GoodIn wsX2_addHighestFirst (wsV RX2 19 RX2 yX2_add wsX2_add) := goodIn_app (goodIn_of _ (by decide +kernel)) ggX2_addHighestFirst_X2_add
theorem dX2_addHighestFirst_0 : decode cX2_addHighestFirst 0 = .ok (.aload_n 0, 1) := by decide +kernel
theorem dX2_addHighestFirst_1 : decode cX2_addHighestFirst 1 = .ok (.iload_n 1, 1) := by decide +kernel
theorem dX2_addHighestFirst_2 : decode cX2_addHighestFirst 2 = .ok (.bipush 24, 2) := by decide +kernel
theorem dX2_addHighestFirst_4 : decode cX2_addHighestFirst 4 = .ok (.ishr, 1) := by decide +kernel
theorem dX2_addHighestFirst_5 : decode cX2_addHighestFirst 5 = .ok (.invokevirtual 19, 3) := by decide +kernel
theorem dX2_addHighestFirst_8 : decode cX2_addHighestFirst 8 = .ok (.aload_n 0, 1) := by decide +kernel
theorem dX2_addHighestFirst_9 : decode cX2_addHighestFirst 9 = .ok (.iload_n 1, 1) := by decide +kernel
theorem dX2_addHighestFirst_10 : decode cX2_addHighestFirst 10 = .ok (.bipush 16, 2) := by decide +kernel
theorem dX2_addHighestFirst_12 : decode cX2_addHighestFirst 12 = .ok (.ishr, 1) := by decide +kernel
theorem dX2_addHighestFirst_13 : decode cX2_addHighestFirst 13 = .ok (.invokevirtual 19, 3) := by decide +kernel
theorem dX2_addHighestFirst_16 : decode cX2_addHighestFirst 16 = .ok (.aload_n 0, 1) := by decide +kernel
theorem dX2_addHighestFirst_17 : decode cX2_addHighestFirst 17 = .ok (.iload_n 1, 1) := by decide +kernel
theorem dX2_addHighestFirst_18 : decode cX2_addHighestFirst 18 = .ok (.bipush 8, 2) := by decide +kernel
theorem dX2_addHighestFirst_20 : decode cX2_addHighestFirst 20 = .ok (.ishr, 1) := by decide +kernel
theorem dX2_addHighestFirst_21 : decode cX2_addHighestFirst 21 = .ok (.invokevirtual 19, 3) := by decide +kernel
theorem dX2_addHighestFirst_24 : decode cX2_addHighestFirst 24 = .ok (.aload_n 0, 1) := by decide +kernel
theorem dX2_addHighestFirst_25 : decode cX2_addHighestFirst 25 = .ok (.iload_n 1, 1) := by decide +kernel
theorem dX2_addHighestFirst_26 : decode cX2_addHighestFirst 26 = .ok (.invokevirtual 19, 3) := by decide +kernel
theorem dX2_addHighestFirst_29 : decode cX2_addHighestFirst 29 = .ok (.return_, 1) := by decide +kernel
set_option maxRecDepth 20000 in
theorem ggX2_addLowestFirst_X2_add : GoodIn wsX2_addLowestFirst wsX2_add := goodIn_r _ [5, 6, 7, 8, 9] (by decide +kernel) (by decide +kernel)
set_option maxRecDepth 20000 in
theorem gX2_addLowestFirst_X2_add : GoodIn wsX2_addLowestFirst (wsV RX2 19 RX2 yX2_add wsX2_add) := goodIn_app (goodIn_of _ (by decide +kernel)) ggX2_addLowestFirst_X2_add
theorem dX2_addLowestFirst_0 : decode cX2_addLowestFirst 0 = .ok (.aload_n 0, 1) := by decide +kernel
theorem dX2_addLowestFirst_1 : decode cX2_addLowestFirst 1 = .ok (.iload_n 1, 1) := by decide +kernel
theorem dX2_addLowestFirst_2 : decode cX2_addLowestFirst 2 = .ok (.invokevirtual 19, 3) := by decide +kernel
theorem dX2_addLowestFirst_5 : decode cX2_addLowestFirst 5 = .ok (.aload_n 0, 1) := by decide +kernel
theorem dX2_addLowestFirst_6 : decode cX2_addLowestFirst 6 = .ok (.iload_n 1, 1) := by decide +kernel
theorem dX2_addLowestFirst_7 : decode cX2_addLowestFirst 7 = .ok (.bipush 8, 2) := by decide +kernel
theorem dX2_addLowestFirst_9 : decode cX2_addLowestFirst 9 = .ok (.ishr, 1) := by decide +kernel
theorem dX2_addLowestFirst_10 : decode cX2_addLowestFirst 10 = .ok (.invokevirtual 19, 3) := by decide +kernel
theorem dX2_addLowestFirst_13 : decode cX2_addLowestFirst 13 = .ok (.aload_n 0, 1) := by decide +kernel
theorem dX2_addLowestFirst_14 : decode cX2_addLowestFirst 14 = .ok (.iload_n 1, 1) := by decide +kernel
theorem dX2_addLowestFirst_15 : decode cX2_addLowestFirst 15 = .ok (.bipush 16, 2) := by decide +kernel
theorem dX2_addLowestFirst_17 : decode cX2_addLowestFirst 17 = .ok (.ishr, 1) := by decide +kernel
theorem dX2_addLowestFirst_18 : decode cX2_addLowestFirst 18 = .ok (.invokevirtual 19, 3) := by decide +kernel
theorem dX2_addLowestFirst_21 : decode cX2_addLowestFirst 21 = .ok (.aload_n 0, 1) := by decide +kernel
theorem dX2_addLowestFirst_22 : decode cX2_addLowestFirst 22 = .ok (.iload_n 1, 1) := by decide +kernel
theorem dX2_addLowestFirst_23 : decode cX2_addLowestFirst 23 = .ok (.bipush 24, 2) := by decide +kernel
theorem dX2_addLowestFirst_25 : decode cX2_addLowestFirst 25 = .ok (.ishr, 1) := by decide +kernel
theorem dX2_addLowestFirst_26 : decode cX2_addLowestFirst 26 = .ok (.invokevirtual 19, 3) := by decide +kernel
theorem dX2_addLowestFirst_29 : decode cX2_addLowestFirst 29 = .ok (.return_, 1) := by decide +kernel
set_option maxRecDepth 20000 in
theorem ggX2_becomeImage_X2_addLowestFirst : GoodIn wsX2_becomeImage wsX2_addLowestFirst := goodIn_r _ [7, 8, 9, 10, 6, 11, 1, 2, 40, 41] (by decide +kernel) (by decide +kernel)
set_option maxRecDepth 20000 in
theorem gX2_becomeImage_X2_addLowestFirst : GoodIn wsX2_becomeImage (wsV RX2 23 RX2 yX2_addLowestFirst wsX2_addLowestFirst) := goodIn_app (goodIn_of _ (by decide +kernel)) ggX2_becomeImage_X2_addLowestFirst
set_option maxRecDepth 20000 in
theorem ggX2_becomeImage_X1_digest : GoodIn wsX2_becomeImage wsX1_digest := goodIn_r _ [15, 16, 17, 18, 19, 20, 13, 21, 22, 23, 24, 25, 26, 27, 28, 29, 30, 31, 32, 33, 34, 35, 36, 42, 43] (by decide +kernel) (by decide +kernel)
set_option maxRecDepth 20000 in
theorem gX2_becomeImage_X1_digest_n26 : GoodIn wsX2_becomeImage (wsX1_digest) := ggX2_becomeImage_X1_digest
set_option maxRecDepth 20000 in
theorem ggX2_becomeImage_X1_digestByte : GoodIn wsX2_becomeImage wsX1_digestByte := goodIn_r _ [39, 16, 42, 43] (by decide +kernel) (by decide +kernel)
set_option maxRecDepth 20000 in
theorem gX2_becomeImage_X1_digestByte_n32 : GoodIn wsX2_becomeImage (wsX1_digestByte) := ggX2_becomeImage_X1_digestByte
set_option maxRecDepth 20000 in
theorem ggX2_becomeImage_X2_add : GoodIn wsX2_becomeImage wsX2_add := goodIn_r _ [11, 1, 2, 40, 41] (by decide +kernel) (by decide +kernel)
set_option maxRecDepth 20000 in
theorem gX2_becomeImage_X2_add : GoodIn wsX2_becomeImage (wsV RX2 19 RX2 yX2_add wsX2_add) := goodIn_app (goodIn_of _ (by decide +kernel)) ggX2_becomeImage_X2_add
theorem dX2_becomeImage_0 : decode cX2_becomeImage 0 = .ok (.aload_n 0, 1) := by decide +kernel
theorem dX2_becomeImage_1 : decode cX2_becomeImage 1 = .ok (.getfield 15, 3) := by decide +kernel
theorem dX2_becomeImage_4 : decode cX2_becomeImage 4 = .ok (.istore_n 3, 1) := by decide +kernel
theorem dX2_becomeImage_5 : decode cX2_becomeImage 5 = .ok (.iload_n 3, 1) := by decide +kernel
theorem dX2_becomeImage_6 : decode cX2_becomeImage 6 = .ok (.ifCond .lt 14, 3) := by decide +kernel
theorem dX2_becomeImage_9 : decode cX2_becomeImage 9 = .ok (.iload_n 3, 1) := by decide +kernel
theorem dX2_becomeImage_10 : decode cX2_becomeImage 10 = .ok (.sipush 984, 3) := by decide +kernel
theorem dX2_becomeImage_13 : decode cX2_becomeImage 13 = .ok (.if_icmp .gt 7, 3) := by decide +kernel
theorem dX2_becomeImage_16 : decode cX2_becomeImage 16 = .ok (.aload_n 2, 1) := by decide +kernel
theorem dX2_becomeImage_17 : decode cX2_becomeImage 17 = .ok (.ifnonnull 4, 3) := by decide +kernel
theorem dX2_becomeImage_20 : decode cX2_becomeImage 20 = .ok (.return_, 1) := by decide +kernel
theorem dX2_becomeImage_21 : decode cX2_becomeImage 21 = .ok (.iload_n 3, 1) := by decide +kernel
theorem dX2_becomeImage_22 : decode cX2_becomeImage 22 = .ok (.iconst 1, 1) := by decide +kernel
theorem dX2_becomeImage_23 : decode cX2_becomeImage 23 = .ok (.isub, 1) := by decide +kernel
theorem dX2_becomeImage_24 : decode cX2_becomeImage 24 = .ok (.istore 4, 2) := by decide +kernel
theorem dX2_becomeImage_26 : decode cX2_becomeImage 26 = .ok (.iload 4, 2) := by decide +kernel
theorem dX2_becomeImage_28 : decode cX2_becomeImage 28 = .ok (.ifCond .lt 26, 3) := by decide +kernel
theorem dX2_becomeImage_31 : decode cX2_becomeImage 31 = .ok (.aload_n 0, 1) := by decide +kernel
theorem dX2_becomeImage_32 : decode cX2_becomeImage 32 = .ok (.getfield 9, 3) := by decide +kernel
theorem dX2_becomeImage_35 : decode cX2_becomeImage 35 = .ok (.bipush 8, 2) := by decide +kernel
theorem dX2_becomeImage_37 : decode cX2_becomeImage 37 = .ok (.iload 4, 2) := by decide +kernel
theorem dX2_becomeImage_39 : decode cX2_becomeImage 39 = .ok (.iadd, 1) := by decide +kernel
theorem dX2_becomeImage_40 : decode cX2_becomeImage 40 = .ok (.aload_n 0, 1) := by decide +kernel
theorem dX2_becomeImage_41 : decode cX2_becomeImage 41 = .ok (.getfield 9, 3) := by decide +kernel
theorem dX2_becomeImage_44 : decode cX2_becomeImage 44 = .ok (.iload 4, 2) := by decide +kernel
theorem dX2_becomeImage_46 : decode cX2_becomeImage 46 = .ok (.iaload, 1) := by decide +kernel
theorem dX2_becomeImage_47 : decode cX2_becomeImage 47 = .ok (.iastore, 1) := by decide +kernel
theorem dX2_becomeImage_48 : decode cX2_becomeImage 48 = .ok (.iinc 4 (-1), 3) := by decide +kernel
theorem dX2_becomeImage_51 : decode cX2_becomeImage 51 = .ok (.goto (-25), 3) := by decide +kernel
theorem dX2_becomeImage_54 : decode cX2_becomeImage 54 = .ok (.aload_n 0, 1) := by decide +kernel
theorem dX2_becomeImage_55 : decode cX2_becomeImage 55 = .ok (.iconst 0, 1) := by decide +kernel
theorem dX2_becomeImage_56 : decode cX2_becomeImage 56 = .ok (.putfield 15, 3) := by decide +kernel
theorem dX2_becomeImage_59 : decode cX2_becomeImage 59 = .ok (.aload_n 0, 1) := by decide +kernel
theorem dX2_becomeImage_60 : decode cX2_becomeImage 60 = .ok (.iload_n 3, 1) := by decide +kernel
theorem dX2_becomeImage_61 : decode cX2_becomeImage 61 = .ok (.invokevirtual 23, 3) := by decide +kernel
theorem dX2_becomeImage_64 : decode cX2_becomeImage 64 = .ok (.aload_n 0, 1) := by decide +kernel
theorem dX2_becomeImage_65 : decode cX2_becomeImage 65 = .ok (.iload_n 1, 1) := by decide +kernel
theorem dX2_becomeImage_66 : decode cX2_becomeImage 66 = .ok (.invokevirtual 23, 3) := by decide +kernel
theorem dX2_becomeImage_69 : decode cX2_becomeImage 69 = .ok (.aload_n 0, 1) := by decide +kernel
theorem dX2_becomeImage_70 : decode cX2_becomeImage 70 = .ok (.bipush 8, 2) := by decide +kernel
theorem dX2_becomeImage_72 : decode cX2_becomeImage 72 = .ok (.iload_n 3, 1) := by decide +kernel
theorem dX2_becomeImage_73 : decode cX2_becomeImage 73 = .ok (.iadd, 1) := by decide +kernel
theorem dX2_becomeImage_74 : decode cX2_becomeImage 74 = .ok (.putfield 15, 3) := by decide +kernel
theorem dX2_becomeImage_77 : decode cX2_becomeImage 77 = .ok (.aload_n 2, 1) := by decide +kernel
theorem dX2_becomeImage_78 : decode cX2_becomeImage 78 = .ok (.aload_n 0, 1) := by decide +kernel
theorem dX2_becomeImage_79 : decode cX2_becomeImage 79 = .ok (.getfield 9, 3) := by decide +kernel
theorem dX2_becomeImage_82 : decode cX2_becomeImage 82 = .ok (.iconst 0, 1) := by decide +kernel
theorem dX2_becomeImage_83 : decode cX2_becomeImage 83 = .ok (.aload_n 0, 1) := by decide +kernel
theorem dX2_becomeImage_84 : decode cX2_becomeImage 84 = .ok (.getfield 15, 3) := by decide +kernel
theorem dX2_becomeImage_87 : decode cX2_becomeImage 87 = .ok (.invokevirtual 26, 3) := by decide +kernel
theorem dX2_becomeImage_90 : decode cX2_becomeImage 90 = .ok (.iconst 0, 1) := by decide +kernel
theorem dX2_becomeImage_91 : decode cX2_becomeImage 91 = .ok (.istore 4, 2) := by decide +kernel
theorem dX2_becomeImage_93 : decode cX2_becomeImage 93 = .ok (.iload 4, 2) := by decide +kernel
theorem dX2_becomeImage_95 : decode cX2_becomeImage 95 = .ok (.bipush 32, 2) := by decide +kernel
theorem dX2_becomeImage_97 : decode cX2_becomeImage 97 = .ok (.if_icmp .ge 19, 3) := by decide +kernel
theorem dX2_becomeImage_100 : decode cX2_becomeImage 100 = .ok (.aload_n 0, 1) := by decide +kernel
theorem dX2_becomeImage_101 : decode cX2_becomeImage 101 = .ok (.aload_n 2, 1) := by decide +kernel
theorem dX2_becomeImage_102 : decode cX2_becomeImage 102 = .ok (.iload 4, 2) := by decide +kernel
theorem dX2_becomeImage_104 : decode cX2_becomeImage 104 = .ok (.invokevirtual 32, 3) := by decide +kernel
theorem dX2_becomeImage_107 : decode cX2_becomeImage 107 = .ok (.invokevirtual 19, 3) := by decide +kernel
theorem dX2_becomeImage_110 : decode cX2_becomeImage 110 = .ok (.iinc 4 1, 3) := by decide +kernel
theorem dX2_becomeImage_113 : decode cX2_becomeImage 113 = .ok (.goto (-20), 3) := by decide +kernel
theorem dX2_becomeImage_116 : decode cX2_becomeImage 116 = .ok (.return_, 1) := by decide +kernel
