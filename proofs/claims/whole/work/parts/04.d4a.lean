theorem dX4_init_0 : decode cX4_init 0 = .ok (.aload_n 0, 1) := by decide +kernel
theorem dX4_init_1 : decode cX4_init 1 = .ok (.invokespecial 3, 3) := by decide +kernel
theorem dX4_init_4 : decode cX4_init 4 = .ok (.aload_n 0, 1) := by decide +kernel
theorem dX4_init_5 : decode cX4_init 5 = .ok (.sipush 2816, 3) := by decide +kernel
theorem dX4_init_8 : decode cX4_init 8 = .ok (.newarray .byte, 2) := by decide +kernel
theorem dX4_init_10 : decode cX4_init 10 = .ok (.putfield 9, 3) := by decide +kernel
theorem dX4_init_13 : decode cX4_init 13 = .ok (.aload_n 0, 1) := by decide +kernel
theorem dX4_init_14 : decode cX4_init 14 = .ok (.sipush 2816, 3) := by decide +kernel
theorem dX4_init_17 : decode cX4_init 17 = .ok (.newarray .byte, 2) := by decide +kernel
theorem dX4_init_19 : decode cX4_init 19 = .ok (.putfield 13, 3) := by decide +kernel
theorem dX4_init_22 : decode cX4_init 22 = .ok (.aload_n 0, 1) := by decide +kernel
theorem dX4_init_23 : decode cX4_init 23 = .ok (.sipush 700, 3) := by decide +kernel
theorem dX4_init_26 : decode cX4_init 26 = .ok (.newarray .int, 2) := by decide +kernel
theorem dX4_init_28 : decode cX4_init 28 = .ok (.putfield 16, 3) := by decide +kernel
theorem dX4_init_31 : decode cX4_init 31 = .ok (.aload_n 0, 1) := by decide +kernel
theorem dX4_init_32 : decode cX4_init 32 = .ok (.sipush 700, 3) := by decide +kernel
theorem dX4_init_35 : decode cX4_init 35 = .ok (.newarray .int, 2) := by decide +kernel
theorem dX4_init_37 : decode cX4_init 37 = .ok (.putfield 20, 3) := by decide +kernel
theorem dX4_init_40 : decode cX4_init 40 = .ok (.aload_n 0, 1) := by decide +kernel
theorem dX4_init_41 : decode cX4_init 41 = .ok (.sipush 5600, 3) := by decide +kernel
theorem dX4_init_44 : decode cX4_init 44 = .ok (.newarray .byte, 2) := by decide +kernel
theorem dX4_init_46 : decode cX4_init 46 = .ok (.putfield 23, 3) := by decide +kernel
theorem dX4_init_49 : decode cX4_init 49 = .ok (.aload_n 0, 1) := by decide +kernel
theorem dX4_init_50 : decode cX4_init 50 = .ok (.sipush 1024, 3) := by decide +kernel
theorem dX4_init_53 : decode cX4_init 53 = .ok (.newarray .byte, 2) := by decide +kernel
theorem dX4_init_55 : decode cX4_init 55 = .ok (.putfield 26, 3) := by decide +kernel
theorem dX4_init_58 : decode cX4_init 58 = .ok (.aload_n 0, 1) := by decide +kernel
theorem dX4_init_59 : decode cX4_init 59 = .ok (.iconst (-1), 1) := by decide +kernel
theorem dX4_init_60 : decode cX4_init 60 = .ok (.putfield 29, 3) := by decide +kernel
theorem dX4_init_63 : decode cX4_init 63 = .ok (.aload_n 0, 1) := by decide +kernel
theorem dX4_init_64 : decode cX4_init 64 = .ok (.bipush 11, 2) := by decide +kernel
theorem dX4_init_66 : decode cX4_init 66 = .ok (.newarray .int, 2) := by decide +kernel
theorem dX4_init_68 : decode cX4_init 68 = .ok (.putfield 33, 3) := by decide +kernel
theorem dX4_init_71 : decode cX4_init 71 = .ok (.aload_n 0, 1) := by decide +kernel
theorem dX4_init_72 : decode cX4_init 72 = .ok (.bipush 8, 2) := by decide +kernel
theorem dX4_init_74 : decode cX4_init 74 = .ok (.newarray .byte, 2) := by decide +kernel
theorem dX4_init_76 : decode cX4_init 76 = .ok (.putfield 36, 3) := by decide +kernel
theorem dX4_init_79 : decode cX4_init 79 = .ok (.aload_n 0, 1) := by decide +kernel
theorem dX4_init_80 : decode cX4_init 80 = .ok (.bipush 32, 2) := by decide +kernel
theorem dX4_init_82 : decode cX4_init 82 = .ok (.newarray .byte, 2) := by decide +kernel
theorem dX4_init_84 : decode cX4_init 84 = .ok (.putfield 39, 3) := by decide +kernel
theorem dX4_init_87 : decode cX4_init 87 = .ok (.aload_n 0, 1) := by decide +kernel
theorem dX4_init_88 : decode cX4_init 88 = .ok (.bipush 64, 2) := by decide +kernel
theorem dX4_init_90 : decode cX4_init 90 = .ok (.newarray .int, 2) := by decide +kernel
theorem dX4_init_92 : decode cX4_init 92 = .ok (.putfield 42, 3) := by decide +kernel
theorem dX4_init_95 : decode cX4_init 95 = .ok (.aload_n 0, 1) := by decide +kernel
theorem dX4_init_96 : decode cX4_init 96 = .ok (.sipush 1152, 3) := by decide +kernel
theorem dX4_init_99 : decode cX4_init 99 = .ok (.newarray .byte, 2) := by decide +kernel
theorem dX4_init_101 : decode cX4_init 101 = .ok (.putfield 45, 3) := by decide +kernel
theorem dX4_init_104 : decode cX4_init 104 = .ok (.aload_n 0, 1) := by decide +kernel
theorem dX4_init_105 : decode cX4_init 105 = .ok (.bipush 8, 2) := by decide +kernel
theorem dX4_init_107 : decode cX4_init 107 = .ok (.newarray .int, 2) := by decide +kernel
theorem dX4_init_109 : decode cX4_init 109 = .ok (.putfield 48, 3) := by decide +kernel
theorem dX4_init_112 : decode cX4_init 112 = .ok (.aload_n 0, 1) := by decide +kernel
theorem dX4_init_113 : decode cX4_init 113 = .ok (.iconst 5, 1) := by decide +kernel
theorem dX4_init_114 : decode cX4_init 114 = .ok (.newarray .int, 2) := by decide +kernel
theorem dX4_init_116 : decode cX4_init 116 = .ok (.putfield 51, 3) := by decide +kernel
theorem dX4_init_119 : decode cX4_init 119 = .ok (.iconst 0, 1) := by decide +kernel
theorem dX4_init_120 : decode cX4_init 120 = .ok (.istore_n 1, 1) := by decide +kernel
theorem dX4_init_121 : decode cX4_init 121 = .ok (.iload_n 1, 1) := by decide +kernel
theorem dX4_init_122 : decode cX4_init 122 = .ok (.sipush 2816, 3) := by decide +kernel
theorem dX4_init_125 : decode cX4_init 125 = .ok (.if_icmp .ge 16, 3) := by decide +kernel
theorem dX4_init_128 : decode cX4_init 128 = .ok (.aload_n 0, 1) := by decide +kernel
theorem dX4_init_129 : decode cX4_init 129 = .ok (.getfield 9, 3) := by decide +kernel
theorem dX4_init_132 : decode cX4_init 132 = .ok (.iload_n 1, 1) := by decide +kernel
theorem dX4_init_133 : decode cX4_init 133 = .ok (.iconst (-1), 1) := by decide +kernel
theorem dX4_init_134 : decode cX4_init 134 = .ok (.bastore, 1) := by decide +kernel
theorem dX4_init_135 : decode cX4_init 135 = .ok (.iinc 1 1, 3) := by decide +kernel
theorem dX4_init_138 : decode cX4_init 138 = .ok (.goto (-17), 3) := by decide +kernel
theorem dX4_init_141 : decode cX4_init 141 = .ok (.return_, 1) := by decide +kernel
theorem dX4_begins_0 : decode cX4_begins 0 = .ok (.iconst 0, 1) := by decide +kernel
theorem dX4_begins_1 : decode cX4_begins 1 = .ok (.istore_n 1, 1) := by decide +kernel
theorem dX4_begins_2 : decode cX4_begins 2 = .ok (.iload_n 1, 1) := by decide +kernel
theorem dX4_begins_3 : decode cX4_begins 3 = .ok (.sipush 2816, 3) := by decide +kernel
theorem dX4_begins_6 : decode cX4_begins 6 = .ok (.if_icmp .ge 21, 3) := by decide +kernel
theorem dX4_begins_9 : decode cX4_begins 9 = .ok (.aload_n 0, 1) := by decide +kernel
theorem dX4_begins_10 : decode cX4_begins 10 = .ok (.getfield 13, 3) := by decide +kernel
theorem dX4_begins_13 : decode cX4_begins 13 = .ok (.iload_n 1, 1) := by decide +kernel
theorem dX4_begins_14 : decode cX4_begins 14 = .ok (.aload_n 0, 1) := by decide +kernel
theorem dX4_begins_15 : decode cX4_begins 15 = .ok (.getfield 9, 3) := by decide +kernel
theorem dX4_begins_18 : decode cX4_begins 18 = .ok (.iload_n 1, 1) := by decide +kernel
theorem dX4_begins_19 : decode cX4_begins 19 = .ok (.baload, 1) := by decide +kernel
theorem dX4_begins_20 : decode cX4_begins 20 = .ok (.bastore, 1) := by decide +kernel
theorem dX4_begins_21 : decode cX4_begins 21 = .ok (.iinc 1 1, 3) := by decide +kernel
theorem dX4_begins_24 : decode cX4_begins 24 = .ok (.goto (-22), 3) := by decide +kernel
theorem dX4_begins_27 : decode cX4_begins 27 = .ok (.aload_n 0, 1) := by decide +kernel
theorem dX4_begins_28 : decode cX4_begins 28 = .ok (.iconst 0, 1) := by decide +kernel
theorem dX4_begins_29 : decode cX4_begins 29 = .ok (.putfield 54, 3) := by decide +kernel
theorem dX4_begins_32 : decode cX4_begins 32 = .ok (.aload_n 0, 1) := by decide +kernel
theorem dX4_begins_33 : decode cX4_begins 33 = .ok (.iconst (-1), 1) := by decide +kernel
theorem dX4_begins_34 : decode cX4_begins 34 = .ok (.putfield 57, 3) := by decide +kernel
theorem dX4_begins_37 : decode cX4_begins 37 = .ok (.return_, 1) := by decide +kernel
theorem dX4_erase_0 : decode cX4_erase 0 = .ok (.iconst 0, 1) := by decide +kernel
theorem dX4_erase_1 : decode cX4_erase 1 = .ok (.istore_n 2, 1) := by decide +kernel
theorem dX4_erase_2 : decode cX4_erase 2 = .ok (.iload_n 2, 1) := by decide +kernel
theorem dX4_erase_3 : decode cX4_erase 3 = .ok (.sipush 256, 3) := by decide +kernel
theorem dX4_erase_6 : decode cX4_erase 6 = .ok (.if_icmp .ge 22, 3) := by decide +kernel
theorem dX4_erase_9 : decode cX4_erase 9 = .ok (.aload_n 0, 1) := by decide +kernel
theorem dX4_erase_10 : decode cX4_erase 10 = .ok (.getfield 13, 3) := by decide +kernel
theorem dX4_erase_13 : decode cX4_erase 13 = .ok (.sipush 256, 3) := by decide +kernel
theorem dX4_erase_16 : decode cX4_erase 16 = .ok (.iload_n 1, 1) := by decide +kernel
theorem dX4_erase_17 : decode cX4_erase 17 = .ok (.imul, 1) := by decide +kernel
theorem dX4_erase_18 : decode cX4_erase 18 = .ok (.iload_n 2, 1) := by decide +kernel
theorem dX4_erase_19 : decode cX4_erase 19 = .ok (.iadd, 1) := by decide +kernel
theorem dX4_erase_20 : decode cX4_erase 20 = .ok (.iconst (-1), 1) := by decide +kernel
theorem dX4_erase_21 : decode cX4_erase 21 = .ok (.bastore, 1) := by decide +kernel
theorem dX4_erase_22 : decode cX4_erase 22 = .ok (.iinc 2 1, 3) := by decide +kernel
theorem dX4_erase_25 : decode cX4_erase 25 = .ok (.goto (-23), 3) := by decide +kernel
theorem dX4_erase_28 : decode cX4_erase 28 = .ok (.aload_n 0, 1) := by decide +kernel
theorem dX4_erase_29 : decode cX4_erase 29 = .ok (.getfield 16, 3) := by decide +kernel
theorem dX4_erase_32 : decode cX4_erase 32 = .ok (.aload_n 0, 1) := by decide +kernel
theorem dX4_erase_33 : decode cX4_erase 33 = .ok (.getfield 54, 3) := by decide +kernel
theorem dX4_erase_36 : decode cX4_erase 36 = .ok (.iload_n 1, 1) := by decide +kernel
theorem dX4_erase_37 : decode cX4_erase 37 = .ok (.iastore, 1) := by decide +kernel
theorem dX4_erase_38 : decode cX4_erase 38 = .ok (.aload_n 0, 1) := by decide +kernel
theorem dX4_erase_39 : decode cX4_erase 39 = .ok (.getfield 20, 3) := by decide +kernel
theorem dX4_erase_42 : decode cX4_erase 42 = .ok (.aload_n 0, 1) := by decide +kernel
theorem dX4_erase_43 : decode cX4_erase 43 = .ok (.getfield 54, 3) := by decide +kernel
theorem dX4_erase_46 : decode cX4_erase 46 = .ok (.iconst (-1), 1) := by decide +kernel
theorem dX4_erase_47 : decode cX4_erase 47 = .ok (.iastore, 1) := by decide +kernel
theorem dX4_erase_48 : decode cX4_erase 48 = .ok (.aload_n 0, 1) := by decide +kernel
theorem dX4_erase_49 : decode cX4_erase 49 = .ok (.dup, 1) := by decide +kernel
theorem dX4_erase_50 : decode cX4_erase 50 = .ok (.getfield 54, 3) := by decide +kernel
theorem dX4_erase_53 : decode cX4_erase 53 = .ok (.iconst 1, 1) := by decide +kernel
theorem dX4_erase_54 : decode cX4_erase 54 = .ok (.iadd, 1) := by decide +kernel
theorem dX4_erase_55 : decode cX4_erase 55 = .ok (.putfield 54, 3) := by decide +kernel
theorem dX4_erase_58 : decode cX4_erase 58 = .ok (.return_, 1) := by decide +kernel
theorem dX4_write_0 : decode cX4_write 0 = .ok (.iconst 0, 1) := by decide +kernel
theorem dX4_write_1 : decode cX4_write 1 = .ok (.istore 4, 2) := by decide +kernel
theorem dX4_write_3 : decode cX4_write 3 = .ok (.iload 4, 2) := by decide +kernel
theorem dX4_write_5 : decode cX4_write 5 = .ok (.bipush 8, 2) := by decide +kernel
theorem dX4_write_7 : decode cX4_write 7 = .ok (.if_icmp .ge 49, 3) := by decide +kernel
theorem dX4_write_10 : decode cX4_write 10 = .ok (.aload_n 0, 1) := by decide +kernel
theorem dX4_write_11 : decode cX4_write 11 = .ok (.getfield 23, 3) := by decide +kernel
theorem dX4_write_14 : decode cX4_write 14 = .ok (.bipush 8, 2) := by decide +kernel
theorem dX4_write_16 : decode cX4_write 16 = .ok (.aload_n 0, 1) := by decide +kernel
theorem dX4_write_17 : decode cX4_write 17 = .ok (.getfield 54, 3) := by decide +kernel
theorem dX4_write_20 : decode cX4_write 20 = .ok (.imul, 1) := by decide +kernel
theorem dX4_write_21 : decode cX4_write 21 = .ok (.iload 4, 2) := by decide +kernel
theorem dX4_write_23 : decode cX4_write 23 = .ok (.iadd, 1) := by decide +kernel
theorem dX4_write_24 : decode cX4_write 24 = .ok (.aload_n 2, 1) := by decide +kernel
theorem dX4_write_25 : decode cX4_write 25 = .ok (.iload_n 3, 1) := by decide +kernel
theorem dX4_write_26 : decode cX4_write 26 = .ok (.iload 4, 2) := by decide +kernel
theorem dX4_write_28 : decode cX4_write 28 = .ok (.iadd, 1) := by decide +kernel
theorem dX4_write_29 : decode cX4_write 29 = .ok (.baload, 1) := by decide +kernel
theorem dX4_write_30 : decode cX4_write 30 = .ok (.bastore, 1) := by decide +kernel
theorem dX4_write_31 : decode cX4_write 31 = .ok (.aload_n 0, 1) := by decide +kernel
theorem dX4_write_32 : decode cX4_write 32 = .ok (.getfield 13, 3) := by decide +kernel
theorem dX4_write_35 : decode cX4_write 35 = .ok (.iload_n 1, 1) := by decide +kernel
theorem dX4_write_36 : decode cX4_write 36 = .ok (.iload 4, 2) := by decide +kernel
theorem dX4_write_38 : decode cX4_write 38 = .ok (.iadd, 1) := by decide +kernel
theorem dX4_write_39 : decode cX4_write 39 = .ok (.dup2, 1) := by decide +kernel
theorem dX4_write_40 : decode cX4_write 40 = .ok (.baload, 1) := by decide +kernel
theorem dX4_write_41 : decode cX4_write 41 = .ok (.aload_n 2, 1) := by decide +kernel
theorem dX4_write_42 : decode cX4_write 42 = .ok (.iload_n 3, 1) := by decide +kernel
theorem dX4_write_43 : decode cX4_write 43 = .ok (.iload 4, 2) := by decide +kernel
theorem dX4_write_45 : decode cX4_write 45 = .ok (.iadd, 1) := by decide +kernel
theorem dX4_write_46 : decode cX4_write 46 = .ok (.baload, 1) := by decide +kernel
theorem dX4_write_47 : decode cX4_write 47 = .ok (.iand, 1) := by decide +kernel
theorem dX4_write_48 : decode cX4_write 48 = .ok (.i2b, 1) := by decide +kernel
theorem dX4_write_49 : decode cX4_write 49 = .ok (.bastore, 1) := by decide +kernel
theorem dX4_write_50 : decode cX4_write 50 = .ok (.iinc 4 1, 3) := by decide +kernel
theorem dX4_write_53 : decode cX4_write 53 = .ok (.goto (-50), 3) := by decide +kernel
theorem dX4_write_56 : decode cX4_write 56 = .ok (.aload_n 0, 1) := by decide +kernel
theorem dX4_write_57 : decode cX4_write 57 = .ok (.getfield 16, 3) := by decide +kernel
theorem dX4_write_60 : decode cX4_write 60 = .ok (.aload_n 0, 1) := by decide +kernel
theorem dX4_write_61 : decode cX4_write 61 = .ok (.getfield 54, 3) := by decide +kernel
theorem dX4_write_64 : decode cX4_write 64 = .ok (.iconst (-1), 1) := by decide +kernel
theorem dX4_write_65 : decode cX4_write 65 = .ok (.iastore, 1) := by decide +kernel
theorem dX4_write_66 : decode cX4_write 66 = .ok (.aload_n 0, 1) := by decide +kernel
theorem dX4_write_67 : decode cX4_write 67 = .ok (.getfield 20, 3) := by decide +kernel
theorem dX4_write_70 : decode cX4_write 70 = .ok (.aload_n 0, 1) := by decide +kernel
theorem dX4_write_71 : decode cX4_write 71 = .ok (.getfield 54, 3) := by decide +kernel
theorem dX4_write_74 : decode cX4_write 74 = .ok (.iload_n 1, 1) := by decide +kernel
theorem dX4_write_75 : decode cX4_write 75 = .ok (.iastore, 1) := by decide +kernel
theorem dX4_write_76 : decode cX4_write 76 = .ok (.aload_n 0, 1) := by decide +kernel
theorem dX4_write_77 : decode cX4_write 77 = .ok (.dup, 1) := by decide +kernel
theorem dX4_write_78 : decode cX4_write 78 = .ok (.getfield 54, 3) := by decide +kernel
theorem dX4_write_81 : decode cX4_write 81 = .ok (.iconst 1, 1) := by decide +kernel
theorem dX4_write_82 : decode cX4_write 82 = .ok (.iadd, 1) := by decide +kernel
theorem dX4_write_83 : decode cX4_write 83 = .ok (.putfield 54, 3) := by decide +kernel
theorem dX4_write_86 : decode cX4_write 86 = .ok (.return_, 1) := by decide +kernel
theorem dX4_unit_0 : decode cX4_unit 0 = .ok (.sipush 256, 3) := by decide +kernel
theorem dX4_unit_3 : decode cX4_unit 3 = .ok (.iload_n 0, 1) := by decide +kernel
theorem dX4_unit_4 : decode cX4_unit 4 = .ok (.imul, 1) := by decide +kernel
theorem dX4_unit_5 : decode cX4_unit 5 = .ok (.bipush 8, 2) := by decide +kernel
theorem dX4_unit_7 : decode cX4_unit 7 = .ok (.iload_n 1, 1) := by decide +kernel
theorem dX4_unit_8 : decode cX4_unit 8 = .ok (.imul, 1) := by decide +kernel
theorem dX4_unit_9 : decode cX4_unit 9 = .ok (.iadd, 1) := by decide +kernel
theorem dX4_unit_10 : decode cX4_unit 10 = .ok (.ireturn, 1) := by decide +kernel
set_option maxRecDepth 20000 in
theorem ggX4_mark_X4_unit : GoodIn wsX4_mark wsX4_unit := goodIn_r _ [5] (by decide +kernel) (by decide +kernel)
set_option maxRecDepth 20000 in
theorem gX4_mark_X4_unit : GoodIn wsX4_mark (va_wsS RX4 60 yX4_unit wsX4_unit) := goodIn_app (goodIn_of _ (by decide +kernel)) ggX4_mark_X4_unit
set_option maxRecDepth 20000 in
theorem ggX4_mark_X4_write : GoodIn wsX4_mark wsX4_write := goodIn_r _ [9, 10, 11, 12, 13, 14, 15, 16, 17, 18, 19, 20, 21, 22, 23, 24, 25, 26, 27, 28, 29, 30, 31, 32, 33, 34, 35, 36, 37, 38, 39, 40] (by decide +kernel) (by decide +kernel)
set_option maxRecDepth 20000 in
theorem gX4_mark_X4_write : GoodIn wsX4_mark (wsV RX4 64 RX4 yX4_write wsX4_write) := goodIn_app (goodIn_of _ (by decide +kernel)) ggX4_mark_X4_write
theorem dX4_mark_0 : decode cX4_mark 0 = .ok (.iconst 0, 1) := by decide +kernel
theorem dX4_mark_1 : decode cX4_mark 1 = .ok (.istore 4, 2) := by decide +kernel
theorem dX4_mark_3 : decode cX4_mark 3 = .ok (.iload 4, 2) := by decide +kernel
theorem dX4_mark_5 : decode cX4_mark 5 = .ok (.bipush 8, 2) := by decide +kernel
theorem dX4_mark_7 : decode cX4_mark 7 = .ok (.if_icmp .ge 18, 3) := by decide +kernel
theorem dX4_mark_10 : decode cX4_mark 10 = .ok (.aload_n 0, 1) := by decide +kernel
theorem dX4_mark_11 : decode cX4_mark 11 = .ok (.getfield 36, 3) := by decide +kernel
theorem dX4_mark_14 : decode cX4_mark 14 = .ok (.iload 4, 2) := by decide +kernel
theorem dX4_mark_16 : decode cX4_mark 16 = .ok (.iload_n 3, 1) := by decide +kernel
theorem dX4_mark_17 : decode cX4_mark 17 = .ok (.i2b, 1) := by decide +kernel
theorem dX4_mark_18 : decode cX4_mark 18 = .ok (.bastore, 1) := by decide +kernel
theorem dX4_mark_19 : decode cX4_mark 19 = .ok (.iinc 4 1, 3) := by decide +kernel
theorem dX4_mark_22 : decode cX4_mark 22 = .ok (.goto (-19), 3) := by decide +kernel
theorem dX4_mark_25 : decode cX4_mark 25 = .ok (.aload_n 0, 1) := by decide +kernel
theorem dX4_mark_26 : decode cX4_mark 26 = .ok (.iload_n 1, 1) := by decide +kernel
theorem dX4_mark_27 : decode cX4_mark 27 = .ok (.iload_n 2, 1) := by decide +kernel
theorem dX4_mark_28 : decode cX4_mark 28 = .ok (.invokestatic 60, 3) := by decide +kernel
theorem dX4_mark_31 : decode cX4_mark 31 = .ok (.aload_n 0, 1) := by decide +kernel
theorem dX4_mark_32 : decode cX4_mark 32 = .ok (.getfield 36, 3) := by decide +kernel
theorem dX4_mark_35 : decode cX4_mark 35 = .ok (.iconst 0, 1) := by decide +kernel
theorem dX4_mark_36 : decode cX4_mark 36 = .ok (.invokevirtual 64, 3) := by decide +kernel
theorem dX4_mark_39 : decode cX4_mark 39 = .ok (.return_, 1) := by decide +kernel
set_option maxRecDepth 20000 in
theorem ggX4_magic_X4_unit : GoodIn wsX4_magic wsX4_unit := goodIn_r _ [6] (by decide +kernel) (by decide +kernel)
set_option maxRecDepth 20000 in
theorem gX4_magic_X4_unit : GoodIn wsX4_magic (va_wsS RX4 60 yX4_unit wsX4_unit) := goodIn_app (goodIn_of _ (by decide +kernel)) ggX4_magic_X4_unit
set_option maxRecDepth 20000 in
theorem ggX4_magic_X4_write : GoodIn wsX4_magic wsX4_write := goodIn_r _ [10, 11, 12, 13, 14, 15, 16, 17, 18, 19, 20, 21, 22, 23, 24, 25, 26, 27, 28, 29, 30, 31, 32, 33, 34, 35, 36, 37, 38, 39, 40, 41] (by decide +kernel) (by decide +kernel)
set_option maxRecDepth 20000 in
theorem gX4_magic_X4_write : GoodIn wsX4_magic (wsV RX4 64 RX4 yX4_write wsX4_write) := goodIn_app (goodIn_of _ (by decide +kernel)) ggX4_magic_X4_write
theorem dX4_magic_0 : decode cX4_magic 0 = .ok (.iconst 0, 1) := by decide +kernel
theorem dX4_magic_1 : decode cX4_magic 1 = .ok (.istore_n 2, 1) := by decide +kernel
theorem dX4_magic_2 : decode cX4_magic 2 = .ok (.iload_n 2, 1) := by decide +kernel
theorem dX4_magic_3 : decode cX4_magic 3 = .ok (.bipush 8, 2) := by decide +kernel
theorem dX4_magic_5 : decode cX4_magic 5 = .ok (.if_icmp .ge 21, 3) := by decide +kernel
theorem dX4_magic_8 : decode cX4_magic 8 = .ok (.aload_n 0, 1) := by decide +kernel
theorem dX4_magic_9 : decode cX4_magic 9 = .ok (.getfield 36, 3) := by decide +kernel
theorem dX4_magic_12 : decode cX4_magic 12 = .ok (.iload_n 2, 1) := by decide +kernel
theorem dX4_magic_13 : decode cX4_magic 13 = .ok (.getstatic 68, 3) := by decide +kernel
theorem dX4_magic_16 : decode cX4_magic 16 = .ok (.iload_n 2, 1) := by decide +kernel
theorem dX4_magic_17 : decode cX4_magic 17 = .ok (.iaload, 1) := by decide +kernel
theorem dX4_magic_18 : decode cX4_magic 18 = .ok (.i2b, 1) := by decide +kernel
theorem dX4_magic_19 : decode cX4_magic 19 = .ok (.bastore, 1) := by decide +kernel
theorem dX4_magic_20 : decode cX4_magic 20 = .ok (.iinc 2 1, 3) := by decide +kernel
theorem dX4_magic_23 : decode cX4_magic 23 = .ok (.goto (-21), 3) := by decide +kernel
theorem dX4_magic_26 : decode cX4_magic 26 = .ok (.aload_n 0, 1) := by decide +kernel
theorem dX4_magic_27 : decode cX4_magic 27 = .ok (.iload_n 1, 1) := by decide +kernel
theorem dX4_magic_28 : decode cX4_magic 28 = .ok (.iconst 0, 1) := by decide +kernel
theorem dX4_magic_29 : decode cX4_magic 29 = .ok (.invokestatic 60, 3) := by decide +kernel
theorem dX4_magic_32 : decode cX4_magic 32 = .ok (.aload_n 0, 1) := by decide +kernel
theorem dX4_magic_33 : decode cX4_magic 33 = .ok (.getfield 36, 3) := by decide +kernel
theorem dX4_magic_36 : decode cX4_magic 36 = .ok (.iconst 0, 1) := by decide +kernel
theorem dX4_magic_37 : decode cX4_magic 37 = .ok (.invokevirtual 64, 3) := by decide +kernel
theorem dX4_magic_40 : decode cX4_magic 40 = .ok (.return_, 1) := by decide +kernel
theorem dX4_isBlank_0 : decode cX4_isBlank 0 = .ok (.iconst 1, 1) := by decide +kernel
theorem dX4_isBlank_1 : decode cX4_isBlank 1 = .ok (.istore_n 2, 1) := by decide +kernel
theorem dX4_isBlank_2 : decode cX4_isBlank 2 = .ok (.iconst 0, 1) := by decide +kernel
theorem dX4_isBlank_3 : decode cX4_isBlank 3 = .ok (.istore_n 3, 1) := by decide +kernel
theorem dX4_isBlank_4 : decode cX4_isBlank 4 = .ok (.iload_n 3, 1) := by decide +kernel
theorem dX4_isBlank_5 : decode cX4_isBlank 5 = .ok (.bipush 8, 2) := by decide +kernel
theorem dX4_isBlank_7 : decode cX4_isBlank 7 = .ok (.if_icmp .ge 28, 3) := by decide +kernel
theorem dX4_isBlank_10 : decode cX4_isBlank 10 = .ok (.iload_n 2, 1) := by decide +kernel
theorem dX4_isBlank_11 : decode cX4_isBlank 11 = .ok (.ifCond .eq 16, 3) := by decide +kernel
theorem dX4_isBlank_14 : decode cX4_isBlank 14 = .ok (.aload_n 0, 1) := by decide +kernel
theorem dX4_isBlank_15 : decode cX4_isBlank 15 = .ok (.iload_n 1, 1) := by decide +kernel
theorem dX4_isBlank_16 : decode cX4_isBlank 16 = .ok (.iload_n 3, 1) := by decide +kernel
theorem dX4_isBlank_17 : decode cX4_isBlank 17 = .ok (.iadd, 1) := by decide +kernel
theorem dX4_isBlank_18 : decode cX4_isBlank 18 = .ok (.baload, 1) := by decide +kernel
theorem dX4_isBlank_19 : decode cX4_isBlank 19 = .ok (.iconst (-1), 1) := by decide +kernel
theorem dX4_isBlank_20 : decode cX4_isBlank 20 = .ok (.if_icmp .ne 7, 3) := by decide +kernel
theorem dX4_isBlank_23 : decode cX4_isBlank 23 = .ok (.iconst 1, 1) := by decide +kernel
theorem dX4_isBlank_24 : decode cX4_isBlank 24 = .ok (.goto 4, 3) := by decide +kernel
theorem dX4_isBlank_27 : decode cX4_isBlank 27 = .ok (.iconst 0, 1) := by decide +kernel
theorem dX4_isBlank_28 : decode cX4_isBlank 28 = .ok (.istore_n 2, 1) := by decide +kernel
theorem dX4_isBlank_29 : decode cX4_isBlank 29 = .ok (.iinc 3 1, 3) := by decide +kernel
theorem dX4_isBlank_32 : decode cX4_isBlank 32 = .ok (.goto (-28), 3) := by decide +kernel
theorem dX4_isBlank_35 : decode cX4_isBlank 35 = .ok (.iload_n 2, 1) := by decide +kernel
theorem dX4_isBlank_36 : decode cX4_isBlank 36 = .ok (.ireturn, 1) := by decide +kernel
set_option maxRecDepth 20000 in
theorem ggX4_copy_X4_unit : GoodIn wsX4_copy wsX4_unit := goodIn_r _ [5] (by decide +kernel) (by decide +kernel)
set_option maxRecDepth 20000 in
theorem gX4_copy_X4_unit : GoodIn wsX4_copy (va_wsS RX4 60 yX4_unit wsX4_unit) := goodIn_app (goodIn_of _ (by decide +kernel)) ggX4_copy_X4_unit
set_option maxRecDepth 20000 in
theorem ggX4_copy_X4_isBlank : GoodIn wsX4_copy wsX4_isBlank := goodIn_r _ [8] (by decide +kernel) (by decide +kernel)
set_option maxRecDepth 20000 in
theorem gX4_copy_X4_isBlank : GoodIn wsX4_copy (va_wsS RX4 71 yX4_isBlank wsX4_isBlank) := goodIn_app (goodIn_of _ (by decide +kernel)) ggX4_copy_X4_isBlank
set_option maxRecDepth 20000 in
theorem ggX4_copy_X4_write : GoodIn wsX4_copy wsX4_write := goodIn_r _ [12, 13, 14, 1, 15, 16, 17, 18, 19, 20, 21, 22, 23, 24, 25, 26, 27, 28, 29, 30, 31, 32, 33, 34, 35, 36, 37, 38, 39, 40, 41, 42] (by decide +kernel) (by decide +kernel)
set_option maxRecDepth 20000 in
theorem gX4_copy_X4_write : GoodIn wsX4_copy (wsV RX4 64 RX4 yX4_write wsX4_write) := goodIn_app (goodIn_of _ (by decide +kernel)) ggX4_copy_X4_write
theorem dX4_copy_0 : decode cX4_copy 0 = .ok (.iconst 0, 1) := by decide +kernel
theorem dX4_copy_1 : decode cX4_copy 1 = .ok (.istore_n 3, 1) := by decide +kernel
theorem dX4_copy_2 : decode cX4_copy 2 = .ok (.iload_n 3, 1) := by decide +kernel
theorem dX4_copy_3 : decode cX4_copy 3 = .ok (.bipush 32, 2) := by decide +kernel
theorem dX4_copy_5 : decode cX4_copy 5 = .ok (.if_icmp .ge 42, 3) := by decide +kernel
theorem dX4_copy_8 : decode cX4_copy 8 = .ok (.aload_n 0, 1) := by decide +kernel
theorem dX4_copy_9 : decode cX4_copy 9 = .ok (.getfield 13, 3) := by decide +kernel
theorem dX4_copy_12 : decode cX4_copy 12 = .ok (.iload_n 1, 1) := by decide +kernel
theorem dX4_copy_13 : decode cX4_copy 13 = .ok (.iload_n 3, 1) := by decide +kernel
theorem dX4_copy_14 : decode cX4_copy 14 = .ok (.invokestatic 60, 3) := by decide +kernel
theorem dX4_copy_17 : decode cX4_copy 17 = .ok (.invokestatic 71, 3) := by decide +kernel
theorem dX4_copy_20 : decode cX4_copy 20 = .ok (.ifCond .ne 21, 3) := by decide +kernel
theorem dX4_copy_23 : decode cX4_copy 23 = .ok (.aload_n 0, 1) := by decide +kernel
theorem dX4_copy_24 : decode cX4_copy 24 = .ok (.iload_n 2, 1) := by decide +kernel
theorem dX4_copy_25 : decode cX4_copy 25 = .ok (.iload_n 3, 1) := by decide +kernel
theorem dX4_copy_26 : decode cX4_copy 26 = .ok (.invokestatic 60, 3) := by decide +kernel
theorem dX4_copy_29 : decode cX4_copy 29 = .ok (.aload_n 0, 1) := by decide +kernel
theorem dX4_copy_30 : decode cX4_copy 30 = .ok (.getfield 13, 3) := by decide +kernel
theorem dX4_copy_33 : decode cX4_copy 33 = .ok (.iload_n 1, 1) := by decide +kernel
theorem dX4_copy_34 : decode cX4_copy 34 = .ok (.iload_n 3, 1) := by decide +kernel
theorem dX4_copy_35 : decode cX4_copy 35 = .ok (.invokestatic 60, 3) := by decide +kernel
theorem dX4_copy_38 : decode cX4_copy 38 = .ok (.invokevirtual 64, 3) := by decide +kernel
theorem dX4_copy_41 : decode cX4_copy 41 = .ok (.iinc 3 1, 3) := by decide +kernel
theorem dX4_copy_44 : decode cX4_copy 44 = .ok (.goto (-42), 3) := by decide +kernel
theorem dX4_copy_47 : decode cX4_copy 47 = .ok (.return_, 1) := by decide +kernel
set_option maxRecDepth 20000 in
theorem ggX4_does_X4_act : GoodIn wsX4_does wsX4_act := goodIn_r _ [17, 6, 7, 9, 18, 19, 20, 21, 22, 23, 24, 25, 26, 27, 28, 29, 30, 31, 32, 33, 34, 35, 36, 37, 38, 39, 40, 41, 42, 43, 44, 45] (by decide +kernel) (by decide +kernel)
set_option maxRecDepth 20000 in
theorem gX4_does_X4_act : GoodIn wsX4_does (wsV RX4 75 RX4 yX4_act wsX4_act) := goodIn_app (goodIn_of _ (by decide +kernel)) ggX4_does_X4_act
theorem dX4_does_0 : decode cX4_does 0 = .ok (.iconst 0, 1) := by decide +kernel
theorem dX4_does_1 : decode cX4_does 1 = .ok (.istore_n 1, 1) := by decide +kernel
theorem dX4_does_2 : decode cX4_does 2 = .ok (.iload_n 1, 1) := by decide +kernel
theorem dX4_does_3 : decode cX4_does 3 = .ok (.aload_n 0, 1) := by decide +kernel
theorem dX4_does_4 : decode cX4_does 4 = .ok (.getfield 54, 3) := by decide +kernel
theorem dX4_does_7 : decode cX4_does 7 = .ok (.if_icmp .ge 66, 3) := by decide +kernel
theorem dX4_does_10 : decode cX4_does 10 = .ok (.aload_n 0, 1) := by decide +kernel
theorem dX4_does_11 : decode cX4_does 11 = .ok (.getfield 29, 3) := by decide +kernel
theorem dX4_does_14 : decode cX4_does 14 = .ok (.ifCond .eq 59, 3) := by decide +kernel
theorem dX4_does_17 : decode cX4_does 17 = .ok (.aload_n 0, 1) := by decide +kernel
theorem dX4_does_18 : decode cX4_does 18 = .ok (.iload_n 1, 1) := by decide +kernel
theorem dX4_does_19 : decode cX4_does 19 = .ok (.invokevirtual 75, 3) := by decide +kernel
theorem dX4_does_22 : decode cX4_does 22 = .ok (.aload_n 0, 1) := by decide +kernel
theorem dX4_does_23 : decode cX4_does 23 = .ok (.getfield 29, 3) := by decide +kernel
theorem dX4_does_26 : decode cX4_does 26 = .ok (.ifCond .le 13, 3) := by decide +kernel
theorem dX4_does_29 : decode cX4_does 29 = .ok (.aload_n 0, 1) := by decide +kernel
theorem dX4_does_30 : decode cX4_does 30 = .ok (.dup, 1) := by decide +kernel
theorem dX4_does_31 : decode cX4_does 31 = .ok (.getfield 29, 3) := by decide +kernel
theorem dX4_does_34 : decode cX4_does 34 = .ok (.iconst 1, 1) := by decide +kernel
theorem dX4_does_35 : decode cX4_does 35 = .ok (.isub, 1) := by decide +kernel
theorem dX4_does_36 : decode cX4_does 36 = .ok (.putfield 29, 3) := by decide +kernel
theorem dX4_does_39 : decode cX4_does 39 = .ok (.aload_n 0, 1) := by decide +kernel
theorem dX4_does_40 : decode cX4_does 40 = .ok (.dup, 1) := by decide +kernel
theorem dX4_does_41 : decode cX4_does 41 = .ok (.getfield 79, 3) := by decide +kernel
theorem dX4_does_44 : decode cX4_does 44 = .ok (.iconst 1, 1) := by decide +kernel
theorem dX4_does_45 : decode cX4_does 45 = .ok (.iadd, 1) := by decide +kernel
theorem dX4_does_46 : decode cX4_does 46 = .ok (.putfield 79, 3) := by decide +kernel
theorem dX4_does_49 : decode cX4_does 49 = .ok (.iload_n 1, 1) := by decide +kernel
theorem dX4_does_50 : decode cX4_does 50 = .ok (.aload_n 0, 1) := by decide +kernel
theorem dX4_does_51 : decode cX4_does 51 = .ok (.getfield 57, 3) := by decide +kernel
theorem dX4_does_54 : decode cX4_does 54 = .ok (.if_icmp .ne 13, 3) := by decide +kernel
theorem dX4_does_57 : decode cX4_does 57 = .ok (.aload_n 0, 1) := by decide +kernel
theorem dX4_does_58 : decode cX4_does 58 = .ok (.dup, 1) := by decide +kernel
theorem dX4_does_59 : decode cX4_does 59 = .ok (.getfield 82, 3) := by decide +kernel
theorem dX4_does_62 : decode cX4_does 62 = .ok (.iconst 1, 1) := by decide +kernel
theorem dX4_does_63 : decode cX4_does 63 = .ok (.iadd, 1) := by decide +kernel
theorem dX4_does_64 : decode cX4_does 64 = .ok (.putfield 82, 3) := by decide +kernel
theorem dX4_does_67 : decode cX4_does 67 = .ok (.iinc 1 1, 3) := by decide +kernel
theorem dX4_does_70 : decode cX4_does 70 = .ok (.goto (-68), 3) := by decide +kernel
theorem dX4_does_73 : decode cX4_does 73 = .ok (.iload_n 1, 1) := by decide +kernel
theorem dX4_does_74 : decode cX4_does 74 = .ok (.aload_n 0, 1) := by decide +kernel
theorem dX4_does_75 : decode cX4_does 75 = .ok (.getfield 54, 3) := by decide +kernel
theorem dX4_does_78 : decode cX4_does 78 = .ok (.if_icmp .ne 5, 3) := by decide +kernel
theorem dX4_does_81 : decode cX4_does 81 = .ok (.iconst 1, 1) := by decide +kernel
theorem dX4_does_82 : decode cX4_does 82 = .ok (.ireturn, 1) := by decide +kernel
theorem dX4_does_83 : decode cX4_does 83 = .ok (.aload_n 0, 1) := by decide +kernel
theorem dX4_does_84 : decode cX4_does 84 = .ok (.getfield 16, 3) := by decide +kernel
theorem dX4_does_87 : decode cX4_does 87 = .ok (.iload_n 1, 1) := by decide +kernel
theorem dX4_does_88 : decode cX4_does 88 = .ok (.iaload, 1) := by decide +kernel
theorem dX4_does_89 : decode cX4_does 89 = .ok (.ifCond .lt 55, 3) := by decide +kernel
theorem dX4_does_92 : decode cX4_does 92 = .ok (.aload_n 0, 1) := by decide +kernel
theorem dX4_does_93 : decode cX4_does 93 = .ok (.getfield 33, 3) := by decide +kernel
theorem dX4_does_96 : decode cX4_does 96 = .ok (.aload_n 0, 1) := by decide +kernel
theorem dX4_does_97 : decode cX4_does 97 = .ok (.getfield 16, 3) := by decide +kernel
theorem dX4_does_100 : decode cX4_does 100 = .ok (.iload_n 1, 1) := by decide +kernel
theorem dX4_does_101 : decode cX4_does 101 = .ok (.iaload, 1) := by decide +kernel
theorem dX4_does_102 : decode cX4_does 102 = .ok (.dup2, 1) := by decide +kernel
theorem dX4_does_103 : decode cX4_does 103 = .ok (.iaload, 1) := by decide +kernel
theorem dX4_does_104 : decode cX4_does 104 = .ok (.iconst 1, 1) := by decide +kernel
theorem dX4_does_105 : decode cX4_does 105 = .ok (.iadd, 1) := by decide +kernel
theorem dX4_does_106 : decode cX4_does 106 = .ok (.iastore, 1) := by decide +kernel
theorem dX4_does_107 : decode cX4_does 107 = .ok (.iconst 0, 1) := by decide +kernel
theorem dX4_does_108 : decode cX4_does 108 = .ok (.istore_n 2, 1) := by decide +kernel
theorem dX4_does_109 : decode cX4_does 109 = .ok (.iload_n 2, 1) := by decide +kernel
theorem dX4_does_110 : decode cX4_does 110 = .ok (.bipush 8, 2) := by decide +kernel
theorem dX4_does_112 : decode cX4_does 112 = .ok (.aload_n 0, 1) := by decide +kernel
theorem dX4_does_113 : decode cX4_does 113 = .ok (.getfield 85, 3) := by decide +kernel
theorem dX4_does_116 : decode cX4_does 116 = .ok (.imul, 1) := by decide +kernel
theorem dX4_does_117 : decode cX4_does 117 = .ok (.if_icmp .ge 27, 3) := by decide +kernel
theorem dX4_does_120 : decode cX4_does 120 = .ok (.aload_n 0, 1) := by decide +kernel
theorem dX4_does_121 : decode cX4_does 121 = .ok (.getfield 9, 3) := by decide +kernel
theorem dX4_does_124 : decode cX4_does 124 = .ok (.sipush 256, 3) := by decide +kernel
theorem dX4_does_127 : decode cX4_does 127 = .ok (.aload_n 0, 1) := by decide +kernel
theorem dX4_does_128 : decode cX4_does 128 = .ok (.getfield 16, 3) := by decide +kernel
theorem dX4_does_131 : decode cX4_does 131 = .ok (.iload_n 1, 1) := by decide +kernel
theorem dX4_does_132 : decode cX4_does 132 = .ok (.iaload, 1) := by decide +kernel
theorem dX4_does_133 : decode cX4_does 133 = .ok (.imul, 1) := by decide +kernel
theorem dX4_does_134 : decode cX4_does 134 = .ok (.iload_n 2, 1) := by decide +kernel
theorem dX4_does_135 : decode cX4_does 135 = .ok (.iadd, 1) := by decide +kernel
theorem dX4_does_136 : decode cX4_does 136 = .ok (.iconst (-1), 1) := by decide +kernel
theorem dX4_does_137 : decode cX4_does 137 = .ok (.bastore, 1) := by decide +kernel
theorem dX4_does_138 : decode cX4_does 138 = .ok (.iinc 2 1, 3) := by decide +kernel
theorem dX4_does_141 : decode cX4_does 141 = .ok (.goto (-32), 3) := by decide +kernel
theorem dX4_does_144 : decode cX4_does 144 = .ok (.aload_n 0, 1) := by decide +kernel
theorem dX4_does_145 : decode cX4_does 145 = .ok (.iconst 1, 1) := by decide +kernel
theorem dX4_does_146 : decode cX4_does 146 = .ok (.putfield 88, 3) := by decide +kernel
theorem dX4_does_149 : decode cX4_does 149 = .ok (.aload_n 0, 1) := by decide +kernel
theorem dX4_does_150 : decode cX4_does 150 = .ok (.iconst 0, 1) := by decide +kernel
theorem dX4_does_151 : decode cX4_does 151 = .ok (.putfield 92, 3) := by decide +kernel
theorem dX4_does_154 : decode cX4_does 154 = .ok (.aload_n 0, 1) := by decide +kernel
theorem dX4_does_155 : decode cX4_does 155 = .ok (.dup, 1) := by decide +kernel
theorem dX4_does_156 : decode cX4_does 156 = .ok (.getfield 95, 3) := by decide +kernel
theorem dX4_does_159 : decode cX4_does 159 = .ok (.iconst 1, 1) := by decide +kernel
theorem dX4_does_160 : decode cX4_does 160 = .ok (.iadd, 1) := by decide +kernel
theorem dX4_does_161 : decode cX4_does 161 = .ok (.putfield 95, 3) := by decide +kernel
theorem dX4_does_164 : decode cX4_does 164 = .ok (.iconst 0, 1) := by decide +kernel
theorem dX4_does_165 : decode cX4_does 165 = .ok (.ireturn, 1) := by decide +kernel
theorem dX4_act_0 : decode cX4_act 0 = .ok (.aload_n 0, 1) := by decide +kernel
theorem dX4_act_1 : decode cX4_act 1 = .ok (.getfield 16, 3) := by decide +kernel
theorem dX4_act_4 : decode cX4_act 4 = .ok (.iload_n 1, 1) := by decide +kernel
theorem dX4_act_5 : decode cX4_act 5 = .ok (.iaload, 1) := by decide +kernel
theorem dX4_act_6 : decode cX4_act 6 = .ok (.ifCond .lt 54, 3) := by decide +kernel
theorem dX4_act_9 : decode cX4_act 9 = .ok (.aload_n 0, 1) := by decide +kernel
theorem dX4_act_10 : decode cX4_act 10 = .ok (.getfield 33, 3) := by decide +kernel
theorem dX4_act_13 : decode cX4_act 13 = .ok (.aload_n 0, 1) := by decide +kernel
theorem dX4_act_14 : decode cX4_act 14 = .ok (.getfield 16, 3) := by decide +kernel
theorem dX4_act_17 : decode cX4_act 17 = .ok (.iload_n 1, 1) := by decide +kernel
theorem dX4_act_18 : decode cX4_act 18 = .ok (.iaload, 1) := by decide +kernel
theorem dX4_act_19 : decode cX4_act 19 = .ok (.dup2, 1) := by decide +kernel
theorem dX4_act_20 : decode cX4_act 20 = .ok (.iaload, 1) := by decide +kernel
theorem dX4_act_21 : decode cX4_act 21 = .ok (.iconst 1, 1) := by decide +kernel
theorem dX4_act_22 : decode cX4_act 22 = .ok (.iadd, 1) := by decide +kernel
theorem dX4_act_23 : decode cX4_act 23 = .ok (.iastore, 1) := by decide +kernel
theorem dX4_act_24 : decode cX4_act 24 = .ok (.iconst 0, 1) := by decide +kernel
theorem dX4_act_25 : decode cX4_act 25 = .ok (.istore_n 2, 1) := by decide +kernel
theorem dX4_act_26 : decode cX4_act 26 = .ok (.iload_n 2, 1) := by decide +kernel
theorem dX4_act_27 : decode cX4_act 27 = .ok (.sipush 256, 3) := by decide +kernel
theorem dX4_act_30 : decode cX4_act 30 = .ok (.if_icmp .ge 27, 3) := by decide +kernel
theorem dX4_act_33 : decode cX4_act 33 = .ok (.aload_n 0, 1) := by decide +kernel
theorem dX4_act_34 : decode cX4_act 34 = .ok (.getfield 9, 3) := by decide +kernel
theorem dX4_act_37 : decode cX4_act 37 = .ok (.sipush 256, 3) := by decide +kernel
theorem dX4_act_40 : decode cX4_act 40 = .ok (.aload_n 0, 1) := by decide +kernel
theorem dX4_act_41 : decode cX4_act 41 = .ok (.getfield 16, 3) := by decide +kernel
theorem dX4_act_44 : decode cX4_act 44 = .ok (.iload_n 1, 1) := by decide +kernel
theorem dX4_act_45 : decode cX4_act 45 = .ok (.iaload, 1) := by decide +kernel
theorem dX4_act_46 : decode cX4_act 46 = .ok (.imul, 1) := by decide +kernel
theorem dX4_act_47 : decode cX4_act 47 = .ok (.iload_n 2, 1) := by decide +kernel
theorem dX4_act_48 : decode cX4_act 48 = .ok (.iadd, 1) := by decide +kernel
theorem dX4_act_49 : decode cX4_act 49 = .ok (.iconst (-1), 1) := by decide +kernel
theorem dX4_act_50 : decode cX4_act 50 = .ok (.bastore, 1) := by decide +kernel
theorem dX4_act_51 : decode cX4_act 51 = .ok (.iinc 2 1, 3) := by decide +kernel
theorem dX4_act_54 : decode cX4_act 54 = .ok (.goto (-28), 3) := by decide +kernel
theorem dX4_act_57 : decode cX4_act 57 = .ok (.goto 45, 3) := by decide +kernel
theorem dX4_act_60 : decode cX4_act 60 = .ok (.iconst 0, 1) := by decide +kernel
theorem dX4_act_61 : decode cX4_act 61 = .ok (.istore_n 2, 1) := by decide +kernel
theorem dX4_act_62 : decode cX4_act 62 = .ok (.iload_n 2, 1) := by decide +kernel
theorem dX4_act_63 : decode cX4_act 63 = .ok (.bipush 8, 2) := by decide +kernel
theorem dX4_act_65 : decode cX4_act 65 = .ok (.if_icmp .ge 37, 3) := by decide +kernel
theorem dX4_act_68 : decode cX4_act 68 = .ok (.aload_n 0, 1) := by decide +kernel
theorem dX4_act_69 : decode cX4_act 69 = .ok (.getfield 9, 3) := by decide +kernel
theorem dX4_act_72 : decode cX4_act 72 = .ok (.aload_n 0, 1) := by decide +kernel
theorem dX4_act_73 : decode cX4_act 73 = .ok (.getfield 20, 3) := by decide +kernel
theorem dX4_act_76 : decode cX4_act 76 = .ok (.iload_n 1, 1) := by decide +kernel
theorem dX4_act_77 : decode cX4_act 77 = .ok (.iaload, 1) := by decide +kernel
theorem dX4_act_78 : decode cX4_act 78 = .ok (.iload_n 2, 1) := by decide +kernel
theorem dX4_act_79 : decode cX4_act 79 = .ok (.iadd, 1) := by decide +kernel
theorem dX4_act_80 : decode cX4_act 80 = .ok (.dup2, 1) := by decide +kernel
theorem dX4_act_81 : decode cX4_act 81 = .ok (.baload, 1) := by decide +kernel
theorem dX4_act_82 : decode cX4_act 82 = .ok (.aload_n 0, 1) := by decide +kernel
theorem dX4_act_83 : decode cX4_act 83 = .ok (.getfield 23, 3) := by decide +kernel
theorem dX4_act_86 : decode cX4_act 86 = .ok (.bipush 8, 2) := by decide +kernel
theorem dX4_act_88 : decode cX4_act 88 = .ok (.iload_n 1, 1) := by decide +kernel
theorem dX4_act_89 : decode cX4_act 89 = .ok (.imul, 1) := by decide +kernel
theorem dX4_act_90 : decode cX4_act 90 = .ok (.iload_n 2, 1) := by decide +kernel
theorem dX4_act_91 : decode cX4_act 91 = .ok (.iadd, 1) := by decide +kernel
theorem dX4_act_92 : decode cX4_act 92 = .ok (.baload, 1) := by decide +kernel
theorem dX4_act_93 : decode cX4_act 93 = .ok (.iand, 1) := by decide +kernel
theorem dX4_act_94 : decode cX4_act 94 = .ok (.i2b, 1) := by decide +kernel
theorem dX4_act_95 : decode cX4_act 95 = .ok (.bastore, 1) := by decide +kernel
theorem dX4_act_96 : decode cX4_act 96 = .ok (.iinc 2 1, 3) := by decide +kernel
theorem dX4_act_99 : decode cX4_act 99 = .ok (.goto (-37), 3) := by decide +kernel
theorem dX4_act_102 : decode cX4_act 102 = .ok (.return_, 1) := by decide +kernel
set_option maxRecDepth 20000 in
theorem ggX4_set_X4_unit : GoodIn wsX4_set wsX4_unit := goodIn_r _ [4] (by decide +kernel) (by decide +kernel)
set_option maxRecDepth 20000 in
theorem gX4_set_X4_unit : GoodIn wsX4_set (va_wsS RX4 60 yX4_unit wsX4_unit) := goodIn_app (goodIn_of _ (by decide +kernel)) ggX4_set_X4_unit
theorem dX4_set_0 : decode cX4_set 0 = .ok (.iload_n 1, 1) := by decide +kernel
theorem dX4_set_1 : decode cX4_set 1 = .ok (.iload_n 2, 1) := by decide +kernel
theorem dX4_set_2 : decode cX4_set 2 = .ok (.invokestatic 60, 3) := by decide +kernel
theorem dX4_set_5 : decode cX4_set 5 = .ok (.istore_n 3, 1) := by decide +kernel
theorem dX4_set_6 : decode cX4_set 6 = .ok (.aload_n 0, 1) := by decide +kernel
theorem dX4_set_7 : decode cX4_set 7 = .ok (.iload_n 3, 1) := by decide +kernel
theorem dX4_set_8 : decode cX4_set 8 = .ok (.baload, 1) := by decide +kernel
theorem dX4_set_9 : decode cX4_set 9 = .ok (.istore 4, 2) := by decide +kernel
theorem dX4_set_11 : decode cX4_set 11 = .ok (.iload 4, 2) := by decide +kernel
theorem dX4_set_13 : decode cX4_set 13 = .ok (.iconst 1, 1) := by decide +kernel
theorem dX4_set_14 : decode cX4_set 14 = .ok (.if_icmp .lt 13, 3) := by decide +kernel
theorem dX4_set_17 : decode cX4_set 17 = .ok (.iload 4, 2) := by decide +kernel
theorem dX4_set_19 : decode cX4_set 19 = .ok (.iconst 3, 1) := by decide +kernel
theorem dX4_set_20 : decode cX4_set 20 = .ok (.if_icmp .gt 7, 3) := by decide +kernel
theorem dX4_set_23 : decode cX4_set 23 = .ok (.iconst 1, 1) := by decide +kernel
theorem dX4_set_24 : decode cX4_set 24 = .ok (.goto 4, 3) := by decide +kernel
theorem dX4_set_27 : decode cX4_set 27 = .ok (.iconst 0, 1) := by decide +kernel
theorem dX4_set_28 : decode cX4_set 28 = .ok (.istore 5, 2) := by decide +kernel
theorem dX4_set_30 : decode cX4_set 30 = .ok (.iconst 1, 1) := by decide +kernel
theorem dX4_set_31 : decode cX4_set 31 = .ok (.istore 6, 2) := by decide +kernel
theorem dX4_set_33 : decode cX4_set 33 = .ok (.iload 6, 2) := by decide +kernel
theorem dX4_set_35 : decode cX4_set 35 = .ok (.bipush 8, 2) := by decide +kernel
theorem dX4_set_37 : decode cX4_set 37 = .ok (.if_icmp .ge 32, 3) := by decide +kernel
theorem dX4_set_40 : decode cX4_set 40 = .ok (.iload 5, 2) := by decide +kernel
theorem dX4_set_42 : decode cX4_set 42 = .ok (.ifCond .eq 18, 3) := by decide +kernel
theorem dX4_set_45 : decode cX4_set 45 = .ok (.aload_n 0, 1) := by decide +kernel
theorem dX4_set_46 : decode cX4_set 46 = .ok (.iload_n 3, 1) := by decide +kernel
theorem dX4_set_47 : decode cX4_set 47 = .ok (.iload 6, 2) := by decide +kernel
theorem dX4_set_49 : decode cX4_set 49 = .ok (.iadd, 1) := by decide +kernel
theorem dX4_set_50 : decode cX4_set 50 = .ok (.baload, 1) := by decide +kernel
theorem dX4_set_51 : decode cX4_set 51 = .ok (.iload 4, 2) := by decide +kernel
theorem dX4_set_53 : decode cX4_set 53 = .ok (.if_icmp .ne 7, 3) := by decide +kernel
theorem dX4_set_56 : decode cX4_set 56 = .ok (.iconst 1, 1) := by decide +kernel
theorem dX4_set_57 : decode cX4_set 57 = .ok (.goto 4, 3) := by decide +kernel
theorem dX4_set_60 : decode cX4_set 60 = .ok (.iconst 0, 1) := by decide +kernel
theorem dX4_set_61 : decode cX4_set 61 = .ok (.istore 5, 2) := by decide +kernel
theorem dX4_set_63 : decode cX4_set 63 = .ok (.iinc 6 1, 3) := by decide +kernel
theorem dX4_set_66 : decode cX4_set 66 = .ok (.goto (-33), 3) := by decide +kernel
theorem dX4_set_69 : decode cX4_set 69 = .ok (.iload 5, 2) := by decide +kernel
theorem dX4_set_71 : decode cX4_set 71 = .ok (.ifCond .eq 8, 3) := by decide +kernel
theorem dX4_set_74 : decode cX4_set 74 = .ok (.iload 4, 2) := by decide +kernel
theorem dX4_set_76 : decode cX4_set 76 = .ok (.goto 4, 3) := by decide +kernel
theorem dX4_set_79 : decode cX4_set 79 = .ok (.iconst 0, 1) := by decide +kernel
theorem dX4_set_80 : decode cX4_set 80 = .ok (.ireturn, 1) := by decide +kernel
set_option maxRecDepth 20000 in
theorem ggX4_isSet_X4_set : GoodIn wsX4_isSet wsX4_set := goodIn_r _ [4, 5, 6, 3, 7] (by decide +kernel) (by decide +kernel)
set_option maxRecDepth 20000 in
theorem gX4_isSet_X4_set : GoodIn wsX4_isSet (va_wsS RX4 98 yX4_set wsX4_set) := goodIn_app (goodIn_of _ (by decide +kernel)) ggX4_isSet_X4_set
theorem dX4_isSet_0 : decode cX4_isSet 0 = .ok (.aload_n 0, 1) := by decide +kernel
theorem dX4_isSet_1 : decode cX4_isSet 1 = .ok (.iload_n 1, 1) := by decide +kernel
theorem dX4_isSet_2 : decode cX4_isSet 2 = .ok (.iload_n 2, 1) := by decide +kernel
theorem dX4_isSet_3 : decode cX4_isSet 3 = .ok (.invokestatic 98, 3) := by decide +kernel
theorem dX4_isSet_6 : decode cX4_isSet 6 = .ok (.iconst 1, 1) := by decide +kernel
theorem dX4_isSet_7 : decode cX4_isSet 7 = .ok (.if_icmp .ne 7, 3) := by decide +kernel
theorem dX4_isSet_10 : decode cX4_isSet 10 = .ok (.iconst 1, 1) := by decide +kernel
theorem dX4_isSet_11 : decode cX4_isSet 11 = .ok (.goto 4, 3) := by decide +kernel
theorem dX4_isSet_14 : decode cX4_isSet 14 = .ok (.iconst 0, 1) := by decide +kernel
theorem dX4_isSet_15 : decode cX4_isSet 15 = .ok (.ireturn, 1) := by decide +kernel
set_option maxRecDepth 20000 in
theorem ggX4_isMagic_X4_unit : GoodIn wsX4_isMagic wsX4_unit := goodIn_r _ [5] (by decide +kernel) (by decide +kernel)
set_option maxRecDepth 20000 in
theorem gX4_isMagic_X4_unit : GoodIn wsX4_isMagic (va_wsS RX4 60 yX4_unit wsX4_unit) := goodIn_app (goodIn_of _ (by decide +kernel)) ggX4_isMagic_X4_unit
theorem dX4_isMagic_0 : decode cX4_isMagic 0 = .ok (.iconst 1, 1) := by decide +kernel
theorem dX4_isMagic_1 : decode cX4_isMagic 1 = .ok (.istore_n 2, 1) := by decide +kernel
theorem dX4_isMagic_2 : decode cX4_isMagic 2 = .ok (.iconst 0, 1) := by decide +kernel
theorem dX4_isMagic_3 : decode cX4_isMagic 3 = .ok (.istore_n 3, 1) := by decide +kernel
theorem dX4_isMagic_4 : decode cX4_isMagic 4 = .ok (.iload_n 3, 1) := by decide +kernel
theorem dX4_isMagic_5 : decode cX4_isMagic 5 = .ok (.bipush 8, 2) := by decide +kernel
theorem dX4_isMagic_7 : decode cX4_isMagic 7 = .ok (.if_icmp .ge 36, 3) := by decide +kernel
theorem dX4_isMagic_10 : decode cX4_isMagic 10 = .ok (.iload_n 2, 1) := by decide +kernel
theorem dX4_isMagic_11 : decode cX4_isMagic 11 = .ok (.ifCond .eq 24, 3) := by decide +kernel
theorem dX4_isMagic_14 : decode cX4_isMagic 14 = .ok (.aload_n 0, 1) := by decide +kernel
theorem dX4_isMagic_15 : decode cX4_isMagic 15 = .ok (.iload_n 1, 1) := by decide +kernel
theorem dX4_isMagic_16 : decode cX4_isMagic 16 = .ok (.iconst 0, 1) := by decide +kernel
theorem dX4_isMagic_17 : decode cX4_isMagic 17 = .ok (.invokestatic 60, 3) := by decide +kernel
theorem dX4_isMagic_20 : decode cX4_isMagic 20 = .ok (.iload_n 3, 1) := by decide +kernel
theorem dX4_isMagic_21 : decode cX4_isMagic 21 = .ok (.iadd, 1) := by decide +kernel
theorem dX4_isMagic_22 : decode cX4_isMagic 22 = .ok (.baload, 1) := by decide +kernel
theorem dX4_isMagic_23 : decode cX4_isMagic 23 = .ok (.getstatic 68, 3) := by decide +kernel
theorem dX4_isMagic_26 : decode cX4_isMagic 26 = .ok (.iload_n 3, 1) := by decide +kernel
theorem dX4_isMagic_27 : decode cX4_isMagic 27 = .ok (.iaload, 1) := by decide +kernel
theorem dX4_isMagic_28 : decode cX4_isMagic 28 = .ok (.if_icmp .ne 7, 3) := by decide +kernel
theorem dX4_isMagic_31 : decode cX4_isMagic 31 = .ok (.iconst 1, 1) := by decide +kernel
theorem dX4_isMagic_32 : decode cX4_isMagic 32 = .ok (.goto 4, 3) := by decide +kernel
theorem dX4_isMagic_35 : decode cX4_isMagic 35 = .ok (.iconst 0, 1) := by decide +kernel
theorem dX4_isMagic_36 : decode cX4_isMagic 36 = .ok (.istore_n 2, 1) := by decide +kernel
theorem dX4_isMagic_37 : decode cX4_isMagic 37 = .ok (.iinc 3 1, 3) := by decide +kernel
theorem dX4_isMagic_40 : decode cX4_isMagic 40 = .ok (.goto (-36), 3) := by decide +kernel
theorem dX4_isMagic_43 : decode cX4_isMagic 43 = .ok (.iload_n 2, 1) := by decide +kernel
theorem dX4_isMagic_44 : decode cX4_isMagic 44 = .ok (.ireturn, 1) := by decide +kernel
theorem dX4_intAt_0 : decode cX4_intAt 0 = .ok (.aload_n 0, 1) := by decide +kernel
theorem dX4_intAt_1 : decode cX4_intAt 1 = .ok (.iload_n 1, 1) := by decide +kernel
theorem dX4_intAt_2 : decode cX4_intAt 2 = .ok (.baload, 1) := by decide +kernel
theorem dX4_intAt_3 : decode cX4_intAt 3 = .ok (.sipush 255, 3) := by decide +kernel
theorem dX4_intAt_6 : decode cX4_intAt 6 = .ok (.iand, 1) := by decide +kernel
theorem dX4_intAt_7 : decode cX4_intAt 7 = .ok (.aload_n 0, 1) := by decide +kernel
theorem dX4_intAt_8 : decode cX4_intAt 8 = .ok (.iload_n 1, 1) := by decide +kernel
theorem dX4_intAt_9 : decode cX4_intAt 9 = .ok (.iconst 1, 1) := by decide +kernel
theorem dX4_intAt_10 : decode cX4_intAt 10 = .ok (.iadd, 1) := by decide +kernel
theorem dX4_intAt_11 : decode cX4_intAt 11 = .ok (.baload, 1) := by decide +kernel
theorem dX4_intAt_12 : decode cX4_intAt 12 = .ok (.sipush 255, 3) := by decide +kernel
theorem dX4_intAt_15 : decode cX4_intAt 15 = .ok (.iand, 1) := by decide +kernel
theorem dX4_intAt_16 : decode cX4_intAt 16 = .ok (.bipush 8, 2) := by decide +kernel
theorem dX4_intAt_18 : decode cX4_intAt 18 = .ok (.ishl, 1) := by decide +kernel
theorem dX4_intAt_19 : decode cX4_intAt 19 = .ok (.ior, 1) := by decide +kernel
theorem dX4_intAt_20 : decode cX4_intAt 20 = .ok (.aload_n 0, 1) := by decide +kernel
theorem dX4_intAt_21 : decode cX4_intAt 21 = .ok (.iload_n 1, 1) := by decide +kernel
theorem dX4_intAt_22 : decode cX4_intAt 22 = .ok (.iconst 2, 1) := by decide +kernel
theorem dX4_intAt_23 : decode cX4_intAt 23 = .ok (.iadd, 1) := by decide +kernel
theorem dX4_intAt_24 : decode cX4_intAt 24 = .ok (.baload, 1) := by decide +kernel
theorem dX4_intAt_25 : decode cX4_intAt 25 = .ok (.sipush 255, 3) := by decide +kernel
theorem dX4_intAt_28 : decode cX4_intAt 28 = .ok (.iand, 1) := by decide +kernel
theorem dX4_intAt_29 : decode cX4_intAt 29 = .ok (.bipush 16, 2) := by decide +kernel
theorem dX4_intAt_31 : decode cX4_intAt 31 = .ok (.ishl, 1) := by decide +kernel
theorem dX4_intAt_32 : decode cX4_intAt 32 = .ok (.ior, 1) := by decide +kernel
theorem dX4_intAt_33 : decode cX4_intAt 33 = .ok (.aload_n 0, 1) := by decide +kernel
theorem dX4_intAt_34 : decode cX4_intAt 34 = .ok (.iload_n 1, 1) := by decide +kernel
theorem dX4_intAt_35 : decode cX4_intAt 35 = .ok (.iconst 3, 1) := by decide +kernel
theorem dX4_intAt_36 : decode cX4_intAt 36 = .ok (.iadd, 1) := by decide +kernel
theorem dX4_intAt_37 : decode cX4_intAt 37 = .ok (.baload, 1) := by decide +kernel
theorem dX4_intAt_38 : decode cX4_intAt 38 = .ok (.bipush 24, 2) := by decide +kernel
theorem dX4_intAt_40 : decode cX4_intAt 40 = .ok (.ishl, 1) := by decide +kernel
theorem dX4_intAt_41 : decode cX4_intAt 41 = .ok (.ior, 1) := by decide +kernel
theorem dX4_intAt_42 : decode cX4_intAt 42 = .ok (.ireturn, 1) := by decide +kernel
set_option maxRecDepth 20000 in
theorem ggX4_isRight_X4_unit : GoodIn wsX4_isRight wsX4_unit := goodIn_r _ [6] (by decide +kernel) (by decide +kernel)
set_option maxRecDepth 20000 in
theorem gX4_isRight_X4_unit : GoodIn wsX4_isRight (va_wsS RX4 60 yX4_unit wsX4_unit) := goodIn_app (goodIn_of _ (by decide +kernel)) ggX4_isRight_X4_unit
set_option maxRecDepth 20000 in
theorem ggX4_isRight_X4_intAt : GoodIn wsX4_isRight wsX4_intAt := goodIn_r _ [9] (by decide +kernel) (by decide +kernel)
set_option maxRecDepth 20000 in
theorem gX4_isRight_X4_intAt : GoodIn wsX4_isRight (va_wsS RX4 102 yX4_intAt wsX4_intAt) := goodIn_app (goodIn_of _ (by decide +kernel)) ggX4_isRight_X4_intAt
set_option maxRecDepth 20000 in
theorem ggX4_isRight_X4_sha : GoodIn wsX4_isRight wsX4_sha := goodIn_r _ [13, 14, 15, 16, 2, 17, 18, 19, 5, 20, 21, 22, 23, 24, 25, 26, 27, 28, 29, 30, 31, 32, 33, 34, 35, 36, 37, 38, 39, 40, 41, 42, 43, 44, 45, 46, 47, 48, 49, 50, 51] (by decide +kernel) (by decide +kernel)
set_option maxRecDepth 20000 in
theorem gX4_isRight_X4_sha : GoodIn wsX4_isRight (wsV RX4 106 RX4 yX4_sha wsX4_sha) := goodIn_app (goodIn_of _ (by decide +kernel)) ggX4_isRight_X4_sha
theorem dX4_isRight_0 : decode cX4_isRight 0 = .ok (.iconst 5, 1) := by decide +kernel
theorem dX4_isRight_1 : decode cX4_isRight 1 = .ok (.iload_n 1, 1) := by decide +kernel
theorem dX4_isRight_2 : decode cX4_isRight 2 = .ok (.imul, 1) := by decide +kernel
theorem dX4_isRight_3 : decode cX4_isRight 3 = .ok (.iconst 0, 1) := by decide +kernel
theorem dX4_isRight_4 : decode cX4_isRight 4 = .ok (.invokestatic 60, 3) := by decide +kernel
theorem dX4_isRight_7 : decode cX4_isRight 7 = .ok (.istore_n 2, 1) := by decide +kernel
theorem dX4_isRight_8 : decode cX4_isRight 8 = .ok (.aload_n 0, 1) := by decide +kernel
theorem dX4_isRight_9 : decode cX4_isRight 9 = .ok (.getfield 9, 3) := by decide +kernel
theorem dX4_isRight_12 : decode cX4_isRight 12 = .ok (.iload_n 2, 1) := by decide +kernel
theorem dX4_isRight_13 : decode cX4_isRight 13 = .ok (.invokestatic 102, 3) := by decide +kernel
theorem dX4_isRight_16 : decode cX4_isRight 16 = .ok (.istore_n 3, 1) := by decide +kernel
theorem dX4_isRight_17 : decode cX4_isRight 17 = .ok (.iload_n 3, 1) := by decide +kernel
theorem dX4_isRight_18 : decode cX4_isRight 18 = .ok (.ifCond .lt 10, 3) := by decide +kernel
theorem dX4_isRight_21 : decode cX4_isRight 21 = .ok (.iload_n 3, 1) := by decide +kernel
theorem dX4_isRight_22 : decode cX4_isRight 22 = .ok (.sipush 984, 3) := by decide +kernel
theorem dX4_isRight_25 : decode cX4_isRight 25 = .ok (.if_icmp .le 5, 3) := by decide +kernel
theorem dX4_isRight_28 : decode cX4_isRight 28 = .ok (.iconst 0, 1) := by decide +kernel
theorem dX4_isRight_29 : decode cX4_isRight 29 = .ok (.ireturn, 1) := by decide +kernel
theorem dX4_isRight_30 : decode cX4_isRight 30 = .ok (.aload_n 0, 1) := by decide +kernel
theorem dX4_isRight_31 : decode cX4_isRight 31 = .ok (.aload_n 0, 1) := by decide +kernel
theorem dX4_isRight_32 : decode cX4_isRight 32 = .ok (.getfield 9, 3) := by decide +kernel
theorem dX4_isRight_35 : decode cX4_isRight 35 = .ok (.iload_n 2, 1) := by decide +kernel
theorem dX4_isRight_36 : decode cX4_isRight 36 = .ok (.iload_n 3, 1) := by decide +kernel
theorem dX4_isRight_37 : decode cX4_isRight 37 = .ok (.bipush 8, 2) := by decide +kernel
theorem dX4_isRight_39 : decode cX4_isRight 39 = .ok (.iadd, 1) := by decide +kernel
theorem dX4_isRight_40 : decode cX4_isRight 40 = .ok (.invokevirtual 106, 3) := by decide +kernel
theorem dX4_isRight_43 : decode cX4_isRight 43 = .ok (.iconst 1, 1) := by decide +kernel
theorem dX4_isRight_44 : decode cX4_isRight 44 = .ok (.istore 4, 2) := by decide +kernel
theorem dX4_isRight_46 : decode cX4_isRight 46 = .ok (.iconst 0, 1) := by decide +kernel
theorem dX4_isRight_47 : decode cX4_isRight 47 = .ok (.istore 5, 2) := by decide +kernel
theorem dX4_isRight_49 : decode cX4_isRight 49 = .ok (.iload 5, 2) := by decide +kernel
theorem dX4_isRight_51 : decode cX4_isRight 51 = .ok (.bipush 32, 2) := by decide +kernel
theorem dX4_isRight_53 : decode cX4_isRight 53 = .ok (.if_icmp .ge 45, 3) := by decide +kernel
theorem dX4_isRight_56 : decode cX4_isRight 56 = .ok (.iload 4, 2) := by decide +kernel
theorem dX4_isRight_58 : decode cX4_isRight 58 = .ok (.ifCond .eq 31, 3) := by decide +kernel
theorem dX4_isRight_61 : decode cX4_isRight 61 = .ok (.aload_n 0, 1) := by decide +kernel
theorem dX4_isRight_62 : decode cX4_isRight 62 = .ok (.getfield 39, 3) := by decide +kernel
theorem dX4_isRight_65 : decode cX4_isRight 65 = .ok (.iload 5, 2) := by decide +kernel
theorem dX4_isRight_67 : decode cX4_isRight 67 = .ok (.baload, 1) := by decide +kernel
theorem dX4_isRight_68 : decode cX4_isRight 68 = .ok (.aload_n 0, 1) := by decide +kernel
theorem dX4_isRight_69 : decode cX4_isRight 69 = .ok (.getfield 9, 3) := by decide +kernel
theorem dX4_isRight_72 : decode cX4_isRight 72 = .ok (.iload_n 2, 1) := by decide +kernel
theorem dX4_isRight_73 : decode cX4_isRight 73 = .ok (.bipush 8, 2) := by decide +kernel
theorem dX4_isRight_75 : decode cX4_isRight 75 = .ok (.iadd, 1) := by decide +kernel
theorem dX4_isRight_76 : decode cX4_isRight 76 = .ok (.iload_n 3, 1) := by decide +kernel
theorem dX4_isRight_77 : decode cX4_isRight 77 = .ok (.iadd, 1) := by decide +kernel
theorem dX4_isRight_78 : decode cX4_isRight 78 = .ok (.iload 5, 2) := by decide +kernel
theorem dX4_isRight_80 : decode cX4_isRight 80 = .ok (.iadd, 1) := by decide +kernel
theorem dX4_isRight_81 : decode cX4_isRight 81 = .ok (.baload, 1) := by decide +kernel
theorem dX4_isRight_82 : decode cX4_isRight 82 = .ok (.if_icmp .ne 7, 3) := by decide +kernel
theorem dX4_isRight_85 : decode cX4_isRight 85 = .ok (.iconst 1, 1) := by decide +kernel
theorem dX4_isRight_86 : decode cX4_isRight 86 = .ok (.goto 4, 3) := by decide +kernel
theorem dX4_isRight_89 : decode cX4_isRight 89 = .ok (.iconst 0, 1) := by decide +kernel
theorem dX4_isRight_90 : decode cX4_isRight 90 = .ok (.istore 4, 2) := by decide +kernel
theorem dX4_isRight_92 : decode cX4_isRight 92 = .ok (.iinc 5 1, 3) := by decide +kernel
theorem dX4_isRight_95 : decode cX4_isRight 95 = .ok (.goto (-46), 3) := by decide +kernel
theorem dX4_isRight_98 : decode cX4_isRight 98 = .ok (.iload 4, 2) := by decide +kernel
theorem dX4_isRight_100 : decode cX4_isRight 100 = .ok (.ireturn, 1) := by decide +kernel
set_option maxRecDepth 20000 in
theorem ggX4_due_X4_set : GoodIn wsX4_due wsX4_set := goodIn_r _ [5, 6, 7, 4, 8] (by decide +kernel) (by decide +kernel)
set_option maxRecDepth 20000 in
theorem gX4_due_X4_set : GoodIn wsX4_due (va_wsS RX4 98 yX4_set wsX4_set) := goodIn_app (goodIn_of _ (by decide +kernel)) ggX4_due_X4_set
set_option maxRecDepth 20000 in
theorem ggX4_due_X4_isSet : GoodIn wsX4_due wsX4_isSet := goodIn_r _ [11, 2, 3, 4, 5, 6, 7, 8] (by decide +kernel) (by decide +kernel)
set_option maxRecDepth 20000 in
theorem gX4_due_X4_isSet : GoodIn wsX4_due (va_wsS RX4 110 yX4_isSet wsX4_isSet) := goodIn_app (goodIn_of _ (by decide +kernel)) ggX4_due_X4_isSet
set_option maxRecDepth 20000 in
theorem ggX4_due_X4_isMagic : GoodIn wsX4_due wsX4_isMagic := goodIn_r _ [14, 15, 6, 7, 4, 8] (by decide +kernel) (by decide +kernel)
set_option maxRecDepth 20000 in
theorem gX4_due_X4_isMagic : GoodIn wsX4_due (va_wsS RX4 114 yX4_isMagic wsX4_isMagic) := goodIn_app (goodIn_of _ (by decide +kernel)) ggX4_due_X4_isMagic
set_option maxRecDepth 20000 in
theorem ggX4_due_X4_isRight : GoodIn wsX4_due wsX4_isRight := goodIn_r _ [19, 1, 20, 6, 7, 4, 8, 21, 22, 23, 24, 25, 26, 27, 28, 29, 30, 31, 32, 33, 34, 35, 36, 37, 38, 39, 40, 41, 42, 43, 44, 45, 46, 47, 48, 49, 50, 51, 52, 53, 54, 55, 56, 57, 58, 59, 60, 61, 62, 63, 64, 65] (by decide +kernel) (by decide +kernel)
set_option maxRecDepth 20000 in
theorem gX4_due_X4_isRight : GoodIn wsX4_due (wsV RX4 117 RX4 yX4_isRight wsX4_isRight) := goodIn_app (goodIn_of _ (by decide +kernel)) ggX4_due_X4_isRight
theorem dX4_due_0 : decode cX4_due 0 = .ok (.aload_n 0, 1) := by decide +kernel
theorem dX4_due_1 : decode cX4_due 1 = .ok (.getfield 9, 3) := by decide +kernel
theorem dX4_due_4 : decode cX4_due 4 = .ok (.iconst 4, 1) := by decide +kernel
theorem dX4_due_5 : decode cX4_due 5 = .ok (.iconst 1, 1) := by decide +kernel
theorem dX4_due_6 : decode cX4_due 6 = .ok (.invokestatic 98, 3) := by decide +kernel
theorem dX4_due_9 : decode cX4_due 9 = .ok (.ifCond .le 17, 3) := by decide +kernel
theorem dX4_due_12 : decode cX4_due 12 = .ok (.aload_n 0, 1) := by decide +kernel
theorem dX4_due_13 : decode cX4_due 13 = .ok (.getfield 9, 3) := by decide +kernel
theorem dX4_due_16 : decode cX4_due 16 = .ok (.iconst 4, 1) := by decide +kernel
theorem dX4_due_17 : decode cX4_due 17 = .ok (.iconst 2, 1) := by decide +kernel
theorem dX4_due_18 : decode cX4_due 18 = .ok (.invokestatic 110, 3) := by decide +kernel
theorem dX4_due_21 : decode cX4_due 21 = .ok (.ifCond .ne 5, 3) := by decide +kernel
theorem dX4_due_24 : decode cX4_due 24 = .ok (.iconst 5, 1) := by decide +kernel
theorem dX4_due_25 : decode cX4_due 25 = .ok (.ireturn, 1) := by decide +kernel
theorem dX4_due_26 : decode cX4_due 26 = .ok (.aload_n 0, 1) := by decide +kernel
theorem dX4_due_27 : decode cX4_due 27 = .ok (.getfield 9, 3) := by decide +kernel
theorem dX4_due_30 : decode cX4_due 30 = .ok (.bipush 9, 2) := by decide +kernel
theorem dX4_due_32 : decode cX4_due 32 = .ok (.iconst 1, 1) := by decide +kernel
theorem dX4_due_33 : decode cX4_due 33 = .ok (.invokestatic 98, 3) := by decide +kernel
theorem dX4_due_36 : decode cX4_due 36 = .ok (.istore_n 1, 1) := by decide +kernel
theorem dX4_due_37 : decode cX4_due 37 = .ok (.iload_n 1, 1) := by decide +kernel
theorem dX4_due_38 : decode cX4_due 38 = .ok (.iconst 3, 1) := by decide +kernel
theorem dX4_due_39 : decode cX4_due 39 = .ok (.if_icmp .ne 5, 3) := by decide +kernel
theorem dX4_due_42 : decode cX4_due 42 = .ok (.iconst 3, 1) := by decide +kernel
theorem dX4_due_43 : decode cX4_due 43 = .ok (.ireturn, 1) := by decide +kernel
theorem dX4_due_44 : decode cX4_due 44 = .ok (.iload_n 1, 1) := by decide +kernel
theorem dX4_due_45 : decode cX4_due 45 = .ok (.ifCond .ne 34, 3) := by decide +kernel
theorem dX4_due_48 : decode cX4_due 48 = .ok (.aload_n 0, 1) := by decide +kernel
theorem dX4_due_49 : decode cX4_due 49 = .ok (.getfield 9, 3) := by decide +kernel
theorem dX4_due_52 : decode cX4_due 52 = .ok (.bipush 9, 2) := by decide +kernel
theorem dX4_due_54 : decode cX4_due 54 = .ok (.invokestatic 114, 3) := by decide +kernel
theorem dX4_due_57 : decode cX4_due 57 = .ok (.ifCond .eq 22, 3) := by decide +kernel
theorem dX4_due_60 : decode cX4_due 60 = .ok (.aload_n 0, 1) := by decide +kernel
theorem dX4_due_61 : decode cX4_due 61 = .ok (.getfield 9, 3) := by decide +kernel
theorem dX4_due_64 : decode cX4_due 64 = .ok (.bipush 9, 2) := by decide +kernel
theorem dX4_due_66 : decode cX4_due 66 = .ok (.iconst 3, 1) := by decide +kernel
theorem dX4_due_67 : decode cX4_due 67 = .ok (.invokestatic 110, 3) := by decide +kernel
theorem dX4_due_70 : decode cX4_due 70 = .ok (.ifCond .eq 7, 3) := by decide +kernel
theorem dX4_due_73 : decode cX4_due 73 = .ok (.iconst 2, 1) := by decide +kernel
theorem dX4_due_74 : decode cX4_due 74 = .ok (.goto 4, 3) := by decide +kernel
theorem dX4_due_77 : decode cX4_due 77 = .ok (.iconst 1, 1) := by decide +kernel
theorem dX4_due_78 : decode cX4_due 78 = .ok (.istore_n 1, 1) := by decide +kernel
theorem dX4_due_79 : decode cX4_due 79 = .ok (.iload_n 1, 1) := by decide +kernel
theorem dX4_due_80 : decode cX4_due 80 = .ok (.ifCond .le 17, 3) := by decide +kernel
theorem dX4_due_83 : decode cX4_due 83 = .ok (.aload_n 0, 1) := by decide +kernel
theorem dX4_due_84 : decode cX4_due 84 = .ok (.iconst 1, 1) := by decide +kernel
theorem dX4_due_85 : decode cX4_due 85 = .ok (.invokevirtual 117, 3) := by decide +kernel
theorem dX4_due_88 : decode cX4_due 88 = .ok (.ifCond .eq 7, 3) := by decide +kernel
theorem dX4_due_91 : decode cX4_due 91 = .ok (.iload_n 1, 1) := by decide +kernel
theorem dX4_due_92 : decode cX4_due 92 = .ok (.goto 4, 3) := by decide +kernel
theorem dX4_due_95 : decode cX4_due 95 = .ok (.iconst 4, 1) := by decide +kernel
theorem dX4_due_96 : decode cX4_due 96 = .ok (.ireturn, 1) := by decide +kernel
theorem dX4_due_97 : decode cX4_due 97 = .ok (.aload_n 0, 1) := by decide +kernel
theorem dX4_due_98 : decode cX4_due 98 = .ok (.getfield 9, 3) := by decide +kernel
theorem dX4_due_101 : decode cX4_due 101 = .ok (.iconst 4, 1) := by decide +kernel
theorem dX4_due_102 : decode cX4_due 102 = .ok (.invokestatic 114, 3) := by decide +kernel
theorem dX4_due_105 : decode cX4_due 105 = .ok (.ifCond .eq 43, 3) := by decide +kernel
theorem dX4_due_108 : decode cX4_due 108 = .ok (.aload_n 0, 1) := by decide +kernel
theorem dX4_due_109 : decode cX4_due 109 = .ok (.getfield 9, 3) := by decide +kernel
theorem dX4_due_112 : decode cX4_due 112 = .ok (.iconst 4, 1) := by decide +kernel
theorem dX4_due_113 : decode cX4_due 113 = .ok (.iconst 1, 1) := by decide +kernel
theorem dX4_due_114 : decode cX4_due 114 = .ok (.invokestatic 110, 3) := by decide +kernel
theorem dX4_due_117 : decode cX4_due 117 = .ok (.ifCond .eq 31, 3) := by decide +kernel
theorem dX4_due_120 : decode cX4_due 120 = .ok (.aload_n 0, 1) := by decide +kernel
theorem dX4_due_121 : decode cX4_due 121 = .ok (.getfield 9, 3) := by decide +kernel
theorem dX4_due_124 : decode cX4_due 124 = .ok (.iconst 4, 1) := by decide +kernel
theorem dX4_due_125 : decode cX4_due 125 = .ok (.iconst 2, 1) := by decide +kernel
theorem dX4_due_126 : decode cX4_due 126 = .ok (.invokestatic 110, 3) := by decide +kernel
theorem dX4_due_129 : decode cX4_due 129 = .ok (.ifCond .eq 19, 3) := by decide +kernel
theorem dX4_due_132 : decode cX4_due 132 = .ok (.aload_n 0, 1) := by decide +kernel
theorem dX4_due_133 : decode cX4_due 133 = .ok (.getfield 9, 3) := by decide +kernel
theorem dX4_due_136 : decode cX4_due 136 = .ok (.iconst 4, 1) := by decide +kernel
theorem dX4_due_137 : decode cX4_due 137 = .ok (.iconst 3, 1) := by decide +kernel
theorem dX4_due_138 : decode cX4_due 138 = .ok (.invokestatic 110, 3) := by decide +kernel
theorem dX4_due_141 : decode cX4_due 141 = .ok (.ifCond .ne 7, 3) := by decide +kernel
theorem dX4_due_144 : decode cX4_due 144 = .ok (.iconst 1, 1) := by decide +kernel
theorem dX4_due_145 : decode cX4_due 145 = .ok (.goto 4, 3) := by decide +kernel
theorem dX4_due_148 : decode cX4_due 148 = .ok (.iconst 0, 1) := by decide +kernel
theorem dX4_due_149 : decode cX4_due 149 = .ok (.istore_n 2, 1) := by decide +kernel
theorem dX4_due_150 : decode cX4_due 150 = .ok (.iload_n 2, 1) := by decide +kernel
theorem dX4_due_151 : decode cX4_due 151 = .ok (.ifCond .eq 7, 3) := by decide +kernel
theorem dX4_due_154 : decode cX4_due 154 = .ok (.iconst 3, 1) := by decide +kernel
theorem dX4_due_155 : decode cX4_due 155 = .ok (.goto 4, 3) := by decide +kernel
theorem dX4_due_158 : decode cX4_due 158 = .ok (.iconst 0, 1) := by decide +kernel
theorem dX4_due_159 : decode cX4_due 159 = .ok (.ireturn, 1) := by decide +kernel
theorem dX4_turned_0 : decode cX4_turned 0 = .ok (.iload_n 0, 1) := by decide +kernel
theorem dX4_turned_1 : decode cX4_turned 1 = .ok (.iload_n 1, 1) := by decide +kernel
theorem dX4_turned_2 : decode cX4_turned 2 = .ok (.iushr, 1) := by decide +kernel
theorem dX4_turned_3 : decode cX4_turned 3 = .ok (.iload_n 0, 1) := by decide +kernel
theorem dX4_turned_4 : decode cX4_turned 4 = .ok (.bipush 32, 2) := by decide +kernel
theorem dX4_turned_6 : decode cX4_turned 6 = .ok (.iload_n 1, 1) := by decide +kernel
theorem dX4_turned_7 : decode cX4_turned 7 = .ok (.isub, 1) := by decide +kernel
theorem dX4_turned_8 : decode cX4_turned 8 = .ok (.ishl, 1) := by decide +kernel
theorem dX4_turned_9 : decode cX4_turned 9 = .ok (.ior, 1) := by decide +kernel
theorem dX4_turned_10 : decode cX4_turned 10 = .ok (.ireturn, 1) := by decide +kernel
set_option maxRecDepth 20000 in
theorem ggX4_sha_X4_block : GoodIn wsX4_sha wsX4_block := goodIn_r _ [9, 10, 1, 2, 11, 12, 13, 8, 14, 15, 16, 17, 18, 19, 20, 21, 22, 23, 24, 25, 26, 27, 28, 29, 30, 31, 32, 33, 34, 35, 36, 37, 38, 39, 40] (by decide +kernel) (by decide +kernel)
set_option maxRecDepth 20000 in
theorem gX4_sha_X4_block : GoodIn wsX4_sha (wsV RX4 124 RX4 yX4_block wsX4_block) := goodIn_app (goodIn_of _ (by decide +kernel)) ggX4_sha_X4_block
theorem dX4_sha_0 : decode cX4_sha 0 = .ok (.iload_n 3, 1) := by decide +kernel
theorem dX4_sha_1 : decode cX4_sha 1 = .ok (.bipush 9, 2) := by decide +kernel
theorem dX4_sha_3 : decode cX4_sha 3 = .ok (.iadd, 1) := by decide +kernel
theorem dX4_sha_4 : decode cX4_sha 4 = .ok (.bipush 63, 2) := by decide +kernel
theorem dX4_sha_6 : decode cX4_sha 6 = .ok (.iadd, 1) := by decide +kernel
theorem dX4_sha_7 : decode cX4_sha 7 = .ok (.bipush 64, 2) := by decide +kernel
theorem dX4_sha_9 : decode cX4_sha 9 = .ok (.idiv, 1) := by decide +kernel
theorem dX4_sha_10 : decode cX4_sha 10 = .ok (.bipush 64, 2) := by decide +kernel
theorem dX4_sha_12 : decode cX4_sha 12 = .ok (.imul, 1) := by decide +kernel
theorem dX4_sha_13 : decode cX4_sha 13 = .ok (.istore 4, 2) := by decide +kernel
theorem dX4_sha_15 : decode cX4_sha 15 = .ok (.iconst 0, 1) := by decide +kernel
theorem dX4_sha_16 : decode cX4_sha 16 = .ok (.istore 5, 2) := by decide +kernel
theorem dX4_sha_18 : decode cX4_sha 18 = .ok (.iload 5, 2) := by decide +kernel
theorem dX4_sha_20 : decode cX4_sha 20 = .ok (.iload 4, 2) := by decide +kernel
theorem dX4_sha_22 : decode cX4_sha 22 = .ok (.if_icmp .ge 43, 3) := by decide +kernel
theorem dX4_sha_25 : decode cX4_sha 25 = .ok (.aload_n 0, 1) := by decide +kernel
theorem dX4_sha_26 : decode cX4_sha 26 = .ok (.getfield 45, 3) := by decide +kernel
theorem dX4_sha_29 : decode cX4_sha 29 = .ok (.iload 5, 2) := by decide +kernel
theorem dX4_sha_31 : decode cX4_sha 31 = .ok (.iload 5, 2) := by decide +kernel
theorem dX4_sha_33 : decode cX4_sha 33 = .ok (.iload_n 3, 1) := by decide +kernel
theorem dX4_sha_34 : decode cX4_sha 34 = .ok (.if_icmp .ge 12, 3) := by decide +kernel
theorem dX4_sha_37 : decode cX4_sha 37 = .ok (.aload_n 1, 1) := by decide +kernel
theorem dX4_sha_38 : decode cX4_sha 38 = .ok (.iload_n 2, 1) := by decide +kernel
theorem dX4_sha_39 : decode cX4_sha 39 = .ok (.iload 5, 2) := by decide +kernel
theorem dX4_sha_41 : decode cX4_sha 41 = .ok (.iadd, 1) := by decide +kernel
theorem dX4_sha_42 : decode cX4_sha 42 = .ok (.baload, 1) := by decide +kernel
theorem dX4_sha_43 : decode cX4_sha 43 = .ok (.goto 15, 3) := by decide +kernel
theorem dX4_sha_46 : decode cX4_sha 46 = .ok (.iload 5, 2) := by decide +kernel
theorem dX4_sha_48 : decode cX4_sha 48 = .ok (.iload_n 3, 1) := by decide +kernel
theorem dX4_sha_49 : decode cX4_sha 49 = .ok (.if_icmp .ne 8, 3) := by decide +kernel
theorem dX4_sha_52 : decode cX4_sha 52 = .ok (.bipush (-128), 2) := by decide +kernel
theorem dX4_sha_54 : decode cX4_sha 54 = .ok (.goto 4, 3) := by decide +kernel
theorem dX4_sha_57 : decode cX4_sha 57 = .ok (.iconst 0, 1) := by decide +kernel
theorem dX4_sha_58 : decode cX4_sha 58 = .ok (.bastore, 1) := by decide +kernel
theorem dX4_sha_59 : decode cX4_sha 59 = .ok (.iinc 5 1, 3) := by decide +kernel
theorem dX4_sha_62 : decode cX4_sha 62 = .ok (.goto (-44), 3) := by decide +kernel
theorem dX4_sha_65 : decode cX4_sha 65 = .ok (.iconst 0, 1) := by decide +kernel
theorem dX4_sha_66 : decode cX4_sha 66 = .ok (.istore 5, 2) := by decide +kernel
theorem dX4_sha_68 : decode cX4_sha 68 = .ok (.iload 5, 2) := by decide +kernel
theorem dX4_sha_70 : decode cX4_sha 70 = .ok (.iconst 4, 1) := by decide +kernel
theorem dX4_sha_71 : decode cX4_sha 71 = .ok (.if_icmp .ge 32, 3) := by decide +kernel
theorem dX4_sha_74 : decode cX4_sha 74 = .ok (.aload_n 0, 1) := by decide +kernel
theorem dX4_sha_75 : decode cX4_sha 75 = .ok (.getfield 45, 3) := by decide +kernel
theorem dX4_sha_78 : decode cX4_sha 78 = .ok (.iload 4, 2) := by decide +kernel
theorem dX4_sha_80 : decode cX4_sha 80 = .ok (.iconst 1, 1) := by decide +kernel
theorem dX4_sha_81 : decode cX4_sha 81 = .ok (.isub, 1) := by decide +kernel
theorem dX4_sha_82 : decode cX4_sha 82 = .ok (.iload 5, 2) := by decide +kernel
theorem dX4_sha_84 : decode cX4_sha 84 = .ok (.isub, 1) := by decide +kernel
theorem dX4_sha_85 : decode cX4_sha 85 = .ok (.bipush 8, 2) := by decide +kernel
theorem dX4_sha_87 : decode cX4_sha 87 = .ok (.iload_n 3, 1) := by decide +kernel
theorem dX4_sha_88 : decode cX4_sha 88 = .ok (.imul, 1) := by decide +kernel
theorem dX4_sha_89 : decode cX4_sha 89 = .ok (.bipush 8, 2) := by decide +kernel
theorem dX4_sha_91 : decode cX4_sha 91 = .ok (.iload 5, 2) := by decide +kernel
theorem dX4_sha_93 : decode cX4_sha 93 = .ok (.imul, 1) := by decide +kernel
theorem dX4_sha_94 : decode cX4_sha 94 = .ok (.ishr, 1) := by decide +kernel
theorem dX4_sha_95 : decode cX4_sha 95 = .ok (.i2b, 1) := by decide +kernel
theorem dX4_sha_96 : decode cX4_sha 96 = .ok (.bastore, 1) := by decide +kernel
theorem dX4_sha_97 : decode cX4_sha 97 = .ok (.iinc 5 1, 3) := by decide +kernel
theorem dX4_sha_100 : decode cX4_sha 100 = .ok (.goto (-32), 3) := by decide +kernel
theorem dX4_sha_103 : decode cX4_sha 103 = .ok (.iconst 0, 1) := by decide +kernel
theorem dX4_sha_104 : decode cX4_sha 104 = .ok (.istore 5, 2) := by decide +kernel
theorem dX4_sha_106 : decode cX4_sha 106 = .ok (.iload 5, 2) := by decide +kernel
theorem dX4_sha_108 : decode cX4_sha 108 = .ok (.bipush 8, 2) := by decide +kernel
theorem dX4_sha_110 : decode cX4_sha 110 = .ok (.if_icmp .ge 22, 3) := by decide +kernel
theorem dX4_sha_113 : decode cX4_sha 113 = .ok (.aload_n 0, 1) := by decide +kernel
theorem dX4_sha_114 : decode cX4_sha 114 = .ok (.getfield 48, 3) := by decide +kernel
theorem dX4_sha_117 : decode cX4_sha 117 = .ok (.iload 5, 2) := by decide +kernel
theorem dX4_sha_119 : decode cX4_sha 119 = .ok (.getstatic 121, 3) := by decide +kernel
theorem dX4_sha_122 : decode cX4_sha 122 = .ok (.iload 5, 2) := by decide +kernel
theorem dX4_sha_124 : decode cX4_sha 124 = .ok (.iaload, 1) := by decide +kernel
theorem dX4_sha_125 : decode cX4_sha 125 = .ok (.iastore, 1) := by decide +kernel
theorem dX4_sha_126 : decode cX4_sha 126 = .ok (.iinc 5 1, 3) := by decide +kernel
theorem dX4_sha_129 : decode cX4_sha 129 = .ok (.goto (-23), 3) := by decide +kernel
theorem dX4_sha_132 : decode cX4_sha 132 = .ok (.iconst 0, 1) := by decide +kernel
theorem dX4_sha_133 : decode cX4_sha 133 = .ok (.istore 5, 2) := by decide +kernel
theorem dX4_sha_135 : decode cX4_sha 135 = .ok (.iload 5, 2) := by decide +kernel
theorem dX4_sha_137 : decode cX4_sha 137 = .ok (.iload 4, 2) := by decide +kernel
theorem dX4_sha_139 : decode cX4_sha 139 = .ok (.if_icmp .ge 15, 3) := by decide +kernel
theorem dX4_sha_142 : decode cX4_sha 142 = .ok (.aload_n 0, 1) := by decide +kernel
theorem dX4_sha_143 : decode cX4_sha 143 = .ok (.iload 5, 2) := by decide +kernel
theorem dX4_sha_145 : decode cX4_sha 145 = .ok (.invokevirtual 124, 3) := by decide +kernel
theorem dX4_sha_148 : decode cX4_sha 148 = .ok (.iinc 5 64, 3) := by decide +kernel
theorem dX4_sha_151 : decode cX4_sha 151 = .ok (.goto (-16), 3) := by decide +kernel
theorem dX4_sha_154 : decode cX4_sha 154 = .ok (.iconst 0, 1) := by decide +kernel
theorem dX4_sha_155 : decode cX4_sha 155 = .ok (.istore 5, 2) := by decide +kernel
theorem dX4_sha_157 : decode cX4_sha 157 = .ok (.iload 5, 2) := by decide +kernel
theorem dX4_sha_159 : decode cX4_sha 159 = .ok (.bipush 32, 2) := by decide +kernel
theorem dX4_sha_161 : decode cX4_sha 161 = .ok (.if_icmp .ge 37, 3) := by decide +kernel
theorem dX4_sha_164 : decode cX4_sha 164 = .ok (.aload_n 0, 1) := by decide +kernel
theorem dX4_sha_165 : decode cX4_sha 165 = .ok (.getfield 39, 3) := by decide +kernel
theorem dX4_sha_168 : decode cX4_sha 168 = .ok (.iload 5, 2) := by decide +kernel
theorem dX4_sha_170 : decode cX4_sha 170 = .ok (.aload_n 0, 1) := by decide +kernel
theorem dX4_sha_171 : decode cX4_sha 171 = .ok (.getfield 48, 3) := by decide +kernel
theorem dX4_sha_174 : decode cX4_sha 174 = .ok (.iload 5, 2) := by decide +kernel
theorem dX4_sha_176 : decode cX4_sha 176 = .ok (.iconst 4, 1) := by decide +kernel
theorem dX4_sha_177 : decode cX4_sha 177 = .ok (.idiv, 1) := by decide +kernel
theorem dX4_sha_178 : decode cX4_sha 178 = .ok (.iaload, 1) := by decide +kernel
theorem dX4_sha_179 : decode cX4_sha 179 = .ok (.bipush 24, 2) := by decide +kernel
theorem dX4_sha_181 : decode cX4_sha 181 = .ok (.bipush 8, 2) := by decide +kernel
theorem dX4_sha_183 : decode cX4_sha 183 = .ok (.iload 5, 2) := by decide +kernel
theorem dX4_sha_185 : decode cX4_sha 185 = .ok (.iconst 4, 1) := by decide +kernel
theorem dX4_sha_186 : decode cX4_sha 186 = .ok (.irem, 1) := by decide +kernel
theorem dX4_sha_187 : decode cX4_sha 187 = .ok (.imul, 1) := by decide +kernel
theorem dX4_sha_188 : decode cX4_sha 188 = .ok (.isub, 1) := by decide +kernel
theorem dX4_sha_189 : decode cX4_sha 189 = .ok (.ishr, 1) := by decide +kernel
theorem dX4_sha_190 : decode cX4_sha 190 = .ok (.i2b, 1) := by decide +kernel
theorem dX4_sha_191 : decode cX4_sha 191 = .ok (.bastore, 1) := by decide +kernel
theorem dX4_sha_192 : decode cX4_sha 192 = .ok (.iinc 5 1, 3) := by decide +kernel
theorem dX4_sha_195 : decode cX4_sha 195 = .ok (.goto (-38), 3) := by decide +kernel
theorem dX4_sha_198 : decode cX4_sha 198 = .ok (.return_, 1) := by decide +kernel
