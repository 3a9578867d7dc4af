set_option maxRecDepth 20000 in
theorem ggX3_init_X0_init : GoodIn wsX3_init wsX0_init := goodIn_r _ [22, 23, 2, 3, 24, 25, 26, 27, 28, 29, 30, 31, 32, 33, 44, 45, 46, 47, 48, 49, 50, 51, 52] (by decide +kernel) (by decide +kernel)
set_option maxRecDepth 20000 in
theorem gX3_init_X0_init_n11 : GoodIn wsX3_init (wsX0_init) := ggX3_init_X0_init
set_option maxRecDepth 20000 in
theorem ggX3_init_X2_init : GoodIn wsX3_init wsX2_init := goodIn_r _ [35, 36, 2, 3, 24, 37, 38, 61, 62] (by decide +kernel) (by decide +kernel)
set_option maxRecDepth 20000 in
theorem gX3_init_X2_init_n18 : GoodIn wsX3_init (wsX2_init) := ggX3_init_X2_init
set_option maxRecDepth 20000 in
theorem ggX3_init_X1_init : GoodIn wsX3_init wsX1_init := goodIn_r _ [40, 41, 2, 3, 24, 42, 43, 63, 64] (by decide +kernel) (by decide +kernel)
set_option maxRecDepth 20000 in
theorem gX3_init_X1_init_n25 : GoodIn wsX3_init (wsX1_init) := ggX3_init_X1_init
theorem dX3_init_0 : decode cX3_init 0 = .ok (.aload_n 0, 1) := by decide +kernel
theorem dX3_init_1 : decode cX3_init 1 = .ok (.invokespecial 3, 3) := by decide +kernel
theorem dX3_init_4 : decode cX3_init 4 = .ok (.aload_n 0, 1) := by decide +kernel
theorem dX3_init_5 : decode cX3_init 5 = .ok (.new 9, 3) := by decide +kernel
theorem dX3_init_8 : decode cX3_init 8 = .ok (.dup, 1) := by decide +kernel
theorem dX3_init_9 : decode cX3_init 9 = .ok (.invokespecial 11, 3) := by decide +kernel
theorem dX3_init_12 : decode cX3_init 12 = .ok (.putfield 12, 3) := by decide +kernel
theorem dX3_init_15 : decode cX3_init 15 = .ok (.aload_n 0, 1) := by decide +kernel
theorem dX3_init_16 : decode cX3_init 16 = .ok (.new 16, 3) := by decide +kernel
theorem dX3_init_19 : decode cX3_init 19 = .ok (.dup, 1) := by decide +kernel
theorem dX3_init_20 : decode cX3_init 20 = .ok (.invokespecial 18, 3) := by decide +kernel
theorem dX3_init_23 : decode cX3_init 23 = .ok (.putfield 19, 3) := by decide +kernel
theorem dX3_init_26 : decode cX3_init 26 = .ok (.aload_n 0, 1) := by decide +kernel
theorem dX3_init_27 : decode cX3_init 27 = .ok (.new 23, 3) := by decide +kernel
theorem dX3_init_30 : decode cX3_init 30 = .ok (.dup, 1) := by decide +kernel
theorem dX3_init_31 : decode cX3_init 31 = .ok (.invokespecial 25, 3) := by decide +kernel
theorem dX3_init_34 : decode cX3_init 34 = .ok (.putfield 26, 3) := by decide +kernel
theorem dX3_init_37 : decode cX3_init 37 = .ok (.aload_n 0, 1) := by decide +kernel
theorem dX3_init_38 : decode cX3_init 38 = .ok (.iconst 0, 1) := by decide +kernel
theorem dX3_init_39 : decode cX3_init 39 = .ok (.putfield 30, 3) := by decide +kernel
theorem dX3_init_42 : decode cX3_init 42 = .ok (.aload_n 0, 1) := by decide +kernel
theorem dX3_init_43 : decode cX3_init 43 = .ok (.iconst 0, 1) := by decide +kernel
theorem dX3_init_44 : decode cX3_init 44 = .ok (.putfield 34, 3) := by decide +kernel
theorem dX3_init_47 : decode cX3_init 47 = .ok (.aload_n 0, 1) := by decide +kernel
theorem dX3_init_48 : decode cX3_init 48 = .ok (.iconst 0, 1) := by decide +kernel
theorem dX3_init_49 : decode cX3_init 49 = .ok (.putfield 38, 3) := by decide +kernel
theorem dX3_init_52 : decode cX3_init 52 = .ok (.aload_n 0, 1) := by decide +kernel
theorem dX3_init_53 : decode cX3_init 53 = .ok (.iconst 0, 1) := by decide +kernel
theorem dX3_init_54 : decode cX3_init 54 = .ok (.putfield 41, 3) := by decide +kernel
theorem dX3_init_57 : decode cX3_init 57 = .ok (.aload_n 0, 1) := by decide +kernel
theorem dX3_init_58 : decode cX3_init 58 = .ok (.iconst 0, 1) := by decide +kernel
theorem dX3_init_59 : decode cX3_init 59 = .ok (.putfield 44, 3) := by decide +kernel
theorem dX3_init_62 : decode cX3_init 62 = .ok (.return_, 1) := by decide +kernel
set_option maxRecDepth 20000 in
theorem ggX3_feed_X2_addHighestFirst : GoodIn wsX3_feed wsX2_addHighestFirst := goodIn_r _ [5, 6, 7, 8, 3, 9, 10, 11, 20, 21] (by decide +kernel) (by decide +kernel)
set_option maxRecDepth 20000 in
theorem gX3_feed_X2_addHighestFirst_n50 : GoodIn wsX3_feed (wsX2_addHighestFirst) := ggX3_feed_X2_addHighestFirst
theorem dX3_feed_0 : decode cX3_feed 0 = .ok (.aload_n 0, 1) := by decide +kernel
theorem dX3_feed_1 : decode cX3_feed 1 = .ok (.getfield 19, 3) := by decide +kernel
theorem dX3_feed_4 : decode cX3_feed 4 = .ok (.getfield 47, 3) := by decide +kernel
theorem dX3_feed_7 : decode cX3_feed 7 = .ok (.bipush 20, 2) := by decide +kernel
theorem dX3_feed_9 : decode cX3_feed 9 = .ok (.iadd, 1) := by decide +kernel
theorem dX3_feed_10 : decode cX3_feed 10 = .ok (.sipush 1024, 3) := by decide +kernel
theorem dX3_feed_13 : decode cX3_feed 13 = .ok (.if_icmp .le 5, 3) := by decide +kernel
theorem dX3_feed_16 : decode cX3_feed 16 = .ok (.iconst (-1), 1) := by decide +kernel
theorem dX3_feed_17 : decode cX3_feed 17 = .ok (.ireturn, 1) := by decide +kernel
theorem dX3_feed_18 : decode cX3_feed 18 = .ok (.aload_n 0, 1) := by decide +kernel
theorem dX3_feed_19 : decode cX3_feed 19 = .ok (.getfield 19, 3) := by decide +kernel
theorem dX3_feed_22 : decode cX3_feed 22 = .ok (.iload_n 1, 1) := by decide +kernel
theorem dX3_feed_23 : decode cX3_feed 23 = .ok (.invokevirtual 50, 3) := by decide +kernel
theorem dX3_feed_26 : decode cX3_feed 26 = .ok (.aload_n 0, 1) := by decide +kernel
theorem dX3_feed_27 : decode cX3_feed 27 = .ok (.getfield 19, 3) := by decide +kernel
theorem dX3_feed_30 : decode cX3_feed 30 = .ok (.iload_n 2, 1) := by decide +kernel
theorem dX3_feed_31 : decode cX3_feed 31 = .ok (.invokevirtual 50, 3) := by decide +kernel
theorem dX3_feed_34 : decode cX3_feed 34 = .ok (.aload_n 0, 1) := by decide +kernel
theorem dX3_feed_35 : decode cX3_feed 35 = .ok (.getfield 19, 3) := by decide +kernel
theorem dX3_feed_38 : decode cX3_feed 38 = .ok (.iload_n 3, 1) := by decide +kernel
theorem dX3_feed_39 : decode cX3_feed 39 = .ok (.invokevirtual 50, 3) := by decide +kernel
theorem dX3_feed_42 : decode cX3_feed 42 = .ok (.aload_n 0, 1) := by decide +kernel
theorem dX3_feed_43 : decode cX3_feed 43 = .ok (.getfield 19, 3) := by decide +kernel
theorem dX3_feed_46 : decode cX3_feed 46 = .ok (.iload 4, 2) := by decide +kernel
theorem dX3_feed_48 : decode cX3_feed 48 = .ok (.invokevirtual 50, 3) := by decide +kernel
theorem dX3_feed_51 : decode cX3_feed 51 = .ok (.aload_n 0, 1) := by decide +kernel
theorem dX3_feed_52 : decode cX3_feed 52 = .ok (.getfield 19, 3) := by decide +kernel
theorem dX3_feed_55 : decode cX3_feed 55 = .ok (.iload 5, 2) := by decide +kernel
theorem dX3_feed_57 : decode cX3_feed 57 = .ok (.invokevirtual 50, 3) := by decide +kernel
theorem dX3_feed_60 : decode cX3_feed 60 = .ok (.aload_n 0, 1) := by decide +kernel
theorem dX3_feed_61 : decode cX3_feed 61 = .ok (.getfield 19, 3) := by decide +kernel
theorem dX3_feed_64 : decode cX3_feed 64 = .ok (.getfield 47, 3) := by decide +kernel
theorem dX3_feed_67 : decode cX3_feed 67 = .ok (.ireturn, 1) := by decide +kernel
theorem dX3_end_0 : decode cX3_end 0 = .ok (.iload_n 1, 1) := by decide +kernel
theorem dX3_end_1 : decode cX3_end 1 = .ok (.ifCond .lt 14, 3) := by decide +kernel
theorem dX3_end_4 : decode cX3_end 4 = .ok (.iload_n 1, 1) := by decide +kernel
theorem dX3_end_5 : decode cX3_end 5 = .ok (.aload_n 0, 1) := by decide +kernel
theorem dX3_end_6 : decode cX3_end 6 = .ok (.getfield 19, 3) := by decide +kernel
theorem dX3_end_9 : decode cX3_end 9 = .ok (.getfield 47, 3) := by decide +kernel
theorem dX3_end_12 : decode cX3_end 12 = .ok (.if_icmp .le 5, 3) := by decide +kernel
theorem dX3_end_15 : decode cX3_end 15 = .ok (.iconst 0, 1) := by decide +kernel
theorem dX3_end_16 : decode cX3_end 16 = .ok (.ireturn, 1) := by decide +kernel
theorem dX3_end_17 : decode cX3_end 17 = .ok (.aload_n 0, 1) := by decide +kernel
theorem dX3_end_18 : decode cX3_end 18 = .ok (.getfield 19, 3) := by decide +kernel
theorem dX3_end_21 : decode cX3_end 21 = .ok (.iload_n 1, 1) := by decide +kernel
theorem dX3_end_22 : decode cX3_end 22 = .ok (.putfield 47, 3) := by decide +kernel
theorem dX3_end_25 : decode cX3_end 25 = .ok (.iconst 1, 1) := by decide +kernel
theorem dX3_end_26 : decode cX3_end 26 = .ok (.ireturn, 1) := by decide +kernel
theorem dX3_taped_0 : decode cX3_taped 0 = .ok (.aload_n 0, 1) := by decide +kernel
theorem dX3_taped_1 : decode cX3_taped 1 = .ok (.getfield 19, 3) := by decide +kernel
theorem dX3_taped_4 : decode cX3_taped 4 = .ok (.getfield 47, 3) := by decide +kernel
theorem dX3_taped_7 : decode cX3_taped 7 = .ok (.ireturn, 1) := by decide +kernel
set_option maxRecDepth 20000 in
theorem ggX3_pack_X2_becomeImage : GoodIn wsX3_pack wsX2_becomeImage := goodIn_r _ [6, 7, 8, 9, 10, 11, 4, 12, 13, 14, 15, 16, 17, 18, 19, 20, 21, 22, 23, 24, 25, 26, 27, 28, 29, 30, 31, 32, 33, 34, 35, 36, 37, 38, 39, 40, 41, 42, 43, 44, 53, 54, 55, 56] (by decide +kernel) (by decide +kernel)
set_option maxRecDepth 20000 in
theorem gX3_pack_X2_becomeImage_n54 : GoodIn wsX3_pack (wsX2_becomeImage) := ggX3_pack_X2_becomeImage
theorem dX3_pack_0 : decode cX3_pack 0 = .ok (.aload_n 0, 1) := by decide +kernel
theorem dX3_pack_1 : decode cX3_pack 1 = .ok (.getfield 19, 3) := by decide +kernel
theorem dX3_pack_4 : decode cX3_pack 4 = .ok (.getfield 47, 3) := by decide +kernel
theorem dX3_pack_7 : decode cX3_pack 7 = .ok (.sipush 984, 3) := by decide +kernel
theorem dX3_pack_10 : decode cX3_pack 10 = .ok (.if_icmp .le 5, 3) := by decide +kernel
theorem dX3_pack_13 : decode cX3_pack 13 = .ok (.iconst (-1), 1) := by decide +kernel
theorem dX3_pack_14 : decode cX3_pack 14 = .ok (.ireturn, 1) := by decide +kernel
theorem dX3_pack_15 : decode cX3_pack 15 = .ok (.aload_n 0, 1) := by decide +kernel
theorem dX3_pack_16 : decode cX3_pack 16 = .ok (.getfield 19, 3) := by decide +kernel
theorem dX3_pack_19 : decode cX3_pack 19 = .ok (.iload_n 1, 1) := by decide +kernel
theorem dX3_pack_20 : decode cX3_pack 20 = .ok (.aload_n 0, 1) := by decide +kernel
theorem dX3_pack_21 : decode cX3_pack 21 = .ok (.getfield 26, 3) := by decide +kernel
theorem dX3_pack_24 : decode cX3_pack 24 = .ok (.invokevirtual 54, 3) := by decide +kernel
theorem dX3_pack_27 : decode cX3_pack 27 = .ok (.aload_n 0, 1) := by decide +kernel
theorem dX3_pack_28 : decode cX3_pack 28 = .ok (.getfield 19, 3) := by decide +kernel
theorem dX3_pack_31 : decode cX3_pack 31 = .ok (.getfield 47, 3) := by decide +kernel
theorem dX3_pack_34 : decode cX3_pack 34 = .ok (.ireturn, 1) := by decide +kernel
set_option maxRecDepth 20000 in
theorem ggX3_install_X3_isSlot : GoodIn wsX3_install wsX3_isSlot := goodIn_r _ [6] (by decide +kernel) (by decide +kernel)
set_option maxRecDepth 20000 in
theorem gX3_install_X3_isSlot : GoodIn wsX3_install (va_wsS RX3 61 yX3_isSlot wsX3_isSlot) := goodIn_app (goodIn_of _ (by decide +kernel)) ggX3_install_X3_isSlot
set_option maxRecDepth 20000 in
theorem ggX3_install_X3_isUnderWay : GoodIn wsX3_install wsX3_isUnderWay := goodIn_r _ [10, 2, 11, 12, 13, 14, 15, 16, 17, 18, 19, 20, 21, 22, 23, 24, 25, 5, 26, 86, 87, 88, 89, 90, 91, 92, 93, 96, 97, 98, 99, 100, 101, 102, 103, 104] (by decide +kernel) (by decide +kernel)
set_option maxRecDepth 20000 in
theorem gX3_install_X3_isUnderWay : GoodIn wsX3_install (wsV RX3 65 RX3 yX3_isUnderWay wsX3_isUnderWay) := goodIn_app (goodIn_of _ (by decide +kernel)) ggX3_install_X3_isUnderWay
set_option maxRecDepth 20000 in
theorem ggX3_install_X3_stopRunning : GoodIn wsX3_install wsX3_stopRunning := goodIn_r _ [30, 31, 32, 86, 87, 88, 89, 90, 91, 92, 93] (by decide +kernel) (by decide +kernel)
set_option maxRecDepth 20000 in
theorem gX3_install_X3_stopRunning : GoodIn wsX3_install (wsV RX3 69 RX3 yX3_stopRunning wsX3_stopRunning) := goodIn_app (goodIn_of _ (by decide +kernel)) ggX3_install_X3_stopRunning
set_option maxRecDepth 20000 in
theorem ggX3_install_X3_eraseSlot : GoodIn wsX3_install wsX3_eraseSlot := goodIn_r _ [36, 2, 37, 38, 5, 39, 40, 12, 41, 42, 43, 44, 45, 22, 46, 47, 48, 49, 50, 51, 52, 53, 54, 55, 56, 57, 58, 59, 60, 61, 62, 86, 87, 88, 89, 90, 91, 92, 93, 96, 97, 98, 99, 100, 101, 102, 103, 104] (by decide +kernel) (by decide +kernel)
set_option maxRecDepth 20000 in
theorem gX3_install_X3_eraseSlot : GoodIn wsX3_install (wsV RX3 72 RX3 yX3_eraseSlot wsX3_eraseSlot) := goodIn_app (goodIn_of _ (by decide +kernel)) ggX3_install_X3_eraseSlot
set_option maxRecDepth 20000 in
theorem ggX3_install_X3_firstByteOf : GoodIn wsX3_install wsX3_firstByteOf := goodIn_r _ [65, 37, 38, 5, 39] (by decide +kernel) (by decide +kernel)
set_option maxRecDepth 20000 in
theorem gX3_install_X3_firstByteOf : GoodIn wsX3_install (va_wsS RX3 75 yX3_firstByteOf wsX3_firstByteOf) := goodIn_app (goodIn_of _ (by decide +kernel)) ggX3_install_X3_firstByteOf
set_option maxRecDepth 20000 in
theorem ggX3_install_X0_writeRow : GoodIn wsX3_install wsX0_writeRow := goodIn_r _ [68, 69, 70, 71, 12, 72, 73, 74, 75, 76, 77, 49, 50, 51, 52, 43, 53, 54, 55, 56, 78, 79, 80, 81, 22, 96, 97, 98, 99, 100, 101, 102, 103, 104] (by decide +kernel) (by decide +kernel)
set_option maxRecDepth 20000 in
theorem gX3_install_X0_writeRow_n83 : GoodIn wsX3_install (wsX0_writeRow) := ggX3_install_X0_writeRow
set_option maxRecDepth 20000 in
theorem ggX3_install_X3_powerWent : GoodIn wsX3_install wsX3_powerWent := goodIn_r _ [85, 27, 28, 29, 5, 30, 31, 32, 86, 87, 88, 89, 90, 91, 92, 93] (by decide +kernel) (by decide +kernel)
set_option maxRecDepth 20000 in
theorem gX3_install_X3_powerWent : GoodIn wsX3_install (wsV RX3 87 RX3 yX3_powerWent wsX3_powerWent) := goodIn_app (goodIn_of _ (by decide +kernel)) ggX3_install_X3_powerWent
theorem dX3_install_0 : decode cX3_install 0 = .ok (.aload_n 0, 1) := by decide +kernel
theorem dX3_install_1 : decode cX3_install 1 = .ok (.getfield 19, 3) := by decide +kernel
theorem dX3_install_4 : decode cX3_install 4 = .ok (.getfield 47, 3) := by decide +kernel
theorem dX3_install_7 : decode cX3_install 7 = .ok (.istore_n 2, 1) := by decide +kernel
theorem dX3_install_8 : decode cX3_install 8 = .ok (.aload_n 0, 1) := by decide +kernel
theorem dX3_install_9 : decode cX3_install 9 = .ok (.getfield 19, 3) := by decide +kernel
theorem dX3_install_12 : decode cX3_install 12 = .ok (.iconst 0, 1) := by decide +kernel
theorem dX3_install_13 : decode cX3_install 13 = .ok (.putfield 47, 3) := by decide +kernel
theorem dX3_install_16 : decode cX3_install 16 = .ok (.aload_n 0, 1) := by decide +kernel
theorem dX3_install_17 : decode cX3_install 17 = .ok (.getfield 12, 3) := by decide +kernel
theorem dX3_install_20 : decode cX3_install 20 = .ok (.getfield 58, 3) := by decide +kernel
theorem dX3_install_23 : decode cX3_install 23 = .ok (.ifCond .eq 6, 3) := by decide +kernel
theorem dX3_install_26 : decode cX3_install 26 = .ok (.bipush (-9), 2) := by decide +kernel
theorem dX3_install_28 : decode cX3_install 28 = .ok (.ireturn, 1) := by decide +kernel
theorem dX3_install_29 : decode cX3_install 29 = .ok (.iload_n 1, 1) := by decide +kernel
theorem dX3_install_30 : decode cX3_install 30 = .ok (.invokestatic 61, 3) := by decide +kernel
theorem dX3_install_33 : decode cX3_install 33 = .ok (.ifCond .ne 5, 3) := by decide +kernel
theorem dX3_install_36 : decode cX3_install 36 = .ok (.iconst (-1), 1) := by decide +kernel
theorem dX3_install_37 : decode cX3_install 37 = .ok (.ireturn, 1) := by decide +kernel
theorem dX3_install_38 : decode cX3_install 38 = .ok (.aload_n 0, 1) := by decide +kernel
theorem dX3_install_39 : decode cX3_install 39 = .ok (.invokevirtual 65, 3) := by decide +kernel
theorem dX3_install_42 : decode cX3_install 42 = .ok (.ifCond .eq 6, 3) := by decide +kernel
theorem dX3_install_45 : decode cX3_install 45 = .ok (.bipush (-3), 2) := by decide +kernel
theorem dX3_install_47 : decode cX3_install 47 = .ok (.ireturn, 1) := by decide +kernel
theorem dX3_install_48 : decode cX3_install 48 = .ok (.iload_n 1, 1) := by decide +kernel
theorem dX3_install_49 : decode cX3_install 49 = .ok (.ifCond .ne 7, 3) := by decide +kernel
theorem dX3_install_52 : decode cX3_install 52 = .ok (.aload_n 0, 1) := by decide +kernel
theorem dX3_install_53 : decode cX3_install 53 = .ok (.invokevirtual 69, 3) := by decide +kernel
theorem dX3_install_56 : decode cX3_install 56 = .ok (.aload_n 0, 1) := by decide +kernel
theorem dX3_install_57 : decode cX3_install 57 = .ok (.iload_n 1, 1) := by decide +kernel
theorem dX3_install_58 : decode cX3_install 58 = .ok (.invokevirtual 72, 3) := by decide +kernel
theorem dX3_install_61 : decode cX3_install 61 = .ok (.ifCond .eq 25, 3) := by decide +kernel
theorem dX3_install_64 : decode cX3_install 64 = .ok (.aload_n 0, 1) := by decide +kernel
theorem dX3_install_65 : decode cX3_install 65 = .ok (.getfield 12, 3) := by decide +kernel
theorem dX3_install_68 : decode cX3_install 68 = .ok (.iload_n 1, 1) := by decide +kernel
theorem dX3_install_69 : decode cX3_install 69 = .ok (.invokestatic 75, 3) := by decide +kernel
theorem dX3_install_72 : decode cX3_install 72 = .ok (.aload_n 0, 1) := by decide +kernel
theorem dX3_install_73 : decode cX3_install 73 = .ok (.getfield 19, 3) := by decide +kernel
theorem dX3_install_76 : decode cX3_install 76 = .ok (.getfield 79, 3) := by decide +kernel
theorem dX3_install_79 : decode cX3_install 79 = .ok (.iload_n 2, 1) := by decide +kernel
theorem dX3_install_80 : decode cX3_install 80 = .ok (.invokevirtual 83, 3) := by decide +kernel
theorem dX3_install_83 : decode cX3_install 83 = .ok (.ifCond .ne 8, 3) := by decide +kernel
theorem dX3_install_86 : decode cX3_install 86 = .ok (.aload_n 0, 1) := by decide +kernel
theorem dX3_install_87 : decode cX3_install 87 = .ok (.invokevirtual 87, 3) := by decide +kernel
theorem dX3_install_90 : decode cX3_install 90 = .ok (.ireturn, 1) := by decide +kernel
theorem dX3_install_91 : decode cX3_install 91 = .ok (.iload_n 2, 1) := by decide +kernel
theorem dX3_install_92 : decode cX3_install 92 = .ok (.ireturn, 1) := by decide +kernel
set_option maxRecDepth 20000 in
theorem ggX3_request_X0_markUnit : GoodIn wsX3_request wsX0_markUnit := goodIn_r _ [6, 7, 8, 9, 4, 10, 11, 12, 13, 14, 15, 16, 17, 18, 19, 20, 21, 22, 23, 59, 60, 61, 62, 63, 64, 65, 66, 67] (by decide +kernel) (by decide +kernel)
set_option maxRecDepth 20000 in
theorem gX3_request_X0_markUnit_n91 : GoodIn wsX3_request (wsX0_markUnit) := ggX3_request_X0_markUnit
set_option maxRecDepth 20000 in
theorem ggX3_request_X3_powerWent : GoodIn wsX3_request wsX3_powerWent := goodIn_r _ [28, 29, 30, 31, 27, 32, 2, 33, 51, 52, 53, 54, 55, 56, 57, 58] (by decide +kernel) (by decide +kernel)
set_option maxRecDepth 20000 in
theorem gX3_request_X3_powerWent : GoodIn wsX3_request (wsV RX3 87 RX3 yX3_powerWent wsX3_powerWent) := goodIn_app (goodIn_of _ (by decide +kernel)) ggX3_request_X3_powerWent
set_option maxRecDepth 20000 in
theorem ggX3_request_X3_writeMagic : GoodIn wsX3_request wsX3_writeMagic := goodIn_r _ [37, 1, 38, 17, 4, 18, 39, 40, 41, 42, 43, 44, 45, 46, 47, 48, 49, 50, 7, 8, 9, 10, 11, 12, 13, 14, 15, 19, 20, 21, 22, 23, 51, 52, 53, 54, 55, 56, 57, 58, 59, 60, 61, 62, 63, 64, 65, 66, 67] (by decide +kernel) (by decide +kernel)
set_option maxRecDepth 20000 in
theorem gX3_request_X3_writeMagic : GoodIn wsX3_request (wsV RX3 95 RX3 yX3_writeMagic wsX3_writeMagic) := goodIn_app (goodIn_of _ (by decide +kernel)) ggX3_request_X3_writeMagic
theorem dX3_request_0 : decode cX3_request 0 = .ok (.aload_n 0, 1) := by decide +kernel
theorem dX3_request_1 : decode cX3_request 1 = .ok (.getfield 12, 3) := by decide +kernel
theorem dX3_request_4 : decode cX3_request 4 = .ok (.getfield 58, 3) := by decide +kernel
theorem dX3_request_7 : decode cX3_request 7 = .ok (.ifCond .eq 6, 3) := by decide +kernel
theorem dX3_request_10 : decode cX3_request 10 = .ok (.bipush (-9), 2) := by decide +kernel
theorem dX3_request_12 : decode cX3_request 12 = .ok (.ireturn, 1) := by decide +kernel
theorem dX3_request_13 : decode cX3_request 13 = .ok (.aload_n 0, 1) := by decide +kernel
theorem dX3_request_14 : decode cX3_request 14 = .ok (.getfield 30, 3) := by decide +kernel
theorem dX3_request_17 : decode cX3_request 17 = .ok (.ifCond .ne 6, 3) := by decide +kernel
theorem dX3_request_20 : decode cX3_request 20 = .ok (.bipush (-2), 2) := by decide +kernel
theorem dX3_request_22 : decode cX3_request 22 = .ok (.ireturn, 1) := by decide +kernel
theorem dX3_request_23 : decode cX3_request 23 = .ok (.iload_n 1, 1) := by decide +kernel
theorem dX3_request_24 : decode cX3_request 24 = .ok (.ifCond .eq 22, 3) := by decide +kernel
theorem dX3_request_27 : decode cX3_request 27 = .ok (.aload_n 0, 1) := by decide +kernel
theorem dX3_request_28 : decode cX3_request 28 = .ok (.getfield 12, 3) := by decide +kernel
theorem dX3_request_31 : decode cX3_request 31 = .ok (.bipush 9, 2) := by decide +kernel
theorem dX3_request_33 : decode cX3_request 33 = .ok (.iconst 3, 1) := by decide +kernel
theorem dX3_request_34 : decode cX3_request 34 = .ok (.iconst 1, 1) := by decide +kernel
theorem dX3_request_35 : decode cX3_request 35 = .ok (.invokevirtual 91, 3) := by decide +kernel
theorem dX3_request_38 : decode cX3_request 38 = .ok (.ifCond .ne 8, 3) := by decide +kernel
theorem dX3_request_41 : decode cX3_request 41 = .ok (.aload_n 0, 1) := by decide +kernel
theorem dX3_request_42 : decode cX3_request 42 = .ok (.invokevirtual 87, 3) := by decide +kernel
theorem dX3_request_45 : decode cX3_request 45 = .ok (.ireturn, 1) := by decide +kernel
theorem dX3_request_46 : decode cX3_request 46 = .ok (.aload_n 0, 1) := by decide +kernel
theorem dX3_request_47 : decode cX3_request 47 = .ok (.bipush 9, 2) := by decide +kernel
theorem dX3_request_49 : decode cX3_request 49 = .ok (.invokevirtual 95, 3) := by decide +kernel
theorem dX3_request_52 : decode cX3_request 52 = .ok (.ifCond .ne 8, 3) := by decide +kernel
theorem dX3_request_55 : decode cX3_request 55 = .ok (.aload_n 0, 1) := by decide +kernel
theorem dX3_request_56 : decode cX3_request 56 = .ok (.invokevirtual 87, 3) := by decide +kernel
theorem dX3_request_59 : decode cX3_request 59 = .ok (.ireturn, 1) := by decide +kernel
theorem dX3_request_60 : decode cX3_request 60 = .ok (.iconst 0, 1) := by decide +kernel
theorem dX3_request_61 : decode cX3_request 61 = .ok (.ireturn, 1) := by decide +kernel
set_option maxRecDepth 20000 in
theorem ggX3_confirm_X3_isMarked : GoodIn wsX3_confirm wsX3_isMarked := goodIn_r _ [7, 1, 8, 9, 10, 11, 12, 13, 14, 15, 16, 17, 18, 19, 48, 49, 50, 51, 52, 53, 54, 55, 56, 57, 58, 59, 60, 61, 62, 63, 64] (by decide +kernel) (by decide +kernel)
set_option maxRecDepth 20000 in
theorem gX3_confirm_X3_isMarked : GoodIn wsX3_confirm (wsV RX3 98 RX3 yX3_isMarked wsX3_isMarked) := goodIn_app (goodIn_of _ (by decide +kernel)) ggX3_confirm_X3_isMarked
set_option maxRecDepth 20000 in
theorem ggX3_confirm_X0_hasMagic : GoodIn wsX3_confirm wsX0_hasMagic := goodIn_r _ [22, 12, 13, 9, 14, 15, 16, 17, 18, 19, 56, 57, 58, 59, 60, 61, 62, 63, 64] (by decide +kernel) (by decide +kernel)
set_option maxRecDepth 20000 in
theorem gX3_confirm_X0_hasMagic_n102 : GoodIn wsX3_confirm (wsX0_hasMagic) := ggX3_confirm_X0_hasMagic
set_option maxRecDepth 20000 in
theorem ggX3_confirm_X0_markUnit : GoodIn wsX3_confirm wsX0_markUnit := goodIn_r _ [25, 26, 27, 28, 9, 29, 30, 31, 32, 33, 34, 12, 13, 14, 35, 36, 37, 38, 19, 56, 57, 58, 59, 60, 61, 62, 63, 64] (by decide +kernel) (by decide +kernel)
set_option maxRecDepth 20000 in
theorem gX3_confirm_X0_markUnit_n91 : GoodIn wsX3_confirm (wsX0_markUnit) := ggX3_confirm_X0_markUnit
set_option maxRecDepth 20000 in
theorem ggX3_confirm_X3_powerWent : GoodIn wsX3_confirm wsX3_powerWent := goodIn_r _ [42, 43, 44, 45, 6, 46, 2, 47, 48, 49, 50, 51, 52, 53, 54, 55] (by decide +kernel) (by decide +kernel)
set_option maxRecDepth 20000 in
theorem gX3_confirm_X3_powerWent : GoodIn wsX3_confirm (wsV RX3 87 RX3 yX3_powerWent wsX3_powerWent) := goodIn_app (goodIn_of _ (by decide +kernel)) ggX3_confirm_X3_powerWent
theorem dX3_confirm_0 : decode cX3_confirm 0 = .ok (.aload_n 0, 1) := by decide +kernel
theorem dX3_confirm_1 : decode cX3_confirm 1 = .ok (.getfield 12, 3) := by decide +kernel
theorem dX3_confirm_4 : decode cX3_confirm 4 = .ok (.getfield 58, 3) := by decide +kernel
theorem dX3_confirm_7 : decode cX3_confirm 7 = .ok (.ifCond .eq 6, 3) := by decide +kernel
theorem dX3_confirm_10 : decode cX3_confirm 10 = .ok (.bipush (-9), 2) := by decide +kernel
theorem dX3_confirm_12 : decode cX3_confirm 12 = .ok (.ireturn, 1) := by decide +kernel
theorem dX3_confirm_13 : decode cX3_confirm 13 = .ok (.aload_n 0, 1) := by decide +kernel
theorem dX3_confirm_14 : decode cX3_confirm 14 = .ok (.getfield 30, 3) := by decide +kernel
theorem dX3_confirm_17 : decode cX3_confirm 17 = .ok (.ifCond .ne 6, 3) := by decide +kernel
theorem dX3_confirm_20 : decode cX3_confirm 20 = .ok (.bipush (-2), 2) := by decide +kernel
theorem dX3_confirm_22 : decode cX3_confirm 22 = .ok (.ireturn, 1) := by decide +kernel
theorem dX3_confirm_23 : decode cX3_confirm 23 = .ok (.aload_n 0, 1) := by decide +kernel
theorem dX3_confirm_24 : decode cX3_confirm 24 = .ok (.iconst 4, 1) := by decide +kernel
theorem dX3_confirm_25 : decode cX3_confirm 25 = .ok (.iconst 3, 1) := by decide +kernel
theorem dX3_confirm_26 : decode cX3_confirm 26 = .ok (.invokevirtual 98, 3) := by decide +kernel
theorem dX3_confirm_29 : decode cX3_confirm 29 = .ok (.ifCond .ne 14, 3) := by decide +kernel
theorem dX3_confirm_32 : decode cX3_confirm 32 = .ok (.aload_n 0, 1) := by decide +kernel
theorem dX3_confirm_33 : decode cX3_confirm 33 = .ok (.getfield 12, 3) := by decide +kernel
theorem dX3_confirm_36 : decode cX3_confirm 36 = .ok (.iconst 4, 1) := by decide +kernel
theorem dX3_confirm_37 : decode cX3_confirm 37 = .ok (.invokevirtual 102, 3) := by decide +kernel
theorem dX3_confirm_40 : decode cX3_confirm 40 = .ok (.ifCond .ne 5, 3) := by decide +kernel
theorem dX3_confirm_43 : decode cX3_confirm 43 = .ok (.iconst 0, 1) := by decide +kernel
theorem dX3_confirm_44 : decode cX3_confirm 44 = .ok (.ireturn, 1) := by decide +kernel
theorem dX3_confirm_45 : decode cX3_confirm 45 = .ok (.aload_n 0, 1) := by decide +kernel
theorem dX3_confirm_46 : decode cX3_confirm 46 = .ok (.getfield 12, 3) := by decide +kernel
theorem dX3_confirm_49 : decode cX3_confirm 49 = .ok (.iconst 4, 1) := by decide +kernel
theorem dX3_confirm_50 : decode cX3_confirm 50 = .ok (.iconst 3, 1) := by decide +kernel
theorem dX3_confirm_51 : decode cX3_confirm 51 = .ok (.iconst 1, 1) := by decide +kernel
theorem dX3_confirm_52 : decode cX3_confirm 52 = .ok (.invokevirtual 91, 3) := by decide +kernel
theorem dX3_confirm_55 : decode cX3_confirm 55 = .ok (.ifCond .ne 8, 3) := by decide +kernel
theorem dX3_confirm_58 : decode cX3_confirm 58 = .ok (.aload_n 0, 1) := by decide +kernel
theorem dX3_confirm_59 : decode cX3_confirm 59 = .ok (.invokevirtual 87, 3) := by decide +kernel
theorem dX3_confirm_62 : decode cX3_confirm 62 = .ok (.ireturn, 1) := by decide +kernel
theorem dX3_confirm_63 : decode cX3_confirm 63 = .ok (.iconst 1, 1) := by decide +kernel
theorem dX3_confirm_64 : decode cX3_confirm 64 = .ok (.ireturn, 1) := by decide +kernel
set_option maxRecDepth 20000 in
theorem ggX3_boot_X3_stopRunning : GoodIn wsX3_boot wsX3_stopRunning := goodIn_r _ [9, 3, 4, 173, 174, 175, 176, 177, 178, 179, 180] (by decide +kernel) (by decide +kernel)
set_option maxRecDepth 20000 in
theorem gX3_boot_X3_stopRunning : GoodIn wsX3_boot (wsV RX3 69 RX3 yX3_stopRunning wsX3_stopRunning) := goodIn_app (goodIn_of _ (by decide +kernel)) ggX3_boot_X3_stopRunning
set_option maxRecDepth 20000 in
theorem ggX3_boot_X3_findDue : GoodIn wsX3_boot wsX3_findDue := goodIn_r _ [13, 14, 15, 16, 8, 17, 1, 18, 19, 20, 21, 22, 23, 24, 25, 26, 27, 28, 29, 30, 31, 32, 33, 34, 35, 36, 37, 38, 39, 40, 41, 42, 43, 44, 45, 46, 47, 48, 49, 50, 51, 52, 53, 54, 55, 56, 57, 58, 59, 60, 61, 62, 63, 64, 65, 66, 67, 68, 69, 70, 71, 72, 73, 74, 75, 76, 77, 78, 79, 80, 81, 82, 83, 84, 85, 86, 87, 88, 89, 90, 173, 174, 175, 176, 177, 178, 179, 180, 181, 182, 183, 184, 185, 186, 187, 188, 189, 190, 191] (by decide +kernel) (by decide +kernel)
set_option maxRecDepth 20000 in
theorem gX3_boot_X3_findDue : GoodIn wsX3_boot (wsV RX3 105 RX3 yX3_findDue wsX3_findDue) := goodIn_app (goodIn_of _ (by decide +kernel)) ggX3_boot_X3_findDue
set_option maxRecDepth 20000 in
theorem ggX3_boot_X3_doWhatIsDue : GoodIn wsX3_boot wsX3_doWhatIsDue := goodIn_r _ [94, 95, 96, 97, 8, 98, 1, 99, 100, 19, 101, 102, 103, 104, 105, 29, 106, 107, 108, 109, 110, 111, 112, 113, 114, 115, 116, 117, 118, 119, 120, 121, 122, 123, 124, 125, 126, 127, 30, 31, 32, 33, 18, 20, 21, 22, 23, 24, 25, 26, 27, 28, 128, 129, 130, 131, 132, 133, 134, 135, 136, 137, 138, 139, 140, 141, 142, 143, 144, 145, 146, 147, 148, 149, 150, 151, 152, 153, 154, 155, 156, 157, 158, 159, 160, 161, 162, 163, 164, 173, 174, 175, 176, 177, 178, 179, 180, 181, 182, 183, 184, 185, 186, 187, 188, 189] (by decide +kernel) (by decide +kernel)
set_option maxRecDepth 20000 in
theorem gX3_boot_X3_doWhatIsDue : GoodIn wsX3_boot (wsV RX3 108 RX3 yX3_doWhatIsDue wsX3_doWhatIsDue) := goodIn_app (goodIn_of _ (by decide +kernel)) ggX3_boot_X3_doWhatIsDue
set_option maxRecDepth 20000 in
theorem ggX3_boot_X3_powerWent : GoodIn wsX3_boot wsX3_powerWent := goodIn_r _ [168, 5, 6, 7, 8, 9, 3, 4, 173, 174, 175, 176, 177, 178, 179, 180] (by decide +kernel) (by decide +kernel)
set_option maxRecDepth 20000 in
theorem gX3_boot_X3_powerWent : GoodIn wsX3_boot (wsV RX3 87 RX3 yX3_powerWent wsX3_powerWent) := goodIn_app (goodIn_of _ (by decide +kernel)) ggX3_boot_X3_powerWent
set_option maxRecDepth 20000 in
theorem ggX3_boot_X3_isRight : GoodIn wsX3_boot wsX3_isRight := goodIn_r _ [44, 45, 1, 46, 47, 48, 8, 49, 50, 51, 52, 53, 54, 55, 56, 19, 57, 58, 25, 26, 27, 28, 29, 59, 60, 61, 62, 63, 64, 65, 66, 67, 68, 69, 70, 71, 72, 73, 74, 75, 76, 77, 78, 79, 80, 81, 82, 83, 84, 85, 86, 173, 174, 175, 176, 177, 178, 179, 180, 181, 182, 183, 184, 185, 186, 187, 188, 189, 190, 191] (by decide +kernel) (by decide +kernel)
set_option maxRecDepth 20000 in
theorem gX3_boot_X3_isRight : GoodIn wsX3_boot (wsV RX3 111 RX3 yX3_isRight wsX3_isRight) := goodIn_app (goodIn_of _ (by decide +kernel)) ggX3_boot_X3_isRight
set_option maxRecDepth 20000 in
theorem ggX3_boot_X3_versionIn : GoodIn wsX3_boot wsX3_versionIn := goodIn_r _ [172, 1, 50, 51, 8, 52, 53, 54, 55, 56, 19, 57, 58, 25, 26, 27, 28, 29, 173, 174, 175, 176, 177, 178, 179, 180, 181, 182, 183, 184, 185, 186, 187, 188, 189] (by decide +kernel) (by decide +kernel)
set_option maxRecDepth 20000 in
theorem gX3_boot_X3_versionIn : GoodIn wsX3_boot (wsV RX3 114 RX3 yX3_versionIn wsX3_versionIn) := goodIn_app (goodIn_of _ (by decide +kernel)) ggX3_boot_X3_versionIn
theorem dX3_boot_0 : decode cX3_boot 0 = .ok (.aload_n 0, 1) := by decide +kernel
theorem dX3_boot_1 : decode cX3_boot 1 = .ok (.getfield 12, 3) := by decide +kernel
theorem dX3_boot_4 : decode cX3_boot 4 = .ok (.getfield 58, 3) := by decide +kernel
theorem dX3_boot_7 : decode cX3_boot 7 = .ok (.ifCond .eq 6, 3) := by decide +kernel
theorem dX3_boot_10 : decode cX3_boot 10 = .ok (.bipush (-9), 2) := by decide +kernel
theorem dX3_boot_12 : decode cX3_boot 12 = .ok (.ireturn, 1) := by decide +kernel
theorem dX3_boot_13 : decode cX3_boot 13 = .ok (.aload_n 0, 1) := by decide +kernel
theorem dX3_boot_14 : decode cX3_boot 14 = .ok (.invokevirtual 69, 3) := by decide +kernel
theorem dX3_boot_17 : decode cX3_boot 17 = .ok (.aload_n 0, 1) := by decide +kernel
theorem dX3_boot_18 : decode cX3_boot 18 = .ok (.aload_n 0, 1) := by decide +kernel
theorem dX3_boot_19 : decode cX3_boot 19 = .ok (.invokevirtual 105, 3) := by decide +kernel
theorem dX3_boot_22 : decode cX3_boot 22 = .ok (.invokevirtual 108, 3) := by decide +kernel
theorem dX3_boot_25 : decode cX3_boot 25 = .ok (.ifCond .ne 8, 3) := by decide +kernel
theorem dX3_boot_28 : decode cX3_boot 28 = .ok (.aload_n 0, 1) := by decide +kernel
theorem dX3_boot_29 : decode cX3_boot 29 = .ok (.invokevirtual 87, 3) := by decide +kernel
theorem dX3_boot_32 : decode cX3_boot 32 = .ok (.ireturn, 1) := by decide +kernel
theorem dX3_boot_33 : decode cX3_boot 33 = .ok (.aload_n 0, 1) := by decide +kernel
theorem dX3_boot_34 : decode cX3_boot 34 = .ok (.dup, 1) := by decide +kernel
theorem dX3_boot_35 : decode cX3_boot 35 = .ok (.getfield 38, 3) := by decide +kernel
theorem dX3_boot_38 : decode cX3_boot 38 = .ok (.iconst 1, 1) := by decide +kernel
theorem dX3_boot_39 : decode cX3_boot 39 = .ok (.iadd, 1) := by decide +kernel
theorem dX3_boot_40 : decode cX3_boot 40 = .ok (.putfield 38, 3) := by decide +kernel
theorem dX3_boot_43 : decode cX3_boot 43 = .ok (.aload_n 0, 1) := by decide +kernel
theorem dX3_boot_44 : decode cX3_boot 44 = .ok (.iconst 0, 1) := by decide +kernel
theorem dX3_boot_45 : decode cX3_boot 45 = .ok (.invokevirtual 111, 3) := by decide +kernel
theorem dX3_boot_48 : decode cX3_boot 48 = .ok (.ifCond .ne 5, 3) := by decide +kernel
theorem dX3_boot_51 : decode cX3_boot 51 = .ok (.iconst 0, 1) := by decide +kernel
theorem dX3_boot_52 : decode cX3_boot 52 = .ok (.ireturn, 1) := by decide +kernel
theorem dX3_boot_53 : decode cX3_boot 53 = .ok (.aload_n 0, 1) := by decide +kernel
theorem dX3_boot_54 : decode cX3_boot 54 = .ok (.iconst 1, 1) := by decide +kernel
theorem dX3_boot_55 : decode cX3_boot 55 = .ok (.putfield 30, 3) := by decide +kernel
theorem dX3_boot_58 : decode cX3_boot 58 = .ok (.aload_n 0, 1) := by decide +kernel
theorem dX3_boot_59 : decode cX3_boot 59 = .ok (.aload_n 0, 1) := by decide +kernel
theorem dX3_boot_60 : decode cX3_boot 60 = .ok (.iconst 0, 1) := by decide +kernel
theorem dX3_boot_61 : decode cX3_boot 61 = .ok (.invokevirtual 114, 3) := by decide +kernel
theorem dX3_boot_64 : decode cX3_boot 64 = .ok (.putfield 34, 3) := by decide +kernel
theorem dX3_boot_67 : decode cX3_boot 67 = .ok (.iconst 1, 1) := by decide +kernel
theorem dX3_boot_68 : decode cX3_boot 68 = .ok (.ireturn, 1) := by decide +kernel
set_option maxRecDepth 20000 in
theorem ggX3_cut_X0_tellToGo : GoodIn wsX3_cut wsX0_tellToGo := goodIn_r _ [6, 7, 8, 9, 18, 19, 20, 21, 22, 23, 24, 25, 26] (by decide +kernel) (by decide +kernel)
set_option maxRecDepth 20000 in
theorem gX3_cut_X0_tellToGo_n118 : GoodIn wsX3_cut (wsX0_tellToGo) := ggX3_cut_X0_tellToGo
theorem dX3_cut_0 : decode cX3_cut 0 = .ok (.iload_n 1, 1) := by decide +kernel
theorem dX3_cut_1 : decode cX3_cut 1 = .ok (.ifCond .lt 29, 3) := by decide +kernel
theorem dX3_cut_4 : decode cX3_cut 4 = .ok (.iload_n 1, 1) := by decide +kernel
theorem dX3_cut_5 : decode cX3_cut 5 = .ok (.ldc 117, 2) := by decide +kernel
theorem dX3_cut_7 : decode cX3_cut 7 = .ok (.if_icmp .gt 23, 3) := by decide +kernel
theorem dX3_cut_10 : decode cX3_cut 10 = .ok (.iload_n 2, 1) := by decide +kernel
theorem dX3_cut_11 : decode cX3_cut 11 = .ok (.ifCond .lt 19, 3) := by decide +kernel
theorem dX3_cut_14 : decode cX3_cut 14 = .ok (.iload_n 2, 1) := by decide +kernel
theorem dX3_cut_15 : decode cX3_cut 15 = .ok (.bipush 32, 2) := by decide +kernel
theorem dX3_cut_17 : decode cX3_cut 17 = .ok (.if_icmp .ge 13, 3) := by decide +kernel
theorem dX3_cut_20 : decode cX3_cut 20 = .ok (.aload_n 0, 1) := by decide +kernel
theorem dX3_cut_21 : decode cX3_cut 21 = .ok (.getfield 12, 3) := by decide +kernel
theorem dX3_cut_24 : decode cX3_cut 24 = .ok (.getfield 58, 3) := by decide +kernel
theorem dX3_cut_27 : decode cX3_cut 27 = .ok (.ifCond .eq 5, 3) := by decide +kernel
theorem dX3_cut_30 : decode cX3_cut 30 = .ok (.iconst 0, 1) := by decide +kernel
theorem dX3_cut_31 : decode cX3_cut 31 = .ok (.ireturn, 1) := by decide +kernel
theorem dX3_cut_32 : decode cX3_cut 32 = .ok (.aload_n 0, 1) := by decide +kernel
theorem dX3_cut_33 : decode cX3_cut 33 = .ok (.getfield 12, 3) := by decide +kernel
theorem dX3_cut_36 : decode cX3_cut 36 = .ok (.iload_n 1, 1) := by decide +kernel
theorem dX3_cut_37 : decode cX3_cut 37 = .ok (.iload_n 2, 1) := by decide +kernel
theorem dX3_cut_38 : decode cX3_cut 38 = .ok (.invokevirtual 118, 3) := by decide +kernel
theorem dX3_cut_41 : decode cX3_cut 41 = .ok (.iconst 1, 1) := by decide +kernel
theorem dX3_cut_42 : decode cX3_cut 42 = .ok (.ireturn, 1) := by decide +kernel
set_option maxRecDepth 20000 in
theorem ggX3_power_X0_powerComes : GoodIn wsX3_power wsX0_powerComes := goodIn_r _ [5, 6, 7, 23, 24, 25, 26, 27, 28, 29, 30, 31] (by decide +kernel) (by decide +kernel)
set_option maxRecDepth 20000 in
theorem gX3_power_X0_powerComes_n122 : GoodIn wsX3_power (wsX0_powerComes) := ggX3_power_X0_powerComes
set_option maxRecDepth 20000 in
theorem ggX3_power_X3_stopRunning : GoodIn wsX3_power wsX3_stopRunning := goodIn_r _ [12, 13, 14, 15, 16, 17, 18, 19, 20, 21, 22] (by decide +kernel) (by decide +kernel)
set_option maxRecDepth 20000 in
theorem gX3_power_X3_stopRunning : GoodIn wsX3_power (wsV RX3 69 RX3 yX3_stopRunning wsX3_stopRunning) := goodIn_app (goodIn_of _ (by decide +kernel)) ggX3_power_X3_stopRunning
theorem dX3_power_0 : decode cX3_power 0 = .ok (.aload_n 0, 1) := by decide +kernel
theorem dX3_power_1 : decode cX3_power 1 = .ok (.getfield 12, 3) := by decide +kernel
theorem dX3_power_4 : decode cX3_power 4 = .ok (.invokevirtual 122, 3) := by decide +kernel
theorem dX3_power_7 : decode cX3_power 7 = .ok (.aload_n 0, 1) := by decide +kernel
theorem dX3_power_8 : decode cX3_power 8 = .ok (.invokevirtual 69, 3) := by decide +kernel
theorem dX3_power_11 : decode cX3_power 11 = .ok (.return_, 1) := by decide +kernel
set_option maxRecDepth 20000 in
theorem ggX3_harm_X0_has : GoodIn wsX3_harm wsX0_has := goodIn_r _ [4] (by decide +kernel) (by decide +kernel)
set_option maxRecDepth 20000 in
theorem gX3_harm_X0_has_n125 : GoodIn wsX3_harm (wsX0_has) := ggX3_harm_X0_has
set_option maxRecDepth 20000 in
theorem ggX3_harm_X0_keepBits : GoodIn wsX3_harm wsX0_keepBits := goodIn_r _ [7, 8, 17, 18, 19, 20, 21, 22, 23, 24, 25] (by decide +kernel) (by decide +kernel)
set_option maxRecDepth 20000 in
theorem gX3_harm_X0_keepBits_n128 : GoodIn wsX3_harm (wsX0_keepBits) := ggX3_harm_X0_keepBits
theorem dX3_harm_0 : decode cX3_harm 0 = .ok (.iload_n 1, 1) := by decide +kernel
theorem dX3_harm_1 : decode cX3_harm 1 = .ok (.invokestatic 125, 3) := by decide +kernel
theorem dX3_harm_4 : decode cX3_harm 4 = .ok (.ifCond .ne 5, 3) := by decide +kernel
theorem dX3_harm_7 : decode cX3_harm 7 = .ok (.iconst 0, 1) := by decide +kernel
theorem dX3_harm_8 : decode cX3_harm 8 = .ok (.ireturn, 1) := by decide +kernel
theorem dX3_harm_9 : decode cX3_harm 9 = .ok (.aload_n 0, 1) := by decide +kernel
theorem dX3_harm_10 : decode cX3_harm 10 = .ok (.getfield 12, 3) := by decide +kernel
theorem dX3_harm_13 : decode cX3_harm 13 = .ok (.iload_n 1, 1) := by decide +kernel
theorem dX3_harm_14 : decode cX3_harm 14 = .ok (.iload_n 2, 1) := by decide +kernel
theorem dX3_harm_15 : decode cX3_harm 15 = .ok (.invokevirtual 128, 3) := by decide +kernel
theorem dX3_harm_18 : decode cX3_harm 18 = .ok (.iconst 1, 1) := by decide +kernel
theorem dX3_harm_19 : decode cX3_harm 19 = .ok (.ireturn, 1) := by decide +kernel
set_option maxRecDepth 20000 in
theorem ggX3_flash_X0_has : GoodIn wsX3_flash wsX0_has := goodIn_r _ [4] (by decide +kernel) (by decide +kernel)
set_option maxRecDepth 20000 in
theorem gX3_flash_X0_has_n125 : GoodIn wsX3_flash (wsX0_has) := ggX3_flash_X0_has
set_option maxRecDepth 20000 in
theorem ggX3_flash_X0_byteAt : GoodIn wsX3_flash wsX0_byteAt := goodIn_r _ [7, 8, 17, 18, 19, 20, 21, 22, 23, 24, 25] (by decide +kernel) (by decide +kernel)
set_option maxRecDepth 20000 in
theorem gX3_flash_X0_byteAt_n131 : GoodIn wsX3_flash (wsX0_byteAt) := ggX3_flash_X0_byteAt
theorem dX3_flash_0 : decode cX3_flash 0 = .ok (.iload_n 1, 1) := by decide +kernel
theorem dX3_flash_1 : decode cX3_flash 1 = .ok (.invokestatic 125, 3) := by decide +kernel
theorem dX3_flash_4 : decode cX3_flash 4 = .ok (.ifCond .eq 14, 3) := by decide +kernel
theorem dX3_flash_7 : decode cX3_flash 7 = .ok (.aload_n 0, 1) := by decide +kernel
theorem dX3_flash_8 : decode cX3_flash 8 = .ok (.getfield 12, 3) := by decide +kernel
theorem dX3_flash_11 : decode cX3_flash 11 = .ok (.iload_n 1, 1) := by decide +kernel
theorem dX3_flash_12 : decode cX3_flash 12 = .ok (.invokevirtual 131, 3) := by decide +kernel
theorem dX3_flash_15 : decode cX3_flash 15 = .ok (.goto 4, 3) := by decide +kernel
theorem dX3_flash_18 : decode cX3_flash 18 = .ok (.iconst (-1), 1) := by decide +kernel
theorem dX3_flash_19 : decode cX3_flash 19 = .ok (.ireturn, 1) := by decide +kernel
set_option maxRecDepth 20000 in
theorem ggX3_due_X3_findDue : GoodIn wsX3_due wsX3_findDue := goodIn_r _ [5, 6, 7, 8, 4, 9, 10, 11, 12, 13, 14, 15, 16, 17, 18, 19, 20, 21, 22, 23, 24, 25, 26, 27, 28, 29, 30, 31, 32, 33, 34, 35, 36, 37, 38, 39, 40, 41, 42, 43, 44, 45, 46, 47, 48, 49, 50, 51, 52, 53, 54, 55, 56, 57, 58, 59, 60, 61, 62, 63, 64, 65, 66, 67, 68, 69, 70, 71, 72, 73, 74, 75, 76, 77, 78, 79, 80, 81, 82, 83, 84, 85, 86, 87, 88, 89, 90, 91, 92, 93, 94, 95, 96, 97, 98, 99, 100, 101, 102] (by decide +kernel) (by decide +kernel)
set_option maxRecDepth 20000 in
theorem gX3_due_X3_findDue : GoodIn wsX3_due (wsV RX3 105 RX3 yX3_findDue wsX3_findDue) := goodIn_app (goodIn_of _ (by decide +kernel)) ggX3_due_X3_findDue
theorem dX3_due_0 : decode cX3_due 0 = .ok (.aload_n 0, 1) := by decide +kernel
theorem dX3_due_1 : decode cX3_due 1 = .ok (.invokevirtual 105, 3) := by decide +kernel
theorem dX3_due_4 : decode cX3_due 4 = .ok (.ireturn, 1) := by decide +kernel
set_option maxRecDepth 20000 in
theorem ggX3_image_X3_isSlot : GoodIn wsX3_image wsX3_isSlot := goodIn_r _ [4] (by decide +kernel) (by decide +kernel)
set_option maxRecDepth 20000 in
theorem gX3_image_X3_isSlot : GoodIn wsX3_image (va_wsS RX3 61 yX3_isSlot wsX3_isSlot) := goodIn_app (goodIn_of _ (by decide +kernel)) ggX3_image_X3_isSlot
set_option maxRecDepth 20000 in
theorem ggX3_image_X3_isRight : GoodIn wsX3_image wsX3_isRight := goodIn_r _ [8, 9, 10, 11, 12, 13, 3, 14, 15, 16, 17, 18, 19, 20, 21, 22, 23, 24, 25, 26, 27, 28, 29, 30, 31, 32, 33, 34, 35, 36, 37, 38, 39, 40, 41, 42, 43, 44, 45, 46, 47, 48, 49, 50, 51, 52, 53, 54, 55, 56, 57, 62, 63, 64, 65, 66, 67, 68, 69, 70, 71, 72, 73, 74, 75, 76, 77, 78, 79, 80] (by decide +kernel) (by decide +kernel)
set_option maxRecDepth 20000 in
theorem gX3_image_X3_isRight : GoodIn wsX3_image (wsV RX3 111 RX3 yX3_isRight wsX3_isRight) := goodIn_app (goodIn_of _ (by decide +kernel)) ggX3_image_X3_isRight
set_option maxRecDepth 20000 in
theorem ggX3_image_X3_lengthIn : GoodIn wsX3_image wsX3_lengthIn := goodIn_r _ [14, 10, 15, 16, 3, 17, 18, 19, 20, 21, 22, 23, 24, 25, 26, 27, 28, 29, 62, 63, 64, 65, 66, 67, 68, 69, 70, 71, 72, 73, 74, 75, 76, 77, 78] (by decide +kernel) (by decide +kernel)
set_option maxRecDepth 20000 in
theorem gX3_image_X3_lengthIn : GoodIn wsX3_image (wsV RX3 134 RX3 yX3_lengthIn wsX3_lengthIn) := goodIn_app (goodIn_of _ (by decide +kernel)) ggX3_image_X3_lengthIn
set_option maxRecDepth 20000 in
theorem ggX3_image_X3_versionIn : GoodIn wsX3_image wsX3_versionIn := goodIn_r _ [61, 10, 15, 16, 3, 17, 18, 19, 20, 21, 22, 23, 24, 25, 26, 27, 28, 29, 62, 63, 64, 65, 66, 67, 68, 69, 70, 71, 72, 73, 74, 75, 76, 77, 78] (by decide +kernel) (by decide +kernel)
set_option maxRecDepth 20000 in
theorem gX3_image_X3_versionIn : GoodIn wsX3_image (wsV RX3 114 RX3 yX3_versionIn wsX3_versionIn) := goodIn_app (goodIn_of _ (by decide +kernel)) ggX3_image_X3_versionIn
theorem dX3_image_0 : decode cX3_image 0 = .ok (.iload_n 1, 1) := by decide +kernel
theorem dX3_image_1 : decode cX3_image 1 = .ok (.invokestatic 61, 3) := by decide +kernel
theorem dX3_image_4 : decode cX3_image 4 = .ok (.ifCond .eq 12, 3) := by decide +kernel
theorem dX3_image_7 : decode cX3_image 7 = .ok (.iload_n 2, 1) := by decide +kernel
theorem dX3_image_8 : decode cX3_image 8 = .ok (.ifCond .lt 8, 3) := by decide +kernel
theorem dX3_image_11 : decode cX3_image 11 = .ok (.iload_n 2, 1) := by decide +kernel
theorem dX3_image_12 : decode cX3_image 12 = .ok (.iconst 2, 1) := by decide +kernel
theorem dX3_image_13 : decode cX3_image 13 = .ok (.if_icmp .le 5, 3) := by decide +kernel
theorem dX3_image_16 : decode cX3_image 16 = .ok (.iconst (-1), 1) := by decide +kernel
theorem dX3_image_17 : decode cX3_image 17 = .ok (.ireturn, 1) := by decide +kernel
theorem dX3_image_18 : decode cX3_image 18 = .ok (.aload_n 0, 1) := by decide +kernel
theorem dX3_image_19 : decode cX3_image 19 = .ok (.iload_n 1, 1) := by decide +kernel
theorem dX3_image_20 : decode cX3_image 20 = .ok (.invokevirtual 111, 3) := by decide +kernel
theorem dX3_image_23 : decode cX3_image 23 = .ok (.ifCond .ne 5, 3) := by decide +kernel
theorem dX3_image_26 : decode cX3_image 26 = .ok (.iconst 0, 1) := by decide +kernel
theorem dX3_image_27 : decode cX3_image 27 = .ok (.ireturn, 1) := by decide +kernel
theorem dX3_image_28 : decode cX3_image 28 = .ok (.iload_n 2, 1) := by decide +kernel
theorem dX3_image_29 : decode cX3_image 29 = .ok (.lookupswitch 35 #[(0, 27), (1, 29)], 27) := by decide +kernel
theorem dX3_image_56 : decode cX3_image 56 = .ok (.iconst 1, 1) := by decide +kernel
theorem dX3_image_57 : decode cX3_image 57 = .ok (.ireturn, 1) := by decide +kernel
theorem dX3_image_58 : decode cX3_image 58 = .ok (.aload_n 0, 1) := by decide +kernel
theorem dX3_image_59 : decode cX3_image 59 = .ok (.iload_n 1, 1) := by decide +kernel
theorem dX3_image_60 : decode cX3_image 60 = .ok (.invokevirtual 134, 3) := by decide +kernel
theorem dX3_image_63 : decode cX3_image 63 = .ok (.ireturn, 1) := by decide +kernel
theorem dX3_image_64 : decode cX3_image 64 = .ok (.aload_n 0, 1) := by decide +kernel
theorem dX3_image_65 : decode cX3_image 65 = .ok (.iload_n 1, 1) := by decide +kernel
theorem dX3_image_66 : decode cX3_image 66 = .ok (.invokevirtual 114, 3) := by decide +kernel
theorem dX3_image_69 : decode cX3_image 69 = .ok (.ireturn, 1) := by decide +kernel
set_option maxRecDepth 20000 in
theorem ggX3_trailer_X3_isSlot : GoodIn wsX3_trailer wsX3_isSlot := goodIn_r _ [5] (by decide +kernel) (by decide +kernel)
set_option maxRecDepth 20000 in
theorem gX3_trailer_X3_isSlot : GoodIn wsX3_trailer (va_wsS RX3 61 yX3_isSlot wsX3_isSlot) := goodIn_app (goodIn_of _ (by decide +kernel)) ggX3_trailer_X3_isSlot
set_option maxRecDepth 20000 in
theorem ggX3_trailer_X3_trailerOf : GoodIn wsX3_trailer wsX3_trailerOf := goodIn_r _ [8] (by decide +kernel) (by decide +kernel)
set_option maxRecDepth 20000 in
theorem gX3_trailer_X3_trailerOf : GoodIn wsX3_trailer (va_wsS RX3 137 yX3_trailerOf wsX3_trailerOf) := goodIn_app (goodIn_of _ (by decide +kernel)) ggX3_trailer_X3_trailerOf
set_option maxRecDepth 20000 in
theorem ggX3_trailer_X0_hasMagic : GoodIn wsX3_trailer wsX0_hasMagic := goodIn_r _ [12, 13, 14, 10, 15, 16, 17, 18, 19, 20, 43, 44, 45, 46, 47, 48, 49, 50, 51] (by decide +kernel) (by decide +kernel)
set_option maxRecDepth 20000 in
theorem gX3_trailer_X0_hasMagic_n102 : GoodIn wsX3_trailer (wsX0_hasMagic) := ggX3_trailer_X0_hasMagic
set_option maxRecDepth 20000 in
theorem ggX3_trailer_X3_asNumber : GoodIn wsX3_trailer wsX3_asNumber := goodIn_r _ [23] (by decide +kernel) (by decide +kernel)
set_option maxRecDepth 20000 in
theorem gX3_trailer_X3_asNumber : GoodIn wsX3_trailer (va_wsS RX3 140 yX3_asNumber wsX3_asNumber) := goodIn_app (goodIn_of _ (by decide +kernel)) ggX3_trailer_X3_asNumber
set_option maxRecDepth 20000 in
theorem ggX3_trailer_X0_markIn : GoodIn wsX3_trailer wsX0_markIn := goodIn_r _ [26, 13, 14, 10, 15, 16, 17, 18, 19, 20, 43, 44, 45, 46, 47, 48, 49, 50, 51] (by decide +kernel) (by decide +kernel)
set_option maxRecDepth 20000 in
theorem gX3_trailer_X0_markIn_n144 : GoodIn wsX3_trailer (wsX0_markIn) := ggX3_trailer_X0_markIn
set_option maxRecDepth 20000 in
theorem ggX3_trailer_X3_isMarked : GoodIn wsX3_trailer wsX3_isMarked := goodIn_r _ [30, 1, 24, 10, 25, 26, 13, 14, 15, 16, 17, 18, 19, 20, 35, 36, 37, 38, 39, 40, 41, 42, 43, 44, 45, 46, 47, 48, 49, 50, 51] (by decide +kernel) (by decide +kernel)
set_option maxRecDepth 20000 in
theorem gX3_trailer_X3_isMarked : GoodIn wsX3_trailer (wsV RX3 98 RX3 yX3_isMarked wsX3_isMarked) := goodIn_app (goodIn_of _ (by decide +kernel)) ggX3_trailer_X3_isMarked
set_option maxRecDepth 20000 in
theorem ggX3_trailer_X3_stepsSet : GoodIn wsX3_trailer wsX3_stepsSet := goodIn_r _ [34, 27, 28, 29, 4, 30, 1, 24, 10, 25, 26, 13, 14, 15, 16, 17, 18, 19, 20, 35, 36, 37, 38, 39, 40, 41, 42, 43, 44, 45, 46, 47, 48, 49, 50, 51] (by decide +kernel) (by decide +kernel)
set_option maxRecDepth 20000 in
theorem gX3_trailer_X3_stepsSet : GoodIn wsX3_trailer (wsV RX3 148 RX3 yX3_stepsSet wsX3_stepsSet) := goodIn_app (goodIn_of _ (by decide +kernel)) ggX3_trailer_X3_stepsSet
theorem dX3_trailer_0 : decode cX3_trailer 0 = .ok (.iload_n 1, 1) := by decide +kernel
theorem dX3_trailer_1 : decode cX3_trailer 1 = .ok (.invokestatic 61, 3) := by decide +kernel
theorem dX3_trailer_4 : decode cX3_trailer 4 = .ok (.ifCond .ne 5, 3) := by decide +kernel
theorem dX3_trailer_7 : decode cX3_trailer 7 = .ok (.iconst (-1), 1) := by decide +kernel
theorem dX3_trailer_8 : decode cX3_trailer 8 = .ok (.ireturn, 1) := by decide +kernel
theorem dX3_trailer_9 : decode cX3_trailer 9 = .ok (.iload_n 1, 1) := by decide +kernel
theorem dX3_trailer_10 : decode cX3_trailer 10 = .ok (.invokestatic 137, 3) := by decide +kernel
theorem dX3_trailer_13 : decode cX3_trailer 13 = .ok (.istore_n 3, 1) := by decide +kernel
theorem dX3_trailer_14 : decode cX3_trailer 14 = .ok (.iload_n 2, 1) := by decide +kernel
theorem dX3_trailer_15 : decode cX3_trailer 15 = .ok (.tableswitch 81 0 4 #[33, 45, 55, 65, 75], 33) := by decide +kernel
theorem dX3_trailer_48 : decode cX3_trailer 48 = .ok (.aload_n 0, 1) := by decide +kernel
theorem dX3_trailer_49 : decode cX3_trailer 49 = .ok (.getfield 12, 3) := by decide +kernel
theorem dX3_trailer_52 : decode cX3_trailer 52 = .ok (.iload_n 3, 1) := by decide +kernel
theorem dX3_trailer_53 : decode cX3_trailer 53 = .ok (.invokevirtual 102, 3) := by decide +kernel
theorem dX3_trailer_56 : decode cX3_trailer 56 = .ok (.invokestatic 140, 3) := by decide +kernel
theorem dX3_trailer_59 : decode cX3_trailer 59 = .ok (.ireturn, 1) := by decide +kernel
theorem dX3_trailer_60 : decode cX3_trailer 60 = .ok (.aload_n 0, 1) := by decide +kernel
theorem dX3_trailer_61 : decode cX3_trailer 61 = .ok (.getfield 12, 3) := by decide +kernel
theorem dX3_trailer_64 : decode cX3_trailer 64 = .ok (.iload_n 3, 1) := by decide +kernel
theorem dX3_trailer_65 : decode cX3_trailer 65 = .ok (.iconst 1, 1) := by decide +kernel
theorem dX3_trailer_66 : decode cX3_trailer 66 = .ok (.invokevirtual 144, 3) := by decide +kernel
theorem dX3_trailer_69 : decode cX3_trailer 69 = .ok (.ireturn, 1) := by decide +kernel
theorem dX3_trailer_70 : decode cX3_trailer 70 = .ok (.aload_n 0, 1) := by decide +kernel
theorem dX3_trailer_71 : decode cX3_trailer 71 = .ok (.iload_n 3, 1) := by decide +kernel
theorem dX3_trailer_72 : decode cX3_trailer 72 = .ok (.iconst 2, 1) := by decide +kernel
theorem dX3_trailer_73 : decode cX3_trailer 73 = .ok (.invokevirtual 98, 3) := by decide +kernel
theorem dX3_trailer_76 : decode cX3_trailer 76 = .ok (.invokestatic 140, 3) := by decide +kernel
theorem dX3_trailer_79 : decode cX3_trailer 79 = .ok (.ireturn, 1) := by decide +kernel
theorem dX3_trailer_80 : decode cX3_trailer 80 = .ok (.aload_n 0, 1) := by decide +kernel
theorem dX3_trailer_81 : decode cX3_trailer 81 = .ok (.iload_n 3, 1) := by decide +kernel
theorem dX3_trailer_82 : decode cX3_trailer 82 = .ok (.iconst 3, 1) := by decide +kernel
theorem dX3_trailer_83 : decode cX3_trailer 83 = .ok (.invokevirtual 98, 3) := by decide +kernel
theorem dX3_trailer_86 : decode cX3_trailer 86 = .ok (.invokestatic 140, 3) := by decide +kernel
theorem dX3_trailer_89 : decode cX3_trailer 89 = .ok (.ireturn, 1) := by decide +kernel
theorem dX3_trailer_90 : decode cX3_trailer 90 = .ok (.aload_n 0, 1) := by decide +kernel
theorem dX3_trailer_91 : decode cX3_trailer 91 = .ok (.iload_n 3, 1) := by decide +kernel
theorem dX3_trailer_92 : decode cX3_trailer 92 = .ok (.invokevirtual 148, 3) := by decide +kernel
theorem dX3_trailer_95 : decode cX3_trailer 95 = .ok (.ireturn, 1) := by decide +kernel
theorem dX3_trailer_96 : decode cX3_trailer 96 = .ok (.iconst (-1), 1) := by decide +kernel
theorem dX3_trailer_97 : decode cX3_trailer 97 = .ok (.ireturn, 1) := by decide +kernel
set_option maxRecDepth 20000 in
theorem ggX3_wear_X0_hasSector : GoodIn wsX3_wear wsX0_hasSector := goodIn_r _ [4] (by decide +kernel) (by decide +kernel)
set_option maxRecDepth 20000 in
theorem gX3_wear_X0_hasSector_n151 : GoodIn wsX3_wear (wsX0_hasSector) := ggX3_wear_X0_hasSector
theorem dX3_wear_0 : decode cX3_wear 0 = .ok (.iload_n 1, 1) := by decide +kernel
theorem dX3_wear_1 : decode cX3_wear 1 = .ok (.invokestatic 151, 3) := by decide +kernel
theorem dX3_wear_4 : decode cX3_wear 4 = .ok (.ifCond .eq 15, 3) := by decide +kernel
theorem dX3_wear_7 : decode cX3_wear 7 = .ok (.aload_n 0, 1) := by decide +kernel
theorem dX3_wear_8 : decode cX3_wear 8 = .ok (.getfield 12, 3) := by decide +kernel
theorem dX3_wear_11 : decode cX3_wear 11 = .ok (.getfield 154, 3) := by decide +kernel
theorem dX3_wear_14 : decode cX3_wear 14 = .ok (.iload_n 1, 1) := by decide +kernel
theorem dX3_wear_15 : decode cX3_wear 15 = .ok (.iaload, 1) := by decide +kernel
theorem dX3_wear_16 : decode cX3_wear 16 = .ok (.goto 4, 3) := by decide +kernel
theorem dX3_wear_19 : decode cX3_wear 19 = .ok (.iconst (-1), 1) := by decide +kernel
theorem dX3_wear_20 : decode cX3_wear 20 = .ok (.ireturn, 1) := by decide +kernel
set_option maxRecDepth 20000 in
theorem ggX3_look_X3_asNumber : GoodIn wsX3_look wsX3_asNumber := goodIn_r _ [10] (by decide +kernel) (by decide +kernel)
set_option maxRecDepth 20000 in
theorem gX3_look_X3_asNumber : GoodIn wsX3_look (va_wsS RX3 140 yX3_asNumber wsX3_asNumber) := goodIn_app (goodIn_of _ (by decide +kernel)) ggX3_look_X3_asNumber
set_option maxRecDepth 20000 in
theorem ggX3_look_X0_actsStillDone : GoodIn wsX3_look wsX0_actsStillDone := goodIn_r _ [14, 15, 16, 17, 26, 27, 28, 29, 30, 31, 32, 33, 34] (by decide +kernel) (by decide +kernel)
set_option maxRecDepth 20000 in
theorem gX3_look_X0_actsStillDone_n160 : GoodIn wsX3_look (wsX0_actsStillDone) := ggX3_look_X0_actsStillDone
theorem dX3_look_0 : decode cX3_look 0 = .ok (.iload_n 1, 1) := by decide +kernel
theorem dX3_look_1 : decode cX3_look 1 = .ok (.tableswitch 114 0 8 #[51, 62, 70, 75, 83, 91, 96, 101, 106], 51) := by decide +kernel
theorem dX3_look_52 : decode cX3_look 52 = .ok (.aload_n 0, 1) := by decide +kernel
theorem dX3_look_53 : decode cX3_look 53 = .ok (.getfield 12, 3) := by decide +kernel
theorem dX3_look_56 : decode cX3_look 56 = .ok (.getfield 58, 3) := by decide +kernel
theorem dX3_look_59 : decode cX3_look 59 = .ok (.invokestatic 140, 3) := by decide +kernel
theorem dX3_look_62 : decode cX3_look 62 = .ok (.ireturn, 1) := by decide +kernel
theorem dX3_look_63 : decode cX3_look 63 = .ok (.aload_n 0, 1) := by decide +kernel
theorem dX3_look_64 : decode cX3_look 64 = .ok (.getfield 30, 3) := by decide +kernel
theorem dX3_look_67 : decode cX3_look 67 = .ok (.invokestatic 140, 3) := by decide +kernel
theorem dX3_look_70 : decode cX3_look 70 = .ok (.ireturn, 1) := by decide +kernel
theorem dX3_look_71 : decode cX3_look 71 = .ok (.aload_n 0, 1) := by decide +kernel
theorem dX3_look_72 : decode cX3_look 72 = .ok (.getfield 34, 3) := by decide +kernel
theorem dX3_look_75 : decode cX3_look 75 = .ok (.ireturn, 1) := by decide +kernel
theorem dX3_look_76 : decode cX3_look 76 = .ok (.aload_n 0, 1) := by decide +kernel
theorem dX3_look_77 : decode cX3_look 77 = .ok (.getfield 12, 3) := by decide +kernel
theorem dX3_look_80 : decode cX3_look 80 = .ok (.getfield 157, 3) := by decide +kernel
theorem dX3_look_83 : decode cX3_look 83 = .ok (.ireturn, 1) := by decide +kernel
theorem dX3_look_84 : decode cX3_look 84 = .ok (.aload_n 0, 1) := by decide +kernel
theorem dX3_look_85 : decode cX3_look 85 = .ok (.getfield 12, 3) := by decide +kernel
theorem dX3_look_88 : decode cX3_look 88 = .ok (.invokevirtual 160, 3) := by decide +kernel
theorem dX3_look_91 : decode cX3_look 91 = .ok (.ireturn, 1) := by decide +kernel
theorem dX3_look_92 : decode cX3_look 92 = .ok (.aload_n 0, 1) := by decide +kernel
theorem dX3_look_93 : decode cX3_look 93 = .ok (.getfield 38, 3) := by decide +kernel
theorem dX3_look_96 : decode cX3_look 96 = .ok (.ireturn, 1) := by decide +kernel
theorem dX3_look_97 : decode cX3_look 97 = .ok (.aload_n 0, 1) := by decide +kernel
theorem dX3_look_98 : decode cX3_look 98 = .ok (.getfield 41, 3) := by decide +kernel
theorem dX3_look_101 : decode cX3_look 101 = .ok (.ireturn, 1) := by decide +kernel
theorem dX3_look_102 : decode cX3_look 102 = .ok (.aload_n 0, 1) := by decide +kernel
theorem dX3_look_103 : decode cX3_look 103 = .ok (.getfield 44, 3) := by decide +kernel
theorem dX3_look_106 : decode cX3_look 106 = .ok (.ireturn, 1) := by decide +kernel
theorem dX3_look_107 : decode cX3_look 107 = .ok (.aload_n 0, 1) := by decide +kernel
theorem dX3_look_108 : decode cX3_look 108 = .ok (.getfield 12, 3) := by decide +kernel
theorem dX3_look_111 : decode cX3_look 111 = .ok (.getfield 163, 3) := by decide +kernel
theorem dX3_look_114 : decode cX3_look 114 = .ok (.ireturn, 1) := by decide +kernel
theorem dX3_look_115 : decode cX3_look 115 = .ok (.iconst (-1), 1) := by decide +kernel
theorem dX3_look_116 : decode cX3_look 116 = .ok (.ireturn, 1) := by decide +kernel
theorem dX3_asNumber_0 : decode cX3_asNumber 0 = .ok (.iload_n 0, 1) := by decide +kernel
theorem dX3_asNumber_1 : decode cX3_asNumber 1 = .ok (.ifCond .eq 7, 3) := by decide +kernel
theorem dX3_asNumber_4 : decode cX3_asNumber 4 = .ok (.iconst 1, 1) := by decide +kernel
theorem dX3_asNumber_5 : decode cX3_asNumber 5 = .ok (.goto 4, 3) := by decide +kernel
theorem dX3_asNumber_8 : decode cX3_asNumber 8 = .ok (.iconst 0, 1) := by decide +kernel
theorem dX3_asNumber_9 : decode cX3_asNumber 9 = .ok (.ireturn, 1) := by decide +kernel
theorem dX3_isSlot_0 : decode cX3_isSlot 0 = .ok (.iload_n 0, 1) := by decide +kernel
theorem dX3_isSlot_1 : decode cX3_isSlot 1 = .ok (.ifCond .eq 8, 3) := by decide +kernel
theorem dX3_isSlot_4 : decode cX3_isSlot 4 = .ok (.iload_n 0, 1) := by decide +kernel
theorem dX3_isSlot_5 : decode cX3_isSlot 5 = .ok (.iconst 1, 1) := by decide +kernel
theorem dX3_isSlot_6 : decode cX3_isSlot 6 = .ok (.if_icmp .ne 7, 3) := by decide +kernel
theorem dX3_isSlot_9 : decode cX3_isSlot 9 = .ok (.iconst 1, 1) := by decide +kernel
theorem dX3_isSlot_10 : decode cX3_isSlot 10 = .ok (.goto 4, 3) := by decide +kernel
theorem dX3_isSlot_13 : decode cX3_isSlot 13 = .ok (.iconst 0, 1) := by decide +kernel
theorem dX3_isSlot_14 : decode cX3_isSlot 14 = .ok (.ireturn, 1) := by decide +kernel
theorem dX3_firstSectorOf_0 : decode cX3_firstSectorOf 0 = .ok (.iload_n 0, 1) := by decide +kernel
theorem dX3_firstSectorOf_1 : decode cX3_firstSectorOf 1 = .ok (.ifCond .ne 7, 3) := by decide +kernel
theorem dX3_firstSectorOf_4 : decode cX3_firstSectorOf 4 = .ok (.iconst 0, 1) := by decide +kernel
theorem dX3_firstSectorOf_5 : decode cX3_firstSectorOf 5 = .ok (.goto 4, 3) := by decide +kernel
theorem dX3_firstSectorOf_8 : decode cX3_firstSectorOf 8 = .ok (.iconst 5, 1) := by decide +kernel
theorem dX3_firstSectorOf_9 : decode cX3_firstSectorOf 9 = .ok (.ireturn, 1) := by decide +kernel
set_option maxRecDepth 20000 in
theorem ggX3_firstByteOf_X3_firstSectorOf : GoodIn wsX3_firstByteOf wsX3_firstSectorOf := goodIn_r _ [4] (by decide +kernel) (by decide +kernel)
set_option maxRecDepth 20000 in
theorem gX3_firstByteOf_X3_firstSectorOf : GoodIn wsX3_firstByteOf (va_wsS RX3 166 yX3_firstSectorOf wsX3_firstSectorOf) := goodIn_app (goodIn_of _ (by decide +kernel)) ggX3_firstByteOf_X3_firstSectorOf
theorem dX3_firstByteOf_0 : decode cX3_firstByteOf 0 = .ok (.iload_n 0, 1) := by decide +kernel
theorem dX3_firstByteOf_1 : decode cX3_firstByteOf 1 = .ok (.invokestatic 166, 3) := by decide +kernel
theorem dX3_firstByteOf_4 : decode cX3_firstByteOf 4 = .ok (.sipush 256, 3) := by decide +kernel
theorem dX3_firstByteOf_7 : decode cX3_firstByteOf 7 = .ok (.imul, 1) := by decide +kernel
theorem dX3_firstByteOf_8 : decode cX3_firstByteOf 8 = .ok (.ireturn, 1) := by decide +kernel
theorem dX3_trailerOf_0 : decode cX3_trailerOf 0 = .ok (.iload_n 0, 1) := by decide +kernel
theorem dX3_trailerOf_1 : decode cX3_trailerOf 1 = .ok (.ifCond .ne 7, 3) := by decide +kernel
theorem dX3_trailerOf_4 : decode cX3_trailerOf 4 = .ok (.iconst 4, 1) := by decide +kernel
theorem dX3_trailerOf_5 : decode cX3_trailerOf 5 = .ok (.goto 5, 3) := by decide +kernel
theorem dX3_trailerOf_8 : decode cX3_trailerOf 8 = .ok (.bipush 9, 2) := by decide +kernel
theorem dX3_trailerOf_10 : decode cX3_trailerOf 10 = .ok (.ireturn, 1) := by decide +kernel
theorem dX3_stopRunning_0 : decode cX3_stopRunning 0 = .ok (.aload_n 0, 1) := by decide +kernel
theorem dX3_stopRunning_1 : decode cX3_stopRunning 1 = .ok (.iconst 0, 1) := by decide +kernel
theorem dX3_stopRunning_2 : decode cX3_stopRunning 2 = .ok (.putfield 30, 3) := by decide +kernel
theorem dX3_stopRunning_5 : decode cX3_stopRunning 5 = .ok (.aload_n 0, 1) := by decide +kernel
theorem dX3_stopRunning_6 : decode cX3_stopRunning 6 = .ok (.iconst 0, 1) := by decide +kernel
theorem dX3_stopRunning_7 : decode cX3_stopRunning 7 = .ok (.putfield 34, 3) := by decide +kernel
theorem dX3_stopRunning_10 : decode cX3_stopRunning 10 = .ok (.return_, 1) := by decide +kernel
set_option maxRecDepth 20000 in
theorem ggX3_powerWent_X3_stopRunning : GoodIn wsX3_powerWent wsX3_stopRunning := goodIn_r _ [5, 6, 7, 8, 9, 10, 11, 12, 13, 14, 15] (by decide +kernel) (by decide +kernel)
set_option maxRecDepth 20000 in
theorem gX3_powerWent_X3_stopRunning : GoodIn wsX3_powerWent (wsV RX3 69 RX3 yX3_stopRunning wsX3_stopRunning) := goodIn_app (goodIn_of _ (by decide +kernel)) ggX3_powerWent_X3_stopRunning
theorem dX3_powerWent_0 : decode cX3_powerWent 0 = .ok (.aload_n 0, 1) := by decide +kernel
theorem dX3_powerWent_1 : decode cX3_powerWent 1 = .ok (.invokevirtual 69, 3) := by decide +kernel
theorem dX3_powerWent_4 : decode cX3_powerWent 4 = .ok (.bipush (-9), 2) := by decide +kernel
theorem dX3_powerWent_6 : decode cX3_powerWent 6 = .ok (.ireturn, 1) := by decide +kernel
set_option maxRecDepth 20000 in
theorem ggX3_lengthIn_X3_firstByteOf : GoodIn wsX3_lengthIn wsX3_firstByteOf := goodIn_r _ [5, 6, 7, 4, 8] (by decide +kernel) (by decide +kernel)
set_option maxRecDepth 20000 in
theorem gX3_lengthIn_X3_firstByteOf : GoodIn wsX3_lengthIn (va_wsS RX3 75 yX3_firstByteOf wsX3_firstByteOf) := goodIn_app (goodIn_of _ (by decide +kernel)) ggX3_lengthIn_X3_firstByteOf
set_option maxRecDepth 20000 in
theorem ggX3_lengthIn_X0_intAt : GoodIn wsX3_lengthIn wsX0_intAt := goodIn_r _ [12, 13, 14, 15, 10, 16, 17, 26, 27, 28, 29, 30, 31, 32, 33, 34] (by decide +kernel) (by decide +kernel)
set_option maxRecDepth 20000 in
theorem gX3_lengthIn_X0_intAt_n169 : GoodIn wsX3_lengthIn (wsX0_intAt) := ggX3_lengthIn_X0_intAt
theorem dX3_lengthIn_0 : decode cX3_lengthIn 0 = .ok (.aload_n 0, 1) := by decide +kernel
theorem dX3_lengthIn_1 : decode cX3_lengthIn 1 = .ok (.getfield 12, 3) := by decide +kernel
theorem dX3_lengthIn_4 : decode cX3_lengthIn 4 = .ok (.iload_n 1, 1) := by decide +kernel
theorem dX3_lengthIn_5 : decode cX3_lengthIn 5 = .ok (.invokestatic 75, 3) := by decide +kernel
theorem dX3_lengthIn_8 : decode cX3_lengthIn 8 = .ok (.invokevirtual 169, 3) := by decide +kernel
theorem dX3_lengthIn_11 : decode cX3_lengthIn 11 = .ok (.ireturn, 1) := by decide +kernel
set_option maxRecDepth 20000 in
theorem ggX3_versionIn_X3_firstByteOf : GoodIn wsX3_versionIn wsX3_firstByteOf := goodIn_r _ [5, 6, 7, 4, 8] (by decide +kernel) (by decide +kernel)
set_option maxRecDepth 20000 in
theorem gX3_versionIn_X3_firstByteOf : GoodIn wsX3_versionIn (va_wsS RX3 75 yX3_firstByteOf wsX3_firstByteOf) := goodIn_app (goodIn_of _ (by decide +kernel)) ggX3_versionIn_X3_firstByteOf
set_option maxRecDepth 20000 in
theorem ggX3_versionIn_X0_intAt : GoodIn wsX3_versionIn wsX0_intAt := goodIn_r _ [12, 13, 14, 15, 10, 16, 17, 26, 27, 28, 29, 30, 31, 32, 33, 34] (by decide +kernel) (by decide +kernel)
set_option maxRecDepth 20000 in
theorem gX3_versionIn_X0_intAt_n169 : GoodIn wsX3_versionIn (wsX0_intAt) := ggX3_versionIn_X0_intAt
theorem dX3_versionIn_0 : decode cX3_versionIn 0 = .ok (.aload_n 0, 1) := by decide +kernel
theorem dX3_versionIn_1 : decode cX3_versionIn 1 = .ok (.getfield 12, 3) := by decide +kernel
theorem dX3_versionIn_4 : decode cX3_versionIn 4 = .ok (.iload_n 1, 1) := by decide +kernel
theorem dX3_versionIn_5 : decode cX3_versionIn 5 = .ok (.invokestatic 75, 3) := by decide +kernel
theorem dX3_versionIn_8 : decode cX3_versionIn 8 = .ok (.iconst 4, 1) := by decide +kernel
theorem dX3_versionIn_9 : decode cX3_versionIn 9 = .ok (.iadd, 1) := by decide +kernel
theorem dX3_versionIn_10 : decode cX3_versionIn 10 = .ok (.invokevirtual 169, 3) := by decide +kernel
theorem dX3_versionIn_13 : decode cX3_versionIn 13 = .ok (.ireturn, 1) := by decide +kernel
set_option maxRecDepth 20000 in
theorem ggX3_isRight_X3_lengthIn : GoodIn wsX3_isRight wsX3_lengthIn := goodIn_r _ [7, 2, 8, 9, 6, 10, 11, 12, 13, 14, 15, 16, 17, 18, 19, 20, 21, 22, 51, 52, 53, 54, 55, 56, 57, 58, 59, 60, 61, 62, 63, 64, 65, 66, 67] (by decide +kernel) (by decide +kernel)
set_option maxRecDepth 20000 in
theorem gX3_isRight_X3_lengthIn : GoodIn wsX3_isRight (wsV RX3 134 RX3 yX3_lengthIn wsX3_lengthIn) := goodIn_app (goodIn_of _ (by decide +kernel)) ggX3_isRight_X3_lengthIn
set_option maxRecDepth 20000 in
theorem ggX3_isRight_X3_firstByteOf : GoodIn wsX3_isRight wsX3_firstByteOf := goodIn_r _ [10, 11, 12, 6, 13] (by decide +kernel) (by decide +kernel)
set_option maxRecDepth 20000 in
theorem gX3_isRight_X3_firstByteOf : GoodIn wsX3_isRight (va_wsS RX3 75 yX3_firstByteOf wsX3_firstByteOf) := goodIn_app (goodIn_of _ (by decide +kernel)) ggX3_isRight_X3_firstByteOf
set_option maxRecDepth 20000 in
theorem ggX3_isRight_X1_digest : GoodIn wsX3_isRight wsX1_digest := goodIn_r _ [26, 27, 28, 29, 30, 31, 24, 32, 33, 34, 35, 36, 37, 38, 39, 40, 41, 42, 43, 44, 45, 46, 47, 68, 69] (by decide +kernel) (by decide +kernel)
set_option maxRecDepth 20000 in
theorem gX3_isRight_X1_digest_n173 : GoodIn wsX3_isRight (wsX1_digest) := ggX3_isRight_X1_digest
set_option maxRecDepth 20000 in
theorem ggX3_isRight_X0_byteAt : GoodIn wsX3_isRight wsX0_byteAt := goodIn_r _ [21, 22, 59, 60, 61, 62, 63, 64, 65, 66, 67] (by decide +kernel) (by decide +kernel)
set_option maxRecDepth 20000 in
theorem gX3_isRight_X0_byteAt_n131 : GoodIn wsX3_isRight (wsX0_byteAt) := ggX3_isRight_X0_byteAt
set_option maxRecDepth 20000 in
theorem ggX3_isRight_X1_digestByte : GoodIn wsX3_isRight wsX1_digestByte := goodIn_r _ [50, 27, 68, 69] (by decide +kernel) (by decide +kernel)
set_option maxRecDepth 20000 in
theorem gX3_isRight_X1_digestByte_n177 : GoodIn wsX3_isRight (wsX1_digestByte) := ggX3_isRight_X1_digestByte
theorem dX3_isRight_0 : decode cX3_isRight 0 = .ok (.aload_n 0, 1) := by decide +kernel
theorem dX3_isRight_1 : decode cX3_isRight 1 = .ok (.iload_n 1, 1) := by decide +kernel
theorem dX3_isRight_2 : decode cX3_isRight 2 = .ok (.invokevirtual 134, 3) := by decide +kernel
theorem dX3_isRight_5 : decode cX3_isRight 5 = .ok (.istore_n 2, 1) := by decide +kernel
theorem dX3_isRight_6 : decode cX3_isRight 6 = .ok (.iload_n 2, 1) := by decide +kernel
theorem dX3_isRight_7 : decode cX3_isRight 7 = .ok (.ifCond .lt 10, 3) := by decide +kernel
theorem dX3_isRight_10 : decode cX3_isRight 10 = .ok (.iload_n 2, 1) := by decide +kernel
theorem dX3_isRight_11 : decode cX3_isRight 11 = .ok (.sipush 984, 3) := by decide +kernel
theorem dX3_isRight_14 : decode cX3_isRight 14 = .ok (.if_icmp .le 5, 3) := by decide +kernel
theorem dX3_isRight_17 : decode cX3_isRight 17 = .ok (.iconst 0, 1) := by decide +kernel
theorem dX3_isRight_18 : decode cX3_isRight 18 = .ok (.ireturn, 1) := by decide +kernel
theorem dX3_isRight_19 : decode cX3_isRight 19 = .ok (.iload_n 1, 1) := by decide +kernel
theorem dX3_isRight_20 : decode cX3_isRight 20 = .ok (.invokestatic 75, 3) := by decide +kernel
theorem dX3_isRight_23 : decode cX3_isRight 23 = .ok (.istore_n 3, 1) := by decide +kernel
theorem dX3_isRight_24 : decode cX3_isRight 24 = .ok (.bipush 8, 2) := by decide +kernel
theorem dX3_isRight_26 : decode cX3_isRight 26 = .ok (.iload_n 2, 1) := by decide +kernel
theorem dX3_isRight_27 : decode cX3_isRight 27 = .ok (.iadd, 1) := by decide +kernel
theorem dX3_isRight_28 : decode cX3_isRight 28 = .ok (.istore 4, 2) := by decide +kernel
theorem dX3_isRight_30 : decode cX3_isRight 30 = .ok (.aload_n 0, 1) := by decide +kernel
theorem dX3_isRight_31 : decode cX3_isRight 31 = .ok (.getfield 26, 3) := by decide +kernel
theorem dX3_isRight_34 : decode cX3_isRight 34 = .ok (.aload_n 0, 1) := by decide +kernel
theorem dX3_isRight_35 : decode cX3_isRight 35 = .ok (.getfield 12, 3) := by decide +kernel
theorem dX3_isRight_38 : decode cX3_isRight 38 = .ok (.getfield 172, 3) := by decide +kernel
theorem dX3_isRight_41 : decode cX3_isRight 41 = .ok (.iload_n 3, 1) := by decide +kernel
theorem dX3_isRight_42 : decode cX3_isRight 42 = .ok (.iload 4, 2) := by decide +kernel
theorem dX3_isRight_44 : decode cX3_isRight 44 = .ok (.invokevirtual 173, 3) := by decide +kernel
theorem dX3_isRight_47 : decode cX3_isRight 47 = .ok (.iconst 0, 1) := by decide +kernel
theorem dX3_isRight_48 : decode cX3_isRight 48 = .ok (.istore 5, 2) := by decide +kernel
theorem dX3_isRight_50 : decode cX3_isRight 50 = .ok (.iload 5, 2) := by decide +kernel
theorem dX3_isRight_52 : decode cX3_isRight 52 = .ok (.bipush 32, 2) := by decide +kernel
theorem dX3_isRight_54 : decode cX3_isRight 54 = .ok (.if_icmp .ge 37, 3) := by decide +kernel
theorem dX3_isRight_57 : decode cX3_isRight 57 = .ok (.aload_n 0, 1) := by decide +kernel
theorem dX3_isRight_58 : decode cX3_isRight 58 = .ok (.getfield 12, 3) := by decide +kernel
theorem dX3_isRight_61 : decode cX3_isRight 61 = .ok (.iload_n 3, 1) := by decide +kernel
theorem dX3_isRight_62 : decode cX3_isRight 62 = .ok (.iload 4, 2) := by decide +kernel
theorem dX3_isRight_64 : decode cX3_isRight 64 = .ok (.iadd, 1) := by decide +kernel
theorem dX3_isRight_65 : decode cX3_isRight 65 = .ok (.iload 5, 2) := by decide +kernel
theorem dX3_isRight_67 : decode cX3_isRight 67 = .ok (.iadd, 1) := by decide +kernel
theorem dX3_isRight_68 : decode cX3_isRight 68 = .ok (.invokevirtual 131, 3) := by decide +kernel
theorem dX3_isRight_71 : decode cX3_isRight 71 = .ok (.aload_n 0, 1) := by decide +kernel
theorem dX3_isRight_72 : decode cX3_isRight 72 = .ok (.getfield 26, 3) := by decide +kernel
theorem dX3_isRight_75 : decode cX3_isRight 75 = .ok (.iload 5, 2) := by decide +kernel
theorem dX3_isRight_77 : decode cX3_isRight 77 = .ok (.invokevirtual 177, 3) := by decide +kernel
theorem dX3_isRight_80 : decode cX3_isRight 80 = .ok (.if_icmp .eq 5, 3) := by decide +kernel
theorem dX3_isRight_83 : decode cX3_isRight 83 = .ok (.iconst 0, 1) := by decide +kernel
theorem dX3_isRight_84 : decode cX3_isRight 84 = .ok (.ireturn, 1) := by decide +kernel
theorem dX3_isRight_85 : decode cX3_isRight 85 = .ok (.iinc 5 1, 3) := by decide +kernel
theorem dX3_isRight_88 : decode cX3_isRight 88 = .ok (.goto (-38), 3) := by decide +kernel
theorem dX3_isRight_91 : decode cX3_isRight 91 = .ok (.iconst 1, 1) := by decide +kernel
theorem dX3_isRight_92 : decode cX3_isRight 92 = .ok (.ireturn, 1) := by decide +kernel
set_option maxRecDepth 20000 in
theorem ggX3_isMarked_X0_markIn : GoodIn wsX3_isMarked wsX0_markIn := goodIn_r _ [5, 6, 7, 3, 8, 9, 10, 11, 12, 13, 22, 23, 24, 25, 26, 27, 28, 29, 30] (by decide +kernel) (by decide +kernel)
set_option maxRecDepth 20000 in
theorem gX3_isMarked_X0_markIn_n144 : GoodIn wsX3_isMarked (wsX0_markIn) := ggX3_isMarked_X0_markIn
theorem dX3_isMarked_0 : decode cX3_isMarked 0 = .ok (.aload_n 0, 1) := by decide +kernel
theorem dX3_isMarked_1 : decode cX3_isMarked 1 = .ok (.getfield 12, 3) := by decide +kernel
theorem dX3_isMarked_4 : decode cX3_isMarked 4 = .ok (.iload_n 1, 1) := by decide +kernel
theorem dX3_isMarked_5 : decode cX3_isMarked 5 = .ok (.iload_n 2, 1) := by decide +kernel
theorem dX3_isMarked_6 : decode cX3_isMarked 6 = .ok (.invokevirtual 144, 3) := by decide +kernel
theorem dX3_isMarked_9 : decode cX3_isMarked 9 = .ok (.iconst 1, 1) := by decide +kernel
theorem dX3_isMarked_10 : decode cX3_isMarked 10 = .ok (.if_icmp .ne 7, 3) := by decide +kernel
theorem dX3_isMarked_13 : decode cX3_isMarked 13 = .ok (.iconst 1, 1) := by decide +kernel
theorem dX3_isMarked_14 : decode cX3_isMarked 14 = .ok (.goto 4, 3) := by decide +kernel
theorem dX3_isMarked_17 : decode cX3_isMarked 17 = .ok (.iconst 0, 1) := by decide +kernel
theorem dX3_isMarked_18 : decode cX3_isMarked 18 = .ok (.ireturn, 1) := by decide +kernel
set_option maxRecDepth 20000 in
theorem ggX3_writeMagic_X0_unitAt : GoodIn wsX3_writeMagic wsX0_unitAt := goodIn_r _ [5] (by decide +kernel) (by decide +kernel)
set_option maxRecDepth 20000 in
theorem gX3_writeMagic_X0_unitAt_n180 : GoodIn wsX3_writeMagic (wsX0_unitAt) := ggX3_writeMagic_X0_unitAt
set_option maxRecDepth 20000 in
theorem ggX3_writeMagic_X0_writeRow : GoodIn wsX3_writeMagic wsX0_writeRow := goodIn_r _ [8, 9, 10, 11, 4, 12, 13, 14, 15, 16, 17, 18, 19, 20, 21, 22, 23, 24, 25, 26, 27, 28, 29, 30, 31, 40, 41, 42, 43, 44, 45, 46, 47, 48] (by decide +kernel) (by decide +kernel)
set_option maxRecDepth 20000 in
theorem gX3_writeMagic_X0_writeRow_n83 : GoodIn wsX3_writeMagic (wsX0_writeRow) := ggX3_writeMagic_X0_writeRow
theorem dX3_writeMagic_0 : decode cX3_writeMagic 0 = .ok (.aload_n 0, 1) := by decide +kernel
theorem dX3_writeMagic_1 : decode cX3_writeMagic 1 = .ok (.getfield 12, 3) := by decide +kernel
theorem dX3_writeMagic_4 : decode cX3_writeMagic 4 = .ok (.iload_n 1, 1) := by decide +kernel
theorem dX3_writeMagic_5 : decode cX3_writeMagic 5 = .ok (.iconst 0, 1) := by decide +kernel
theorem dX3_writeMagic_6 : decode cX3_writeMagic 6 = .ok (.invokestatic 180, 3) := by decide +kernel
theorem dX3_writeMagic_9 : decode cX3_writeMagic 9 = .ok (.getstatic 183, 3) := by decide +kernel
theorem dX3_writeMagic_12 : decode cX3_writeMagic 12 = .ok (.bipush 8, 2) := by decide +kernel
theorem dX3_writeMagic_14 : decode cX3_writeMagic 14 = .ok (.invokevirtual 83, 3) := by decide +kernel
theorem dX3_writeMagic_17 : decode cX3_writeMagic 17 = .ok (.ireturn, 1) := by decide +kernel
set_option maxRecDepth 20000 in
theorem ggX3_stepsSet_X3_isMarked : GoodIn wsX3_stepsSet wsX3_isMarked := goodIn_r _ [5, 6, 7, 8, 9, 10, 11, 12, 13, 14, 15, 16, 17, 18, 19, 20, 21, 22, 23, 24, 25, 26, 27, 28, 29, 30, 31, 32, 33, 34, 35] (by decide +kernel) (by decide +kernel)
set_option maxRecDepth 20000 in
theorem gX3_stepsSet_X3_isMarked : GoodIn wsX3_stepsSet (wsV RX3 98 RX3 yX3_isMarked wsX3_isMarked) := goodIn_app (goodIn_of _ (by decide +kernel)) ggX3_stepsSet_X3_isMarked
theorem dX3_stepsSet_0 : decode cX3_stepsSet 0 = .ok (.iconst 0, 1) := by decide +kernel
theorem dX3_stepsSet_1 : decode cX3_stepsSet 1 = .ok (.istore_n 2, 1) := by decide +kernel
theorem dX3_stepsSet_2 : decode cX3_stepsSet 2 = .ok (.iconst 0, 1) := by decide +kernel
theorem dX3_stepsSet_3 : decode cX3_stepsSet 3 = .ok (.istore_n 3, 1) := by decide +kernel
theorem dX3_stepsSet_4 : decode cX3_stepsSet 4 = .ok (.iload_n 3, 1) := by decide +kernel
theorem dX3_stepsSet_5 : decode cX3_stepsSet 5 = .ok (.bipush 12, 2) := by decide +kernel
theorem dX3_stepsSet_7 : decode cX3_stepsSet 7 = .ok (.if_icmp .ge 23, 3) := by decide +kernel
theorem dX3_stepsSet_10 : decode cX3_stepsSet 10 = .ok (.aload_n 0, 1) := by decide +kernel
theorem dX3_stepsSet_11 : decode cX3_stepsSet 11 = .ok (.iload_n 1, 1) := by decide +kernel
theorem dX3_stepsSet_12 : decode cX3_stepsSet 12 = .ok (.iconst 4, 1) := by decide +kernel
theorem dX3_stepsSet_13 : decode cX3_stepsSet 13 = .ok (.iload_n 3, 1) := by decide +kernel
theorem dX3_stepsSet_14 : decode cX3_stepsSet 14 = .ok (.iadd, 1) := by decide +kernel
theorem dX3_stepsSet_15 : decode cX3_stepsSet 15 = .ok (.invokevirtual 98, 3) := by decide +kernel
theorem dX3_stepsSet_18 : decode cX3_stepsSet 18 = .ok (.ifCond .eq 6, 3) := by decide +kernel
theorem dX3_stepsSet_21 : decode cX3_stepsSet 21 = .ok (.iinc 2 1, 3) := by decide +kernel
theorem dX3_stepsSet_24 : decode cX3_stepsSet 24 = .ok (.iinc 3 1, 3) := by decide +kernel
theorem dX3_stepsSet_27 : decode cX3_stepsSet 27 = .ok (.goto (-23), 3) := by decide +kernel
theorem dX3_stepsSet_30 : decode cX3_stepsSet 30 = .ok (.iload_n 2, 1) := by decide +kernel
theorem dX3_stepsSet_31 : decode cX3_stepsSet 31 = .ok (.ireturn, 1) := by decide +kernel
set_option maxRecDepth 20000 in
theorem ggX3_isUnderWay_X0_markIn : GoodIn wsX3_isUnderWay wsX0_markIn := goodIn_r _ [5, 6, 7, 3, 8, 9, 10, 11, 12, 13, 27, 28, 29, 30, 31, 32, 33, 34, 35] (by decide +kernel) (by decide +kernel)
set_option maxRecDepth 20000 in
theorem gX3_isUnderWay_X0_markIn_n144 : GoodIn wsX3_isUnderWay (wsX0_markIn) := ggX3_isUnderWay_X0_markIn
set_option maxRecDepth 20000 in
theorem ggX3_isUnderWay_X3_isMarked : GoodIn wsX3_isUnderWay wsX3_isMarked := goodIn_r _ [18, 1, 2, 3, 4, 5, 6, 7, 8, 9, 10, 11, 12, 13, 19, 20, 21, 22, 23, 24, 25, 26, 27, 28, 29, 30, 31, 32, 33, 34, 35] (by decide +kernel) (by decide +kernel)
set_option maxRecDepth 20000 in
theorem gX3_isUnderWay_X3_isMarked : GoodIn wsX3_isUnderWay (wsV RX3 98 RX3 yX3_isMarked wsX3_isMarked) := goodIn_app (goodIn_of _ (by decide +kernel)) ggX3_isUnderWay_X3_isMarked
theorem dX3_isUnderWay_0 : decode cX3_isUnderWay 0 = .ok (.aload_n 0, 1) := by decide +kernel
theorem dX3_isUnderWay_1 : decode cX3_isUnderWay 1 = .ok (.getfield 12, 3) := by decide +kernel
theorem dX3_isUnderWay_4 : decode cX3_isUnderWay 4 = .ok (.iconst 4, 1) := by decide +kernel
theorem dX3_isUnderWay_5 : decode cX3_isUnderWay 5 = .ok (.iconst 1, 1) := by decide +kernel
theorem dX3_isUnderWay_6 : decode cX3_isUnderWay 6 = .ok (.invokevirtual 144, 3) := by decide +kernel
theorem dX3_isUnderWay_9 : decode cX3_isUnderWay 9 = .ok (.ifCond .eq 16, 3) := by decide +kernel
theorem dX3_isUnderWay_12 : decode cX3_isUnderWay 12 = .ok (.aload_n 0, 1) := by decide +kernel
theorem dX3_isUnderWay_13 : decode cX3_isUnderWay 13 = .ok (.iconst 4, 1) := by decide +kernel
theorem dX3_isUnderWay_14 : decode cX3_isUnderWay 14 = .ok (.iconst 2, 1) := by decide +kernel
theorem dX3_isUnderWay_15 : decode cX3_isUnderWay 15 = .ok (.invokevirtual 98, 3) := by decide +kernel
theorem dX3_isUnderWay_18 : decode cX3_isUnderWay 18 = .ok (.ifCond .ne 7, 3) := by decide +kernel
theorem dX3_isUnderWay_21 : decode cX3_isUnderWay 21 = .ok (.iconst 1, 1) := by decide +kernel
theorem dX3_isUnderWay_22 : decode cX3_isUnderWay 22 = .ok (.goto 4, 3) := by decide +kernel
theorem dX3_isUnderWay_25 : decode cX3_isUnderWay 25 = .ok (.iconst 0, 1) := by decide +kernel
theorem dX3_isUnderWay_26 : decode cX3_isUnderWay 26 = .ok (.ireturn, 1) := by decide +kernel
set_option maxRecDepth 20000 in
theorem ggX3_findDue_X3_isUnderWay : GoodIn wsX3_findDue wsX3_isUnderWay := goodIn_r _ [5, 6, 7, 8, 9, 10, 11, 12, 13, 14, 15, 16, 17, 18, 19, 20, 21, 4, 22, 80, 81, 82, 83, 84, 85, 86, 87, 88, 89, 90, 91, 92, 93, 94, 95, 96] (by decide +kernel) (by decide +kernel)
set_option maxRecDepth 20000 in
theorem gX3_findDue_X3_isUnderWay : GoodIn wsX3_findDue (wsV RX3 65 RX3 yX3_isUnderWay wsX3_isUnderWay) := goodIn_app (goodIn_of _ (by decide +kernel)) ggX3_findDue_X3_isUnderWay
set_option maxRecDepth 20000 in
theorem ggX3_findDue_X3_kindAskedFor : GoodIn wsX3_findDue wsX3_kindAskedFor := goodIn_r _ [26, 6, 7, 8, 9, 10, 11, 12, 13, 14, 15, 16, 17, 18, 27, 28, 29, 19, 20, 21, 4, 22, 80, 81, 82, 83, 84, 85, 86, 87, 88, 89, 90, 91, 92, 93, 94, 95, 96] (by decide +kernel) (by decide +kernel)
set_option maxRecDepth 20000 in
theorem gX3_findDue_X3_kindAskedFor : GoodIn wsX3_findDue (wsV RX3 186 RX3 yX3_kindAskedFor wsX3_kindAskedFor) := goodIn_app (goodIn_of _ (by decide +kernel)) ggX3_findDue_X3_kindAskedFor
set_option maxRecDepth 20000 in
theorem ggX3_findDue_X3_isRight : GoodIn wsX3_findDue wsX3_isRight := goodIn_r _ [33, 34, 6, 35, 36, 37, 4, 38, 39, 40, 41, 42, 43, 44, 45, 8, 46, 47, 14, 15, 16, 17, 18, 48, 49, 50, 51, 52, 53, 54, 55, 56, 57, 58, 59, 60, 61, 62, 63, 64, 65, 66, 67, 68, 69, 70, 71, 72, 73, 74, 75, 80, 81, 82, 83, 84, 85, 86, 87, 88, 89, 90, 91, 92, 93, 94, 95, 96, 97, 98] (by decide +kernel) (by decide +kernel)
set_option maxRecDepth 20000 in
theorem gX3_findDue_X3_isRight : GoodIn wsX3_findDue (wsV RX3 111 RX3 yX3_isRight wsX3_isRight) := goodIn_app (goodIn_of _ (by decide +kernel)) ggX3_findDue_X3_isRight
set_option maxRecDepth 20000 in
theorem ggX3_findDue_X3_isTrialUnconfirmed : GoodIn wsX3_findDue wsX3_isTrialUnconfirmed := goodIn_r _ [79, 6, 27, 8, 28, 29, 11, 12, 13, 14, 15, 16, 17, 18, 7, 9, 10, 19, 20, 21, 4, 22, 80, 81, 82, 83, 84, 85, 86, 87, 88, 89, 90, 91, 92, 93, 94, 95, 96] (by decide +kernel) (by decide +kernel)
set_option maxRecDepth 20000 in
theorem gX3_findDue_X3_isTrialUnconfirmed : GoodIn wsX3_findDue (wsV RX3 189 RX3 yX3_isTrialUnconfirmed wsX3_isTrialUnconfirmed) := goodIn_app (goodIn_of _ (by decide +kernel)) ggX3_findDue_X3_isTrialUnconfirmed
theorem dX3_findDue_0 : decode cX3_findDue 0 = .ok (.aload_n 0, 1) := by decide +kernel
theorem dX3_findDue_1 : decode cX3_findDue 1 = .ok (.invokevirtual 65, 3) := by decide +kernel
theorem dX3_findDue_4 : decode cX3_findDue 4 = .ok (.ifCond .eq 5, 3) := by decide +kernel
theorem dX3_findDue_7 : decode cX3_findDue 7 = .ok (.iconst 5, 1) := by decide +kernel
theorem dX3_findDue_8 : decode cX3_findDue 8 = .ok (.ireturn, 1) := by decide +kernel
theorem dX3_findDue_9 : decode cX3_findDue 9 = .ok (.aload_n 0, 1) := by decide +kernel
theorem dX3_findDue_10 : decode cX3_findDue 10 = .ok (.invokevirtual 186, 3) := by decide +kernel
theorem dX3_findDue_13 : decode cX3_findDue 13 = .ok (.istore_n 1, 1) := by decide +kernel
theorem dX3_findDue_14 : decode cX3_findDue 14 = .ok (.iload_n 1, 1) := by decide +kernel
theorem dX3_findDue_15 : decode cX3_findDue 15 = .ok (.iconst 3, 1) := by decide +kernel
theorem dX3_findDue_16 : decode cX3_findDue 16 = .ok (.if_icmp .ne 5, 3) := by decide +kernel
theorem dX3_findDue_19 : decode cX3_findDue 19 = .ok (.iconst 3, 1) := by decide +kernel
theorem dX3_findDue_20 : decode cX3_findDue 20 = .ok (.ireturn, 1) := by decide +kernel
theorem dX3_findDue_21 : decode cX3_findDue 21 = .ok (.iload_n 1, 1) := by decide +kernel
theorem dX3_findDue_22 : decode cX3_findDue 22 = .ok (.ifCond .eq 17, 3) := by decide +kernel
theorem dX3_findDue_25 : decode cX3_findDue 25 = .ok (.aload_n 0, 1) := by decide +kernel
theorem dX3_findDue_26 : decode cX3_findDue 26 = .ok (.iconst 1, 1) := by decide +kernel
theorem dX3_findDue_27 : decode cX3_findDue 27 = .ok (.invokevirtual 111, 3) := by decide +kernel
theorem dX3_findDue_30 : decode cX3_findDue 30 = .ok (.ifCond .eq 7, 3) := by decide +kernel
theorem dX3_findDue_33 : decode cX3_findDue 33 = .ok (.iload_n 1, 1) := by decide +kernel
theorem dX3_findDue_34 : decode cX3_findDue 34 = .ok (.goto 4, 3) := by decide +kernel
theorem dX3_findDue_37 : decode cX3_findDue 37 = .ok (.iconst 4, 1) := by decide +kernel
theorem dX3_findDue_38 : decode cX3_findDue 38 = .ok (.ireturn, 1) := by decide +kernel
theorem dX3_findDue_39 : decode cX3_findDue 39 = .ok (.aload_n 0, 1) := by decide +kernel
theorem dX3_findDue_40 : decode cX3_findDue 40 = .ok (.invokevirtual 189, 3) := by decide +kernel
theorem dX3_findDue_43 : decode cX3_findDue 43 = .ok (.ifCond .eq 7, 3) := by decide +kernel
theorem dX3_findDue_46 : decode cX3_findDue 46 = .ok (.iconst 3, 1) := by decide +kernel
theorem dX3_findDue_47 : decode cX3_findDue 47 = .ok (.goto 4, 3) := by decide +kernel
theorem dX3_findDue_50 : decode cX3_findDue 50 = .ok (.iconst 0, 1) := by decide +kernel
theorem dX3_findDue_51 : decode cX3_findDue 51 = .ok (.ireturn, 1) := by decide +kernel
set_option maxRecDepth 20000 in
theorem ggX3_kindAskedFor_X0_markIn : GoodIn wsX3_kindAskedFor wsX0_markIn := goodIn_r _ [5, 6, 7, 3, 8, 9, 10, 11, 12, 13, 30, 31, 32, 33, 34, 35, 36, 37, 38] (by decide +kernel) (by decide +kernel)
set_option maxRecDepth 20000 in
theorem gX3_kindAskedFor_X0_markIn_n144 : GoodIn wsX3_kindAskedFor (wsX0_markIn) := ggX3_kindAskedFor_X0_markIn
set_option maxRecDepth 20000 in
theorem ggX3_kindAskedFor_X0_hasMagic : GoodIn wsX3_kindAskedFor wsX0_hasMagic := goodIn_r _ [16, 6, 7, 3, 8, 9, 10, 11, 12, 13, 30, 31, 32, 33, 34, 35, 36, 37, 38] (by decide +kernel) (by decide +kernel)
set_option maxRecDepth 20000 in
theorem gX3_kindAskedFor_X0_hasMagic_n102 : GoodIn wsX3_kindAskedFor (wsX0_hasMagic) := ggX3_kindAskedFor_X0_hasMagic
set_option maxRecDepth 20000 in
theorem ggX3_kindAskedFor_X3_isMarked : GoodIn wsX3_kindAskedFor wsX3_isMarked := goodIn_r _ [21, 1, 2, 3, 4, 5, 6, 7, 8, 9, 10, 11, 12, 13, 22, 23, 24, 25, 26, 27, 28, 29, 30, 31, 32, 33, 34, 35, 36, 37, 38] (by decide +kernel) (by decide +kernel)
set_option maxRecDepth 20000 in
theorem gX3_kindAskedFor_X3_isMarked : GoodIn wsX3_kindAskedFor (wsV RX3 98 RX3 yX3_isMarked wsX3_isMarked) := goodIn_app (goodIn_of _ (by decide +kernel)) ggX3_kindAskedFor_X3_isMarked
theorem dX3_kindAskedFor_0 : decode cX3_kindAskedFor 0 = .ok (.aload_n 0, 1) := by decide +kernel
theorem dX3_kindAskedFor_1 : decode cX3_kindAskedFor 1 = .ok (.getfield 12, 3) := by decide +kernel
theorem dX3_kindAskedFor_4 : decode cX3_kindAskedFor 4 = .ok (.bipush 9, 2) := by decide +kernel
theorem dX3_kindAskedFor_6 : decode cX3_kindAskedFor 6 = .ok (.iconst 1, 1) := by decide +kernel
theorem dX3_kindAskedFor_7 : decode cX3_kindAskedFor 7 = .ok (.invokevirtual 144, 3) := by decide +kernel
theorem dX3_kindAskedFor_10 : decode cX3_kindAskedFor 10 = .ok (.istore_n 1, 1) := by decide +kernel
theorem dX3_kindAskedFor_11 : decode cX3_kindAskedFor 11 = .ok (.iload_n 1, 1) := by decide +kernel
theorem dX3_kindAskedFor_12 : decode cX3_kindAskedFor 12 = .ok (.ifCond .eq 5, 3) := by decide +kernel
theorem dX3_kindAskedFor_15 : decode cX3_kindAskedFor 15 = .ok (.iload_n 1, 1) := by decide +kernel
theorem dX3_kindAskedFor_16 : decode cX3_kindAskedFor 16 = .ok (.ireturn, 1) := by decide +kernel
theorem dX3_kindAskedFor_17 : decode cX3_kindAskedFor 17 = .ok (.aload_n 0, 1) := by decide +kernel
theorem dX3_kindAskedFor_18 : decode cX3_kindAskedFor 18 = .ok (.getfield 12, 3) := by decide +kernel
theorem dX3_kindAskedFor_21 : decode cX3_kindAskedFor 21 = .ok (.bipush 9, 2) := by decide +kernel
theorem dX3_kindAskedFor_23 : decode cX3_kindAskedFor 23 = .ok (.invokevirtual 102, 3) := by decide +kernel
theorem dX3_kindAskedFor_26 : decode cX3_kindAskedFor 26 = .ok (.ifCond .ne 5, 3) := by decide +kernel
theorem dX3_kindAskedFor_29 : decode cX3_kindAskedFor 29 = .ok (.iconst 0, 1) := by decide +kernel
theorem dX3_kindAskedFor_30 : decode cX3_kindAskedFor 30 = .ok (.ireturn, 1) := by decide +kernel
theorem dX3_kindAskedFor_31 : decode cX3_kindAskedFor 31 = .ok (.aload_n 0, 1) := by decide +kernel
theorem dX3_kindAskedFor_32 : decode cX3_kindAskedFor 32 = .ok (.bipush 9, 2) := by decide +kernel
theorem dX3_kindAskedFor_34 : decode cX3_kindAskedFor 34 = .ok (.iconst 3, 1) := by decide +kernel
theorem dX3_kindAskedFor_35 : decode cX3_kindAskedFor 35 = .ok (.invokevirtual 98, 3) := by decide +kernel
theorem dX3_kindAskedFor_38 : decode cX3_kindAskedFor 38 = .ok (.ifCond .eq 7, 3) := by decide +kernel
theorem dX3_kindAskedFor_41 : decode cX3_kindAskedFor 41 = .ok (.iconst 2, 1) := by decide +kernel
theorem dX3_kindAskedFor_42 : decode cX3_kindAskedFor 42 = .ok (.goto 4, 3) := by decide +kernel
theorem dX3_kindAskedFor_45 : decode cX3_kindAskedFor 45 = .ok (.iconst 1, 1) := by decide +kernel
theorem dX3_kindAskedFor_46 : decode cX3_kindAskedFor 46 = .ok (.ireturn, 1) := by decide +kernel
set_option maxRecDepth 20000 in
theorem ggX3_isTrialUnconfirmed_X0_hasMagic : GoodIn wsX3_isTrialUnconfirmed wsX0_hasMagic := goodIn_r _ [5, 6, 7, 3, 8, 9, 10, 11, 12, 13, 30, 31, 32, 33, 34, 35, 36, 37, 38] (by decide +kernel) (by decide +kernel)
set_option maxRecDepth 20000 in
theorem gX3_isTrialUnconfirmed_X0_hasMagic_n102 : GoodIn wsX3_isTrialUnconfirmed (wsX0_hasMagic) := ggX3_isTrialUnconfirmed_X0_hasMagic
set_option maxRecDepth 20000 in
theorem ggX3_isTrialUnconfirmed_X0_markIn : GoodIn wsX3_isTrialUnconfirmed wsX0_markIn := goodIn_r _ [16, 6, 7, 3, 8, 9, 10, 11, 12, 13, 30, 31, 32, 33, 34, 35, 36, 37, 38] (by decide +kernel) (by decide +kernel)
set_option maxRecDepth 20000 in
theorem gX3_isTrialUnconfirmed_X0_markIn_n144 : GoodIn wsX3_isTrialUnconfirmed (wsX0_markIn) := ggX3_isTrialUnconfirmed_X0_markIn
set_option maxRecDepth 20000 in
theorem ggX3_isTrialUnconfirmed_X3_isMarked : GoodIn wsX3_isTrialUnconfirmed wsX3_isMarked := goodIn_r _ [21, 1, 14, 3, 15, 16, 6, 7, 8, 9, 10, 11, 12, 13, 22, 23, 24, 25, 26, 27, 28, 29, 30, 31, 32, 33, 34, 35, 36, 37, 38] (by decide +kernel) (by decide +kernel)
set_option maxRecDepth 20000 in
theorem gX3_isTrialUnconfirmed_X3_isMarked : GoodIn wsX3_isTrialUnconfirmed (wsV RX3 98 RX3 yX3_isMarked wsX3_isMarked) := goodIn_app (goodIn_of _ (by decide +kernel)) ggX3_isTrialUnconfirmed_X3_isMarked
theorem dX3_isTrialUnconfirmed_0 : decode cX3_isTrialUnconfirmed 0 = .ok (.aload_n 0, 1) := by decide +kernel
theorem dX3_isTrialUnconfirmed_1 : decode cX3_isTrialUnconfirmed 1 = .ok (.getfield 12, 3) := by decide +kernel
theorem dX3_isTrialUnconfirmed_4 : decode cX3_isTrialUnconfirmed 4 = .ok (.iconst 4, 1) := by decide +kernel
theorem dX3_isTrialUnconfirmed_5 : decode cX3_isTrialUnconfirmed 5 = .ok (.invokevirtual 102, 3) := by decide +kernel
theorem dX3_isTrialUnconfirmed_8 : decode cX3_isTrialUnconfirmed 8 = .ok (.ifCond .eq 38, 3) := by decide +kernel
theorem dX3_isTrialUnconfirmed_11 : decode cX3_isTrialUnconfirmed 11 = .ok (.aload_n 0, 1) := by decide +kernel
theorem dX3_isTrialUnconfirmed_12 : decode cX3_isTrialUnconfirmed 12 = .ok (.getfield 12, 3) := by decide +kernel
theorem dX3_isTrialUnconfirmed_15 : decode cX3_isTrialUnconfirmed 15 = .ok (.iconst 4, 1) := by decide +kernel
theorem dX3_isTrialUnconfirmed_16 : decode cX3_isTrialUnconfirmed 16 = .ok (.iconst 1, 1) := by decide +kernel
theorem dX3_isTrialUnconfirmed_17 : decode cX3_isTrialUnconfirmed 17 = .ok (.invokevirtual 144, 3) := by decide +kernel
theorem dX3_isTrialUnconfirmed_20 : decode cX3_isTrialUnconfirmed 20 = .ok (.iconst 1, 1) := by decide +kernel
theorem dX3_isTrialUnconfirmed_21 : decode cX3_isTrialUnconfirmed 21 = .ok (.if_icmp .ne 25, 3) := by decide +kernel
theorem dX3_isTrialUnconfirmed_24 : decode cX3_isTrialUnconfirmed 24 = .ok (.aload_n 0, 1) := by decide +kernel
theorem dX3_isTrialUnconfirmed_25 : decode cX3_isTrialUnconfirmed 25 = .ok (.iconst 4, 1) := by decide +kernel
theorem dX3_isTrialUnconfirmed_26 : decode cX3_isTrialUnconfirmed 26 = .ok (.iconst 2, 1) := by decide +kernel
theorem dX3_isTrialUnconfirmed_27 : decode cX3_isTrialUnconfirmed 27 = .ok (.invokevirtual 98, 3) := by decide +kernel
theorem dX3_isTrialUnconfirmed_30 : decode cX3_isTrialUnconfirmed 30 = .ok (.ifCond .eq 16, 3) := by decide +kernel
theorem dX3_isTrialUnconfirmed_33 : decode cX3_isTrialUnconfirmed 33 = .ok (.aload_n 0, 1) := by decide +kernel
theorem dX3_isTrialUnconfirmed_34 : decode cX3_isTrialUnconfirmed 34 = .ok (.iconst 4, 1) := by decide +kernel
theorem dX3_isTrialUnconfirmed_35 : decode cX3_isTrialUnconfirmed 35 = .ok (.iconst 3, 1) := by decide +kernel
theorem dX3_isTrialUnconfirmed_36 : decode cX3_isTrialUnconfirmed 36 = .ok (.invokevirtual 98, 3) := by decide +kernel
theorem dX3_isTrialUnconfirmed_39 : decode cX3_isTrialUnconfirmed 39 = .ok (.ifCond .ne 7, 3) := by decide +kernel
theorem dX3_isTrialUnconfirmed_42 : decode cX3_isTrialUnconfirmed 42 = .ok (.iconst 1, 1) := by decide +kernel
theorem dX3_isTrialUnconfirmed_43 : decode cX3_isTrialUnconfirmed 43 = .ok (.goto 4, 3) := by decide +kernel
theorem dX3_isTrialUnconfirmed_46 : decode cX3_isTrialUnconfirmed 46 = .ok (.iconst 0, 1) := by decide +kernel
theorem dX3_isTrialUnconfirmed_47 : decode cX3_isTrialUnconfirmed 47 = .ok (.ireturn, 1) := by decide +kernel
set_option maxRecDepth 20000 in
theorem ggX3_eraseSlot_X3_firstSectorOf : GoodIn wsX3_eraseSlot wsX3_firstSectorOf := goodIn_r _ [5] (by decide +kernel) (by decide +kernel)
set_option maxRecDepth 20000 in
theorem gX3_eraseSlot_X3_firstSectorOf : GoodIn wsX3_eraseSlot (va_wsS RX3 166 yX3_firstSectorOf wsX3_firstSectorOf) := goodIn_app (goodIn_of _ (by decide +kernel)) ggX3_eraseSlot_X3_firstSectorOf
set_option maxRecDepth 20000 in
theorem ggX3_eraseSlot_X0_eraseSector : GoodIn wsX3_eraseSlot wsX0_eraseSector := goodIn_r _ [9, 10, 11, 12, 13, 14, 15, 7, 16, 17, 18, 19, 20, 21, 22, 23, 24, 25, 26, 27, 39, 40, 41, 42, 43, 44, 45, 46, 47] (by decide +kernel) (by decide +kernel)
set_option maxRecDepth 20000 in
theorem gX3_eraseSlot_X0_eraseSector_n192 : GoodIn wsX3_eraseSlot (wsX0_eraseSector) := ggX3_eraseSlot_X0_eraseSector
set_option maxRecDepth 20000 in
theorem ggX3_eraseSlot_X3_trailerOf : GoodIn wsX3_eraseSlot wsX3_trailerOf := goodIn_r _ [30] (by decide +kernel) (by decide +kernel)
set_option maxRecDepth 20000 in
theorem gX3_eraseSlot_X3_trailerOf : GoodIn wsX3_eraseSlot (va_wsS RX3 137 yX3_trailerOf wsX3_trailerOf) := goodIn_app (goodIn_of _ (by decide +kernel)) ggX3_eraseSlot_X3_trailerOf
theorem dX3_eraseSlot_0 : decode cX3_eraseSlot 0 = .ok (.iload_n 1, 1) := by decide +kernel
theorem dX3_eraseSlot_1 : decode cX3_eraseSlot 1 = .ok (.invokestatic 166, 3) := by decide +kernel
theorem dX3_eraseSlot_4 : decode cX3_eraseSlot 4 = .ok (.istore_n 2, 1) := by decide +kernel
theorem dX3_eraseSlot_5 : decode cX3_eraseSlot 5 = .ok (.iconst 0, 1) := by decide +kernel
theorem dX3_eraseSlot_6 : decode cX3_eraseSlot 6 = .ok (.istore_n 3, 1) := by decide +kernel
theorem dX3_eraseSlot_7 : decode cX3_eraseSlot 7 = .ok (.iload_n 3, 1) := by decide +kernel
theorem dX3_eraseSlot_8 : decode cX3_eraseSlot 8 = .ok (.iconst 4, 1) := by decide +kernel
theorem dX3_eraseSlot_9 : decode cX3_eraseSlot 9 = .ok (.if_icmp .ge 24, 3) := by decide +kernel
theorem dX3_eraseSlot_12 : decode cX3_eraseSlot 12 = .ok (.aload_n 0, 1) := by decide +kernel
theorem dX3_eraseSlot_13 : decode cX3_eraseSlot 13 = .ok (.getfield 12, 3) := by decide +kernel
theorem dX3_eraseSlot_16 : decode cX3_eraseSlot 16 = .ok (.iload_n 2, 1) := by decide +kernel
theorem dX3_eraseSlot_17 : decode cX3_eraseSlot 17 = .ok (.iload_n 3, 1) := by decide +kernel
theorem dX3_eraseSlot_18 : decode cX3_eraseSlot 18 = .ok (.iadd, 1) := by decide +kernel
theorem dX3_eraseSlot_19 : decode cX3_eraseSlot 19 = .ok (.invokevirtual 192, 3) := by decide +kernel
theorem dX3_eraseSlot_22 : decode cX3_eraseSlot 22 = .ok (.ifCond .ne 5, 3) := by decide +kernel
theorem dX3_eraseSlot_25 : decode cX3_eraseSlot 25 = .ok (.iconst 0, 1) := by decide +kernel
theorem dX3_eraseSlot_26 : decode cX3_eraseSlot 26 = .ok (.ireturn, 1) := by decide +kernel
theorem dX3_eraseSlot_27 : decode cX3_eraseSlot 27 = .ok (.iinc 3 1, 3) := by decide +kernel
theorem dX3_eraseSlot_30 : decode cX3_eraseSlot 30 = .ok (.goto (-23), 3) := by decide +kernel
theorem dX3_eraseSlot_33 : decode cX3_eraseSlot 33 = .ok (.aload_n 0, 1) := by decide +kernel
theorem dX3_eraseSlot_34 : decode cX3_eraseSlot 34 = .ok (.getfield 12, 3) := by decide +kernel
theorem dX3_eraseSlot_37 : decode cX3_eraseSlot 37 = .ok (.iload_n 1, 1) := by decide +kernel
theorem dX3_eraseSlot_38 : decode cX3_eraseSlot 38 = .ok (.invokestatic 137, 3) := by decide +kernel
theorem dX3_eraseSlot_41 : decode cX3_eraseSlot 41 = .ok (.invokevirtual 192, 3) := by decide +kernel
theorem dX3_eraseSlot_44 : decode cX3_eraseSlot 44 = .ok (.ireturn, 1) := by decide +kernel
set_option maxRecDepth 20000 in
theorem ggX3_doWhatIsDue_X3_eraseWrong : GoodIn wsX3_doWhatIsDue wsX3_eraseWrong := goodIn_r _ [5, 6, 7, 8, 9, 10, 11, 12, 13, 14, 15, 16, 17, 18, 19, 20, 21, 22, 23, 24, 25, 26, 27, 28, 29, 89, 90, 91, 92, 93, 94, 95, 96, 97, 98, 99, 100, 101, 102, 103, 104, 105] (by decide +kernel) (by decide +kernel)
set_option maxRecDepth 20000 in
theorem gX3_doWhatIsDue_X3_eraseWrong : GoodIn wsX3_doWhatIsDue (wsV RX3 195 RX3 yX3_eraseWrong wsX3_eraseWrong) := goodIn_app (goodIn_of _ (by decide +kernel)) ggX3_doWhatIsDue_X3_eraseWrong
set_option maxRecDepth 20000 in
theorem ggX3_doWhatIsDue_X3_exchangeSectors : GoodIn wsX3_doWhatIsDue wsX3_exchangeSectors := goodIn_r _ [33, 34, 35, 36, 4, 37, 6, 38, 39, 40, 41, 42, 9, 43, 44, 45, 46, 47, 48, 49, 50, 51, 15, 52, 53, 54, 55, 8, 10, 11, 12, 13, 14, 16, 17, 18, 19, 20, 21, 22, 23, 24, 25, 26, 27, 28, 29, 56, 57, 58, 59, 60, 61, 62, 63, 64, 65, 66, 67, 68, 69, 70, 71, 89, 90, 91, 92, 93, 94, 95, 96, 97, 98, 99, 100, 101, 102, 103, 104, 105] (by decide +kernel) (by decide +kernel)
set_option maxRecDepth 20000 in
theorem gX3_doWhatIsDue_X3_exchangeSectors : GoodIn wsX3_doWhatIsDue (wsV RX3 198 RX3 yX3_exchangeSectors wsX3_exchangeSectors) := goodIn_app (goodIn_of _ (by decide +kernel)) ggX3_doWhatIsDue_X3_exchangeSectors
set_option maxRecDepth 20000 in
theorem ggX3_doWhatIsDue_X3_endExchange : GoodIn wsX3_doWhatIsDue wsX3_endExchange := goodIn_r _ [75, 6, 76, 8, 9, 10, 11, 12, 13, 14, 15, 16, 17, 18, 19, 20, 21, 22, 23, 24, 25, 26, 27, 28, 29, 42, 43, 44, 45, 46, 47, 48, 49, 50, 51, 38, 39, 40, 4, 41, 69, 70, 71, 65, 66, 67, 68, 77, 78, 79, 80, 81, 82, 83, 84, 56, 57, 58, 59, 60, 61, 62, 63, 64, 89, 90, 91, 92, 93, 94, 95, 96, 97, 98, 99, 100, 101, 102, 103, 104, 105] (by decide +kernel) (by decide +kernel)
set_option maxRecDepth 20000 in
theorem gX3_doWhatIsDue_X3_endExchange : GoodIn wsX3_doWhatIsDue (wsV RX3 201 RX3 yX3_endExchange wsX3_endExchange) := goodIn_app (goodIn_of _ (by decide +kernel)) ggX3_doWhatIsDue_X3_endExchange
set_option maxRecDepth 20000 in
theorem ggX3_doWhatIsDue_X3_beginExchange : GoodIn wsX3_doWhatIsDue wsX3_beginExchange := goodIn_r _ [88, 6, 42, 9, 43, 44, 45, 46, 47, 48, 49, 50, 51, 15, 69, 70, 71, 19, 20, 21, 22, 12, 23, 24, 25, 26, 65, 66, 67, 68, 8, 10, 11, 13, 14, 16, 17, 18, 27, 28, 29, 89, 90, 91, 92, 93, 94, 95, 96, 97, 98, 99, 100, 101, 102, 103, 104, 105] (by decide +kernel) (by decide +kernel)
set_option maxRecDepth 20000 in
theorem gX3_doWhatIsDue_X3_beginExchange : GoodIn wsX3_doWhatIsDue (wsV RX3 204 RX3 yX3_beginExchange wsX3_beginExchange) := goodIn_app (goodIn_of _ (by decide +kernel)) ggX3_doWhatIsDue_X3_beginExchange
theorem dX3_doWhatIsDue_0 : decode cX3_doWhatIsDue 0 = .ok (.iload_n 1, 1) := by decide +kernel
theorem dX3_doWhatIsDue_1 : decode cX3_doWhatIsDue 1 = .ok (.lookupswitch 62 #[(0, 35), (4, 37), (5, 42)], 35) := by decide +kernel
theorem dX3_doWhatIsDue_36 : decode cX3_doWhatIsDue 36 = .ok (.iconst 1, 1) := by decide +kernel
theorem dX3_doWhatIsDue_37 : decode cX3_doWhatIsDue 37 = .ok (.ireturn, 1) := by decide +kernel
theorem dX3_doWhatIsDue_38 : decode cX3_doWhatIsDue 38 = .ok (.aload_n 0, 1) := by decide +kernel
theorem dX3_doWhatIsDue_39 : decode cX3_doWhatIsDue 39 = .ok (.invokevirtual 195, 3) := by decide +kernel
theorem dX3_doWhatIsDue_42 : decode cX3_doWhatIsDue 42 = .ok (.ireturn, 1) := by decide +kernel
theorem dX3_doWhatIsDue_43 : decode cX3_doWhatIsDue 43 = .ok (.aload_n 0, 1) := by decide +kernel
theorem dX3_doWhatIsDue_44 : decode cX3_doWhatIsDue 44 = .ok (.invokevirtual 198, 3) := by decide +kernel
theorem dX3_doWhatIsDue_47 : decode cX3_doWhatIsDue 47 = .ok (.ifCond .eq 14, 3) := by decide +kernel
theorem dX3_doWhatIsDue_50 : decode cX3_doWhatIsDue 50 = .ok (.aload_n 0, 1) := by decide +kernel
theorem dX3_doWhatIsDue_51 : decode cX3_doWhatIsDue 51 = .ok (.invokevirtual 201, 3) := by decide +kernel
theorem dX3_doWhatIsDue_54 : decode cX3_doWhatIsDue 54 = .ok (.ifCond .eq 7, 3) := by decide +kernel
theorem dX3_doWhatIsDue_57 : decode cX3_doWhatIsDue 57 = .ok (.iconst 1, 1) := by decide +kernel
theorem dX3_doWhatIsDue_58 : decode cX3_doWhatIsDue 58 = .ok (.goto 4, 3) := by decide +kernel
theorem dX3_doWhatIsDue_61 : decode cX3_doWhatIsDue 61 = .ok (.iconst 0, 1) := by decide +kernel
theorem dX3_doWhatIsDue_62 : decode cX3_doWhatIsDue 62 = .ok (.ireturn, 1) := by decide +kernel
theorem dX3_doWhatIsDue_63 : decode cX3_doWhatIsDue 63 = .ok (.aload_n 0, 1) := by decide +kernel
theorem dX3_doWhatIsDue_64 : decode cX3_doWhatIsDue 64 = .ok (.iload_n 1, 1) := by decide +kernel
theorem dX3_doWhatIsDue_65 : decode cX3_doWhatIsDue 65 = .ok (.invokevirtual 204, 3) := by decide +kernel
theorem dX3_doWhatIsDue_68 : decode cX3_doWhatIsDue 68 = .ok (.ifCond .eq 21, 3) := by decide +kernel
theorem dX3_doWhatIsDue_71 : decode cX3_doWhatIsDue 71 = .ok (.aload_n 0, 1) := by decide +kernel
theorem dX3_doWhatIsDue_72 : decode cX3_doWhatIsDue 72 = .ok (.invokevirtual 198, 3) := by decide +kernel
theorem dX3_doWhatIsDue_75 : decode cX3_doWhatIsDue 75 = .ok (.ifCond .eq 14, 3) := by decide +kernel
theorem dX3_doWhatIsDue_78 : decode cX3_doWhatIsDue 78 = .ok (.aload_n 0, 1) := by decide +kernel
theorem dX3_doWhatIsDue_79 : decode cX3_doWhatIsDue 79 = .ok (.invokevirtual 201, 3) := by decide +kernel
theorem dX3_doWhatIsDue_82 : decode cX3_doWhatIsDue 82 = .ok (.ifCond .eq 7, 3) := by decide +kernel
theorem dX3_doWhatIsDue_85 : decode cX3_doWhatIsDue 85 = .ok (.iconst 1, 1) := by decide +kernel
theorem dX3_doWhatIsDue_86 : decode cX3_doWhatIsDue 86 = .ok (.goto 4, 3) := by decide +kernel
theorem dX3_doWhatIsDue_89 : decode cX3_doWhatIsDue 89 = .ok (.iconst 0, 1) := by decide +kernel
theorem dX3_doWhatIsDue_90 : decode cX3_doWhatIsDue 90 = .ok (.ireturn, 1) := by decide +kernel
set_option maxRecDepth 20000 in
theorem ggX3_eraseWrong_X0_eraseSector : GoodIn wsX3_eraseWrong wsX0_eraseSector := goodIn_r _ [6, 7, 8, 9, 10, 11, 12, 4, 13, 14, 15, 16, 17, 18, 19, 20, 21, 22, 23, 24, 33, 34, 35, 36, 37, 38, 39, 40, 41] (by decide +kernel) (by decide +kernel)
set_option maxRecDepth 20000 in
theorem gX3_eraseWrong_X0_eraseSector_n192 : GoodIn wsX3_eraseWrong (wsX0_eraseSector) := ggX3_eraseWrong_X0_eraseSector
theorem dX3_eraseWrong_0 : decode cX3_eraseWrong 0 = .ok (.aload_n 0, 1) := by decide +kernel
theorem dX3_eraseWrong_1 : decode cX3_eraseWrong 1 = .ok (.getfield 12, 3) := by decide +kernel
theorem dX3_eraseWrong_4 : decode cX3_eraseWrong 4 = .ok (.bipush 9, 2) := by decide +kernel
theorem dX3_eraseWrong_6 : decode cX3_eraseWrong 6 = .ok (.invokevirtual 192, 3) := by decide +kernel
theorem dX3_eraseWrong_9 : decode cX3_eraseWrong 9 = .ok (.ifCond .ne 5, 3) := by decide +kernel
theorem dX3_eraseWrong_12 : decode cX3_eraseWrong 12 = .ok (.iconst 0, 1) := by decide +kernel
theorem dX3_eraseWrong_13 : decode cX3_eraseWrong 13 = .ok (.ireturn, 1) := by decide +kernel
theorem dX3_eraseWrong_14 : decode cX3_eraseWrong 14 = .ok (.aload_n 0, 1) := by decide +kernel
theorem dX3_eraseWrong_15 : decode cX3_eraseWrong 15 = .ok (.dup, 1) := by decide +kernel
theorem dX3_eraseWrong_16 : decode cX3_eraseWrong 16 = .ok (.getfield 44, 3) := by decide +kernel
theorem dX3_eraseWrong_19 : decode cX3_eraseWrong 19 = .ok (.iconst 1, 1) := by decide +kernel
theorem dX3_eraseWrong_20 : decode cX3_eraseWrong 20 = .ok (.iadd, 1) := by decide +kernel
theorem dX3_eraseWrong_21 : decode cX3_eraseWrong 21 = .ok (.putfield 44, 3) := by decide +kernel
theorem dX3_eraseWrong_24 : decode cX3_eraseWrong 24 = .ok (.iconst 1, 1) := by decide +kernel
theorem dX3_eraseWrong_25 : decode cX3_eraseWrong 25 = .ok (.ireturn, 1) := by decide +kernel
set_option maxRecDepth 20000 in
theorem ggX3_beginExchange_X0_markIn : GoodIn wsX3_beginExchange wsX0_markIn := goodIn_r _ [5, 6, 7, 3, 8, 9, 10, 11, 12, 13, 49, 50, 51, 52, 53, 54, 55, 56, 57] (by decide +kernel) (by decide +kernel)
set_option maxRecDepth 20000 in
theorem gX3_beginExchange_X0_markIn_n144 : GoodIn wsX3_beginExchange (wsX0_markIn) := ggX3_beginExchange_X0_markIn
set_option maxRecDepth 20000 in
theorem ggX3_beginExchange_X0_markUnit : GoodIn wsX3_beginExchange wsX0_markUnit := goodIn_r _ [16, 17, 18, 19, 3, 20, 21, 22, 23, 24, 25, 6, 7, 8, 26, 27, 28, 29, 13, 49, 50, 51, 52, 53, 54, 55, 56, 57] (by decide +kernel) (by decide +kernel)
set_option maxRecDepth 20000 in
theorem gX3_beginExchange_X0_markUnit_n91 : GoodIn wsX3_beginExchange (wsX0_markUnit) := ggX3_beginExchange_X0_markUnit
set_option maxRecDepth 20000 in
theorem ggX3_beginExchange_X0_eraseSector : GoodIn wsX3_beginExchange wsX0_eraseSector := goodIn_r _ [32, 21, 33, 34, 13, 35, 36, 3, 37, 17, 18, 19, 20, 22, 23, 24, 25, 38, 39, 40, 49, 50, 51, 52, 53, 54, 55, 56, 57] (by decide +kernel) (by decide +kernel)
set_option maxRecDepth 20000 in
theorem gX3_beginExchange_X0_eraseSector_n192 : GoodIn wsX3_beginExchange (wsX0_eraseSector) := ggX3_beginExchange_X0_eraseSector
theorem dX3_beginExchange_0 : decode cX3_beginExchange 0 = .ok (.aload_n 0, 1) := by decide +kernel
theorem dX3_beginExchange_1 : decode cX3_beginExchange 1 = .ok (.getfield 12, 3) := by decide +kernel
theorem dX3_beginExchange_4 : decode cX3_beginExchange 4 = .ok (.bipush 9, 2) := by decide +kernel
theorem dX3_beginExchange_6 : decode cX3_beginExchange 6 = .ok (.iconst 1, 1) := by decide +kernel
theorem dX3_beginExchange_7 : decode cX3_beginExchange 7 = .ok (.invokevirtual 144, 3) := by decide +kernel
theorem dX3_beginExchange_10 : decode cX3_beginExchange 10 = .ok (.iload_n 1, 1) := by decide +kernel
theorem dX3_beginExchange_11 : decode cX3_beginExchange 11 = .ok (.if_icmp .eq 19, 3) := by decide +kernel
theorem dX3_beginExchange_14 : decode cX3_beginExchange 14 = .ok (.aload_n 0, 1) := by decide +kernel
theorem dX3_beginExchange_15 : decode cX3_beginExchange 15 = .ok (.getfield 12, 3) := by decide +kernel
theorem dX3_beginExchange_18 : decode cX3_beginExchange 18 = .ok (.bipush 9, 2) := by decide +kernel
theorem dX3_beginExchange_20 : decode cX3_beginExchange 20 = .ok (.iconst 1, 1) := by decide +kernel
theorem dX3_beginExchange_21 : decode cX3_beginExchange 21 = .ok (.iload_n 1, 1) := by decide +kernel
theorem dX3_beginExchange_22 : decode cX3_beginExchange 22 = .ok (.invokevirtual 91, 3) := by decide +kernel
theorem dX3_beginExchange_25 : decode cX3_beginExchange 25 = .ok (.ifCond .ne 5, 3) := by decide +kernel
theorem dX3_beginExchange_28 : decode cX3_beginExchange 28 = .ok (.iconst 0, 1) := by decide +kernel
theorem dX3_beginExchange_29 : decode cX3_beginExchange 29 = .ok (.ireturn, 1) := by decide +kernel
theorem dX3_beginExchange_30 : decode cX3_beginExchange 30 = .ok (.aload_n 0, 1) := by decide +kernel
theorem dX3_beginExchange_31 : decode cX3_beginExchange 31 = .ok (.getfield 12, 3) := by decide +kernel
theorem dX3_beginExchange_34 : decode cX3_beginExchange 34 = .ok (.iconst 4, 1) := by decide +kernel
theorem dX3_beginExchange_35 : decode cX3_beginExchange 35 = .ok (.invokevirtual 192, 3) := by decide +kernel
theorem dX3_beginExchange_38 : decode cX3_beginExchange 38 = .ok (.ifCond .eq 20, 3) := by decide +kernel
theorem dX3_beginExchange_41 : decode cX3_beginExchange 41 = .ok (.aload_n 0, 1) := by decide +kernel
theorem dX3_beginExchange_42 : decode cX3_beginExchange 42 = .ok (.getfield 12, 3) := by decide +kernel
theorem dX3_beginExchange_45 : decode cX3_beginExchange 45 = .ok (.iconst 4, 1) := by decide +kernel
theorem dX3_beginExchange_46 : decode cX3_beginExchange 46 = .ok (.iconst 1, 1) := by decide +kernel
theorem dX3_beginExchange_47 : decode cX3_beginExchange 47 = .ok (.iload_n 1, 1) := by decide +kernel
theorem dX3_beginExchange_48 : decode cX3_beginExchange 48 = .ok (.invokevirtual 91, 3) := by decide +kernel
theorem dX3_beginExchange_51 : decode cX3_beginExchange 51 = .ok (.ifCond .eq 7, 3) := by decide +kernel
theorem dX3_beginExchange_54 : decode cX3_beginExchange 54 = .ok (.iconst 1, 1) := by decide +kernel
theorem dX3_beginExchange_55 : decode cX3_beginExchange 55 = .ok (.goto 4, 3) := by decide +kernel
theorem dX3_beginExchange_58 : decode cX3_beginExchange 58 = .ok (.iconst 0, 1) := by decide +kernel
theorem dX3_beginExchange_59 : decode cX3_beginExchange 59 = .ok (.ireturn, 1) := by decide +kernel
set_option maxRecDepth 20000 in
theorem ggX3_exchangeSectors_X3_takeStep : GoodIn wsX3_exchangeSectors wsX3_takeStep := goodIn_r _ [5, 6, 7, 8, 9, 4, 10, 11, 12, 13, 14, 15, 16, 17, 18, 19, 20, 21, 22, 23, 24, 25, 26, 27, 28, 29, 30, 31, 32, 33, 34, 35, 36, 37, 38, 39, 40, 41, 42, 43, 44, 45, 46, 47, 48, 49, 50, 51, 52, 53, 54, 55, 56, 57, 58, 59, 60, 61, 62, 63, 64, 65, 66, 67, 68, 69, 70, 71, 72, 73, 74, 75, 76, 77, 78, 79] (by decide +kernel) (by decide +kernel)
set_option maxRecDepth 20000 in
theorem gX3_exchangeSectors_X3_takeStep : GoodIn wsX3_exchangeSectors (wsV RX3 207 RX3 yX3_takeStep wsX3_takeStep) := goodIn_app (goodIn_of _ (by decide +kernel)) ggX3_exchangeSectors_X3_takeStep
theorem dX3_exchangeSectors_0 : decode cX3_exchangeSectors 0 = .ok (.iconst 3, 1) := by decide +kernel
theorem dX3_exchangeSectors_1 : decode cX3_exchangeSectors 1 = .ok (.istore_n 1, 1) := by decide +kernel
theorem dX3_exchangeSectors_2 : decode cX3_exchangeSectors 2 = .ok (.iload_n 1, 1) := by decide +kernel
theorem dX3_exchangeSectors_3 : decode cX3_exchangeSectors 3 = .ok (.ifCond .lt 50, 3) := by decide +kernel
theorem dX3_exchangeSectors_6 : decode cX3_exchangeSectors 6 = .ok (.iconst 5, 1) := by decide +kernel
theorem dX3_exchangeSectors_7 : decode cX3_exchangeSectors 7 = .ok (.iload_n 1, 1) := by decide +kernel
theorem dX3_exchangeSectors_8 : decode cX3_exchangeSectors 8 = .ok (.iadd, 1) := by decide +kernel
theorem dX3_exchangeSectors_9 : decode cX3_exchangeSectors 9 = .ok (.istore_n 2, 1) := by decide +kernel
theorem dX3_exchangeSectors_10 : decode cX3_exchangeSectors 10 = .ok (.aload_n 0, 1) := by decide +kernel
theorem dX3_exchangeSectors_11 : decode cX3_exchangeSectors 11 = .ok (.iload_n 1, 1) := by decide +kernel
theorem dX3_exchangeSectors_12 : decode cX3_exchangeSectors 12 = .ok (.iconst 0, 1) := by decide +kernel
theorem dX3_exchangeSectors_13 : decode cX3_exchangeSectors 13 = .ok (.bipush 10, 2) := by decide +kernel
theorem dX3_exchangeSectors_15 : decode cX3_exchangeSectors 15 = .ok (.iload_n 2, 1) := by decide +kernel
theorem dX3_exchangeSectors_16 : decode cX3_exchangeSectors 16 = .ok (.invokevirtual 207, 3) := by decide +kernel
theorem dX3_exchangeSectors_19 : decode cX3_exchangeSectors 19 = .ok (.ifCond .eq 26, 3) := by decide +kernel
theorem dX3_exchangeSectors_22 : decode cX3_exchangeSectors 22 = .ok (.aload_n 0, 1) := by decide +kernel
theorem dX3_exchangeSectors_23 : decode cX3_exchangeSectors 23 = .ok (.iload_n 1, 1) := by decide +kernel
theorem dX3_exchangeSectors_24 : decode cX3_exchangeSectors 24 = .ok (.iconst 1, 1) := by decide +kernel
theorem dX3_exchangeSectors_25 : decode cX3_exchangeSectors 25 = .ok (.iload_n 2, 1) := by decide +kernel
theorem dX3_exchangeSectors_26 : decode cX3_exchangeSectors 26 = .ok (.iload_n 1, 1) := by decide +kernel
theorem dX3_exchangeSectors_27 : decode cX3_exchangeSectors 27 = .ok (.invokevirtual 207, 3) := by decide +kernel
theorem dX3_exchangeSectors_30 : decode cX3_exchangeSectors 30 = .ok (.ifCond .eq 15, 3) := by decide +kernel
theorem dX3_exchangeSectors_33 : decode cX3_exchangeSectors 33 = .ok (.aload_n 0, 1) := by decide +kernel
theorem dX3_exchangeSectors_34 : decode cX3_exchangeSectors 34 = .ok (.iload_n 1, 1) := by decide +kernel
theorem dX3_exchangeSectors_35 : decode cX3_exchangeSectors 35 = .ok (.iconst 2, 1) := by decide +kernel
theorem dX3_exchangeSectors_36 : decode cX3_exchangeSectors 36 = .ok (.iload_n 1, 1) := by decide +kernel
theorem dX3_exchangeSectors_37 : decode cX3_exchangeSectors 37 = .ok (.bipush 10, 2) := by decide +kernel
theorem dX3_exchangeSectors_39 : decode cX3_exchangeSectors 39 = .ok (.invokevirtual 207, 3) := by decide +kernel
theorem dX3_exchangeSectors_42 : decode cX3_exchangeSectors 42 = .ok (.ifCond .ne 5, 3) := by decide +kernel
theorem dX3_exchangeSectors_45 : decode cX3_exchangeSectors 45 = .ok (.iconst 0, 1) := by decide +kernel
theorem dX3_exchangeSectors_46 : decode cX3_exchangeSectors 46 = .ok (.ireturn, 1) := by decide +kernel
theorem dX3_exchangeSectors_47 : decode cX3_exchangeSectors 47 = .ok (.iinc 1 (-1), 3) := by decide +kernel
theorem dX3_exchangeSectors_50 : decode cX3_exchangeSectors 50 = .ok (.goto (-48), 3) := by decide +kernel
theorem dX3_exchangeSectors_53 : decode cX3_exchangeSectors 53 = .ok (.iconst 1, 1) := by decide +kernel
theorem dX3_exchangeSectors_54 : decode cX3_exchangeSectors 54 = .ok (.ireturn, 1) := by decide +kernel
set_option maxRecDepth 20000 in
theorem ggX3_takeStep_X3_isMarked : GoodIn wsX3_takeStep wsX3_isMarked := goodIn_r _ [6, 1, 7, 8, 9, 10, 11, 12, 13, 14, 15, 16, 17, 18, 59, 60, 61, 62, 63, 64, 65, 66, 67, 68, 69, 70, 71, 72, 73, 74, 75] (by decide +kernel) (by decide +kernel)
set_option maxRecDepth 20000 in
theorem gX3_takeStep_X3_isMarked : GoodIn wsX3_takeStep (wsV RX3 98 RX3 yX3_isMarked wsX3_isMarked) := goodIn_app (goodIn_of _ (by decide +kernel)) ggX3_takeStep_X3_isMarked
set_option maxRecDepth 20000 in
theorem ggX3_takeStep_X0_replaceSector : GoodIn wsX3_takeStep wsX0_replaceSector := goodIn_r _ [21, 18, 22, 23, 24, 8, 25, 26, 27, 28, 29, 30, 31, 32, 33, 34, 35, 36, 37, 38, 39, 40, 41, 42, 11, 12, 13, 43, 44, 45, 46, 47, 48, 49, 50, 51, 52, 53, 54, 55, 67, 68, 69, 70, 71, 72, 73, 74, 75] (by decide +kernel) (by decide +kernel)
set_option maxRecDepth 20000 in
theorem gX3_takeStep_X0_replaceSector_n211 : GoodIn wsX3_takeStep (wsX0_replaceSector) := ggX3_takeStep_X0_replaceSector
set_option maxRecDepth 20000 in
theorem ggX3_takeStep_X0_markUnit : GoodIn wsX3_takeStep wsX0_markUnit := goodIn_r _ [58, 32, 33, 34, 8, 35, 26, 36, 37, 38, 39, 11, 12, 13, 52, 53, 54, 55, 18, 67, 68, 69, 70, 71, 72, 73, 74, 75] (by decide +kernel) (by decide +kernel)
set_option maxRecDepth 20000 in
theorem gX3_takeStep_X0_markUnit_n91 : GoodIn wsX3_takeStep (wsX0_markUnit) := ggX3_takeStep_X0_markUnit
theorem dX3_takeStep_0 : decode cX3_takeStep 0 = .ok (.iconst 4, 1) := by decide +kernel
theorem dX3_takeStep_1 : decode cX3_takeStep 1 = .ok (.iconst 3, 1) := by decide +kernel
theorem dX3_takeStep_2 : decode cX3_takeStep 2 = .ok (.iload_n 1, 1) := by decide +kernel
theorem dX3_takeStep_3 : decode cX3_takeStep 3 = .ok (.imul, 1) := by decide +kernel
theorem dX3_takeStep_4 : decode cX3_takeStep 4 = .ok (.iadd, 1) := by decide +kernel
theorem dX3_takeStep_5 : decode cX3_takeStep 5 = .ok (.iload_n 2, 1) := by decide +kernel
theorem dX3_takeStep_6 : decode cX3_takeStep 6 = .ok (.iadd, 1) := by decide +kernel
theorem dX3_takeStep_7 : decode cX3_takeStep 7 = .ok (.istore 5, 2) := by decide +kernel
theorem dX3_takeStep_9 : decode cX3_takeStep 9 = .ok (.aload_n 0, 1) := by decide +kernel
theorem dX3_takeStep_10 : decode cX3_takeStep 10 = .ok (.iconst 4, 1) := by decide +kernel
theorem dX3_takeStep_11 : decode cX3_takeStep 11 = .ok (.iload 5, 2) := by decide +kernel
theorem dX3_takeStep_13 : decode cX3_takeStep 13 = .ok (.invokevirtual 98, 3) := by decide +kernel
theorem dX3_takeStep_16 : decode cX3_takeStep 16 = .ok (.ifCond .eq 5, 3) := by decide +kernel
theorem dX3_takeStep_19 : decode cX3_takeStep 19 = .ok (.iconst 1, 1) := by decide +kernel
theorem dX3_takeStep_20 : decode cX3_takeStep 20 = .ok (.ireturn, 1) := by decide +kernel
theorem dX3_takeStep_21 : decode cX3_takeStep 21 = .ok (.aload_n 0, 1) := by decide +kernel
theorem dX3_takeStep_22 : decode cX3_takeStep 22 = .ok (.getfield 12, 3) := by decide +kernel
theorem dX3_takeStep_25 : decode cX3_takeStep 25 = .ok (.iload_n 3, 1) := by decide +kernel
theorem dX3_takeStep_26 : decode cX3_takeStep 26 = .ok (.iload 4, 2) := by decide +kernel
theorem dX3_takeStep_28 : decode cX3_takeStep 28 = .ok (.invokevirtual 211, 3) := by decide +kernel
theorem dX3_takeStep_31 : decode cX3_takeStep 31 = .ok (.ifCond .eq 21, 3) := by decide +kernel
theorem dX3_takeStep_34 : decode cX3_takeStep 34 = .ok (.aload_n 0, 1) := by decide +kernel
theorem dX3_takeStep_35 : decode cX3_takeStep 35 = .ok (.getfield 12, 3) := by decide +kernel
theorem dX3_takeStep_38 : decode cX3_takeStep 38 = .ok (.iconst 4, 1) := by decide +kernel
theorem dX3_takeStep_39 : decode cX3_takeStep 39 = .ok (.iload 5, 2) := by decide +kernel
theorem dX3_takeStep_41 : decode cX3_takeStep 41 = .ok (.iconst 1, 1) := by decide +kernel
theorem dX3_takeStep_42 : decode cX3_takeStep 42 = .ok (.invokevirtual 91, 3) := by decide +kernel
theorem dX3_takeStep_45 : decode cX3_takeStep 45 = .ok (.ifCond .eq 7, 3) := by decide +kernel
theorem dX3_takeStep_48 : decode cX3_takeStep 48 = .ok (.iconst 1, 1) := by decide +kernel
theorem dX3_takeStep_49 : decode cX3_takeStep 49 = .ok (.goto 4, 3) := by decide +kernel
theorem dX3_takeStep_52 : decode cX3_takeStep 52 = .ok (.iconst 0, 1) := by decide +kernel
theorem dX3_takeStep_53 : decode cX3_takeStep 53 = .ok (.ireturn, 1) := by decide +kernel
set_option maxRecDepth 20000 in
theorem ggX3_endExchange_X0_eraseSector : GoodIn wsX3_endExchange wsX0_eraseSector := goodIn_r _ [6, 7, 8, 9, 10, 11, 12, 4, 13, 14, 15, 16, 17, 18, 19, 20, 21, 22, 23, 24, 72, 73, 74, 75, 76, 77, 78, 79, 80] (by decide +kernel) (by decide +kernel)
set_option maxRecDepth 20000 in
theorem gX3_endExchange_X0_eraseSector_n192 : GoodIn wsX3_endExchange (wsX0_eraseSector) := ggX3_endExchange_X0_eraseSector
set_option maxRecDepth 20000 in
theorem ggX3_endExchange_X0_markIn : GoodIn wsX3_endExchange wsX0_markIn := goodIn_r _ [27, 28, 29, 4, 30, 31, 32, 33, 34, 10, 72, 73, 74, 75, 76, 77, 78, 79, 80] (by decide +kernel) (by decide +kernel)
set_option maxRecDepth 20000 in
theorem gX3_endExchange_X0_markIn_n144 : GoodIn wsX3_endExchange (wsX0_markIn) := ggX3_endExchange_X0_markIn
set_option maxRecDepth 20000 in
theorem ggX3_endExchange_X3_isMarked : GoodIn wsX3_endExchange wsX3_isMarked := goodIn_r _ [39, 1, 25, 4, 26, 27, 28, 29, 30, 31, 32, 33, 34, 10, 64, 65, 66, 67, 68, 69, 70, 71, 72, 73, 74, 75, 76, 77, 78, 79, 80] (by decide +kernel) (by decide +kernel)
set_option maxRecDepth 20000 in
theorem gX3_endExchange_X3_isMarked : GoodIn wsX3_endExchange (wsV RX3 98 RX3 yX3_isMarked wsX3_isMarked) := goodIn_app (goodIn_of _ (by decide +kernel)) ggX3_endExchange_X3_isMarked
set_option maxRecDepth 20000 in
theorem ggX3_endExchange_X0_markUnit : GoodIn wsX3_endExchange wsX0_markUnit := goodIn_r _ [42, 14, 15, 16, 4, 17, 7, 18, 19, 20, 21, 28, 29, 30, 43, 44, 45, 46, 10, 72, 73, 74, 75, 76, 77, 78, 79, 80] (by decide +kernel) (by decide +kernel)
set_option maxRecDepth 20000 in
theorem gX3_endExchange_X0_markUnit_n91 : GoodIn wsX3_endExchange (wsX0_markUnit) := ggX3_endExchange_X0_markUnit
set_option maxRecDepth 20000 in
theorem ggX3_endExchange_X3_writeMagic : GoodIn wsX3_endExchange wsX3_writeMagic := goodIn_r _ [50, 1, 51, 29, 4, 30, 52, 53, 54, 55, 56, 57, 58, 59, 60, 61, 62, 63, 14, 15, 16, 17, 7, 18, 19, 20, 21, 43, 44, 45, 46, 10, 64, 65, 66, 67, 68, 69, 70, 71, 72, 73, 74, 75, 76, 77, 78, 79, 80] (by decide +kernel) (by decide +kernel)
set_option maxRecDepth 20000 in
theorem gX3_endExchange_X3_writeMagic : GoodIn wsX3_endExchange (wsV RX3 95 RX3 yX3_writeMagic wsX3_writeMagic) := goodIn_app (goodIn_of _ (by decide +kernel)) ggX3_endExchange_X3_writeMagic
theorem dX3_endExchange_0 : decode cX3_endExchange 0 = .ok (.aload_n 0, 1) := by decide +kernel
theorem dX3_endExchange_1 : decode cX3_endExchange 1 = .ok (.getfield 12, 3) := by decide +kernel
theorem dX3_endExchange_4 : decode cX3_endExchange 4 = .ok (.bipush 9, 2) := by decide +kernel
theorem dX3_endExchange_6 : decode cX3_endExchange 6 = .ok (.invokevirtual 192, 3) := by decide +kernel
theorem dX3_endExchange_9 : decode cX3_endExchange 9 = .ok (.ifCond .ne 5, 3) := by decide +kernel
theorem dX3_endExchange_12 : decode cX3_endExchange 12 = .ok (.iconst 0, 1) := by decide +kernel
theorem dX3_endExchange_13 : decode cX3_endExchange 13 = .ok (.ireturn, 1) := by decide +kernel
theorem dX3_endExchange_14 : decode cX3_endExchange 14 = .ok (.aload_n 0, 1) := by decide +kernel
theorem dX3_endExchange_15 : decode cX3_endExchange 15 = .ok (.getfield 12, 3) := by decide +kernel
theorem dX3_endExchange_18 : decode cX3_endExchange 18 = .ok (.iconst 4, 1) := by decide +kernel
theorem dX3_endExchange_19 : decode cX3_endExchange 19 = .ok (.iconst 1, 1) := by decide +kernel
theorem dX3_endExchange_20 : decode cX3_endExchange 20 = .ok (.invokevirtual 144, 3) := by decide +kernel
theorem dX3_endExchange_23 : decode cX3_endExchange 23 = .ok (.iconst 1, 1) := by decide +kernel
theorem dX3_endExchange_24 : decode cX3_endExchange 24 = .ok (.if_icmp .ne 7, 3) := by decide +kernel
theorem dX3_endExchange_27 : decode cX3_endExchange 27 = .ok (.iconst 1, 1) := by decide +kernel
theorem dX3_endExchange_28 : decode cX3_endExchange 28 = .ok (.goto 4, 3) := by decide +kernel
theorem dX3_endExchange_31 : decode cX3_endExchange 31 = .ok (.iconst 0, 1) := by decide +kernel
theorem dX3_endExchange_32 : decode cX3_endExchange 32 = .ok (.istore_n 1, 1) := by decide +kernel
theorem dX3_endExchange_33 : decode cX3_endExchange 33 = .ok (.iload_n 1, 1) := by decide +kernel
theorem dX3_endExchange_34 : decode cX3_endExchange 34 = .ok (.ifCond .ne 27, 3) := by decide +kernel
theorem dX3_endExchange_37 : decode cX3_endExchange 37 = .ok (.aload_n 0, 1) := by decide +kernel
theorem dX3_endExchange_38 : decode cX3_endExchange 38 = .ok (.iconst 4, 1) := by decide +kernel
theorem dX3_endExchange_39 : decode cX3_endExchange 39 = .ok (.iconst 3, 1) := by decide +kernel
theorem dX3_endExchange_40 : decode cX3_endExchange 40 = .ok (.invokevirtual 98, 3) := by decide +kernel
theorem dX3_endExchange_43 : decode cX3_endExchange 43 = .ok (.ifCond .ne 18, 3) := by decide +kernel
theorem dX3_endExchange_46 : decode cX3_endExchange 46 = .ok (.aload_n 0, 1) := by decide +kernel
theorem dX3_endExchange_47 : decode cX3_endExchange 47 = .ok (.getfield 12, 3) := by decide +kernel
theorem dX3_endExchange_50 : decode cX3_endExchange 50 = .ok (.iconst 4, 1) := by decide +kernel
theorem dX3_endExchange_51 : decode cX3_endExchange 51 = .ok (.iconst 3, 1) := by decide +kernel
theorem dX3_endExchange_52 : decode cX3_endExchange 52 = .ok (.iconst 1, 1) := by decide +kernel
theorem dX3_endExchange_53 : decode cX3_endExchange 53 = .ok (.invokevirtual 91, 3) := by decide +kernel
theorem dX3_endExchange_56 : decode cX3_endExchange 56 = .ok (.ifCond .ne 5, 3) := by decide +kernel
theorem dX3_endExchange_59 : decode cX3_endExchange 59 = .ok (.iconst 0, 1) := by decide +kernel
theorem dX3_endExchange_60 : decode cX3_endExchange 60 = .ok (.ireturn, 1) := by decide +kernel
theorem dX3_endExchange_61 : decode cX3_endExchange 61 = .ok (.aload_n 0, 1) := by decide +kernel
theorem dX3_endExchange_62 : decode cX3_endExchange 62 = .ok (.iconst 4, 1) := by decide +kernel
theorem dX3_endExchange_63 : decode cX3_endExchange 63 = .ok (.invokevirtual 95, 3) := by decide +kernel
theorem dX3_endExchange_66 : decode cX3_endExchange 66 = .ok (.ifCond .eq 16, 3) := by decide +kernel
theorem dX3_endExchange_69 : decode cX3_endExchange 69 = .ok (.aload_n 0, 1) := by decide +kernel
theorem dX3_endExchange_70 : decode cX3_endExchange 70 = .ok (.getfield 12, 3) := by decide +kernel
theorem dX3_endExchange_73 : decode cX3_endExchange 73 = .ok (.iconst 4, 1) := by decide +kernel
theorem dX3_endExchange_74 : decode cX3_endExchange 74 = .ok (.iconst 2, 1) := by decide +kernel
theorem dX3_endExchange_75 : decode cX3_endExchange 75 = .ok (.iconst 1, 1) := by decide +kernel
theorem dX3_endExchange_76 : decode cX3_endExchange 76 = .ok (.invokevirtual 91, 3) := by decide +kernel
theorem dX3_endExchange_79 : decode cX3_endExchange 79 = .ok (.ifCond .ne 5, 3) := by decide +kernel
theorem dX3_endExchange_82 : decode cX3_endExchange 82 = .ok (.iconst 0, 1) := by decide +kernel
theorem dX3_endExchange_83 : decode cX3_endExchange 83 = .ok (.ireturn, 1) := by decide +kernel
theorem dX3_endExchange_84 : decode cX3_endExchange 84 = .ok (.aload_n 0, 1) := by decide +kernel
theorem dX3_endExchange_85 : decode cX3_endExchange 85 = .ok (.dup, 1) := by decide +kernel
theorem dX3_endExchange_86 : decode cX3_endExchange 86 = .ok (.getfield 41, 3) := by decide +kernel
theorem dX3_endExchange_89 : decode cX3_endExchange 89 = .ok (.iconst 1, 1) := by decide +kernel
theorem dX3_endExchange_90 : decode cX3_endExchange 90 = .ok (.iadd, 1) := by decide +kernel
theorem dX3_endExchange_91 : decode cX3_endExchange 91 = .ok (.putfield 41, 3) := by decide +kernel
theorem dX3_endExchange_94 : decode cX3_endExchange 94 = .ok (.iconst 1, 1) := by decide +kernel
theorem dX3_endExchange_95 : decode cX3_endExchange 95 = .ok (.ireturn, 1) := by decide +kernel
