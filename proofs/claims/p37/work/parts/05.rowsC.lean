theorem dX4_init_0 : decode cX4_init 0 = .ok (.aload_n 0, 1) := by decide +kernel
theorem dX4_init_1 : decode cX4_init 1 = .ok (.invokespecial 1, 3) := by decide +kernel
theorem dX4_init_4 : decode cX4_init 4 = .ok (.aload_n 0, 1) := by decide +kernel
theorem dX4_init_5 : decode cX4_init 5 = .ok (.iconst 5, 1) := by decide +kernel
theorem dX4_init_6 : decode cX4_init 6 = .ok (.putfield 7, 3) := by decide +kernel
theorem dX4_init_9 : decode cX4_init 9 = .ok (.aload_n 0, 1) := by decide +kernel
theorem dX4_init_10 : decode cX4_init 10 = .ok (.iconst 5, 1) := by decide +kernel
theorem dX4_init_11 : decode cX4_init 11 = .ok (.putfield 13, 3) := by decide +kernel
theorem dX4_init_14 : decode cX4_init 14 = .ok (.aload_n 0, 1) := by decide +kernel
theorem dX4_init_15 : decode cX4_init 15 = .ok (.iconst 5, 1) := by decide +kernel
theorem dX4_init_16 : decode cX4_init 16 = .ok (.iconst 5, 1) := by decide +kernel
theorem dX4_init_17 : decode cX4_init 17 = .ok (.multianewarray 16 2, 4) := by decide +kernel
theorem dX4_init_21 : decode cX4_init 21 = .ok (.putfield 18, 3) := by decide +kernel
theorem dX4_init_24 : decode cX4_init 24 = .ok (.aload_n 0, 1) := by decide +kernel
theorem dX4_init_25 : decode cX4_init 25 = .ok (.iconst 5, 1) := by decide +kernel
theorem dX4_init_26 : decode cX4_init 26 = .ok (.iconst 5, 1) := by decide +kernel
theorem dX4_init_27 : decode cX4_init 27 = .ok (.multianewarray 21 2, 4) := by decide +kernel
theorem dX4_init_31 : decode cX4_init 31 = .ok (.putfield 23, 3) := by decide +kernel
theorem dX4_init_34 : decode cX4_init 34 = .ok (.aload_n 0, 1) := by decide +kernel
theorem dX4_init_35 : decode cX4_init 35 = .ok (.bipush 7, 2) := by decide +kernel
theorem dX4_init_37 : decode cX4_init 37 = .ok (.newarray .int, 2) := by decide +kernel
theorem dX4_init_39 : decode cX4_init 39 = .ok (.dup, 1) := by decide +kernel
theorem dX4_init_40 : decode cX4_init 40 = .ok (.iconst 0, 1) := by decide +kernel
theorem dX4_init_41 : decode cX4_init 41 = .ok (.iconst 0, 1) := by decide +kernel
theorem dX4_init_42 : decode cX4_init 42 = .ok (.iastore, 1) := by decide +kernel
theorem dX4_init_43 : decode cX4_init 43 = .ok (.dup, 1) := by decide +kernel
theorem dX4_init_44 : decode cX4_init 44 = .ok (.iconst 1, 1) := by decide +kernel
theorem dX4_init_45 : decode cX4_init 45 = .ok (.iconst 1, 1) := by decide +kernel
theorem dX4_init_46 : decode cX4_init 46 = .ok (.iastore, 1) := by decide +kernel
theorem dX4_init_47 : decode cX4_init 47 = .ok (.dup, 1) := by decide +kernel
theorem dX4_init_48 : decode cX4_init 48 = .ok (.iconst 2, 1) := by decide +kernel
theorem dX4_init_49 : decode cX4_init 49 = .ok (.iconst 2, 1) := by decide +kernel
theorem dX4_init_50 : decode cX4_init 50 = .ok (.iastore, 1) := by decide +kernel
theorem dX4_init_51 : decode cX4_init 51 = .ok (.dup, 1) := by decide +kernel
theorem dX4_init_52 : decode cX4_init 52 = .ok (.iconst 3, 1) := by decide +kernel
theorem dX4_init_53 : decode cX4_init 53 = .ok (.iconst 3, 1) := by decide +kernel
theorem dX4_init_54 : decode cX4_init 54 = .ok (.iastore, 1) := by decide +kernel
theorem dX4_init_55 : decode cX4_init 55 = .ok (.dup, 1) := by decide +kernel
theorem dX4_init_56 : decode cX4_init 56 = .ok (.iconst 4, 1) := by decide +kernel
theorem dX4_init_57 : decode cX4_init 57 = .ok (.iconst 4, 1) := by decide +kernel
theorem dX4_init_58 : decode cX4_init 58 = .ok (.iastore, 1) := by decide +kernel
theorem dX4_init_59 : decode cX4_init 59 = .ok (.dup, 1) := by decide +kernel
theorem dX4_init_60 : decode cX4_init 60 = .ok (.iconst 5, 1) := by decide +kernel
theorem dX4_init_61 : decode cX4_init 61 = .ok (.iconst 5, 1) := by decide +kernel
theorem dX4_init_62 : decode cX4_init 62 = .ok (.iastore, 1) := by decide +kernel
theorem dX4_init_63 : decode cX4_init 63 = .ok (.dup, 1) := by decide +kernel
theorem dX4_init_64 : decode cX4_init 64 = .ok (.bipush 6, 2) := by decide +kernel
theorem dX4_init_66 : decode cX4_init 66 = .ok (.bipush 6, 2) := by decide +kernel
theorem dX4_init_68 : decode cX4_init 68 = .ok (.iastore, 1) := by decide +kernel
theorem dX4_init_69 : decode cX4_init 69 = .ok (.putfield 26, 3) := by decide +kernel
theorem dX4_init_72 : decode cX4_init 72 = .ok (.aload_n 0, 1) := by decide +kernel
theorem dX4_init_73 : decode cX4_init 73 = .ok (.bipush 7, 2) := by decide +kernel
theorem dX4_init_75 : decode cX4_init 75 = .ok (.newarray .int, 2) := by decide +kernel
theorem dX4_init_77 : decode cX4_init 77 = .ok (.putfield 30, 3) := by decide +kernel
theorem dX4_init_80 : decode cX4_init 80 = .ok (.aload_n 0, 1) := by decide +kernel
theorem dX4_init_81 : decode cX4_init 81 = .ok (.bipush 6, 2) := by decide +kernel
theorem dX4_init_83 : decode cX4_init 83 = .ok (.newarray .int, 2) := by decide +kernel
theorem dX4_init_85 : decode cX4_init 85 = .ok (.dup, 1) := by decide +kernel
theorem dX4_init_86 : decode cX4_init 86 = .ok (.iconst 0, 1) := by decide +kernel
theorem dX4_init_87 : decode cX4_init 87 = .ok (.iconst 1, 1) := by decide +kernel
theorem dX4_init_88 : decode cX4_init 88 = .ok (.iastore, 1) := by decide +kernel
theorem dX4_init_89 : decode cX4_init 89 = .ok (.dup, 1) := by decide +kernel
theorem dX4_init_90 : decode cX4_init 90 = .ok (.iconst 1, 1) := by decide +kernel
theorem dX4_init_91 : decode cX4_init 91 = .ok (.bipush 6, 2) := by decide +kernel
theorem dX4_init_93 : decode cX4_init 93 = .ok (.iastore, 1) := by decide +kernel
theorem dX4_init_94 : decode cX4_init 94 = .ok (.dup, 1) := by decide +kernel
theorem dX4_init_95 : decode cX4_init 95 = .ok (.iconst 2, 1) := by decide +kernel
theorem dX4_init_96 : decode cX4_init 96 = .ok (.iconst 2, 1) := by decide +kernel
theorem dX4_init_97 : decode cX4_init 97 = .ok (.iastore, 1) := by decide +kernel
theorem dX4_init_98 : decode cX4_init 98 = .ok (.dup, 1) := by decide +kernel
theorem dX4_init_99 : decode cX4_init 99 = .ok (.iconst 3, 1) := by decide +kernel
theorem dX4_init_100 : decode cX4_init 100 = .ok (.iconst 3, 1) := by decide +kernel
theorem dX4_init_101 : decode cX4_init 101 = .ok (.iastore, 1) := by decide +kernel
theorem dX4_init_102 : decode cX4_init 102 = .ok (.dup, 1) := by decide +kernel
theorem dX4_init_103 : decode cX4_init 103 = .ok (.iconst 4, 1) := by decide +kernel
theorem dX4_init_104 : decode cX4_init 104 = .ok (.iconst 5, 1) := by decide +kernel
theorem dX4_init_105 : decode cX4_init 105 = .ok (.iastore, 1) := by decide +kernel
theorem dX4_init_106 : decode cX4_init 106 = .ok (.dup, 1) := by decide +kernel
theorem dX4_init_107 : decode cX4_init 107 = .ok (.iconst 5, 1) := by decide +kernel
theorem dX4_init_108 : decode cX4_init 108 = .ok (.iconst 4, 1) := by decide +kernel
theorem dX4_init_109 : decode cX4_init 109 = .ok (.iastore, 1) := by decide +kernel
theorem dX4_init_110 : decode cX4_init 110 = .ok (.putfield 33, 3) := by decide +kernel
theorem dX4_init_113 : decode cX4_init 113 = .ok (.return_, 1) := by decide +kernel
set_option maxRecDepth 20000 in
theorem ggX4_board_X4_put : GoodIn wsX4_board wsX4_put := goodIn_r _ [15, 16, 17, 7, 18, 19, 20, 21, 22, 23, 24, 25, 26, 27, 28, 29] (by decide +kernel) (by decide +kernel)
set_option maxRecDepth 20000 in
theorem gX4_board_X4_put : GoodIn wsX4_board (wsV RX4 42 RX4 yX4_put wsX4_put) := goodIn_app (goodIn_of _ (by decide +kernel)) ggX4_board_X4_put
theorem dX4_board_0 : decode cX4_board 0 = .ok (.aload_n 0, 1) := by decide +kernel
theorem dX4_board_1 : decode cX4_board 1 = .ok (.iload_n 1, 1) := by decide +kernel
theorem dX4_board_2 : decode cX4_board 2 = .ok (.putfield 7, 3) := by decide +kernel
theorem dX4_board_5 : decode cX4_board 5 = .ok (.aload_n 0, 1) := by decide +kernel
theorem dX4_board_6 : decode cX4_board 6 = .ok (.iload_n 2, 1) := by decide +kernel
theorem dX4_board_7 : decode cX4_board 7 = .ok (.putfield 13, 3) := by decide +kernel
theorem dX4_board_10 : decode cX4_board 10 = .ok (.aload_n 0, 1) := by decide +kernel
theorem dX4_board_11 : decode cX4_board 11 = .ok (.aload_n 0, 1) := by decide +kernel
theorem dX4_board_12 : decode cX4_board 12 = .ok (.getfield 7, 3) := by decide +kernel
theorem dX4_board_15 : decode cX4_board 15 = .ok (.aload_n 0, 1) := by decide +kernel
theorem dX4_board_16 : decode cX4_board 16 = .ok (.getfield 13, 3) := by decide +kernel
theorem dX4_board_19 : decode cX4_board 19 = .ok (.multianewarray 16 2, 4) := by decide +kernel
theorem dX4_board_23 : decode cX4_board 23 = .ok (.putfield 18, 3) := by decide +kernel
theorem dX4_board_26 : decode cX4_board 26 = .ok (.aload_n 0, 1) := by decide +kernel
theorem dX4_board_27 : decode cX4_board 27 = .ok (.aload_n 0, 1) := by decide +kernel
theorem dX4_board_28 : decode cX4_board 28 = .ok (.getfield 7, 3) := by decide +kernel
theorem dX4_board_31 : decode cX4_board 31 = .ok (.aload_n 0, 1) := by decide +kernel
theorem dX4_board_32 : decode cX4_board 32 = .ok (.getfield 13, 3) := by decide +kernel
theorem dX4_board_35 : decode cX4_board 35 = .ok (.multianewarray 21 2, 4) := by decide +kernel
theorem dX4_board_39 : decode cX4_board 39 = .ok (.putfield 23, 3) := by decide +kernel
theorem dX4_board_42 : decode cX4_board 42 = .ok (.aload_n 0, 1) := by decide +kernel
theorem dX4_board_43 : decode cX4_board 43 = .ok (.iconst 0, 1) := by decide +kernel
theorem dX4_board_44 : decode cX4_board 44 = .ok (.putfield 36, 3) := by decide +kernel
theorem dX4_board_47 : decode cX4_board 47 = .ok (.aload_n 0, 1) := by decide +kernel
theorem dX4_board_48 : decode cX4_board 48 = .ok (.iconst 0, 1) := by decide +kernel
theorem dX4_board_49 : decode cX4_board 49 = .ok (.putfield 39, 3) := by decide +kernel
theorem dX4_board_52 : decode cX4_board 52 = .ok (.aload_n 0, 1) := by decide +kernel
theorem dX4_board_53 : decode cX4_board 53 = .ok (.iconst 0, 1) := by decide +kernel
theorem dX4_board_54 : decode cX4_board 54 = .ok (.iconst 0, 1) := by decide +kernel
theorem dX4_board_55 : decode cX4_board 55 = .ok (.invokevirtual 42, 3) := by decide +kernel
theorem dX4_board_58 : decode cX4_board 58 = .ok (.return_, 1) := by decide +kernel
theorem dX4_put_0 : decode cX4_put 0 = .ok (.aload_n 0, 1) := by decide +kernel
theorem dX4_put_1 : decode cX4_put 1 = .ok (.iload_n 1, 1) := by decide +kernel
theorem dX4_put_2 : decode cX4_put 2 = .ok (.putfield 46, 3) := by decide +kernel
theorem dX4_put_5 : decode cX4_put 5 = .ok (.aload_n 0, 1) := by decide +kernel
theorem dX4_put_6 : decode cX4_put 6 = .ok (.iload_n 2, 1) := by decide +kernel
theorem dX4_put_7 : decode cX4_put 7 = .ok (.putfield 49, 3) := by decide +kernel
theorem dX4_put_10 : decode cX4_put 10 = .ok (.aload_n 0, 1) := by decide +kernel
theorem dX4_put_11 : decode cX4_put 11 = .ok (.bipush 6, 2) := by decide +kernel
theorem dX4_put_13 : decode cX4_put 13 = .ok (.newarray .int, 2) := by decide +kernel
theorem dX4_put_15 : decode cX4_put 15 = .ok (.dup, 1) := by decide +kernel
theorem dX4_put_16 : decode cX4_put 16 = .ok (.iconst 0, 1) := by decide +kernel
theorem dX4_put_17 : decode cX4_put 17 = .ok (.iconst 1, 1) := by decide +kernel
theorem dX4_put_18 : decode cX4_put 18 = .ok (.iastore, 1) := by decide +kernel
theorem dX4_put_19 : decode cX4_put 19 = .ok (.dup, 1) := by decide +kernel
theorem dX4_put_20 : decode cX4_put 20 = .ok (.iconst 1, 1) := by decide +kernel
theorem dX4_put_21 : decode cX4_put 21 = .ok (.bipush 6, 2) := by decide +kernel
theorem dX4_put_23 : decode cX4_put 23 = .ok (.iastore, 1) := by decide +kernel
theorem dX4_put_24 : decode cX4_put 24 = .ok (.dup, 1) := by decide +kernel
theorem dX4_put_25 : decode cX4_put 25 = .ok (.iconst 2, 1) := by decide +kernel
theorem dX4_put_26 : decode cX4_put 26 = .ok (.iconst 2, 1) := by decide +kernel
theorem dX4_put_27 : decode cX4_put 27 = .ok (.iastore, 1) := by decide +kernel
theorem dX4_put_28 : decode cX4_put 28 = .ok (.dup, 1) := by decide +kernel
theorem dX4_put_29 : decode cX4_put 29 = .ok (.iconst 3, 1) := by decide +kernel
theorem dX4_put_30 : decode cX4_put 30 = .ok (.iconst 3, 1) := by decide +kernel
theorem dX4_put_31 : decode cX4_put 31 = .ok (.iastore, 1) := by decide +kernel
theorem dX4_put_32 : decode cX4_put 32 = .ok (.dup, 1) := by decide +kernel
theorem dX4_put_33 : decode cX4_put 33 = .ok (.iconst 4, 1) := by decide +kernel
theorem dX4_put_34 : decode cX4_put 34 = .ok (.iconst 5, 1) := by decide +kernel
theorem dX4_put_35 : decode cX4_put 35 = .ok (.iastore, 1) := by decide +kernel
theorem dX4_put_36 : decode cX4_put 36 = .ok (.dup, 1) := by decide +kernel
theorem dX4_put_37 : decode cX4_put 37 = .ok (.iconst 5, 1) := by decide +kernel
theorem dX4_put_38 : decode cX4_put 38 = .ok (.iconst 4, 1) := by decide +kernel
theorem dX4_put_39 : decode cX4_put 39 = .ok (.iastore, 1) := by decide +kernel
theorem dX4_put_40 : decode cX4_put 40 = .ok (.putfield 33, 3) := by decide +kernel
theorem dX4_put_43 : decode cX4_put 43 = .ok (.return_, 1) := by decide +kernel
theorem dX4_isFree_0 : decode cX4_isFree 0 = .ok (.iload_n 1, 1) := by decide +kernel
theorem dX4_isFree_1 : decode cX4_isFree 1 = .ok (.ifCond .lt 38, 3) := by decide +kernel
theorem dX4_isFree_4 : decode cX4_isFree 4 = .ok (.iload_n 2, 1) := by decide +kernel
theorem dX4_isFree_5 : decode cX4_isFree 5 = .ok (.ifCond .lt 34, 3) := by decide +kernel
theorem dX4_isFree_8 : decode cX4_isFree 8 = .ok (.iload_n 1, 1) := by decide +kernel
theorem dX4_isFree_9 : decode cX4_isFree 9 = .ok (.aload_n 0, 1) := by decide +kernel
theorem dX4_isFree_10 : decode cX4_isFree 10 = .ok (.getfield 7, 3) := by decide +kernel
theorem dX4_isFree_13 : decode cX4_isFree 13 = .ok (.if_icmp .ge 26, 3) := by decide +kernel
theorem dX4_isFree_16 : decode cX4_isFree 16 = .ok (.iload_n 2, 1) := by decide +kernel
theorem dX4_isFree_17 : decode cX4_isFree 17 = .ok (.aload_n 0, 1) := by decide +kernel
theorem dX4_isFree_18 : decode cX4_isFree 18 = .ok (.getfield 13, 3) := by decide +kernel
theorem dX4_isFree_21 : decode cX4_isFree 21 = .ok (.if_icmp .ge 18, 3) := by decide +kernel
theorem dX4_isFree_24 : decode cX4_isFree 24 = .ok (.aload_n 0, 1) := by decide +kernel
theorem dX4_isFree_25 : decode cX4_isFree 25 = .ok (.getfield 18, 3) := by decide +kernel
theorem dX4_isFree_28 : decode cX4_isFree 28 = .ok (.iload_n 1, 1) := by decide +kernel
theorem dX4_isFree_29 : decode cX4_isFree 29 = .ok (.aaload, 1) := by decide +kernel
theorem dX4_isFree_30 : decode cX4_isFree 30 = .ok (.iload_n 2, 1) := by decide +kernel
theorem dX4_isFree_31 : decode cX4_isFree 31 = .ok (.baload, 1) := by decide +kernel
theorem dX4_isFree_32 : decode cX4_isFree 32 = .ok (.ifCond .ne 7, 3) := by decide +kernel
theorem dX4_isFree_35 : decode cX4_isFree 35 = .ok (.iconst 1, 1) := by decide +kernel
theorem dX4_isFree_36 : decode cX4_isFree 36 = .ok (.goto 4, 3) := by decide +kernel
theorem dX4_isFree_39 : decode cX4_isFree 39 = .ok (.iconst 0, 1) := by decide +kernel
theorem dX4_isFree_40 : decode cX4_isFree 40 = .ok (.ireturn, 1) := by decide +kernel
set_option maxRecDepth 20000 in
theorem ggX4_can_X4_isFree : GoodIn wsX4_can wsX4_isFree := goodIn_r _ [7, 8, 9, 10, 11, 12, 13, 14, 15, 16, 17, 18, 19, 20, 21] (by decide +kernel) (by decide +kernel)
set_option maxRecDepth 20000 in
theorem gX4_can_X4_isFree : GoodIn wsX4_can (wsV RX4 60 RX4 yX4_isFree wsX4_isFree) := goodIn_app (goodIn_of _ (by decide +kernel)) ggX4_can_X4_isFree
theorem dX4_can_0 : decode cX4_can 0 = .ok (.aload_n 0, 1) := by decide +kernel
theorem dX4_can_1 : decode cX4_can 1 = .ok (.aload_n 0, 1) := by decide +kernel
theorem dX4_can_2 : decode cX4_can 2 = .ok (.getfield 46, 3) := by decide +kernel
theorem dX4_can_5 : decode cX4_can 5 = .ok (.getstatic 52, 3) := by decide +kernel
theorem dX4_can_8 : decode cX4_can 8 = .ok (.iload_n 1, 1) := by decide +kernel
theorem dX4_can_9 : decode cX4_can 9 = .ok (.iaload, 1) := by decide +kernel
theorem dX4_can_10 : decode cX4_can 10 = .ok (.iadd, 1) := by decide +kernel
theorem dX4_can_11 : decode cX4_can 11 = .ok (.aload_n 0, 1) := by decide +kernel
theorem dX4_can_12 : decode cX4_can 12 = .ok (.getfield 49, 3) := by decide +kernel
theorem dX4_can_15 : decode cX4_can 15 = .ok (.getstatic 57, 3) := by decide +kernel
theorem dX4_can_18 : decode cX4_can 18 = .ok (.iload_n 1, 1) := by decide +kernel
theorem dX4_can_19 : decode cX4_can 19 = .ok (.iaload, 1) := by decide +kernel
theorem dX4_can_20 : decode cX4_can 20 = .ok (.iadd, 1) := by decide +kernel
theorem dX4_can_21 : decode cX4_can 21 = .ok (.invokevirtual 60, 3) := by decide +kernel
theorem dX4_can_24 : decode cX4_can 24 = .ok (.ireturn, 1) := by decide +kernel
theorem dX4_tipped_0 : decode cX4_tipped 0 = .ok (.aload_n 0, 1) := by decide +kernel
theorem dX4_tipped_1 : decode cX4_tipped 1 = .ok (.invokevirtual 64, 3) := by decide +kernel
theorem dX4_tipped_4 : decode cX4_tipped 4 = .ok (.checkcast 65, 3) := by decide +kernel
theorem dX4_tipped_7 : decode cX4_tipped 7 = .ok (.astore_n 2, 1) := by decide +kernel
theorem dX4_tipped_8 : decode cX4_tipped 8 = .ok (.iconst 2, 1) := by decide +kernel
theorem dX4_tipped_9 : decode cX4_tipped 9 = .ok (.iload_n 1, 1) := by decide +kernel
theorem dX4_tipped_10 : decode cX4_tipped 10 = .ok (.iadd, 1) := by decide +kernel
theorem dX4_tipped_11 : decode cX4_tipped 11 = .ok (.istore_n 3, 1) := by decide +kernel
theorem dX4_tipped_12 : decode cX4_tipped 12 = .ok (.iconst 2, 1) := by decide +kernel
theorem dX4_tipped_13 : decode cX4_tipped 13 = .ok (.iload_n 1, 1) := by decide +kernel
theorem dX4_tipped_14 : decode cX4_tipped 14 = .ok (.iconst 2, 1) := by decide +kernel
theorem dX4_tipped_15 : decode cX4_tipped 15 = .ok (.iadd, 1) := by decide +kernel
theorem dX4_tipped_16 : decode cX4_tipped 16 = .ok (.iconst 4, 1) := by decide +kernel
theorem dX4_tipped_17 : decode cX4_tipped 17 = .ok (.irem, 1) := by decide +kernel
theorem dX4_tipped_18 : decode cX4_tipped 18 = .ok (.iadd, 1) := by decide +kernel
theorem dX4_tipped_19 : decode cX4_tipped 19 = .ok (.istore 4, 2) := by decide +kernel
theorem dX4_tipped_21 : decode cX4_tipped 21 = .ok (.aload_n 2, 1) := by decide +kernel
theorem dX4_tipped_22 : decode cX4_tipped 22 = .ok (.iconst 1, 1) := by decide +kernel
theorem dX4_tipped_23 : decode cX4_tipped 23 = .ok (.aload_n 0, 1) := by decide +kernel
theorem dX4_tipped_24 : decode cX4_tipped 24 = .ok (.iload_n 3, 1) := by decide +kernel
theorem dX4_tipped_25 : decode cX4_tipped 25 = .ok (.iaload, 1) := by decide +kernel
theorem dX4_tipped_26 : decode cX4_tipped 26 = .ok (.iastore, 1) := by decide +kernel
theorem dX4_tipped_27 : decode cX4_tipped 27 = .ok (.aload_n 2, 1) := by decide +kernel
theorem dX4_tipped_28 : decode cX4_tipped 28 = .ok (.iload_n 3, 1) := by decide +kernel
theorem dX4_tipped_29 : decode cX4_tipped 29 = .ok (.aload_n 0, 1) := by decide +kernel
theorem dX4_tipped_30 : decode cX4_tipped 30 = .ok (.iconst 0, 1) := by decide +kernel
theorem dX4_tipped_31 : decode cX4_tipped 31 = .ok (.iaload, 1) := by decide +kernel
theorem dX4_tipped_32 : decode cX4_tipped 32 = .ok (.iastore, 1) := by decide +kernel
theorem dX4_tipped_33 : decode cX4_tipped 33 = .ok (.aload_n 2, 1) := by decide +kernel
theorem dX4_tipped_34 : decode cX4_tipped 34 = .ok (.iload 4, 2) := by decide +kernel
theorem dX4_tipped_36 : decode cX4_tipped 36 = .ok (.aload_n 0, 1) := by decide +kernel
theorem dX4_tipped_37 : decode cX4_tipped 37 = .ok (.iconst 1, 1) := by decide +kernel
theorem dX4_tipped_38 : decode cX4_tipped 38 = .ok (.iaload, 1) := by decide +kernel
theorem dX4_tipped_39 : decode cX4_tipped 39 = .ok (.iastore, 1) := by decide +kernel
theorem dX4_tipped_40 : decode cX4_tipped 40 = .ok (.aload_n 2, 1) := by decide +kernel
theorem dX4_tipped_41 : decode cX4_tipped 41 = .ok (.iconst 0, 1) := by decide +kernel
theorem dX4_tipped_42 : decode cX4_tipped 42 = .ok (.aload_n 0, 1) := by decide +kernel
theorem dX4_tipped_43 : decode cX4_tipped 43 = .ok (.iload 4, 2) := by decide +kernel
theorem dX4_tipped_45 : decode cX4_tipped 45 = .ok (.iaload, 1) := by decide +kernel
theorem dX4_tipped_46 : decode cX4_tipped 46 = .ok (.iastore, 1) := by decide +kernel
theorem dX4_tipped_47 : decode cX4_tipped 47 = .ok (.aload_n 2, 1) := by decide +kernel
theorem dX4_tipped_48 : decode cX4_tipped 48 = .ok (.areturn, 1) := by decide +kernel
set_option maxRecDepth 20000 in
theorem ggX4_roll_X4_can : GoodIn wsX4_roll wsX4_can := goodIn_r _ [13, 1, 2, 14, 15, 16, 12, 17, 18, 19, 20, 30, 31, 32, 33, 34, 35, 36, 37, 38, 39, 40] (by decide +kernel) (by decide +kernel)
set_option maxRecDepth 20000 in
theorem gX4_roll_X4_can : GoodIn wsX4_roll (wsV RX4 69 RX4 yX4_can wsX4_can) := goodIn_app (goodIn_of _ (by decide +kernel)) ggX4_roll_X4_can
set_option maxRecDepth 20000 in
theorem ggX4_roll_X4_tipped : GoodIn wsX4_roll wsX4_tipped := goodIn_r _ [23, 24, 25, 26, 27, 28, 29] (by decide +kernel) (by decide +kernel)
set_option maxRecDepth 20000 in
theorem gX4_roll_X4_tipped : GoodIn wsX4_roll (va_wsS RX4 73 yX4_tipped wsX4_tipped) := goodIn_app (goodIn_of _ (by decide +kernel)) ggX4_roll_X4_tipped
theorem dX4_roll_0 : decode cX4_roll 0 = .ok (.aload_n 0, 1) := by decide +kernel
theorem dX4_roll_1 : decode cX4_roll 1 = .ok (.iload_n 1, 1) := by decide +kernel
theorem dX4_roll_2 : decode cX4_roll 2 = .ok (.invokevirtual 69, 3) := by decide +kernel
theorem dX4_roll_5 : decode cX4_roll 5 = .ok (.ifCond .ne 5, 3) := by decide +kernel
theorem dX4_roll_8 : decode cX4_roll 8 = .ok (.iconst 0, 1) := by decide +kernel
theorem dX4_roll_9 : decode cX4_roll 9 = .ok (.ireturn, 1) := by decide +kernel
theorem dX4_roll_10 : decode cX4_roll 10 = .ok (.aload_n 0, 1) := by decide +kernel
theorem dX4_roll_11 : decode cX4_roll 11 = .ok (.dup, 1) := by decide +kernel
theorem dX4_roll_12 : decode cX4_roll 12 = .ok (.getfield 46, 3) := by decide +kernel
theorem dX4_roll_15 : decode cX4_roll 15 = .ok (.getstatic 52, 3) := by decide +kernel
theorem dX4_roll_18 : decode cX4_roll 18 = .ok (.iload_n 1, 1) := by decide +kernel
theorem dX4_roll_19 : decode cX4_roll 19 = .ok (.iaload, 1) := by decide +kernel
theorem dX4_roll_20 : decode cX4_roll 20 = .ok (.iadd, 1) := by decide +kernel
theorem dX4_roll_21 : decode cX4_roll 21 = .ok (.putfield 46, 3) := by decide +kernel
theorem dX4_roll_24 : decode cX4_roll 24 = .ok (.aload_n 0, 1) := by decide +kernel
theorem dX4_roll_25 : decode cX4_roll 25 = .ok (.dup, 1) := by decide +kernel
theorem dX4_roll_26 : decode cX4_roll 26 = .ok (.getfield 49, 3) := by decide +kernel
theorem dX4_roll_29 : decode cX4_roll 29 = .ok (.getstatic 57, 3) := by decide +kernel
theorem dX4_roll_32 : decode cX4_roll 32 = .ok (.iload_n 1, 1) := by decide +kernel
theorem dX4_roll_33 : decode cX4_roll 33 = .ok (.iaload, 1) := by decide +kernel
theorem dX4_roll_34 : decode cX4_roll 34 = .ok (.iadd, 1) := by decide +kernel
theorem dX4_roll_35 : decode cX4_roll 35 = .ok (.putfield 49, 3) := by decide +kernel
theorem dX4_roll_38 : decode cX4_roll 38 = .ok (.aload_n 0, 1) := by decide +kernel
theorem dX4_roll_39 : decode cX4_roll 39 = .ok (.aload_n 0, 1) := by decide +kernel
theorem dX4_roll_40 : decode cX4_roll 40 = .ok (.getfield 33, 3) := by decide +kernel
theorem dX4_roll_43 : decode cX4_roll 43 = .ok (.iload_n 1, 1) := by decide +kernel
theorem dX4_roll_44 : decode cX4_roll 44 = .ok (.invokestatic 73, 3) := by decide +kernel
theorem dX4_roll_47 : decode cX4_roll 47 = .ok (.putfield 33, 3) := by decide +kernel
theorem dX4_roll_50 : decode cX4_roll 50 = .ok (.aload_n 0, 1) := by decide +kernel
theorem dX4_roll_51 : decode cX4_roll 51 = .ok (.dup, 1) := by decide +kernel
theorem dX4_roll_52 : decode cX4_roll 52 = .ok (.getfield 36, 3) := by decide +kernel
theorem dX4_roll_55 : decode cX4_roll 55 = .ok (.iconst 1, 1) := by decide +kernel
theorem dX4_roll_56 : decode cX4_roll 56 = .ok (.iadd, 1) := by decide +kernel
theorem dX4_roll_57 : decode cX4_roll 57 = .ok (.putfield 36, 3) := by decide +kernel
theorem dX4_roll_60 : decode cX4_roll 60 = .ok (.aload_n 0, 1) := by decide +kernel
theorem dX4_roll_61 : decode cX4_roll 61 = .ok (.getfield 30, 3) := by decide +kernel
theorem dX4_roll_64 : decode cX4_roll 64 = .ok (.aload_n 0, 1) := by decide +kernel
theorem dX4_roll_65 : decode cX4_roll 65 = .ok (.getfield 33, 3) := by decide +kernel
theorem dX4_roll_68 : decode cX4_roll 68 = .ok (.iconst 1, 1) := by decide +kernel
theorem dX4_roll_69 : decode cX4_roll 69 = .ok (.iaload, 1) := by decide +kernel
theorem dX4_roll_70 : decode cX4_roll 70 = .ok (.iaload, 1) := by decide +kernel
theorem dX4_roll_71 : decode cX4_roll 71 = .ok (.ifCond .le 53, 3) := by decide +kernel
theorem dX4_roll_74 : decode cX4_roll 74 = .ok (.aload_n 0, 1) := by decide +kernel
theorem dX4_roll_75 : decode cX4_roll 75 = .ok (.getfield 30, 3) := by decide +kernel
theorem dX4_roll_78 : decode cX4_roll 78 = .ok (.aload_n 0, 1) := by decide +kernel
theorem dX4_roll_79 : decode cX4_roll 79 = .ok (.getfield 33, 3) := by decide +kernel
theorem dX4_roll_82 : decode cX4_roll 82 = .ok (.iconst 1, 1) := by decide +kernel
theorem dX4_roll_83 : decode cX4_roll 83 = .ok (.iaload, 1) := by decide +kernel
theorem dX4_roll_84 : decode cX4_roll 84 = .ok (.dup2, 1) := by decide +kernel
theorem dX4_roll_85 : decode cX4_roll 85 = .ok (.iaload, 1) := by decide +kernel
theorem dX4_roll_86 : decode cX4_roll 86 = .ok (.iconst 1, 1) := by decide +kernel
theorem dX4_roll_87 : decode cX4_roll 87 = .ok (.isub, 1) := by decide +kernel
theorem dX4_roll_88 : decode cX4_roll 88 = .ok (.iastore, 1) := by decide +kernel
theorem dX4_roll_89 : decode cX4_roll 89 = .ok (.aload_n 0, 1) := by decide +kernel
theorem dX4_roll_90 : decode cX4_roll 90 = .ok (.getfield 23, 3) := by decide +kernel
theorem dX4_roll_93 : decode cX4_roll 93 = .ok (.aload_n 0, 1) := by decide +kernel
theorem dX4_roll_94 : decode cX4_roll 94 = .ok (.getfield 46, 3) := by decide +kernel
theorem dX4_roll_97 : decode cX4_roll 97 = .ok (.aaload, 1) := by decide +kernel
theorem dX4_roll_98 : decode cX4_roll 98 = .ok (.aload_n 0, 1) := by decide +kernel
theorem dX4_roll_99 : decode cX4_roll 99 = .ok (.getfield 49, 3) := by decide +kernel
theorem dX4_roll_102 : decode cX4_roll 102 = .ok (.aload_n 0, 1) := by decide +kernel
theorem dX4_roll_103 : decode cX4_roll 103 = .ok (.getfield 26, 3) := by decide +kernel
theorem dX4_roll_106 : decode cX4_roll 106 = .ok (.aload_n 0, 1) := by decide +kernel
theorem dX4_roll_107 : decode cX4_roll 107 = .ok (.getfield 33, 3) := by decide +kernel
theorem dX4_roll_110 : decode cX4_roll 110 = .ok (.iconst 1, 1) := by decide +kernel
theorem dX4_roll_111 : decode cX4_roll 111 = .ok (.iaload, 1) := by decide +kernel
theorem dX4_roll_112 : decode cX4_roll 112 = .ok (.iaload, 1) := by decide +kernel
theorem dX4_roll_113 : decode cX4_roll 113 = .ok (.iastore, 1) := by decide +kernel
theorem dX4_roll_114 : decode cX4_roll 114 = .ok (.aload_n 0, 1) := by decide +kernel
theorem dX4_roll_115 : decode cX4_roll 115 = .ok (.dup, 1) := by decide +kernel
theorem dX4_roll_116 : decode cX4_roll 116 = .ok (.getfield 39, 3) := by decide +kernel
theorem dX4_roll_119 : decode cX4_roll 119 = .ok (.iconst 1, 1) := by decide +kernel
theorem dX4_roll_120 : decode cX4_roll 120 = .ok (.iadd, 1) := by decide +kernel
theorem dX4_roll_121 : decode cX4_roll 121 = .ok (.putfield 39, 3) := by decide +kernel
theorem dX4_roll_124 : decode cX4_roll 124 = .ok (.iconst 1, 1) := by decide +kernel
theorem dX4_roll_125 : decode cX4_roll 125 = .ok (.ireturn, 1) := by decide +kernel
set_option maxRecDepth 20000 in
theorem ggX4_isSame_X3_isWall : GoodIn wsX4_isSame wsX3_isWall := goodIn_ca (goodIn_r _ [18, 19, 20, 21, 22, 17, 23, 24, 25, 26, 27, 28, 29, 30, 31, 32, 33, 34, 35, 36, 37, 38, 39, 181, 182, 183, 184, 185, 186, 187, 188, 189, 190, 191, 192] (by decide +kernel) (by decide +kernel)) (goodIn_sub (fun _ h => List.mem_cons_of_mem _ (List.mem_append_right _ h)) (by decide +kernel))
set_option maxRecDepth 20000 in
theorem gX4_isSame_X3_isWall : GoodIn wsX4_isSame (wsV RX4 79 RX3 yX3_isWall wsX3_isWall) := goodIn_app (goodIn_of _ (by decide +kernel)) ggX4_isSame_X3_isWall
set_option maxRecDepth 20000 in
theorem ggX4_isSame_X3_printAt : GoodIn wsX4_isSame wsX3_printAt := goodIn_ca (goodIn_r _ [43, 19, 20, 21, 22, 17, 23, 24, 25, 26, 27, 28, 29, 30, 31, 44, 45, 46, 47, 36, 37, 38, 39, 181, 182, 183, 184, 185, 186, 187, 188, 189, 190, 191, 192] (by decide +kernel) (by decide +kernel)) (goodIn_sub (fun _ h => List.mem_cons_of_mem _ (List.mem_append_right _ h)) (by decide +kernel))
set_option maxRecDepth 20000 in
theorem gX4_isSame_X3_printAt : GoodIn wsX4_isSame (wsV RX4 84 RX3 yX3_printAt wsX3_printAt) := goodIn_app (goodIn_of _ (by decide +kernel)) ggX4_isSame_X3_printAt
set_option maxRecDepth 20000 in
theorem ggX4_isSame_X3_colourOf : GoodIn wsX4_isSame wsX3_colourOf := goodIn_ca (goodIn_r _ [51, 52, 53, 54, 17, 55, 24, 25, 56, 57, 58, 181, 182, 183, 184, 185, 186, 187, 188] (by decide +kernel) (by decide +kernel)) (goodIn_sub (fun _ h => List.mem_cons_of_mem _ (List.mem_append_right _ h)) (by decide +kernel))
set_option maxRecDepth 20000 in
theorem gX4_isSame_X3_colourOf : GoodIn wsX4_isSame (wsV RX4 88 RX3 yX3_colourOf wsX3_colourOf) := goodIn_app (goodIn_of _ (by decide +kernel)) ggX4_isSame_X3_colourOf
set_option maxRecDepth 20000 in
theorem ggX4_isSame_X3_paintOf : GoodIn wsX4_isSame wsX3_paintOf := goodIn_ca (goodIn_r _ [62, 63, 53, 54, 17, 55, 24, 25, 56, 57, 58, 181, 182, 183, 184, 185, 186, 187, 188] (by decide +kernel) (by decide +kernel)) (goodIn_sub (fun _ h => List.mem_cons_of_mem _ (List.mem_append_right _ h)) (by decide +kernel))
set_option maxRecDepth 20000 in
theorem gX4_isSame_X3_paintOf : GoodIn wsX4_isSame (wsV RX4 92 RX3 yX3_paintOf wsX3_paintOf) := goodIn_app (goodIn_of _ (by decide +kernel)) ggX4_isSame_X3_paintOf
set_option maxRecDepth 20000 in
theorem ggX4_isSame_X3_cellsWith : GoodIn wsX4_isSame wsX3_cellsWith := goodIn_ca (goodIn_r _ [67, 24, 25, 19, 68, 27, 69, 70, 31, 30, 71, 44, 45, 46, 47, 36, 26, 28, 29, 37, 38, 39, 181, 182, 183, 184, 185, 186, 187, 188, 189, 190, 191, 192] (by decide +kernel) (by decide +kernel)) (goodIn_sub (fun _ h => List.mem_cons_of_mem _ (List.mem_append_right _ h)) (by decide +kernel))
set_option maxRecDepth 20000 in
theorem gX4_isSame_X3_cellsWith : GoodIn wsX4_isSame (wsV RX4 95 RX3 yX3_cellsWith wsX3_cellsWith) := goodIn_app (goodIn_of _ (by decide +kernel)) ggX4_isSame_X3_cellsWith
set_option maxRecDepth 20000 in
theorem ggX4_isSame_X3_faceTo : GoodIn wsX4_isSame wsX3_faceTo := goodIn_ca (goodIn_r _ [75, 76, 77, 78, 17, 79, 24, 25, 80, 81, 82, 83, 84, 85, 86, 87, 88, 89, 90, 91, 92, 93, 94, 181, 182, 183, 184, 185, 186, 187, 188] (by decide +kernel) (by decide +kernel)) (goodIn_sub (fun _ h => List.mem_cons_of_mem _ (List.mem_append_right _ h)) (by decide +kernel))
set_option maxRecDepth 20000 in
theorem gX4_isSame_X3_faceTo : GoodIn wsX4_isSame (wsV RX4 98 RX3 yX3_faceTo wsX3_faceTo) := goodIn_app (goodIn_of _ (by decide +kernel)) ggX4_isSame_X3_faceTo
set_option maxRecDepth 20000 in
theorem ggX4_isSame_X3_canRoll : GoodIn wsX4_isSame wsX3_canRoll := goodIn_ca (goodIn_r _ [98, 19, 99, 77, 78, 17, 79, 24, 25, 100, 27, 101, 102, 103, 104, 105, 106, 107, 108, 109, 32, 33, 34, 35, 36, 26, 28, 29, 30, 31, 37, 38, 39, 181, 182, 183, 184, 185, 186, 187, 188, 189, 190, 191, 192] (by decide +kernel) (by decide +kernel)) (goodIn_sub (fun _ h => List.mem_cons_of_mem _ (List.mem_append_right _ h)) (by decide +kernel))
set_option maxRecDepth 20000 in
theorem gX4_isSame_X3_canRoll : GoodIn wsX4_isSame (wsV RX4 101 RX3 yX3_canRoll wsX3_canRoll) := goodIn_app (goodIn_of _ (by decide +kernel)) ggX4_isSame_X3_canRoll
set_option maxRecDepth 20000 in
theorem ggX4_isSame_X4_can : GoodIn wsX4_isSame wsX4_can := goodIn_r _ [114, 11, 12, 115, 116, 117, 113, 118, 2, 3, 4, 170, 171, 172, 173, 174, 175, 176, 177, 178, 179, 180] (by decide +kernel) (by decide +kernel)
set_option maxRecDepth 20000 in
theorem gX4_isSame_X4_can : GoodIn wsX4_isSame (wsV RX4 69 RX4 yX4_can wsX4_can) := goodIn_app (goodIn_of _ (by decide +kernel)) ggX4_isSame_X4_can
set_option maxRecDepth 20000 in
theorem ggX4_isSame_X3_width : GoodIn wsX4_isSame wsX3_width := goodIn_r _ [122, 19, 181, 182, 183, 184, 185, 186, 187, 188, 189, 190, 191, 192] (by decide +kernel) (by decide +kernel)
set_option maxRecDepth 20000 in
theorem gX4_isSame_X3_width : GoodIn wsX4_isSame (wsV RX4 104 RX3 yX3_width wsX3_width) := goodIn_app (goodIn_of _ (by decide +kernel)) ggX4_isSame_X3_width
set_option maxRecDepth 20000 in
theorem ggX4_isSame_X3_height : GoodIn wsX4_isSame wsX3_height := goodIn_r _ [126, 19, 181, 182, 183, 184, 185, 186, 187, 188, 189, 190, 191, 192] (by decide +kernel) (by decide +kernel)
set_option maxRecDepth 20000 in
theorem gX4_isSame_X3_height : GoodIn wsX4_isSame (wsV RX4 108 RX3 yX3_height wsX3_height) := goodIn_app (goodIn_of _ (by decide +kernel)) ggX4_isSame_X3_height
set_option maxRecDepth 20000 in
theorem ggX4_isSame_X3_walls : GoodIn wsX4_isSame wsX3_walls := goodIn_r _ [130, 19, 131, 27, 132, 133, 35, 181, 182, 183, 184, 185, 186, 187, 188, 189, 190, 191, 192] (by decide +kernel) (by decide +kernel)
set_option maxRecDepth 20000 in
theorem gX4_isSame_X3_walls : GoodIn wsX4_isSame (wsV RX4 111 RX3 yX3_walls wsX3_walls) := goodIn_app (goodIn_of _ (by decide +kernel)) ggX4_isSame_X3_walls
set_option maxRecDepth 20000 in
theorem ggX4_isSame_X3_rolls : GoodIn wsX4_isSame wsX3_rolls := goodIn_r _ [137, 138, 181, 182, 183, 184, 185, 186, 187, 188] (by decide +kernel) (by decide +kernel)
set_option maxRecDepth 20000 in
theorem gX4_isSame_X3_rolls : GoodIn wsX4_isSame (wsV RX4 114 RX3 yX3_rolls wsX3_rolls) := goodIn_app (goodIn_of _ (by decide +kernel)) ggX4_isSame_X3_rolls
set_option maxRecDepth 20000 in
theorem ggX4_isSame_X3_prints : GoodIn wsX4_isSame wsX3_prints := goodIn_r _ [142, 143, 181, 182, 183, 184, 185, 186, 187, 188] (by decide +kernel) (by decide +kernel)
set_option maxRecDepth 20000 in
theorem gX4_isSame_X3_prints : GoodIn wsX4_isSame (wsV RX4 116 RX3 yX3_prints wsX3_prints) := goodIn_app (goodIn_of _ (by decide +kernel)) ggX4_isSame_X3_prints
set_option maxRecDepth 20000 in
theorem ggX4_isSame_X3_column : GoodIn wsX4_isSame wsX3_column := goodIn_r _ [147, 99, 104, 27, 105, 181, 182, 183, 184, 185, 186, 187, 188] (by decide +kernel) (by decide +kernel)
set_option maxRecDepth 20000 in
theorem gX4_isSame_X3_column : GoodIn wsX4_isSame (wsV RX4 118 RX3 yX3_column wsX3_column) := goodIn_app (goodIn_of _ (by decide +kernel)) ggX4_isSame_X3_column
set_option maxRecDepth 20000 in
theorem ggX4_isSame_X3_row : GoodIn wsX4_isSame wsX3_row := goodIn_r _ [151, 99, 107, 27, 108, 181, 182, 183, 184, 185, 186, 187, 188] (by decide +kernel) (by decide +kernel)
set_option maxRecDepth 20000 in
theorem gX4_isSame_X3_row : GoodIn wsX4_isSame (wsV RX4 121 RX3 yX3_row wsX3_row) := goodIn_app (goodIn_of _ (by decide +kernel)) ggX4_isSame_X3_row
set_option maxRecDepth 20000 in
theorem ggX4_isSame_X3_top : GoodIn wsX4_isSame wsX3_top := goodIn_r _ [155, 76, 90, 81, 91, 181, 182, 183, 184, 185, 186, 187, 188] (by decide +kernel) (by decide +kernel)
set_option maxRecDepth 20000 in
theorem gX4_isSame_X3_top : GoodIn wsX4_isSame (wsV RX4 124 RX3 yX3_top wsX3_top) := goodIn_app (goodIn_of _ (by decide +kernel)) ggX4_isSame_X3_top
set_option maxRecDepth 20000 in
theorem ggX4_isSame_X3_bottom : GoodIn wsX4_isSame wsX3_bottom := goodIn_r _ [159, 160, 153, 154, 17, 155, 76, 90, 81, 91, 181, 182, 183, 184, 185, 186, 187, 188] (by decide +kernel) (by decide +kernel)
set_option maxRecDepth 20000 in
theorem gX4_isSame_X3_bottom : GoodIn wsX4_isSame (wsV RX4 127 RX3 yX3_bottom wsX3_bottom) := goodIn_app (goodIn_of _ (by decide +kernel)) ggX4_isSame_X3_bottom
set_option maxRecDepth 20000 in
theorem ggX4_isSame_X3_isAsAtFirst : GoodIn wsX4_isSame wsX3_isAsAtFirst := goodIn_r _ [164, 76, 181, 182, 183, 184, 185, 186, 187, 188] (by decide +kernel) (by decide +kernel)
set_option maxRecDepth 20000 in
theorem gX4_isSame_X3_isAsAtFirst : GoodIn wsX4_isSame (wsV RX4 130 RX3 yX3_isAsAtFirst wsX3_isAsAtFirst) := goodIn_app (goodIn_of _ (by decide +kernel)) ggX4_isSame_X3_isAsAtFirst
set_option maxRecDepth 20000 in
theorem ggX4_isSame_X3_meanPaint : GoodIn wsX4_isSame wsX3_meanPaint := goodIn_r _ [168, 63, 169, 181, 182, 183, 184, 185, 186, 187, 188] (by decide +kernel) (by decide +kernel)
set_option maxRecDepth 20000 in
theorem gX4_isSame_X3_meanPaint : GoodIn wsX4_isSame (wsV RX4 134 RX3 yX3_meanPaint wsX3_meanPaint) := goodIn_app (goodIn_of _ (by decide +kernel)) ggX4_isSame_X3_meanPaint
theorem dX4_isSame_0 : decode cX4_isSame 0 = .ok (.iconst 0, 1) := by decide +kernel
theorem dX4_isSame_1 : decode cX4_isSame 1 = .ok (.istore_n 2, 1) := by decide +kernel
theorem dX4_isSame_2 : decode cX4_isSame 2 = .ok (.bipush 10, 2) := by decide +kernel
theorem dX4_isSame_4 : decode cX4_isSame 4 = .ok (.newarray .int, 2) := by decide +kernel
theorem dX4_isSame_6 : decode cX4_isSame 6 = .ok (.astore_n 3, 1) := by decide +kernel
theorem dX4_isSame_7 : decode cX4_isSame 7 = .ok (.iconst 0, 1) := by decide +kernel
theorem dX4_isSame_8 : decode cX4_isSame 8 = .ok (.istore 4, 2) := by decide +kernel
theorem dX4_isSame_10 : decode cX4_isSame 10 = .ok (.iload 4, 2) := by decide +kernel
theorem dX4_isSame_12 : decode cX4_isSame 12 = .ok (.aload_n 0, 1) := by decide +kernel
theorem dX4_isSame_13 : decode cX4_isSame 13 = .ok (.getfield 7, 3) := by decide +kernel
theorem dX4_isSame_16 : decode cX4_isSame 16 = .ok (.if_icmp .ge 108, 3) := by decide +kernel
theorem dX4_isSame_19 : decode cX4_isSame 19 = .ok (.iconst 0, 1) := by decide +kernel
theorem dX4_isSame_20 : decode cX4_isSame 20 = .ok (.istore 5, 2) := by decide +kernel
theorem dX4_isSame_22 : decode cX4_isSame 22 = .ok (.iload 5, 2) := by decide +kernel
theorem dX4_isSame_24 : decode cX4_isSame 24 = .ok (.aload_n 0, 1) := by decide +kernel
theorem dX4_isSame_25 : decode cX4_isSame 25 = .ok (.getfield 13, 3) := by decide +kernel
theorem dX4_isSame_28 : decode cX4_isSame 28 = .ok (.if_icmp .ge 90, 3) := by decide +kernel
theorem dX4_isSame_31 : decode cX4_isSame 31 = .ok (.aload_n 1, 1) := by decide +kernel
theorem dX4_isSame_32 : decode cX4_isSame 32 = .ok (.iload 4, 2) := by decide +kernel
theorem dX4_isSame_34 : decode cX4_isSame 34 = .ok (.iload 5, 2) := by decide +kernel
theorem dX4_isSame_36 : decode cX4_isSame 36 = .ok (.invokevirtual 79, 3) := by decide +kernel
theorem dX4_isSame_39 : decode cX4_isSame 39 = .ok (.aload_n 0, 1) := by decide +kernel
theorem dX4_isSame_40 : decode cX4_isSame 40 = .ok (.getfield 18, 3) := by decide +kernel
theorem dX4_isSame_43 : decode cX4_isSame 43 = .ok (.iload 4, 2) := by decide +kernel
theorem dX4_isSame_45 : decode cX4_isSame 45 = .ok (.aaload, 1) := by decide +kernel
theorem dX4_isSame_46 : decode cX4_isSame 46 = .ok (.iload 5, 2) := by decide +kernel
theorem dX4_isSame_48 : decode cX4_isSame 48 = .ok (.baload, 1) := by decide +kernel
theorem dX4_isSame_49 : decode cX4_isSame 49 = .ok (.if_icmp .ne 24, 3) := by decide +kernel
theorem dX4_isSame_52 : decode cX4_isSame 52 = .ok (.aload_n 1, 1) := by decide +kernel
theorem dX4_isSame_53 : decode cX4_isSame 53 = .ok (.iload 4, 2) := by decide +kernel
theorem dX4_isSame_55 : decode cX4_isSame 55 = .ok (.iload 5, 2) := by decide +kernel
theorem dX4_isSame_57 : decode cX4_isSame 57 = .ok (.invokevirtual 84, 3) := by decide +kernel
theorem dX4_isSame_60 : decode cX4_isSame 60 = .ok (.aload_n 0, 1) := by decide +kernel
theorem dX4_isSame_61 : decode cX4_isSame 61 = .ok (.getfield 23, 3) := by decide +kernel
theorem dX4_isSame_64 : decode cX4_isSame 64 = .ok (.iload 4, 2) := by decide +kernel
theorem dX4_isSame_66 : decode cX4_isSame 66 = .ok (.aaload, 1) := by decide +kernel
theorem dX4_isSame_67 : decode cX4_isSame 67 = .ok (.iload 5, 2) := by decide +kernel
theorem dX4_isSame_69 : decode cX4_isSame 69 = .ok (.iaload, 1) := by decide +kernel
theorem dX4_isSame_70 : decode cX4_isSame 70 = .ok (.if_icmp .eq 5, 3) := by decide +kernel
theorem dX4_isSame_73 : decode cX4_isSame 73 = .ok (.iconst 0, 1) := by decide +kernel
theorem dX4_isSame_74 : decode cX4_isSame 74 = .ok (.ireturn, 1) := by decide +kernel
theorem dX4_isSame_75 : decode cX4_isSame 75 = .ok (.iload_n 2, 1) := by decide +kernel
theorem dX4_isSame_76 : decode cX4_isSame 76 = .ok (.aload_n 0, 1) := by decide +kernel
theorem dX4_isSame_77 : decode cX4_isSame 77 = .ok (.getfield 18, 3) := by decide +kernel
theorem dX4_isSame_80 : decode cX4_isSame 80 = .ok (.iload 4, 2) := by decide +kernel
theorem dX4_isSame_82 : decode cX4_isSame 82 = .ok (.aaload, 1) := by decide +kernel
theorem dX4_isSame_83 : decode cX4_isSame 83 = .ok (.iload 5, 2) := by decide +kernel
theorem dX4_isSame_85 : decode cX4_isSame 85 = .ok (.baload, 1) := by decide +kernel
theorem dX4_isSame_86 : decode cX4_isSame 86 = .ok (.ifCond .eq 7, 3) := by decide +kernel
theorem dX4_isSame_89 : decode cX4_isSame 89 = .ok (.iconst 1, 1) := by decide +kernel
theorem dX4_isSame_90 : decode cX4_isSame 90 = .ok (.goto 4, 3) := by decide +kernel
theorem dX4_isSame_93 : decode cX4_isSame 93 = .ok (.iconst 0, 1) := by decide +kernel
theorem dX4_isSame_94 : decode cX4_isSame 94 = .ok (.iadd, 1) := by decide +kernel
theorem dX4_isSame_95 : decode cX4_isSame 95 = .ok (.istore_n 2, 1) := by decide +kernel
theorem dX4_isSame_96 : decode cX4_isSame 96 = .ok (.aload_n 3, 1) := by decide +kernel
theorem dX4_isSame_97 : decode cX4_isSame 97 = .ok (.aload_n 0, 1) := by decide +kernel
theorem dX4_isSame_98 : decode cX4_isSame 98 = .ok (.getfield 23, 3) := by decide +kernel
theorem dX4_isSame_101 : decode cX4_isSame 101 = .ok (.iload 4, 2) := by decide +kernel
theorem dX4_isSame_103 : decode cX4_isSame 103 = .ok (.aaload, 1) := by decide +kernel
theorem dX4_isSame_104 : decode cX4_isSame 104 = .ok (.iload 5, 2) := by decide +kernel
theorem dX4_isSame_106 : decode cX4_isSame 106 = .ok (.iaload, 1) := by decide +kernel
theorem dX4_isSame_107 : decode cX4_isSame 107 = .ok (.dup2, 1) := by decide +kernel
theorem dX4_isSame_108 : decode cX4_isSame 108 = .ok (.iaload, 1) := by decide +kernel
theorem dX4_isSame_109 : decode cX4_isSame 109 = .ok (.iconst 1, 1) := by decide +kernel
theorem dX4_isSame_110 : decode cX4_isSame 110 = .ok (.iadd, 1) := by decide +kernel
theorem dX4_isSame_111 : decode cX4_isSame 111 = .ok (.iastore, 1) := by decide +kernel
theorem dX4_isSame_112 : decode cX4_isSame 112 = .ok (.iinc 5 1, 3) := by decide +kernel
theorem dX4_isSame_115 : decode cX4_isSame 115 = .ok (.goto (-93), 3) := by decide +kernel
theorem dX4_isSame_118 : decode cX4_isSame 118 = .ok (.iinc 4 1, 3) := by decide +kernel
theorem dX4_isSame_121 : decode cX4_isSame 121 = .ok (.goto (-111), 3) := by decide +kernel
theorem dX4_isSame_124 : decode cX4_isSame 124 = .ok (.iconst 0, 1) := by decide +kernel
theorem dX4_isSame_125 : decode cX4_isSame 125 = .ok (.istore 4, 2) := by decide +kernel
theorem dX4_isSame_127 : decode cX4_isSame 127 = .ok (.iconst 1, 1) := by decide +kernel
theorem dX4_isSame_128 : decode cX4_isSame 128 = .ok (.istore 5, 2) := by decide +kernel
theorem dX4_isSame_130 : decode cX4_isSame 130 = .ok (.iload 5, 2) := by decide +kernel
theorem dX4_isSame_132 : decode cX4_isSame 132 = .ok (.bipush 7, 2) := by decide +kernel
theorem dX4_isSame_134 : decode cX4_isSame 134 = .ok (.if_icmp .ge 55, 3) := by decide +kernel
theorem dX4_isSame_137 : decode cX4_isSame 137 = .ok (.aload_n 1, 1) := by decide +kernel
theorem dX4_isSame_138 : decode cX4_isSame 138 = .ok (.iload 5, 2) := by decide +kernel
theorem dX4_isSame_140 : decode cX4_isSame 140 = .ok (.invokevirtual 88, 3) := by decide +kernel
theorem dX4_isSame_143 : decode cX4_isSame 143 = .ok (.aload_n 0, 1) := by decide +kernel
theorem dX4_isSame_144 : decode cX4_isSame 144 = .ok (.getfield 26, 3) := by decide +kernel
theorem dX4_isSame_147 : decode cX4_isSame 147 = .ok (.iload 5, 2) := by decide +kernel
theorem dX4_isSame_149 : decode cX4_isSame 149 = .ok (.iaload, 1) := by decide +kernel
theorem dX4_isSame_150 : decode cX4_isSame 150 = .ok (.if_icmp .ne 19, 3) := by decide +kernel
theorem dX4_isSame_153 : decode cX4_isSame 153 = .ok (.aload_n 1, 1) := by decide +kernel
theorem dX4_isSame_154 : decode cX4_isSame 154 = .ok (.iload 5, 2) := by decide +kernel
theorem dX4_isSame_156 : decode cX4_isSame 156 = .ok (.invokevirtual 92, 3) := by decide +kernel
theorem dX4_isSame_159 : decode cX4_isSame 159 = .ok (.aload_n 0, 1) := by decide +kernel
theorem dX4_isSame_160 : decode cX4_isSame 160 = .ok (.getfield 30, 3) := by decide +kernel
theorem dX4_isSame_163 : decode cX4_isSame 163 = .ok (.iload 5, 2) := by decide +kernel
theorem dX4_isSame_165 : decode cX4_isSame 165 = .ok (.iaload, 1) := by decide +kernel
theorem dX4_isSame_166 : decode cX4_isSame 166 = .ok (.if_icmp .eq 5, 3) := by decide +kernel
theorem dX4_isSame_169 : decode cX4_isSame 169 = .ok (.iconst 0, 1) := by decide +kernel
theorem dX4_isSame_170 : decode cX4_isSame 170 = .ok (.ireturn, 1) := by decide +kernel
theorem dX4_isSame_171 : decode cX4_isSame 171 = .ok (.iload 4, 2) := by decide +kernel
theorem dX4_isSame_173 : decode cX4_isSame 173 = .ok (.aload_n 0, 1) := by decide +kernel
theorem dX4_isSame_174 : decode cX4_isSame 174 = .ok (.getfield 30, 3) := by decide +kernel
theorem dX4_isSame_177 : decode cX4_isSame 177 = .ok (.iload 5, 2) := by decide +kernel
theorem dX4_isSame_179 : decode cX4_isSame 179 = .ok (.iaload, 1) := by decide +kernel
theorem dX4_isSame_180 : decode cX4_isSame 180 = .ok (.iadd, 1) := by decide +kernel
theorem dX4_isSame_181 : decode cX4_isSame 181 = .ok (.istore 4, 2) := by decide +kernel
theorem dX4_isSame_183 : decode cX4_isSame 183 = .ok (.iinc 5 1, 3) := by decide +kernel
theorem dX4_isSame_186 : decode cX4_isSame 186 = .ok (.goto (-56), 3) := by decide +kernel
theorem dX4_isSame_189 : decode cX4_isSame 189 = .ok (.iconst 0, 1) := by decide +kernel
theorem dX4_isSame_190 : decode cX4_isSame 190 = .ok (.istore 5, 2) := by decide +kernel
theorem dX4_isSame_192 : decode cX4_isSame 192 = .ok (.iload 5, 2) := by decide +kernel
theorem dX4_isSame_194 : decode cX4_isSame 194 = .ok (.bipush 10, 2) := by decide +kernel
theorem dX4_isSame_196 : decode cX4_isSame 196 = .ok (.if_icmp .ge 24, 3) := by decide +kernel
theorem dX4_isSame_199 : decode cX4_isSame 199 = .ok (.aload_n 1, 1) := by decide +kernel
theorem dX4_isSame_200 : decode cX4_isSame 200 = .ok (.iload 5, 2) := by decide +kernel
theorem dX4_isSame_202 : decode cX4_isSame 202 = .ok (.invokevirtual 95, 3) := by decide +kernel
theorem dX4_isSame_205 : decode cX4_isSame 205 = .ok (.aload_n 3, 1) := by decide +kernel
theorem dX4_isSame_206 : decode cX4_isSame 206 = .ok (.iload 5, 2) := by decide +kernel
theorem dX4_isSame_208 : decode cX4_isSame 208 = .ok (.iaload, 1) := by decide +kernel
theorem dX4_isSame_209 : decode cX4_isSame 209 = .ok (.if_icmp .eq 5, 3) := by decide +kernel
theorem dX4_isSame_212 : decode cX4_isSame 212 = .ok (.iconst 0, 1) := by decide +kernel
theorem dX4_isSame_213 : decode cX4_isSame 213 = .ok (.ireturn, 1) := by decide +kernel
theorem dX4_isSame_214 : decode cX4_isSame 214 = .ok (.iinc 5 1, 3) := by decide +kernel
theorem dX4_isSame_217 : decode cX4_isSame 217 = .ok (.goto (-25), 3) := by decide +kernel
theorem dX4_isSame_220 : decode cX4_isSame 220 = .ok (.iconst 0, 1) := by decide +kernel
theorem dX4_isSame_221 : decode cX4_isSame 221 = .ok (.istore 5, 2) := by decide +kernel
theorem dX4_isSame_223 : decode cX4_isSame 223 = .ok (.iload 5, 2) := by decide +kernel
theorem dX4_isSame_225 : decode cX4_isSame 225 = .ok (.iconst 4, 1) := by decide +kernel
theorem dX4_isSame_226 : decode cX4_isSame 226 = .ok (.if_icmp .ge 44, 3) := by decide +kernel
theorem dX4_isSame_229 : decode cX4_isSame 229 = .ok (.aload_n 1, 1) := by decide +kernel
theorem dX4_isSame_230 : decode cX4_isSame 230 = .ok (.iload 5, 2) := by decide +kernel
theorem dX4_isSame_232 : decode cX4_isSame 232 = .ok (.invokevirtual 98, 3) := by decide +kernel
theorem dX4_isSame_235 : decode cX4_isSame 235 = .ok (.aload_n 0, 1) := by decide +kernel
theorem dX4_isSame_236 : decode cX4_isSame 236 = .ok (.getfield 33, 3) := by decide +kernel
theorem dX4_isSame_239 : decode cX4_isSame 239 = .ok (.iconst 2, 1) := by decide +kernel
theorem dX4_isSame_240 : decode cX4_isSame 240 = .ok (.iload 5, 2) := by decide +kernel
theorem dX4_isSame_242 : decode cX4_isSame 242 = .ok (.iadd, 1) := by decide +kernel
theorem dX4_isSame_243 : decode cX4_isSame 243 = .ok (.iaload, 1) := by decide +kernel
theorem dX4_isSame_244 : decode cX4_isSame 244 = .ok (.if_icmp .ne 18, 3) := by decide +kernel
theorem dX4_isSame_247 : decode cX4_isSame 247 = .ok (.aload_n 1, 1) := by decide +kernel
theorem dX4_isSame_248 : decode cX4_isSame 248 = .ok (.iload 5, 2) := by decide +kernel
theorem dX4_isSame_250 : decode cX4_isSame 250 = .ok (.invokevirtual 101, 3) := by decide +kernel
theorem dX4_isSame_253 : decode cX4_isSame 253 = .ok (.aload_n 0, 1) := by decide +kernel
theorem dX4_isSame_254 : decode cX4_isSame 254 = .ok (.iload 5, 2) := by decide +kernel
theorem dX4_isSame_256 : decode cX4_isSame 256 = .ok (.invokevirtual 69, 3) := by decide +kernel
theorem dX4_isSame_259 : decode cX4_isSame 259 = .ok (.if_icmp .eq 5, 3) := by decide +kernel
theorem dX4_isSame_262 : decode cX4_isSame 262 = .ok (.iconst 0, 1) := by decide +kernel
theorem dX4_isSame_263 : decode cX4_isSame 263 = .ok (.ireturn, 1) := by decide +kernel
theorem dX4_isSame_264 : decode cX4_isSame 264 = .ok (.iinc 5 1, 3) := by decide +kernel
theorem dX4_isSame_267 : decode cX4_isSame 267 = .ok (.goto (-44), 3) := by decide +kernel
theorem dX4_isSame_270 : decode cX4_isSame 270 = .ok (.aload_n 1, 1) := by decide +kernel
theorem dX4_isSame_271 : decode cX4_isSame 271 = .ok (.invokevirtual 104, 3) := by decide +kernel
theorem dX4_isSame_274 : decode cX4_isSame 274 = .ok (.aload_n 0, 1) := by decide +kernel
theorem dX4_isSame_275 : decode cX4_isSame 275 = .ok (.getfield 7, 3) := by decide +kernel
theorem dX4_isSame_278 : decode cX4_isSame 278 = .ok (.if_icmp .ne 143, 3) := by decide +kernel
theorem dX4_isSame_281 : decode cX4_isSame 281 = .ok (.aload_n 1, 1) := by decide +kernel
theorem dX4_isSame_282 : decode cX4_isSame 282 = .ok (.invokevirtual 108, 3) := by decide +kernel
theorem dX4_isSame_285 : decode cX4_isSame 285 = .ok (.aload_n 0, 1) := by decide +kernel
theorem dX4_isSame_286 : decode cX4_isSame 286 = .ok (.getfield 13, 3) := by decide +kernel
theorem dX4_isSame_289 : decode cX4_isSame 289 = .ok (.if_icmp .ne 132, 3) := by decide +kernel
theorem dX4_isSame_292 : decode cX4_isSame 292 = .ok (.aload_n 1, 1) := by decide +kernel
theorem dX4_isSame_293 : decode cX4_isSame 293 = .ok (.invokevirtual 111, 3) := by decide +kernel
theorem dX4_isSame_296 : decode cX4_isSame 296 = .ok (.iload_n 2, 1) := by decide +kernel
theorem dX4_isSame_297 : decode cX4_isSame 297 = .ok (.if_icmp .ne 124, 3) := by decide +kernel
theorem dX4_isSame_300 : decode cX4_isSame 300 = .ok (.aload_n 1, 1) := by decide +kernel
theorem dX4_isSame_301 : decode cX4_isSame 301 = .ok (.invokevirtual 114, 3) := by decide +kernel
theorem dX4_isSame_304 : decode cX4_isSame 304 = .ok (.aload_n 0, 1) := by decide +kernel
theorem dX4_isSame_305 : decode cX4_isSame 305 = .ok (.getfield 36, 3) := by decide +kernel
theorem dX4_isSame_308 : decode cX4_isSame 308 = .ok (.if_icmp .ne 113, 3) := by decide +kernel
theorem dX4_isSame_311 : decode cX4_isSame 311 = .ok (.aload_n 1, 1) := by decide +kernel
theorem dX4_isSame_312 : decode cX4_isSame 312 = .ok (.invokevirtual 116, 3) := by decide +kernel
theorem dX4_isSame_315 : decode cX4_isSame 315 = .ok (.aload_n 0, 1) := by decide +kernel
theorem dX4_isSame_316 : decode cX4_isSame 316 = .ok (.getfield 39, 3) := by decide +kernel
theorem dX4_isSame_319 : decode cX4_isSame 319 = .ok (.if_icmp .ne 102, 3) := by decide +kernel
theorem dX4_isSame_322 : decode cX4_isSame 322 = .ok (.aload_n 1, 1) := by decide +kernel
theorem dX4_isSame_323 : decode cX4_isSame 323 = .ok (.invokevirtual 118, 3) := by decide +kernel
theorem dX4_isSame_326 : decode cX4_isSame 326 = .ok (.aload_n 0, 1) := by decide +kernel
theorem dX4_isSame_327 : decode cX4_isSame 327 = .ok (.getfield 46, 3) := by decide +kernel
theorem dX4_isSame_330 : decode cX4_isSame 330 = .ok (.if_icmp .ne 91, 3) := by decide +kernel
theorem dX4_isSame_333 : decode cX4_isSame 333 = .ok (.aload_n 1, 1) := by decide +kernel
theorem dX4_isSame_334 : decode cX4_isSame 334 = .ok (.invokevirtual 121, 3) := by decide +kernel
theorem dX4_isSame_337 : decode cX4_isSame 337 = .ok (.aload_n 0, 1) := by decide +kernel
theorem dX4_isSame_338 : decode cX4_isSame 338 = .ok (.getfield 49, 3) := by decide +kernel
theorem dX4_isSame_341 : decode cX4_isSame 341 = .ok (.if_icmp .ne 80, 3) := by decide +kernel
theorem dX4_isSame_344 : decode cX4_isSame 344 = .ok (.aload_n 1, 1) := by decide +kernel
theorem dX4_isSame_345 : decode cX4_isSame 345 = .ok (.invokevirtual 124, 3) := by decide +kernel
theorem dX4_isSame_348 : decode cX4_isSame 348 = .ok (.aload_n 0, 1) := by decide +kernel
theorem dX4_isSame_349 : decode cX4_isSame 349 = .ok (.getfield 33, 3) := by decide +kernel
theorem dX4_isSame_352 : decode cX4_isSame 352 = .ok (.iconst 0, 1) := by decide +kernel
theorem dX4_isSame_353 : decode cX4_isSame 353 = .ok (.iaload, 1) := by decide +kernel
theorem dX4_isSame_354 : decode cX4_isSame 354 = .ok (.if_icmp .ne 67, 3) := by decide +kernel
theorem dX4_isSame_357 : decode cX4_isSame 357 = .ok (.aload_n 1, 1) := by decide +kernel
theorem dX4_isSame_358 : decode cX4_isSame 358 = .ok (.invokevirtual 127, 3) := by decide +kernel
theorem dX4_isSame_361 : decode cX4_isSame 361 = .ok (.aload_n 0, 1) := by decide +kernel
theorem dX4_isSame_362 : decode cX4_isSame 362 = .ok (.getfield 33, 3) := by decide +kernel
theorem dX4_isSame_365 : decode cX4_isSame 365 = .ok (.iconst 1, 1) := by decide +kernel
theorem dX4_isSame_366 : decode cX4_isSame 366 = .ok (.iaload, 1) := by decide +kernel
theorem dX4_isSame_367 : decode cX4_isSame 367 = .ok (.if_icmp .ne 54, 3) := by decide +kernel
theorem dX4_isSame_370 : decode cX4_isSame 370 = .ok (.aload_n 1, 1) := by decide +kernel
theorem dX4_isSame_371 : decode cX4_isSame 371 = .ok (.invokevirtual 130, 3) := by decide +kernel
theorem dX4_isSame_374 : decode cX4_isSame 374 = .ok (.aload_n 0, 1) := by decide +kernel
theorem dX4_isSame_375 : decode cX4_isSame 375 = .ok (.getfield 33, 3) := by decide +kernel
theorem dX4_isSame_378 : decode cX4_isSame 378 = .ok (.iconst 0, 1) := by decide +kernel
theorem dX4_isSame_379 : decode cX4_isSame 379 = .ok (.iaload, 1) := by decide +kernel
theorem dX4_isSame_380 : decode cX4_isSame 380 = .ok (.iconst 1, 1) := by decide +kernel
theorem dX4_isSame_381 : decode cX4_isSame 381 = .ok (.if_icmp .ne 17, 3) := by decide +kernel
theorem dX4_isSame_384 : decode cX4_isSame 384 = .ok (.aload_n 0, 1) := by decide +kernel
theorem dX4_isSame_385 : decode cX4_isSame 385 = .ok (.getfield 33, 3) := by decide +kernel
theorem dX4_isSame_388 : decode cX4_isSame 388 = .ok (.iconst 2, 1) := by decide +kernel
theorem dX4_isSame_389 : decode cX4_isSame 389 = .ok (.iaload, 1) := by decide +kernel
theorem dX4_isSame_390 : decode cX4_isSame 390 = .ok (.iconst 2, 1) := by decide +kernel
theorem dX4_isSame_391 : decode cX4_isSame 391 = .ok (.if_icmp .ne 7, 3) := by decide +kernel
theorem dX4_isSame_394 : decode cX4_isSame 394 = .ok (.iconst 1, 1) := by decide +kernel
theorem dX4_isSame_395 : decode cX4_isSame 395 = .ok (.goto 4, 3) := by decide +kernel
theorem dX4_isSame_398 : decode cX4_isSame 398 = .ok (.iconst 0, 1) := by decide +kernel
theorem dX4_isSame_399 : decode cX4_isSame 399 = .ok (.if_icmp .ne 22, 3) := by decide +kernel
theorem dX4_isSame_402 : decode cX4_isSame 402 = .ok (.aload_n 1, 1) := by decide +kernel
theorem dX4_isSame_403 : decode cX4_isSame 403 = .ok (.invokevirtual 134, 3) := by decide +kernel
theorem dX4_isSame_406 : decode cX4_isSame 406 = .ok (.iload 4, 2) := by decide +kernel
theorem dX4_isSame_408 : decode cX4_isSame 408 = .ok (.i2d, 1) := by decide +kernel
theorem dX4_isSame_409 : decode cX4_isSame 409 = .ok (.ldc2_w 138, 3) := by decide +kernel
theorem dX4_isSame_412 : decode cX4_isSame 412 = .ok (.ddiv, 1) := by decide +kernel
theorem dX4_isSame_413 : decode cX4_isSame 413 = .ok (.dcmp .l, 1) := by decide +kernel
theorem dX4_isSame_414 : decode cX4_isSame 414 = .ok (.ifCond .ne 7, 3) := by decide +kernel
theorem dX4_isSame_417 : decode cX4_isSame 417 = .ok (.iconst 1, 1) := by decide +kernel
theorem dX4_isSame_418 : decode cX4_isSame 418 = .ok (.goto 4, 3) := by decide +kernel
theorem dX4_isSame_421 : decode cX4_isSame 421 = .ok (.iconst 0, 1) := by decide +kernel
theorem dX4_isSame_422 : decode cX4_isSame 422 = .ok (.ireturn, 1) := by decide +kernel
