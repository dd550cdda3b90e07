theorem dX1_isDarkOn_29 : decode cX1_isDarkOn 29 = .ok (.aload_n 0, 1) := by decide +kernel
theorem dX1_isDarkOn_30 : decode cX1_isDarkOn 30 = .ok (.getfield 14, 3) := by decide +kernel
theorem dX1_isDarkOn_33 : decode cX1_isDarkOn 33 = .ok (.iload_n 3, 1) := by decide +kernel
theorem dX1_isDarkOn_34 : decode cX1_isDarkOn 34 = .ok (.iload_n 2, 1) := by decide +kernel
theorem dX1_isDarkOn_35 : decode cX1_isDarkOn 35 = .ok (.invokevirtual 83, 3) := by decide +kernel
theorem dX1_isDarkOn_38 : decode cX1_isDarkOn 38 = .ok (.ifCond .eq 26, 3) := by decide +kernel
theorem dX1_isDarkOn_41 : decode cX1_isDarkOn 41 = .ok (.aload_n 0, 1) := by decide +kernel
theorem dX1_isDarkOn_42 : decode cX1_isDarkOn 42 = .ok (.getfield 33, 3) := by decide +kernel
theorem dX1_isDarkOn_45 : decode cX1_isDarkOn 45 = .ok (.aload_n 0, 1) := by decide +kernel
theorem dX1_isDarkOn_46 : decode cX1_isDarkOn 46 = .ok (.getfield 14, 3) := by decide +kernel
theorem dX1_isDarkOn_49 : decode cX1_isDarkOn 49 = .ok (.iload_n 3, 1) := by decide +kernel
theorem dX1_isDarkOn_50 : decode cX1_isDarkOn 50 = .ok (.iconst 0, 1) := by decide +kernel
theorem dX1_isDarkOn_51 : decode cX1_isDarkOn 51 = .ok (.invokevirtual 70, 3) := by decide +kernel
theorem dX1_isDarkOn_54 : decode cX1_isDarkOn 54 = .ok (.dup2, 1) := by decide +kernel
theorem dX1_isDarkOn_55 : decode cX1_isDarkOn 55 = .ok (.iaload, 1) := by decide +kernel
theorem dX1_isDarkOn_56 : decode cX1_isDarkOn 56 = .ok (.aload_n 0, 1) := by decide +kernel
theorem dX1_isDarkOn_57 : decode cX1_isDarkOn 57 = .ok (.getfield 24, 3) := by decide +kernel
theorem dX1_isDarkOn_60 : decode cX1_isDarkOn 60 = .ok (.iload_n 3, 1) := by decide +kernel
theorem dX1_isDarkOn_61 : decode cX1_isDarkOn 61 = .ok (.iaload, 1) := by decide +kernel
theorem dX1_isDarkOn_62 : decode cX1_isDarkOn 62 = .ok (.ior, 1) := by decide +kernel
theorem dX1_isDarkOn_63 : decode cX1_isDarkOn 63 = .ok (.iastore, 1) := by decide +kernel
theorem dX1_isDarkOn_64 : decode cX1_isDarkOn 64 = .ok (.iinc 3 1, 3) := by decide +kernel
theorem dX1_isDarkOn_67 : decode cX1_isDarkOn 67 = .ok (.goto (-57), 3) := by decide +kernel
theorem dX1_isDarkOn_70 : decode cX1_isDarkOn 70 = .ok (.iconst 0, 1) := by decide +kernel
theorem dX1_isDarkOn_71 : decode cX1_isDarkOn 71 = .ok (.istore_n 3, 1) := by decide +kernel
theorem dX1_isDarkOn_72 : decode cX1_isDarkOn 72 = .ok (.iload_n 3, 1) := by decide +kernel
theorem dX1_isDarkOn_73 : decode cX1_isDarkOn 73 = .ok (.iconst 4, 1) := by decide +kernel
theorem dX1_isDarkOn_74 : decode cX1_isDarkOn 74 = .ok (.if_icmp .ge 36, 3) := by decide +kernel
theorem dX1_isDarkOn_77 : decode cX1_isDarkOn 77 = .ok (.aload_n 0, 1) := by decide +kernel
theorem dX1_isDarkOn_78 : decode cX1_isDarkOn 78 = .ok (.getfield 33, 3) := by decide +kernel
theorem dX1_isDarkOn_81 : decode cX1_isDarkOn 81 = .ok (.iload_n 3, 1) := by decide +kernel
theorem dX1_isDarkOn_82 : decode cX1_isDarkOn 82 = .ok (.iaload, 1) := by decide +kernel
theorem dX1_isDarkOn_83 : decode cX1_isDarkOn 83 = .ok (.ifCond .eq 21, 3) := by decide +kernel
theorem dX1_isDarkOn_86 : decode cX1_isDarkOn 86 = .ok (.aload_n 0, 1) := by decide +kernel
theorem dX1_isDarkOn_87 : decode cX1_isDarkOn 87 = .ok (.getfield 33, 3) := by decide +kernel
theorem dX1_isDarkOn_90 : decode cX1_isDarkOn 90 = .ok (.iload_n 3, 1) := by decide +kernel
theorem dX1_isDarkOn_91 : decode cX1_isDarkOn 91 = .ok (.iaload, 1) := by decide +kernel
theorem dX1_isDarkOn_92 : decode cX1_isDarkOn 92 = .ok (.aload_n 0, 1) := by decide +kernel
theorem dX1_isDarkOn_93 : decode cX1_isDarkOn 93 = .ok (.getfield 30, 3) := by decide +kernel
theorem dX1_isDarkOn_96 : decode cX1_isDarkOn 96 = .ok (.iload_n 2, 1) := by decide +kernel
theorem dX1_isDarkOn_97 : decode cX1_isDarkOn 97 = .ok (.iaload, 1) := by decide +kernel
theorem dX1_isDarkOn_98 : decode cX1_isDarkOn 98 = .ok (.iand, 1) := by decide +kernel
theorem dX1_isDarkOn_99 : decode cX1_isDarkOn 99 = .ok (.ifCond .ne 5, 3) := by decide +kernel
theorem dX1_isDarkOn_102 : decode cX1_isDarkOn 102 = .ok (.iconst 1, 1) := by decide +kernel
theorem dX1_isDarkOn_103 : decode cX1_isDarkOn 103 = .ok (.ireturn, 1) := by decide +kernel
theorem dX1_isDarkOn_104 : decode cX1_isDarkOn 104 = .ok (.iinc 3 1, 3) := by decide +kernel
theorem dX1_isDarkOn_107 : decode cX1_isDarkOn 107 = .ok (.goto (-35), 3) := by decide +kernel
theorem dX1_isDarkOn_110 : decode cX1_isDarkOn 110 = .ok (.iconst 0, 1) := by decide +kernel
theorem dX1_isDarkOn_111 : decode cX1_isDarkOn 111 = .ok (.ireturn, 1) := by decide +kernel
set_option maxRecDepth 20000 in
theorem ggX2_init_X6_init : GoodIn wsX2_init wsX6_init := goodIn_r _ [12, 13, 2, 3, 8, 14, 15, 16, 17, 18, 19, 20, 21, 22, 23] (by decide +kernel) (by decide +kernel)
set_option maxRecDepth 20000 in
theorem gX2_init_X6_init : GoodIn wsX2_init (wsX6_init) := ggX2_init_X6_init
theorem dX2_init_0 : decode cX2_init 0 = .ok (.aload_n 0, 1) := by decide +kernel
theorem dX2_init_1 : decode cX2_init 1 = .ok (.invokespecial 3, 3) := by decide +kernel
theorem dX2_init_4 : decode cX2_init 4 = .ok (.aload_n 0, 1) := by decide +kernel
theorem dX2_init_5 : decode cX2_init 5 = .ok (.new 9, 3) := by decide +kernel
theorem dX2_init_8 : decode cX2_init 8 = .ok (.dup, 1) := by decide +kernel
theorem dX2_init_9 : decode cX2_init 9 = .ok (.bipush 6, 2) := by decide +kernel
theorem dX2_init_11 : decode cX2_init 11 = .ok (.invokespecial 11, 3) := by decide +kernel
theorem dX2_init_14 : decode cX2_init 14 = .ok (.putfield 14, 3) := by decide +kernel
theorem dX2_init_17 : decode cX2_init 17 = .ok (.aload_n 0, 1) := by decide +kernel
theorem dX2_init_18 : decode cX2_init 18 = .ok (.bipush 6, 2) := by decide +kernel
theorem dX2_init_20 : decode cX2_init 20 = .ok (.newarray .int, 2) := by decide +kernel
theorem dX2_init_22 : decode cX2_init 22 = .ok (.putfield 20, 3) := by decide +kernel
theorem dX2_init_25 : decode cX2_init 25 = .ok (.return_, 1) := by decide +kernel
set_option maxRecDepth 20000 in
theorem ggX2_noteBegun_X2_loseOldestIfFull : GoodIn wsX2_noteBegun wsX2_loseOldestIfFull := goodIn_r _ [8, 2, 1, 9, 10, 11, 12, 13, 14, 15, 16, 17, 18, 19, 20, 21, 22, 23, 24, 25, 26, 27, 28, 29, 35, 36, 37, 38, 39] (by decide +kernel) (by decide +kernel)
set_option maxRecDepth 20000 in
theorem gX2_noteBegun_X2_loseOldestIfFull : GoodIn wsX2_noteBegun (wsV RX2 24 RX2 yX2_loseOldestIfFull wsX2_loseOldestIfFull) := goodIn_app (goodIn_of _ (by decide +kernel)) ggX2_noteBegun_X2_loseOldestIfFull
set_option maxRecDepth 20000 in
theorem ggX2_noteBegun_X6_add : GoodIn wsX2_noteBegun wsX6_add := goodIn_r _ [33, 18, 24, 34, 14, 15, 16, 17, 19, 37, 38, 39] (by decide +kernel) (by decide +kernel)
set_option maxRecDepth 20000 in
theorem gX2_noteBegun_X6_add : GoodIn wsX2_noteBegun (wsV RX2 31 RX6 yX6_add wsX6_add) := goodIn_app (goodIn_of _ (by decide +kernel)) ggX2_noteBegun_X6_add
theorem dX2_noteBegun_0 : decode cX2_noteBegun 0 = .ok (.aload_n 0, 1) := by decide +kernel
theorem dX2_noteBegun_1 : decode cX2_noteBegun 1 = .ok (.invokevirtual 24, 3) := by decide +kernel
theorem dX2_noteBegun_4 : decode cX2_noteBegun 4 = .ok (.aload_n 0, 1) := by decide +kernel
theorem dX2_noteBegun_5 : decode cX2_noteBegun 5 = .ok (.getfield 20, 3) := by decide +kernel
theorem dX2_noteBegun_8 : decode cX2_noteBegun 8 = .ok (.aload_n 0, 1) := by decide +kernel
theorem dX2_noteBegun_9 : decode cX2_noteBegun 9 = .ok (.getfield 14, 3) := by decide +kernel
theorem dX2_noteBegun_12 : decode cX2_noteBegun 12 = .ok (.getfield 27, 3) := by decide +kernel
theorem dX2_noteBegun_15 : decode cX2_noteBegun 15 = .ok (.iconst (-1), 1) := by decide +kernel
theorem dX2_noteBegun_16 : decode cX2_noteBegun 16 = .ok (.iastore, 1) := by decide +kernel
theorem dX2_noteBegun_17 : decode cX2_noteBegun 17 = .ok (.aload_n 0, 1) := by decide +kernel
theorem dX2_noteBegun_18 : decode cX2_noteBegun 18 = .ok (.getfield 14, 3) := by decide +kernel
theorem dX2_noteBegun_21 : decode cX2_noteBegun 21 = .ok (.iconst 0, 1) := by decide +kernel
theorem dX2_noteBegun_22 : decode cX2_noteBegun 22 = .ok (.iconst 0, 1) := by decide +kernel
theorem dX2_noteBegun_23 : decode cX2_noteBegun 23 = .ok (.iconst 0, 1) := by decide +kernel
theorem dX2_noteBegun_24 : decode cX2_noteBegun 24 = .ok (.iconst 0, 1) := by decide +kernel
theorem dX2_noteBegun_25 : decode cX2_noteBegun 25 = .ok (.iconst 0, 1) := by decide +kernel
theorem dX2_noteBegun_26 : decode cX2_noteBegun 26 = .ok (.invokevirtual 31, 3) := by decide +kernel
theorem dX2_noteBegun_29 : decode cX2_noteBegun 29 = .ok (.return_, 1) := by decide +kernel
set_option maxRecDepth 20000 in
theorem ggX2_noteEnded_X2_loseOldestIfFull : GoodIn wsX2_noteEnded wsX2_loseOldestIfFull := goodIn_r _ [8, 2, 1, 9, 10, 11, 12, 13, 14, 15, 16, 17, 18, 19, 20, 21, 22, 23, 24, 25, 26, 27, 28, 29, 38, 39, 40, 41, 42] (by decide +kernel) (by decide +kernel)
set_option maxRecDepth 20000 in
theorem gX2_noteEnded_X2_loseOldestIfFull : GoodIn wsX2_noteEnded (wsV RX2 24 RX2 yX2_loseOldestIfFull wsX2_loseOldestIfFull) := goodIn_app (goodIn_of _ (by decide +kernel)) ggX2_noteEnded_X2_loseOldestIfFull
set_option maxRecDepth 20000 in
theorem ggX2_noteEnded_X6_insertFrom : GoodIn wsX2_noteEnded wsX6_insertFrom := goodIn_r _ [33, 18, 24, 25, 10, 11, 12, 34, 14, 15, 16, 17, 19, 26, 27, 28, 29, 35, 36, 37, 40, 41, 42] (by decide +kernel) (by decide +kernel)
set_option maxRecDepth 20000 in
theorem gX2_noteEnded_X6_insertFrom : GoodIn wsX2_noteEnded (wsV RX2 35 RX6 yX6_insertFrom wsX6_insertFrom) := goodIn_app (goodIn_of _ (by decide +kernel)) ggX2_noteEnded_X6_insertFrom
theorem dX2_noteEnded_0 : decode cX2_noteEnded 0 = .ok (.aload_n 0, 1) := by decide +kernel
theorem dX2_noteEnded_1 : decode cX2_noteEnded 1 = .ok (.invokevirtual 24, 3) := by decide +kernel
theorem dX2_noteEnded_4 : decode cX2_noteEnded 4 = .ok (.aload_n 0, 1) := by decide +kernel
theorem dX2_noteEnded_5 : decode cX2_noteEnded 5 = .ok (.getfield 20, 3) := by decide +kernel
theorem dX2_noteEnded_8 : decode cX2_noteEnded 8 = .ok (.aload_n 0, 1) := by decide +kernel
theorem dX2_noteEnded_9 : decode cX2_noteEnded 9 = .ok (.getfield 14, 3) := by decide +kernel
theorem dX2_noteEnded_12 : decode cX2_noteEnded 12 = .ok (.getfield 27, 3) := by decide +kernel
theorem dX2_noteEnded_15 : decode cX2_noteEnded 15 = .ok (.iload_n 2, 1) := by decide +kernel
theorem dX2_noteEnded_16 : decode cX2_noteEnded 16 = .ok (.iastore, 1) := by decide +kernel
theorem dX2_noteEnded_17 : decode cX2_noteEnded 17 = .ok (.aload_n 0, 1) := by decide +kernel
theorem dX2_noteEnded_18 : decode cX2_noteEnded 18 = .ok (.getfield 14, 3) := by decide +kernel
theorem dX2_noteEnded_21 : decode cX2_noteEnded 21 = .ok (.aload_n 1, 1) := by decide +kernel
theorem dX2_noteEnded_22 : decode cX2_noteEnded 22 = .ok (.iload_n 2, 1) := by decide +kernel
theorem dX2_noteEnded_23 : decode cX2_noteEnded 23 = .ok (.aload_n 0, 1) := by decide +kernel
theorem dX2_noteEnded_24 : decode cX2_noteEnded 24 = .ok (.getfield 14, 3) := by decide +kernel
theorem dX2_noteEnded_27 : decode cX2_noteEnded 27 = .ok (.getfield 27, 3) := by decide +kernel
theorem dX2_noteEnded_30 : decode cX2_noteEnded 30 = .ok (.invokevirtual 35, 3) := by decide +kernel
theorem dX2_noteEnded_33 : decode cX2_noteEnded 33 = .ok (.return_, 1) := by decide +kernel
set_option maxRecDepth 20000 in
theorem ggX2_undoLatest_X6_has : GoodIn wsX2_undoLatest wsX6_has := goodIn_r _ [8, 9, 34, 35, 36] (by decide +kernel) (by decide +kernel)
set_option maxRecDepth 20000 in
theorem gX2_undoLatest_X6_has : GoodIn wsX2_undoLatest (wsV RX2 39 RX6 yX6_has wsX6_has) := goodIn_app (goodIn_of _ (by decide +kernel)) ggX2_undoLatest_X6_has
set_option maxRecDepth 20000 in
theorem ggX2_undoLatest_X6_removeAt : GoodIn wsX2_undoLatest wsX6_removeAt := goodIn_r _ [13, 14, 9, 15, 16, 17, 18, 19, 5, 6, 7, 8, 34, 35, 36] (by decide +kernel) (by decide +kernel)
set_option maxRecDepth 20000 in
theorem gX2_undoLatest_X6_removeAt : GoodIn wsX2_undoLatest (wsV RX2 43 RX6 yX6_removeAt wsX6_removeAt) := goodIn_app (goodIn_of _ (by decide +kernel)) ggX2_undoLatest_X6_removeAt
set_option maxRecDepth 20000 in
theorem ggX2_undoLatest_X6_insertFrom : GoodIn wsX2_undoLatest wsX6_insertFrom := goodIn_r _ [23, 9, 14, 15, 16, 17, 18, 24, 25, 26, 7, 27, 28, 19, 5, 6, 8, 29, 30, 31, 34, 35, 36] (by decide +kernel) (by decide +kernel)
set_option maxRecDepth 20000 in
theorem gX2_undoLatest_X6_insertFrom : GoodIn wsX2_undoLatest (wsV RX2 35 RX6 yX6_insertFrom wsX6_insertFrom) := goodIn_app (goodIn_of _ (by decide +kernel)) ggX2_undoLatest_X6_insertFrom
theorem dX2_undoLatest_0 : decode cX2_undoLatest 0 = .ok (.aload_n 0, 1) := by decide +kernel
theorem dX2_undoLatest_1 : decode cX2_undoLatest 1 = .ok (.getfield 14, 3) := by decide +kernel
theorem dX2_undoLatest_4 : decode cX2_undoLatest 4 = .ok (.getfield 27, 3) := by decide +kernel
theorem dX2_undoLatest_7 : decode cX2_undoLatest 7 = .ok (.iconst 1, 1) := by decide +kernel
theorem dX2_undoLatest_8 : decode cX2_undoLatest 8 = .ok (.isub, 1) := by decide +kernel
theorem dX2_undoLatest_9 : decode cX2_undoLatest 9 = .ok (.istore_n 2, 1) := by decide +kernel
theorem dX2_undoLatest_10 : decode cX2_undoLatest 10 = .ok (.aload_n 0, 1) := by decide +kernel
theorem dX2_undoLatest_11 : decode cX2_undoLatest 11 = .ok (.getfield 14, 3) := by decide +kernel
theorem dX2_undoLatest_14 : decode cX2_undoLatest 14 = .ok (.iload_n 2, 1) := by decide +kernel
theorem dX2_undoLatest_15 : decode cX2_undoLatest 15 = .ok (.invokevirtual 39, 3) := by decide +kernel
theorem dX2_undoLatest_18 : decode cX2_undoLatest 18 = .ok (.ifCond .ne 4, 3) := by decide +kernel
theorem dX2_undoLatest_21 : decode cX2_undoLatest 21 = .ok (.return_, 1) := by decide +kernel
theorem dX2_undoLatest_22 : decode cX2_undoLatest 22 = .ok (.aload_n 0, 1) := by decide +kernel
theorem dX2_undoLatest_23 : decode cX2_undoLatest 23 = .ok (.getfield 20, 3) := by decide +kernel
theorem dX2_undoLatest_26 : decode cX2_undoLatest 26 = .ok (.iload_n 2, 1) := by decide +kernel
theorem dX2_undoLatest_27 : decode cX2_undoLatest 27 = .ok (.iaload, 1) := by decide +kernel
theorem dX2_undoLatest_28 : decode cX2_undoLatest 28 = .ok (.iconst (-1), 1) := by decide +kernel
theorem dX2_undoLatest_29 : decode cX2_undoLatest 29 = .ok (.if_icmp .ne 16, 3) := by decide +kernel
theorem dX2_undoLatest_32 : decode cX2_undoLatest 32 = .ok (.aload_n 1, 1) := by decide +kernel
theorem dX2_undoLatest_33 : decode cX2_undoLatest 33 = .ok (.aload_n 1, 1) := by decide +kernel
theorem dX2_undoLatest_34 : decode cX2_undoLatest 34 = .ok (.getfield 27, 3) := by decide +kernel
theorem dX2_undoLatest_37 : decode cX2_undoLatest 37 = .ok (.iconst 1, 1) := by decide +kernel
theorem dX2_undoLatest_38 : decode cX2_undoLatest 38 = .ok (.isub, 1) := by decide +kernel
theorem dX2_undoLatest_39 : decode cX2_undoLatest 39 = .ok (.invokevirtual 43, 3) := by decide +kernel
theorem dX2_undoLatest_42 : decode cX2_undoLatest 42 = .ok (.goto 18, 3) := by decide +kernel
theorem dX2_undoLatest_45 : decode cX2_undoLatest 45 = .ok (.aload_n 1, 1) := by decide +kernel
theorem dX2_undoLatest_46 : decode cX2_undoLatest 46 = .ok (.aload_n 0, 1) := by decide +kernel
theorem dX2_undoLatest_47 : decode cX2_undoLatest 47 = .ok (.getfield 14, 3) := by decide +kernel
theorem dX2_undoLatest_50 : decode cX2_undoLatest 50 = .ok (.iload_n 2, 1) := by decide +kernel
theorem dX2_undoLatest_51 : decode cX2_undoLatest 51 = .ok (.aload_n 0, 1) := by decide +kernel
theorem dX2_undoLatest_52 : decode cX2_undoLatest 52 = .ok (.getfield 20, 3) := by decide +kernel
theorem dX2_undoLatest_55 : decode cX2_undoLatest 55 = .ok (.iload_n 2, 1) := by decide +kernel
theorem dX2_undoLatest_56 : decode cX2_undoLatest 56 = .ok (.iaload, 1) := by decide +kernel
theorem dX2_undoLatest_57 : decode cX2_undoLatest 57 = .ok (.invokevirtual 35, 3) := by decide +kernel
theorem dX2_undoLatest_60 : decode cX2_undoLatest 60 = .ok (.aload_n 0, 1) := by decide +kernel
theorem dX2_undoLatest_61 : decode cX2_undoLatest 61 = .ok (.getfield 14, 3) := by decide +kernel
theorem dX2_undoLatest_64 : decode cX2_undoLatest 64 = .ok (.iload_n 2, 1) := by decide +kernel
theorem dX2_undoLatest_65 : decode cX2_undoLatest 65 = .ok (.invokevirtual 43, 3) := by decide +kernel
theorem dX2_undoLatest_68 : decode cX2_undoLatest 68 = .ok (.return_, 1) := by decide +kernel
set_option maxRecDepth 20000 in
theorem ggX2_become_X6_become : GoodIn wsX2_become wsX6_become := goodIn_r _ [11, 12, 13, 4, 5, 6, 14, 17, 18, 19] (by decide +kernel) (by decide +kernel)
set_option maxRecDepth 20000 in
theorem gX2_become_X6_become : GoodIn wsX2_become (wsV RX2 46 RX6 yX6_become wsX6_become) := goodIn_app (goodIn_of _ (by decide +kernel)) ggX2_become_X6_become
theorem dX2_become_0 : decode cX2_become 0 = .ok (.aload_n 0, 1) := by decide +kernel
theorem dX2_become_1 : decode cX2_become 1 = .ok (.getfield 14, 3) := by decide +kernel
theorem dX2_become_4 : decode cX2_become 4 = .ok (.aload_n 1, 1) := by decide +kernel
theorem dX2_become_5 : decode cX2_become 5 = .ok (.getfield 14, 3) := by decide +kernel
theorem dX2_become_8 : decode cX2_become 8 = .ok (.invokevirtual 46, 3) := by decide +kernel
theorem dX2_become_11 : decode cX2_become 11 = .ok (.aload_n 1, 1) := by decide +kernel
theorem dX2_become_12 : decode cX2_become 12 = .ok (.getfield 20, 3) := by decide +kernel
theorem dX2_become_15 : decode cX2_become 15 = .ok (.iconst 0, 1) := by decide +kernel
theorem dX2_become_16 : decode cX2_become 16 = .ok (.aload_n 0, 1) := by decide +kernel
theorem dX2_become_17 : decode cX2_become 17 = .ok (.getfield 20, 3) := by decide +kernel
theorem dX2_become_20 : decode cX2_become 20 = .ok (.iconst 0, 1) := by decide +kernel
theorem dX2_become_21 : decode cX2_become 21 = .ok (.bipush 6, 2) := by decide +kernel
theorem dX2_become_23 : decode cX2_become 23 = .ok (.invokestatic 50, 3) := by decide +kernel
theorem dX2_become_26 : decode cX2_become 26 = .ok (.return_, 1) := by decide +kernel
set_option maxRecDepth 20000 in
theorem ggX2_loseOldestIfFull_X6_isFull : GoodIn wsX2_loseOldestIfFull wsX6_isFull := goodIn_r _ [11, 12, 13, 26, 27, 28] (by decide +kernel) (by decide +kernel)
set_option maxRecDepth 20000 in
theorem gX2_loseOldestIfFull_X6_isFull : GoodIn wsX2_loseOldestIfFull (wsV RX2 56 RX6 yX6_isFull wsX6_isFull) := goodIn_app (goodIn_of _ (by decide +kernel)) ggX2_loseOldestIfFull_X6_isFull
set_option maxRecDepth 20000 in
theorem ggX2_loseOldestIfFull_X6_removeAt : GoodIn wsX2_loseOldestIfFull wsX6_removeAt := goodIn_r _ [17, 18, 12, 19, 4, 5, 6, 20, 21, 22, 10, 23, 26, 27, 28] (by decide +kernel) (by decide +kernel)
set_option maxRecDepth 20000 in
theorem gX2_loseOldestIfFull_X6_removeAt : GoodIn wsX2_loseOldestIfFull (wsV RX2 43 RX6 yX6_removeAt wsX6_removeAt) := goodIn_app (goodIn_of _ (by decide +kernel)) ggX2_loseOldestIfFull_X6_removeAt
theorem dX2_loseOldestIfFull_0 : decode cX2_loseOldestIfFull 0 = .ok (.aload_n 0, 1) := by decide +kernel
theorem dX2_loseOldestIfFull_1 : decode cX2_loseOldestIfFull 1 = .ok (.getfield 14, 3) := by decide +kernel
theorem dX2_loseOldestIfFull_4 : decode cX2_loseOldestIfFull 4 = .ok (.invokevirtual 56, 3) := by decide +kernel
theorem dX2_loseOldestIfFull_7 : decode cX2_loseOldestIfFull 7 = .ok (.ifCond .eq 25, 3) := by decide +kernel
theorem dX2_loseOldestIfFull_10 : decode cX2_loseOldestIfFull 10 = .ok (.aload_n 0, 1) := by decide +kernel
theorem dX2_loseOldestIfFull_11 : decode cX2_loseOldestIfFull 11 = .ok (.getfield 14, 3) := by decide +kernel
theorem dX2_loseOldestIfFull_14 : decode cX2_loseOldestIfFull 14 = .ok (.iconst 0, 1) := by decide +kernel
theorem dX2_loseOldestIfFull_15 : decode cX2_loseOldestIfFull 15 = .ok (.invokevirtual 43, 3) := by decide +kernel
theorem dX2_loseOldestIfFull_18 : decode cX2_loseOldestIfFull 18 = .ok (.aload_n 0, 1) := by decide +kernel
theorem dX2_loseOldestIfFull_19 : decode cX2_loseOldestIfFull 19 = .ok (.getfield 20, 3) := by decide +kernel
theorem dX2_loseOldestIfFull_22 : decode cX2_loseOldestIfFull 22 = .ok (.iconst 1, 1) := by decide +kernel
theorem dX2_loseOldestIfFull_23 : decode cX2_loseOldestIfFull 23 = .ok (.aload_n 0, 1) := by decide +kernel
theorem dX2_loseOldestIfFull_24 : decode cX2_loseOldestIfFull 24 = .ok (.getfield 20, 3) := by decide +kernel
theorem dX2_loseOldestIfFull_27 : decode cX2_loseOldestIfFull 27 = .ok (.iconst 0, 1) := by decide +kernel
theorem dX2_loseOldestIfFull_28 : decode cX2_loseOldestIfFull 28 = .ok (.iconst 5, 1) := by decide +kernel
theorem dX2_loseOldestIfFull_29 : decode cX2_loseOldestIfFull 29 = .ok (.invokestatic 50, 3) := by decide +kernel
theorem dX2_loseOldestIfFull_32 : decode cX2_loseOldestIfFull 32 = .ok (.return_, 1) := by decide +kernel
theorem dX3_init_0 : decode cX3_init 0 = .ok (.aload_n 0, 1) := by decide +kernel
theorem dX3_init_1 : decode cX3_init 1 = .ok (.invokespecial 3, 3) := by decide +kernel
theorem dX3_init_4 : decode cX3_init 4 = .ok (.aload_n 0, 1) := by decide +kernel
theorem dX3_init_5 : decode cX3_init 5 = .ok (.iconst 5, 1) := by decide +kernel
theorem dX3_init_6 : decode cX3_init 6 = .ok (.newarray .int, 2) := by decide +kernel
theorem dX3_init_8 : decode cX3_init 8 = .ok (.putfield 11, 3) := by decide +kernel
theorem dX3_init_11 : decode cX3_init 11 = .ok (.return_, 1) := by decide +kernel
set_option maxRecDepth 20000 in
theorem ggX3_read_X5_empty : GoodIn wsX3_read wsX5_empty := goodIn_r _ [8, 9, 10, 11, 12, 13, 157, 158, 159, 160, 161, 162, 163, 164, 165, 166, 167] (by decide +kernel) (by decide +kernel)
set_option maxRecDepth 20000 in
theorem gX3_read_X5_empty : GoodIn wsX3_read (wsV RX3 17 RX5 yX5_empty wsX5_empty) := goodIn_app (goodIn_of _ (by decide +kernel)) ggX3_read_X5_empty
set_option maxRecDepth 20000 in
theorem ggX3_read_X7_rewind : GoodIn wsX3_read wsX7_rewind := goodIn_r _ [18, 19, 150, 151, 152, 153, 154, 155] (by decide +kernel) (by decide +kernel)
set_option maxRecDepth 20000 in
theorem gX3_read_X7_rewind : GoodIn wsX3_read (wsV RX3 22 RX7 yX7_rewind wsX7_rewind) := goodIn_app (goodIn_of _ (by decide +kernel)) ggX3_read_X7_rewind
set_option maxRecDepth 20000 in
theorem ggX3_read_X7_readToken : GoodIn wsX3_read wsX7_readToken := goodIn_r _ [23, 19, 24, 25, 26, 27, 28, 29, 17, 30, 31, 32, 33, 34, 35, 36, 37, 38, 39, 40, 41, 42, 43, 44, 45, 46, 47, 48, 49, 50, 51, 52, 53, 54, 55, 56, 57, 58, 59, 60, 61, 62, 63, 64, 65, 66, 67, 68, 69, 70, 71, 72, 73, 74, 75, 76, 77, 78, 79, 80, 81, 82, 83, 84, 85, 86, 87, 88, 89, 90, 91, 92, 93, 94, 95, 96, 97, 98, 99, 150, 151, 152, 153, 154, 155] (by decide +kernel) (by decide +kernel)
set_option maxRecDepth 20000 in
theorem gX3_read_X7_readToken : GoodIn wsX3_read (wsV RX3 27 RX7 yX7_readToken wsX7_readToken) := goodIn_app (goodIn_of _ (by decide +kernel)) ggX3_read_X7_readToken
set_option maxRecDepth 20000 in
theorem ggX3_read_X3_mayStand : GoodIn wsX3_read wsX3_mayStand := goodIn_r _ [103, 104, 105, 106, 107, 108, 109, 110, 111, 112, 113, 157, 158, 159, 160, 161, 162, 163, 164, 165, 166, 167] (by decide +kernel) (by decide +kernel)
set_option maxRecDepth 20000 in
theorem gX3_read_X3_mayStand : GoodIn wsX3_read (va_wsS RX3 34 yX3_mayStand wsX3_mayStand) := goodIn_app (goodIn_of _ (by decide +kernel)) ggX3_read_X3_mayStand
set_option maxRecDepth 20000 in
theorem ggX3_read_X3_readNumbers : GoodIn wsX3_read wsX3_readNumbers := goodIn_r _ [117, 1, 118, 2, 119, 120, 102, 121, 20, 21, 22, 17, 23, 19, 24, 25, 26, 27, 28, 29, 30, 31, 32, 33, 34, 35, 36, 37, 38, 39, 40, 41, 42, 43, 44, 45, 46, 47, 48, 49, 50, 51, 52, 53, 54, 55, 56, 57, 58, 59, 60, 61, 62, 63, 64, 65, 66, 67, 68, 69, 70, 71, 72, 73, 74, 75, 76, 77, 78, 79, 80, 81, 82, 83, 84, 85, 86, 87, 88, 89, 90, 91, 92, 93, 94, 95, 96, 97, 98, 99, 122, 123, 124, 125, 126, 127, 128, 129, 130, 131, 132, 105, 133, 134, 135, 150, 151, 152, 153, 154, 155, 156, 157, 158, 159, 160, 161, 162, 163, 164] (by decide +kernel) (by decide +kernel)
set_option maxRecDepth 20000 in
theorem gX3_read_X3_readNumbers : GoodIn wsX3_read (wsV RX3 38 RX3 yX3_readNumbers wsX3_readNumbers) := goodIn_app (goodIn_of _ (by decide +kernel)) ggX3_read_X3_readNumbers
set_option maxRecDepth 20000 in
theorem ggX3_read_X5_take : GoodIn wsX3_read wsX5_take := goodIn_r _ [139, 9, 10, 140, 141, 142, 11, 143, 12, 144, 145, 146, 110, 147, 112, 148, 149, 108, 109, 111, 113, 157, 158, 159, 160, 161, 162, 163, 164, 165, 166, 167] (by decide +kernel) (by decide +kernel)
set_option maxRecDepth 20000 in
theorem gX3_read_X5_take : GoodIn wsX3_read (wsV RX3 42 RX5 yX5_take wsX5_take) := goodIn_app (goodIn_of _ (by decide +kernel)) ggX3_read_X5_take
theorem dX3_read_0 : decode cX3_read 0 = .ok (.aload_n 2, 1) := by decide +kernel
theorem dX3_read_1 : decode cX3_read 1 = .ok (.invokevirtual 17, 3) := by decide +kernel
theorem dX3_read_4 : decode cX3_read 4 = .ok (.aload_n 1, 1) := by decide +kernel
theorem dX3_read_5 : decode cX3_read 5 = .ok (.invokevirtual 22, 3) := by decide +kernel
theorem dX3_read_8 : decode cX3_read 8 = .ok (.iconst 0, 1) := by decide +kernel
theorem dX3_read_9 : decode cX3_read 9 = .ok (.istore_n 3, 1) := by decide +kernel
theorem dX3_read_10 : decode cX3_read 10 = .ok (.iload_n 3, 1) := by decide +kernel
theorem dX3_read_11 : decode cX3_read 11 = .ok (.sipush 300, 3) := by decide +kernel
theorem dX3_read_14 : decode cX3_read 14 = .ok (.if_icmp .gt 75, 3) := by decide +kernel
theorem dX3_read_17 : decode cX3_read 17 = .ok (.aload_n 1, 1) := by decide +kernel
theorem dX3_read_18 : decode cX3_read 18 = .ok (.invokevirtual 27, 3) := by decide +kernel
theorem dX3_read_21 : decode cX3_read 21 = .ok (.aload_n 1, 1) := by decide +kernel
theorem dX3_read_22 : decode cX3_read 22 = .ok (.getfield 30, 3) := by decide +kernel
theorem dX3_read_25 : decode cX3_read 25 = .ok (.istore 4, 2) := by decide +kernel
theorem dX3_read_27 : decode cX3_read 27 = .ok (.iload 4, 2) := by decide +kernel
theorem dX3_read_29 : decode cX3_read 29 = .ok (.ifCond .ne 5, 3) := by decide +kernel
theorem dX3_read_32 : decode cX3_read 32 = .ok (.iload_n 3, 1) := by decide +kernel
theorem dX3_read_33 : decode cX3_read 33 = .ok (.ireturn, 1) := by decide +kernel
theorem dX3_read_34 : decode cX3_read 34 = .ok (.iload 4, 2) := by decide +kernel
theorem dX3_read_36 : decode cX3_read 36 = .ok (.iload_n 3, 1) := by decide +kernel
theorem dX3_read_37 : decode cX3_read 37 = .ok (.aload_n 2, 1) := by decide +kernel
theorem dX3_read_38 : decode cX3_read 38 = .ok (.invokestatic 34, 3) := by decide +kernel
theorem dX3_read_41 : decode cX3_read 41 = .ok (.ifCond .eq 48, 3) := by decide +kernel
theorem dX3_read_44 : decode cX3_read 44 = .ok (.aload_n 0, 1) := by decide +kernel
theorem dX3_read_45 : decode cX3_read 45 = .ok (.aload_n 1, 1) := by decide +kernel
theorem dX3_read_46 : decode cX3_read 46 = .ok (.iload 4, 2) := by decide +kernel
theorem dX3_read_48 : decode cX3_read 48 = .ok (.aload_n 2, 1) := by decide +kernel
theorem dX3_read_49 : decode cX3_read 49 = .ok (.invokevirtual 38, 3) := by decide +kernel
theorem dX3_read_52 : decode cX3_read 52 = .ok (.ifCond .ne 6, 3) := by decide +kernel
theorem dX3_read_55 : decode cX3_read 55 = .ok (.goto 34, 3) := by decide +kernel
theorem dX3_read_58 : decode cX3_read 58 = .ok (.aload_n 2, 1) := by decide +kernel
theorem dX3_read_59 : decode cX3_read 59 = .ok (.iload 4, 2) := by decide +kernel
theorem dX3_read_61 : decode cX3_read 61 = .ok (.aload_n 0, 1) := by decide +kernel
theorem dX3_read_62 : decode cX3_read 62 = .ok (.getfield 11, 3) := by decide +kernel
theorem dX3_read_65 : decode cX3_read 65 = .ok (.invokevirtual 42, 3) := by decide +kernel
theorem dX3_read_68 : decode cX3_read 68 = .ok (.aload_n 1, 1) := by decide +kernel
theorem dX3_read_69 : decode cX3_read 69 = .ok (.invokevirtual 27, 3) := by decide +kernel
theorem dX3_read_72 : decode cX3_read 72 = .ok (.aload_n 1, 1) := by decide +kernel
theorem dX3_read_73 : decode cX3_read 73 = .ok (.getfield 30, 3) := by decide +kernel
theorem dX3_read_76 : decode cX3_read 76 = .ok (.iconst 3, 1) := by decide +kernel
theorem dX3_read_77 : decode cX3_read 77 = .ok (.if_icmp .eq 6, 3) := by decide +kernel
theorem dX3_read_80 : decode cX3_read 80 = .ok (.goto 9, 3) := by decide +kernel
theorem dX3_read_83 : decode cX3_read 83 = .ok (.iinc 3 1, 3) := by decide +kernel
theorem dX3_read_86 : decode cX3_read 86 = .ok (.goto (-76), 3) := by decide +kernel
theorem dX3_read_89 : decode cX3_read 89 = .ok (.bipush (-10), 2) := by decide +kernel
theorem dX3_read_91 : decode cX3_read 91 = .ok (.aload_n 1, 1) := by decide +kernel
theorem dX3_read_92 : decode cX3_read 92 = .ok (.getfield 46, 3) := by decide +kernel
theorem dX3_read_95 : decode cX3_read 95 = .ok (.isub, 1) := by decide +kernel
theorem dX3_read_96 : decode cX3_read 96 = .ok (.ireturn, 1) := by decide +kernel
set_option maxRecDepth 20000 in
theorem ggX3_mayStand_X6_isFull : GoodIn wsX3_mayStand wsX6_isFull := goodIn_r _ [8, 9, 10, 19, 20, 21] (by decide +kernel) (by decide +kernel)
set_option maxRecDepth 20000 in
theorem gX3_mayStand_X6_isFull : GoodIn wsX3_mayStand (wsV RX3 59 RX6 yX6_isFull wsX6_isFull) := goodIn_app (goodIn_of _ (by decide +kernel)) ggX3_mayStand_X6_isFull
theorem dX3_mayStand_0 : decode cX3_mayStand 0 = .ok (.iload_n 0, 1) := by decide +kernel
theorem dX3_mayStand_1 : decode cX3_mayStand 1 = .ok (.tableswitch 86 4 7 #[31, 41, 56, 70], 31) := by decide +kernel
theorem dX3_mayStand_32 : decode cX3_mayStand 32 = .ok (.iload_n 1, 1) := by decide +kernel
theorem dX3_mayStand_33 : decode cX3_mayStand 33 = .ok (.ifCond .ne 7, 3) := by decide +kernel
theorem dX3_mayStand_36 : decode cX3_mayStand 36 = .ok (.iconst 1, 1) := by decide +kernel
theorem dX3_mayStand_37 : decode cX3_mayStand 37 = .ok (.goto 4, 3) := by decide +kernel
theorem dX3_mayStand_40 : decode cX3_mayStand 40 = .ok (.iconst 0, 1) := by decide +kernel
theorem dX3_mayStand_41 : decode cX3_mayStand 41 = .ok (.ireturn, 1) := by decide +kernel
theorem dX3_mayStand_42 : decode cX3_mayStand 42 = .ok (.aload_n 2, 1) := by decide +kernel
theorem dX3_mayStand_43 : decode cX3_mayStand 43 = .ok (.getfield 49, 3) := by decide +kernel
theorem dX3_mayStand_46 : decode cX3_mayStand 46 = .ok (.bipush 8, 2) := by decide +kernel
theorem dX3_mayStand_48 : decode cX3_mayStand 48 = .ok (.if_icmp .ge 7, 3) := by decide +kernel
theorem dX3_mayStand_51 : decode cX3_mayStand 51 = .ok (.iconst 1, 1) := by decide +kernel
theorem dX3_mayStand_52 : decode cX3_mayStand 52 = .ok (.goto 4, 3) := by decide +kernel
theorem dX3_mayStand_55 : decode cX3_mayStand 55 = .ok (.iconst 0, 1) := by decide +kernel
theorem dX3_mayStand_56 : decode cX3_mayStand 56 = .ok (.ireturn, 1) := by decide +kernel
theorem dX3_mayStand_57 : decode cX3_mayStand 57 = .ok (.aload_n 2, 1) := by decide +kernel
theorem dX3_mayStand_58 : decode cX3_mayStand 58 = .ok (.getfield 52, 3) := by decide +kernel
theorem dX3_mayStand_61 : decode cX3_mayStand 61 = .ok (.iconst 4, 1) := by decide +kernel
theorem dX3_mayStand_62 : decode cX3_mayStand 62 = .ok (.if_icmp .ge 7, 3) := by decide +kernel
theorem dX3_mayStand_65 : decode cX3_mayStand 65 = .ok (.iconst 1, 1) := by decide +kernel
theorem dX3_mayStand_66 : decode cX3_mayStand 66 = .ok (.goto 4, 3) := by decide +kernel
theorem dX3_mayStand_69 : decode cX3_mayStand 69 = .ok (.iconst 0, 1) := by decide +kernel
theorem dX3_mayStand_70 : decode cX3_mayStand 70 = .ok (.ireturn, 1) := by decide +kernel
theorem dX3_mayStand_71 : decode cX3_mayStand 71 = .ok (.aload_n 2, 1) := by decide +kernel
theorem dX3_mayStand_72 : decode cX3_mayStand 72 = .ok (.getfield 55, 3) := by decide +kernel
theorem dX3_mayStand_75 : decode cX3_mayStand 75 = .ok (.invokevirtual 59, 3) := by decide +kernel
theorem dX3_mayStand_78 : decode cX3_mayStand 78 = .ok (.ifCond .ne 7, 3) := by decide +kernel
theorem dX3_mayStand_81 : decode cX3_mayStand 81 = .ok (.iconst 1, 1) := by decide +kernel
theorem dX3_mayStand_82 : decode cX3_mayStand 82 = .ok (.goto 4, 3) := by decide +kernel
theorem dX3_mayStand_85 : decode cX3_mayStand 85 = .ok (.iconst 0, 1) := by decide +kernel
theorem dX3_mayStand_86 : decode cX3_mayStand 86 = .ok (.ireturn, 1) := by decide +kernel
theorem dX3_mayStand_87 : decode cX3_mayStand 87 = .ok (.iconst 0, 1) := by decide +kernel
theorem dX3_mayStand_88 : decode cX3_mayStand 88 = .ok (.ireturn, 1) := by decide +kernel
set_option maxRecDepth 20000 in
theorem ggX3_readNumbers_X3_howMany : GoodIn wsX3_readNumbers wsX3_howMany := goodIn_r _ [7] (by decide +kernel) (by decide +kernel)
set_option maxRecDepth 20000 in
theorem gX3_readNumbers_X3_howMany : GoodIn wsX3_readNumbers (va_wsS RX3 63 yX3_howMany wsX3_howMany) := goodIn_app (goodIn_of _ (by decide +kernel)) ggX3_readNumbers_X3_howMany
set_option maxRecDepth 20000 in
theorem ggX3_readNumbers_X7_readToken : GoodIn wsX3_readNumbers wsX7_readToken := goodIn_r _ [12, 13, 14, 15, 16, 17, 18, 19, 11, 20, 21, 22, 23, 24, 25, 26, 27, 28, 29, 30, 31, 32, 33, 34, 35, 36, 37, 38, 39, 40, 41, 42, 43, 44, 45, 46, 47, 48, 49, 50, 51, 52, 53, 54, 55, 56, 57, 58, 59, 60, 61, 62, 63, 64, 65, 66, 67, 68, 69, 70, 71, 72, 73, 74, 75, 76, 77, 78, 79, 80, 81, 82, 83, 84, 85, 86, 87, 88, 89, 105, 106, 107, 108, 109, 110] (by decide +kernel) (by decide +kernel)
set_option maxRecDepth 20000 in
theorem gX3_readNumbers_X7_readToken : GoodIn wsX3_readNumbers (wsV RX3 27 RX7 yX7_readToken wsX7_readToken) := goodIn_app (goodIn_of _ (by decide +kernel)) ggX3_readNumbers_X7_readToken
set_option maxRecDepth 20000 in
theorem ggX3_readNumbers_X3_least : GoodIn wsX3_readNumbers wsX3_least := goodIn_r _ [93, 3, 111] (by decide +kernel) (by decide +kernel)
set_option maxRecDepth 20000 in
theorem gX3_readNumbers_X3_least : GoodIn wsX3_readNumbers (wsV RX3 70 RX3 yX3_least wsX3_least) := goodIn_app (goodIn_of _ (by decide +kernel)) ggX3_readNumbers_X3_least
set_option maxRecDepth 20000 in
theorem ggX3_readNumbers_X3_most : GoodIn wsX3_readNumbers wsX3_most := goodIn_r _ [96, 97, 98, 99, 6, 100, 101, 112, 113, 114, 115, 116, 117, 118, 119] (by decide +kernel) (by decide +kernel)
set_option maxRecDepth 20000 in
theorem gX3_readNumbers_X3_most : GoodIn wsX3_readNumbers (va_wsS RX3 74 yX3_most wsX3_most) := goodIn_app (goodIn_of _ (by decide +kernel)) ggX3_readNumbers_X3_most
set_option maxRecDepth 20000 in
theorem ggX3_readNumbers_X8_isWithin : GoodIn wsX3_readNumbers wsX8_isWithin := goodIn_r _ [104] (by decide +kernel) (by decide +kernel)
set_option maxRecDepth 20000 in
theorem gX3_readNumbers_X8_isWithin_n78 : GoodIn wsX3_readNumbers (wsX8_isWithin) := ggX3_readNumbers_X8_isWithin
theorem dX3_readNumbers_0 : decode cX3_readNumbers 0 = .ok (.iload_n 2, 1) := by decide +kernel
theorem dX3_readNumbers_1 : decode cX3_readNumbers 1 = .ok (.invokestatic 63, 3) := by decide +kernel
theorem dX3_readNumbers_4 : decode cX3_readNumbers 4 = .ok (.istore 4, 2) := by decide +kernel
theorem dX3_readNumbers_6 : decode cX3_readNumbers 6 = .ok (.iconst 0, 1) := by decide +kernel
theorem dX3_readNumbers_7 : decode cX3_readNumbers 7 = .ok (.istore 5, 2) := by decide +kernel
theorem dX3_readNumbers_9 : decode cX3_readNumbers 9 = .ok (.iload 5, 2) := by decide +kernel
theorem dX3_readNumbers_11 : decode cX3_readNumbers 11 = .ok (.iload 4, 2) := by decide +kernel
theorem dX3_readNumbers_13 : decode cX3_readNumbers 13 = .ok (.if_icmp .ge 58, 3) := by decide +kernel
theorem dX3_readNumbers_16 : decode cX3_readNumbers 16 = .ok (.aload_n 1, 1) := by decide +kernel
theorem dX3_readNumbers_17 : decode cX3_readNumbers 17 = .ok (.invokevirtual 27, 3) := by decide +kernel
theorem dX3_readNumbers_20 : decode cX3_readNumbers 20 = .ok (.aload_n 1, 1) := by decide +kernel
theorem dX3_readNumbers_21 : decode cX3_readNumbers 21 = .ok (.getfield 30, 3) := by decide +kernel
theorem dX3_readNumbers_24 : decode cX3_readNumbers 24 = .ok (.iconst 2, 1) := by decide +kernel
theorem dX3_readNumbers_25 : decode cX3_readNumbers 25 = .ok (.if_icmp .ne 27, 3) := by decide +kernel
theorem dX3_readNumbers_28 : decode cX3_readNumbers 28 = .ok (.aload_n 1, 1) := by decide +kernel
theorem dX3_readNumbers_29 : decode cX3_readNumbers 29 = .ok (.getfield 67, 3) := by decide +kernel
theorem dX3_readNumbers_32 : decode cX3_readNumbers 32 = .ok (.aload_n 0, 1) := by decide +kernel
theorem dX3_readNumbers_33 : decode cX3_readNumbers 33 = .ok (.iload_n 2, 1) := by decide +kernel
theorem dX3_readNumbers_34 : decode cX3_readNumbers 34 = .ok (.iload 5, 2) := by decide +kernel
theorem dX3_readNumbers_36 : decode cX3_readNumbers 36 = .ok (.invokevirtual 70, 3) := by decide +kernel
theorem dX3_readNumbers_39 : decode cX3_readNumbers 39 = .ok (.iload_n 2, 1) := by decide +kernel
theorem dX3_readNumbers_40 : decode cX3_readNumbers 40 = .ok (.iload 5, 2) := by decide +kernel
theorem dX3_readNumbers_42 : decode cX3_readNumbers 42 = .ok (.aload_n 3, 1) := by decide +kernel
theorem dX3_readNumbers_43 : decode cX3_readNumbers 43 = .ok (.invokestatic 74, 3) := by decide +kernel
theorem dX3_readNumbers_46 : decode cX3_readNumbers 46 = .ok (.invokestatic 78, 3) := by decide +kernel
theorem dX3_readNumbers_49 : decode cX3_readNumbers 49 = .ok (.ifCond .ne 5, 3) := by decide +kernel
theorem dX3_readNumbers_52 : decode cX3_readNumbers 52 = .ok (.iconst 0, 1) := by decide +kernel
theorem dX3_readNumbers_53 : decode cX3_readNumbers 53 = .ok (.ireturn, 1) := by decide +kernel
theorem dX3_readNumbers_54 : decode cX3_readNumbers 54 = .ok (.aload_n 0, 1) := by decide +kernel
theorem dX3_readNumbers_55 : decode cX3_readNumbers 55 = .ok (.getfield 11, 3) := by decide +kernel
theorem dX3_readNumbers_58 : decode cX3_readNumbers 58 = .ok (.iload 5, 2) := by decide +kernel
theorem dX3_readNumbers_60 : decode cX3_readNumbers 60 = .ok (.aload_n 1, 1) := by decide +kernel
theorem dX3_readNumbers_61 : decode cX3_readNumbers 61 = .ok (.getfield 67, 3) := by decide +kernel
theorem dX3_readNumbers_64 : decode cX3_readNumbers 64 = .ok (.iastore, 1) := by decide +kernel
theorem dX3_readNumbers_65 : decode cX3_readNumbers 65 = .ok (.iinc 5 1, 3) := by decide +kernel
theorem dX3_readNumbers_68 : decode cX3_readNumbers 68 = .ok (.goto (-59), 3) := by decide +kernel
theorem dX3_readNumbers_71 : decode cX3_readNumbers 71 = .ok (.iconst 1, 1) := by decide +kernel
theorem dX3_readNumbers_72 : decode cX3_readNumbers 72 = .ok (.ireturn, 1) := by decide +kernel
theorem dX3_howMany_0 : decode cX3_howMany 0 = .ok (.iload_n 0, 1) := by decide +kernel
theorem dX3_howMany_1 : decode cX3_howMany 1 = .ok (.lookupswitch 31 #[(5, 27), (7, 29)], 27) := by decide +kernel
theorem dX3_howMany_28 : decode cX3_howMany 28 = .ok (.iconst 3, 1) := by decide +kernel
theorem dX3_howMany_29 : decode cX3_howMany 29 = .ok (.ireturn, 1) := by decide +kernel
theorem dX3_howMany_30 : decode cX3_howMany 30 = .ok (.iconst 5, 1) := by decide +kernel
theorem dX3_howMany_31 : decode cX3_howMany 31 = .ok (.ireturn, 1) := by decide +kernel
theorem dX3_howMany_32 : decode cX3_howMany 32 = .ok (.iconst 1, 1) := by decide +kernel
theorem dX3_howMany_33 : decode cX3_howMany 33 = .ok (.ireturn, 1) := by decide +kernel
theorem dX3_least_0 : decode cX3_least 0 = .ok (.iload_n 1, 1) := by decide +kernel
theorem dX3_least_1 : decode cX3_least 1 = .ok (.iconst 4, 1) := by decide +kernel
theorem dX3_least_2 : decode cX3_least 2 = .ok (.if_icmp .ne 5, 3) := by decide +kernel
theorem dX3_least_5 : decode cX3_least 5 = .ok (.iconst 2, 1) := by decide +kernel
theorem dX3_least_6 : decode cX3_least 6 = .ok (.ireturn, 1) := by decide +kernel
theorem dX3_least_7 : decode cX3_least 7 = .ok (.iload_n 1, 1) := by decide +kernel
theorem dX3_least_8 : decode cX3_least 8 = .ok (.bipush 7, 2) := by decide +kernel
theorem dX3_least_10 : decode cX3_least 10 = .ok (.if_icmp .ne 15, 3) := by decide +kernel
theorem dX3_least_13 : decode cX3_least 13 = .ok (.iload_n 2, 1) := by decide +kernel
theorem dX3_least_14 : decode cX3_least 14 = .ok (.iconst 4, 1) := by decide +kernel
theorem dX3_least_15 : decode cX3_least 15 = .ok (.if_icmp .ne 10, 3) := by decide +kernel
theorem dX3_least_18 : decode cX3_least 18 = .ok (.aload_n 0, 1) := by decide +kernel
theorem dX3_least_19 : decode cX3_least 19 = .ok (.getfield 11, 3) := by decide +kernel
theorem dX3_least_22 : decode cX3_least 22 = .ok (.iconst 3, 1) := by decide +kernel
theorem dX3_least_23 : decode cX3_least 23 = .ok (.iaload, 1) := by decide +kernel
theorem dX3_least_24 : decode cX3_least 24 = .ok (.ireturn, 1) := by decide +kernel
theorem dX3_least_25 : decode cX3_least 25 = .ok (.iload_n 1, 1) := by decide +kernel
theorem dX3_least_26 : decode cX3_least 26 = .ok (.iconst 5, 1) := by decide +kernel
theorem dX3_least_27 : decode cX3_least 27 = .ok (.if_icmp .ne 12, 3) := by decide +kernel
theorem dX3_least_30 : decode cX3_least 30 = .ok (.iload_n 2, 1) := by decide +kernel
theorem dX3_least_31 : decode cX3_least 31 = .ok (.iconst 2, 1) := by decide +kernel
theorem dX3_least_32 : decode cX3_least 32 = .ok (.if_icmp .ne 7, 3) := by decide +kernel
theorem dX3_least_35 : decode cX3_least 35 = .ok (.iconst 1, 1) := by decide +kernel
theorem dX3_least_36 : decode cX3_least 36 = .ok (.goto 4, 3) := by decide +kernel
theorem dX3_least_39 : decode cX3_least 39 = .ok (.iconst 0, 1) := by decide +kernel
theorem dX3_least_40 : decode cX3_least 40 = .ok (.istore_n 3, 1) := by decide +kernel
theorem dX3_least_41 : decode cX3_least 41 = .ok (.iload_n 1, 1) := by decide +kernel
theorem dX3_least_42 : decode cX3_least 42 = .ok (.bipush 7, 2) := by decide +kernel
theorem dX3_least_44 : decode cX3_least 44 = .ok (.if_icmp .ne 12, 3) := by decide +kernel
theorem dX3_least_47 : decode cX3_least 47 = .ok (.iload_n 2, 1) := by decide +kernel
theorem dX3_least_48 : decode cX3_least 48 = .ok (.iconst 2, 1) := by decide +kernel
theorem dX3_least_49 : decode cX3_least 49 = .ok (.if_icmp .ne 7, 3) := by decide +kernel
theorem dX3_least_52 : decode cX3_least 52 = .ok (.iconst 1, 1) := by decide +kernel
theorem dX3_least_53 : decode cX3_least 53 = .ok (.goto 4, 3) := by decide +kernel
theorem dX3_least_56 : decode cX3_least 56 = .ok (.iconst 0, 1) := by decide +kernel
theorem dX3_least_57 : decode cX3_least 57 = .ok (.istore 4, 2) := by decide +kernel
theorem dX3_least_59 : decode cX3_least 59 = .ok (.iload_n 3, 1) := by decide +kernel
theorem dX3_least_60 : decode cX3_least 60 = .ok (.ifCond .ne 8, 3) := by decide +kernel
theorem dX3_least_63 : decode cX3_least 63 = .ok (.iload 4, 2) := by decide +kernel
theorem dX3_least_65 : decode cX3_least 65 = .ok (.ifCond .eq 7, 3) := by decide +kernel
theorem dX3_least_68 : decode cX3_least 68 = .ok (.iconst 1, 1) := by decide +kernel
theorem dX3_least_69 : decode cX3_least 69 = .ok (.goto 4, 3) := by decide +kernel
theorem dX3_least_72 : decode cX3_least 72 = .ok (.iconst 0, 1) := by decide +kernel
theorem dX3_least_73 : decode cX3_least 73 = .ok (.ireturn, 1) := by decide +kernel
set_option maxRecDepth 20000 in
theorem ggX3_most_X3_mostOfLease : GoodIn wsX3_most wsX3_mostOfLease := goodIn_r _ [5, 6, 1, 7, 8, 9, 10, 11, 12, 13, 14] (by decide +kernel) (by decide +kernel)
set_option maxRecDepth 20000 in
theorem gX3_most_X3_mostOfLease : GoodIn wsX3_most (va_wsS RX3 85 yX3_mostOfLease wsX3_mostOfLease) := goodIn_app (goodIn_of _ (by decide +kernel)) ggX3_most_X3_mostOfLease
theorem dX3_most_0 : decode cX3_most 0 = .ok (.iload_n 0, 1) := by decide +kernel
theorem dX3_most_1 : decode cX3_most 1 = .ok (.tableswitch 66 4 7 #[31, 34, 66, 60], 31) := by decide +kernel
theorem dX3_most_32 : decode cX3_most 32 = .ok (.bipush 8, 2) := by decide +kernel
theorem dX3_most_34 : decode cX3_most 34 = .ok (.ireturn, 1) := by decide +kernel
theorem dX3_most_35 : decode cX3_most 35 = .ok (.iload_n 1, 1) := by decide +kernel
theorem dX3_most_36 : decode cX3_most 36 = .ok (.ifCond .ne 12, 3) := by decide +kernel
theorem dX3_most_39 : decode cX3_most 39 = .ok (.aload_n 2, 1) := by decide +kernel
theorem dX3_most_40 : decode cX3_most 40 = .ok (.getfield 82, 3) := by decide +kernel
theorem dX3_most_43 : decode cX3_most 43 = .ok (.iconst 1, 1) := by decide +kernel
theorem dX3_most_44 : decode cX3_most 44 = .ok (.isub, 1) := by decide +kernel
theorem dX3_most_45 : decode cX3_most 45 = .ok (.goto 15, 3) := by decide +kernel
theorem dX3_most_48 : decode cX3_most 48 = .ok (.iload_n 1, 1) := by decide +kernel
theorem dX3_most_49 : decode cX3_most 49 = .ok (.iconst 1, 1) := by decide +kernel
theorem dX3_most_50 : decode cX3_most 50 = .ok (.if_icmp .ne 8, 3) := by decide +kernel
theorem dX3_most_53 : decode cX3_most 53 = .ok (.bipush 9, 2) := by decide +kernel
theorem dX3_most_55 : decode cX3_most 55 = .ok (.goto 5, 3) := by decide +kernel
theorem dX3_most_58 : decode cX3_most 58 = .ok (.bipush 9, 2) := by decide +kernel
theorem dX3_most_60 : decode cX3_most 60 = .ok (.ireturn, 1) := by decide +kernel
theorem dX3_most_61 : decode cX3_most 61 = .ok (.iload_n 1, 1) := by decide +kernel
theorem dX3_most_62 : decode cX3_most 62 = .ok (.aload_n 2, 1) := by decide +kernel
theorem dX3_most_63 : decode cX3_most 63 = .ok (.invokestatic 85, 3) := by decide +kernel
theorem dX3_most_66 : decode cX3_most 66 = .ok (.ireturn, 1) := by decide +kernel
theorem dX3_most_67 : decode cX3_most 67 = .ok (.bipush 99, 2) := by decide +kernel
theorem dX3_most_69 : decode cX3_most 69 = .ok (.ireturn, 1) := by decide +kernel
theorem dX3_mostOfLease_0 : decode cX3_mostOfLease 0 = .ok (.iload_n 0, 1) := by decide +kernel
theorem dX3_mostOfLease_1 : decode cX3_mostOfLease 1 = .ok (.tableswitch 46 0 2 #[27, 34, 41], 27) := by decide +kernel
theorem dX3_mostOfLease_28 : decode cX3_mostOfLease 28 = .ok (.aload_n 1, 1) := by decide +kernel
theorem dX3_mostOfLease_29 : decode cX3_mostOfLease 29 = .ok (.getfield 52, 3) := by decide +kernel
theorem dX3_mostOfLease_32 : decode cX3_mostOfLease 32 = .ok (.iconst 1, 1) := by decide +kernel
theorem dX3_mostOfLease_33 : decode cX3_mostOfLease 33 = .ok (.isub, 1) := by decide +kernel
theorem dX3_mostOfLease_34 : decode cX3_mostOfLease 34 = .ok (.ireturn, 1) := by decide +kernel
theorem dX3_mostOfLease_35 : decode cX3_mostOfLease 35 = .ok (.aload_n 1, 1) := by decide +kernel
theorem dX3_mostOfLease_36 : decode cX3_mostOfLease 36 = .ok (.getfield 82, 3) := by decide +kernel
theorem dX3_mostOfLease_39 : decode cX3_mostOfLease 39 = .ok (.iconst 1, 1) := by decide +kernel
theorem dX3_mostOfLease_40 : decode cX3_mostOfLease 40 = .ok (.isub, 1) := by decide +kernel
theorem dX3_mostOfLease_41 : decode cX3_mostOfLease 41 = .ok (.ireturn, 1) := by decide +kernel
theorem dX3_mostOfLease_42 : decode cX3_mostOfLease 42 = .ok (.aload_n 1, 1) := by decide +kernel
theorem dX3_mostOfLease_43 : decode cX3_mostOfLease 43 = .ok (.getfield 82, 3) := by decide +kernel
theorem dX3_mostOfLease_46 : decode cX3_mostOfLease 46 = .ok (.ireturn, 1) := by decide +kernel
theorem dX3_mostOfLease_47 : decode cX3_mostOfLease 47 = .ok (.bipush 99, 2) := by decide +kernel
theorem dX3_mostOfLease_49 : decode cX3_mostOfLease 49 = .ok (.ireturn, 1) := by decide +kernel
theorem dX4_init_0 : decode cX4_init 0 = .ok (.aload_n 0, 1) := by decide +kernel
theorem dX4_init_1 : decode cX4_init 1 = .ok (.invokespecial 3, 3) := by decide +kernel
theorem dX4_init_4 : decode cX4_init 4 = .ok (.aload_n 0, 1) := by decide +kernel
theorem dX4_init_5 : decode cX4_init 5 = .ok (.iconst 0, 1) := by decide +kernel
theorem dX4_init_6 : decode cX4_init 6 = .ok (.putfield 9, 3) := by decide +kernel
theorem dX4_init_9 : decode cX4_init 9 = .ok (.aload_n 0, 1) := by decide +kernel
theorem dX4_init_10 : decode cX4_init 10 = .ok (.bipush 8, 2) := by decide +kernel
theorem dX4_init_12 : decode cX4_init 12 = .ok (.newarray .int, 2) := by decide +kernel
theorem dX4_init_14 : decode cX4_init 14 = .ok (.putfield 15, 3) := by decide +kernel
theorem dX4_init_17 : decode cX4_init 17 = .ok (.aload_n 0, 1) := by decide +kernel
theorem dX4_init_18 : decode cX4_init 18 = .ok (.bipush 8, 2) := by decide +kernel
theorem dX4_init_20 : decode cX4_init 20 = .ok (.newarray .int, 2) := by decide +kernel
theorem dX4_init_22 : decode cX4_init 22 = .ok (.putfield 19, 3) := by decide +kernel
theorem dX4_init_25 : decode cX4_init 25 = .ok (.return_, 1) := by decide +kernel
theorem dX4_isFull_0 : decode cX4_isFull 0 = .ok (.aload_n 0, 1) := by decide +kernel
theorem dX4_isFull_1 : decode cX4_isFull 1 = .ok (.getfield 9, 3) := by decide +kernel
theorem dX4_isFull_4 : decode cX4_isFull 4 = .ok (.bipush 8, 2) := by decide +kernel
theorem dX4_isFull_6 : decode cX4_isFull 6 = .ok (.if_icmp .lt 7, 3) := by decide +kernel
theorem dX4_isFull_9 : decode cX4_isFull 9 = .ok (.iconst 1, 1) := by decide +kernel
theorem dX4_isFull_10 : decode cX4_isFull 10 = .ok (.goto 4, 3) := by decide +kernel
theorem dX4_isFull_13 : decode cX4_isFull 13 = .ok (.iconst 0, 1) := by decide +kernel
theorem dX4_isFull_14 : decode cX4_isFull 14 = .ok (.ireturn, 1) := by decide +kernel
set_option maxRecDepth 20000 in
theorem ggX4_add_X4_isFull : GoodIn wsX4_add wsX4_isFull := goodIn_r _ [8, 2, 9, 10, 11] (by decide +kernel) (by decide +kernel)
set_option maxRecDepth 20000 in
theorem gX4_add_X4_isFull : GoodIn wsX4_add (wsV RX4 22 RX4 yX4_isFull wsX4_isFull) := goodIn_app (goodIn_of _ (by decide +kernel)) ggX4_add_X4_isFull
theorem dX4_add_0 : decode cX4_add 0 = .ok (.aload_n 0, 1) := by decide +kernel
theorem dX4_add_1 : decode cX4_add 1 = .ok (.invokevirtual 22, 3) := by decide +kernel
theorem dX4_add_4 : decode cX4_add 4 = .ok (.ifCond .eq 4, 3) := by decide +kernel
theorem dX4_add_7 : decode cX4_add 7 = .ok (.return_, 1) := by decide +kernel
theorem dX4_add_8 : decode cX4_add 8 = .ok (.aload_n 0, 1) := by decide +kernel
theorem dX4_add_9 : decode cX4_add 9 = .ok (.getfield 15, 3) := by decide +kernel
theorem dX4_add_12 : decode cX4_add 12 = .ok (.aload_n 0, 1) := by decide +kernel
theorem dX4_add_13 : decode cX4_add 13 = .ok (.getfield 9, 3) := by decide +kernel
theorem dX4_add_16 : decode cX4_add 16 = .ok (.iload_n 1, 1) := by decide +kernel
theorem dX4_add_17 : decode cX4_add 17 = .ok (.iastore, 1) := by decide +kernel
theorem dX4_add_18 : decode cX4_add 18 = .ok (.aload_n 0, 1) := by decide +kernel
theorem dX4_add_19 : decode cX4_add 19 = .ok (.getfield 19, 3) := by decide +kernel
theorem dX4_add_22 : decode cX4_add 22 = .ok (.aload_n 0, 1) := by decide +kernel
theorem dX4_add_23 : decode cX4_add 23 = .ok (.getfield 9, 3) := by decide +kernel
theorem dX4_add_26 : decode cX4_add 26 = .ok (.iload_n 2, 1) := by decide +kernel
theorem dX4_add_27 : decode cX4_add 27 = .ok (.iastore, 1) := by decide +kernel
theorem dX4_add_28 : decode cX4_add 28 = .ok (.aload_n 0, 1) := by decide +kernel
theorem dX4_add_29 : decode cX4_add 29 = .ok (.dup, 1) := by decide +kernel
theorem dX4_add_30 : decode cX4_add 30 = .ok (.getfield 9, 3) := by decide +kernel
theorem dX4_add_33 : decode cX4_add 33 = .ok (.iconst 1, 1) := by decide +kernel
theorem dX4_add_34 : decode cX4_add 34 = .ok (.iadd, 1) := by decide +kernel
theorem dX4_add_35 : decode cX4_add 35 = .ok (.putfield 9, 3) := by decide +kernel
theorem dX4_add_38 : decode cX4_add 38 = .ok (.return_, 1) := by decide +kernel
set_option maxRecDepth 20000 in
theorem ggX4_fits_X5_squareOf : GoodIn wsX4_fits wsX5_squareOf := goodIn_r _ [8, 9, 10, 11, 12, 13, 7, 14, 15, 16, 17, 18, 19, 20, 24, 25, 26, 27, 28, 29, 30, 31] (by decide +kernel) (by decide +kernel)
set_option maxRecDepth 20000 in
theorem gX4_fits_X5_squareOf : GoodIn wsX4_fits (wsV RX4 26 RX5 yX5_squareOf wsX5_squareOf) := goodIn_app (goodIn_of _ (by decide +kernel)) ggX4_fits_X5_squareOf
theorem dX4_fits_0 : decode cX4_fits 0 = .ok (.iconst 0, 1) := by decide +kernel
theorem dX4_fits_1 : decode cX4_fits 1 = .ok (.istore_n 3, 1) := by decide +kernel
theorem dX4_fits_2 : decode cX4_fits 2 = .ok (.iload_n 3, 1) := by decide +kernel
theorem dX4_fits_3 : decode cX4_fits 3 = .ok (.aload_n 0, 1) := by decide +kernel
theorem dX4_fits_4 : decode cX4_fits 4 = .ok (.getfield 9, 3) := by decide +kernel
theorem dX4_fits_7 : decode cX4_fits 7 = .ok (.if_icmp .ge 31, 3) := by decide +kernel
theorem dX4_fits_10 : decode cX4_fits 10 = .ok (.aload_n 1, 1) := by decide +kernel
theorem dX4_fits_11 : decode cX4_fits 11 = .ok (.aload_n 0, 1) := by decide +kernel
theorem dX4_fits_12 : decode cX4_fits 12 = .ok (.getfield 15, 3) := by decide +kernel
theorem dX4_fits_15 : decode cX4_fits 15 = .ok (.iload_n 3, 1) := by decide +kernel
theorem dX4_fits_16 : decode cX4_fits 16 = .ok (.iaload, 1) := by decide +kernel
theorem dX4_fits_17 : decode cX4_fits 17 = .ok (.iload_n 2, 1) := by decide +kernel
theorem dX4_fits_18 : decode cX4_fits 18 = .ok (.invokevirtual 26, 3) := by decide +kernel
theorem dX4_fits_21 : decode cX4_fits 21 = .ok (.aload_n 0, 1) := by decide +kernel
theorem dX4_fits_22 : decode cX4_fits 22 = .ok (.getfield 19, 3) := by decide +kernel
theorem dX4_fits_25 : decode cX4_fits 25 = .ok (.iload_n 3, 1) := by decide +kernel
theorem dX4_fits_26 : decode cX4_fits 26 = .ok (.iaload, 1) := by decide +kernel
theorem dX4_fits_27 : decode cX4_fits 27 = .ok (.if_icmp .eq 5, 3) := by decide +kernel
theorem dX4_fits_30 : decode cX4_fits 30 = .ok (.iconst 0, 1) := by decide +kernel
theorem dX4_fits_31 : decode cX4_fits 31 = .ok (.ireturn, 1) := by decide +kernel
theorem dX4_fits_32 : decode cX4_fits 32 = .ok (.iinc 3 1, 3) := by decide +kernel
theorem dX4_fits_35 : decode cX4_fits 35 = .ok (.goto (-33), 3) := by decide +kernel
theorem dX4_fits_38 : decode cX4_fits 38 = .ok (.iconst 1, 1) := by decide +kernel
theorem dX4_fits_39 : decode cX4_fits 39 = .ok (.ireturn, 1) := by decide +kernel
set_option maxRecDepth 20000 in
theorem ggX5_init_X6_init : GoodIn wsX5_init wsX6_init := goodIn_r _ [18, 19, 2, 3, 6, 20, 21, 22, 23, 24, 25, 26, 35, 36, 37] (by decide +kernel) (by decide +kernel)
set_option maxRecDepth 20000 in
theorem gX5_init_X6_init : GoodIn wsX5_init (wsX6_init) := ggX5_init_X6_init
theorem dX5_init_0 : decode cX5_init 0 = .ok (.aload_n 0, 1) := by decide +kernel
theorem dX5_init_1 : decode cX5_init 1 = .ok (.invokespecial 3, 3) := by decide +kernel
theorem dX5_init_4 : decode cX5_init 4 = .ok (.aload_n 0, 1) := by decide +kernel
theorem dX5_init_5 : decode cX5_init 5 = .ok (.iconst 4, 1) := by decide +kernel
theorem dX5_init_6 : decode cX5_init 6 = .ok (.putfield 9, 3) := by decide +kernel
theorem dX5_init_9 : decode cX5_init 9 = .ok (.aload_n 0, 1) := by decide +kernel
theorem dX5_init_10 : decode cX5_init 10 = .ok (.iconst 0, 1) := by decide +kernel
theorem dX5_init_11 : decode cX5_init 11 = .ok (.putfield 15, 3) := by decide +kernel
theorem dX5_init_14 : decode cX5_init 14 = .ok (.aload_n 0, 1) := by decide +kernel
theorem dX5_init_15 : decode cX5_init 15 = .ok (.bipush 8, 2) := by decide +kernel
theorem dX5_init_17 : decode cX5_init 17 = .ok (.newarray .int, 2) := by decide +kernel
theorem dX5_init_19 : decode cX5_init 19 = .ok (.putfield 18, 3) := by decide +kernel
theorem dX5_init_22 : decode cX5_init 22 = .ok (.aload_n 0, 1) := by decide +kernel
theorem dX5_init_23 : decode cX5_init 23 = .ok (.bipush 8, 2) := by decide +kernel
theorem dX5_init_25 : decode cX5_init 25 = .ok (.newarray .int, 2) := by decide +kernel
theorem dX5_init_27 : decode cX5_init 27 = .ok (.putfield 22, 3) := by decide +kernel
theorem dX5_init_30 : decode cX5_init 30 = .ok (.aload_n 0, 1) := by decide +kernel
theorem dX5_init_31 : decode cX5_init 31 = .ok (.bipush 8, 2) := by decide +kernel
theorem dX5_init_33 : decode cX5_init 33 = .ok (.newarray .int, 2) := by decide +kernel
theorem dX5_init_35 : decode cX5_init 35 = .ok (.putfield 25, 3) := by decide +kernel
theorem dX5_init_38 : decode cX5_init 38 = .ok (.aload_n 0, 1) := by decide +kernel
theorem dX5_init_39 : decode cX5_init 39 = .ok (.iconst 0, 1) := by decide +kernel
theorem dX5_init_40 : decode cX5_init 40 = .ok (.putfield 28, 3) := by decide +kernel
theorem dX5_init_43 : decode cX5_init 43 = .ok (.aload_n 0, 1) := by decide +kernel
theorem dX5_init_44 : decode cX5_init 44 = .ok (.iconst 4, 1) := by decide +kernel
theorem dX5_init_45 : decode cX5_init 45 = .ok (.newarray .int, 2) := by decide +kernel
theorem dX5_init_47 : decode cX5_init 47 = .ok (.putfield 31, 3) := by decide +kernel
theorem dX5_init_50 : decode cX5_init 50 = .ok (.aload_n 0, 1) := by decide +kernel
theorem dX5_init_51 : decode cX5_init 51 = .ok (.new 34, 3) := by decide +kernel
theorem dX5_init_54 : decode cX5_init 54 = .ok (.dup, 1) := by decide +kernel
theorem dX5_init_55 : decode cX5_init 55 = .ok (.bipush 10, 2) := by decide +kernel
theorem dX5_init_57 : decode cX5_init 57 = .ok (.invokespecial 36, 3) := by decide +kernel
theorem dX5_init_60 : decode cX5_init 60 = .ok (.putfield 39, 3) := by decide +kernel
theorem dX5_init_63 : decode cX5_init 63 = .ok (.return_, 1) := by decide +kernel
theorem dX5_empty_0 : decode cX5_empty 0 = .ok (.aload_n 0, 1) := by decide +kernel
theorem dX5_empty_1 : decode cX5_empty 1 = .ok (.iconst 4, 1) := by decide +kernel
theorem dX5_empty_2 : decode cX5_empty 2 = .ok (.putfield 9, 3) := by decide +kernel
theorem dX5_empty_5 : decode cX5_empty 5 = .ok (.aload_n 0, 1) := by decide +kernel
theorem dX5_empty_6 : decode cX5_empty 6 = .ok (.iconst 0, 1) := by decide +kernel
theorem dX5_empty_7 : decode cX5_empty 7 = .ok (.putfield 15, 3) := by decide +kernel
theorem dX5_empty_10 : decode cX5_empty 10 = .ok (.aload_n 0, 1) := by decide +kernel
theorem dX5_empty_11 : decode cX5_empty 11 = .ok (.iconst 0, 1) := by decide +kernel
theorem dX5_empty_12 : decode cX5_empty 12 = .ok (.putfield 28, 3) := by decide +kernel
theorem dX5_empty_15 : decode cX5_empty 15 = .ok (.aload_n 0, 1) := by decide +kernel
theorem dX5_empty_16 : decode cX5_empty 16 = .ok (.getfield 39, 3) := by decide +kernel
theorem dX5_empty_19 : decode cX5_empty 19 = .ok (.iconst 0, 1) := by decide +kernel
theorem dX5_empty_20 : decode cX5_empty 20 = .ok (.putfield 43, 3) := by decide +kernel
theorem dX5_empty_23 : decode cX5_empty 23 = .ok (.return_, 1) := by decide +kernel
set_option maxRecDepth 20000 in
theorem ggX5_take_X6_add : GoodIn wsX5_take wsX6_add := goodIn_r _ [13, 14, 15, 16, 17, 18, 12, 19, 20, 29, 30, 31] (by decide +kernel) (by decide +kernel)
set_option maxRecDepth 20000 in
theorem gX5_take_X6_add : GoodIn wsX5_take (wsV RX5 48 RX6 yX6_add wsX6_add) := goodIn_app (goodIn_of _ (by decide +kernel)) ggX5_take_X6_add
theorem dX5_take_0 : decode cX5_take 0 = .ok (.iload_n 1, 1) := by decide +kernel
theorem dX5_take_1 : decode cX5_take 1 = .ok (.iconst 4, 1) := by decide +kernel
theorem dX5_take_2 : decode cX5_take 2 = .ok (.if_icmp .ne 13, 3) := by decide +kernel
theorem dX5_take_5 : decode cX5_take 5 = .ok (.aload_n 0, 1) := by decide +kernel
theorem dX5_take_6 : decode cX5_take 6 = .ok (.aload_n 2, 1) := by decide +kernel
theorem dX5_take_7 : decode cX5_take 7 = .ok (.iconst 0, 1) := by decide +kernel
theorem dX5_take_8 : decode cX5_take 8 = .ok (.iaload, 1) := by decide +kernel
theorem dX5_take_9 : decode cX5_take 9 = .ok (.putfield 9, 3) := by decide +kernel
theorem dX5_take_12 : decode cX5_take 12 = .ok (.goto 133, 3) := by decide +kernel
theorem dX5_take_15 : decode cX5_take 15 = .ok (.iload_n 1, 1) := by decide +kernel
theorem dX5_take_16 : decode cX5_take 16 = .ok (.iconst 5, 1) := by decide +kernel
theorem dX5_take_17 : decode cX5_take 17 = .ok (.if_icmp .ne 61, 3) := by decide +kernel
theorem dX5_take_20 : decode cX5_take 20 = .ok (.aload_n 0, 1) := by decide +kernel
theorem dX5_take_21 : decode cX5_take 21 = .ok (.getfield 15, 3) := by decide +kernel
theorem dX5_take_24 : decode cX5_take 24 = .ok (.bipush 8, 2) := by decide +kernel
theorem dX5_take_26 : decode cX5_take 26 = .ok (.if_icmp .ge 52, 3) := by decide +kernel
theorem dX5_take_29 : decode cX5_take 29 = .ok (.aload_n 0, 1) := by decide +kernel
theorem dX5_take_30 : decode cX5_take 30 = .ok (.getfield 18, 3) := by decide +kernel
theorem dX5_take_33 : decode cX5_take 33 = .ok (.aload_n 0, 1) := by decide +kernel
theorem dX5_take_34 : decode cX5_take 34 = .ok (.getfield 15, 3) := by decide +kernel
theorem dX5_take_37 : decode cX5_take 37 = .ok (.aload_n 2, 1) := by decide +kernel
theorem dX5_take_38 : decode cX5_take 38 = .ok (.iconst 0, 1) := by decide +kernel
theorem dX5_take_39 : decode cX5_take 39 = .ok (.iaload, 1) := by decide +kernel
theorem dX5_take_40 : decode cX5_take 40 = .ok (.iastore, 1) := by decide +kernel
theorem dX5_take_41 : decode cX5_take 41 = .ok (.aload_n 0, 1) := by decide +kernel
theorem dX5_take_42 : decode cX5_take 42 = .ok (.getfield 22, 3) := by decide +kernel
theorem dX5_take_45 : decode cX5_take 45 = .ok (.aload_n 0, 1) := by decide +kernel
theorem dX5_take_46 : decode cX5_take 46 = .ok (.getfield 15, 3) := by decide +kernel
theorem dX5_take_49 : decode cX5_take 49 = .ok (.aload_n 2, 1) := by decide +kernel
theorem dX5_take_50 : decode cX5_take 50 = .ok (.iconst 1, 1) := by decide +kernel
theorem dX5_take_51 : decode cX5_take 51 = .ok (.iaload, 1) := by decide +kernel
theorem dX5_take_52 : decode cX5_take 52 = .ok (.iastore, 1) := by decide +kernel
theorem dX5_take_53 : decode cX5_take 53 = .ok (.aload_n 0, 1) := by decide +kernel
theorem dX5_take_54 : decode cX5_take 54 = .ok (.getfield 25, 3) := by decide +kernel
theorem dX5_take_57 : decode cX5_take 57 = .ok (.aload_n 0, 1) := by decide +kernel
theorem dX5_take_58 : decode cX5_take 58 = .ok (.getfield 15, 3) := by decide +kernel
theorem dX5_take_61 : decode cX5_take 61 = .ok (.aload_n 2, 1) := by decide +kernel
theorem dX5_take_62 : decode cX5_take 62 = .ok (.iconst 2, 1) := by decide +kernel
theorem dX5_take_63 : decode cX5_take 63 = .ok (.iaload, 1) := by decide +kernel
theorem dX5_take_64 : decode cX5_take 64 = .ok (.iastore, 1) := by decide +kernel
theorem dX5_take_65 : decode cX5_take 65 = .ok (.aload_n 0, 1) := by decide +kernel
theorem dX5_take_66 : decode cX5_take 66 = .ok (.dup, 1) := by decide +kernel
theorem dX5_take_67 : decode cX5_take 67 = .ok (.getfield 15, 3) := by decide +kernel
theorem dX5_take_70 : decode cX5_take 70 = .ok (.iconst 1, 1) := by decide +kernel
theorem dX5_take_71 : decode cX5_take 71 = .ok (.iadd, 1) := by decide +kernel
theorem dX5_take_72 : decode cX5_take 72 = .ok (.putfield 15, 3) := by decide +kernel
theorem dX5_take_75 : decode cX5_take 75 = .ok (.goto 70, 3) := by decide +kernel
theorem dX5_take_78 : decode cX5_take 78 = .ok (.iload_n 1, 1) := by decide +kernel
theorem dX5_take_79 : decode cX5_take 79 = .ok (.bipush 6, 2) := by decide +kernel
theorem dX5_take_81 : decode cX5_take 81 = .ok (.if_icmp .ne 36, 3) := by decide +kernel
theorem dX5_take_84 : decode cX5_take 84 = .ok (.aload_n 0, 1) := by decide +kernel
theorem dX5_take_85 : decode cX5_take 85 = .ok (.getfield 28, 3) := by decide +kernel
theorem dX5_take_88 : decode cX5_take 88 = .ok (.iconst 4, 1) := by decide +kernel
theorem dX5_take_89 : decode cX5_take 89 = .ok (.if_icmp .ge 28, 3) := by decide +kernel
theorem dX5_take_92 : decode cX5_take 92 = .ok (.aload_n 0, 1) := by decide +kernel
theorem dX5_take_93 : decode cX5_take 93 = .ok (.getfield 31, 3) := by decide +kernel
theorem dX5_take_96 : decode cX5_take 96 = .ok (.aload_n 0, 1) := by decide +kernel
theorem dX5_take_97 : decode cX5_take 97 = .ok (.getfield 28, 3) := by decide +kernel
theorem dX5_take_100 : decode cX5_take 100 = .ok (.aload_n 2, 1) := by decide +kernel
theorem dX5_take_101 : decode cX5_take 101 = .ok (.iconst 0, 1) := by decide +kernel
theorem dX5_take_102 : decode cX5_take 102 = .ok (.iaload, 1) := by decide +kernel
theorem dX5_take_103 : decode cX5_take 103 = .ok (.iastore, 1) := by decide +kernel
theorem dX5_take_104 : decode cX5_take 104 = .ok (.aload_n 0, 1) := by decide +kernel
theorem dX5_take_105 : decode cX5_take 105 = .ok (.dup, 1) := by decide +kernel
theorem dX5_take_106 : decode cX5_take 106 = .ok (.getfield 28, 3) := by decide +kernel
theorem dX5_take_109 : decode cX5_take 109 = .ok (.iconst 1, 1) := by decide +kernel
theorem dX5_take_110 : decode cX5_take 110 = .ok (.iadd, 1) := by decide +kernel
theorem dX5_take_111 : decode cX5_take 111 = .ok (.putfield 28, 3) := by decide +kernel
theorem dX5_take_114 : decode cX5_take 114 = .ok (.goto 31, 3) := by decide +kernel
theorem dX5_take_117 : decode cX5_take 117 = .ok (.iload_n 1, 1) := by decide +kernel
theorem dX5_take_118 : decode cX5_take 118 = .ok (.bipush 7, 2) := by decide +kernel
theorem dX5_take_120 : decode cX5_take 120 = .ok (.if_icmp .ne 25, 3) := by decide +kernel
theorem dX5_take_123 : decode cX5_take 123 = .ok (.aload_n 0, 1) := by decide +kernel
theorem dX5_take_124 : decode cX5_take 124 = .ok (.getfield 39, 3) := by decide +kernel
theorem dX5_take_127 : decode cX5_take 127 = .ok (.aload_n 2, 1) := by decide +kernel
theorem dX5_take_128 : decode cX5_take 128 = .ok (.iconst 0, 1) := by decide +kernel
theorem dX5_take_129 : decode cX5_take 129 = .ok (.iaload, 1) := by decide +kernel
theorem dX5_take_130 : decode cX5_take 130 = .ok (.aload_n 2, 1) := by decide +kernel
theorem dX5_take_131 : decode cX5_take 131 = .ok (.iconst 1, 1) := by decide +kernel
theorem dX5_take_132 : decode cX5_take 132 = .ok (.iaload, 1) := by decide +kernel
theorem dX5_take_133 : decode cX5_take 133 = .ok (.aload_n 2, 1) := by decide +kernel
theorem dX5_take_134 : decode cX5_take 134 = .ok (.iconst 2, 1) := by decide +kernel
theorem dX5_take_135 : decode cX5_take 135 = .ok (.iaload, 1) := by decide +kernel
theorem dX5_take_136 : decode cX5_take 136 = .ok (.aload_n 2, 1) := by decide +kernel
theorem dX5_take_137 : decode cX5_take 137 = .ok (.iconst 3, 1) := by decide +kernel
theorem dX5_take_138 : decode cX5_take 138 = .ok (.iaload, 1) := by decide +kernel
theorem dX5_take_139 : decode cX5_take 139 = .ok (.aload_n 2, 1) := by decide +kernel
theorem dX5_take_140 : decode cX5_take 140 = .ok (.iconst 4, 1) := by decide +kernel
theorem dX5_take_141 : decode cX5_take 141 = .ok (.iaload, 1) := by decide +kernel
theorem dX5_take_142 : decode cX5_take 142 = .ok (.invokevirtual 48, 3) := by decide +kernel
theorem dX5_take_145 : decode cX5_take 145 = .ok (.return_, 1) := by decide +kernel
theorem dX5_hasSquare_0 : decode cX5_hasSquare 0 = .ok (.iload_n 1, 1) := by decide +kernel
theorem dX5_hasSquare_1 : decode cX5_hasSquare 1 = .ok (.ifCond .lt 15, 3) := by decide +kernel
theorem dX5_hasSquare_4 : decode cX5_hasSquare 4 = .ok (.iload_n 1, 1) := by decide +kernel
theorem dX5_hasSquare_5 : decode cX5_hasSquare 5 = .ok (.aload_n 0, 1) := by decide +kernel
theorem dX5_hasSquare_6 : decode cX5_hasSquare 6 = .ok (.getfield 9, 3) := by decide +kernel
theorem dX5_hasSquare_9 : decode cX5_hasSquare 9 = .ok (.if_icmp .ge 7, 3) := by decide +kernel
theorem dX5_hasSquare_12 : decode cX5_hasSquare 12 = .ok (.iconst 1, 1) := by decide +kernel
theorem dX5_hasSquare_13 : decode cX5_hasSquare 13 = .ok (.goto 4, 3) := by decide +kernel
theorem dX5_hasSquare_16 : decode cX5_hasSquare 16 = .ok (.iconst 0, 1) := by decide +kernel
theorem dX5_hasSquare_17 : decode cX5_hasSquare 17 = .ok (.ireturn, 1) := by decide +kernel
theorem dX5_hasStar_0 : decode cX5_hasStar 0 = .ok (.iload_n 1, 1) := by decide +kernel
theorem dX5_hasStar_1 : decode cX5_hasStar 1 = .ok (.ifCond .lt 15, 3) := by decide +kernel
theorem dX5_hasStar_4 : decode cX5_hasStar 4 = .ok (.iload_n 1, 1) := by decide +kernel
theorem dX5_hasStar_5 : decode cX5_hasStar 5 = .ok (.aload_n 0, 1) := by decide +kernel
theorem dX5_hasStar_6 : decode cX5_hasStar 6 = .ok (.getfield 15, 3) := by decide +kernel
theorem dX5_hasStar_9 : decode cX5_hasStar 9 = .ok (.if_icmp .ge 7, 3) := by decide +kernel
theorem dX5_hasStar_12 : decode cX5_hasStar 12 = .ok (.iconst 1, 1) := by decide +kernel
theorem dX5_hasStar_13 : decode cX5_hasStar 13 = .ok (.goto 4, 3) := by decide +kernel
theorem dX5_hasStar_16 : decode cX5_hasStar 16 = .ok (.iconst 0, 1) := by decide +kernel
theorem dX5_hasStar_17 : decode cX5_hasStar 17 = .ok (.ireturn, 1) := by decide +kernel
theorem dX5_hasTenant_0 : decode cX5_hasTenant 0 = .ok (.iload_n 1, 1) := by decide +kernel
theorem dX5_hasTenant_1 : decode cX5_hasTenant 1 = .ok (.ifCond .lt 15, 3) := by decide +kernel
theorem dX5_hasTenant_4 : decode cX5_hasTenant 4 = .ok (.iload_n 1, 1) := by decide +kernel
theorem dX5_hasTenant_5 : decode cX5_hasTenant 5 = .ok (.aload_n 0, 1) := by decide +kernel
theorem dX5_hasTenant_6 : decode cX5_hasTenant 6 = .ok (.getfield 28, 3) := by decide +kernel
theorem dX5_hasTenant_9 : decode cX5_hasTenant 9 = .ok (.if_icmp .ge 7, 3) := by decide +kernel
theorem dX5_hasTenant_12 : decode cX5_hasTenant 12 = .ok (.iconst 1, 1) := by decide +kernel
theorem dX5_hasTenant_13 : decode cX5_hasTenant 13 = .ok (.goto 4, 3) := by decide +kernel
theorem dX5_hasTenant_16 : decode cX5_hasTenant 16 = .ok (.iconst 0, 1) := by decide +kernel
theorem dX5_hasTenant_17 : decode cX5_hasTenant 17 = .ok (.ireturn, 1) := by decide +kernel
theorem dX5_aroundRing_0 : decode cX5_aroundRing 0 = .ok (.aload_n 0, 1) := by decide +kernel
theorem dX5_aroundRing_1 : decode cX5_aroundRing 1 = .ok (.getfield 9, 3) := by decide +kernel
theorem dX5_aroundRing_4 : decode cX5_aroundRing 4 = .ok (.iconst 1, 1) := by decide +kernel
theorem dX5_aroundRing_5 : decode cX5_aroundRing 5 = .ok (.if_icmp .ge 7, 3) := by decide +kernel
theorem dX5_aroundRing_8 : decode cX5_aroundRing 8 = .ok (.iconst 0, 1) := by decide +kernel
theorem dX5_aroundRing_9 : decode cX5_aroundRing 9 = .ok (.goto 9, 3) := by decide +kernel
theorem dX5_aroundRing_12 : decode cX5_aroundRing 12 = .ok (.iload_n 1, 1) := by decide +kernel
theorem dX5_aroundRing_13 : decode cX5_aroundRing 13 = .ok (.aload_n 0, 1) := by decide +kernel
theorem dX5_aroundRing_14 : decode cX5_aroundRing 14 = .ok (.getfield 9, 3) := by decide +kernel
theorem dX5_aroundRing_17 : decode cX5_aroundRing 17 = .ok (.irem, 1) := by decide +kernel
theorem dX5_aroundRing_18 : decode cX5_aroundRing 18 = .ok (.ireturn, 1) := by decide +kernel
set_option maxRecDepth 20000 in
theorem ggX5_squareOf_X5_hasStar : GoodIn wsX5_squareOf wsX5_hasStar := goodIn_r _ [7, 8, 14, 15, 16, 17, 18, 19, 20, 21] (by decide +kernel) (by decide +kernel)
set_option maxRecDepth 20000 in
theorem gX5_squareOf_X5_hasStar : GoodIn wsX5_squareOf (wsV RX5 52 RX5 yX5_hasStar wsX5_hasStar) := goodIn_app (goodIn_of _ (by decide +kernel)) ggX5_squareOf_X5_hasStar
set_option maxRecDepth 20000 in
theorem ggX5_squareOf_X5_aroundRing : GoodIn wsX5_squareOf wsX5_aroundRing := goodIn_r _ [12, 13, 14, 15, 16, 17, 18, 19, 20, 21] (by decide +kernel) (by decide +kernel)
set_option maxRecDepth 20000 in
theorem gX5_squareOf_X5_aroundRing : GoodIn wsX5_squareOf (wsV RX5 56 RX5 yX5_aroundRing wsX5_aroundRing) := goodIn_app (goodIn_of _ (by decide +kernel)) ggX5_squareOf_X5_aroundRing
theorem dX5_squareOf_0 : decode cX5_squareOf 0 = .ok (.aload_n 0, 1) := by decide +kernel
theorem dX5_squareOf_1 : decode cX5_squareOf 1 = .ok (.iload_n 1, 1) := by decide +kernel
theorem dX5_squareOf_2 : decode cX5_squareOf 2 = .ok (.invokevirtual 52, 3) := by decide +kernel
theorem dX5_squareOf_5 : decode cX5_squareOf 5 = .ok (.ifCond .ne 6, 3) := by decide +kernel
theorem dX5_squareOf_8 : decode cX5_squareOf 8 = .ok (.bipush (-9), 2) := by decide +kernel
theorem dX5_squareOf_10 : decode cX5_squareOf 10 = .ok (.ireturn, 1) := by decide +kernel
theorem dX5_squareOf_11 : decode cX5_squareOf 11 = .ok (.aload_n 0, 1) := by decide +kernel
theorem dX5_squareOf_12 : decode cX5_squareOf 12 = .ok (.getfield 22, 3) := by decide +kernel
theorem dX5_squareOf_15 : decode cX5_squareOf 15 = .ok (.iload_n 1, 1) := by decide +kernel
theorem dX5_squareOf_16 : decode cX5_squareOf 16 = .ok (.iaload, 1) := by decide +kernel
theorem dX5_squareOf_17 : decode cX5_squareOf 17 = .ok (.istore_n 3, 1) := by decide +kernel
theorem dX5_squareOf_18 : decode cX5_squareOf 18 = .ok (.iload_n 3, 1) := by decide +kernel
theorem dX5_squareOf_19 : decode cX5_squareOf 19 = .ok (.iconst 1, 1) := by decide +kernel
theorem dX5_squareOf_20 : decode cX5_squareOf 20 = .ok (.if_icmp .ge 12, 3) := by decide +kernel
theorem dX5_squareOf_23 : decode cX5_squareOf 23 = .ok (.aload_n 0, 1) := by decide +kernel
theorem dX5_squareOf_24 : decode cX5_squareOf 24 = .ok (.getfield 18, 3) := by decide +kernel
theorem dX5_squareOf_27 : decode cX5_squareOf 27 = .ok (.iload_n 1, 1) := by decide +kernel
theorem dX5_squareOf_28 : decode cX5_squareOf 28 = .ok (.iaload, 1) := by decide +kernel
theorem dX5_squareOf_29 : decode cX5_squareOf 29 = .ok (.goto 17, 3) := by decide +kernel
theorem dX5_squareOf_32 : decode cX5_squareOf 32 = .ok (.aload_n 0, 1) := by decide +kernel
theorem dX5_squareOf_33 : decode cX5_squareOf 33 = .ok (.aload_n 0, 1) := by decide +kernel
theorem dX5_squareOf_34 : decode cX5_squareOf 34 = .ok (.getfield 18, 3) := by decide +kernel
theorem dX5_squareOf_37 : decode cX5_squareOf 37 = .ok (.iload_n 1, 1) := by decide +kernel
theorem dX5_squareOf_38 : decode cX5_squareOf 38 = .ok (.iaload, 1) := by decide +kernel
theorem dX5_squareOf_39 : decode cX5_squareOf 39 = .ok (.iload_n 2, 1) := by decide +kernel
theorem dX5_squareOf_40 : decode cX5_squareOf 40 = .ok (.iload_n 3, 1) := by decide +kernel
theorem dX5_squareOf_41 : decode cX5_squareOf 41 = .ok (.idiv, 1) := by decide +kernel
theorem dX5_squareOf_42 : decode cX5_squareOf 42 = .ok (.iadd, 1) := by decide +kernel
theorem dX5_squareOf_43 : decode cX5_squareOf 43 = .ok (.invokevirtual 56, 3) := by decide +kernel
theorem dX5_squareOf_46 : decode cX5_squareOf 46 = .ok (.ireturn, 1) := by decide +kernel
set_option maxRecDepth 20000 in
theorem ggX5_squaresWithStars_X5_squareOf : GoodIn wsX5_squaresWithStars wsX5_squareOf := goodIn_r _ [6, 7, 8, 9, 10, 11, 5, 12, 1, 13, 14, 15, 16, 17, 18, 19, 20, 21, 22, 23, 24, 25] (by decide +kernel) (by decide +kernel)
set_option maxRecDepth 20000 in
theorem gX5_squaresWithStars_X5_squareOf : GoodIn wsX5_squaresWithStars (wsV RX5 60 RX5 yX5_squareOf wsX5_squareOf) := goodIn_app (goodIn_of _ (by decide +kernel)) ggX5_squaresWithStars_X5_squareOf
theorem dX5_squaresWithStars_0 : decode cX5_squaresWithStars 0 = .ok (.iconst 0, 1) := by decide +kernel
theorem dX5_squaresWithStars_1 : decode cX5_squaresWithStars 1 = .ok (.istore_n 2, 1) := by decide +kernel
theorem dX5_squaresWithStars_2 : decode cX5_squaresWithStars 2 = .ok (.iconst 0, 1) := by decide +kernel
theorem dX5_squaresWithStars_3 : decode cX5_squaresWithStars 3 = .ok (.istore_n 3, 1) := by decide +kernel
theorem dX5_squaresWithStars_4 : decode cX5_squaresWithStars 4 = .ok (.iload_n 3, 1) := by decide +kernel
theorem dX5_squaresWithStars_5 : decode cX5_squaresWithStars 5 = .ok (.aload_n 0, 1) := by decide +kernel
theorem dX5_squaresWithStars_6 : decode cX5_squaresWithStars 6 = .ok (.getfield 15, 3) := by decide +kernel
theorem dX5_squaresWithStars_9 : decode cX5_squaresWithStars 9 = .ok (.if_icmp .ge 20, 3) := by decide +kernel
theorem dX5_squaresWithStars_12 : decode cX5_squaresWithStars 12 = .ok (.iload_n 2, 1) := by decide +kernel
theorem dX5_squaresWithStars_13 : decode cX5_squaresWithStars 13 = .ok (.iconst 1, 1) := by decide +kernel
theorem dX5_squaresWithStars_14 : decode cX5_squaresWithStars 14 = .ok (.aload_n 0, 1) := by decide +kernel
theorem dX5_squaresWithStars_15 : decode cX5_squaresWithStars 15 = .ok (.iload_n 3, 1) := by decide +kernel
theorem dX5_squaresWithStars_16 : decode cX5_squaresWithStars 16 = .ok (.iload_n 1, 1) := by decide +kernel
theorem dX5_squaresWithStars_17 : decode cX5_squaresWithStars 17 = .ok (.invokevirtual 60, 3) := by decide +kernel
theorem dX5_squaresWithStars_20 : decode cX5_squaresWithStars 20 = .ok (.ishl, 1) := by decide +kernel
theorem dX5_squaresWithStars_21 : decode cX5_squaresWithStars 21 = .ok (.ior, 1) := by decide +kernel
theorem dX5_squaresWithStars_22 : decode cX5_squaresWithStars 22 = .ok (.istore_n 2, 1) := by decide +kernel
theorem dX5_squaresWithStars_23 : decode cX5_squaresWithStars 23 = .ok (.iinc 3 1, 3) := by decide +kernel
theorem dX5_squaresWithStars_26 : decode cX5_squaresWithStars 26 = .ok (.goto (-22), 3) := by decide +kernel
theorem dX5_squaresWithStars_29 : decode cX5_squaresWithStars 29 = .ok (.iload_n 2, 1) := by decide +kernel
theorem dX5_squaresWithStars_30 : decode cX5_squaresWithStars 30 = .ok (.ireturn, 1) := by decide +kernel
set_option maxRecDepth 20000 in
theorem ggX5_nightsToRepeat_X8_greatestCommon : GoodIn wsX5_nightsToRepeat wsX8_greatestCommon := goodIn_r _ [6] (by decide +kernel) (by decide +kernel)
set_option maxRecDepth 20000 in
theorem gX5_nightsToRepeat_X8_greatestCommon_n64 : GoodIn wsX5_nightsToRepeat (wsX8_greatestCommon) := ggX5_nightsToRepeat_X8_greatestCommon
theorem dX5_nightsToRepeat_0 : decode cX5_nightsToRepeat 0 = .ok (.iconst 1, 1) := by decide +kernel
theorem dX5_nightsToRepeat_1 : decode cX5_nightsToRepeat 1 = .ok (.istore_n 1, 1) := by decide +kernel
theorem dX5_nightsToRepeat_2 : decode cX5_nightsToRepeat 2 = .ok (.iconst 0, 1) := by decide +kernel
theorem dX5_nightsToRepeat_3 : decode cX5_nightsToRepeat 3 = .ok (.istore_n 2, 1) := by decide +kernel
theorem dX5_nightsToRepeat_4 : decode cX5_nightsToRepeat 4 = .ok (.iload_n 2, 1) := by decide +kernel
theorem dX5_nightsToRepeat_5 : decode cX5_nightsToRepeat 5 = .ok (.aload_n 0, 1) := by decide +kernel
theorem dX5_nightsToRepeat_6 : decode cX5_nightsToRepeat 6 = .ok (.getfield 15, 3) := by decide +kernel
theorem dX5_nightsToRepeat_9 : decode cX5_nightsToRepeat 9 = .ok (.if_icmp .ge 44, 3) := by decide +kernel
theorem dX5_nightsToRepeat_12 : decode cX5_nightsToRepeat 12 = .ok (.aload_n 0, 1) := by decide +kernel
theorem dX5_nightsToRepeat_13 : decode cX5_nightsToRepeat 13 = .ok (.getfield 22, 3) := by decide +kernel
theorem dX5_nightsToRepeat_16 : decode cX5_nightsToRepeat 16 = .ok (.iload_n 2, 1) := by decide +kernel
theorem dX5_nightsToRepeat_17 : decode cX5_nightsToRepeat 17 = .ok (.iaload, 1) := by decide +kernel
theorem dX5_nightsToRepeat_18 : decode cX5_nightsToRepeat 18 = .ok (.aload_n 0, 1) := by decide +kernel
theorem dX5_nightsToRepeat_19 : decode cX5_nightsToRepeat 19 = .ok (.getfield 9, 3) := by decide +kernel
theorem dX5_nightsToRepeat_22 : decode cX5_nightsToRepeat 22 = .ok (.imul, 1) := by decide +kernel
theorem dX5_nightsToRepeat_23 : decode cX5_nightsToRepeat 23 = .ok (.istore_n 3, 1) := by decide +kernel
theorem dX5_nightsToRepeat_24 : decode cX5_nightsToRepeat 24 = .ok (.iload_n 1, 1) := by decide +kernel
theorem dX5_nightsToRepeat_25 : decode cX5_nightsToRepeat 25 = .ok (.iload_n 3, 1) := by decide +kernel
theorem dX5_nightsToRepeat_26 : decode cX5_nightsToRepeat 26 = .ok (.invokestatic 64, 3) := by decide +kernel
theorem dX5_nightsToRepeat_29 : decode cX5_nightsToRepeat 29 = .ok (.istore 4, 2) := by decide +kernel
theorem dX5_nightsToRepeat_31 : decode cX5_nightsToRepeat 31 = .ok (.iload_n 3, 1) := by decide +kernel
theorem dX5_nightsToRepeat_32 : decode cX5_nightsToRepeat 32 = .ok (.ifCond .le 15, 3) := by decide +kernel
theorem dX5_nightsToRepeat_35 : decode cX5_nightsToRepeat 35 = .ok (.iload 4, 2) := by decide +kernel
theorem dX5_nightsToRepeat_37 : decode cX5_nightsToRepeat 37 = .ok (.ifCond .le 10, 3) := by decide +kernel
theorem dX5_nightsToRepeat_40 : decode cX5_nightsToRepeat 40 = .ok (.iload_n 1, 1) := by decide +kernel
theorem dX5_nightsToRepeat_41 : decode cX5_nightsToRepeat 41 = .ok (.iload 4, 2) := by decide +kernel
theorem dX5_nightsToRepeat_43 : decode cX5_nightsToRepeat 43 = .ok (.idiv, 1) := by decide +kernel
theorem dX5_nightsToRepeat_44 : decode cX5_nightsToRepeat 44 = .ok (.iload_n 3, 1) := by decide +kernel
theorem dX5_nightsToRepeat_45 : decode cX5_nightsToRepeat 45 = .ok (.imul, 1) := by decide +kernel
theorem dX5_nightsToRepeat_46 : decode cX5_nightsToRepeat 46 = .ok (.istore_n 1, 1) := by decide +kernel
theorem dX5_nightsToRepeat_47 : decode cX5_nightsToRepeat 47 = .ok (.iinc 2 1, 3) := by decide +kernel
theorem dX5_nightsToRepeat_50 : decode cX5_nightsToRepeat 50 = .ok (.goto (-46), 3) := by decide +kernel
theorem dX5_nightsToRepeat_53 : decode cX5_nightsToRepeat 53 = .ok (.iload_n 1, 1) := by decide +kernel
theorem dX5_nightsToRepeat_54 : decode cX5_nightsToRepeat 54 = .ok (.ireturn, 1) := by decide +kernel
theorem dX6_init_0 : decode cX6_init 0 = .ok (.aload_n 0, 1) := by decide +kernel
theorem dX6_init_1 : decode cX6_init 1 = .ok (.invokespecial 3, 3) := by decide +kernel
theorem dX6_init_4 : decode cX6_init 4 = .ok (.aload_n 0, 1) := by decide +kernel
theorem dX6_init_5 : decode cX6_init 5 = .ok (.bipush 50, 2) := by decide +kernel
theorem dX6_init_7 : decode cX6_init 7 = .ok (.newarray .int, 2) := by decide +kernel
theorem dX6_init_9 : decode cX6_init 9 = .ok (.putfield 11, 3) := by decide +kernel
theorem dX6_init_12 : decode cX6_init 12 = .ok (.aload_n 0, 1) := by decide +kernel
theorem dX6_init_13 : decode cX6_init 13 = .ok (.iconst 0, 1) := by decide +kernel
theorem dX6_init_14 : decode cX6_init 14 = .ok (.putfield 15, 3) := by decide +kernel
theorem dX6_init_17 : decode cX6_init 17 = .ok (.aload_n 0, 1) := by decide +kernel
theorem dX6_init_18 : decode cX6_init 18 = .ok (.iload_n 1, 1) := by decide +kernel
theorem dX6_init_19 : decode cX6_init 19 = .ok (.bipush 10, 2) := by decide +kernel
theorem dX6_init_21 : decode cX6_init 21 = .ok (.invokestatic 19, 3) := by decide +kernel
theorem dX6_init_24 : decode cX6_init 24 = .ok (.putfield 25, 3) := by decide +kernel
theorem dX6_init_27 : decode cX6_init 27 = .ok (.return_, 1) := by decide +kernel
theorem dX6_isFull_0 : decode cX6_isFull 0 = .ok (.aload_n 0, 1) := by decide +kernel
theorem dX6_isFull_1 : decode cX6_isFull 1 = .ok (.getfield 15, 3) := by decide +kernel
theorem dX6_isFull_4 : decode cX6_isFull 4 = .ok (.aload_n 0, 1) := by decide +kernel
theorem dX6_isFull_5 : decode cX6_isFull 5 = .ok (.getfield 25, 3) := by decide +kernel
theorem dX6_isFull_8 : decode cX6_isFull 8 = .ok (.if_icmp .lt 7, 3) := by decide +kernel
theorem dX6_isFull_11 : decode cX6_isFull 11 = .ok (.iconst 1, 1) := by decide +kernel
theorem dX6_isFull_12 : decode cX6_isFull 12 = .ok (.goto 4, 3) := by decide +kernel
theorem dX6_isFull_15 : decode cX6_isFull 15 = .ok (.iconst 0, 1) := by decide +kernel
theorem dX6_isFull_16 : decode cX6_isFull 16 = .ok (.ireturn, 1) := by decide +kernel
theorem dX6_has_0 : decode cX6_has 0 = .ok (.iload_n 1, 1) := by decide +kernel
theorem dX6_has_1 : decode cX6_has 1 = .ok (.ifCond .lt 15, 3) := by decide +kernel
theorem dX6_has_4 : decode cX6_has 4 = .ok (.iload_n 1, 1) := by decide +kernel
theorem dX6_has_5 : decode cX6_has 5 = .ok (.aload_n 0, 1) := by decide +kernel
theorem dX6_has_6 : decode cX6_has 6 = .ok (.getfield 15, 3) := by decide +kernel
theorem dX6_has_9 : decode cX6_has 9 = .ok (.if_icmp .ge 7, 3) := by decide +kernel
theorem dX6_has_12 : decode cX6_has 12 = .ok (.iconst 1, 1) := by decide +kernel
theorem dX6_has_13 : decode cX6_has 13 = .ok (.goto 4, 3) := by decide +kernel
theorem dX6_has_16 : decode cX6_has 16 = .ok (.iconst 0, 1) := by decide +kernel
theorem dX6_has_17 : decode cX6_has 17 = .ok (.ireturn, 1) := by decide +kernel
set_option maxRecDepth 20000 in
theorem ggX6_part_X6_has : GoodIn wsX6_part wsX6_has := goodIn_r _ [6, 7, 11, 12, 13] (by decide +kernel) (by decide +kernel)
set_option maxRecDepth 20000 in
theorem gX6_part_X6_has : GoodIn wsX6_part (wsV RX6 28 RX6 yX6_has wsX6_has) := goodIn_app (goodIn_of _ (by decide +kernel)) ggX6_part_X6_has
set_option maxRecDepth 20000 in
theorem ggX6_part_X8_isWithin : GoodIn wsX6_part wsX8_isWithin := goodIn_r _ [10] (by decide +kernel) (by decide +kernel)
set_option maxRecDepth 20000 in
theorem gX6_part_X8_isWithin_n32 : GoodIn wsX6_part (wsX8_isWithin) := ggX6_part_X8_isWithin
theorem dX6_part_0 : decode cX6_part 0 = .ok (.aload_n 0, 1) := by decide +kernel
theorem dX6_part_1 : decode cX6_part 1 = .ok (.iload_n 1, 1) := by decide +kernel
theorem dX6_part_2 : decode cX6_part 2 = .ok (.invokevirtual 28, 3) := by decide +kernel
theorem dX6_part_5 : decode cX6_part 5 = .ok (.ifCond .eq 25, 3) := by decide +kernel
theorem dX6_part_8 : decode cX6_part 8 = .ok (.iload_n 2, 1) := by decide +kernel
theorem dX6_part_9 : decode cX6_part 9 = .ok (.iconst 0, 1) := by decide +kernel
theorem dX6_part_10 : decode cX6_part 10 = .ok (.iconst 4, 1) := by decide +kernel
theorem dX6_part_11 : decode cX6_part 11 = .ok (.invokestatic 32, 3) := by decide +kernel
theorem dX6_part_14 : decode cX6_part 14 = .ok (.ifCond .eq 16, 3) := by decide +kernel
theorem dX6_part_17 : decode cX6_part 17 = .ok (.aload_n 0, 1) := by decide +kernel
theorem dX6_part_18 : decode cX6_part 18 = .ok (.getfield 11, 3) := by decide +kernel
theorem dX6_part_21 : decode cX6_part 21 = .ok (.iload_n 1, 1) := by decide +kernel
theorem dX6_part_22 : decode cX6_part 22 = .ok (.iconst 5, 1) := by decide +kernel
theorem dX6_part_23 : decode cX6_part 23 = .ok (.imul, 1) := by decide +kernel
theorem dX6_part_24 : decode cX6_part 24 = .ok (.iload_n 2, 1) := by decide +kernel
theorem dX6_part_25 : decode cX6_part 25 = .ok (.iadd, 1) := by decide +kernel
theorem dX6_part_26 : decode cX6_part 26 = .ok (.iaload, 1) := by decide +kernel
theorem dX6_part_27 : decode cX6_part 27 = .ok (.goto 4, 3) := by decide +kernel
theorem dX6_part_30 : decode cX6_part 30 = .ok (.iconst 0, 1) := by decide +kernel
theorem dX6_part_31 : decode cX6_part 31 = .ok (.ireturn, 1) := by decide +kernel
set_option maxRecDepth 20000 in
theorem ggX6_add_X6_isFull : GoodIn wsX6_add wsX6_isFull := goodIn_r _ [7, 1, 8, 9, 10, 11] (by decide +kernel) (by decide +kernel)
set_option maxRecDepth 20000 in
theorem gX6_add_X6_isFull : GoodIn wsX6_add (wsV RX6 36 RX6 yX6_isFull wsX6_isFull) := goodIn_app (goodIn_of _ (by decide +kernel)) ggX6_add_X6_isFull
theorem dX6_add_0 : decode cX6_add 0 = .ok (.aload_n 0, 1) := by decide +kernel
theorem dX6_add_1 : decode cX6_add 1 = .ok (.invokevirtual 36, 3) := by decide +kernel
theorem dX6_add_4 : decode cX6_add 4 = .ok (.ifCond .eq 4, 3) := by decide +kernel
theorem dX6_add_7 : decode cX6_add 7 = .ok (.return_, 1) := by decide +kernel
theorem dX6_add_8 : decode cX6_add 8 = .ok (.aload_n 0, 1) := by decide +kernel
theorem dX6_add_9 : decode cX6_add 9 = .ok (.getfield 15, 3) := by decide +kernel
theorem dX6_add_12 : decode cX6_add 12 = .ok (.iconst 5, 1) := by decide +kernel
theorem dX6_add_13 : decode cX6_add 13 = .ok (.imul, 1) := by decide +kernel
theorem dX6_add_14 : decode cX6_add 14 = .ok (.istore 6, 2) := by decide +kernel
theorem dX6_add_16 : decode cX6_add 16 = .ok (.aload_n 0, 1) := by decide +kernel
theorem dX6_add_17 : decode cX6_add 17 = .ok (.getfield 11, 3) := by decide +kernel
theorem dX6_add_20 : decode cX6_add 20 = .ok (.iload 6, 2) := by decide +kernel
theorem dX6_add_22 : decode cX6_add 22 = .ok (.iconst 0, 1) := by decide +kernel
theorem dX6_add_23 : decode cX6_add 23 = .ok (.iadd, 1) := by decide +kernel
theorem dX6_add_24 : decode cX6_add 24 = .ok (.iload_n 1, 1) := by decide +kernel
theorem dX6_add_25 : decode cX6_add 25 = .ok (.iastore, 1) := by decide +kernel
theorem dX6_add_26 : decode cX6_add 26 = .ok (.aload_n 0, 1) := by decide +kernel
theorem dX6_add_27 : decode cX6_add 27 = .ok (.getfield 11, 3) := by decide +kernel
theorem dX6_add_30 : decode cX6_add 30 = .ok (.iload 6, 2) := by decide +kernel
theorem dX6_add_32 : decode cX6_add 32 = .ok (.iconst 1, 1) := by decide +kernel
theorem dX6_add_33 : decode cX6_add 33 = .ok (.iadd, 1) := by decide +kernel
theorem dX6_add_34 : decode cX6_add 34 = .ok (.iload_n 2, 1) := by decide +kernel
theorem dX6_add_35 : decode cX6_add 35 = .ok (.iastore, 1) := by decide +kernel
theorem dX6_add_36 : decode cX6_add 36 = .ok (.aload_n 0, 1) := by decide +kernel
theorem dX6_add_37 : decode cX6_add 37 = .ok (.getfield 11, 3) := by decide +kernel
theorem dX6_add_40 : decode cX6_add 40 = .ok (.iload 6, 2) := by decide +kernel
theorem dX6_add_42 : decode cX6_add 42 = .ok (.iconst 2, 1) := by decide +kernel
theorem dX6_add_43 : decode cX6_add 43 = .ok (.iadd, 1) := by decide +kernel
theorem dX6_add_44 : decode cX6_add 44 = .ok (.iload_n 3, 1) := by decide +kernel
theorem dX6_add_45 : decode cX6_add 45 = .ok (.iastore, 1) := by decide +kernel
theorem dX6_add_46 : decode cX6_add 46 = .ok (.aload_n 0, 1) := by decide +kernel
theorem dX6_add_47 : decode cX6_add 47 = .ok (.getfield 11, 3) := by decide +kernel
theorem dX6_add_50 : decode cX6_add 50 = .ok (.iload 6, 2) := by decide +kernel
theorem dX6_add_52 : decode cX6_add 52 = .ok (.iconst 3, 1) := by decide +kernel
theorem dX6_add_53 : decode cX6_add 53 = .ok (.iadd, 1) := by decide +kernel
theorem dX6_add_54 : decode cX6_add 54 = .ok (.iload 4, 2) := by decide +kernel
theorem dX6_add_56 : decode cX6_add 56 = .ok (.iastore, 1) := by decide +kernel
theorem dX6_add_57 : decode cX6_add 57 = .ok (.aload_n 0, 1) := by decide +kernel
theorem dX6_add_58 : decode cX6_add 58 = .ok (.getfield 11, 3) := by decide +kernel
theorem dX6_add_61 : decode cX6_add 61 = .ok (.iload 6, 2) := by decide +kernel
theorem dX6_add_63 : decode cX6_add 63 = .ok (.iconst 4, 1) := by decide +kernel
theorem dX6_add_64 : decode cX6_add 64 = .ok (.iadd, 1) := by decide +kernel
theorem dX6_add_65 : decode cX6_add 65 = .ok (.iload 5, 2) := by decide +kernel
theorem dX6_add_67 : decode cX6_add 67 = .ok (.iastore, 1) := by decide +kernel
theorem dX6_add_68 : decode cX6_add 68 = .ok (.aload_n 0, 1) := by decide +kernel
theorem dX6_add_69 : decode cX6_add 69 = .ok (.dup, 1) := by decide +kernel
theorem dX6_add_70 : decode cX6_add 70 = .ok (.getfield 15, 3) := by decide +kernel
theorem dX6_add_73 : decode cX6_add 73 = .ok (.iconst 1, 1) := by decide +kernel
theorem dX6_add_74 : decode cX6_add 74 = .ok (.iadd, 1) := by decide +kernel
theorem dX6_add_75 : decode cX6_add 75 = .ok (.putfield 15, 3) := by decide +kernel
theorem dX6_add_78 : decode cX6_add 78 = .ok (.return_, 1) := by decide +kernel
set_option maxRecDepth 20000 in
theorem ggX6_insertFrom_X6_isFull : GoodIn wsX6_insertFrom wsX6_isFull := goodIn_r _ [11, 1, 12, 20, 21, 22] (by decide +kernel) (by decide +kernel)
set_option maxRecDepth 20000 in
theorem gX6_insertFrom_X6_isFull : GoodIn wsX6_insertFrom (wsV RX6 36 RX6 yX6_isFull wsX6_isFull) := goodIn_app (goodIn_of _ (by decide +kernel)) ggX6_insertFrom_X6_isFull
set_option maxRecDepth 20000 in
theorem ggX6_insertFrom_X6_has : GoodIn wsX6_insertFrom wsX6_has := goodIn_r _ [16, 1, 20, 21, 22] (by decide +kernel) (by decide +kernel)
set_option maxRecDepth 20000 in
theorem gX6_insertFrom_X6_has : GoodIn wsX6_insertFrom (wsV RX6 28 RX6 yX6_has wsX6_has) := goodIn_app (goodIn_of _ (by decide +kernel)) ggX6_insertFrom_X6_has
set_option maxRecDepth 20000 in
theorem ggX6_insertFrom_X8_isWithin : GoodIn wsX6_insertFrom wsX8_isWithin := goodIn_r _ [19] (by decide +kernel) (by decide +kernel)
set_option maxRecDepth 20000 in
theorem gX6_insertFrom_X8_isWithin_n32 : GoodIn wsX6_insertFrom (wsX8_isWithin) := ggX6_insertFrom_X8_isWithin
theorem dX6_insertFrom_0 : decode cX6_insertFrom 0 = .ok (.aload_n 0, 1) := by decide +kernel
theorem dX6_insertFrom_1 : decode cX6_insertFrom 1 = .ok (.invokevirtual 36, 3) := by decide +kernel
theorem dX6_insertFrom_4 : decode cX6_insertFrom 4 = .ok (.ifCond .ne 23, 3) := by decide +kernel
theorem dX6_insertFrom_7 : decode cX6_insertFrom 7 = .ok (.aload_n 1, 1) := by decide +kernel
theorem dX6_insertFrom_8 : decode cX6_insertFrom 8 = .ok (.iload_n 2, 1) := by decide +kernel
theorem dX6_insertFrom_9 : decode cX6_insertFrom 9 = .ok (.invokevirtual 28, 3) := by decide +kernel
theorem dX6_insertFrom_12 : decode cX6_insertFrom 12 = .ok (.ifCond .eq 15, 3) := by decide +kernel
theorem dX6_insertFrom_15 : decode cX6_insertFrom 15 = .ok (.iload_n 3, 1) := by decide +kernel
theorem dX6_insertFrom_16 : decode cX6_insertFrom 16 = .ok (.iconst 0, 1) := by decide +kernel
theorem dX6_insertFrom_17 : decode cX6_insertFrom 17 = .ok (.aload_n 0, 1) := by decide +kernel
theorem dX6_insertFrom_18 : decode cX6_insertFrom 18 = .ok (.getfield 15, 3) := by decide +kernel
theorem dX6_insertFrom_21 : decode cX6_insertFrom 21 = .ok (.invokestatic 32, 3) := by decide +kernel
theorem dX6_insertFrom_24 : decode cX6_insertFrom 24 = .ok (.ifCond .ne 4, 3) := by decide +kernel
theorem dX6_insertFrom_27 : decode cX6_insertFrom 27 = .ok (.return_, 1) := by decide +kernel
theorem dX6_insertFrom_28 : decode cX6_insertFrom 28 = .ok (.iload_n 3, 1) := by decide +kernel
theorem dX6_insertFrom_29 : decode cX6_insertFrom 29 = .ok (.iconst 5, 1) := by decide +kernel
theorem dX6_insertFrom_30 : decode cX6_insertFrom 30 = .ok (.imul, 1) := by decide +kernel
theorem dX6_insertFrom_31 : decode cX6_insertFrom 31 = .ok (.istore 4, 2) := by decide +kernel
theorem dX6_insertFrom_33 : decode cX6_insertFrom 33 = .ok (.aload_n 0, 1) := by decide +kernel
theorem dX6_insertFrom_34 : decode cX6_insertFrom 34 = .ok (.getfield 11, 3) := by decide +kernel
theorem dX6_insertFrom_37 : decode cX6_insertFrom 37 = .ok (.iload 4, 2) := by decide +kernel
theorem dX6_insertFrom_39 : decode cX6_insertFrom 39 = .ok (.aload_n 0, 1) := by decide +kernel
theorem dX6_insertFrom_40 : decode cX6_insertFrom 40 = .ok (.getfield 11, 3) := by decide +kernel
theorem dX6_insertFrom_43 : decode cX6_insertFrom 43 = .ok (.iload 4, 2) := by decide +kernel
theorem dX6_insertFrom_45 : decode cX6_insertFrom 45 = .ok (.iconst 5, 1) := by decide +kernel
theorem dX6_insertFrom_46 : decode cX6_insertFrom 46 = .ok (.iadd, 1) := by decide +kernel
theorem dX6_insertFrom_47 : decode cX6_insertFrom 47 = .ok (.aload_n 0, 1) := by decide +kernel
theorem dX6_insertFrom_48 : decode cX6_insertFrom 48 = .ok (.getfield 15, 3) := by decide +kernel
theorem dX6_insertFrom_51 : decode cX6_insertFrom 51 = .ok (.iload_n 3, 1) := by decide +kernel
theorem dX6_insertFrom_52 : decode cX6_insertFrom 52 = .ok (.isub, 1) := by decide +kernel
theorem dX6_insertFrom_53 : decode cX6_insertFrom 53 = .ok (.iconst 5, 1) := by decide +kernel
theorem dX6_insertFrom_54 : decode cX6_insertFrom 54 = .ok (.imul, 1) := by decide +kernel
theorem dX6_insertFrom_55 : decode cX6_insertFrom 55 = .ok (.invokestatic 40, 3) := by decide +kernel
theorem dX6_insertFrom_58 : decode cX6_insertFrom 58 = .ok (.aload_n 1, 1) := by decide +kernel
theorem dX6_insertFrom_59 : decode cX6_insertFrom 59 = .ok (.getfield 11, 3) := by decide +kernel
theorem dX6_insertFrom_62 : decode cX6_insertFrom 62 = .ok (.iload_n 2, 1) := by decide +kernel
theorem dX6_insertFrom_63 : decode cX6_insertFrom 63 = .ok (.iconst 5, 1) := by decide +kernel
theorem dX6_insertFrom_64 : decode cX6_insertFrom 64 = .ok (.imul, 1) := by decide +kernel
theorem dX6_insertFrom_65 : decode cX6_insertFrom 65 = .ok (.aload_n 0, 1) := by decide +kernel
theorem dX6_insertFrom_66 : decode cX6_insertFrom 66 = .ok (.getfield 11, 3) := by decide +kernel
theorem dX6_insertFrom_69 : decode cX6_insertFrom 69 = .ok (.iload 4, 2) := by decide +kernel
theorem dX6_insertFrom_71 : decode cX6_insertFrom 71 = .ok (.iconst 5, 1) := by decide +kernel
theorem dX6_insertFrom_72 : decode cX6_insertFrom 72 = .ok (.invokestatic 40, 3) := by decide +kernel
theorem dX6_insertFrom_75 : decode cX6_insertFrom 75 = .ok (.aload_n 0, 1) := by decide +kernel
theorem dX6_insertFrom_76 : decode cX6_insertFrom 76 = .ok (.dup, 1) := by decide +kernel
theorem dX6_insertFrom_77 : decode cX6_insertFrom 77 = .ok (.getfield 15, 3) := by decide +kernel
theorem dX6_insertFrom_80 : decode cX6_insertFrom 80 = .ok (.iconst 1, 1) := by decide +kernel
theorem dX6_insertFrom_81 : decode cX6_insertFrom 81 = .ok (.iadd, 1) := by decide +kernel
theorem dX6_insertFrom_82 : decode cX6_insertFrom 82 = .ok (.putfield 15, 3) := by decide +kernel
theorem dX6_insertFrom_85 : decode cX6_insertFrom 85 = .ok (.return_, 1) := by decide +kernel
set_option maxRecDepth 20000 in
theorem ggX6_removeAt_X6_has : GoodIn wsX6_removeAt wsX6_has := goodIn_r _ [11, 2, 12, 13, 14] (by decide +kernel) (by decide +kernel)
set_option maxRecDepth 20000 in
theorem gX6_removeAt_X6_has : GoodIn wsX6_removeAt (wsV RX6 28 RX6 yX6_has wsX6_has) := goodIn_app (goodIn_of _ (by decide +kernel)) ggX6_removeAt_X6_has
theorem dX6_removeAt_0 : decode cX6_removeAt 0 = .ok (.aload_n 0, 1) := by decide +kernel
theorem dX6_removeAt_1 : decode cX6_removeAt 1 = .ok (.iload_n 1, 1) := by decide +kernel
theorem dX6_removeAt_2 : decode cX6_removeAt 2 = .ok (.invokevirtual 28, 3) := by decide +kernel
theorem dX6_removeAt_5 : decode cX6_removeAt 5 = .ok (.ifCond .ne 4, 3) := by decide +kernel
theorem dX6_removeAt_8 : decode cX6_removeAt 8 = .ok (.return_, 1) := by decide +kernel
theorem dX6_removeAt_9 : decode cX6_removeAt 9 = .ok (.iload_n 1, 1) := by decide +kernel
theorem dX6_removeAt_10 : decode cX6_removeAt 10 = .ok (.iconst 5, 1) := by decide +kernel
theorem dX6_removeAt_11 : decode cX6_removeAt 11 = .ok (.imul, 1) := by decide +kernel
theorem dX6_removeAt_12 : decode cX6_removeAt 12 = .ok (.istore_n 2, 1) := by decide +kernel
theorem dX6_removeAt_13 : decode cX6_removeAt 13 = .ok (.aload_n 0, 1) := by decide +kernel
theorem dX6_removeAt_14 : decode cX6_removeAt 14 = .ok (.getfield 11, 3) := by decide +kernel
theorem dX6_removeAt_17 : decode cX6_removeAt 17 = .ok (.iload_n 2, 1) := by decide +kernel
theorem dX6_removeAt_18 : decode cX6_removeAt 18 = .ok (.iconst 5, 1) := by decide +kernel
theorem dX6_removeAt_19 : decode cX6_removeAt 19 = .ok (.iadd, 1) := by decide +kernel
theorem dX6_removeAt_20 : decode cX6_removeAt 20 = .ok (.aload_n 0, 1) := by decide +kernel
theorem dX6_removeAt_21 : decode cX6_removeAt 21 = .ok (.getfield 11, 3) := by decide +kernel
theorem dX6_removeAt_24 : decode cX6_removeAt 24 = .ok (.iload_n 2, 1) := by decide +kernel
theorem dX6_removeAt_25 : decode cX6_removeAt 25 = .ok (.aload_n 0, 1) := by decide +kernel
theorem dX6_removeAt_26 : decode cX6_removeAt 26 = .ok (.getfield 15, 3) := by decide +kernel
theorem dX6_removeAt_29 : decode cX6_removeAt 29 = .ok (.iload_n 1, 1) := by decide +kernel
theorem dX6_removeAt_30 : decode cX6_removeAt 30 = .ok (.isub, 1) := by decide +kernel
theorem dX6_removeAt_31 : decode cX6_removeAt 31 = .ok (.iconst 1, 1) := by decide +kernel
theorem dX6_removeAt_32 : decode cX6_removeAt 32 = .ok (.isub, 1) := by decide +kernel
theorem dX6_removeAt_33 : decode cX6_removeAt 33 = .ok (.iconst 5, 1) := by decide +kernel
theorem dX6_removeAt_34 : decode cX6_removeAt 34 = .ok (.imul, 1) := by decide +kernel
theorem dX6_removeAt_35 : decode cX6_removeAt 35 = .ok (.invokestatic 40, 3) := by decide +kernel
theorem dX6_removeAt_38 : decode cX6_removeAt 38 = .ok (.aload_n 0, 1) := by decide +kernel
theorem dX6_removeAt_39 : decode cX6_removeAt 39 = .ok (.dup, 1) := by decide +kernel
theorem dX6_removeAt_40 : decode cX6_removeAt 40 = .ok (.getfield 15, 3) := by decide +kernel
theorem dX6_removeAt_43 : decode cX6_removeAt 43 = .ok (.iconst 1, 1) := by decide +kernel
theorem dX6_removeAt_44 : decode cX6_removeAt 44 = .ok (.isub, 1) := by decide +kernel
theorem dX6_removeAt_45 : decode cX6_removeAt 45 = .ok (.putfield 15, 3) := by decide +kernel
theorem dX6_removeAt_48 : decode cX6_removeAt 48 = .ok (.return_, 1) := by decide +kernel
theorem dX6_become_0 : decode cX6_become 0 = .ok (.aload_n 1, 1) := by decide +kernel
theorem dX6_become_1 : decode cX6_become 1 = .ok (.getfield 11, 3) := by decide +kernel
theorem dX6_become_4 : decode cX6_become 4 = .ok (.iconst 0, 1) := by decide +kernel
theorem dX6_become_5 : decode cX6_become 5 = .ok (.aload_n 0, 1) := by decide +kernel
theorem dX6_become_6 : decode cX6_become 6 = .ok (.getfield 11, 3) := by decide +kernel
theorem dX6_become_9 : decode cX6_become 9 = .ok (.iconst 0, 1) := by decide +kernel
theorem dX6_become_10 : decode cX6_become 10 = .ok (.aload_n 0, 1) := by decide +kernel
theorem dX6_become_11 : decode cX6_become 11 = .ok (.getfield 11, 3) := by decide +kernel
theorem dX6_become_14 : decode cX6_become 14 = .ok (.arraylength, 1) := by decide +kernel
theorem dX6_become_15 : decode cX6_become 15 = .ok (.invokestatic 40, 3) := by decide +kernel
theorem dX6_become_18 : decode cX6_become 18 = .ok (.aload_n 0, 1) := by decide +kernel
theorem dX6_become_19 : decode cX6_become 19 = .ok (.aload_n 1, 1) := by decide +kernel
theorem dX6_become_20 : decode cX6_become 20 = .ok (.getfield 15, 3) := by decide +kernel
theorem dX6_become_23 : decode cX6_become 23 = .ok (.putfield 15, 3) := by decide +kernel
theorem dX6_become_26 : decode cX6_become 26 = .ok (.return_, 1) := by decide +kernel
set_option maxRecDepth 20000 in
theorem ggX6_holds_X6_has : GoodIn wsX6_holds wsX6_has := goodIn_r _ [6, 7, 11, 12, 13] (by decide +kernel) (by decide +kernel)
set_option maxRecDepth 20000 in
theorem gX6_holds_X6_has : GoodIn wsX6_holds (wsV RX6 28 RX6 yX6_has wsX6_has) := goodIn_app (goodIn_of _ (by decide +kernel)) ggX6_holds_X6_has
set_option maxRecDepth 20000 in
theorem ggX6_holds_X8_isWithin : GoodIn wsX6_holds wsX8_isWithin := goodIn_r _ [10] (by decide +kernel) (by decide +kernel)
set_option maxRecDepth 20000 in
theorem gX6_holds_X8_isWithin_n32 : GoodIn wsX6_holds (wsX8_isWithin) := ggX6_holds_X8_isWithin
theorem dX6_holds_0 : decode cX6_holds 0 = .ok (.aload_n 0, 1) := by decide +kernel
theorem dX6_holds_1 : decode cX6_holds 1 = .ok (.iload_n 1, 1) := by decide +kernel
theorem dX6_holds_2 : decode cX6_holds 2 = .ok (.invokevirtual 28, 3) := by decide +kernel
theorem dX6_holds_5 : decode cX6_holds 5 = .ok (.ifCond .eq 34, 3) := by decide +kernel
theorem dX6_holds_8 : decode cX6_holds 8 = .ok (.iload_n 2, 1) := by decide +kernel
theorem dX6_holds_9 : decode cX6_holds 9 = .ok (.aload_n 0, 1) := by decide +kernel
theorem dX6_holds_10 : decode cX6_holds 10 = .ok (.getfield 11, 3) := by decide +kernel
theorem dX6_holds_13 : decode cX6_holds 13 = .ok (.iload_n 1, 1) := by decide +kernel
theorem dX6_holds_14 : decode cX6_holds 14 = .ok (.iconst 5, 1) := by decide +kernel
theorem dX6_holds_15 : decode cX6_holds 15 = .ok (.imul, 1) := by decide +kernel
theorem dX6_holds_16 : decode cX6_holds 16 = .ok (.iconst 3, 1) := by decide +kernel
theorem dX6_holds_17 : decode cX6_holds 17 = .ok (.iadd, 1) := by decide +kernel
theorem dX6_holds_18 : decode cX6_holds 18 = .ok (.iaload, 1) := by decide +kernel
theorem dX6_holds_19 : decode cX6_holds 19 = .ok (.aload_n 0, 1) := by decide +kernel
theorem dX6_holds_20 : decode cX6_holds 20 = .ok (.getfield 11, 3) := by decide +kernel
theorem dX6_holds_23 : decode cX6_holds 23 = .ok (.iload_n 1, 1) := by decide +kernel
theorem dX6_holds_24 : decode cX6_holds 24 = .ok (.iconst 5, 1) := by decide +kernel
theorem dX6_holds_25 : decode cX6_holds 25 = .ok (.imul, 1) := by decide +kernel
theorem dX6_holds_26 : decode cX6_holds 26 = .ok (.iconst 4, 1) := by decide +kernel
theorem dX6_holds_27 : decode cX6_holds 27 = .ok (.iadd, 1) := by decide +kernel
theorem dX6_holds_28 : decode cX6_holds 28 = .ok (.iaload, 1) := by decide +kernel
theorem dX6_holds_29 : decode cX6_holds 29 = .ok (.invokestatic 32, 3) := by decide +kernel
theorem dX6_holds_32 : decode cX6_holds 32 = .ok (.ifCond .eq 7, 3) := by decide +kernel
theorem dX6_holds_35 : decode cX6_holds 35 = .ok (.iconst 1, 1) := by decide +kernel
theorem dX6_holds_36 : decode cX6_holds 36 = .ok (.goto 4, 3) := by decide +kernel
theorem dX6_holds_39 : decode cX6_holds 39 = .ok (.iconst 0, 1) := by decide +kernel
theorem dX6_holds_40 : decode cX6_holds 40 = .ok (.ireturn, 1) := by decide +kernel
set_option maxRecDepth 20000 in
theorem ggX6_hasSquare_X6_has : GoodIn wsX6_hasSquare wsX6_has := goodIn_r _ [6, 7, 8, 9, 10] (by decide +kernel) (by decide +kernel)
set_option maxRecDepth 20000 in
theorem gX6_hasSquare_X6_has : GoodIn wsX6_hasSquare (wsV RX6 28 RX6 yX6_has wsX6_has) := goodIn_app (goodIn_of _ (by decide +kernel)) ggX6_hasSquare_X6_has
theorem dX6_hasSquare_0 : decode cX6_hasSquare 0 = .ok (.aload_n 0, 1) := by decide +kernel
theorem dX6_hasSquare_1 : decode cX6_hasSquare 1 = .ok (.iload_n 1, 1) := by decide +kernel
theorem dX6_hasSquare_2 : decode cX6_hasSquare 2 = .ok (.invokevirtual 28, 3) := by decide +kernel
theorem dX6_hasSquare_5 : decode cX6_hasSquare 5 = .ok (.ifCond .ne 5, 3) := by decide +kernel
theorem dX6_hasSquare_8 : decode cX6_hasSquare 8 = .ok (.iconst 0, 1) := by decide +kernel
theorem dX6_hasSquare_9 : decode cX6_hasSquare 9 = .ok (.ireturn, 1) := by decide +kernel
theorem dX6_hasSquare_10 : decode cX6_hasSquare 10 = .ok (.iload_n 2, 1) := by decide +kernel
theorem dX6_hasSquare_11 : decode cX6_hasSquare 11 = .ok (.aload_n 0, 1) := by decide +kernel
theorem dX6_hasSquare_12 : decode cX6_hasSquare 12 = .ok (.getfield 11, 3) := by decide +kernel
theorem dX6_hasSquare_15 : decode cX6_hasSquare 15 = .ok (.iload_n 1, 1) := by decide +kernel
theorem dX6_hasSquare_16 : decode cX6_hasSquare 16 = .ok (.iconst 5, 1) := by decide +kernel
theorem dX6_hasSquare_17 : decode cX6_hasSquare 17 = .ok (.imul, 1) := by decide +kernel
theorem dX6_hasSquare_18 : decode cX6_hasSquare 18 = .ok (.iconst 1, 1) := by decide +kernel
theorem dX6_hasSquare_19 : decode cX6_hasSquare 19 = .ok (.iadd, 1) := by decide +kernel
theorem dX6_hasSquare_20 : decode cX6_hasSquare 20 = .ok (.iaload, 1) := by decide +kernel
theorem dX6_hasSquare_21 : decode cX6_hasSquare 21 = .ok (.isub, 1) := by decide +kernel
theorem dX6_hasSquare_22 : decode cX6_hasSquare 22 = .ok (.istore 4, 2) := by decide +kernel
theorem dX6_hasSquare_24 : decode cX6_hasSquare 24 = .ok (.iload 4, 2) := by decide +kernel
theorem dX6_hasSquare_26 : decode cX6_hasSquare 26 = .ok (.ifCond .ge 9, 3) := by decide +kernel
theorem dX6_hasSquare_29 : decode cX6_hasSquare 29 = .ok (.iload 4, 2) := by decide +kernel
theorem dX6_hasSquare_31 : decode cX6_hasSquare 31 = .ok (.iload_n 3, 1) := by decide +kernel
theorem dX6_hasSquare_32 : decode cX6_hasSquare 32 = .ok (.iadd, 1) := by decide +kernel
theorem dX6_hasSquare_33 : decode cX6_hasSquare 33 = .ok (.istore 4, 2) := by decide +kernel
theorem dX6_hasSquare_35 : decode cX6_hasSquare 35 = .ok (.iload 4, 2) := by decide +kernel
theorem dX6_hasSquare_37 : decode cX6_hasSquare 37 = .ok (.aload_n 0, 1) := by decide +kernel
theorem dX6_hasSquare_38 : decode cX6_hasSquare 38 = .ok (.getfield 11, 3) := by decide +kernel
theorem dX6_hasSquare_41 : decode cX6_hasSquare 41 = .ok (.iload_n 1, 1) := by decide +kernel
theorem dX6_hasSquare_42 : decode cX6_hasSquare 42 = .ok (.iconst 5, 1) := by decide +kernel
theorem dX6_hasSquare_43 : decode cX6_hasSquare 43 = .ok (.imul, 1) := by decide +kernel
theorem dX6_hasSquare_44 : decode cX6_hasSquare 44 = .ok (.iconst 2, 1) := by decide +kernel
theorem dX6_hasSquare_45 : decode cX6_hasSquare 45 = .ok (.iadd, 1) := by decide +kernel
theorem dX6_hasSquare_46 : decode cX6_hasSquare 46 = .ok (.iaload, 1) := by decide +kernel
theorem dX6_hasSquare_47 : decode cX6_hasSquare 47 = .ok (.if_icmp .ge 7, 3) := by decide +kernel
theorem dX6_hasSquare_50 : decode cX6_hasSquare 50 = .ok (.iconst 1, 1) := by decide +kernel
theorem dX6_hasSquare_51 : decode cX6_hasSquare 51 = .ok (.goto 4, 3) := by decide +kernel
theorem dX6_hasSquare_54 : decode cX6_hasSquare 54 = .ok (.iconst 0, 1) := by decide +kernel
theorem dX6_hasSquare_55 : decode cX6_hasSquare 55 = .ok (.ireturn, 1) := by decide +kernel
set_option maxRecDepth 20000 in
theorem ggX6_covers_X6_holds : GoodIn wsX6_covers wsX6_holds := goodIn_r _ [5, 6, 7, 8, 9, 4, 10, 11, 12, 13, 14, 19, 20, 21] (by decide +kernel) (by decide +kernel)
set_option maxRecDepth 20000 in
theorem gX6_covers_X6_holds : GoodIn wsX6_covers (wsV RX6 46 RX6 yX6_holds wsX6_holds) := goodIn_app (goodIn_of _ (by decide +kernel)) ggX6_covers_X6_holds
set_option maxRecDepth 20000 in
theorem ggX6_covers_X6_hasSquare : GoodIn wsX6_covers wsX6_hasSquare := goodIn_r _ [18, 6, 7, 8, 9, 4, 10, 11, 19, 20, 21] (by decide +kernel) (by decide +kernel)
set_option maxRecDepth 20000 in
theorem gX6_covers_X6_hasSquare : GoodIn wsX6_covers (wsV RX6 50 RX6 yX6_hasSquare wsX6_hasSquare) := goodIn_app (goodIn_of _ (by decide +kernel)) ggX6_covers_X6_hasSquare
theorem dX6_covers_0 : decode cX6_covers 0 = .ok (.aload_n 0, 1) := by decide +kernel
theorem dX6_covers_1 : decode cX6_covers 1 = .ok (.iload_n 1, 1) := by decide +kernel
theorem dX6_covers_2 : decode cX6_covers 2 = .ok (.iload_n 3, 1) := by decide +kernel
theorem dX6_covers_3 : decode cX6_covers 3 = .ok (.invokevirtual 46, 3) := by decide +kernel
theorem dX6_covers_6 : decode cX6_covers 6 = .ok (.ifCond .eq 18, 3) := by decide +kernel
theorem dX6_covers_9 : decode cX6_covers 9 = .ok (.aload_n 0, 1) := by decide +kernel
theorem dX6_covers_10 : decode cX6_covers 10 = .ok (.iload_n 1, 1) := by decide +kernel
theorem dX6_covers_11 : decode cX6_covers 11 = .ok (.iload_n 2, 1) := by decide +kernel
theorem dX6_covers_12 : decode cX6_covers 12 = .ok (.iload 4, 2) := by decide +kernel
theorem dX6_covers_14 : decode cX6_covers 14 = .ok (.invokevirtual 50, 3) := by decide +kernel
theorem dX6_covers_17 : decode cX6_covers 17 = .ok (.ifCond .eq 7, 3) := by decide +kernel
theorem dX6_covers_20 : decode cX6_covers 20 = .ok (.iconst 1, 1) := by decide +kernel
theorem dX6_covers_21 : decode cX6_covers 21 = .ok (.goto 4, 3) := by decide +kernel
theorem dX6_covers_24 : decode cX6_covers 24 = .ok (.iconst 0, 1) := by decide +kernel
theorem dX6_covers_25 : decode cX6_covers 25 = .ok (.ireturn, 1) := by decide +kernel
set_option maxRecDepth 20000 in
theorem ggX6_anyHolds_X6_part : GoodIn wsX6_anyHolds wsX6_part := goodIn_r _ [6, 7, 8, 9, 10, 5, 11, 1, 12, 13, 14, 19, 20, 21] (by decide +kernel) (by decide +kernel)
set_option maxRecDepth 20000 in
theorem gX6_anyHolds_X6_part : GoodIn wsX6_anyHolds (wsV RX6 53 RX6 yX6_part wsX6_part) := goodIn_app (goodIn_of _ (by decide +kernel)) ggX6_anyHolds_X6_part
set_option maxRecDepth 20000 in
theorem ggX6_anyHolds_X6_holds : GoodIn wsX6_anyHolds wsX6_holds := goodIn_r _ [18, 7, 8, 9, 10, 5, 11, 1, 12, 13, 14, 19, 20, 21] (by decide +kernel) (by decide +kernel)
set_option maxRecDepth 20000 in
theorem gX6_anyHolds_X6_holds : GoodIn wsX6_anyHolds (wsV RX6 46 RX6 yX6_holds wsX6_holds) := goodIn_app (goodIn_of _ (by decide +kernel)) ggX6_anyHolds_X6_holds
theorem dX6_anyHolds_0 : decode cX6_anyHolds 0 = .ok (.iconst 0, 1) := by decide +kernel
theorem dX6_anyHolds_1 : decode cX6_anyHolds 1 = .ok (.istore_n 3, 1) := by decide +kernel
theorem dX6_anyHolds_2 : decode cX6_anyHolds 2 = .ok (.iload_n 3, 1) := by decide +kernel
theorem dX6_anyHolds_3 : decode cX6_anyHolds 3 = .ok (.aload_n 0, 1) := by decide +kernel
theorem dX6_anyHolds_4 : decode cX6_anyHolds 4 = .ok (.getfield 15, 3) := by decide +kernel
theorem dX6_anyHolds_7 : decode cX6_anyHolds 7 = .ok (.if_icmp .ge 30, 3) := by decide +kernel
theorem dX6_anyHolds_10 : decode cX6_anyHolds 10 = .ok (.aload_n 0, 1) := by decide +kernel
theorem dX6_anyHolds_11 : decode cX6_anyHolds 11 = .ok (.iload_n 3, 1) := by decide +kernel
theorem dX6_anyHolds_12 : decode cX6_anyHolds 12 = .ok (.iconst 0, 1) := by decide +kernel
theorem dX6_anyHolds_13 : decode cX6_anyHolds 13 = .ok (.invokevirtual 53, 3) := by decide +kernel
theorem dX6_anyHolds_16 : decode cX6_anyHolds 16 = .ok (.iload_n 1, 1) := by decide +kernel
theorem dX6_anyHolds_17 : decode cX6_anyHolds 17 = .ok (.if_icmp .ne 14, 3) := by decide +kernel
theorem dX6_anyHolds_20 : decode cX6_anyHolds 20 = .ok (.aload_n 0, 1) := by decide +kernel
theorem dX6_anyHolds_21 : decode cX6_anyHolds 21 = .ok (.iload_n 3, 1) := by decide +kernel
theorem dX6_anyHolds_22 : decode cX6_anyHolds 22 = .ok (.iload_n 2, 1) := by decide +kernel
theorem dX6_anyHolds_23 : decode cX6_anyHolds 23 = .ok (.invokevirtual 46, 3) := by decide +kernel
theorem dX6_anyHolds_26 : decode cX6_anyHolds 26 = .ok (.ifCond .eq 5, 3) := by decide +kernel
theorem dX6_anyHolds_29 : decode cX6_anyHolds 29 = .ok (.iconst 1, 1) := by decide +kernel
theorem dX6_anyHolds_30 : decode cX6_anyHolds 30 = .ok (.ireturn, 1) := by decide +kernel
theorem dX6_anyHolds_31 : decode cX6_anyHolds 31 = .ok (.iinc 3 1, 3) := by decide +kernel
theorem dX6_anyHolds_34 : decode cX6_anyHolds 34 = .ok (.goto (-32), 3) := by decide +kernel
theorem dX6_anyHolds_37 : decode cX6_anyHolds 37 = .ok (.iconst 0, 1) := by decide +kernel
theorem dX6_anyHolds_38 : decode cX6_anyHolds 38 = .ok (.ireturn, 1) := by decide +kernel
set_option maxRecDepth 20000 in
theorem ggX6_countOf_X6_part : GoodIn wsX6_countOf wsX6_part := goodIn_r _ [6, 7, 8, 9, 10, 5, 11, 1, 12, 13, 14, 15, 16, 17] (by decide +kernel) (by decide +kernel)
set_option maxRecDepth 20000 in
theorem gX6_countOf_X6_part : GoodIn wsX6_countOf (wsV RX6 53 RX6 yX6_part wsX6_part) := goodIn_app (goodIn_of _ (by decide +kernel)) ggX6_countOf_X6_part
theorem dX6_countOf_0 : decode cX6_countOf 0 = .ok (.iconst 0, 1) := by decide +kernel
theorem dX6_countOf_1 : decode cX6_countOf 1 = .ok (.istore_n 2, 1) := by decide +kernel
theorem dX6_countOf_2 : decode cX6_countOf 2 = .ok (.iconst 0, 1) := by decide +kernel
theorem dX6_countOf_3 : decode cX6_countOf 3 = .ok (.istore_n 3, 1) := by decide +kernel
theorem dX6_countOf_4 : decode cX6_countOf 4 = .ok (.iload_n 3, 1) := by decide +kernel
theorem dX6_countOf_5 : decode cX6_countOf 5 = .ok (.aload_n 0, 1) := by decide +kernel
theorem dX6_countOf_6 : decode cX6_countOf 6 = .ok (.getfield 15, 3) := by decide +kernel
theorem dX6_countOf_9 : decode cX6_countOf 9 = .ok (.if_icmp .ge 22, 3) := by decide +kernel
theorem dX6_countOf_12 : decode cX6_countOf 12 = .ok (.aload_n 0, 1) := by decide +kernel
theorem dX6_countOf_13 : decode cX6_countOf 13 = .ok (.iload_n 3, 1) := by decide +kernel
theorem dX6_countOf_14 : decode cX6_countOf 14 = .ok (.iconst 0, 1) := by decide +kernel
theorem dX6_countOf_15 : decode cX6_countOf 15 = .ok (.invokevirtual 53, 3) := by decide +kernel
theorem dX6_countOf_18 : decode cX6_countOf 18 = .ok (.iload_n 1, 1) := by decide +kernel
theorem dX6_countOf_19 : decode cX6_countOf 19 = .ok (.if_icmp .ne 6, 3) := by decide +kernel
theorem dX6_countOf_22 : decode cX6_countOf 22 = .ok (.iinc 2 1, 3) := by decide +kernel
theorem dX6_countOf_25 : decode cX6_countOf 25 = .ok (.iinc 3 1, 3) := by decide +kernel
theorem dX6_countOf_28 : decode cX6_countOf 28 = .ok (.goto (-24), 3) := by decide +kernel
theorem dX6_countOf_31 : decode cX6_countOf 31 = .ok (.iload_n 2, 1) := by decide +kernel
theorem dX6_countOf_32 : decode cX6_countOf 32 = .ok (.ireturn, 1) := by decide +kernel
theorem dX7_init_0 : decode cX7_init 0 = .ok (.aload_n 0, 1) := by decide +kernel
theorem dX7_init_1 : decode cX7_init 1 = .ok (.invokespecial 3, 3) := by decide +kernel
theorem dX7_init_4 : decode cX7_init 4 = .ok (.aload_n 0, 1) := by decide +kernel
theorem dX7_init_5 : decode cX7_init 5 = .ok (.sipush 300, 3) := by decide +kernel
theorem dX7_init_8 : decode cX7_init 8 = .ok (.newarray .char, 2) := by decide +kernel
theorem dX7_init_10 : decode cX7_init 10 = .ok (.putfield 9, 3) := by decide +kernel
theorem dX7_init_13 : decode cX7_init 13 = .ok (.aload_n 0, 1) := by decide +kernel
theorem dX7_init_14 : decode cX7_init 14 = .ok (.iconst 0, 1) := by decide +kernel
theorem dX7_init_15 : decode cX7_init 15 = .ok (.putfield 15, 3) := by decide +kernel
theorem dX7_init_18 : decode cX7_init 18 = .ok (.aload_n 0, 1) := by decide +kernel
theorem dX7_init_19 : decode cX7_init 19 = .ok (.iconst 0, 1) := by decide +kernel
theorem dX7_init_20 : decode cX7_init 20 = .ok (.putfield 19, 3) := by decide +kernel
theorem dX7_init_23 : decode cX7_init 23 = .ok (.aload_n 0, 1) := by decide +kernel
theorem dX7_init_24 : decode cX7_init 24 = .ok (.iconst 0, 1) := by decide +kernel
theorem dX7_init_25 : decode cX7_init 25 = .ok (.putfield 22, 3) := by decide +kernel
theorem dX7_init_28 : decode cX7_init 28 = .ok (.aload_n 0, 1) := by decide +kernel
theorem dX7_init_29 : decode cX7_init 29 = .ok (.iconst 0, 1) := by decide +kernel
theorem dX7_init_30 : decode cX7_init 30 = .ok (.putfield 25, 3) := by decide +kernel
theorem dX7_init_33 : decode cX7_init 33 = .ok (.aload_n 0, 1) := by decide +kernel
theorem dX7_init_34 : decode cX7_init 34 = .ok (.iconst 0, 1) := by decide +kernel
theorem dX7_init_35 : decode cX7_init 35 = .ok (.putfield 28, 3) := by decide +kernel
theorem dX7_init_38 : decode cX7_init 38 = .ok (.return_, 1) := by decide +kernel
theorem dX7_hasRoomFor_0 : decode cX7_hasRoomFor 0 = .ok (.iload_n 1, 1) := by decide +kernel
theorem dX7_hasRoomFor_1 : decode cX7_hasRoomFor 1 = .ok (.sipush 300, 3) := by decide +kernel
theorem dX7_hasRoomFor_4 : decode cX7_hasRoomFor 4 = .ok (.aload_n 0, 1) := by decide +kernel
theorem dX7_hasRoomFor_5 : decode cX7_hasRoomFor 5 = .ok (.getfield 15, 3) := by decide +kernel
theorem dX7_hasRoomFor_8 : decode cX7_hasRoomFor 8 = .ok (.isub, 1) := by decide +kernel
theorem dX7_hasRoomFor_9 : decode cX7_hasRoomFor 9 = .ok (.if_icmp .gt 7, 3) := by decide +kernel
theorem dX7_hasRoomFor_12 : decode cX7_hasRoomFor 12 = .ok (.iconst 1, 1) := by decide +kernel
theorem dX7_hasRoomFor_13 : decode cX7_hasRoomFor 13 = .ok (.goto 4, 3) := by decide +kernel
theorem dX7_hasRoomFor_16 : decode cX7_hasRoomFor 16 = .ok (.iconst 0, 1) := by decide +kernel
theorem dX7_hasRoomFor_17 : decode cX7_hasRoomFor 17 = .ok (.ireturn, 1) := by decide +kernel
set_option maxRecDepth 20000 in
theorem ggX7_append_X7_hasRoomFor : GoodIn wsX7_append wsX7_hasRoomFor := goodIn_r _ [7, 2, 8, 9, 10, 11, 12, 13] (by decide +kernel) (by decide +kernel)
set_option maxRecDepth 20000 in
theorem gX7_append_X7_hasRoomFor : GoodIn wsX7_append (wsV RX7 31 RX7 yX7_hasRoomFor wsX7_hasRoomFor) := goodIn_app (goodIn_of _ (by decide +kernel)) ggX7_append_X7_hasRoomFor
theorem dX7_append_0 : decode cX7_append 0 = .ok (.aload_n 0, 1) := by decide +kernel
theorem dX7_append_1 : decode cX7_append 1 = .ok (.iconst 1, 1) := by decide +kernel
theorem dX7_append_2 : decode cX7_append 2 = .ok (.invokevirtual 31, 3) := by decide +kernel
theorem dX7_append_5 : decode cX7_append 5 = .ok (.ifCond .ne 4, 3) := by decide +kernel
theorem dX7_append_8 : decode cX7_append 8 = .ok (.return_, 1) := by decide +kernel
theorem dX7_append_9 : decode cX7_append 9 = .ok (.aload_n 0, 1) := by decide +kernel
theorem dX7_append_10 : decode cX7_append 10 = .ok (.getfield 9, 3) := by decide +kernel
theorem dX7_append_13 : decode cX7_append 13 = .ok (.aload_n 0, 1) := by decide +kernel
theorem dX7_append_14 : decode cX7_append 14 = .ok (.getfield 15, 3) := by decide +kernel
theorem dX7_append_17 : decode cX7_append 17 = .ok (.iload_n 1, 1) := by decide +kernel
theorem dX7_append_18 : decode cX7_append 18 = .ok (.i2c, 1) := by decide +kernel
theorem dX7_append_19 : decode cX7_append 19 = .ok (.castore, 1) := by decide +kernel
theorem dX7_append_20 : decode cX7_append 20 = .ok (.aload_n 0, 1) := by decide +kernel
theorem dX7_append_21 : decode cX7_append 21 = .ok (.dup, 1) := by decide +kernel
theorem dX7_append_22 : decode cX7_append 22 = .ok (.getfield 15, 3) := by decide +kernel
theorem dX7_append_25 : decode cX7_append 25 = .ok (.iconst 1, 1) := by decide +kernel
theorem dX7_append_26 : decode cX7_append 26 = .ok (.iadd, 1) := by decide +kernel
theorem dX7_append_27 : decode cX7_append 27 = .ok (.putfield 15, 3) := by decide +kernel
theorem dX7_append_30 : decode cX7_append 30 = .ok (.return_, 1) := by decide +kernel
theorem dX7_rewind_0 : decode cX7_rewind 0 = .ok (.aload_n 0, 1) := by decide +kernel
theorem dX7_rewind_1 : decode cX7_rewind 1 = .ok (.iconst 0, 1) := by decide +kernel
theorem dX7_rewind_2 : decode cX7_rewind 2 = .ok (.putfield 28, 3) := by decide +kernel
theorem dX7_rewind_5 : decode cX7_rewind 5 = .ok (.return_, 1) := by decide +kernel
set_option maxRecDepth 20000 in
theorem ggX7_readToken_X7_isDigit : GoodIn wsX7_readToken wsX7_isDigit := goodIn_r _ [9] (by decide +kernel) (by decide +kernel)
set_option maxRecDepth 20000 in
theorem gX7_readToken_X7_isDigit : GoodIn wsX7_readToken (va_wsS RX7 35 yX7_isDigit wsX7_isDigit) := goodIn_app (goodIn_of _ (by decide +kernel)) ggX7_readToken_X7_isDigit
set_option maxRecDepth 20000 in
theorem ggX7_readToken_X7_readNumber : GoodIn wsX7_readToken wsX7_readNumber := goodIn_r _ [13, 14, 1, 2, 3, 15, 16, 17, 18, 4, 5, 6, 7, 8, 9, 79, 80, 81, 82, 83, 84] (by decide +kernel) (by decide +kernel)
set_option maxRecDepth 20000 in
theorem gX7_readToken_X7_readNumber : GoodIn wsX7_readToken (wsV RX7 39 RX7 yX7_readNumber wsX7_readNumber) := goodIn_app (goodIn_of _ (by decide +kernel)) ggX7_readToken_X7_readNumber
set_option maxRecDepth 20000 in
theorem ggX7_readToken_X7_isLetter : GoodIn wsX7_readToken wsX7_isLetter := goodIn_r _ [21] (by decide +kernel) (by decide +kernel)
set_option maxRecDepth 20000 in
theorem gX7_readToken_X7_isLetter : GoodIn wsX7_readToken (va_wsS RX7 42 yX7_isLetter wsX7_isLetter) := goodIn_app (goodIn_of _ (by decide +kernel)) ggX7_readToken_X7_isLetter
set_option maxRecDepth 20000 in
theorem ggX7_readToken_X7_readWord : GoodIn wsX7_readToken wsX7_readWord := goodIn_r _ [25, 1, 2, 3, 5, 19, 20, 8, 21, 26, 27, 28, 29, 4, 30, 31, 32, 33, 34, 35, 36, 37, 38, 39, 40, 41, 42, 43, 44, 45, 46, 47, 48, 49, 50, 51, 52, 53, 54, 55, 56, 57, 58, 59, 60, 61, 62, 63, 64, 65, 66, 67, 68, 69, 70, 71, 72, 73, 74, 75, 76, 77, 78, 79, 80, 81, 82, 83, 84] (by decide +kernel) (by decide +kernel)
set_option maxRecDepth 20000 in
theorem gX7_readToken_X7_readWord : GoodIn wsX7_readToken (wsV RX7 45 RX7 yX7_readWord wsX7_readWord) := goodIn_app (goodIn_of _ (by decide +kernel)) ggX7_readToken_X7_readWord
theorem dX7_readToken_0 : decode cX7_readToken 0 = .ok (.aload_n 0, 1) := by decide +kernel
theorem dX7_readToken_1 : decode cX7_readToken 1 = .ok (.getfield 28, 3) := by decide +kernel
theorem dX7_readToken_4 : decode cX7_readToken 4 = .ok (.aload_n 0, 1) := by decide +kernel
theorem dX7_readToken_5 : decode cX7_readToken 5 = .ok (.getfield 15, 3) := by decide +kernel
theorem dX7_readToken_8 : decode cX7_readToken 8 = .ok (.if_icmp .ge 30, 3) := by decide +kernel
theorem dX7_readToken_11 : decode cX7_readToken 11 = .ok (.aload_n 0, 1) := by decide +kernel
theorem dX7_readToken_12 : decode cX7_readToken 12 = .ok (.getfield 9, 3) := by decide +kernel
theorem dX7_readToken_15 : decode cX7_readToken 15 = .ok (.aload_n 0, 1) := by decide +kernel
theorem dX7_readToken_16 : decode cX7_readToken 16 = .ok (.getfield 28, 3) := by decide +kernel
theorem dX7_readToken_19 : decode cX7_readToken 19 = .ok (.caload, 1) := by decide +kernel
theorem dX7_readToken_20 : decode cX7_readToken 20 = .ok (.bipush 32, 2) := by decide +kernel
theorem dX7_readToken_22 : decode cX7_readToken 22 = .ok (.if_icmp .ne 16, 3) := by decide +kernel
theorem dX7_readToken_25 : decode cX7_readToken 25 = .ok (.aload_n 0, 1) := by decide +kernel
theorem dX7_readToken_26 : decode cX7_readToken 26 = .ok (.dup, 1) := by decide +kernel
theorem dX7_readToken_27 : decode cX7_readToken 27 = .ok (.getfield 28, 3) := by decide +kernel
theorem dX7_readToken_30 : decode cX7_readToken 30 = .ok (.iconst 1, 1) := by decide +kernel
theorem dX7_readToken_31 : decode cX7_readToken 31 = .ok (.iadd, 1) := by decide +kernel
theorem dX7_readToken_32 : decode cX7_readToken 32 = .ok (.putfield 28, 3) := by decide +kernel
theorem dX7_readToken_35 : decode cX7_readToken 35 = .ok (.goto (-35), 3) := by decide +kernel
theorem dX7_readToken_38 : decode cX7_readToken 38 = .ok (.aload_n 0, 1) := by decide +kernel
theorem dX7_readToken_39 : decode cX7_readToken 39 = .ok (.aload_n 0, 1) := by decide +kernel
theorem dX7_readToken_40 : decode cX7_readToken 40 = .ok (.getfield 28, 3) := by decide +kernel
theorem dX7_readToken_43 : decode cX7_readToken 43 = .ok (.putfield 22, 3) := by decide +kernel
theorem dX7_readToken_46 : decode cX7_readToken 46 = .ok (.aload_n 0, 1) := by decide +kernel
theorem dX7_readToken_47 : decode cX7_readToken 47 = .ok (.getfield 28, 3) := by decide +kernel
theorem dX7_readToken_50 : decode cX7_readToken 50 = .ok (.aload_n 0, 1) := by decide +kernel
theorem dX7_readToken_51 : decode cX7_readToken 51 = .ok (.getfield 15, 3) := by decide +kernel
theorem dX7_readToken_54 : decode cX7_readToken 54 = .ok (.if_icmp .lt 11, 3) := by decide +kernel
theorem dX7_readToken_57 : decode cX7_readToken 57 = .ok (.aload_n 0, 1) := by decide +kernel
theorem dX7_readToken_58 : decode cX7_readToken 58 = .ok (.iconst 0, 1) := by decide +kernel
theorem dX7_readToken_59 : decode cX7_readToken 59 = .ok (.putfield 19, 3) := by decide +kernel
theorem dX7_readToken_62 : decode cX7_readToken 62 = .ok (.goto 80, 3) := by decide +kernel
theorem dX7_readToken_65 : decode cX7_readToken 65 = .ok (.aload_n 0, 1) := by decide +kernel
theorem dX7_readToken_66 : decode cX7_readToken 66 = .ok (.getfield 9, 3) := by decide +kernel
theorem dX7_readToken_69 : decode cX7_readToken 69 = .ok (.aload_n 0, 1) := by decide +kernel
theorem dX7_readToken_70 : decode cX7_readToken 70 = .ok (.getfield 28, 3) := by decide +kernel
theorem dX7_readToken_73 : decode cX7_readToken 73 = .ok (.caload, 1) := by decide +kernel
theorem dX7_readToken_74 : decode cX7_readToken 74 = .ok (.invokestatic 35, 3) := by decide +kernel
theorem dX7_readToken_77 : decode cX7_readToken 77 = .ok (.ifCond .eq 10, 3) := by decide +kernel
theorem dX7_readToken_80 : decode cX7_readToken 80 = .ok (.aload_n 0, 1) := by decide +kernel
theorem dX7_readToken_81 : decode cX7_readToken 81 = .ok (.invokevirtual 39, 3) := by decide +kernel
theorem dX7_readToken_84 : decode cX7_readToken 84 = .ok (.goto 58, 3) := by decide +kernel
theorem dX7_readToken_87 : decode cX7_readToken 87 = .ok (.aload_n 0, 1) := by decide +kernel
theorem dX7_readToken_88 : decode cX7_readToken 88 = .ok (.getfield 9, 3) := by decide +kernel
theorem dX7_readToken_91 : decode cX7_readToken 91 = .ok (.aload_n 0, 1) := by decide +kernel
theorem dX7_readToken_92 : decode cX7_readToken 92 = .ok (.getfield 28, 3) := by decide +kernel
theorem dX7_readToken_95 : decode cX7_readToken 95 = .ok (.caload, 1) := by decide +kernel
theorem dX7_readToken_96 : decode cX7_readToken 96 = .ok (.invokestatic 42, 3) := by decide +kernel
theorem dX7_readToken_99 : decode cX7_readToken 99 = .ok (.ifCond .eq 10, 3) := by decide +kernel
theorem dX7_readToken_102 : decode cX7_readToken 102 = .ok (.aload_n 0, 1) := by decide +kernel
theorem dX7_readToken_103 : decode cX7_readToken 103 = .ok (.invokevirtual 45, 3) := by decide +kernel
theorem dX7_readToken_106 : decode cX7_readToken 106 = .ok (.goto 36, 3) := by decide +kernel
theorem dX7_readToken_109 : decode cX7_readToken 109 = .ok (.aload_n 0, 1) := by decide +kernel
theorem dX7_readToken_110 : decode cX7_readToken 110 = .ok (.aload_n 0, 1) := by decide +kernel
theorem dX7_readToken_111 : decode cX7_readToken 111 = .ok (.getfield 9, 3) := by decide +kernel
theorem dX7_readToken_114 : decode cX7_readToken 114 = .ok (.aload_n 0, 1) := by decide +kernel
theorem dX7_readToken_115 : decode cX7_readToken 115 = .ok (.getfield 28, 3) := by decide +kernel
theorem dX7_readToken_118 : decode cX7_readToken 118 = .ok (.caload, 1) := by decide +kernel
theorem dX7_readToken_119 : decode cX7_readToken 119 = .ok (.bipush 59, 2) := by decide +kernel
theorem dX7_readToken_121 : decode cX7_readToken 121 = .ok (.if_icmp .ne 7, 3) := by decide +kernel
theorem dX7_readToken_124 : decode cX7_readToken 124 = .ok (.iconst 3, 1) := by decide +kernel
theorem dX7_readToken_125 : decode cX7_readToken 125 = .ok (.goto 4, 3) := by decide +kernel
theorem dX7_readToken_128 : decode cX7_readToken 128 = .ok (.iconst 1, 1) := by decide +kernel
theorem dX7_readToken_129 : decode cX7_readToken 129 = .ok (.putfield 19, 3) := by decide +kernel
theorem dX7_readToken_132 : decode cX7_readToken 132 = .ok (.aload_n 0, 1) := by decide +kernel
theorem dX7_readToken_133 : decode cX7_readToken 133 = .ok (.dup, 1) := by decide +kernel
theorem dX7_readToken_134 : decode cX7_readToken 134 = .ok (.getfield 28, 3) := by decide +kernel
theorem dX7_readToken_137 : decode cX7_readToken 137 = .ok (.iconst 1, 1) := by decide +kernel
theorem dX7_readToken_138 : decode cX7_readToken 138 = .ok (.iadd, 1) := by decide +kernel
theorem dX7_readToken_139 : decode cX7_readToken 139 = .ok (.putfield 28, 3) := by decide +kernel
theorem dX7_readToken_142 : decode cX7_readToken 142 = .ok (.return_, 1) := by decide +kernel
set_option maxRecDepth 20000 in
theorem ggX7_readNumber_X7_isDigit : GoodIn wsX7_readNumber wsX7_isDigit := goodIn_r _ [14] (by decide +kernel) (by decide +kernel)
set_option maxRecDepth 20000 in
theorem gX7_readNumber_X7_isDigit : GoodIn wsX7_readNumber (va_wsS RX7 35 yX7_isDigit wsX7_isDigit) := goodIn_app (goodIn_of _ (by decide +kernel)) ggX7_readNumber_X7_isDigit
theorem dX7_readNumber_0 : decode cX7_readNumber 0 = .ok (.aload_n 0, 1) := by decide +kernel
theorem dX7_readNumber_1 : decode cX7_readNumber 1 = .ok (.iconst 0, 1) := by decide +kernel
theorem dX7_readNumber_2 : decode cX7_readNumber 2 = .ok (.putfield 25, 3) := by decide +kernel
theorem dX7_readNumber_5 : decode cX7_readNumber 5 = .ok (.aload_n 0, 1) := by decide +kernel
theorem dX7_readNumber_6 : decode cX7_readNumber 6 = .ok (.getfield 28, 3) := by decide +kernel
theorem dX7_readNumber_9 : decode cX7_readNumber 9 = .ok (.aload_n 0, 1) := by decide +kernel
theorem dX7_readNumber_10 : decode cX7_readNumber 10 = .ok (.getfield 15, 3) := by decide +kernel
theorem dX7_readNumber_13 : decode cX7_readNumber 13 = .ok (.if_icmp .ge 60, 3) := by decide +kernel
theorem dX7_readNumber_16 : decode cX7_readNumber 16 = .ok (.aload_n 0, 1) := by decide +kernel
theorem dX7_readNumber_17 : decode cX7_readNumber 17 = .ok (.getfield 9, 3) := by decide +kernel
theorem dX7_readNumber_20 : decode cX7_readNumber 20 = .ok (.aload_n 0, 1) := by decide +kernel
theorem dX7_readNumber_21 : decode cX7_readNumber 21 = .ok (.getfield 28, 3) := by decide +kernel
theorem dX7_readNumber_24 : decode cX7_readNumber 24 = .ok (.caload, 1) := by decide +kernel
theorem dX7_readNumber_25 : decode cX7_readNumber 25 = .ok (.invokestatic 35, 3) := by decide +kernel
theorem dX7_readNumber_28 : decode cX7_readNumber 28 = .ok (.ifCond .eq 45, 3) := by decide +kernel
theorem dX7_readNumber_31 : decode cX7_readNumber 31 = .ok (.aload_n 0, 1) := by decide +kernel
theorem dX7_readNumber_32 : decode cX7_readNumber 32 = .ok (.aload_n 0, 1) := by decide +kernel
theorem dX7_readNumber_33 : decode cX7_readNumber 33 = .ok (.getfield 25, 3) := by decide +kernel
theorem dX7_readNumber_36 : decode cX7_readNumber 36 = .ok (.bipush 10, 2) := by decide +kernel
theorem dX7_readNumber_38 : decode cX7_readNumber 38 = .ok (.imul, 1) := by decide +kernel
theorem dX7_readNumber_39 : decode cX7_readNumber 39 = .ok (.aload_n 0, 1) := by decide +kernel
theorem dX7_readNumber_40 : decode cX7_readNumber 40 = .ok (.getfield 9, 3) := by decide +kernel
theorem dX7_readNumber_43 : decode cX7_readNumber 43 = .ok (.aload_n 0, 1) := by decide +kernel
theorem dX7_readNumber_44 : decode cX7_readNumber 44 = .ok (.getfield 28, 3) := by decide +kernel
theorem dX7_readNumber_47 : decode cX7_readNumber 47 = .ok (.caload, 1) := by decide +kernel
theorem dX7_readNumber_48 : decode cX7_readNumber 48 = .ok (.iadd, 1) := by decide +kernel
theorem dX7_readNumber_49 : decode cX7_readNumber 49 = .ok (.bipush 48, 2) := by decide +kernel
theorem dX7_readNumber_51 : decode cX7_readNumber 51 = .ok (.isub, 1) := by decide +kernel
theorem dX7_readNumber_52 : decode cX7_readNumber 52 = .ok (.bipush 100, 2) := by decide +kernel
theorem dX7_readNumber_54 : decode cX7_readNumber 54 = .ok (.invokestatic 48, 3) := by decide +kernel
theorem dX7_readNumber_57 : decode cX7_readNumber 57 = .ok (.putfield 25, 3) := by decide +kernel
theorem dX7_readNumber_60 : decode cX7_readNumber 60 = .ok (.aload_n 0, 1) := by decide +kernel
theorem dX7_readNumber_61 : decode cX7_readNumber 61 = .ok (.dup, 1) := by decide +kernel
theorem dX7_readNumber_62 : decode cX7_readNumber 62 = .ok (.getfield 28, 3) := by decide +kernel
theorem dX7_readNumber_65 : decode cX7_readNumber 65 = .ok (.iconst 1, 1) := by decide +kernel
theorem dX7_readNumber_66 : decode cX7_readNumber 66 = .ok (.iadd, 1) := by decide +kernel
theorem dX7_readNumber_67 : decode cX7_readNumber 67 = .ok (.putfield 28, 3) := by decide +kernel
theorem dX7_readNumber_70 : decode cX7_readNumber 70 = .ok (.goto (-65), 3) := by decide +kernel
theorem dX7_readNumber_73 : decode cX7_readNumber 73 = .ok (.aload_n 0, 1) := by decide +kernel
theorem dX7_readNumber_74 : decode cX7_readNumber 74 = .ok (.getfield 9, 3) := by decide +kernel
theorem dX7_readNumber_77 : decode cX7_readNumber 77 = .ok (.aload_n 0, 1) := by decide +kernel
theorem dX7_readNumber_78 : decode cX7_readNumber 78 = .ok (.getfield 22, 3) := by decide +kernel
theorem dX7_readNumber_81 : decode cX7_readNumber 81 = .ok (.caload, 1) := by decide +kernel
theorem dX7_readNumber_82 : decode cX7_readNumber 82 = .ok (.bipush 48, 2) := by decide +kernel
theorem dX7_readNumber_84 : decode cX7_readNumber 84 = .ok (.if_icmp .ne 20, 3) := by decide +kernel
theorem dX7_readNumber_87 : decode cX7_readNumber 87 = .ok (.aload_n 0, 1) := by decide +kernel
theorem dX7_readNumber_88 : decode cX7_readNumber 88 = .ok (.getfield 28, 3) := by decide +kernel
theorem dX7_readNumber_91 : decode cX7_readNumber 91 = .ok (.aload_n 0, 1) := by decide +kernel
theorem dX7_readNumber_92 : decode cX7_readNumber 92 = .ok (.getfield 22, 3) := by decide +kernel
theorem dX7_readNumber_95 : decode cX7_readNumber 95 = .ok (.isub, 1) := by decide +kernel
theorem dX7_readNumber_96 : decode cX7_readNumber 96 = .ok (.iconst 1, 1) := by decide +kernel
theorem dX7_readNumber_97 : decode cX7_readNumber 97 = .ok (.if_icmp .le 7, 3) := by decide +kernel
theorem dX7_readNumber_100 : decode cX7_readNumber 100 = .ok (.iconst 1, 1) := by decide +kernel
theorem dX7_readNumber_101 : decode cX7_readNumber 101 = .ok (.goto 4, 3) := by decide +kernel
theorem dX7_readNumber_104 : decode cX7_readNumber 104 = .ok (.iconst 0, 1) := by decide +kernel
theorem dX7_readNumber_105 : decode cX7_readNumber 105 = .ok (.istore_n 1, 1) := by decide +kernel
theorem dX7_readNumber_106 : decode cX7_readNumber 106 = .ok (.aload_n 0, 1) := by decide +kernel
theorem dX7_readNumber_107 : decode cX7_readNumber 107 = .ok (.iload_n 1, 1) := by decide +kernel
theorem dX7_readNumber_108 : decode cX7_readNumber 108 = .ok (.ifCond .ne 12, 3) := by decide +kernel
theorem dX7_readNumber_111 : decode cX7_readNumber 111 = .ok (.aload_n 0, 1) := by decide +kernel
theorem dX7_readNumber_112 : decode cX7_readNumber 112 = .ok (.getfield 25, 3) := by decide +kernel
theorem dX7_readNumber_115 : decode cX7_readNumber 115 = .ok (.bipush 99, 2) := by decide +kernel
theorem dX7_readNumber_117 : decode cX7_readNumber 117 = .ok (.if_icmp .le 7, 3) := by decide +kernel
theorem dX7_readNumber_120 : decode cX7_readNumber 120 = .ok (.iconst 1, 1) := by decide +kernel
theorem dX7_readNumber_121 : decode cX7_readNumber 121 = .ok (.goto 4, 3) := by decide +kernel
theorem dX7_readNumber_124 : decode cX7_readNumber 124 = .ok (.iconst 2, 1) := by decide +kernel
theorem dX7_readNumber_125 : decode cX7_readNumber 125 = .ok (.putfield 19, 3) := by decide +kernel
theorem dX7_readNumber_128 : decode cX7_readNumber 128 = .ok (.return_, 1) := by decide +kernel
set_option maxRecDepth 20000 in
theorem ggX7_readWord_X7_isLetter : GoodIn wsX7_readWord wsX7_isLetter := goodIn_r _ [8] (by decide +kernel) (by decide +kernel)
set_option maxRecDepth 20000 in
theorem gX7_readWord_X7_isLetter : GoodIn wsX7_readWord (va_wsS RX7 42 yX7_isLetter wsX7_isLetter) := goodIn_app (goodIn_of _ (by decide +kernel)) ggX7_readWord_X7_isLetter
set_option maxRecDepth 20000 in
theorem ggX7_readWord_X7_isWord : GoodIn wsX7_readWord wsX7_isWord := goodIn_r _ [12, 1, 13, 3, 14, 15, 16, 17, 18, 19, 20, 21, 22, 23, 24, 25, 26, 27, 28, 29, 30, 31, 32, 33, 34, 35, 36, 37, 38, 39, 40, 41, 42, 43, 44, 45, 46, 47, 48, 49, 50, 51, 52, 53, 54, 55, 56, 57, 58, 59, 60, 61, 62, 63, 64, 65, 66, 67, 68] (by decide +kernel) (by decide +kernel)
set_option maxRecDepth 20000 in
theorem gX7_readWord_X7_isWord : GoodIn wsX7_readWord (wsV RX7 56 RX7 yX7_isWord wsX7_isWord) := goodIn_app (goodIn_of _ (by decide +kernel)) ggX7_readWord_X7_isWord
theorem dX7_readWord_0 : decode cX7_readWord 0 = .ok (.aload_n 0, 1) := by decide +kernel
theorem dX7_readWord_1 : decode cX7_readWord 1 = .ok (.getfield 28, 3) := by decide +kernel
theorem dX7_readWord_4 : decode cX7_readWord 4 = .ok (.aload_n 0, 1) := by decide +kernel
theorem dX7_readWord_5 : decode cX7_readWord 5 = .ok (.getfield 15, 3) := by decide +kernel
theorem dX7_readWord_8 : decode cX7_readWord 8 = .ok (.if_icmp .ge 31, 3) := by decide +kernel
theorem dX7_readWord_11 : decode cX7_readWord 11 = .ok (.aload_n 0, 1) := by decide +kernel
theorem dX7_readWord_12 : decode cX7_readWord 12 = .ok (.getfield 9, 3) := by decide +kernel
theorem dX7_readWord_15 : decode cX7_readWord 15 = .ok (.aload_n 0, 1) := by decide +kernel
theorem dX7_readWord_16 : decode cX7_readWord 16 = .ok (.getfield 28, 3) := by decide +kernel
theorem dX7_readWord_19 : decode cX7_readWord 19 = .ok (.caload, 1) := by decide +kernel
theorem dX7_readWord_20 : decode cX7_readWord 20 = .ok (.invokestatic 42, 3) := by decide +kernel
theorem dX7_readWord_23 : decode cX7_readWord 23 = .ok (.ifCond .eq 16, 3) := by decide +kernel
theorem dX7_readWord_26 : decode cX7_readWord 26 = .ok (.aload_n 0, 1) := by decide +kernel
theorem dX7_readWord_27 : decode cX7_readWord 27 = .ok (.dup, 1) := by decide +kernel
theorem dX7_readWord_28 : decode cX7_readWord 28 = .ok (.getfield 28, 3) := by decide +kernel
theorem dX7_readWord_31 : decode cX7_readWord 31 = .ok (.iconst 1, 1) := by decide +kernel
theorem dX7_readWord_32 : decode cX7_readWord 32 = .ok (.iadd, 1) := by decide +kernel
theorem dX7_readWord_33 : decode cX7_readWord 33 = .ok (.putfield 28, 3) := by decide +kernel
theorem dX7_readWord_36 : decode cX7_readWord 36 = .ok (.goto (-36), 3) := by decide +kernel
theorem dX7_readWord_39 : decode cX7_readWord 39 = .ok (.aload_n 0, 1) := by decide +kernel
theorem dX7_readWord_40 : decode cX7_readWord 40 = .ok (.ldc 54, 2) := by decide +kernel
theorem dX7_readWord_42 : decode cX7_readWord 42 = .ok (.invokevirtual 56, 3) := by decide +kernel
theorem dX7_readWord_45 : decode cX7_readWord 45 = .ok (.ifCond .eq 11, 3) := by decide +kernel
theorem dX7_readWord_48 : decode cX7_readWord 48 = .ok (.aload_n 0, 1) := by decide +kernel
theorem dX7_readWord_49 : decode cX7_readWord 49 = .ok (.iconst 4, 1) := by decide +kernel
theorem dX7_readWord_50 : decode cX7_readWord 50 = .ok (.putfield 19, 3) := by decide +kernel
theorem dX7_readWord_53 : decode cX7_readWord 53 = .ok (.goto 57, 3) := by decide +kernel
theorem dX7_readWord_56 : decode cX7_readWord 56 = .ok (.aload_n 0, 1) := by decide +kernel
theorem dX7_readWord_57 : decode cX7_readWord 57 = .ok (.ldc 60, 2) := by decide +kernel
theorem dX7_readWord_59 : decode cX7_readWord 59 = .ok (.invokevirtual 56, 3) := by decide +kernel
theorem dX7_readWord_62 : decode cX7_readWord 62 = .ok (.ifCond .eq 11, 3) := by decide +kernel
theorem dX7_readWord_65 : decode cX7_readWord 65 = .ok (.aload_n 0, 1) := by decide +kernel
theorem dX7_readWord_66 : decode cX7_readWord 66 = .ok (.iconst 5, 1) := by decide +kernel
theorem dX7_readWord_67 : decode cX7_readWord 67 = .ok (.putfield 19, 3) := by decide +kernel
theorem dX7_readWord_70 : decode cX7_readWord 70 = .ok (.goto 40, 3) := by decide +kernel
theorem dX7_readWord_73 : decode cX7_readWord 73 = .ok (.aload_n 0, 1) := by decide +kernel
theorem dX7_readWord_74 : decode cX7_readWord 74 = .ok (.ldc 62, 2) := by decide +kernel
theorem dX7_readWord_76 : decode cX7_readWord 76 = .ok (.invokevirtual 56, 3) := by decide +kernel
theorem dX7_readWord_79 : decode cX7_readWord 79 = .ok (.ifCond .eq 12, 3) := by decide +kernel
