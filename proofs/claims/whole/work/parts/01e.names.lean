theorem dX9_purse_13 : decode cX9_purse 13 = .ok (.aload_n 0, 1) := by decide +kernel
theorem dX9_purse_14 : decode cX9_purse 14 = .ok (.getfield 22, 3) := by decide +kernel
theorem dX9_purse_17 : decode cX9_purse 17 = .ok (.iconst 2, 1) := by decide +kernel
theorem dX9_purse_18 : decode cX9_purse 18 = .ok (.iload_n 1, 1) := by decide +kernel
theorem dX9_purse_19 : decode cX9_purse 19 = .ok (.iadd, 1) := by decide +kernel
theorem dX9_purse_20 : decode cX9_purse 20 = .ok (.iaload, 1) := by decide +kernel
theorem dX9_purse_21 : decode cX9_purse 21 = .ok (.goto 4, 3) := by decide +kernel
theorem dX9_purse_24 : decode cX9_purse 24 = .ok (.iconst (-1), 1) := by decide +kernel
theorem dX9_purse_25 : decode cX9_purse 25 = .ok (.ireturn, 1) := by decide +kernel
set_option maxRecDepth 20000 in
theorem ggX9_isLease_X9_isTenant : GoodIn wsX9_isLease wsX9_isTenant := goodIn_r _ [6, 7, 8, 9, 5, 10, 18, 19, 20, 21, 22, 23, 24, 25, 26, 27, 28, 29, 30, 31, 32, 33, 34, 35, 36, 37, 38, 39, 40, 41, 42, 43] (by decide +kernel) (by decide +kernel)
set_option maxRecDepth 20000 in
theorem gX9_isLease_X9_isTenant : GoodIn wsX9_isLease (wsV RX9 158 RX9 yX9_isTenant wsX9_isTenant) := goodIn_app (goodIn_of _ (by decide +kernel)) ggX9_isLease_X9_isTenant
set_option maxRecDepth 20000 in
theorem ggX9_isLease_X9_isSquare : GoodIn wsX9_isLease wsX9_isSquare := goodIn_r _ [14, 1, 8, 9, 5, 10, 18, 19, 20, 21, 22, 23, 24, 25, 26, 27, 28, 29, 30, 31, 32, 33, 34, 35, 36, 37, 38, 39, 40, 41, 42, 43] (by decide +kernel) (by decide +kernel)
set_option maxRecDepth 20000 in
theorem gX9_isLease_X9_isSquare : GoodIn wsX9_isLease (wsV RX9 143 RX9 yX9_isSquare wsX9_isSquare) := goodIn_app (goodIn_of _ (by decide +kernel)) ggX9_isLease_X9_isSquare
set_option maxRecDepth 20000 in
theorem ggX9_isLease_X9_in : GoodIn wsX9_isLease wsX9_in := goodIn_r _ [10] (by decide +kernel) (by decide +kernel)
set_option maxRecDepth 20000 in
theorem gX9_isLease_X9_in : GoodIn wsX9_isLease (va_wsS RX9 45 yX9_in wsX9_in) := goodIn_app (goodIn_of _ (by decide +kernel)) ggX9_isLease_X9_in
set_option maxRecDepth 20000 in
theorem ggX9_isLease_X9_isNight : GoodIn wsX9_isLease wsX9_isNight := goodIn_r _ [17, 8, 9, 5, 10] (by decide +kernel) (by decide +kernel)
set_option maxRecDepth 20000 in
theorem gX9_isLease_X9_isNight : GoodIn wsX9_isLease (va_wsS RX9 146 yX9_isNight wsX9_isNight) := goodIn_app (goodIn_of _ (by decide +kernel)) ggX9_isLease_X9_isNight
theorem dX9_isLease_0 : decode cX9_isLease 0 = .ok (.aload_n 0, 1) := by decide +kernel
theorem dX9_isLease_1 : decode cX9_isLease 1 = .ok (.iload_n 1, 1) := by decide +kernel
theorem dX9_isLease_2 : decode cX9_isLease 2 = .ok (.invokevirtual 158, 3) := by decide +kernel
theorem dX9_isLease_5 : decode cX9_isLease 5 = .ok (.ifCond .eq 47, 3) := by decide +kernel
theorem dX9_isLease_8 : decode cX9_isLease 8 = .ok (.aload_n 0, 1) := by decide +kernel
theorem dX9_isLease_9 : decode cX9_isLease 9 = .ok (.iload_n 2, 1) := by decide +kernel
theorem dX9_isLease_10 : decode cX9_isLease 10 = .ok (.invokevirtual 143, 3) := by decide +kernel
theorem dX9_isLease_13 : decode cX9_isLease 13 = .ok (.ifCond .eq 39, 3) := by decide +kernel
theorem dX9_isLease_16 : decode cX9_isLease 16 = .ok (.iload_n 3, 1) := by decide +kernel
theorem dX9_isLease_17 : decode cX9_isLease 17 = .ok (.iconst 1, 1) := by decide +kernel
theorem dX9_isLease_18 : decode cX9_isLease 18 = .ok (.aload_n 0, 1) := by decide +kernel
theorem dX9_isLease_19 : decode cX9_isLease 19 = .ok (.getfield 38, 3) := by decide +kernel
theorem dX9_isLease_22 : decode cX9_isLease 22 = .ok (.invokestatic 45, 3) := by decide +kernel
theorem dX9_isLease_25 : decode cX9_isLease 25 = .ok (.ifCond .eq 27, 3) := by decide +kernel
theorem dX9_isLease_28 : decode cX9_isLease 28 = .ok (.iload 4, 2) := by decide +kernel
theorem dX9_isLease_30 : decode cX9_isLease 30 = .ok (.invokestatic 146, 3) := by decide +kernel
theorem dX9_isLease_33 : decode cX9_isLease 33 = .ok (.ifCond .eq 19, 3) := by decide +kernel
theorem dX9_isLease_36 : decode cX9_isLease 36 = .ok (.iload 5, 2) := by decide +kernel
theorem dX9_isLease_38 : decode cX9_isLease 38 = .ok (.iload 4, 2) := by decide +kernel
theorem dX9_isLease_40 : decode cX9_isLease 40 = .ok (.bipush 99, 2) := by decide +kernel
theorem dX9_isLease_42 : decode cX9_isLease 42 = .ok (.invokestatic 45, 3) := by decide +kernel
theorem dX9_isLease_45 : decode cX9_isLease 45 = .ok (.ifCond .eq 7, 3) := by decide +kernel
theorem dX9_isLease_48 : decode cX9_isLease 48 = .ok (.iconst 1, 1) := by decide +kernel
theorem dX9_isLease_49 : decode cX9_isLease 49 = .ok (.goto 4, 3) := by decide +kernel
theorem dX9_isLease_52 : decode cX9_isLease 52 = .ok (.iconst 0, 1) := by decide +kernel
theorem dX9_isLease_53 : decode cX9_isLease 53 = .ok (.ireturn, 1) := by decide +kernel
theorem dX9_notes_0 : decode cX9_notes 0 = .ok (.aload_n 0, 1) := by decide +kernel
theorem dX9_notes_1 : decode cX9_notes 1 = .ok (.getfield 22, 3) := by decide +kernel
theorem dX9_notes_4 : decode cX9_notes 4 = .ok (.bipush 57, 2) := by decide +kernel
theorem dX9_notes_6 : decode cX9_notes 6 = .ok (.iaload, 1) := by decide +kernel
theorem dX9_notes_7 : decode cX9_notes 7 = .ok (.bipush 6, 2) := by decide +kernel
theorem dX9_notes_9 : decode cX9_notes 9 = .ok (.if_icmp .ne 43, 3) := by decide +kernel
theorem dX9_notes_12 : decode cX9_notes 12 = .ok (.iconst 0, 1) := by decide +kernel
theorem dX9_notes_13 : decode cX9_notes 13 = .ok (.istore_n 3, 1) := by decide +kernel
theorem dX9_notes_14 : decode cX9_notes 14 = .ok (.iload_n 3, 1) := by decide +kernel
theorem dX9_notes_15 : decode cX9_notes 15 = .ok (.bipush 35, 2) := by decide +kernel
theorem dX9_notes_17 : decode cX9_notes 17 = .ok (.if_icmp .ge 27, 3) := by decide +kernel
theorem dX9_notes_20 : decode cX9_notes 20 = .ok (.aload_n 0, 1) := by decide +kernel
theorem dX9_notes_21 : decode cX9_notes 21 = .ok (.getfield 22, 3) := by decide +kernel
theorem dX9_notes_24 : decode cX9_notes 24 = .ok (.bipush 58, 2) := by decide +kernel
theorem dX9_notes_26 : decode cX9_notes 26 = .ok (.iload_n 3, 1) := by decide +kernel
theorem dX9_notes_27 : decode cX9_notes 27 = .ok (.iadd, 1) := by decide +kernel
theorem dX9_notes_28 : decode cX9_notes 28 = .ok (.aload_n 0, 1) := by decide +kernel
theorem dX9_notes_29 : decode cX9_notes 29 = .ok (.getfield 22, 3) := by decide +kernel
theorem dX9_notes_32 : decode cX9_notes 32 = .ok (.bipush 65, 2) := by decide +kernel
theorem dX9_notes_34 : decode cX9_notes 34 = .ok (.iload_n 3, 1) := by decide +kernel
theorem dX9_notes_35 : decode cX9_notes 35 = .ok (.iadd, 1) := by decide +kernel
theorem dX9_notes_36 : decode cX9_notes 36 = .ok (.iaload, 1) := by decide +kernel
theorem dX9_notes_37 : decode cX9_notes 37 = .ok (.iastore, 1) := by decide +kernel
theorem dX9_notes_38 : decode cX9_notes 38 = .ok (.iinc 3 1, 3) := by decide +kernel
theorem dX9_notes_41 : decode cX9_notes 41 = .ok (.goto (-27), 3) := by decide +kernel
theorem dX9_notes_44 : decode cX9_notes 44 = .ok (.aload_n 0, 1) := by decide +kernel
theorem dX9_notes_45 : decode cX9_notes 45 = .ok (.getfield 22, 3) := by decide +kernel
theorem dX9_notes_48 : decode cX9_notes 48 = .ok (.bipush 57, 2) := by decide +kernel
theorem dX9_notes_50 : decode cX9_notes 50 = .ok (.iconst 5, 1) := by decide +kernel
theorem dX9_notes_51 : decode cX9_notes 51 = .ok (.iastore, 1) := by decide +kernel
theorem dX9_notes_52 : decode cX9_notes 52 = .ok (.bipush 58, 2) := by decide +kernel
theorem dX9_notes_54 : decode cX9_notes 54 = .ok (.bipush 7, 2) := by decide +kernel
theorem dX9_notes_56 : decode cX9_notes 56 = .ok (.aload_n 0, 1) := by decide +kernel
theorem dX9_notes_57 : decode cX9_notes 57 = .ok (.getfield 22, 3) := by decide +kernel
theorem dX9_notes_60 : decode cX9_notes 60 = .ok (.bipush 57, 2) := by decide +kernel
theorem dX9_notes_62 : decode cX9_notes 62 = .ok (.iaload, 1) := by decide +kernel
theorem dX9_notes_63 : decode cX9_notes 63 = .ok (.imul, 1) := by decide +kernel
theorem dX9_notes_64 : decode cX9_notes 64 = .ok (.iadd, 1) := by decide +kernel
theorem dX9_notes_65 : decode cX9_notes 65 = .ok (.istore_n 3, 1) := by decide +kernel
theorem dX9_notes_66 : decode cX9_notes 66 = .ok (.aload_n 0, 1) := by decide +kernel
theorem dX9_notes_67 : decode cX9_notes 67 = .ok (.getfield 22, 3) := by decide +kernel
theorem dX9_notes_70 : decode cX9_notes 70 = .ok (.iload_n 3, 1) := by decide +kernel
theorem dX9_notes_71 : decode cX9_notes 71 = .ok (.iload_n 1, 1) := by decide +kernel
theorem dX9_notes_72 : decode cX9_notes 72 = .ok (.iastore, 1) := by decide +kernel
theorem dX9_notes_73 : decode cX9_notes 73 = .ok (.aload_n 0, 1) := by decide +kernel
theorem dX9_notes_74 : decode cX9_notes 74 = .ok (.getfield 22, 3) := by decide +kernel
theorem dX9_notes_77 : decode cX9_notes 77 = .ok (.iload_n 3, 1) := by decide +kernel
theorem dX9_notes_78 : decode cX9_notes 78 = .ok (.iconst 1, 1) := by decide +kernel
theorem dX9_notes_79 : decode cX9_notes 79 = .ok (.iadd, 1) := by decide +kernel
theorem dX9_notes_80 : decode cX9_notes 80 = .ok (.iload_n 2, 1) := by decide +kernel
theorem dX9_notes_81 : decode cX9_notes 81 = .ok (.iastore, 1) := by decide +kernel
theorem dX9_notes_82 : decode cX9_notes 82 = .ok (.iconst 0, 1) := by decide +kernel
theorem dX9_notes_83 : decode cX9_notes 83 = .ok (.istore 4, 2) := by decide +kernel
theorem dX9_notes_85 : decode cX9_notes 85 = .ok (.iload 4, 2) := by decide +kernel
theorem dX9_notes_87 : decode cX9_notes 87 = .ok (.iconst 5, 1) := by decide +kernel
theorem dX9_notes_88 : decode cX9_notes 88 = .ok (.if_icmp .ge 34, 3) := by decide +kernel
theorem dX9_notes_91 : decode cX9_notes 91 = .ok (.aload_n 0, 1) := by decide +kernel
theorem dX9_notes_92 : decode cX9_notes 92 = .ok (.getfield 22, 3) := by decide +kernel
theorem dX9_notes_95 : decode cX9_notes 95 = .ok (.iload_n 3, 1) := by decide +kernel
theorem dX9_notes_96 : decode cX9_notes 96 = .ok (.iconst 2, 1) := by decide +kernel
theorem dX9_notes_97 : decode cX9_notes 97 = .ok (.iadd, 1) := by decide +kernel
theorem dX9_notes_98 : decode cX9_notes 98 = .ok (.iload 4, 2) := by decide +kernel
theorem dX9_notes_100 : decode cX9_notes 100 = .ok (.iadd, 1) := by decide +kernel
theorem dX9_notes_101 : decode cX9_notes 101 = .ok (.aload_n 0, 1) := by decide +kernel
theorem dX9_notes_102 : decode cX9_notes 102 = .ok (.getfield 22, 3) := by decide +kernel
theorem dX9_notes_105 : decode cX9_notes 105 = .ok (.bipush 7, 2) := by decide +kernel
theorem dX9_notes_107 : decode cX9_notes 107 = .ok (.iconst 5, 1) := by decide +kernel
theorem dX9_notes_108 : decode cX9_notes 108 = .ok (.iload_n 2, 1) := by decide +kernel
theorem dX9_notes_109 : decode cX9_notes 109 = .ok (.imul, 1) := by decide +kernel
theorem dX9_notes_110 : decode cX9_notes 110 = .ok (.iadd, 1) := by decide +kernel
theorem dX9_notes_111 : decode cX9_notes 111 = .ok (.iload 4, 2) := by decide +kernel
theorem dX9_notes_113 : decode cX9_notes 113 = .ok (.iadd, 1) := by decide +kernel
theorem dX9_notes_114 : decode cX9_notes 114 = .ok (.iaload, 1) := by decide +kernel
theorem dX9_notes_115 : decode cX9_notes 115 = .ok (.iastore, 1) := by decide +kernel
theorem dX9_notes_116 : decode cX9_notes 116 = .ok (.iinc 4 1, 3) := by decide +kernel
theorem dX9_notes_119 : decode cX9_notes 119 = .ok (.goto (-34), 3) := by decide +kernel
theorem dX9_notes_122 : decode cX9_notes 122 = .ok (.aload_n 0, 1) := by decide +kernel
theorem dX9_notes_123 : decode cX9_notes 123 = .ok (.getfield 22, 3) := by decide +kernel
theorem dX9_notes_126 : decode cX9_notes 126 = .ok (.bipush 57, 2) := by decide +kernel
theorem dX9_notes_128 : decode cX9_notes 128 = .ok (.dup2, 1) := by decide +kernel
theorem dX9_notes_129 : decode cX9_notes 129 = .ok (.iaload, 1) := by decide +kernel
theorem dX9_notes_130 : decode cX9_notes 130 = .ok (.iconst 1, 1) := by decide +kernel
theorem dX9_notes_131 : decode cX9_notes 131 = .ok (.iadd, 1) := by decide +kernel
theorem dX9_notes_132 : decode cX9_notes 132 = .ok (.iastore, 1) := by decide +kernel
theorem dX9_notes_133 : decode cX9_notes 133 = .ok (.return_, 1) := by decide +kernel
set_option maxRecDepth 20000 in
theorem ggX9_begins_X9_isLease : GoodIn wsX9_begins wsX9_isLease := goodIn_r _ [7, 8, 9, 10, 11, 6, 12, 13, 14, 15, 16, 17, 18, 19, 20, 21, 22, 23, 28, 29, 30, 31, 32, 33, 34, 35, 36, 37, 38, 39, 40, 41, 42, 43, 44, 45, 46, 47, 48, 49, 50, 51, 52, 53] (by decide +kernel) (by decide +kernel)
set_option maxRecDepth 20000 in
theorem gX9_begins_X9_isLease : GoodIn wsX9_begins (wsV RX9 161 RX9 yX9_isLease wsX9_isLease) := goodIn_app (goodIn_of _ (by decide +kernel)) ggX9_begins_X9_isLease
set_option maxRecDepth 20000 in
theorem ggX9_begins_X9_notes : GoodIn wsX9_begins wsX9_notes := goodIn_r _ [27, 2, 28, 29, 30, 31, 32, 33, 34, 35, 36, 37, 38, 39, 40, 41, 42, 43, 44, 45, 46, 47, 48, 49, 50, 51, 52, 53] (by decide +kernel) (by decide +kernel)
set_option maxRecDepth 20000 in
theorem gX9_begins_X9_notes : GoodIn wsX9_begins (wsV RX9 165 RX9 yX9_notes wsX9_notes) := goodIn_app (goodIn_of _ (by decide +kernel)) ggX9_begins_X9_notes
theorem dX9_begins_0 : decode cX9_begins 0 = .ok (.aload_n 0, 1) := by decide +kernel
theorem dX9_begins_1 : decode cX9_begins 1 = .ok (.iconst 0, 1) := by decide +kernel
theorem dX9_begins_2 : decode cX9_begins 2 = .ok (.putfield 42, 3) := by decide +kernel
theorem dX9_begins_5 : decode cX9_begins 5 = .ok (.aload_n 0, 1) := by decide +kernel
theorem dX9_begins_6 : decode cX9_begins 6 = .ok (.iload_n 1, 1) := by decide +kernel
theorem dX9_begins_7 : decode cX9_begins 7 = .ok (.iload_n 2, 1) := by decide +kernel
theorem dX9_begins_8 : decode cX9_begins 8 = .ok (.iload_n 3, 1) := by decide +kernel
theorem dX9_begins_9 : decode cX9_begins 9 = .ok (.iload 4, 2) := by decide +kernel
theorem dX9_begins_11 : decode cX9_begins 11 = .ok (.iload 5, 2) := by decide +kernel
theorem dX9_begins_13 : decode cX9_begins 13 = .ok (.invokevirtual 161, 3) := by decide +kernel
theorem dX9_begins_16 : decode cX9_begins 16 = .ok (.ifCond .ne 5, 3) := by decide +kernel
theorem dX9_begins_19 : decode cX9_begins 19 = .ok (.iconst (-1), 1) := by decide +kernel
theorem dX9_begins_20 : decode cX9_begins 20 = .ok (.ireturn, 1) := by decide +kernel
theorem dX9_begins_21 : decode cX9_begins 21 = .ok (.aload_n 0, 1) := by decide +kernel
theorem dX9_begins_22 : decode cX9_begins 22 = .ok (.getfield 22, 3) := by decide +kernel
theorem dX9_begins_25 : decode cX9_begins 25 = .ok (.bipush 6, 2) := by decide +kernel
theorem dX9_begins_27 : decode cX9_begins 27 = .ok (.iaload, 1) := by decide +kernel
theorem dX9_begins_28 : decode cX9_begins 28 = .ok (.bipush 10, 2) := by decide +kernel
theorem dX9_begins_30 : decode cX9_begins 30 = .ok (.if_icmp .ne 6, 3) := by decide +kernel
theorem dX9_begins_33 : decode cX9_begins 33 = .ok (.bipush (-3), 2) := by decide +kernel
theorem dX9_begins_35 : decode cX9_begins 35 = .ok (.ireturn, 1) := by decide +kernel
theorem dX9_begins_36 : decode cX9_begins 36 = .ok (.bipush 7, 2) := by decide +kernel
theorem dX9_begins_38 : decode cX9_begins 38 = .ok (.iconst 5, 1) := by decide +kernel
theorem dX9_begins_39 : decode cX9_begins 39 = .ok (.aload_n 0, 1) := by decide +kernel
theorem dX9_begins_40 : decode cX9_begins 40 = .ok (.getfield 22, 3) := by decide +kernel
theorem dX9_begins_43 : decode cX9_begins 43 = .ok (.bipush 6, 2) := by decide +kernel
theorem dX9_begins_45 : decode cX9_begins 45 = .ok (.iaload, 1) := by decide +kernel
theorem dX9_begins_46 : decode cX9_begins 46 = .ok (.imul, 1) := by decide +kernel
theorem dX9_begins_47 : decode cX9_begins 47 = .ok (.iadd, 1) := by decide +kernel
theorem dX9_begins_48 : decode cX9_begins 48 = .ok (.istore 6, 2) := by decide +kernel
theorem dX9_begins_50 : decode cX9_begins 50 = .ok (.aload_n 0, 1) := by decide +kernel
theorem dX9_begins_51 : decode cX9_begins 51 = .ok (.getfield 22, 3) := by decide +kernel
theorem dX9_begins_54 : decode cX9_begins 54 = .ok (.iload 6, 2) := by decide +kernel
theorem dX9_begins_56 : decode cX9_begins 56 = .ok (.iload_n 1, 1) := by decide +kernel
theorem dX9_begins_57 : decode cX9_begins 57 = .ok (.iastore, 1) := by decide +kernel
theorem dX9_begins_58 : decode cX9_begins 58 = .ok (.aload_n 0, 1) := by decide +kernel
theorem dX9_begins_59 : decode cX9_begins 59 = .ok (.getfield 22, 3) := by decide +kernel
theorem dX9_begins_62 : decode cX9_begins 62 = .ok (.iload 6, 2) := by decide +kernel
theorem dX9_begins_64 : decode cX9_begins 64 = .ok (.iconst 1, 1) := by decide +kernel
theorem dX9_begins_65 : decode cX9_begins 65 = .ok (.iadd, 1) := by decide +kernel
theorem dX9_begins_66 : decode cX9_begins 66 = .ok (.iload_n 2, 1) := by decide +kernel
theorem dX9_begins_67 : decode cX9_begins 67 = .ok (.iastore, 1) := by decide +kernel
theorem dX9_begins_68 : decode cX9_begins 68 = .ok (.aload_n 0, 1) := by decide +kernel
theorem dX9_begins_69 : decode cX9_begins 69 = .ok (.getfield 22, 3) := by decide +kernel
theorem dX9_begins_72 : decode cX9_begins 72 = .ok (.iload 6, 2) := by decide +kernel
theorem dX9_begins_74 : decode cX9_begins 74 = .ok (.iconst 2, 1) := by decide +kernel
theorem dX9_begins_75 : decode cX9_begins 75 = .ok (.iadd, 1) := by decide +kernel
theorem dX9_begins_76 : decode cX9_begins 76 = .ok (.iload_n 3, 1) := by decide +kernel
theorem dX9_begins_77 : decode cX9_begins 77 = .ok (.iastore, 1) := by decide +kernel
theorem dX9_begins_78 : decode cX9_begins 78 = .ok (.aload_n 0, 1) := by decide +kernel
theorem dX9_begins_79 : decode cX9_begins 79 = .ok (.getfield 22, 3) := by decide +kernel
theorem dX9_begins_82 : decode cX9_begins 82 = .ok (.iload 6, 2) := by decide +kernel
theorem dX9_begins_84 : decode cX9_begins 84 = .ok (.iconst 3, 1) := by decide +kernel
theorem dX9_begins_85 : decode cX9_begins 85 = .ok (.iadd, 1) := by decide +kernel
theorem dX9_begins_86 : decode cX9_begins 86 = .ok (.iload 4, 2) := by decide +kernel
theorem dX9_begins_88 : decode cX9_begins 88 = .ok (.iastore, 1) := by decide +kernel
theorem dX9_begins_89 : decode cX9_begins 89 = .ok (.aload_n 0, 1) := by decide +kernel
theorem dX9_begins_90 : decode cX9_begins 90 = .ok (.getfield 22, 3) := by decide +kernel
theorem dX9_begins_93 : decode cX9_begins 93 = .ok (.iload 6, 2) := by decide +kernel
theorem dX9_begins_95 : decode cX9_begins 95 = .ok (.iconst 4, 1) := by decide +kernel
theorem dX9_begins_96 : decode cX9_begins 96 = .ok (.iadd, 1) := by decide +kernel
theorem dX9_begins_97 : decode cX9_begins 97 = .ok (.iload 5, 2) := by decide +kernel
theorem dX9_begins_99 : decode cX9_begins 99 = .ok (.iastore, 1) := by decide +kernel
theorem dX9_begins_100 : decode cX9_begins 100 = .ok (.aload_n 0, 1) := by decide +kernel
theorem dX9_begins_101 : decode cX9_begins 101 = .ok (.iconst 1, 1) := by decide +kernel
theorem dX9_begins_102 : decode cX9_begins 102 = .ok (.aload_n 0, 1) := by decide +kernel
theorem dX9_begins_103 : decode cX9_begins 103 = .ok (.getfield 22, 3) := by decide +kernel
theorem dX9_begins_106 : decode cX9_begins 106 = .ok (.bipush 6, 2) := by decide +kernel
theorem dX9_begins_108 : decode cX9_begins 108 = .ok (.iaload, 1) := by decide +kernel
theorem dX9_begins_109 : decode cX9_begins 109 = .ok (.invokevirtual 165, 3) := by decide +kernel
theorem dX9_begins_112 : decode cX9_begins 112 = .ok (.aload_n 0, 1) := by decide +kernel
theorem dX9_begins_113 : decode cX9_begins 113 = .ok (.getfield 22, 3) := by decide +kernel
theorem dX9_begins_116 : decode cX9_begins 116 = .ok (.bipush 6, 2) := by decide +kernel
theorem dX9_begins_118 : decode cX9_begins 118 = .ok (.dup2, 1) := by decide +kernel
theorem dX9_begins_119 : decode cX9_begins 119 = .ok (.iaload, 1) := by decide +kernel
theorem dX9_begins_120 : decode cX9_begins 120 = .ok (.iconst 1, 1) := by decide +kernel
theorem dX9_begins_121 : decode cX9_begins 121 = .ok (.iadd, 1) := by decide +kernel
theorem dX9_begins_122 : decode cX9_begins 122 = .ok (.iastore, 1) := by decide +kernel
theorem dX9_begins_123 : decode cX9_begins 123 = .ok (.aload_n 0, 1) := by decide +kernel
theorem dX9_begins_124 : decode cX9_begins 124 = .ok (.getfield 22, 3) := by decide +kernel
theorem dX9_begins_127 : decode cX9_begins 127 = .ok (.bipush 6, 2) := by decide +kernel
theorem dX9_begins_129 : decode cX9_begins 129 = .ok (.iaload, 1) := by decide +kernel
theorem dX9_begins_130 : decode cX9_begins 130 = .ok (.iconst 1, 1) := by decide +kernel
theorem dX9_begins_131 : decode cX9_begins 131 = .ok (.isub, 1) := by decide +kernel
theorem dX9_begins_132 : decode cX9_begins 132 = .ok (.ireturn, 1) := by decide +kernel
theorem dX9_goesOut_0 : decode cX9_goesOut 0 = .ok (.aload_n 0, 1) := by decide +kernel
theorem dX9_goesOut_1 : decode cX9_goesOut 1 = .ok (.getfield 22, 3) := by decide +kernel
theorem dX9_goesOut_4 : decode cX9_goesOut 4 = .ok (.bipush 6, 2) := by decide +kernel
theorem dX9_goesOut_6 : decode cX9_goesOut 6 = .ok (.dup2, 1) := by decide +kernel
theorem dX9_goesOut_7 : decode cX9_goesOut 7 = .ok (.iaload, 1) := by decide +kernel
theorem dX9_goesOut_8 : decode cX9_goesOut 8 = .ok (.iconst 1, 1) := by decide +kernel
theorem dX9_goesOut_9 : decode cX9_goesOut 9 = .ok (.isub, 1) := by decide +kernel
theorem dX9_goesOut_10 : decode cX9_goesOut 10 = .ok (.iastore, 1) := by decide +kernel
theorem dX9_goesOut_11 : decode cX9_goesOut 11 = .ok (.iconst 5, 1) := by decide +kernel
theorem dX9_goesOut_12 : decode cX9_goesOut 12 = .ok (.iload_n 1, 1) := by decide +kernel
theorem dX9_goesOut_13 : decode cX9_goesOut 13 = .ok (.imul, 1) := by decide +kernel
theorem dX9_goesOut_14 : decode cX9_goesOut 14 = .ok (.istore_n 2, 1) := by decide +kernel
theorem dX9_goesOut_15 : decode cX9_goesOut 15 = .ok (.iload_n 2, 1) := by decide +kernel
theorem dX9_goesOut_16 : decode cX9_goesOut 16 = .ok (.iconst 5, 1) := by decide +kernel
theorem dX9_goesOut_17 : decode cX9_goesOut 17 = .ok (.aload_n 0, 1) := by decide +kernel
theorem dX9_goesOut_18 : decode cX9_goesOut 18 = .ok (.getfield 22, 3) := by decide +kernel
theorem dX9_goesOut_21 : decode cX9_goesOut 21 = .ok (.bipush 6, 2) := by decide +kernel
theorem dX9_goesOut_23 : decode cX9_goesOut 23 = .ok (.iaload, 1) := by decide +kernel
theorem dX9_goesOut_24 : decode cX9_goesOut 24 = .ok (.imul, 1) := by decide +kernel
theorem dX9_goesOut_25 : decode cX9_goesOut 25 = .ok (.if_icmp .ge 29, 3) := by decide +kernel
theorem dX9_goesOut_28 : decode cX9_goesOut 28 = .ok (.aload_n 0, 1) := by decide +kernel
theorem dX9_goesOut_29 : decode cX9_goesOut 29 = .ok (.getfield 22, 3) := by decide +kernel
theorem dX9_goesOut_32 : decode cX9_goesOut 32 = .ok (.bipush 7, 2) := by decide +kernel
theorem dX9_goesOut_34 : decode cX9_goesOut 34 = .ok (.iload_n 2, 1) := by decide +kernel
theorem dX9_goesOut_35 : decode cX9_goesOut 35 = .ok (.iadd, 1) := by decide +kernel
theorem dX9_goesOut_36 : decode cX9_goesOut 36 = .ok (.aload_n 0, 1) := by decide +kernel
theorem dX9_goesOut_37 : decode cX9_goesOut 37 = .ok (.getfield 22, 3) := by decide +kernel
theorem dX9_goesOut_40 : decode cX9_goesOut 40 = .ok (.bipush 7, 2) := by decide +kernel
theorem dX9_goesOut_42 : decode cX9_goesOut 42 = .ok (.iload_n 2, 1) := by decide +kernel
theorem dX9_goesOut_43 : decode cX9_goesOut 43 = .ok (.iadd, 1) := by decide +kernel
theorem dX9_goesOut_44 : decode cX9_goesOut 44 = .ok (.iconst 5, 1) := by decide +kernel
theorem dX9_goesOut_45 : decode cX9_goesOut 45 = .ok (.iadd, 1) := by decide +kernel
theorem dX9_goesOut_46 : decode cX9_goesOut 46 = .ok (.iaload, 1) := by decide +kernel
theorem dX9_goesOut_47 : decode cX9_goesOut 47 = .ok (.iastore, 1) := by decide +kernel
theorem dX9_goesOut_48 : decode cX9_goesOut 48 = .ok (.iinc 2 1, 3) := by decide +kernel
theorem dX9_goesOut_51 : decode cX9_goesOut 51 = .ok (.goto (-36), 3) := by decide +kernel
theorem dX9_goesOut_54 : decode cX9_goesOut 54 = .ok (.return_, 1) := by decide +kernel
set_option maxRecDepth 20000 in
theorem ggX9_ends_X9_in : GoodIn wsX9_ends wsX9_in := goodIn_r _ [6] (by decide +kernel) (by decide +kernel)
set_option maxRecDepth 20000 in
theorem gX9_ends_X9_in : GoodIn wsX9_ends (va_wsS RX9 45 yX9_in wsX9_in) := goodIn_app (goodIn_of _ (by decide +kernel)) ggX9_ends_X9_in
set_option maxRecDepth 20000 in
theorem ggX9_ends_X9_notes : GoodIn wsX9_ends wsX9_notes := goodIn_r _ [10, 2, 15, 16, 17, 18, 19, 20, 21, 22, 23, 24, 25, 26, 27, 28, 29, 30, 31, 32, 33, 34, 35, 36, 37, 38, 39, 40] (by decide +kernel) (by decide +kernel)
set_option maxRecDepth 20000 in
theorem gX9_ends_X9_notes : GoodIn wsX9_ends (wsV RX9 165 RX9 yX9_notes wsX9_notes) := goodIn_app (goodIn_of _ (by decide +kernel)) ggX9_ends_X9_notes
set_option maxRecDepth 20000 in
theorem ggX9_ends_X9_goesOut : GoodIn wsX9_ends wsX9_goesOut := goodIn_r _ [14, 2, 15, 16, 17, 18, 19, 20, 21, 22, 23, 24, 25, 26, 27, 28, 29, 30, 31, 32, 33, 34, 35, 36, 37, 38, 39, 40] (by decide +kernel) (by decide +kernel)
set_option maxRecDepth 20000 in
theorem gX9_ends_X9_goesOut : GoodIn wsX9_ends (wsV RX9 169 RX9 yX9_goesOut wsX9_goesOut) := goodIn_app (goodIn_of _ (by decide +kernel)) ggX9_ends_X9_goesOut
theorem dX9_ends_0 : decode cX9_ends 0 = .ok (.aload_n 0, 1) := by decide +kernel
theorem dX9_ends_1 : decode cX9_ends 1 = .ok (.iconst 0, 1) := by decide +kernel
theorem dX9_ends_2 : decode cX9_ends 2 = .ok (.putfield 42, 3) := by decide +kernel
theorem dX9_ends_5 : decode cX9_ends 5 = .ok (.iload_n 1, 1) := by decide +kernel
theorem dX9_ends_6 : decode cX9_ends 6 = .ok (.iconst 0, 1) := by decide +kernel
theorem dX9_ends_7 : decode cX9_ends 7 = .ok (.aload_n 0, 1) := by decide +kernel
theorem dX9_ends_8 : decode cX9_ends 8 = .ok (.getfield 22, 3) := by decide +kernel
theorem dX9_ends_11 : decode cX9_ends 11 = .ok (.bipush 6, 2) := by decide +kernel
theorem dX9_ends_13 : decode cX9_ends 13 = .ok (.iaload, 1) := by decide +kernel
theorem dX9_ends_14 : decode cX9_ends 14 = .ok (.iconst 1, 1) := by decide +kernel
theorem dX9_ends_15 : decode cX9_ends 15 = .ok (.isub, 1) := by decide +kernel
theorem dX9_ends_16 : decode cX9_ends 16 = .ok (.invokestatic 45, 3) := by decide +kernel
theorem dX9_ends_19 : decode cX9_ends 19 = .ok (.ifCond .ne 5, 3) := by decide +kernel
theorem dX9_ends_22 : decode cX9_ends 22 = .ok (.iconst (-1), 1) := by decide +kernel
theorem dX9_ends_23 : decode cX9_ends 23 = .ok (.ireturn, 1) := by decide +kernel
theorem dX9_ends_24 : decode cX9_ends 24 = .ok (.aload_n 0, 1) := by decide +kernel
theorem dX9_ends_25 : decode cX9_ends 25 = .ok (.iconst 0, 1) := by decide +kernel
theorem dX9_ends_26 : decode cX9_ends 26 = .ok (.iload_n 1, 1) := by decide +kernel
theorem dX9_ends_27 : decode cX9_ends 27 = .ok (.invokevirtual 165, 3) := by decide +kernel
theorem dX9_ends_30 : decode cX9_ends 30 = .ok (.aload_n 0, 1) := by decide +kernel
theorem dX9_ends_31 : decode cX9_ends 31 = .ok (.iload_n 1, 1) := by decide +kernel
theorem dX9_ends_32 : decode cX9_ends 32 = .ok (.invokevirtual 169, 3) := by decide +kernel
theorem dX9_ends_35 : decode cX9_ends 35 = .ok (.aload_n 0, 1) := by decide +kernel
theorem dX9_ends_36 : decode cX9_ends 36 = .ok (.getfield 22, 3) := by decide +kernel
theorem dX9_ends_39 : decode cX9_ends 39 = .ok (.bipush 6, 2) := by decide +kernel
theorem dX9_ends_41 : decode cX9_ends 41 = .ok (.iaload, 1) := by decide +kernel
theorem dX9_ends_42 : decode cX9_ends 42 = .ok (.ireturn, 1) := by decide +kernel
set_option maxRecDepth 20000 in
theorem ggX9_undo_X9_goesOut : GoodIn wsX9_undo wsX9_goesOut := goodIn_r _ [7, 2, 8, 9, 10, 11, 12, 13, 14, 15, 16, 17, 18, 19, 20, 21, 22, 23, 24, 25, 26, 27, 28, 29, 30, 31, 32, 33] (by decide +kernel) (by decide +kernel)
set_option maxRecDepth 20000 in
theorem gX9_undo_X9_goesOut : GoodIn wsX9_undo (wsV RX9 169 RX9 yX9_goesOut wsX9_goesOut) := goodIn_app (goodIn_of _ (by decide +kernel)) ggX9_undo_X9_goesOut
theorem dX9_undo_0 : decode cX9_undo 0 = .ok (.aload_n 0, 1) := by decide +kernel
theorem dX9_undo_1 : decode cX9_undo 1 = .ok (.iconst 0, 1) := by decide +kernel
theorem dX9_undo_2 : decode cX9_undo 2 = .ok (.putfield 42, 3) := by decide +kernel
theorem dX9_undo_5 : decode cX9_undo 5 = .ok (.aload_n 0, 1) := by decide +kernel
theorem dX9_undo_6 : decode cX9_undo 6 = .ok (.getfield 22, 3) := by decide +kernel
theorem dX9_undo_9 : decode cX9_undo 9 = .ok (.bipush 57, 2) := by decide +kernel
theorem dX9_undo_11 : decode cX9_undo 11 = .ok (.iaload, 1) := by decide +kernel
theorem dX9_undo_12 : decode cX9_undo 12 = .ok (.ifCond .ne 6, 3) := by decide +kernel
theorem dX9_undo_15 : decode cX9_undo 15 = .ok (.bipush (-2), 2) := by decide +kernel
theorem dX9_undo_17 : decode cX9_undo 17 = .ok (.ireturn, 1) := by decide +kernel
theorem dX9_undo_18 : decode cX9_undo 18 = .ok (.aload_n 0, 1) := by decide +kernel
theorem dX9_undo_19 : decode cX9_undo 19 = .ok (.getfield 22, 3) := by decide +kernel
theorem dX9_undo_22 : decode cX9_undo 22 = .ok (.bipush 57, 2) := by decide +kernel
theorem dX9_undo_24 : decode cX9_undo 24 = .ok (.dup2, 1) := by decide +kernel
theorem dX9_undo_25 : decode cX9_undo 25 = .ok (.iaload, 1) := by decide +kernel
theorem dX9_undo_26 : decode cX9_undo 26 = .ok (.iconst 1, 1) := by decide +kernel
theorem dX9_undo_27 : decode cX9_undo 27 = .ok (.isub, 1) := by decide +kernel
theorem dX9_undo_28 : decode cX9_undo 28 = .ok (.iastore, 1) := by decide +kernel
theorem dX9_undo_29 : decode cX9_undo 29 = .ok (.bipush 58, 2) := by decide +kernel
theorem dX9_undo_31 : decode cX9_undo 31 = .ok (.bipush 7, 2) := by decide +kernel
theorem dX9_undo_33 : decode cX9_undo 33 = .ok (.aload_n 0, 1) := by decide +kernel
theorem dX9_undo_34 : decode cX9_undo 34 = .ok (.getfield 22, 3) := by decide +kernel
theorem dX9_undo_37 : decode cX9_undo 37 = .ok (.bipush 57, 2) := by decide +kernel
theorem dX9_undo_39 : decode cX9_undo 39 = .ok (.iaload, 1) := by decide +kernel
theorem dX9_undo_40 : decode cX9_undo 40 = .ok (.imul, 1) := by decide +kernel
theorem dX9_undo_41 : decode cX9_undo 41 = .ok (.iadd, 1) := by decide +kernel
theorem dX9_undo_42 : decode cX9_undo 42 = .ok (.istore_n 1, 1) := by decide +kernel
theorem dX9_undo_43 : decode cX9_undo 43 = .ok (.aload_n 0, 1) := by decide +kernel
theorem dX9_undo_44 : decode cX9_undo 44 = .ok (.getfield 22, 3) := by decide +kernel
theorem dX9_undo_47 : decode cX9_undo 47 = .ok (.iload_n 1, 1) := by decide +kernel
theorem dX9_undo_48 : decode cX9_undo 48 = .ok (.iconst 1, 1) := by decide +kernel
theorem dX9_undo_49 : decode cX9_undo 49 = .ok (.iadd, 1) := by decide +kernel
theorem dX9_undo_50 : decode cX9_undo 50 = .ok (.iaload, 1) := by decide +kernel
theorem dX9_undo_51 : decode cX9_undo 51 = .ok (.istore_n 2, 1) := by decide +kernel
theorem dX9_undo_52 : decode cX9_undo 52 = .ok (.aload_n 0, 1) := by decide +kernel
theorem dX9_undo_53 : decode cX9_undo 53 = .ok (.getfield 22, 3) := by decide +kernel
theorem dX9_undo_56 : decode cX9_undo 56 = .ok (.iload_n 1, 1) := by decide +kernel
theorem dX9_undo_57 : decode cX9_undo 57 = .ok (.iaload, 1) := by decide +kernel
theorem dX9_undo_58 : decode cX9_undo 58 = .ok (.iconst 1, 1) := by decide +kernel
theorem dX9_undo_59 : decode cX9_undo 59 = .ok (.if_icmp .ne 11, 3) := by decide +kernel
theorem dX9_undo_62 : decode cX9_undo 62 = .ok (.aload_n 0, 1) := by decide +kernel
theorem dX9_undo_63 : decode cX9_undo 63 = .ok (.iload_n 2, 1) := by decide +kernel
theorem dX9_undo_64 : decode cX9_undo 64 = .ok (.invokevirtual 169, 3) := by decide +kernel
theorem dX9_undo_67 : decode cX9_undo 67 = .ok (.goto 95, 3) := by decide +kernel
theorem dX9_undo_70 : decode cX9_undo 70 = .ok (.iconst 5, 1) := by decide +kernel
theorem dX9_undo_71 : decode cX9_undo 71 = .ok (.aload_n 0, 1) := by decide +kernel
theorem dX9_undo_72 : decode cX9_undo 72 = .ok (.getfield 22, 3) := by decide +kernel
theorem dX9_undo_75 : decode cX9_undo 75 = .ok (.bipush 6, 2) := by decide +kernel
theorem dX9_undo_77 : decode cX9_undo 77 = .ok (.iaload, 1) := by decide +kernel
theorem dX9_undo_78 : decode cX9_undo 78 = .ok (.imul, 1) := by decide +kernel
theorem dX9_undo_79 : decode cX9_undo 79 = .ok (.iconst 1, 1) := by decide +kernel
theorem dX9_undo_80 : decode cX9_undo 80 = .ok (.isub, 1) := by decide +kernel
theorem dX9_undo_81 : decode cX9_undo 81 = .ok (.istore_n 3, 1) := by decide +kernel
theorem dX9_undo_82 : decode cX9_undo 82 = .ok (.iload_n 3, 1) := by decide +kernel
theorem dX9_undo_83 : decode cX9_undo 83 = .ok (.iconst 5, 1) := by decide +kernel
theorem dX9_undo_84 : decode cX9_undo 84 = .ok (.iload_n 2, 1) := by decide +kernel
theorem dX9_undo_85 : decode cX9_undo 85 = .ok (.imul, 1) := by decide +kernel
theorem dX9_undo_86 : decode cX9_undo 86 = .ok (.if_icmp .lt 29, 3) := by decide +kernel
theorem dX9_undo_89 : decode cX9_undo 89 = .ok (.aload_n 0, 1) := by decide +kernel
theorem dX9_undo_90 : decode cX9_undo 90 = .ok (.getfield 22, 3) := by decide +kernel
theorem dX9_undo_93 : decode cX9_undo 93 = .ok (.bipush 7, 2) := by decide +kernel
theorem dX9_undo_95 : decode cX9_undo 95 = .ok (.iload_n 3, 1) := by decide +kernel
theorem dX9_undo_96 : decode cX9_undo 96 = .ok (.iadd, 1) := by decide +kernel
theorem dX9_undo_97 : decode cX9_undo 97 = .ok (.iconst 5, 1) := by decide +kernel
theorem dX9_undo_98 : decode cX9_undo 98 = .ok (.iadd, 1) := by decide +kernel
theorem dX9_undo_99 : decode cX9_undo 99 = .ok (.aload_n 0, 1) := by decide +kernel
theorem dX9_undo_100 : decode cX9_undo 100 = .ok (.getfield 22, 3) := by decide +kernel
theorem dX9_undo_103 : decode cX9_undo 103 = .ok (.bipush 7, 2) := by decide +kernel
theorem dX9_undo_105 : decode cX9_undo 105 = .ok (.iload_n 3, 1) := by decide +kernel
theorem dX9_undo_106 : decode cX9_undo 106 = .ok (.iadd, 1) := by decide +kernel
theorem dX9_undo_107 : decode cX9_undo 107 = .ok (.iaload, 1) := by decide +kernel
theorem dX9_undo_108 : decode cX9_undo 108 = .ok (.iastore, 1) := by decide +kernel
theorem dX9_undo_109 : decode cX9_undo 109 = .ok (.iinc 3 (-1), 3) := by decide +kernel
theorem dX9_undo_112 : decode cX9_undo 112 = .ok (.goto (-30), 3) := by decide +kernel
theorem dX9_undo_115 : decode cX9_undo 115 = .ok (.iconst 0, 1) := by decide +kernel
theorem dX9_undo_116 : decode cX9_undo 116 = .ok (.istore_n 3, 1) := by decide +kernel
theorem dX9_undo_117 : decode cX9_undo 117 = .ok (.iload_n 3, 1) := by decide +kernel
theorem dX9_undo_118 : decode cX9_undo 118 = .ok (.iconst 5, 1) := by decide +kernel
theorem dX9_undo_119 : decode cX9_undo 119 = .ok (.if_icmp .ge 32, 3) := by decide +kernel
theorem dX9_undo_122 : decode cX9_undo 122 = .ok (.aload_n 0, 1) := by decide +kernel
theorem dX9_undo_123 : decode cX9_undo 123 = .ok (.getfield 22, 3) := by decide +kernel
theorem dX9_undo_126 : decode cX9_undo 126 = .ok (.bipush 7, 2) := by decide +kernel
theorem dX9_undo_128 : decode cX9_undo 128 = .ok (.iconst 5, 1) := by decide +kernel
theorem dX9_undo_129 : decode cX9_undo 129 = .ok (.iload_n 2, 1) := by decide +kernel
theorem dX9_undo_130 : decode cX9_undo 130 = .ok (.imul, 1) := by decide +kernel
theorem dX9_undo_131 : decode cX9_undo 131 = .ok (.iadd, 1) := by decide +kernel
theorem dX9_undo_132 : decode cX9_undo 132 = .ok (.iload_n 3, 1) := by decide +kernel
theorem dX9_undo_133 : decode cX9_undo 133 = .ok (.iadd, 1) := by decide +kernel
theorem dX9_undo_134 : decode cX9_undo 134 = .ok (.aload_n 0, 1) := by decide +kernel
theorem dX9_undo_135 : decode cX9_undo 135 = .ok (.getfield 22, 3) := by decide +kernel
theorem dX9_undo_138 : decode cX9_undo 138 = .ok (.iload_n 1, 1) := by decide +kernel
theorem dX9_undo_139 : decode cX9_undo 139 = .ok (.iconst 2, 1) := by decide +kernel
theorem dX9_undo_140 : decode cX9_undo 140 = .ok (.iadd, 1) := by decide +kernel
theorem dX9_undo_141 : decode cX9_undo 141 = .ok (.iload_n 3, 1) := by decide +kernel
theorem dX9_undo_142 : decode cX9_undo 142 = .ok (.iadd, 1) := by decide +kernel
theorem dX9_undo_143 : decode cX9_undo 143 = .ok (.iaload, 1) := by decide +kernel
theorem dX9_undo_144 : decode cX9_undo 144 = .ok (.iastore, 1) := by decide +kernel
theorem dX9_undo_145 : decode cX9_undo 145 = .ok (.iinc 3 1, 3) := by decide +kernel
theorem dX9_undo_148 : decode cX9_undo 148 = .ok (.goto (-31), 3) := by decide +kernel
theorem dX9_undo_151 : decode cX9_undo 151 = .ok (.aload_n 0, 1) := by decide +kernel
theorem dX9_undo_152 : decode cX9_undo 152 = .ok (.getfield 22, 3) := by decide +kernel
theorem dX9_undo_155 : decode cX9_undo 155 = .ok (.bipush 6, 2) := by decide +kernel
theorem dX9_undo_157 : decode cX9_undo 157 = .ok (.dup2, 1) := by decide +kernel
theorem dX9_undo_158 : decode cX9_undo 158 = .ok (.iaload, 1) := by decide +kernel
theorem dX9_undo_159 : decode cX9_undo 159 = .ok (.iconst 1, 1) := by decide +kernel
theorem dX9_undo_160 : decode cX9_undo 160 = .ok (.iadd, 1) := by decide +kernel
theorem dX9_undo_161 : decode cX9_undo 161 = .ok (.iastore, 1) := by decide +kernel
theorem dX9_undo_162 : decode cX9_undo 162 = .ok (.aload_n 0, 1) := by decide +kernel
theorem dX9_undo_163 : decode cX9_undo 163 = .ok (.getfield 22, 3) := by decide +kernel
theorem dX9_undo_166 : decode cX9_undo 166 = .ok (.bipush 6, 2) := by decide +kernel
theorem dX9_undo_168 : decode cX9_undo 168 = .ok (.iaload, 1) := by decide +kernel
theorem dX9_undo_169 : decode cX9_undo 169 = .ok (.ireturn, 1) := by decide +kernel
theorem dX9_lot_0 : decode cX9_lot 0 = .ok (.aload_n 0, 1) := by decide +kernel
theorem dX9_lot_1 : decode cX9_lot 1 = .ok (.iconst 0, 1) := by decide +kernel
theorem dX9_lot_2 : decode cX9_lot 2 = .ok (.putfield 42, 3) := by decide +kernel
theorem dX9_lot_5 : decode cX9_lot 5 = .ok (.aload_n 0, 1) := by decide +kernel
theorem dX9_lot_6 : decode cX9_lot 6 = .ok (.getfield 22, 3) := by decide +kernel
theorem dX9_lot_9 : decode cX9_lot 9 = .ok (.iconst 1, 1) := by decide +kernel
theorem dX9_lot_10 : decode cX9_lot 10 = .ok (.iaload, 1) := by decide +kernel
theorem dX9_lot_11 : decode cX9_lot 11 = .ok (.istore_n 2, 1) := by decide +kernel
theorem dX9_lot_12 : decode cX9_lot 12 = .ok (.aload_n 0, 1) := by decide +kernel
theorem dX9_lot_13 : decode cX9_lot 13 = .ok (.getfield 22, 3) := by decide +kernel
theorem dX9_lot_16 : decode cX9_lot 16 = .ok (.iconst 1, 1) := by decide +kernel
theorem dX9_lot_17 : decode cX9_lot 17 = .ok (.iload_n 1, 1) := by decide +kernel
theorem dX9_lot_18 : decode cX9_lot 18 = .ok (.iastore, 1) := by decide +kernel
theorem dX9_lot_19 : decode cX9_lot 19 = .ok (.iload_n 2, 1) := by decide +kernel
theorem dX9_lot_20 : decode cX9_lot 20 = .ok (.ireturn, 1) := by decide +kernel
set_option maxRecDepth 20000 in
theorem ggX9_hasLease_X9_in : GoodIn wsX9_hasLease wsX9_in := goodIn_r _ [5] (by decide +kernel) (by decide +kernel)
set_option maxRecDepth 20000 in
theorem gX9_hasLease_X9_in : GoodIn wsX9_hasLease (va_wsS RX9 45 yX9_in wsX9_in) := goodIn_app (goodIn_of _ (by decide +kernel)) ggX9_hasLease_X9_in
theorem dX9_hasLease_0 : decode cX9_hasLease 0 = .ok (.iconst 0, 1) := by decide +kernel
theorem dX9_hasLease_1 : decode cX9_hasLease 1 = .ok (.istore_n 3, 1) := by decide +kernel
theorem dX9_hasLease_2 : decode cX9_hasLease 2 = .ok (.iconst 0, 1) := by decide +kernel
theorem dX9_hasLease_3 : decode cX9_hasLease 3 = .ok (.istore 4, 2) := by decide +kernel
theorem dX9_hasLease_5 : decode cX9_hasLease 5 = .ok (.iload 4, 2) := by decide +kernel
theorem dX9_hasLease_7 : decode cX9_hasLease 7 = .ok (.aload_n 0, 1) := by decide +kernel
theorem dX9_hasLease_8 : decode cX9_hasLease 8 = .ok (.getfield 22, 3) := by decide +kernel
theorem dX9_hasLease_11 : decode cX9_hasLease 11 = .ok (.bipush 6, 2) := by decide +kernel
theorem dX9_hasLease_13 : decode cX9_hasLease 13 = .ok (.iaload, 1) := by decide +kernel
theorem dX9_hasLease_14 : decode cX9_hasLease 14 = .ok (.if_icmp .ge 70, 3) := by decide +kernel
theorem dX9_hasLease_17 : decode cX9_hasLease 17 = .ok (.iload_n 3, 1) := by decide +kernel
theorem dX9_hasLease_18 : decode cX9_hasLease 18 = .ok (.ifCond .ne 54, 3) := by decide +kernel
theorem dX9_hasLease_21 : decode cX9_hasLease 21 = .ok (.aload_n 0, 1) := by decide +kernel
theorem dX9_hasLease_22 : decode cX9_hasLease 22 = .ok (.getfield 22, 3) := by decide +kernel
theorem dX9_hasLease_25 : decode cX9_hasLease 25 = .ok (.bipush 7, 2) := by decide +kernel
theorem dX9_hasLease_27 : decode cX9_hasLease 27 = .ok (.iconst 5, 1) := by decide +kernel
theorem dX9_hasLease_28 : decode cX9_hasLease 28 = .ok (.iload 4, 2) := by decide +kernel
theorem dX9_hasLease_30 : decode cX9_hasLease 30 = .ok (.imul, 1) := by decide +kernel
theorem dX9_hasLease_31 : decode cX9_hasLease 31 = .ok (.iadd, 1) := by decide +kernel
theorem dX9_hasLease_32 : decode cX9_hasLease 32 = .ok (.iaload, 1) := by decide +kernel
theorem dX9_hasLease_33 : decode cX9_hasLease 33 = .ok (.iload_n 1, 1) := by decide +kernel
theorem dX9_hasLease_34 : decode cX9_hasLease 34 = .ok (.if_icmp .ne 42, 3) := by decide +kernel
theorem dX9_hasLease_37 : decode cX9_hasLease 37 = .ok (.iload_n 2, 1) := by decide +kernel
theorem dX9_hasLease_38 : decode cX9_hasLease 38 = .ok (.aload_n 0, 1) := by decide +kernel
theorem dX9_hasLease_39 : decode cX9_hasLease 39 = .ok (.getfield 22, 3) := by decide +kernel
theorem dX9_hasLease_42 : decode cX9_hasLease 42 = .ok (.bipush 7, 2) := by decide +kernel
theorem dX9_hasLease_44 : decode cX9_hasLease 44 = .ok (.iconst 5, 1) := by decide +kernel
theorem dX9_hasLease_45 : decode cX9_hasLease 45 = .ok (.iload 4, 2) := by decide +kernel
theorem dX9_hasLease_47 : decode cX9_hasLease 47 = .ok (.imul, 1) := by decide +kernel
theorem dX9_hasLease_48 : decode cX9_hasLease 48 = .ok (.iadd, 1) := by decide +kernel
theorem dX9_hasLease_49 : decode cX9_hasLease 49 = .ok (.iconst 3, 1) := by decide +kernel
theorem dX9_hasLease_50 : decode cX9_hasLease 50 = .ok (.iadd, 1) := by decide +kernel
theorem dX9_hasLease_51 : decode cX9_hasLease 51 = .ok (.iaload, 1) := by decide +kernel
theorem dX9_hasLease_52 : decode cX9_hasLease 52 = .ok (.aload_n 0, 1) := by decide +kernel
theorem dX9_hasLease_53 : decode cX9_hasLease 53 = .ok (.getfield 22, 3) := by decide +kernel
theorem dX9_hasLease_56 : decode cX9_hasLease 56 = .ok (.bipush 7, 2) := by decide +kernel
theorem dX9_hasLease_58 : decode cX9_hasLease 58 = .ok (.iconst 5, 1) := by decide +kernel
theorem dX9_hasLease_59 : decode cX9_hasLease 59 = .ok (.iload 4, 2) := by decide +kernel
theorem dX9_hasLease_61 : decode cX9_hasLease 61 = .ok (.imul, 1) := by decide +kernel
theorem dX9_hasLease_62 : decode cX9_hasLease 62 = .ok (.iadd, 1) := by decide +kernel
theorem dX9_hasLease_63 : decode cX9_hasLease 63 = .ok (.iconst 4, 1) := by decide +kernel
theorem dX9_hasLease_64 : decode cX9_hasLease 64 = .ok (.iadd, 1) := by decide +kernel
theorem dX9_hasLease_65 : decode cX9_hasLease 65 = .ok (.iaload, 1) := by decide +kernel
theorem dX9_hasLease_66 : decode cX9_hasLease 66 = .ok (.invokestatic 45, 3) := by decide +kernel
theorem dX9_hasLease_69 : decode cX9_hasLease 69 = .ok (.ifCond .eq 7, 3) := by decide +kernel
theorem dX9_hasLease_72 : decode cX9_hasLease 72 = .ok (.iconst 1, 1) := by decide +kernel
theorem dX9_hasLease_73 : decode cX9_hasLease 73 = .ok (.goto 4, 3) := by decide +kernel
theorem dX9_hasLease_76 : decode cX9_hasLease 76 = .ok (.iconst 0, 1) := by decide +kernel
theorem dX9_hasLease_77 : decode cX9_hasLease 77 = .ok (.istore_n 3, 1) := by decide +kernel
theorem dX9_hasLease_78 : decode cX9_hasLease 78 = .ok (.iinc 4 1, 3) := by decide +kernel
theorem dX9_hasLease_81 : decode cX9_hasLease 81 = .ok (.goto (-76), 3) := by decide +kernel
theorem dX9_hasLease_84 : decode cX9_hasLease 84 = .ok (.iload_n 3, 1) := by decide +kernel
theorem dX9_hasLease_85 : decode cX9_hasLease 85 = .ok (.ireturn, 1) := by decide +kernel
set_option maxRecDepth 20000 in
theorem ggX9_dark_X9_isTenant : GoodIn wsX9_dark wsX9_isTenant := goodIn_r _ [7, 8, 9, 10, 6, 11, 38, 39, 40, 41, 42, 43, 44, 45, 46, 47, 48, 49, 50, 51, 52, 53, 54, 55, 56, 57, 58, 59, 60, 61, 62, 63] (by decide +kernel) (by decide +kernel)
set_option maxRecDepth 20000 in
theorem gX9_dark_X9_isTenant : GoodIn wsX9_dark (wsV RX9 158 RX9 yX9_isTenant wsX9_isTenant) := goodIn_app (goodIn_of _ (by decide +kernel)) ggX9_dark_X9_isTenant
set_option maxRecDepth 20000 in
theorem ggX9_dark_X9_isNight : GoodIn wsX9_dark wsX9_isNight := goodIn_r _ [14, 9, 10, 6, 11] (by decide +kernel) (by decide +kernel)
set_option maxRecDepth 20000 in
theorem gX9_dark_X9_isNight : GoodIn wsX9_dark (va_wsS RX9 146 yX9_isNight wsX9_isNight) := goodIn_app (goodIn_of _ (by decide +kernel)) ggX9_dark_X9_isNight
set_option maxRecDepth 20000 in
theorem ggX9_dark_X9_in : GoodIn wsX9_dark wsX9_in := goodIn_r _ [11] (by decide +kernel) (by decide +kernel)
set_option maxRecDepth 20000 in
theorem gX9_dark_X9_in : GoodIn wsX9_dark (va_wsS RX9 45 yX9_in wsX9_in) := goodIn_app (goodIn_of _ (by decide +kernel)) ggX9_dark_X9_in
set_option maxRecDepth 20000 in
theorem ggX9_dark_X9_hasLease : GoodIn wsX9_dark wsX9_hasLease := goodIn_r _ [18, 19, 9, 10, 6, 11, 38, 39, 40, 41, 42, 43, 44, 45, 46, 47, 48, 49, 50, 51, 52, 53, 54, 55, 56, 57, 58, 59, 60, 61, 62, 63] (by decide +kernel) (by decide +kernel)
set_option maxRecDepth 20000 in
theorem gX9_dark_X9_hasLease : GoodIn wsX9_dark (wsV RX9 172 RX9 yX9_hasLease wsX9_hasLease) := goodIn_app (goodIn_of _ (by decide +kernel)) ggX9_dark_X9_hasLease
set_option maxRecDepth 20000 in
theorem ggX9_dark_X9_squareOf : GoodIn wsX9_dark wsX9_squareOf := goodIn_r _ [23, 24, 25, 38, 39, 40, 41, 42, 43, 44, 45, 46, 47, 48, 49, 50, 51, 52, 53, 54, 55, 56, 57, 58, 59, 60, 61, 62, 63] (by decide +kernel) (by decide +kernel)
set_option maxRecDepth 20000 in
theorem gX9_dark_X9_squareOf : GoodIn wsX9_dark (wsV RX9 134 RX9 yX9_squareOf wsX9_squareOf) := goodIn_app (goodIn_of _ (by decide +kernel)) ggX9_dark_X9_squareOf
set_option maxRecDepth 20000 in
theorem ggX9_dark_X9_whoseIs : GoodIn wsX9_dark wsX9_whoseIs := goodIn_r _ [29, 19, 30, 31, 32, 6, 33, 34, 35, 36, 37, 25, 9, 10, 11, 38, 39, 40, 41, 42, 43, 44, 45, 46, 47, 48, 49, 50, 51, 52, 53, 54, 55, 56, 57, 58, 59, 60, 61, 62, 63] (by decide +kernel) (by decide +kernel)
set_option maxRecDepth 20000 in
theorem gX9_dark_X9_whoseIs : GoodIn wsX9_dark (wsV RX9 149 RX9 yX9_whoseIs wsX9_whoseIs) := goodIn_app (goodIn_of _ (by decide +kernel)) ggX9_dark_X9_whoseIs
theorem dX9_dark_0 : decode cX9_dark 0 = .ok (.aload_n 0, 1) := by decide +kernel
theorem dX9_dark_1 : decode cX9_dark 1 = .ok (.iconst 0, 1) := by decide +kernel
theorem dX9_dark_2 : decode cX9_dark 2 = .ok (.putfield 42, 3) := by decide +kernel
theorem dX9_dark_5 : decode cX9_dark 5 = .ok (.aload_n 0, 1) := by decide +kernel
theorem dX9_dark_6 : decode cX9_dark 6 = .ok (.iload_n 1, 1) := by decide +kernel
theorem dX9_dark_7 : decode cX9_dark 7 = .ok (.invokevirtual 158, 3) := by decide +kernel
theorem dX9_dark_10 : decode cX9_dark 10 = .ok (.ifCond .eq 20, 3) := by decide +kernel
theorem dX9_dark_13 : decode cX9_dark 13 = .ok (.iload_n 2, 1) := by decide +kernel
theorem dX9_dark_14 : decode cX9_dark 14 = .ok (.invokestatic 146, 3) := by decide +kernel
theorem dX9_dark_17 : decode cX9_dark 17 = .ok (.ifCond .eq 13, 3) := by decide +kernel
theorem dX9_dark_20 : decode cX9_dark 20 = .ok (.iload_n 3, 1) := by decide +kernel
theorem dX9_dark_21 : decode cX9_dark 21 = .ok (.iload_n 2, 1) := by decide +kernel
theorem dX9_dark_22 : decode cX9_dark 22 = .ok (.bipush 99, 2) := by decide +kernel
theorem dX9_dark_24 : decode cX9_dark 24 = .ok (.invokestatic 45, 3) := by decide +kernel
theorem dX9_dark_27 : decode cX9_dark 27 = .ok (.ifCond .ne 5, 3) := by decide +kernel
theorem dX9_dark_30 : decode cX9_dark 30 = .ok (.iconst (-1), 1) := by decide +kernel
theorem dX9_dark_31 : decode cX9_dark 31 = .ok (.ireturn, 1) := by decide +kernel
theorem dX9_dark_32 : decode cX9_dark 32 = .ok (.iconst 0, 1) := by decide +kernel
theorem dX9_dark_33 : decode cX9_dark 33 = .ok (.istore 4, 2) := by decide +kernel
theorem dX9_dark_35 : decode cX9_dark 35 = .ok (.iload_n 2, 1) := by decide +kernel
theorem dX9_dark_36 : decode cX9_dark 36 = .ok (.istore 5, 2) := by decide +kernel
theorem dX9_dark_38 : decode cX9_dark 38 = .ok (.iload 5, 2) := by decide +kernel
theorem dX9_dark_40 : decode cX9_dark 40 = .ok (.iload_n 3, 1) := by decide +kernel
theorem dX9_dark_41 : decode cX9_dark 41 = .ok (.if_icmp .gt 81, 3) := by decide +kernel
theorem dX9_dark_44 : decode cX9_dark 44 = .ok (.aload_n 0, 1) := by decide +kernel
theorem dX9_dark_45 : decode cX9_dark 45 = .ok (.iload_n 1, 1) := by decide +kernel
theorem dX9_dark_46 : decode cX9_dark 46 = .ok (.iload 5, 2) := by decide +kernel
theorem dX9_dark_48 : decode cX9_dark 48 = .ok (.invokevirtual 172, 3) := by decide +kernel
theorem dX9_dark_51 : decode cX9_dark 51 = .ok (.istore 6, 2) := by decide +kernel
theorem dX9_dark_53 : decode cX9_dark 53 = .ok (.iconst 0, 1) := by decide +kernel
theorem dX9_dark_54 : decode cX9_dark 54 = .ok (.istore 7, 2) := by decide +kernel
theorem dX9_dark_56 : decode cX9_dark 56 = .ok (.iload 7, 2) := by decide +kernel
theorem dX9_dark_58 : decode cX9_dark 58 = .ok (.aload_n 0, 1) := by decide +kernel
theorem dX9_dark_59 : decode cX9_dark 59 = .ok (.getfield 118, 3) := by decide +kernel
theorem dX9_dark_62 : decode cX9_dark 62 = .ok (.if_icmp .ge 39, 3) := by decide +kernel
theorem dX9_dark_65 : decode cX9_dark 65 = .ok (.iload 6, 2) := by decide +kernel
theorem dX9_dark_67 : decode cX9_dark 67 = .ok (.ifCond .eq 25, 3) := by decide +kernel
theorem dX9_dark_70 : decode cX9_dark 70 = .ok (.aload_n 0, 1) := by decide +kernel
theorem dX9_dark_71 : decode cX9_dark 71 = .ok (.aload_n 0, 1) := by decide +kernel
theorem dX9_dark_72 : decode cX9_dark 72 = .ok (.iload 7, 2) := by decide +kernel
theorem dX9_dark_74 : decode cX9_dark 74 = .ok (.iload 5, 2) := by decide +kernel
theorem dX9_dark_76 : decode cX9_dark 76 = .ok (.invokevirtual 134, 3) := by decide +kernel
theorem dX9_dark_79 : decode cX9_dark 79 = .ok (.iload 5, 2) := by decide +kernel
theorem dX9_dark_81 : decode cX9_dark 81 = .ok (.invokevirtual 149, 3) := by decide +kernel
theorem dX9_dark_84 : decode cX9_dark 84 = .ok (.iload_n 1, 1) := by decide +kernel
theorem dX9_dark_85 : decode cX9_dark 85 = .ok (.if_icmp .eq 7, 3) := by decide +kernel
theorem dX9_dark_88 : decode cX9_dark 88 = .ok (.iconst 1, 1) := by decide +kernel
theorem dX9_dark_89 : decode cX9_dark 89 = .ok (.goto 4, 3) := by decide +kernel
theorem dX9_dark_92 : decode cX9_dark 92 = .ok (.iconst 0, 1) := by decide +kernel
theorem dX9_dark_93 : decode cX9_dark 93 = .ok (.istore 6, 2) := by decide +kernel
theorem dX9_dark_95 : decode cX9_dark 95 = .ok (.iinc 7 1, 3) := by decide +kernel
theorem dX9_dark_98 : decode cX9_dark 98 = .ok (.goto (-42), 3) := by decide +kernel
theorem dX9_dark_101 : decode cX9_dark 101 = .ok (.iload 4, 2) := by decide +kernel
theorem dX9_dark_103 : decode cX9_dark 103 = .ok (.iload 6, 2) := by decide +kernel
theorem dX9_dark_105 : decode cX9_dark 105 = .ok (.ifCond .eq 7, 3) := by decide +kernel
theorem dX9_dark_108 : decode cX9_dark 108 = .ok (.iconst 1, 1) := by decide +kernel
theorem dX9_dark_109 : decode cX9_dark 109 = .ok (.goto 4, 3) := by decide +kernel
theorem dX9_dark_112 : decode cX9_dark 112 = .ok (.iconst 0, 1) := by decide +kernel
theorem dX9_dark_113 : decode cX9_dark 113 = .ok (.iadd, 1) := by decide +kernel
theorem dX9_dark_114 : decode cX9_dark 114 = .ok (.istore 4, 2) := by decide +kernel
theorem dX9_dark_116 : decode cX9_dark 116 = .ok (.iinc 5 1, 3) := by decide +kernel
theorem dX9_dark_119 : decode cX9_dark 119 = .ok (.goto (-81), 3) := by decide +kernel
theorem dX9_dark_122 : decode cX9_dark 122 = .ok (.iload 4, 2) := by decide +kernel
theorem dX9_dark_124 : decode cX9_dark 124 = .ok (.ireturn, 1) := by decide +kernel
set_option maxRecDepth 20000 in
theorem ggX9_meets_X9_isTenant : GoodIn wsX9_meets wsX9_isTenant := goodIn_r _ [6, 7, 8, 9, 5, 10, 38, 39, 40, 41, 42, 43, 44, 45, 46, 47, 48, 49, 50, 51, 52, 53, 54, 55, 56, 57, 58, 59, 60, 61, 62, 63] (by decide +kernel) (by decide +kernel)
set_option maxRecDepth 20000 in
theorem gX9_meets_X9_isTenant : GoodIn wsX9_meets (wsV RX9 158 RX9 yX9_isTenant wsX9_isTenant) := goodIn_app (goodIn_of _ (by decide +kernel)) ggX9_meets_X9_isTenant
set_option maxRecDepth 20000 in
theorem ggX9_meets_X9_isStar : GoodIn wsX9_meets wsX9_isStar := goodIn_r _ [14, 15, 8, 9, 5, 10, 38, 39, 40, 41, 42, 43, 44, 45, 46, 47, 48, 49, 50, 51, 52, 53, 54, 55, 56, 57, 58, 59, 60, 61, 62, 63] (by decide +kernel) (by decide +kernel)
set_option maxRecDepth 20000 in
theorem gX9_meets_X9_isStar : GoodIn wsX9_meets (wsV RX9 130 RX9 yX9_isStar wsX9_isStar) := goodIn_app (goodIn_of _ (by decide +kernel)) ggX9_meets_X9_isStar
set_option maxRecDepth 20000 in
theorem ggX9_meets_X9_isNight : GoodIn wsX9_meets wsX9_isNight := goodIn_r _ [18, 8, 9, 5, 10] (by decide +kernel) (by decide +kernel)
set_option maxRecDepth 20000 in
theorem gX9_meets_X9_isNight : GoodIn wsX9_meets (va_wsS RX9 146 yX9_isNight wsX9_isNight) := goodIn_app (goodIn_of _ (by decide +kernel)) ggX9_meets_X9_isNight
set_option maxRecDepth 20000 in
theorem ggX9_meets_X9_squareOf : GoodIn wsX9_meets wsX9_squareOf := goodIn_r _ [22, 23, 24, 38, 39, 40, 41, 42, 43, 44, 45, 46, 47, 48, 49, 50, 51, 52, 53, 54, 55, 56, 57, 58, 59, 60, 61, 62, 63] (by decide +kernel) (by decide +kernel)
set_option maxRecDepth 20000 in
theorem gX9_meets_X9_squareOf : GoodIn wsX9_meets (wsV RX9 134 RX9 yX9_squareOf wsX9_squareOf) := goodIn_app (goodIn_of _ (by decide +kernel)) ggX9_meets_X9_squareOf
set_option maxRecDepth 20000 in
theorem ggX9_meets_X9_whoseIs : GoodIn wsX9_meets wsX9_whoseIs := goodIn_r _ [28, 29, 30, 31, 32, 5, 33, 34, 35, 36, 37, 24, 8, 9, 10, 38, 39, 40, 41, 42, 43, 44, 45, 46, 47, 48, 49, 50, 51, 52, 53, 54, 55, 56, 57, 58, 59, 60, 61, 62, 63] (by decide +kernel) (by decide +kernel)
set_option maxRecDepth 20000 in
theorem gX9_meets_X9_whoseIs : GoodIn wsX9_meets (wsV RX9 149 RX9 yX9_whoseIs wsX9_whoseIs) := goodIn_app (goodIn_of _ (by decide +kernel)) ggX9_meets_X9_whoseIs
theorem dX9_meets_0 : decode cX9_meets 0 = .ok (.aload_n 0, 1) := by decide +kernel
theorem dX9_meets_1 : decode cX9_meets 1 = .ok (.iconst 0, 1) := by decide +kernel
theorem dX9_meets_2 : decode cX9_meets 2 = .ok (.putfield 42, 3) := by decide +kernel
theorem dX9_meets_5 : decode cX9_meets 5 = .ok (.aload_n 0, 1) := by decide +kernel
theorem dX9_meets_6 : decode cX9_meets 6 = .ok (.iload_n 1, 1) := by decide +kernel
theorem dX9_meets_7 : decode cX9_meets 7 = .ok (.invokevirtual 158, 3) := by decide +kernel
theorem dX9_meets_10 : decode cX9_meets 10 = .ok (.ifCond .eq 18, 3) := by decide +kernel
theorem dX9_meets_13 : decode cX9_meets 13 = .ok (.aload_n 0, 1) := by decide +kernel
theorem dX9_meets_14 : decode cX9_meets 14 = .ok (.iload_n 2, 1) := by decide +kernel
theorem dX9_meets_15 : decode cX9_meets 15 = .ok (.invokevirtual 130, 3) := by decide +kernel
theorem dX9_meets_18 : decode cX9_meets 18 = .ok (.ifCond .eq 10, 3) := by decide +kernel
theorem dX9_meets_21 : decode cX9_meets 21 = .ok (.iload_n 3, 1) := by decide +kernel
theorem dX9_meets_22 : decode cX9_meets 22 = .ok (.invokestatic 146, 3) := by decide +kernel
theorem dX9_meets_25 : decode cX9_meets 25 = .ok (.ifCond .ne 5, 3) := by decide +kernel
theorem dX9_meets_28 : decode cX9_meets 28 = .ok (.iconst (-1), 1) := by decide +kernel
theorem dX9_meets_29 : decode cX9_meets 29 = .ok (.ireturn, 1) := by decide +kernel
theorem dX9_meets_30 : decode cX9_meets 30 = .ok (.iload_n 3, 1) := by decide +kernel
theorem dX9_meets_31 : decode cX9_meets 31 = .ok (.istore 4, 2) := by decide +kernel
theorem dX9_meets_33 : decode cX9_meets 33 = .ok (.iload 4, 2) := by decide +kernel
theorem dX9_meets_35 : decode cX9_meets 35 = .ok (.bipush 100, 2) := by decide +kernel
theorem dX9_meets_37 : decode cX9_meets 37 = .ok (.if_icmp .ge 29, 3) := by decide +kernel
theorem dX9_meets_40 : decode cX9_meets 40 = .ok (.aload_n 0, 1) := by decide +kernel
theorem dX9_meets_41 : decode cX9_meets 41 = .ok (.aload_n 0, 1) := by decide +kernel
theorem dX9_meets_42 : decode cX9_meets 42 = .ok (.iload_n 2, 1) := by decide +kernel
theorem dX9_meets_43 : decode cX9_meets 43 = .ok (.iload 4, 2) := by decide +kernel
theorem dX9_meets_45 : decode cX9_meets 45 = .ok (.invokevirtual 134, 3) := by decide +kernel
theorem dX9_meets_48 : decode cX9_meets 48 = .ok (.iload 4, 2) := by decide +kernel
theorem dX9_meets_50 : decode cX9_meets 50 = .ok (.invokevirtual 149, 3) := by decide +kernel
theorem dX9_meets_53 : decode cX9_meets 53 = .ok (.iload_n 1, 1) := by decide +kernel
theorem dX9_meets_54 : decode cX9_meets 54 = .ok (.if_icmp .ne 6, 3) := by decide +kernel
theorem dX9_meets_57 : decode cX9_meets 57 = .ok (.iload 4, 2) := by decide +kernel
theorem dX9_meets_59 : decode cX9_meets 59 = .ok (.ireturn, 1) := by decide +kernel
theorem dX9_meets_60 : decode cX9_meets 60 = .ok (.iinc 4 1, 3) := by decide +kernel
theorem dX9_meets_63 : decode cX9_meets 63 = .ok (.goto (-30), 3) := by decide +kernel
theorem dX9_meets_66 : decode cX9_meets 66 = .ok (.bipush (-9), 2) := by decide +kernel
theorem dX9_meets_68 : decode cX9_meets 68 = .ok (.ireturn, 1) := by decide +kernel
set_option maxRecDepth 20000 in
theorem ggX9_offer_X9_isLease : GoodIn wsX9_offer wsX9_isLease := goodIn_r _ [8, 9, 10, 11, 12, 7, 13, 14, 15, 16, 17, 18, 19, 20, 21, 22, 23, 24, 25, 26, 27, 28, 29, 30, 31, 32, 33, 34, 35, 36, 37, 38, 39, 40, 41, 42, 43, 44, 45, 46, 47, 48, 49, 50] (by decide +kernel) (by decide +kernel)
set_option maxRecDepth 20000 in
theorem gX9_offer_X9_isLease : GoodIn wsX9_offer (wsV RX9 161 RX9 yX9_isLease wsX9_isLease) := goodIn_app (goodIn_of _ (by decide +kernel)) ggX9_offer_X9_isLease
set_option maxRecDepth 20000 in
theorem ggX9_offer_X9_in : GoodIn wsX9_offer wsX9_in := goodIn_r _ [17] (by decide +kernel) (by decide +kernel)
set_option maxRecDepth 20000 in
theorem gX9_offer_X9_in : GoodIn wsX9_offer (va_wsS RX9 45 yX9_in wsX9_in) := goodIn_app (goodIn_of _ (by decide +kernel)) ggX9_offer_X9_in
theorem dX9_offer_0 : decode cX9_offer 0 = .ok (.aload_n 0, 1) := by decide +kernel
theorem dX9_offer_1 : decode cX9_offer 1 = .ok (.iconst 0, 1) := by decide +kernel
theorem dX9_offer_2 : decode cX9_offer 2 = .ok (.putfield 42, 3) := by decide +kernel
theorem dX9_offer_5 : decode cX9_offer 5 = .ok (.aload_n 0, 1) := by decide +kernel
theorem dX9_offer_6 : decode cX9_offer 6 = .ok (.iload_n 1, 1) := by decide +kernel
theorem dX9_offer_7 : decode cX9_offer 7 = .ok (.iload_n 2, 1) := by decide +kernel
theorem dX9_offer_8 : decode cX9_offer 8 = .ok (.iload_n 3, 1) := by decide +kernel
theorem dX9_offer_9 : decode cX9_offer 9 = .ok (.iload 4, 2) := by decide +kernel
theorem dX9_offer_11 : decode cX9_offer 11 = .ok (.iload 5, 2) := by decide +kernel
theorem dX9_offer_13 : decode cX9_offer 13 = .ok (.invokevirtual 161, 3) := by decide +kernel
theorem dX9_offer_16 : decode cX9_offer 16 = .ok (.ifCond .eq 14, 3) := by decide +kernel
theorem dX9_offer_19 : decode cX9_offer 19 = .ok (.iload 6, 2) := by decide +kernel
theorem dX9_offer_21 : decode cX9_offer 21 = .ok (.iconst 1, 1) := by decide +kernel
theorem dX9_offer_22 : decode cX9_offer 22 = .ok (.bipush 99, 2) := by decide +kernel
theorem dX9_offer_24 : decode cX9_offer 24 = .ok (.invokestatic 45, 3) := by decide +kernel
theorem dX9_offer_27 : decode cX9_offer 27 = .ok (.ifCond .ne 5, 3) := by decide +kernel
theorem dX9_offer_30 : decode cX9_offer 30 = .ok (.iconst (-1), 1) := by decide +kernel
theorem dX9_offer_31 : decode cX9_offer 31 = .ok (.ireturn, 1) := by decide +kernel
theorem dX9_offer_32 : decode cX9_offer 32 = .ok (.aload_n 0, 1) := by decide +kernel
theorem dX9_offer_33 : decode cX9_offer 33 = .ok (.getfield 124, 3) := by decide +kernel
theorem dX9_offer_36 : decode cX9_offer 36 = .ok (.bipush 8, 2) := by decide +kernel
theorem dX9_offer_38 : decode cX9_offer 38 = .ok (.if_icmp .ne 6, 3) := by decide +kernel
theorem dX9_offer_41 : decode cX9_offer 41 = .ok (.bipush (-3), 2) := by decide +kernel
theorem dX9_offer_43 : decode cX9_offer 43 = .ok (.ireturn, 1) := by decide +kernel
theorem dX9_offer_44 : decode cX9_offer 44 = .ok (.bipush 6, 2) := by decide +kernel
theorem dX9_offer_46 : decode cX9_offer 46 = .ok (.aload_n 0, 1) := by decide +kernel
theorem dX9_offer_47 : decode cX9_offer 47 = .ok (.getfield 124, 3) := by decide +kernel
theorem dX9_offer_50 : decode cX9_offer 50 = .ok (.imul, 1) := by decide +kernel
theorem dX9_offer_51 : decode cX9_offer 51 = .ok (.istore 7, 2) := by decide +kernel
theorem dX9_offer_53 : decode cX9_offer 53 = .ok (.aload_n 0, 1) := by decide +kernel
theorem dX9_offer_54 : decode cX9_offer 54 = .ok (.getfield 32, 3) := by decide +kernel
theorem dX9_offer_57 : decode cX9_offer 57 = .ok (.iload 7, 2) := by decide +kernel
theorem dX9_offer_59 : decode cX9_offer 59 = .ok (.iload_n 1, 1) := by decide +kernel
theorem dX9_offer_60 : decode cX9_offer 60 = .ok (.iastore, 1) := by decide +kernel
theorem dX9_offer_61 : decode cX9_offer 61 = .ok (.aload_n 0, 1) := by decide +kernel
theorem dX9_offer_62 : decode cX9_offer 62 = .ok (.getfield 32, 3) := by decide +kernel
theorem dX9_offer_65 : decode cX9_offer 65 = .ok (.iload 7, 2) := by decide +kernel
theorem dX9_offer_67 : decode cX9_offer 67 = .ok (.iconst 1, 1) := by decide +kernel
theorem dX9_offer_68 : decode cX9_offer 68 = .ok (.iadd, 1) := by decide +kernel
theorem dX9_offer_69 : decode cX9_offer 69 = .ok (.iload_n 2, 1) := by decide +kernel
theorem dX9_offer_70 : decode cX9_offer 70 = .ok (.iastore, 1) := by decide +kernel
theorem dX9_offer_71 : decode cX9_offer 71 = .ok (.aload_n 0, 1) := by decide +kernel
theorem dX9_offer_72 : decode cX9_offer 72 = .ok (.getfield 32, 3) := by decide +kernel
theorem dX9_offer_75 : decode cX9_offer 75 = .ok (.iload 7, 2) := by decide +kernel
theorem dX9_offer_77 : decode cX9_offer 77 = .ok (.iconst 2, 1) := by decide +kernel
theorem dX9_offer_78 : decode cX9_offer 78 = .ok (.iadd, 1) := by decide +kernel
theorem dX9_offer_79 : decode cX9_offer 79 = .ok (.iload_n 3, 1) := by decide +kernel
theorem dX9_offer_80 : decode cX9_offer 80 = .ok (.iastore, 1) := by decide +kernel
theorem dX9_offer_81 : decode cX9_offer 81 = .ok (.aload_n 0, 1) := by decide +kernel
theorem dX9_offer_82 : decode cX9_offer 82 = .ok (.getfield 32, 3) := by decide +kernel
theorem dX9_offer_85 : decode cX9_offer 85 = .ok (.iload 7, 2) := by decide +kernel
theorem dX9_offer_87 : decode cX9_offer 87 = .ok (.iconst 3, 1) := by decide +kernel
theorem dX9_offer_88 : decode cX9_offer 88 = .ok (.iadd, 1) := by decide +kernel
theorem dX9_offer_89 : decode cX9_offer 89 = .ok (.iload 4, 2) := by decide +kernel
theorem dX9_offer_91 : decode cX9_offer 91 = .ok (.iastore, 1) := by decide +kernel
theorem dX9_offer_92 : decode cX9_offer 92 = .ok (.aload_n 0, 1) := by decide +kernel
theorem dX9_offer_93 : decode cX9_offer 93 = .ok (.getfield 32, 3) := by decide +kernel
theorem dX9_offer_96 : decode cX9_offer 96 = .ok (.iload 7, 2) := by decide +kernel
theorem dX9_offer_98 : decode cX9_offer 98 = .ok (.iconst 4, 1) := by decide +kernel
theorem dX9_offer_99 : decode cX9_offer 99 = .ok (.iadd, 1) := by decide +kernel
theorem dX9_offer_100 : decode cX9_offer 100 = .ok (.iload 5, 2) := by decide +kernel
theorem dX9_offer_102 : decode cX9_offer 102 = .ok (.iastore, 1) := by decide +kernel
theorem dX9_offer_103 : decode cX9_offer 103 = .ok (.aload_n 0, 1) := by decide +kernel
theorem dX9_offer_104 : decode cX9_offer 104 = .ok (.getfield 32, 3) := by decide +kernel
theorem dX9_offer_107 : decode cX9_offer 107 = .ok (.iload 7, 2) := by decide +kernel
theorem dX9_offer_109 : decode cX9_offer 109 = .ok (.iconst 5, 1) := by decide +kernel
theorem dX9_offer_110 : decode cX9_offer 110 = .ok (.iadd, 1) := by decide +kernel
theorem dX9_offer_111 : decode cX9_offer 111 = .ok (.iload 6, 2) := by decide +kernel
theorem dX9_offer_113 : decode cX9_offer 113 = .ok (.iastore, 1) := by decide +kernel
theorem dX9_offer_114 : decode cX9_offer 114 = .ok (.aload_n 0, 1) := by decide +kernel
theorem dX9_offer_115 : decode cX9_offer 115 = .ok (.dup, 1) := by decide +kernel
theorem dX9_offer_116 : decode cX9_offer 116 = .ok (.getfield 124, 3) := by decide +kernel
theorem dX9_offer_119 : decode cX9_offer 119 = .ok (.iconst 1, 1) := by decide +kernel
theorem dX9_offer_120 : decode cX9_offer 120 = .ok (.iadd, 1) := by decide +kernel
theorem dX9_offer_121 : decode cX9_offer 121 = .ok (.putfield 124, 3) := by decide +kernel
theorem dX9_offer_124 : decode cX9_offer 124 = .ok (.aload_n 0, 1) := by decide +kernel
theorem dX9_offer_125 : decode cX9_offer 125 = .ok (.getfield 124, 3) := by decide +kernel
theorem dX9_offer_128 : decode cX9_offer 128 = .ok (.iconst 1, 1) := by decide +kernel
theorem dX9_offer_129 : decode cX9_offer 129 = .ok (.isub, 1) := by decide +kernel
theorem dX9_offer_130 : decode cX9_offer 130 = .ok (.ireturn, 1) := by decide +kernel
theorem dX9_refuse_0 : decode cX9_refuse 0 = .ok (.aload_n 0, 1) := by decide +kernel
theorem dX9_refuse_1 : decode cX9_refuse 1 = .ok (.iconst 0, 1) := by decide +kernel
theorem dX9_refuse_2 : decode cX9_refuse 2 = .ok (.putfield 42, 3) := by decide +kernel
theorem dX9_refuse_5 : decode cX9_refuse 5 = .ok (.aload_n 0, 1) := by decide +kernel
theorem dX9_refuse_6 : decode cX9_refuse 6 = .ok (.getfield 124, 3) := by decide +kernel
theorem dX9_refuse_9 : decode cX9_refuse 9 = .ok (.istore_n 1, 1) := by decide +kernel
theorem dX9_refuse_10 : decode cX9_refuse 10 = .ok (.aload_n 0, 1) := by decide +kernel
theorem dX9_refuse_11 : decode cX9_refuse 11 = .ok (.iconst 0, 1) := by decide +kernel
theorem dX9_refuse_12 : decode cX9_refuse 12 = .ok (.putfield 124, 3) := by decide +kernel
theorem dX9_refuse_15 : decode cX9_refuse 15 = .ok (.iload_n 1, 1) := by decide +kernel
theorem dX9_refuse_16 : decode cX9_refuse 16 = .ok (.ireturn, 1) := by decide +kernel
set_option maxRecDepth 20000 in
theorem ggX9_offered_X9_hasSquare : GoodIn wsX9_offered wsX9_hasSquare := goodIn_r _ [6, 7, 8, 9, 10, 11, 12, 13, 14, 15, 16, 17, 18, 19, 20, 21, 22, 23, 24, 25, 26, 27, 28, 29, 30, 31, 32, 33] (by decide +kernel) (by decide +kernel)
set_option maxRecDepth 20000 in
theorem gX9_offered_X9_hasSquare : GoodIn wsX9_offered (wsV RX9 137 RX9 yX9_hasSquare wsX9_hasSquare) := goodIn_app (goodIn_of _ (by decide +kernel)) ggX9_offered_X9_hasSquare
theorem dX9_offered_0 : decode cX9_offered 0 = .ok (.aload_n 0, 1) := by decide +kernel
theorem dX9_offered_1 : decode cX9_offered 1 = .ok (.aload_n 0, 1) := by decide +kernel
theorem dX9_offered_2 : decode cX9_offered 2 = .ok (.getfield 32, 3) := by decide +kernel
theorem dX9_offered_5 : decode cX9_offered 5 = .ok (.bipush 6, 2) := by decide +kernel
theorem dX9_offered_7 : decode cX9_offered 7 = .ok (.iload_n 1, 1) := by decide +kernel
theorem dX9_offered_8 : decode cX9_offered 8 = .ok (.imul, 1) := by decide +kernel
theorem dX9_offered_9 : decode cX9_offered 9 = .ok (.iconst 1, 1) := by decide +kernel
theorem dX9_offered_10 : decode cX9_offered 10 = .ok (.iadd, 1) := by decide +kernel
theorem dX9_offered_11 : decode cX9_offered 11 = .ok (.iaload, 1) := by decide +kernel
theorem dX9_offered_12 : decode cX9_offered 12 = .ok (.aload_n 0, 1) := by decide +kernel
theorem dX9_offered_13 : decode cX9_offered 13 = .ok (.getfield 32, 3) := by decide +kernel
theorem dX9_offered_16 : decode cX9_offered 16 = .ok (.bipush 6, 2) := by decide +kernel
theorem dX9_offered_18 : decode cX9_offered 18 = .ok (.iload_n 1, 1) := by decide +kernel
theorem dX9_offered_19 : decode cX9_offered 19 = .ok (.imul, 1) := by decide +kernel
theorem dX9_offered_20 : decode cX9_offered 20 = .ok (.iconst 2, 1) := by decide +kernel
theorem dX9_offered_21 : decode cX9_offered 21 = .ok (.iadd, 1) := by decide +kernel
theorem dX9_offered_22 : decode cX9_offered 22 = .ok (.iaload, 1) := by decide +kernel
theorem dX9_offered_23 : decode cX9_offered 23 = .ok (.iload_n 2, 1) := by decide +kernel
theorem dX9_offered_24 : decode cX9_offered 24 = .ok (.invokevirtual 137, 3) := by decide +kernel
theorem dX9_offered_27 : decode cX9_offered 27 = .ok (.ireturn, 1) := by decide +kernel
set_option maxRecDepth 20000 in
theorem ggX9_isOffered_X9_in : GoodIn wsX9_isOffered wsX9_in := goodIn_r _ [5] (by decide +kernel) (by decide +kernel)
set_option maxRecDepth 20000 in
theorem gX9_isOffered_X9_in : GoodIn wsX9_isOffered (va_wsS RX9 45 yX9_in wsX9_in) := goodIn_app (goodIn_of _ (by decide +kernel)) ggX9_isOffered_X9_in
theorem dX9_isOffered_0 : decode cX9_isOffered 0 = .ok (.iload_n 2, 1) := by decide +kernel
theorem dX9_isOffered_1 : decode cX9_isOffered 1 = .ok (.aload_n 0, 1) := by decide +kernel
theorem dX9_isOffered_2 : decode cX9_isOffered 2 = .ok (.getfield 32, 3) := by decide +kernel
theorem dX9_isOffered_5 : decode cX9_isOffered 5 = .ok (.bipush 6, 2) := by decide +kernel
theorem dX9_isOffered_7 : decode cX9_isOffered 7 = .ok (.iload_n 1, 1) := by decide +kernel
theorem dX9_isOffered_8 : decode cX9_isOffered 8 = .ok (.imul, 1) := by decide +kernel
theorem dX9_isOffered_9 : decode cX9_isOffered 9 = .ok (.iconst 3, 1) := by decide +kernel
theorem dX9_isOffered_10 : decode cX9_isOffered 10 = .ok (.iadd, 1) := by decide +kernel
theorem dX9_isOffered_11 : decode cX9_isOffered 11 = .ok (.iaload, 1) := by decide +kernel
theorem dX9_isOffered_12 : decode cX9_isOffered 12 = .ok (.aload_n 0, 1) := by decide +kernel
theorem dX9_isOffered_13 : decode cX9_isOffered 13 = .ok (.getfield 32, 3) := by decide +kernel
theorem dX9_isOffered_16 : decode cX9_isOffered 16 = .ok (.bipush 6, 2) := by decide +kernel
theorem dX9_isOffered_18 : decode cX9_isOffered 18 = .ok (.iload_n 1, 1) := by decide +kernel
theorem dX9_isOffered_19 : decode cX9_isOffered 19 = .ok (.imul, 1) := by decide +kernel
theorem dX9_isOffered_20 : decode cX9_isOffered 20 = .ok (.iconst 4, 1) := by decide +kernel
theorem dX9_isOffered_21 : decode cX9_isOffered 21 = .ok (.iadd, 1) := by decide +kernel
theorem dX9_isOffered_22 : decode cX9_isOffered 22 = .ok (.iaload, 1) := by decide +kernel
theorem dX9_isOffered_23 : decode cX9_isOffered 23 = .ok (.invokestatic 45, 3) := by decide +kernel
theorem dX9_isOffered_26 : decode cX9_isOffered 26 = .ok (.ireturn, 1) := by decide +kernel
set_option maxRecDepth 20000 in
theorem ggX9_clash_X9_offered : GoodIn wsX9_clash wsX9_offered := goodIn_r _ [7, 1, 8, 9, 10, 6, 11, 2, 12, 13, 14, 15, 16, 17, 18, 19, 20, 21, 22, 23, 24, 25, 26, 27, 28, 29, 30, 31, 32, 33, 34, 35, 36, 37] (by decide +kernel) (by decide +kernel)
set_option maxRecDepth 20000 in
theorem gX9_clash_X9_offered : GoodIn wsX9_clash (wsV RX9 176 RX9 yX9_offered wsX9_offered) := goodIn_app (goodIn_of _ (by decide +kernel)) ggX9_clash_X9_offered
theorem dX9_clash_0 : decode cX9_clash 0 = .ok (.aload_n 0, 1) := by decide +kernel
theorem dX9_clash_1 : decode cX9_clash 1 = .ok (.getfield 32, 3) := by decide +kernel
theorem dX9_clash_4 : decode cX9_clash 4 = .ok (.bipush 6, 2) := by decide +kernel
theorem dX9_clash_6 : decode cX9_clash 6 = .ok (.iload_n 1, 1) := by decide +kernel
theorem dX9_clash_7 : decode cX9_clash 7 = .ok (.imul, 1) := by decide +kernel
theorem dX9_clash_8 : decode cX9_clash 8 = .ok (.iconst 3, 1) := by decide +kernel
theorem dX9_clash_9 : decode cX9_clash 9 = .ok (.iadd, 1) := by decide +kernel
theorem dX9_clash_10 : decode cX9_clash 10 = .ok (.iaload, 1) := by decide +kernel
theorem dX9_clash_11 : decode cX9_clash 11 = .ok (.aload_n 0, 1) := by decide +kernel
theorem dX9_clash_12 : decode cX9_clash 12 = .ok (.getfield 32, 3) := by decide +kernel
theorem dX9_clash_15 : decode cX9_clash 15 = .ok (.bipush 6, 2) := by decide +kernel
theorem dX9_clash_17 : decode cX9_clash 17 = .ok (.iload_n 2, 1) := by decide +kernel
theorem dX9_clash_18 : decode cX9_clash 18 = .ok (.imul, 1) := by decide +kernel
theorem dX9_clash_19 : decode cX9_clash 19 = .ok (.iconst 4, 1) := by decide +kernel
theorem dX9_clash_20 : decode cX9_clash 20 = .ok (.iadd, 1) := by decide +kernel
theorem dX9_clash_21 : decode cX9_clash 21 = .ok (.iaload, 1) := by decide +kernel
theorem dX9_clash_22 : decode cX9_clash 22 = .ok (.if_icmp .gt 32, 3) := by decide +kernel
theorem dX9_clash_25 : decode cX9_clash 25 = .ok (.aload_n 0, 1) := by decide +kernel
theorem dX9_clash_26 : decode cX9_clash 26 = .ok (.getfield 32, 3) := by decide +kernel
theorem dX9_clash_29 : decode cX9_clash 29 = .ok (.bipush 6, 2) := by decide +kernel
theorem dX9_clash_31 : decode cX9_clash 31 = .ok (.iload_n 2, 1) := by decide +kernel
theorem dX9_clash_32 : decode cX9_clash 32 = .ok (.imul, 1) := by decide +kernel
theorem dX9_clash_33 : decode cX9_clash 33 = .ok (.iconst 3, 1) := by decide +kernel
theorem dX9_clash_34 : decode cX9_clash 34 = .ok (.iadd, 1) := by decide +kernel
theorem dX9_clash_35 : decode cX9_clash 35 = .ok (.iaload, 1) := by decide +kernel
theorem dX9_clash_36 : decode cX9_clash 36 = .ok (.aload_n 0, 1) := by decide +kernel
theorem dX9_clash_37 : decode cX9_clash 37 = .ok (.getfield 32, 3) := by decide +kernel
theorem dX9_clash_40 : decode cX9_clash 40 = .ok (.bipush 6, 2) := by decide +kernel
theorem dX9_clash_42 : decode cX9_clash 42 = .ok (.iload_n 1, 1) := by decide +kernel
theorem dX9_clash_43 : decode cX9_clash 43 = .ok (.imul, 1) := by decide +kernel
theorem dX9_clash_44 : decode cX9_clash 44 = .ok (.iconst 4, 1) := by decide +kernel
theorem dX9_clash_45 : decode cX9_clash 45 = .ok (.iadd, 1) := by decide +kernel
theorem dX9_clash_46 : decode cX9_clash 46 = .ok (.iaload, 1) := by decide +kernel
theorem dX9_clash_47 : decode cX9_clash 47 = .ok (.if_icmp .gt 7, 3) := by decide +kernel
theorem dX9_clash_50 : decode cX9_clash 50 = .ok (.iconst 1, 1) := by decide +kernel
theorem dX9_clash_51 : decode cX9_clash 51 = .ok (.goto 4, 3) := by decide +kernel
theorem dX9_clash_54 : decode cX9_clash 54 = .ok (.iconst 0, 1) := by decide +kernel
theorem dX9_clash_55 : decode cX9_clash 55 = .ok (.istore_n 3, 1) := by decide +kernel
theorem dX9_clash_56 : decode cX9_clash 56 = .ok (.iconst 0, 1) := by decide +kernel
theorem dX9_clash_57 : decode cX9_clash 57 = .ok (.istore 4, 2) := by decide +kernel
theorem dX9_clash_59 : decode cX9_clash 59 = .ok (.iconst 0, 1) := by decide +kernel
theorem dX9_clash_60 : decode cX9_clash 60 = .ok (.istore 5, 2) := by decide +kernel
theorem dX9_clash_62 : decode cX9_clash 62 = .ok (.iload 5, 2) := by decide +kernel
theorem dX9_clash_64 : decode cX9_clash 64 = .ok (.aload_n 0, 1) := by decide +kernel
theorem dX9_clash_65 : decode cX9_clash 65 = .ok (.getfield 38, 3) := by decide +kernel
theorem dX9_clash_68 : decode cX9_clash 68 = .ok (.if_icmp .ge 45, 3) := by decide +kernel
theorem dX9_clash_71 : decode cX9_clash 71 = .ok (.iload 4, 2) := by decide +kernel
theorem dX9_clash_73 : decode cX9_clash 73 = .ok (.ifCond .ne 27, 3) := by decide +kernel
theorem dX9_clash_76 : decode cX9_clash 76 = .ok (.iload_n 3, 1) := by decide +kernel
theorem dX9_clash_77 : decode cX9_clash 77 = .ok (.ifCond .eq 27, 3) := by decide +kernel
theorem dX9_clash_80 : decode cX9_clash 80 = .ok (.aload_n 0, 1) := by decide +kernel
theorem dX9_clash_81 : decode cX9_clash 81 = .ok (.iload_n 1, 1) := by decide +kernel
theorem dX9_clash_82 : decode cX9_clash 82 = .ok (.iload 5, 2) := by decide +kernel
theorem dX9_clash_84 : decode cX9_clash 84 = .ok (.invokevirtual 176, 3) := by decide +kernel
theorem dX9_clash_87 : decode cX9_clash 87 = .ok (.ifCond .eq 17, 3) := by decide +kernel
theorem dX9_clash_90 : decode cX9_clash 90 = .ok (.aload_n 0, 1) := by decide +kernel
theorem dX9_clash_91 : decode cX9_clash 91 = .ok (.iload_n 2, 1) := by decide +kernel
theorem dX9_clash_92 : decode cX9_clash 92 = .ok (.iload 5, 2) := by decide +kernel
theorem dX9_clash_94 : decode cX9_clash 94 = .ok (.invokevirtual 176, 3) := by decide +kernel
theorem dX9_clash_97 : decode cX9_clash 97 = .ok (.ifCond .eq 7, 3) := by decide +kernel
theorem dX9_clash_100 : decode cX9_clash 100 = .ok (.iconst 1, 1) := by decide +kernel
theorem dX9_clash_101 : decode cX9_clash 101 = .ok (.goto 4, 3) := by decide +kernel
theorem dX9_clash_104 : decode cX9_clash 104 = .ok (.iconst 0, 1) := by decide +kernel
theorem dX9_clash_105 : decode cX9_clash 105 = .ok (.istore 4, 2) := by decide +kernel
theorem dX9_clash_107 : decode cX9_clash 107 = .ok (.iinc 5 1, 3) := by decide +kernel
theorem dX9_clash_110 : decode cX9_clash 110 = .ok (.goto (-48), 3) := by decide +kernel
theorem dX9_clash_113 : decode cX9_clash 113 = .ok (.iload 4, 2) := by decide +kernel
theorem dX9_clash_115 : decode cX9_clash 115 = .ok (.ireturn, 1) := by decide +kernel
set_option maxRecDepth 20000 in
theorem ggX9_hasStar_X9_isOffered : GoodIn wsX9_hasStar wsX9_isOffered := goodIn_r _ [8, 2, 9, 10, 7, 11, 26, 27, 28, 29, 30, 31, 32, 33, 34, 35, 36, 37, 38, 39, 40, 41, 42, 43, 44, 45, 46, 47, 48, 49, 50, 51] (by decide +kernel) (by decide +kernel)
set_option maxRecDepth 20000 in
theorem gX9_hasStar_X9_isOffered : GoodIn wsX9_hasStar (wsV RX9 179 RX9 yX9_isOffered wsX9_isOffered) := goodIn_app (goodIn_of _ (by decide +kernel)) ggX9_hasStar_X9_isOffered
set_option maxRecDepth 20000 in
theorem ggX9_hasStar_X9_squareOf : GoodIn wsX9_hasStar wsX9_squareOf := goodIn_r _ [15, 16, 17, 26, 27, 28, 29, 30, 31, 32, 33, 34, 35, 36, 37, 38, 39, 40, 41, 42, 43, 44, 45, 46, 47, 48, 49, 50, 51] (by decide +kernel) (by decide +kernel)
set_option maxRecDepth 20000 in
theorem gX9_hasStar_X9_squareOf : GoodIn wsX9_hasStar (wsV RX9 134 RX9 yX9_squareOf wsX9_squareOf) := goodIn_app (goodIn_of _ (by decide +kernel)) ggX9_hasStar_X9_squareOf
set_option maxRecDepth 20000 in
theorem ggX9_hasStar_X9_offered : GoodIn wsX9_hasStar wsX9_offered := goodIn_r _ [21, 2, 22, 23, 24, 7, 25, 17, 26, 27, 28, 29, 30, 31, 32, 33, 34, 35, 36, 37, 38, 39, 40, 41, 42, 43, 44, 45, 46, 47, 48, 49, 50, 51] (by decide +kernel) (by decide +kernel)
set_option maxRecDepth 20000 in
theorem gX9_hasStar_X9_offered : GoodIn wsX9_hasStar (wsV RX9 176 RX9 yX9_offered wsX9_offered) := goodIn_app (goodIn_of _ (by decide +kernel)) ggX9_hasStar_X9_offered
theorem dX9_hasStar_0 : decode cX9_hasStar 0 = .ok (.iconst 0, 1) := by decide +kernel
theorem dX9_hasStar_1 : decode cX9_hasStar 1 = .ok (.istore 4, 2) := by decide +kernel
theorem dX9_hasStar_3 : decode cX9_hasStar 3 = .ok (.iconst 0, 1) := by decide +kernel
theorem dX9_hasStar_4 : decode cX9_hasStar 4 = .ok (.istore 5, 2) := by decide +kernel
theorem dX9_hasStar_6 : decode cX9_hasStar 6 = .ok (.iconst 0, 1) := by decide +kernel
theorem dX9_hasStar_7 : decode cX9_hasStar 7 = .ok (.istore 6, 2) := by decide +kernel
theorem dX9_hasStar_9 : decode cX9_hasStar 9 = .ok (.iload 6, 2) := by decide +kernel
theorem dX9_hasStar_11 : decode cX9_hasStar 11 = .ok (.aload_n 0, 1) := by decide +kernel
theorem dX9_hasStar_12 : decode cX9_hasStar 12 = .ok (.getfield 124, 3) := by decide +kernel
theorem dX9_hasStar_15 : decode cX9_hasStar 15 = .ok (.if_icmp .ge 92, 3) := by decide +kernel
theorem dX9_hasStar_18 : decode cX9_hasStar 18 = .ok (.iload_n 1, 1) := by decide +kernel
theorem dX9_hasStar_19 : decode cX9_hasStar 19 = .ok (.iload 6, 2) := by decide +kernel
theorem dX9_hasStar_21 : decode cX9_hasStar 21 = .ok (.ishr, 1) := by decide +kernel
theorem dX9_hasStar_22 : decode cX9_hasStar 22 = .ok (.iconst 1, 1) := by decide +kernel
theorem dX9_hasStar_23 : decode cX9_hasStar 23 = .ok (.iand, 1) := by decide +kernel
theorem dX9_hasStar_24 : decode cX9_hasStar 24 = .ok (.iconst 1, 1) := by decide +kernel
theorem dX9_hasStar_25 : decode cX9_hasStar 25 = .ok (.if_icmp .ne 76, 3) := by decide +kernel
theorem dX9_hasStar_28 : decode cX9_hasStar 28 = .ok (.aload_n 0, 1) := by decide +kernel
theorem dX9_hasStar_29 : decode cX9_hasStar 29 = .ok (.getfield 32, 3) := by decide +kernel
theorem dX9_hasStar_32 : decode cX9_hasStar 32 = .ok (.bipush 6, 2) := by decide +kernel
theorem dX9_hasStar_34 : decode cX9_hasStar 34 = .ok (.iload 6, 2) := by decide +kernel
theorem dX9_hasStar_36 : decode cX9_hasStar 36 = .ok (.imul, 1) := by decide +kernel
theorem dX9_hasStar_37 : decode cX9_hasStar 37 = .ok (.iaload, 1) := by decide +kernel
theorem dX9_hasStar_38 : decode cX9_hasStar 38 = .ok (.iload_n 2, 1) := by decide +kernel
theorem dX9_hasStar_39 : decode cX9_hasStar 39 = .ok (.if_icmp .ne 62, 3) := by decide +kernel
theorem dX9_hasStar_42 : decode cX9_hasStar 42 = .ok (.aload_n 0, 1) := by decide +kernel
theorem dX9_hasStar_43 : decode cX9_hasStar 43 = .ok (.iload 6, 2) := by decide +kernel
theorem dX9_hasStar_45 : decode cX9_hasStar 45 = .ok (.iload_n 3, 1) := by decide +kernel
theorem dX9_hasStar_46 : decode cX9_hasStar 46 = .ok (.invokevirtual 179, 3) := by decide +kernel
theorem dX9_hasStar_49 : decode cX9_hasStar 49 = .ok (.ifCond .eq 52, 3) := by decide +kernel
theorem dX9_hasStar_52 : decode cX9_hasStar 52 = .ok (.iconst 1, 1) := by decide +kernel
theorem dX9_hasStar_53 : decode cX9_hasStar 53 = .ok (.istore 4, 2) := by decide +kernel
theorem dX9_hasStar_55 : decode cX9_hasStar 55 = .ok (.iconst 0, 1) := by decide +kernel
theorem dX9_hasStar_56 : decode cX9_hasStar 56 = .ok (.istore 7, 2) := by decide +kernel
theorem dX9_hasStar_58 : decode cX9_hasStar 58 = .ok (.iload 7, 2) := by decide +kernel
theorem dX9_hasStar_60 : decode cX9_hasStar 60 = .ok (.aload_n 0, 1) := by decide +kernel
theorem dX9_hasStar_61 : decode cX9_hasStar 61 = .ok (.getfield 118, 3) := by decide +kernel
theorem dX9_hasStar_64 : decode cX9_hasStar 64 = .ok (.if_icmp .ge 37, 3) := by decide +kernel
theorem dX9_hasStar_67 : decode cX9_hasStar 67 = .ok (.iload 5, 2) := by decide +kernel
theorem dX9_hasStar_69 : decode cX9_hasStar 69 = .ok (.ifCond .ne 19, 3) := by decide +kernel
theorem dX9_hasStar_72 : decode cX9_hasStar 72 = .ok (.aload_n 0, 1) := by decide +kernel
theorem dX9_hasStar_73 : decode cX9_hasStar 73 = .ok (.iload 6, 2) := by decide +kernel
theorem dX9_hasStar_75 : decode cX9_hasStar 75 = .ok (.aload_n 0, 1) := by decide +kernel
theorem dX9_hasStar_76 : decode cX9_hasStar 76 = .ok (.iload 7, 2) := by decide +kernel
theorem dX9_hasStar_78 : decode cX9_hasStar 78 = .ok (.iload_n 3, 1) := by decide +kernel
theorem dX9_hasStar_79 : decode cX9_hasStar 79 = .ok (.invokevirtual 134, 3) := by decide +kernel
theorem dX9_hasStar_82 : decode cX9_hasStar 82 = .ok (.invokevirtual 176, 3) := by decide +kernel
theorem dX9_hasStar_85 : decode cX9_hasStar 85 = .ok (.ifCond .eq 7, 3) := by decide +kernel
theorem dX9_hasStar_88 : decode cX9_hasStar 88 = .ok (.iconst 1, 1) := by decide +kernel
theorem dX9_hasStar_89 : decode cX9_hasStar 89 = .ok (.goto 4, 3) := by decide +kernel
theorem dX9_hasStar_92 : decode cX9_hasStar 92 = .ok (.iconst 0, 1) := by decide +kernel
theorem dX9_hasStar_93 : decode cX9_hasStar 93 = .ok (.istore 5, 2) := by decide +kernel
theorem dX9_hasStar_95 : decode cX9_hasStar 95 = .ok (.iinc 7 1, 3) := by decide +kernel
theorem dX9_hasStar_98 : decode cX9_hasStar 98 = .ok (.goto (-40), 3) := by decide +kernel
theorem dX9_hasStar_101 : decode cX9_hasStar 101 = .ok (.iinc 6 1, 3) := by decide +kernel
theorem dX9_hasStar_104 : decode cX9_hasStar 104 = .ok (.goto (-95), 3) := by decide +kernel
theorem dX9_hasStar_107 : decode cX9_hasStar 107 = .ok (.iload 4, 2) := by decide +kernel
theorem dX9_hasStar_109 : decode cX9_hasStar 109 = .ok (.ifCond .eq 8, 3) := by decide +kernel
theorem dX9_hasStar_112 : decode cX9_hasStar 112 = .ok (.iload 5, 2) := by decide +kernel
theorem dX9_hasStar_114 : decode cX9_hasStar 114 = .ok (.ifCond .eq 7, 3) := by decide +kernel
theorem dX9_hasStar_117 : decode cX9_hasStar 117 = .ok (.iconst 1, 1) := by decide +kernel
theorem dX9_hasStar_118 : decode cX9_hasStar 118 = .ok (.goto 4, 3) := by decide +kernel
theorem dX9_hasStar_121 : decode cX9_hasStar 121 = .ok (.iconst 0, 1) := by decide +kernel
theorem dX9_hasStar_122 : decode cX9_hasStar 122 = .ok (.ireturn, 1) := by decide +kernel
set_option maxRecDepth 20000 in
theorem ggX9_mayBeLet_X9_clash : GoodIn wsX9_mayBeLet wsX9_clash := goodIn_r _ [7, 8, 9, 10, 11, 12, 6, 13, 14, 15, 16, 17, 35, 36, 37, 38, 39, 40, 41, 42, 43, 44, 45, 46, 47, 48, 49, 50, 51, 52, 53, 54, 55, 56, 57, 58, 59, 60] (by decide +kernel) (by decide +kernel)
set_option maxRecDepth 20000 in
theorem gX9_mayBeLet_X9_clash : GoodIn wsX9_mayBeLet (wsV RX9 182 RX9 yX9_clash wsX9_clash) := goodIn_app (goodIn_of _ (by decide +kernel)) ggX9_mayBeLet_X9_clash
set_option maxRecDepth 20000 in
theorem ggX9_mayBeLet_X9_hasStar : GoodIn wsX9_mayBeLet wsX9_hasStar := goodIn_r _ [21, 1, 8, 22, 23, 24, 25, 6, 26, 27, 28, 29, 30, 31, 32, 33, 34, 9, 10, 11, 12, 13, 14, 15, 16, 17, 35, 36, 37, 38, 39, 40, 41, 42, 43, 44, 45, 46, 47, 48, 49, 50, 51, 52, 53, 54, 55, 56, 57, 58, 59, 60] (by decide +kernel) (by decide +kernel)
set_option maxRecDepth 20000 in
theorem gX9_mayBeLet_X9_hasStar : GoodIn wsX9_mayBeLet (wsV RX9 185 RX9 yX9_hasStar wsX9_hasStar) := goodIn_app (goodIn_of _ (by decide +kernel)) ggX9_mayBeLet_X9_hasStar
theorem dX9_mayBeLet_0 : decode cX9_mayBeLet 0 = .ok (.iconst 1, 1) := by decide +kernel
theorem dX9_mayBeLet_1 : decode cX9_mayBeLet 1 = .ok (.istore 4, 2) := by decide +kernel
theorem dX9_mayBeLet_3 : decode cX9_mayBeLet 3 = .ok (.iconst 0, 1) := by decide +kernel
theorem dX9_mayBeLet_4 : decode cX9_mayBeLet 4 = .ok (.istore 5, 2) := by decide +kernel
theorem dX9_mayBeLet_6 : decode cX9_mayBeLet 6 = .ok (.iload 5, 2) := by decide +kernel
theorem dX9_mayBeLet_8 : decode cX9_mayBeLet 8 = .ok (.aload_n 0, 1) := by decide +kernel
theorem dX9_mayBeLet_9 : decode cX9_mayBeLet 9 = .ok (.getfield 124, 3) := by decide +kernel
theorem dX9_mayBeLet_12 : decode cX9_mayBeLet 12 = .ok (.if_icmp .ge 66, 3) := by decide +kernel
theorem dX9_mayBeLet_15 : decode cX9_mayBeLet 15 = .ok (.iconst 0, 1) := by decide +kernel
theorem dX9_mayBeLet_16 : decode cX9_mayBeLet 16 = .ok (.istore 6, 2) := by decide +kernel
theorem dX9_mayBeLet_18 : decode cX9_mayBeLet 18 = .ok (.iload 6, 2) := by decide +kernel
theorem dX9_mayBeLet_20 : decode cX9_mayBeLet 20 = .ok (.iload 5, 2) := by decide +kernel
theorem dX9_mayBeLet_22 : decode cX9_mayBeLet 22 = .ok (.if_icmp .ge 50, 3) := by decide +kernel
theorem dX9_mayBeLet_25 : decode cX9_mayBeLet 25 = .ok (.iload 4, 2) := by decide +kernel
theorem dX9_mayBeLet_27 : decode cX9_mayBeLet 27 = .ok (.ifCond .eq 36, 3) := by decide +kernel
theorem dX9_mayBeLet_30 : decode cX9_mayBeLet 30 = .ok (.iload_n 1, 1) := by decide +kernel
theorem dX9_mayBeLet_31 : decode cX9_mayBeLet 31 = .ok (.iload 5, 2) := by decide +kernel
theorem dX9_mayBeLet_33 : decode cX9_mayBeLet 33 = .ok (.ishr, 1) := by decide +kernel
theorem dX9_mayBeLet_34 : decode cX9_mayBeLet 34 = .ok (.iconst 1, 1) := by decide +kernel
theorem dX9_mayBeLet_35 : decode cX9_mayBeLet 35 = .ok (.iand, 1) := by decide +kernel
theorem dX9_mayBeLet_36 : decode cX9_mayBeLet 36 = .ok (.ifCond .eq 23, 3) := by decide +kernel
theorem dX9_mayBeLet_39 : decode cX9_mayBeLet 39 = .ok (.iload_n 1, 1) := by decide +kernel
theorem dX9_mayBeLet_40 : decode cX9_mayBeLet 40 = .ok (.iload 6, 2) := by decide +kernel
theorem dX9_mayBeLet_42 : decode cX9_mayBeLet 42 = .ok (.ishr, 1) := by decide +kernel
theorem dX9_mayBeLet_43 : decode cX9_mayBeLet 43 = .ok (.iconst 1, 1) := by decide +kernel
theorem dX9_mayBeLet_44 : decode cX9_mayBeLet 44 = .ok (.iand, 1) := by decide +kernel
theorem dX9_mayBeLet_45 : decode cX9_mayBeLet 45 = .ok (.ifCond .eq 14, 3) := by decide +kernel
theorem dX9_mayBeLet_48 : decode cX9_mayBeLet 48 = .ok (.aload_n 0, 1) := by decide +kernel
theorem dX9_mayBeLet_49 : decode cX9_mayBeLet 49 = .ok (.iload 5, 2) := by decide +kernel
theorem dX9_mayBeLet_51 : decode cX9_mayBeLet 51 = .ok (.iload 6, 2) := by decide +kernel
theorem dX9_mayBeLet_53 : decode cX9_mayBeLet 53 = .ok (.invokevirtual 182, 3) := by decide +kernel
theorem dX9_mayBeLet_56 : decode cX9_mayBeLet 56 = .ok (.ifCond .ne 7, 3) := by decide +kernel
theorem dX9_mayBeLet_59 : decode cX9_mayBeLet 59 = .ok (.iconst 1, 1) := by decide +kernel
theorem dX9_mayBeLet_60 : decode cX9_mayBeLet 60 = .ok (.goto 4, 3) := by decide +kernel
theorem dX9_mayBeLet_63 : decode cX9_mayBeLet 63 = .ok (.iconst 0, 1) := by decide +kernel
theorem dX9_mayBeLet_64 : decode cX9_mayBeLet 64 = .ok (.istore 4, 2) := by decide +kernel
theorem dX9_mayBeLet_66 : decode cX9_mayBeLet 66 = .ok (.iinc 6 1, 3) := by decide +kernel
theorem dX9_mayBeLet_69 : decode cX9_mayBeLet 69 = .ok (.goto (-51), 3) := by decide +kernel
theorem dX9_mayBeLet_72 : decode cX9_mayBeLet 72 = .ok (.iinc 5 1, 3) := by decide +kernel
theorem dX9_mayBeLet_75 : decode cX9_mayBeLet 75 = .ok (.goto (-69), 3) := by decide +kernel
theorem dX9_mayBeLet_78 : decode cX9_mayBeLet 78 = .ok (.iload_n 2, 1) := by decide +kernel
theorem dX9_mayBeLet_79 : decode cX9_mayBeLet 79 = .ok (.istore 5, 2) := by decide +kernel
theorem dX9_mayBeLet_81 : decode cX9_mayBeLet 81 = .ok (.iload 5, 2) := by decide +kernel
theorem dX9_mayBeLet_83 : decode cX9_mayBeLet 83 = .ok (.iload_n 3, 1) := by decide +kernel
theorem dX9_mayBeLet_84 : decode cX9_mayBeLet 84 = .ok (.if_icmp .gt 56, 3) := by decide +kernel
theorem dX9_mayBeLet_87 : decode cX9_mayBeLet 87 = .ok (.iload 4, 2) := by decide +kernel
theorem dX9_mayBeLet_89 : decode cX9_mayBeLet 89 = .ok (.ifCond .eq 51, 3) := by decide +kernel
theorem dX9_mayBeLet_92 : decode cX9_mayBeLet 92 = .ok (.iconst 0, 1) := by decide +kernel
theorem dX9_mayBeLet_93 : decode cX9_mayBeLet 93 = .ok (.istore 6, 2) := by decide +kernel
theorem dX9_mayBeLet_95 : decode cX9_mayBeLet 95 = .ok (.iload 6, 2) := by decide +kernel
theorem dX9_mayBeLet_97 : decode cX9_mayBeLet 97 = .ok (.aload_n 0, 1) := by decide +kernel
theorem dX9_mayBeLet_98 : decode cX9_mayBeLet 98 = .ok (.getfield 121, 3) := by decide +kernel
theorem dX9_mayBeLet_101 : decode cX9_mayBeLet 101 = .ok (.if_icmp .ge 33, 3) := by decide +kernel
theorem dX9_mayBeLet_104 : decode cX9_mayBeLet 104 = .ok (.iload 4, 2) := by decide +kernel
theorem dX9_mayBeLet_106 : decode cX9_mayBeLet 106 = .ok (.ifCond .eq 19, 3) := by decide +kernel
theorem dX9_mayBeLet_109 : decode cX9_mayBeLet 109 = .ok (.aload_n 0, 1) := by decide +kernel
theorem dX9_mayBeLet_110 : decode cX9_mayBeLet 110 = .ok (.iload_n 1, 1) := by decide +kernel
theorem dX9_mayBeLet_111 : decode cX9_mayBeLet 111 = .ok (.iload 6, 2) := by decide +kernel
theorem dX9_mayBeLet_113 : decode cX9_mayBeLet 113 = .ok (.iload 5, 2) := by decide +kernel
theorem dX9_mayBeLet_115 : decode cX9_mayBeLet 115 = .ok (.invokevirtual 185, 3) := by decide +kernel
theorem dX9_mayBeLet_118 : decode cX9_mayBeLet 118 = .ok (.ifCond .eq 7, 3) := by decide +kernel
theorem dX9_mayBeLet_121 : decode cX9_mayBeLet 121 = .ok (.iconst 1, 1) := by decide +kernel
theorem dX9_mayBeLet_122 : decode cX9_mayBeLet 122 = .ok (.goto 4, 3) := by decide +kernel
theorem dX9_mayBeLet_125 : decode cX9_mayBeLet 125 = .ok (.iconst 0, 1) := by decide +kernel
theorem dX9_mayBeLet_126 : decode cX9_mayBeLet 126 = .ok (.istore 4, 2) := by decide +kernel
theorem dX9_mayBeLet_128 : decode cX9_mayBeLet 128 = .ok (.iinc 6 1, 3) := by decide +kernel
theorem dX9_mayBeLet_131 : decode cX9_mayBeLet 131 = .ok (.goto (-36), 3) := by decide +kernel
theorem dX9_mayBeLet_134 : decode cX9_mayBeLet 134 = .ok (.iinc 5 1, 3) := by decide +kernel
theorem dX9_mayBeLet_137 : decode cX9_mayBeLet 137 = .ok (.goto (-56), 3) := by decide +kernel
theorem dX9_mayBeLet_140 : decode cX9_mayBeLet 140 = .ok (.iload 4, 2) := by decide +kernel
theorem dX9_mayBeLet_142 : decode cX9_mayBeLet 142 = .ok (.ireturn, 1) := by decide +kernel
set_option maxRecDepth 20000 in
theorem ggX9_letting_X9_isNight : GoodIn wsX9_letting wsX9_isNight := goodIn_r _ [7, 8, 9, 6, 10] (by decide +kernel) (by decide +kernel)
set_option maxRecDepth 20000 in
theorem gX9_letting_X9_isNight : GoodIn wsX9_letting (va_wsS RX9 146 yX9_isNight wsX9_isNight) := goodIn_app (goodIn_of _ (by decide +kernel)) ggX9_letting_X9_isNight
set_option maxRecDepth 20000 in
theorem ggX9_letting_X9_in : GoodIn wsX9_letting wsX9_in := goodIn_r _ [10] (by decide +kernel) (by decide +kernel)
set_option maxRecDepth 20000 in
theorem gX9_letting_X9_in : GoodIn wsX9_letting (va_wsS RX9 45 yX9_in wsX9_in) := goodIn_app (goodIn_of _ (by decide +kernel)) ggX9_letting_X9_in
set_option maxRecDepth 20000 in
theorem ggX9_letting_X9_mayBeLet : GoodIn wsX9_letting wsX9_mayBeLet := goodIn_r _ [14, 2, 15, 16, 17, 18, 6, 19, 3, 20, 21, 22, 23, 24, 25, 26, 27, 28, 29, 30, 31, 32, 33, 34, 35, 36, 37, 8, 9, 10, 38, 39, 40, 41, 42, 43, 44, 45, 46, 47, 48, 49, 50, 51, 52, 53, 54, 55, 56, 57, 58, 59, 60, 61, 62, 63, 64, 65, 66, 67, 68] (by decide +kernel) (by decide +kernel)
set_option maxRecDepth 20000 in
theorem gX9_letting_X9_mayBeLet : GoodIn wsX9_letting (wsV RX9 188 RX9 yX9_mayBeLet wsX9_mayBeLet) := goodIn_app (goodIn_of _ (by decide +kernel)) ggX9_letting_X9_mayBeLet
theorem dX9_letting_0 : decode cX9_letting 0 = .ok (.aload_n 0, 1) := by decide +kernel
theorem dX9_letting_1 : decode cX9_letting 1 = .ok (.iconst 0, 1) := by decide +kernel
theorem dX9_letting_2 : decode cX9_letting 2 = .ok (.putfield 42, 3) := by decide +kernel
theorem dX9_letting_5 : decode cX9_letting 5 = .ok (.iload_n 1, 1) := by decide +kernel
theorem dX9_letting_6 : decode cX9_letting 6 = .ok (.invokestatic 146, 3) := by decide +kernel
theorem dX9_letting_9 : decode cX9_letting 9 = .ok (.ifCond .eq 22, 3) := by decide +kernel
theorem dX9_letting_12 : decode cX9_letting 12 = .ok (.iload_n 2, 1) := by decide +kernel
theorem dX9_letting_13 : decode cX9_letting 13 = .ok (.iload_n 1, 1) := by decide +kernel
theorem dX9_letting_14 : decode cX9_letting 14 = .ok (.bipush 99, 2) := by decide +kernel
theorem dX9_letting_16 : decode cX9_letting 16 = .ok (.invokestatic 45, 3) := by decide +kernel
theorem dX9_letting_19 : decode cX9_letting 19 = .ok (.ifCond .eq 12, 3) := by decide +kernel
theorem dX9_letting_22 : decode cX9_letting 22 = .ok (.iload_n 3, 1) := by decide +kernel
theorem dX9_letting_23 : decode cX9_letting 23 = .ok (.iconst 0, 1) := by decide +kernel
theorem dX9_letting_24 : decode cX9_letting 24 = .ok (.iconst 1, 1) := by decide +kernel
theorem dX9_letting_25 : decode cX9_letting 25 = .ok (.invokestatic 45, 3) := by decide +kernel
theorem dX9_letting_28 : decode cX9_letting 28 = .ok (.ifCond .ne 5, 3) := by decide +kernel
theorem dX9_letting_31 : decode cX9_letting 31 = .ok (.iconst (-1), 1) := by decide +kernel
theorem dX9_letting_32 : decode cX9_letting 32 = .ok (.ireturn, 1) := by decide +kernel
theorem dX9_letting_33 : decode cX9_letting 33 = .ok (.iconst 0, 1) := by decide +kernel
theorem dX9_letting_34 : decode cX9_letting 34 = .ok (.istore 4, 2) := by decide +kernel
theorem dX9_letting_36 : decode cX9_letting 36 = .ok (.iconst 0, 1) := by decide +kernel
theorem dX9_letting_37 : decode cX9_letting 37 = .ok (.istore 5, 2) := by decide +kernel
theorem dX9_letting_39 : decode cX9_letting 39 = .ok (.iconst 1, 1) := by decide +kernel
theorem dX9_letting_40 : decode cX9_letting 40 = .ok (.istore 6, 2) := by decide +kernel
theorem dX9_letting_42 : decode cX9_letting 42 = .ok (.iload 6, 2) := by decide +kernel
theorem dX9_letting_44 : decode cX9_letting 44 = .ok (.iconst 1, 1) := by decide +kernel
theorem dX9_letting_45 : decode cX9_letting 45 = .ok (.aload_n 0, 1) := by decide +kernel
theorem dX9_letting_46 : decode cX9_letting 46 = .ok (.getfield 124, 3) := by decide +kernel
theorem dX9_letting_49 : decode cX9_letting 49 = .ok (.ishl, 1) := by decide +kernel
theorem dX9_letting_50 : decode cX9_letting 50 = .ok (.if_icmp .ge 88, 3) := by decide +kernel
theorem dX9_letting_53 : decode cX9_letting 53 = .ok (.iconst 0, 1) := by decide +kernel
theorem dX9_letting_54 : decode cX9_letting 54 = .ok (.istore 7, 2) := by decide +kernel
theorem dX9_letting_56 : decode cX9_letting 56 = .ok (.iconst 0, 1) := by decide +kernel
theorem dX9_letting_57 : decode cX9_letting 57 = .ok (.istore 8, 2) := by decide +kernel
theorem dX9_letting_59 : decode cX9_letting 59 = .ok (.iload 8, 2) := by decide +kernel
theorem dX9_letting_61 : decode cX9_letting 61 = .ok (.aload_n 0, 1) := by decide +kernel
theorem dX9_letting_62 : decode cX9_letting 62 = .ok (.getfield 124, 3) := by decide +kernel
theorem dX9_letting_65 : decode cX9_letting 65 = .ok (.if_icmp .ge 41, 3) := by decide +kernel
theorem dX9_letting_68 : decode cX9_letting 68 = .ok (.iload 7, 2) := by decide +kernel
theorem dX9_letting_70 : decode cX9_letting 70 = .ok (.iload 6, 2) := by decide +kernel
theorem dX9_letting_72 : decode cX9_letting 72 = .ok (.iload 8, 2) := by decide +kernel
theorem dX9_letting_74 : decode cX9_letting 74 = .ok (.ishr, 1) := by decide +kernel
theorem dX9_letting_75 : decode cX9_letting 75 = .ok (.iconst 1, 1) := by decide +kernel
theorem dX9_letting_76 : decode cX9_letting 76 = .ok (.iand, 1) := by decide +kernel
theorem dX9_letting_77 : decode cX9_letting 77 = .ok (.iconst 1, 1) := by decide +kernel
theorem dX9_letting_78 : decode cX9_letting 78 = .ok (.if_icmp .ne 18, 3) := by decide +kernel
theorem dX9_letting_81 : decode cX9_letting 81 = .ok (.aload_n 0, 1) := by decide +kernel
theorem dX9_letting_82 : decode cX9_letting 82 = .ok (.getfield 32, 3) := by decide +kernel
theorem dX9_letting_85 : decode cX9_letting 85 = .ok (.bipush 6, 2) := by decide +kernel
theorem dX9_letting_87 : decode cX9_letting 87 = .ok (.iload 8, 2) := by decide +kernel
theorem dX9_letting_89 : decode cX9_letting 89 = .ok (.imul, 1) := by decide +kernel
theorem dX9_letting_90 : decode cX9_letting 90 = .ok (.iconst 5, 1) := by decide +kernel
theorem dX9_letting_91 : decode cX9_letting 91 = .ok (.iadd, 1) := by decide +kernel
theorem dX9_letting_92 : decode cX9_letting 92 = .ok (.iaload, 1) := by decide +kernel
theorem dX9_letting_93 : decode cX9_letting 93 = .ok (.goto 4, 3) := by decide +kernel
theorem dX9_letting_96 : decode cX9_letting 96 = .ok (.iconst 0, 1) := by decide +kernel
theorem dX9_letting_97 : decode cX9_letting 97 = .ok (.iadd, 1) := by decide +kernel
theorem dX9_letting_98 : decode cX9_letting 98 = .ok (.istore 7, 2) := by decide +kernel
theorem dX9_letting_100 : decode cX9_letting 100 = .ok (.iinc 8 1, 3) := by decide +kernel
theorem dX9_letting_103 : decode cX9_letting 103 = .ok (.goto (-44), 3) := by decide +kernel
theorem dX9_letting_106 : decode cX9_letting 106 = .ok (.iload 7, 2) := by decide +kernel
theorem dX9_letting_108 : decode cX9_letting 108 = .ok (.iload 5, 2) := by decide +kernel
theorem dX9_letting_110 : decode cX9_letting 110 = .ok (.if_icmp .le 22, 3) := by decide +kernel
theorem dX9_letting_113 : decode cX9_letting 113 = .ok (.aload_n 0, 1) := by decide +kernel
theorem dX9_letting_114 : decode cX9_letting 114 = .ok (.iload 6, 2) := by decide +kernel
theorem dX9_letting_116 : decode cX9_letting 116 = .ok (.iload_n 1, 1) := by decide +kernel
theorem dX9_letting_117 : decode cX9_letting 117 = .ok (.iload_n 2, 1) := by decide +kernel
theorem dX9_letting_118 : decode cX9_letting 118 = .ok (.invokevirtual 188, 3) := by decide +kernel
theorem dX9_letting_121 : decode cX9_letting 121 = .ok (.ifCond .eq 11, 3) := by decide +kernel
theorem dX9_letting_124 : decode cX9_letting 124 = .ok (.iload 7, 2) := by decide +kernel
theorem dX9_letting_126 : decode cX9_letting 126 = .ok (.istore 5, 2) := by decide +kernel
theorem dX9_letting_128 : decode cX9_letting 128 = .ok (.iload 6, 2) := by decide +kernel
theorem dX9_letting_130 : decode cX9_letting 130 = .ok (.istore 4, 2) := by decide +kernel
theorem dX9_letting_132 : decode cX9_letting 132 = .ok (.iinc 6 1, 3) := by decide +kernel
theorem dX9_letting_135 : decode cX9_letting 135 = .ok (.goto (-93), 3) := by decide +kernel
theorem dX9_letting_138 : decode cX9_letting 138 = .ok (.iload_n 3, 1) := by decide +kernel
theorem dX9_letting_139 : decode cX9_letting 139 = .ok (.ifCond .ne 8, 3) := by decide +kernel
theorem dX9_letting_142 : decode cX9_letting 142 = .ok (.iload 5, 2) := by decide +kernel
theorem dX9_letting_144 : decode cX9_letting 144 = .ok (.goto 5, 3) := by decide +kernel
theorem dX9_letting_147 : decode cX9_letting 147 = .ok (.iload 4, 2) := by decide +kernel
theorem dX9_letting_149 : decode cX9_letting 149 = .ok (.ireturn, 1) := by decide +kernel
set_option maxRecDepth 20000 in
theorem ggX9_saw_X9_isStar : GoodIn wsX9_saw wsX9_isStar := goodIn_r _ [8, 9, 10, 11, 7, 12, 18, 19, 20, 21, 22, 23, 24, 25, 26, 27, 28, 29, 30, 31, 32, 33, 34, 35, 36, 37, 38, 39, 40, 41, 42, 43] (by decide +kernel) (by decide +kernel)
set_option maxRecDepth 20000 in
theorem gX9_saw_X9_isStar : GoodIn wsX9_saw (wsV RX9 130 RX9 yX9_isStar wsX9_isStar) := goodIn_app (goodIn_of _ (by decide +kernel)) ggX9_saw_X9_isStar
set_option maxRecDepth 20000 in
theorem ggX9_saw_X9_isSquare : GoodIn wsX9_saw wsX9_isSquare := goodIn_r _ [16, 17, 10, 11, 7, 12, 18, 19, 20, 21, 22, 23, 24, 25, 26, 27, 28, 29, 30, 31, 32, 33, 34, 35, 36, 37, 38, 39, 40, 41, 42, 43] (by decide +kernel) (by decide +kernel)
set_option maxRecDepth 20000 in
theorem gX9_saw_X9_isSquare : GoodIn wsX9_saw (wsV RX9 143 RX9 yX9_isSquare wsX9_isSquare) := goodIn_app (goodIn_of _ (by decide +kernel)) ggX9_saw_X9_isSquare
theorem dX9_saw_0 : decode cX9_saw 0 = .ok (.aload_n 0, 1) := by decide +kernel
theorem dX9_saw_1 : decode cX9_saw 1 = .ok (.iconst 0, 1) := by decide +kernel
theorem dX9_saw_2 : decode cX9_saw 2 = .ok (.putfield 42, 3) := by decide +kernel
theorem dX9_saw_5 : decode cX9_saw 5 = .ok (.aload_n 0, 1) := by decide +kernel
theorem dX9_saw_6 : decode cX9_saw 6 = .ok (.iload_n 1, 1) := by decide +kernel
theorem dX9_saw_7 : decode cX9_saw 7 = .ok (.invokevirtual 130, 3) := by decide +kernel
theorem dX9_saw_10 : decode cX9_saw 10 = .ok (.ifCond .eq 11, 3) := by decide +kernel
theorem dX9_saw_13 : decode cX9_saw 13 = .ok (.aload_n 0, 1) := by decide +kernel
theorem dX9_saw_14 : decode cX9_saw 14 = .ok (.iload_n 2, 1) := by decide +kernel
theorem dX9_saw_15 : decode cX9_saw 15 = .ok (.invokevirtual 143, 3) := by decide +kernel
theorem dX9_saw_18 : decode cX9_saw 18 = .ok (.ifCond .ne 5, 3) := by decide +kernel
theorem dX9_saw_21 : decode cX9_saw 21 = .ok (.iconst (-1), 1) := by decide +kernel
theorem dX9_saw_22 : decode cX9_saw 22 = .ok (.ireturn, 1) := by decide +kernel
theorem dX9_saw_23 : decode cX9_saw 23 = .ok (.aload_n 0, 1) := by decide +kernel
theorem dX9_saw_24 : decode cX9_saw 24 = .ok (.getfield 127, 3) := by decide +kernel
theorem dX9_saw_27 : decode cX9_saw 27 = .ok (.bipush 8, 2) := by decide +kernel
theorem dX9_saw_29 : decode cX9_saw 29 = .ok (.if_icmp .ne 6, 3) := by decide +kernel
theorem dX9_saw_32 : decode cX9_saw 32 = .ok (.bipush (-3), 2) := by decide +kernel
theorem dX9_saw_34 : decode cX9_saw 34 = .ok (.ireturn, 1) := by decide +kernel
theorem dX9_saw_35 : decode cX9_saw 35 = .ok (.aload_n 0, 1) := by decide +kernel
theorem dX9_saw_36 : decode cX9_saw 36 = .ok (.getfield 35, 3) := by decide +kernel
theorem dX9_saw_39 : decode cX9_saw 39 = .ok (.iconst 2, 1) := by decide +kernel
theorem dX9_saw_40 : decode cX9_saw 40 = .ok (.aload_n 0, 1) := by decide +kernel
theorem dX9_saw_41 : decode cX9_saw 41 = .ok (.getfield 127, 3) := by decide +kernel
theorem dX9_saw_44 : decode cX9_saw 44 = .ok (.imul, 1) := by decide +kernel
theorem dX9_saw_45 : decode cX9_saw 45 = .ok (.iload_n 1, 1) := by decide +kernel
theorem dX9_saw_46 : decode cX9_saw 46 = .ok (.iastore, 1) := by decide +kernel
theorem dX9_saw_47 : decode cX9_saw 47 = .ok (.aload_n 0, 1) := by decide +kernel
theorem dX9_saw_48 : decode cX9_saw 48 = .ok (.getfield 35, 3) := by decide +kernel
theorem dX9_saw_51 : decode cX9_saw 51 = .ok (.iconst 2, 1) := by decide +kernel
theorem dX9_saw_52 : decode cX9_saw 52 = .ok (.aload_n 0, 1) := by decide +kernel
theorem dX9_saw_53 : decode cX9_saw 53 = .ok (.getfield 127, 3) := by decide +kernel
theorem dX9_saw_56 : decode cX9_saw 56 = .ok (.imul, 1) := by decide +kernel
theorem dX9_saw_57 : decode cX9_saw 57 = .ok (.iconst 1, 1) := by decide +kernel
theorem dX9_saw_58 : decode cX9_saw 58 = .ok (.iadd, 1) := by decide +kernel
theorem dX9_saw_59 : decode cX9_saw 59 = .ok (.iload_n 2, 1) := by decide +kernel
theorem dX9_saw_60 : decode cX9_saw 60 = .ok (.iastore, 1) := by decide +kernel
theorem dX9_saw_61 : decode cX9_saw 61 = .ok (.aload_n 0, 1) := by decide +kernel
theorem dX9_saw_62 : decode cX9_saw 62 = .ok (.dup, 1) := by decide +kernel
theorem dX9_saw_63 : decode cX9_saw 63 = .ok (.getfield 127, 3) := by decide +kernel
theorem dX9_saw_66 : decode cX9_saw 66 = .ok (.iconst 1, 1) := by decide +kernel
theorem dX9_saw_67 : decode cX9_saw 67 = .ok (.iadd, 1) := by decide +kernel
theorem dX9_saw_68 : decode cX9_saw 68 = .ok (.putfield 127, 3) := by decide +kernel
theorem dX9_saw_71 : decode cX9_saw 71 = .ok (.aload_n 0, 1) := by decide +kernel
theorem dX9_saw_72 : decode cX9_saw 72 = .ok (.getfield 127, 3) := by decide +kernel
theorem dX9_saw_75 : decode cX9_saw 75 = .ok (.ireturn, 1) := by decide +kernel
theorem dX9_forget_0 : decode cX9_forget 0 = .ok (.aload_n 0, 1) := by decide +kernel
theorem dX9_forget_1 : decode cX9_forget 1 = .ok (.iconst 0, 1) := by decide +kernel
theorem dX9_forget_2 : decode cX9_forget 2 = .ok (.putfield 42, 3) := by decide +kernel
theorem dX9_forget_5 : decode cX9_forget 5 = .ok (.aload_n 0, 1) := by decide +kernel
theorem dX9_forget_6 : decode cX9_forget 6 = .ok (.getfield 127, 3) := by decide +kernel
theorem dX9_forget_9 : decode cX9_forget 9 = .ok (.istore_n 1, 1) := by decide +kernel
theorem dX9_forget_10 : decode cX9_forget 10 = .ok (.aload_n 0, 1) := by decide +kernel
theorem dX9_forget_11 : decode cX9_forget 11 = .ok (.iconst 0, 1) := by decide +kernel
theorem dX9_forget_12 : decode cX9_forget 12 = .ok (.putfield 127, 3) := by decide +kernel
theorem dX9_forget_15 : decode cX9_forget 15 = .ok (.iload_n 1, 1) := by decide +kernel
theorem dX9_forget_16 : decode cX9_forget 16 = .ok (.ireturn, 1) := by decide +kernel
set_option maxRecDepth 20000 in
theorem ggX9_dates_X9_in : GoodIn wsX9_dates wsX9_in := goodIn_r _ [7] (by decide +kernel) (by decide +kernel)
set_option maxRecDepth 20000 in
theorem gX9_dates_X9_in : GoodIn wsX9_dates (va_wsS RX9 45 yX9_in wsX9_in) := goodIn_app (goodIn_of _ (by decide +kernel)) ggX9_dates_X9_in
set_option maxRecDepth 20000 in
theorem ggX9_dates_X9_squareOf : GoodIn wsX9_dates wsX9_squareOf := goodIn_r _ [11, 12, 13, 14, 15, 16, 17, 18, 19, 20, 21, 22, 23, 24, 25, 26, 27, 28, 29, 30, 31, 32, 33, 34, 35, 36, 37, 38, 39] (by decide +kernel) (by decide +kernel)
set_option maxRecDepth 20000 in
theorem gX9_dates_X9_squareOf : GoodIn wsX9_dates (wsV RX9 134 RX9 yX9_squareOf wsX9_squareOf) := goodIn_app (goodIn_of _ (by decide +kernel)) ggX9_dates_X9_squareOf
theorem dX9_dates_0 : decode cX9_dates 0 = .ok (.aload_n 0, 1) := by decide +kernel
theorem dX9_dates_1 : decode cX9_dates 1 = .ok (.iconst 0, 1) := by decide +kernel
theorem dX9_dates_2 : decode cX9_dates 2 = .ok (.putfield 42, 3) := by decide +kernel
theorem dX9_dates_5 : decode cX9_dates 5 = .ok (.iload_n 1, 1) := by decide +kernel
theorem dX9_dates_6 : decode cX9_dates 6 = .ok (.iconst 0, 1) := by decide +kernel
theorem dX9_dates_7 : decode cX9_dates 7 = .ok (.iconst 1, 1) := by decide +kernel
theorem dX9_dates_8 : decode cX9_dates 8 = .ok (.invokestatic 45, 3) := by decide +kernel
theorem dX9_dates_11 : decode cX9_dates 11 = .ok (.ifCond .ne 5, 3) := by decide +kernel
theorem dX9_dates_14 : decode cX9_dates 14 = .ok (.iconst (-1), 1) := by decide +kernel
theorem dX9_dates_15 : decode cX9_dates 15 = .ok (.ireturn, 1) := by decide +kernel
theorem dX9_dates_16 : decode cX9_dates 16 = .ok (.iconst 0, 1) := by decide +kernel
theorem dX9_dates_17 : decode cX9_dates 17 = .ok (.istore_n 2, 1) := by decide +kernel
theorem dX9_dates_18 : decode cX9_dates 18 = .ok (.bipush (-9), 2) := by decide +kernel
theorem dX9_dates_20 : decode cX9_dates 20 = .ok (.istore_n 3, 1) := by decide +kernel
theorem dX9_dates_21 : decode cX9_dates 21 = .ok (.iconst 0, 1) := by decide +kernel
theorem dX9_dates_22 : decode cX9_dates 22 = .ok (.istore 4, 2) := by decide +kernel
theorem dX9_dates_24 : decode cX9_dates 24 = .ok (.iload 4, 2) := by decide +kernel
theorem dX9_dates_26 : decode cX9_dates 26 = .ok (.sipush 1000, 3) := by decide +kernel
theorem dX9_dates_29 : decode cX9_dates 29 = .ok (.if_icmp .ge 100, 3) := by decide +kernel
theorem dX9_dates_32 : decode cX9_dates 32 = .ok (.iconst 1, 1) := by decide +kernel
theorem dX9_dates_33 : decode cX9_dates 33 = .ok (.istore 5, 2) := by decide +kernel
theorem dX9_dates_35 : decode cX9_dates 35 = .ok (.iconst 0, 1) := by decide +kernel
theorem dX9_dates_36 : decode cX9_dates 36 = .ok (.istore 6, 2) := by decide +kernel
theorem dX9_dates_38 : decode cX9_dates 38 = .ok (.iload 6, 2) := by decide +kernel
theorem dX9_dates_40 : decode cX9_dates 40 = .ok (.aload_n 0, 1) := by decide +kernel
theorem dX9_dates_41 : decode cX9_dates 41 = .ok (.getfield 127, 3) := by decide +kernel
theorem dX9_dates_44 : decode cX9_dates 44 = .ok (.if_icmp .ge 50, 3) := by decide +kernel
theorem dX9_dates_47 : decode cX9_dates 47 = .ok (.iload 5, 2) := by decide +kernel
theorem dX9_dates_49 : decode cX9_dates 49 = .ok (.ifCond .eq 36, 3) := by decide +kernel
theorem dX9_dates_52 : decode cX9_dates 52 = .ok (.aload_n 0, 1) := by decide +kernel
theorem dX9_dates_53 : decode cX9_dates 53 = .ok (.aload_n 0, 1) := by decide +kernel
theorem dX9_dates_54 : decode cX9_dates 54 = .ok (.getfield 35, 3) := by decide +kernel
theorem dX9_dates_57 : decode cX9_dates 57 = .ok (.iconst 2, 1) := by decide +kernel
theorem dX9_dates_58 : decode cX9_dates 58 = .ok (.iload 6, 2) := by decide +kernel
theorem dX9_dates_60 : decode cX9_dates 60 = .ok (.imul, 1) := by decide +kernel
theorem dX9_dates_61 : decode cX9_dates 61 = .ok (.iaload, 1) := by decide +kernel
theorem dX9_dates_62 : decode cX9_dates 62 = .ok (.iload 4, 2) := by decide +kernel
theorem dX9_dates_64 : decode cX9_dates 64 = .ok (.invokevirtual 134, 3) := by decide +kernel
theorem dX9_dates_67 : decode cX9_dates 67 = .ok (.aload_n 0, 1) := by decide +kernel
theorem dX9_dates_68 : decode cX9_dates 68 = .ok (.getfield 35, 3) := by decide +kernel
theorem dX9_dates_71 : decode cX9_dates 71 = .ok (.iconst 2, 1) := by decide +kernel
theorem dX9_dates_72 : decode cX9_dates 72 = .ok (.iload 6, 2) := by decide +kernel
theorem dX9_dates_74 : decode cX9_dates 74 = .ok (.imul, 1) := by decide +kernel
theorem dX9_dates_75 : decode cX9_dates 75 = .ok (.iconst 1, 1) := by decide +kernel
theorem dX9_dates_76 : decode cX9_dates 76 = .ok (.iadd, 1) := by decide +kernel
theorem dX9_dates_77 : decode cX9_dates 77 = .ok (.iaload, 1) := by decide +kernel
theorem dX9_dates_78 : decode cX9_dates 78 = .ok (.if_icmp .ne 7, 3) := by decide +kernel
theorem dX9_dates_81 : decode cX9_dates 81 = .ok (.iconst 1, 1) := by decide +kernel
theorem dX9_dates_82 : decode cX9_dates 82 = .ok (.goto 4, 3) := by decide +kernel
theorem dX9_dates_85 : decode cX9_dates 85 = .ok (.iconst 0, 1) := by decide +kernel
theorem dX9_dates_86 : decode cX9_dates 86 = .ok (.istore 5, 2) := by decide +kernel
theorem dX9_dates_88 : decode cX9_dates 88 = .ok (.iinc 6 1, 3) := by decide +kernel
theorem dX9_dates_91 : decode cX9_dates 91 = .ok (.goto (-53), 3) := by decide +kernel
theorem dX9_dates_94 : decode cX9_dates 94 = .ok (.iload 5, 2) := by decide +kernel
theorem dX9_dates_96 : decode cX9_dates 96 = .ok (.ifCond .eq 12, 3) := by decide +kernel
theorem dX9_dates_99 : decode cX9_dates 99 = .ok (.iload_n 2, 1) := by decide +kernel
theorem dX9_dates_100 : decode cX9_dates 100 = .ok (.ifCond .ne 8, 3) := by decide +kernel
theorem dX9_dates_103 : decode cX9_dates 103 = .ok (.iload 4, 2) := by decide +kernel
theorem dX9_dates_105 : decode cX9_dates 105 = .ok (.goto 4, 3) := by decide +kernel
theorem dX9_dates_108 : decode cX9_dates 108 = .ok (.iload_n 3, 1) := by decide +kernel
theorem dX9_dates_109 : decode cX9_dates 109 = .ok (.istore_n 3, 1) := by decide +kernel
theorem dX9_dates_110 : decode cX9_dates 110 = .ok (.iload_n 2, 1) := by decide +kernel
theorem dX9_dates_111 : decode cX9_dates 111 = .ok (.iload 5, 2) := by decide +kernel
theorem dX9_dates_113 : decode cX9_dates 113 = .ok (.ifCond .eq 7, 3) := by decide +kernel
theorem dX9_dates_116 : decode cX9_dates 116 = .ok (.iconst 1, 1) := by decide +kernel
theorem dX9_dates_117 : decode cX9_dates 117 = .ok (.goto 4, 3) := by decide +kernel
theorem dX9_dates_120 : decode cX9_dates 120 = .ok (.iconst 0, 1) := by decide +kernel
theorem dX9_dates_121 : decode cX9_dates 121 = .ok (.iadd, 1) := by decide +kernel
theorem dX9_dates_122 : decode cX9_dates 122 = .ok (.istore_n 2, 1) := by decide +kernel
theorem dX9_dates_123 : decode cX9_dates 123 = .ok (.iinc 4 1, 3) := by decide +kernel
theorem dX9_dates_126 : decode cX9_dates 126 = .ok (.goto (-102), 3) := by decide +kernel
theorem dX9_dates_129 : decode cX9_dates 129 = .ok (.iload_n 1, 1) := by decide +kernel
theorem dX9_dates_130 : decode cX9_dates 130 = .ok (.ifCond .ne 7, 3) := by decide +kernel
theorem dX9_dates_133 : decode cX9_dates 133 = .ok (.iload_n 2, 1) := by decide +kernel
theorem dX9_dates_134 : decode cX9_dates 134 = .ok (.goto 4, 3) := by decide +kernel
theorem dX9_dates_137 : decode cX9_dates 137 = .ok (.iload_n 3, 1) := by decide +kernel
theorem dX9_dates_138 : decode cX9_dates 138 = .ok (.ireturn, 1) := by decide +kernel
set_option maxRecDepth 20000 in
theorem ggX9_rentOf_X9_squareOf : GoodIn wsX9_rentOf wsX9_squareOf := goodIn_r _ [7, 2, 8, 25, 26, 27, 28, 29, 30, 31, 32, 33, 34, 35, 36, 37, 38, 39, 40, 41, 42, 43, 44, 45, 46, 47, 48, 49, 50] (by decide +kernel) (by decide +kernel)
set_option maxRecDepth 20000 in
theorem gX9_rentOf_X9_squareOf : GoodIn wsX9_rentOf (wsV RX9 134 RX9 yX9_squareOf wsX9_squareOf) := goodIn_app (goodIn_of _ (by decide +kernel)) ggX9_rentOf_X9_squareOf
set_option maxRecDepth 20000 in
theorem ggX9_rentOf_X9_whoseIs : GoodIn wsX9_rentOf wsX9_whoseIs := goodIn_r _ [12, 13, 14, 15, 16, 6, 17, 18, 19, 20, 21, 8, 22, 23, 24, 25, 26, 27, 28, 29, 30, 31, 32, 33, 34, 35, 36, 37, 38, 39, 40, 41, 42, 43, 44, 45, 46, 47, 48, 49, 50] (by decide +kernel) (by decide +kernel)
set_option maxRecDepth 20000 in
theorem gX9_rentOf_X9_whoseIs : GoodIn wsX9_rentOf (wsV RX9 149 RX9 yX9_whoseIs wsX9_whoseIs) := goodIn_app (goodIn_of _ (by decide +kernel)) ggX9_rentOf_X9_whoseIs
theorem dX9_rentOf_0 : decode cX9_rentOf 0 = .ok (.iconst 0, 1) := by decide +kernel
theorem dX9_rentOf_1 : decode cX9_rentOf 1 = .ok (.istore 4, 2) := by decide +kernel
theorem dX9_rentOf_3 : decode cX9_rentOf 3 = .ok (.iconst 0, 1) := by decide +kernel
theorem dX9_rentOf_4 : decode cX9_rentOf 4 = .ok (.istore 5, 2) := by decide +kernel
theorem dX9_rentOf_6 : decode cX9_rentOf 6 = .ok (.iload 5, 2) := by decide +kernel
theorem dX9_rentOf_8 : decode cX9_rentOf 8 = .ok (.aload_n 0, 1) := by decide +kernel
theorem dX9_rentOf_9 : decode cX9_rentOf 9 = .ok (.getfield 118, 3) := by decide +kernel
theorem dX9_rentOf_12 : decode cX9_rentOf 12 = .ok (.if_icmp .ge 55, 3) := by decide +kernel
theorem dX9_rentOf_15 : decode cX9_rentOf 15 = .ok (.aload_n 0, 1) := by decide +kernel
theorem dX9_rentOf_16 : decode cX9_rentOf 16 = .ok (.iload 5, 2) := by decide +kernel
theorem dX9_rentOf_18 : decode cX9_rentOf 18 = .ok (.iload_n 2, 1) := by decide +kernel
theorem dX9_rentOf_19 : decode cX9_rentOf 19 = .ok (.invokevirtual 134, 3) := by decide +kernel
theorem dX9_rentOf_22 : decode cX9_rentOf 22 = .ok (.istore 6, 2) := by decide +kernel
theorem dX9_rentOf_24 : decode cX9_rentOf 24 = .ok (.iload 4, 2) := by decide +kernel
theorem dX9_rentOf_26 : decode cX9_rentOf 26 = .ok (.iload 6, 2) := by decide +kernel
theorem dX9_rentOf_28 : decode cX9_rentOf 28 = .ok (.iload_n 3, 1) := by decide +kernel
theorem dX9_rentOf_29 : decode cX9_rentOf 29 = .ok (.if_icmp .eq 28, 3) := by decide +kernel
theorem dX9_rentOf_32 : decode cX9_rentOf 32 = .ok (.aload_n 0, 1) := by decide +kernel
theorem dX9_rentOf_33 : decode cX9_rentOf 33 = .ok (.iload 6, 2) := by decide +kernel
theorem dX9_rentOf_35 : decode cX9_rentOf 35 = .ok (.iload_n 2, 1) := by decide +kernel
theorem dX9_rentOf_36 : decode cX9_rentOf 36 = .ok (.invokevirtual 149, 3) := by decide +kernel
theorem dX9_rentOf_39 : decode cX9_rentOf 39 = .ok (.iload_n 1, 1) := by decide +kernel
theorem dX9_rentOf_40 : decode cX9_rentOf 40 = .ok (.if_icmp .ne 17, 3) := by decide +kernel
theorem dX9_rentOf_43 : decode cX9_rentOf 43 = .ok (.aload_n 0, 1) := by decide +kernel
theorem dX9_rentOf_44 : decode cX9_rentOf 44 = .ok (.getfield 13, 3) := by decide +kernel
theorem dX9_rentOf_47 : decode cX9_rentOf 47 = .ok (.iconst 3, 1) := by decide +kernel
theorem dX9_rentOf_48 : decode cX9_rentOf 48 = .ok (.iload 5, 2) := by decide +kernel
theorem dX9_rentOf_50 : decode cX9_rentOf 50 = .ok (.imul, 1) := by decide +kernel
theorem dX9_rentOf_51 : decode cX9_rentOf 51 = .ok (.iconst 2, 1) := by decide +kernel
theorem dX9_rentOf_52 : decode cX9_rentOf 52 = .ok (.iadd, 1) := by decide +kernel
theorem dX9_rentOf_53 : decode cX9_rentOf 53 = .ok (.iaload, 1) := by decide +kernel
theorem dX9_rentOf_54 : decode cX9_rentOf 54 = .ok (.goto 4, 3) := by decide +kernel
theorem dX9_rentOf_57 : decode cX9_rentOf 57 = .ok (.iconst 0, 1) := by decide +kernel
theorem dX9_rentOf_58 : decode cX9_rentOf 58 = .ok (.iadd, 1) := by decide +kernel
theorem dX9_rentOf_59 : decode cX9_rentOf 59 = .ok (.istore 4, 2) := by decide +kernel
theorem dX9_rentOf_61 : decode cX9_rentOf 61 = .ok (.iinc 5 1, 3) := by decide +kernel
theorem dX9_rentOf_64 : decode cX9_rentOf 64 = .ok (.goto (-58), 3) := by decide +kernel
theorem dX9_rentOf_67 : decode cX9_rentOf 67 = .ok (.iload 4, 2) := by decide +kernel
theorem dX9_rentOf_69 : decode cX9_rentOf 69 = .ok (.ireturn, 1) := by decide +kernel
set_option maxRecDepth 20000 in
theorem ggX9_odds_X9_isTenant : GoodIn wsX9_odds wsX9_isTenant := goodIn_r _ [8, 9, 10, 11, 7, 12, 38, 39, 40, 41, 42, 43, 44, 45, 46, 47, 48, 49, 50, 51, 52, 53, 54, 55, 56, 57, 58, 59, 60, 61, 62, 63] (by decide +kernel) (by decide +kernel)
set_option maxRecDepth 20000 in
theorem gX9_odds_X9_isTenant : GoodIn wsX9_odds (wsV RX9 158 RX9 yX9_isTenant wsX9_isTenant) := goodIn_app (goodIn_of _ (by decide +kernel)) ggX9_odds_X9_isTenant
set_option maxRecDepth 20000 in
theorem ggX9_odds_X9_in : GoodIn wsX9_odds wsX9_in := goodIn_r _ [12] (by decide +kernel) (by decide +kernel)
set_option maxRecDepth 20000 in
theorem gX9_odds_X9_in : GoodIn wsX9_odds (va_wsS RX9 45 yX9_in wsX9_in) := goodIn_app (goodIn_of _ (by decide +kernel)) ggX9_odds_X9_in
set_option maxRecDepth 20000 in
theorem ggX9_odds_X9_rentOf : GoodIn wsX9_odds wsX9_rentOf := goodIn_r _ [16, 17, 18, 19, 20, 21, 7, 22, 2, 23, 24, 25, 26, 3, 27, 28, 29, 30, 31, 32, 33, 34, 10, 11, 12, 38, 39, 40, 41, 42, 43, 44, 45, 46, 47, 48, 49, 50, 51, 52, 53, 54, 55, 56, 57, 58, 59, 60, 61, 62, 63] (by decide +kernel) (by decide +kernel)
set_option maxRecDepth 20000 in
theorem gX9_odds_X9_rentOf : GoodIn wsX9_odds (wsV RX9 191 RX9 yX9_rentOf wsX9_rentOf) := goodIn_app (goodIn_of _ (by decide +kernel)) ggX9_odds_X9_rentOf
set_option maxRecDepth 20000 in
theorem ggX9_odds_X9_gcd : GoodIn wsX9_odds wsX9_gcd := goodIn_r _ [37] (by decide +kernel) (by decide +kernel)
set_option maxRecDepth 20000 in
theorem gX9_odds_X9_gcd : GoodIn wsX9_odds (va_wsS RX9 152 yX9_gcd wsX9_gcd) := goodIn_app (goodIn_of _ (by decide +kernel)) ggX9_odds_X9_gcd
theorem dX9_odds_0 : decode cX9_odds 0 = .ok (.aload_n 0, 1) := by decide +kernel
theorem dX9_odds_1 : decode cX9_odds 1 = .ok (.iconst 0, 1) := by decide +kernel
theorem dX9_odds_2 : decode cX9_odds 2 = .ok (.putfield 42, 3) := by decide +kernel
theorem dX9_odds_5 : decode cX9_odds 5 = .ok (.aload_n 0, 1) := by decide +kernel
theorem dX9_odds_6 : decode cX9_odds 6 = .ok (.iload_n 1, 1) := by decide +kernel
theorem dX9_odds_7 : decode cX9_odds 7 = .ok (.invokevirtual 158, 3) := by decide +kernel
theorem dX9_odds_10 : decode cX9_odds 10 = .ok (.ifCond .eq 32, 3) := by decide +kernel
theorem dX9_odds_13 : decode cX9_odds 13 = .ok (.iload_n 2, 1) := by decide +kernel
theorem dX9_odds_14 : decode cX9_odds 14 = .ok (.iconst 1, 1) := by decide +kernel
theorem dX9_odds_15 : decode cX9_odds 15 = .ok (.iconst 3, 1) := by decide +kernel
theorem dX9_odds_16 : decode cX9_odds 16 = .ok (.invokestatic 45, 3) := by decide +kernel
theorem dX9_odds_19 : decode cX9_odds 19 = .ok (.ifCond .eq 23, 3) := by decide +kernel
theorem dX9_odds_22 : decode cX9_odds 22 = .ok (.iload_n 3, 1) := by decide +kernel
theorem dX9_odds_23 : decode cX9_odds 23 = .ok (.iconst 0, 1) := by decide +kernel
theorem dX9_odds_24 : decode cX9_odds 24 = .ok (.bipush 99, 2) := by decide +kernel
theorem dX9_odds_26 : decode cX9_odds 26 = .ok (.invokestatic 45, 3) := by decide +kernel
theorem dX9_odds_29 : decode cX9_odds 29 = .ok (.ifCond .eq 13, 3) := by decide +kernel
theorem dX9_odds_32 : decode cX9_odds 32 = .ok (.iload 4, 2) := by decide +kernel
theorem dX9_odds_34 : decode cX9_odds 34 = .ok (.iconst 0, 1) := by decide +kernel
theorem dX9_odds_35 : decode cX9_odds 35 = .ok (.iconst 1, 1) := by decide +kernel
theorem dX9_odds_36 : decode cX9_odds 36 = .ok (.invokestatic 45, 3) := by decide +kernel
theorem dX9_odds_39 : decode cX9_odds 39 = .ok (.ifCond .ne 5, 3) := by decide +kernel
theorem dX9_odds_42 : decode cX9_odds 42 = .ok (.iconst (-1), 1) := by decide +kernel
theorem dX9_odds_43 : decode cX9_odds 43 = .ok (.ireturn, 1) := by decide +kernel
theorem dX9_odds_44 : decode cX9_odds 44 = .ok (.iconst 1, 1) := by decide +kernel
theorem dX9_odds_45 : decode cX9_odds 45 = .ok (.istore 5, 2) := by decide +kernel
theorem dX9_odds_47 : decode cX9_odds 47 = .ok (.iconst 0, 1) := by decide +kernel
theorem dX9_odds_48 : decode cX9_odds 48 = .ok (.istore 6, 2) := by decide +kernel
theorem dX9_odds_50 : decode cX9_odds 50 = .ok (.iload 6, 2) := by decide +kernel
theorem dX9_odds_52 : decode cX9_odds 52 = .ok (.iload_n 2, 1) := by decide +kernel
theorem dX9_odds_53 : decode cX9_odds 53 = .ok (.if_icmp .ge 18, 3) := by decide +kernel
theorem dX9_odds_56 : decode cX9_odds 56 = .ok (.iload 5, 2) := by decide +kernel
theorem dX9_odds_58 : decode cX9_odds 58 = .ok (.aload_n 0, 1) := by decide +kernel
theorem dX9_odds_59 : decode cX9_odds 59 = .ok (.getfield 38, 3) := by decide +kernel
theorem dX9_odds_62 : decode cX9_odds 62 = .ok (.imul, 1) := by decide +kernel
theorem dX9_odds_63 : decode cX9_odds 63 = .ok (.istore 5, 2) := by decide +kernel
theorem dX9_odds_65 : decode cX9_odds 65 = .ok (.iinc 6 1, 3) := by decide +kernel
theorem dX9_odds_68 : decode cX9_odds 68 = .ok (.goto (-18), 3) := by decide +kernel
theorem dX9_odds_71 : decode cX9_odds 71 = .ok (.iconst 0, 1) := by decide +kernel
theorem dX9_odds_72 : decode cX9_odds 72 = .ok (.istore 6, 2) := by decide +kernel
theorem dX9_odds_74 : decode cX9_odds 74 = .ok (.iconst 0, 1) := by decide +kernel
theorem dX9_odds_75 : decode cX9_odds 75 = .ok (.istore 7, 2) := by decide +kernel
theorem dX9_odds_77 : decode cX9_odds 77 = .ok (.iload 7, 2) := by decide +kernel
theorem dX9_odds_79 : decode cX9_odds 79 = .ok (.iload 5, 2) := by decide +kernel
theorem dX9_odds_81 : decode cX9_odds 81 = .ok (.if_icmp .ge 82, 3) := by decide +kernel
theorem dX9_odds_84 : decode cX9_odds 84 = .ok (.iload 7, 2) := by decide +kernel
theorem dX9_odds_86 : decode cX9_odds 86 = .ok (.istore 8, 2) := by decide +kernel
theorem dX9_odds_88 : decode cX9_odds 88 = .ok (.iconst 0, 1) := by decide +kernel
theorem dX9_odds_89 : decode cX9_odds 89 = .ok (.istore 9, 2) := by decide +kernel
theorem dX9_odds_91 : decode cX9_odds 91 = .ok (.iconst 0, 1) := by decide +kernel
theorem dX9_odds_92 : decode cX9_odds 92 = .ok (.istore 10, 2) := by decide +kernel
theorem dX9_odds_94 : decode cX9_odds 94 = .ok (.iload 10, 2) := by decide +kernel
theorem dX9_odds_96 : decode cX9_odds 96 = .ok (.iload_n 2, 1) := by decide +kernel
theorem dX9_odds_97 : decode cX9_odds 97 = .ok (.if_icmp .ge 44, 3) := by decide +kernel
theorem dX9_odds_100 : decode cX9_odds 100 = .ok (.iload 9, 2) := by decide +kernel
theorem dX9_odds_102 : decode cX9_odds 102 = .ok (.aload_n 0, 1) := by decide +kernel
theorem dX9_odds_103 : decode cX9_odds 103 = .ok (.iload_n 1, 1) := by decide +kernel
theorem dX9_odds_104 : decode cX9_odds 104 = .ok (.aload_n 0, 1) := by decide +kernel
theorem dX9_odds_105 : decode cX9_odds 105 = .ok (.getfield 22, 3) := by decide +kernel
theorem dX9_odds_108 : decode cX9_odds 108 = .ok (.iconst 0, 1) := by decide +kernel
theorem dX9_odds_109 : decode cX9_odds 109 = .ok (.iaload, 1) := by decide +kernel
theorem dX9_odds_110 : decode cX9_odds 110 = .ok (.iload 10, 2) := by decide +kernel
theorem dX9_odds_112 : decode cX9_odds 112 = .ok (.iadd, 1) := by decide +kernel
theorem dX9_odds_113 : decode cX9_odds 113 = .ok (.iload 8, 2) := by decide +kernel
theorem dX9_odds_115 : decode cX9_odds 115 = .ok (.aload_n 0, 1) := by decide +kernel
theorem dX9_odds_116 : decode cX9_odds 116 = .ok (.getfield 38, 3) := by decide +kernel
theorem dX9_odds_119 : decode cX9_odds 119 = .ok (.irem, 1) := by decide +kernel
theorem dX9_odds_120 : decode cX9_odds 120 = .ok (.invokevirtual 191, 3) := by decide +kernel
theorem dX9_odds_123 : decode cX9_odds 123 = .ok (.iadd, 1) := by decide +kernel
theorem dX9_odds_124 : decode cX9_odds 124 = .ok (.istore 9, 2) := by decide +kernel
theorem dX9_odds_126 : decode cX9_odds 126 = .ok (.iload 8, 2) := by decide +kernel
theorem dX9_odds_128 : decode cX9_odds 128 = .ok (.aload_n 0, 1) := by decide +kernel
theorem dX9_odds_129 : decode cX9_odds 129 = .ok (.getfield 38, 3) := by decide +kernel
theorem dX9_odds_132 : decode cX9_odds 132 = .ok (.idiv, 1) := by decide +kernel
theorem dX9_odds_133 : decode cX9_odds 133 = .ok (.istore 8, 2) := by decide +kernel
theorem dX9_odds_135 : decode cX9_odds 135 = .ok (.iinc 10 1, 3) := by decide +kernel
theorem dX9_odds_138 : decode cX9_odds 138 = .ok (.goto (-44), 3) := by decide +kernel
theorem dX9_odds_141 : decode cX9_odds 141 = .ok (.iload 6, 2) := by decide +kernel
theorem dX9_odds_143 : decode cX9_odds 143 = .ok (.iload 9, 2) := by decide +kernel
theorem dX9_odds_145 : decode cX9_odds 145 = .ok (.iload_n 3, 1) := by decide +kernel
theorem dX9_odds_146 : decode cX9_odds 146 = .ok (.if_icmp .lt 7, 3) := by decide +kernel
theorem dX9_odds_149 : decode cX9_odds 149 = .ok (.iconst 1, 1) := by decide +kernel
theorem dX9_odds_150 : decode cX9_odds 150 = .ok (.goto 4, 3) := by decide +kernel
theorem dX9_odds_153 : decode cX9_odds 153 = .ok (.iconst 0, 1) := by decide +kernel
theorem dX9_odds_154 : decode cX9_odds 154 = .ok (.iadd, 1) := by decide +kernel
theorem dX9_odds_155 : decode cX9_odds 155 = .ok (.istore 6, 2) := by decide +kernel
theorem dX9_odds_157 : decode cX9_odds 157 = .ok (.iinc 7 1, 3) := by decide +kernel
theorem dX9_odds_160 : decode cX9_odds 160 = .ok (.goto (-83), 3) := by decide +kernel
theorem dX9_odds_163 : decode cX9_odds 163 = .ok (.iload 6, 2) := by decide +kernel
theorem dX9_odds_165 : decode cX9_odds 165 = .ok (.i2l, 1) := by decide +kernel
theorem dX9_odds_166 : decode cX9_odds 166 = .ok (.iload 5, 2) := by decide +kernel
theorem dX9_odds_168 : decode cX9_odds 168 = .ok (.i2l, 1) := by decide +kernel
theorem dX9_odds_169 : decode cX9_odds 169 = .ok (.invokestatic 152, 3) := by decide +kernel
theorem dX9_odds_172 : decode cX9_odds 172 = .ok (.l2i, 1) := by decide +kernel
theorem dX9_odds_173 : decode cX9_odds 173 = .ok (.istore 7, 2) := by decide +kernel
theorem dX9_odds_175 : decode cX9_odds 175 = .ok (.iload 4, 2) := by decide +kernel
theorem dX9_odds_177 : decode cX9_odds 177 = .ok (.ifCond .ne 11, 3) := by decide +kernel
theorem dX9_odds_180 : decode cX9_odds 180 = .ok (.iload 6, 2) := by decide +kernel
theorem dX9_odds_182 : decode cX9_odds 182 = .ok (.iload 7, 2) := by decide +kernel
theorem dX9_odds_184 : decode cX9_odds 184 = .ok (.idiv, 1) := by decide +kernel
theorem dX9_odds_185 : decode cX9_odds 185 = .ok (.goto 8, 3) := by decide +kernel
theorem dX9_odds_188 : decode cX9_odds 188 = .ok (.iload 5, 2) := by decide +kernel
theorem dX9_odds_190 : decode cX9_odds 190 = .ok (.iload 7, 2) := by decide +kernel
theorem dX9_odds_192 : decode cX9_odds 192 = .ok (.idiv, 1) := by decide +kernel
theorem dX9_odds_193 : decode cX9_odds 193 = .ok (.ireturn, 1) := by decide +kernel
set_option maxRecDepth 20000 in
theorem ggX9_rate_X9_in : GoodIn wsX9_rate wsX9_in := goodIn_r _ [14] (by decide +kernel) (by decide +kernel)
set_option maxRecDepth 20000 in
theorem gX9_rate_X9_in : GoodIn wsX9_rate (va_wsS RX9 45 yX9_in wsX9_in) := goodIn_app (goodIn_of _ (by decide +kernel)) ggX9_rate_X9_in
set_option maxRecDepth 20000 in
theorem ggX9_rate_X9_isTenant : GoodIn wsX9_rate wsX9_isTenant := goodIn_r _ [18, 19, 11, 12, 13, 14, 32, 33, 34, 35, 36, 37, 38, 39, 40, 41, 42, 43, 44, 45, 46, 47, 48, 49, 50, 51, 52, 53, 54, 55, 56, 57] (by decide +kernel) (by decide +kernel)
set_option maxRecDepth 20000 in
theorem gX9_rate_X9_isTenant : GoodIn wsX9_rate (wsV RX9 158 RX9 yX9_isTenant wsX9_isTenant) := goodIn_app (goodIn_of _ (by decide +kernel)) ggX9_rate_X9_isTenant
set_option maxRecDepth 20000 in
theorem ggX9_rate_X9_whoseIs : GoodIn wsX9_rate wsX9_whoseIs := goodIn_r _ [23, 3, 24, 25, 26, 13, 27, 28, 29, 30, 31, 4, 11, 12, 14, 32, 33, 34, 35, 36, 37, 38, 39, 40, 41, 42, 43, 44, 45, 46, 47, 48, 49, 50, 51, 52, 53, 54, 55, 56, 57] (by decide +kernel) (by decide +kernel)
set_option maxRecDepth 20000 in
theorem gX9_rate_X9_whoseIs : GoodIn wsX9_rate (wsV RX9 149 RX9 yX9_whoseIs wsX9_whoseIs) := goodIn_app (goodIn_of _ (by decide +kernel)) ggX9_rate_X9_whoseIs
theorem dX9_rate_0 : decode cX9_rate 0 = .ok (.aload_n 0, 1) := by decide +kernel
theorem dX9_rate_1 : decode cX9_rate 1 = .ok (.iconst 0, 1) := by decide +kernel
theorem dX9_rate_2 : decode cX9_rate 2 = .ok (.putfield 42, 3) := by decide +kernel
theorem dX9_rate_5 : decode cX9_rate 5 = .ok (.iload_n 1, 1) := by decide +kernel
theorem dX9_rate_6 : decode cX9_rate 6 = .ok (.iconst 0, 1) := by decide +kernel
theorem dX9_rate_7 : decode cX9_rate 7 = .ok (.iconst 5, 1) := by decide +kernel
theorem dX9_rate_8 : decode cX9_rate 8 = .ok (.invokestatic 45, 3) := by decide +kernel
theorem dX9_rate_11 : decode cX9_rate 11 = .ok (.ifCond .eq 11, 3) := by decide +kernel
theorem dX9_rate_14 : decode cX9_rate 14 = .ok (.aload_n 0, 1) := by decide +kernel
theorem dX9_rate_15 : decode cX9_rate 15 = .ok (.iload_n 2, 1) := by decide +kernel
theorem dX9_rate_16 : decode cX9_rate 16 = .ok (.invokevirtual 158, 3) := by decide +kernel
theorem dX9_rate_19 : decode cX9_rate 19 = .ok (.ifCond .ne 6, 3) := by decide +kernel
theorem dX9_rate_22 : decode cX9_rate 22 = .ok (.ldc 195, 2) := by decide +kernel
theorem dX9_rate_24 : decode cX9_rate 24 = .ok (.ireturn, 1) := by decide +kernel
theorem dX9_rate_25 : decode cX9_rate 25 = .ok (.aload_n 0, 1) := by decide +kernel
theorem dX9_rate_26 : decode cX9_rate 26 = .ok (.getfield 22, 3) := by decide +kernel
theorem dX9_rate_29 : decode cX9_rate 29 = .ok (.iconst 2, 1) := by decide +kernel
theorem dX9_rate_30 : decode cX9_rate 30 = .ok (.iload_n 2, 1) := by decide +kernel
theorem dX9_rate_31 : decode cX9_rate 31 = .ok (.iadd, 1) := by decide +kernel
theorem dX9_rate_32 : decode cX9_rate 32 = .ok (.iaload, 1) := by decide +kernel
theorem dX9_rate_33 : decode cX9_rate 33 = .ok (.istore_n 3, 1) := by decide +kernel
theorem dX9_rate_34 : decode cX9_rate 34 = .ok (.iconst 0, 1) := by decide +kernel
theorem dX9_rate_35 : decode cX9_rate 35 = .ok (.istore 4, 2) := by decide +kernel
theorem dX9_rate_37 : decode cX9_rate 37 = .ok (.iload 4, 2) := by decide +kernel
theorem dX9_rate_39 : decode cX9_rate 39 = .ok (.aload_n 0, 1) := by decide +kernel
theorem dX9_rate_40 : decode cX9_rate 40 = .ok (.getfield 22, 3) := by decide +kernel
theorem dX9_rate_43 : decode cX9_rate 43 = .ok (.bipush 6, 2) := by decide +kernel
theorem dX9_rate_45 : decode cX9_rate 45 = .ok (.iaload, 1) := by decide +kernel
theorem dX9_rate_46 : decode cX9_rate 46 = .ok (.if_icmp .ge 33, 3) := by decide +kernel
theorem dX9_rate_49 : decode cX9_rate 49 = .ok (.iload_n 3, 1) := by decide +kernel
theorem dX9_rate_50 : decode cX9_rate 50 = .ok (.aload_n 0, 1) := by decide +kernel
theorem dX9_rate_51 : decode cX9_rate 51 = .ok (.getfield 22, 3) := by decide +kernel
theorem dX9_rate_54 : decode cX9_rate 54 = .ok (.bipush 7, 2) := by decide +kernel
theorem dX9_rate_56 : decode cX9_rate 56 = .ok (.iconst 5, 1) := by decide +kernel
theorem dX9_rate_57 : decode cX9_rate 57 = .ok (.iload 4, 2) := by decide +kernel
theorem dX9_rate_59 : decode cX9_rate 59 = .ok (.imul, 1) := by decide +kernel
theorem dX9_rate_60 : decode cX9_rate 60 = .ok (.iadd, 1) := by decide +kernel
theorem dX9_rate_61 : decode cX9_rate 61 = .ok (.iaload, 1) := by decide +kernel
theorem dX9_rate_62 : decode cX9_rate 62 = .ok (.iload_n 2, 1) := by decide +kernel
theorem dX9_rate_63 : decode cX9_rate 63 = .ok (.if_icmp .ne 7, 3) := by decide +kernel
theorem dX9_rate_66 : decode cX9_rate 66 = .ok (.iconst 1, 1) := by decide +kernel
theorem dX9_rate_67 : decode cX9_rate 67 = .ok (.goto 4, 3) := by decide +kernel
theorem dX9_rate_70 : decode cX9_rate 70 = .ok (.iconst 0, 1) := by decide +kernel
theorem dX9_rate_71 : decode cX9_rate 71 = .ok (.iadd, 1) := by decide +kernel
theorem dX9_rate_72 : decode cX9_rate 72 = .ok (.istore_n 3, 1) := by decide +kernel
theorem dX9_rate_73 : decode cX9_rate 73 = .ok (.iinc 4 1, 3) := by decide +kernel
theorem dX9_rate_76 : decode cX9_rate 76 = .ok (.goto (-39), 3) := by decide +kernel
theorem dX9_rate_79 : decode cX9_rate 79 = .ok (.aload_n 0, 1) := by decide +kernel
theorem dX9_rate_80 : decode cX9_rate 80 = .ok (.getfield 22, 3) := by decide +kernel
theorem dX9_rate_83 : decode cX9_rate 83 = .ok (.iconst 2, 1) := by decide +kernel
theorem dX9_rate_84 : decode cX9_rate 84 = .ok (.iload_n 2, 1) := by decide +kernel
theorem dX9_rate_85 : decode cX9_rate 85 = .ok (.iadd, 1) := by decide +kernel
theorem dX9_rate_86 : decode cX9_rate 86 = .ok (.iaload, 1) := by decide +kernel
theorem dX9_rate_87 : decode cX9_rate 87 = .ok (.istore 4, 2) := by decide +kernel
theorem dX9_rate_89 : decode cX9_rate 89 = .ok (.iconst 0, 1) := by decide +kernel
theorem dX9_rate_90 : decode cX9_rate 90 = .ok (.istore 5, 2) := by decide +kernel
theorem dX9_rate_92 : decode cX9_rate 92 = .ok (.iload 5, 2) := by decide +kernel
theorem dX9_rate_94 : decode cX9_rate 94 = .ok (.aload_n 0, 1) := by decide +kernel
theorem dX9_rate_95 : decode cX9_rate 95 = .ok (.getfield 38, 3) := by decide +kernel
theorem dX9_rate_98 : decode cX9_rate 98 = .ok (.if_icmp .ge 35, 3) := by decide +kernel
theorem dX9_rate_101 : decode cX9_rate 101 = .ok (.iload 4, 2) := by decide +kernel
theorem dX9_rate_103 : decode cX9_rate 103 = .ok (.aload_n 0, 1) := by decide +kernel
theorem dX9_rate_104 : decode cX9_rate 104 = .ok (.iload 5, 2) := by decide +kernel
theorem dX9_rate_106 : decode cX9_rate 106 = .ok (.aload_n 0, 1) := by decide +kernel
theorem dX9_rate_107 : decode cX9_rate 107 = .ok (.getfield 22, 3) := by decide +kernel
theorem dX9_rate_110 : decode cX9_rate 110 = .ok (.iconst 0, 1) := by decide +kernel
theorem dX9_rate_111 : decode cX9_rate 111 = .ok (.iaload, 1) := by decide +kernel
