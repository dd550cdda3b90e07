theorem dX7_readWord_82 : decode cX7_readWord 82 = .ok (.aload_n 0, 1) := by decide +kernel
theorem dX7_readWord_83 : decode cX7_readWord 83 = .ok (.bipush 6, 2) := by decide +kernel
theorem dX7_readWord_85 : decode cX7_readWord 85 = .ok (.putfield 19, 3) := by decide +kernel
theorem dX7_readWord_88 : decode cX7_readWord 88 = .ok (.goto 22, 3) := by decide +kernel
theorem dX7_readWord_91 : decode cX7_readWord 91 = .ok (.aload_n 0, 1) := by decide +kernel
theorem dX7_readWord_92 : decode cX7_readWord 92 = .ok (.aload_n 0, 1) := by decide +kernel
theorem dX7_readWord_93 : decode cX7_readWord 93 = .ok (.ldc 64, 2) := by decide +kernel
theorem dX7_readWord_95 : decode cX7_readWord 95 = .ok (.invokevirtual 56, 3) := by decide +kernel
theorem dX7_readWord_98 : decode cX7_readWord 98 = .ok (.ifCond .eq 8, 3) := by decide +kernel
theorem dX7_readWord_101 : decode cX7_readWord 101 = .ok (.bipush 7, 2) := by decide +kernel
theorem dX7_readWord_103 : decode cX7_readWord 103 = .ok (.goto 4, 3) := by decide +kernel
theorem dX7_readWord_106 : decode cX7_readWord 106 = .ok (.iconst 1, 1) := by decide +kernel
theorem dX7_readWord_107 : decode cX7_readWord 107 = .ok (.putfield 19, 3) := by decide +kernel
theorem dX7_readWord_110 : decode cX7_readWord 110 = .ok (.return_, 1) := by decide +kernel
set_option maxRecDepth 20000 in
theorem ggX7_isWord_J0_length_8abf5 : GoodIn wsX7_isWord wsJ0_length_8abf5 := goodIn_r _ [8, 9, 10, 11, 12, 7, 13, 14, 15] (by decide +kernel) (by decide +kernel)
set_option maxRecDepth 20000 in
theorem gX7_isWord_J0_length_8abf5 : GoodIn wsX7_isWord (wsV RX7 66 RJ0 yJ0_length_8abf5 wsJ0_length_8abf5) := goodIn_app (goodIn_of _ (by decide +kernel)) ggX7_isWord_J0_length_8abf5
set_option maxRecDepth 20000 in
theorem ggX7_isWord_J0_charAt_5068e : GoodIn wsX7_isWord wsJ0_charAt_5068e := goodIn_r _ [19, 9, 20, 21, 22, 7, 23, 14, 15, 24, 25, 26, 27, 28, 29, 30, 31, 32, 33, 34, 35, 36, 37, 38, 39, 40, 41, 42, 43, 44, 45, 46, 47, 48, 49, 50, 51, 52] (by decide +kernel) (by decide +kernel)
set_option maxRecDepth 20000 in
theorem gX7_isWord_J0_charAt_5068e : GoodIn wsX7_isWord (wsV RX7 71 RJ0 yJ0_charAt_5068e wsJ0_charAt_5068e) := goodIn_app (goodIn_of _ (by decide +kernel)) ggX7_isWord_J0_charAt_5068e
theorem dX7_isWord_0 : decode cX7_isWord 0 = .ok (.aload_n 0, 1) := by decide +kernel
theorem dX7_isWord_1 : decode cX7_isWord 1 = .ok (.getfield 28, 3) := by decide +kernel
theorem dX7_isWord_4 : decode cX7_isWord 4 = .ok (.aload_n 0, 1) := by decide +kernel
theorem dX7_isWord_5 : decode cX7_isWord 5 = .ok (.getfield 22, 3) := by decide +kernel
theorem dX7_isWord_8 : decode cX7_isWord 8 = .ok (.isub, 1) := by decide +kernel
theorem dX7_isWord_9 : decode cX7_isWord 9 = .ok (.aload_n 1, 1) := by decide +kernel
theorem dX7_isWord_10 : decode cX7_isWord 10 = .ok (.invokevirtual 66, 3) := by decide +kernel
theorem dX7_isWord_13 : decode cX7_isWord 13 = .ok (.if_icmp .eq 5, 3) := by decide +kernel
theorem dX7_isWord_16 : decode cX7_isWord 16 = .ok (.iconst 0, 1) := by decide +kernel
theorem dX7_isWord_17 : decode cX7_isWord 17 = .ok (.ireturn, 1) := by decide +kernel
theorem dX7_isWord_18 : decode cX7_isWord 18 = .ok (.iconst 0, 1) := by decide +kernel
theorem dX7_isWord_19 : decode cX7_isWord 19 = .ok (.istore_n 2, 1) := by decide +kernel
theorem dX7_isWord_20 : decode cX7_isWord 20 = .ok (.iload_n 2, 1) := by decide +kernel
theorem dX7_isWord_21 : decode cX7_isWord 21 = .ok (.aload_n 1, 1) := by decide +kernel
theorem dX7_isWord_22 : decode cX7_isWord 22 = .ok (.invokevirtual 66, 3) := by decide +kernel
theorem dX7_isWord_25 : decode cX7_isWord 25 = .ok (.if_icmp .ge 30, 3) := by decide +kernel
theorem dX7_isWord_28 : decode cX7_isWord 28 = .ok (.aload_n 0, 1) := by decide +kernel
theorem dX7_isWord_29 : decode cX7_isWord 29 = .ok (.getfield 9, 3) := by decide +kernel
theorem dX7_isWord_32 : decode cX7_isWord 32 = .ok (.aload_n 0, 1) := by decide +kernel
theorem dX7_isWord_33 : decode cX7_isWord 33 = .ok (.getfield 22, 3) := by decide +kernel
theorem dX7_isWord_36 : decode cX7_isWord 36 = .ok (.iload_n 2, 1) := by decide +kernel
theorem dX7_isWord_37 : decode cX7_isWord 37 = .ok (.iadd, 1) := by decide +kernel
theorem dX7_isWord_38 : decode cX7_isWord 38 = .ok (.caload, 1) := by decide +kernel
theorem dX7_isWord_39 : decode cX7_isWord 39 = .ok (.aload_n 1, 1) := by decide +kernel
theorem dX7_isWord_40 : decode cX7_isWord 40 = .ok (.iload_n 2, 1) := by decide +kernel
theorem dX7_isWord_41 : decode cX7_isWord 41 = .ok (.invokevirtual 71, 3) := by decide +kernel
theorem dX7_isWord_44 : decode cX7_isWord 44 = .ok (.if_icmp .eq 5, 3) := by decide +kernel
theorem dX7_isWord_47 : decode cX7_isWord 47 = .ok (.iconst 0, 1) := by decide +kernel
theorem dX7_isWord_48 : decode cX7_isWord 48 = .ok (.ireturn, 1) := by decide +kernel
theorem dX7_isWord_49 : decode cX7_isWord 49 = .ok (.iinc 2 1, 3) := by decide +kernel
theorem dX7_isWord_52 : decode cX7_isWord 52 = .ok (.goto (-32), 3) := by decide +kernel
theorem dX7_isWord_55 : decode cX7_isWord 55 = .ok (.iconst 1, 1) := by decide +kernel
theorem dX7_isWord_56 : decode cX7_isWord 56 = .ok (.ireturn, 1) := by decide +kernel
theorem dX7_isDigit_0 : decode cX7_isDigit 0 = .ok (.iload_n 0, 1) := by decide +kernel
theorem dX7_isDigit_1 : decode cX7_isDigit 1 = .ok (.bipush 48, 2) := by decide +kernel
theorem dX7_isDigit_3 : decode cX7_isDigit 3 = .ok (.if_icmp .lt 13, 3) := by decide +kernel
theorem dX7_isDigit_6 : decode cX7_isDigit 6 = .ok (.iload_n 0, 1) := by decide +kernel
theorem dX7_isDigit_7 : decode cX7_isDigit 7 = .ok (.bipush 57, 2) := by decide +kernel
theorem dX7_isDigit_9 : decode cX7_isDigit 9 = .ok (.if_icmp .gt 7, 3) := by decide +kernel
theorem dX7_isDigit_12 : decode cX7_isDigit 12 = .ok (.iconst 1, 1) := by decide +kernel
theorem dX7_isDigit_13 : decode cX7_isDigit 13 = .ok (.goto 4, 3) := by decide +kernel
theorem dX7_isDigit_16 : decode cX7_isDigit 16 = .ok (.iconst 0, 1) := by decide +kernel
theorem dX7_isDigit_17 : decode cX7_isDigit 17 = .ok (.ireturn, 1) := by decide +kernel
theorem dX7_isLetter_0 : decode cX7_isLetter 0 = .ok (.iload_n 0, 1) := by decide +kernel
theorem dX7_isLetter_1 : decode cX7_isLetter 1 = .ok (.bipush 97, 2) := by decide +kernel
theorem dX7_isLetter_3 : decode cX7_isLetter 3 = .ok (.if_icmp .lt 13, 3) := by decide +kernel
theorem dX7_isLetter_6 : decode cX7_isLetter 6 = .ok (.iload_n 0, 1) := by decide +kernel
theorem dX7_isLetter_7 : decode cX7_isLetter 7 = .ok (.bipush 122, 2) := by decide +kernel
theorem dX7_isLetter_9 : decode cX7_isLetter 9 = .ok (.if_icmp .gt 7, 3) := by decide +kernel
theorem dX7_isLetter_12 : decode cX7_isLetter 12 = .ok (.iconst 1, 1) := by decide +kernel
theorem dX7_isLetter_13 : decode cX7_isLetter 13 = .ok (.goto 4, 3) := by decide +kernel
theorem dX7_isLetter_16 : decode cX7_isLetter 16 = .ok (.iconst 0, 1) := by decide +kernel
theorem dX7_isLetter_17 : decode cX7_isLetter 17 = .ok (.ireturn, 1) := by decide +kernel
set_option maxRecDepth 20000 in
theorem ggX8_init_X7_init : GoodIn wsX8_init wsX7_init := goodIn_r _ [38, 39, 2, 3, 40, 41, 42, 43, 44, 45, 46, 113, 114, 115, 116, 117, 118] (by decide +kernel) (by decide +kernel)
set_option maxRecDepth 20000 in
theorem gX8_init_X7_init_n9 : GoodIn wsX8_init (wsX7_init) := ggX8_init_X7_init
set_option maxRecDepth 20000 in
theorem ggX8_init_X3_init : GoodIn wsX8_init wsX3_init := goodIn_r _ [48, 49, 2, 3, 33, 50, 131] (by decide +kernel) (by decide +kernel)
set_option maxRecDepth 20000 in
theorem gX8_init_X3_init_n18 : GoodIn wsX8_init (wsX3_init) := ggX8_init_X3_init
set_option maxRecDepth 20000 in
theorem ggX8_init_X5_init : GoodIn wsX8_init wsX5_init := goodIn_r _ [52, 53, 2, 3, 54, 55, 33, 56, 57, 58, 59, 60, 61, 62, 63, 64, 65, 66, 67, 68, 69, 70, 71, 72, 73, 74, 75, 132, 133, 134, 135, 136, 137, 138, 139, 154, 155, 156] (by decide +kernel) (by decide +kernel)
set_option maxRecDepth 20000 in
theorem gX8_init_X5_init_n25 : GoodIn wsX8_init (wsX5_init) := ggX8_init_X5_init
set_option maxRecDepth 20000 in
theorem ggX8_init_X0_init : GoodIn wsX8_init wsX0_init := goodIn_r _ [77, 78, 2, 3, 79, 80, 33, 81, 82, 62, 63, 83, 84, 85, 86, 87, 88, 66, 67, 68, 69, 70, 71, 72, 73, 74, 75, 89, 90, 91, 92, 93, 94, 95, 140, 141, 142, 143, 144, 154, 155, 156, 157, 158] (by decide +kernel) (by decide +kernel)
set_option maxRecDepth 20000 in
theorem gX8_init_X0_init_n35 : GoodIn wsX8_init (wsX0_init) := ggX8_init_X0_init
set_option maxRecDepth 20000 in
theorem ggX8_init_X1_init : GoodIn wsX8_init wsX1_init := goodIn_r _ [97, 98, 2, 3, 99, 62, 63, 100, 33, 101, 102, 103, 104, 105, 106, 66, 67, 68, 69, 70, 71, 72, 73, 74, 75, 154, 155, 156, 145, 146, 147, 148, 149, 150] (by decide +kernel) (by decide +kernel)
set_option maxRecDepth 20000 in
theorem gX8_init_X1_init_n52 : GoodIn wsX8_init (wsX1_init) := ggX8_init_X1_init
set_option maxRecDepth 20000 in
theorem ggX8_init_X4_init : GoodIn wsX8_init wsX4_init := goodIn_r _ [108, 109, 2, 3, 110, 33, 111, 112, 151, 152, 153] (by decide +kernel) (by decide +kernel)
set_option maxRecDepth 20000 in
theorem gX8_init_X4_init_n59 : GoodIn wsX8_init (wsX4_init) := ggX8_init_X4_init
theorem dX8_init_0 : decode cX8_init 0 = .ok (.aload_n 0, 1) := by decide +kernel
theorem dX8_init_1 : decode cX8_init 1 = .ok (.invokespecial 1, 3) := by decide +kernel
theorem dX8_init_4 : decode cX8_init 4 = .ok (.aload_n 0, 1) := by decide +kernel
theorem dX8_init_5 : decode cX8_init 5 = .ok (.new 7, 3) := by decide +kernel
theorem dX8_init_8 : decode cX8_init 8 = .ok (.dup, 1) := by decide +kernel
theorem dX8_init_9 : decode cX8_init 9 = .ok (.invokespecial 9, 3) := by decide +kernel
theorem dX8_init_12 : decode cX8_init 12 = .ok (.putfield 10, 3) := by decide +kernel
theorem dX8_init_15 : decode cX8_init 15 = .ok (.aload_n 0, 1) := by decide +kernel
theorem dX8_init_16 : decode cX8_init 16 = .ok (.new 16, 3) := by decide +kernel
theorem dX8_init_19 : decode cX8_init 19 = .ok (.dup, 1) := by decide +kernel
theorem dX8_init_20 : decode cX8_init 20 = .ok (.invokespecial 18, 3) := by decide +kernel
theorem dX8_init_23 : decode cX8_init 23 = .ok (.putfield 19, 3) := by decide +kernel
theorem dX8_init_26 : decode cX8_init 26 = .ok (.aload_n 0, 1) := by decide +kernel
theorem dX8_init_27 : decode cX8_init 27 = .ok (.new 23, 3) := by decide +kernel
theorem dX8_init_30 : decode cX8_init 30 = .ok (.dup, 1) := by decide +kernel
theorem dX8_init_31 : decode cX8_init 31 = .ok (.invokespecial 25, 3) := by decide +kernel
theorem dX8_init_34 : decode cX8_init 34 = .ok (.putfield 26, 3) := by decide +kernel
theorem dX8_init_37 : decode cX8_init 37 = .ok (.aload_n 0, 1) := by decide +kernel
theorem dX8_init_38 : decode cX8_init 38 = .ok (.new 23, 3) := by decide +kernel
theorem dX8_init_41 : decode cX8_init 41 = .ok (.dup, 1) := by decide +kernel
theorem dX8_init_42 : decode cX8_init 42 = .ok (.invokespecial 25, 3) := by decide +kernel
theorem dX8_init_45 : decode cX8_init 45 = .ok (.putfield 30, 3) := by decide +kernel
theorem dX8_init_48 : decode cX8_init 48 = .ok (.aload_n 0, 1) := by decide +kernel
theorem dX8_init_49 : decode cX8_init 49 = .ok (.new 33, 3) := by decide +kernel
theorem dX8_init_52 : decode cX8_init 52 = .ok (.dup, 1) := by decide +kernel
theorem dX8_init_53 : decode cX8_init 53 = .ok (.invokespecial 35, 3) := by decide +kernel
theorem dX8_init_56 : decode cX8_init 56 = .ok (.putfield 36, 3) := by decide +kernel
theorem dX8_init_59 : decode cX8_init 59 = .ok (.aload_n 0, 1) := by decide +kernel
theorem dX8_init_60 : decode cX8_init 60 = .ok (.new 33, 3) := by decide +kernel
theorem dX8_init_63 : decode cX8_init 63 = .ok (.dup, 1) := by decide +kernel
theorem dX8_init_64 : decode cX8_init 64 = .ok (.invokespecial 35, 3) := by decide +kernel
theorem dX8_init_67 : decode cX8_init 67 = .ok (.putfield 40, 3) := by decide +kernel
theorem dX8_init_70 : decode cX8_init 70 = .ok (.aload_n 0, 1) := by decide +kernel
theorem dX8_init_71 : decode cX8_init 71 = .ok (.new 33, 3) := by decide +kernel
theorem dX8_init_74 : decode cX8_init 74 = .ok (.dup, 1) := by decide +kernel
theorem dX8_init_75 : decode cX8_init 75 = .ok (.invokespecial 35, 3) := by decide +kernel
theorem dX8_init_78 : decode cX8_init 78 = .ok (.putfield 43, 3) := by decide +kernel
theorem dX8_init_81 : decode cX8_init 81 = .ok (.aload_n 0, 1) := by decide +kernel
theorem dX8_init_82 : decode cX8_init 82 = .ok (.iconst 2, 1) := by decide +kernel
theorem dX8_init_83 : decode cX8_init 83 = .ok (.newarray .boolean, 2) := by decide +kernel
theorem dX8_init_85 : decode cX8_init 85 = .ok (.putfield 46, 3) := by decide +kernel
theorem dX8_init_88 : decode cX8_init 88 = .ok (.aload_n 0, 1) := by decide +kernel
theorem dX8_init_89 : decode cX8_init 89 = .ok (.new 50, 3) := by decide +kernel
theorem dX8_init_92 : decode cX8_init 92 = .ok (.dup, 1) := by decide +kernel
theorem dX8_init_93 : decode cX8_init 93 = .ok (.invokespecial 52, 3) := by decide +kernel
theorem dX8_init_96 : decode cX8_init 96 = .ok (.putfield 53, 3) := by decide +kernel
theorem dX8_init_99 : decode cX8_init 99 = .ok (.aload_n 0, 1) := by decide +kernel
theorem dX8_init_100 : decode cX8_init 100 = .ok (.new 57, 3) := by decide +kernel
theorem dX8_init_103 : decode cX8_init 103 = .ok (.dup, 1) := by decide +kernel
theorem dX8_init_104 : decode cX8_init 104 = .ok (.invokespecial 59, 3) := by decide +kernel
theorem dX8_init_107 : decode cX8_init 107 = .ok (.putfield 60, 3) := by decide +kernel
theorem dX8_init_110 : decode cX8_init 110 = .ok (.aload_n 0, 1) := by decide +kernel
theorem dX8_init_111 : decode cX8_init 111 = .ok (.bipush 24, 2) := by decide +kernel
theorem dX8_init_113 : decode cX8_init 113 = .ok (.newarray .int, 2) := by decide +kernel
theorem dX8_init_115 : decode cX8_init 115 = .ok (.putfield 64, 3) := by decide +kernel
theorem dX8_init_118 : decode cX8_init 118 = .ok (.aload_n 0, 1) := by decide +kernel
theorem dX8_init_119 : decode cX8_init 119 = .ok (.lconst 0, 1) := by decide +kernel
theorem dX8_init_120 : decode cX8_init 120 = .ok (.putfield 68, 3) := by decide +kernel
theorem dX8_init_123 : decode cX8_init 123 = .ok (.aload_n 0, 1) := by decide +kernel
theorem dX8_init_124 : decode cX8_init 124 = .ok (.getfield 36, 3) := by decide +kernel
theorem dX8_init_127 : decode cX8_init 127 = .ok (.iconst 1, 1) := by decide +kernel
theorem dX8_init_128 : decode cX8_init 128 = .ok (.putfield 72, 3) := by decide +kernel
theorem dX8_init_131 : decode cX8_init 131 = .ok (.return_, 1) := by decide +kernel
set_option maxRecDepth 20000 in
theorem ggX8_type_X7_hasRoomFor : GoodIn wsX8_type wsX7_hasRoomFor := goodIn_r _ [7, 8, 27, 28, 29, 30, 31, 32] (by decide +kernel) (by decide +kernel)
set_option maxRecDepth 20000 in
theorem gX8_type_X7_hasRoomFor : GoodIn wsX8_type (wsV RX8 76 RX7 yX7_hasRoomFor wsX7_hasRoomFor) := goodIn_app (goodIn_of _ (by decide +kernel)) ggX8_type_X7_hasRoomFor
set_option maxRecDepth 20000 in
theorem ggX8_type_X7_append : GoodIn wsX8_type wsX7_append := goodIn_r _ [12, 13, 8, 14, 4, 5, 6, 7, 27, 28, 29, 30, 31, 32] (by decide +kernel) (by decide +kernel)
set_option maxRecDepth 20000 in
theorem gX8_type_X7_append : GoodIn wsX8_type (wsV RX8 80 RX7 yX7_append wsX7_append) := goodIn_app (goodIn_of _ (by decide +kernel)) ggX8_type_X7_append
theorem dX8_type_0 : decode cX8_type 0 = .ok (.iload_n 3, 1) := by decide +kernel
theorem dX8_type_1 : decode cX8_type 1 = .ok (.iconst 1, 1) := by decide +kernel
theorem dX8_type_2 : decode cX8_type 2 = .ok (.if_icmp .lt 9, 3) := by decide +kernel
theorem dX8_type_5 : decode cX8_type 5 = .ok (.iload_n 3, 1) := by decide +kernel
theorem dX8_type_6 : decode cX8_type 6 = .ok (.bipush 8, 2) := by decide +kernel
theorem dX8_type_8 : decode cX8_type 8 = .ok (.if_icmp .le 5, 3) := by decide +kernel
theorem dX8_type_11 : decode cX8_type 11 = .ok (.iconst (-1), 1) := by decide +kernel
theorem dX8_type_12 : decode cX8_type 12 = .ok (.ireturn, 1) := by decide +kernel
theorem dX8_type_13 : decode cX8_type 13 = .ok (.aload_n 0, 1) := by decide +kernel
theorem dX8_type_14 : decode cX8_type 14 = .ok (.getfield 10, 3) := by decide +kernel
theorem dX8_type_17 : decode cX8_type 17 = .ok (.iload_n 3, 1) := by decide +kernel
theorem dX8_type_18 : decode cX8_type 18 = .ok (.invokevirtual 76, 3) := by decide +kernel
theorem dX8_type_21 : decode cX8_type 21 = .ok (.ifCond .ne 6, 3) := by decide +kernel
theorem dX8_type_24 : decode cX8_type 24 = .ok (.bipush (-3), 2) := by decide +kernel
theorem dX8_type_26 : decode cX8_type 26 = .ok (.ireturn, 1) := by decide +kernel
theorem dX8_type_27 : decode cX8_type 27 = .ok (.iload_n 3, 1) := by decide +kernel
theorem dX8_type_28 : decode cX8_type 28 = .ok (.iconst 1, 1) := by decide +kernel
theorem dX8_type_29 : decode cX8_type 29 = .ok (.isub, 1) := by decide +kernel
theorem dX8_type_30 : decode cX8_type 30 = .ok (.istore 4, 2) := by decide +kernel
theorem dX8_type_32 : decode cX8_type 32 = .ok (.iload 4, 2) := by decide +kernel
theorem dX8_type_34 : decode cX8_type 34 = .ok (.ifCond .lt 28, 3) := by decide +kernel
theorem dX8_type_37 : decode cX8_type 37 = .ok (.aload_n 0, 1) := by decide +kernel
theorem dX8_type_38 : decode cX8_type 38 = .ok (.getfield 10, 3) := by decide +kernel
theorem dX8_type_41 : decode cX8_type 41 = .ok (.lload_n 1, 1) := by decide +kernel
theorem dX8_type_42 : decode cX8_type 42 = .ok (.bipush 8, 2) := by decide +kernel
theorem dX8_type_44 : decode cX8_type 44 = .ok (.iload 4, 2) := by decide +kernel
theorem dX8_type_46 : decode cX8_type 46 = .ok (.imul, 1) := by decide +kernel
theorem dX8_type_47 : decode cX8_type 47 = .ok (.lushr, 1) := by decide +kernel
theorem dX8_type_48 : decode cX8_type 48 = .ok (.l2i, 1) := by decide +kernel
theorem dX8_type_49 : decode cX8_type 49 = .ok (.sipush 255, 3) := by decide +kernel
theorem dX8_type_52 : decode cX8_type 52 = .ok (.iand, 1) := by decide +kernel
theorem dX8_type_53 : decode cX8_type 53 = .ok (.invokevirtual 80, 3) := by decide +kernel
theorem dX8_type_56 : decode cX8_type 56 = .ok (.iinc 4 (-1), 3) := by decide +kernel
theorem dX8_type_59 : decode cX8_type 59 = .ok (.goto (-27), 3) := by decide +kernel
theorem dX8_type_62 : decode cX8_type 62 = .ok (.aload_n 0, 1) := by decide +kernel
theorem dX8_type_63 : decode cX8_type 63 = .ok (.getfield 10, 3) := by decide +kernel
theorem dX8_type_66 : decode cX8_type 66 = .ok (.getfield 84, 3) := by decide +kernel
theorem dX8_type_69 : decode cX8_type 69 = .ok (.ireturn, 1) := by decide +kernel
theorem dX8_clear_0 : decode cX8_clear 0 = .ok (.aload_n 0, 1) := by decide +kernel
theorem dX8_clear_1 : decode cX8_clear 1 = .ok (.getfield 10, 3) := by decide +kernel
theorem dX8_clear_4 : decode cX8_clear 4 = .ok (.getfield 84, 3) := by decide +kernel
theorem dX8_clear_7 : decode cX8_clear 7 = .ok (.istore_n 1, 1) := by decide +kernel
theorem dX8_clear_8 : decode cX8_clear 8 = .ok (.aload_n 0, 1) := by decide +kernel
theorem dX8_clear_9 : decode cX8_clear 9 = .ok (.getfield 10, 3) := by decide +kernel
theorem dX8_clear_12 : decode cX8_clear 12 = .ok (.iconst 0, 1) := by decide +kernel
theorem dX8_clear_13 : decode cX8_clear 13 = .ok (.putfield 84, 3) := by decide +kernel
theorem dX8_clear_16 : decode cX8_clear 16 = .ok (.iload_n 1, 1) := by decide +kernel
theorem dX8_clear_17 : decode cX8_clear 17 = .ok (.ireturn, 1) := by decide +kernel
set_option maxRecDepth 20000 in
theorem ggX8_sky_X3_read : GoodIn wsX8_sky wsX3_read := goodIn_r _ [17, 18, 19, 20, 21, 22, 23, 24, 25, 26, 27, 28, 29, 30, 31, 32, 33, 34, 35, 36, 37, 38, 39, 40, 41, 42, 43, 44, 45, 46, 47, 48, 49, 50, 51, 52, 53, 54, 55, 56, 57, 58, 59, 60, 61, 62, 63, 64, 65, 66, 67, 68, 69, 70, 71, 72, 73, 74, 75, 76, 77, 78, 79, 80, 81, 82, 83, 84, 85, 86, 87, 88, 89, 90, 91, 92, 93, 94, 95, 96, 97, 98, 99, 100, 101, 102, 103, 104, 105, 106, 107, 108, 109, 110, 111, 112, 113, 114, 115, 116, 117, 118, 16, 119, 120, 121, 122, 123, 124, 125, 126, 127, 128, 129, 130, 131, 132, 133, 134, 135, 136, 137, 138, 139, 140, 141, 142, 143, 144, 145, 146, 147, 148, 149, 150, 151, 152, 153, 154, 155, 156, 157, 158, 159, 160, 161, 162, 163, 164, 165, 200, 201, 202, 203, 204, 205, 218, 219, 220, 221, 222, 223, 224, 225, 226, 212, 213, 214] (by decide +kernel) (by decide +kernel)
set_option maxRecDepth 20000 in
theorem gX8_sky_X3_read : GoodIn wsX8_sky (wsV RX8 87 RX3 yX3_read wsX3_read) := goodIn_app (goodIn_of _ (by decide +kernel)) ggX8_sky_X3_read
set_option maxRecDepth 20000 in
theorem ggX8_sky_X0_startWith : GoodIn wsX8_sky wsX0_startWith := goodIn_r _ [170, 171, 172, 173, 174, 175, 176, 177, 178, 179, 180, 181, 182, 183, 184, 185, 126, 186, 164, 187, 128, 227, 228, 229, 230, 231, 219, 220, 221, 222, 223, 224, 225, 226, 232, 233, 212, 213, 214] (by decide +kernel) (by decide +kernel)
set_option maxRecDepth 20000 in
theorem gX8_sky_X0_startWith : GoodIn wsX8_sky (wsV RX8 91 RX0 yX0_startWith wsX0_startWith) := goodIn_app (goodIn_of _ (by decide +kernel)) ggX8_sky_X0_startWith
theorem dX8_sky_0 : decode cX8_sky 0 = .ok (.aload_n 0, 1) := by decide +kernel
theorem dX8_sky_1 : decode cX8_sky 1 = .ok (.getfield 19, 3) := by decide +kernel
theorem dX8_sky_4 : decode cX8_sky 4 = .ok (.aload_n 0, 1) := by decide +kernel
theorem dX8_sky_5 : decode cX8_sky 5 = .ok (.getfield 10, 3) := by decide +kernel
theorem dX8_sky_8 : decode cX8_sky 8 = .ok (.aload_n 0, 1) := by decide +kernel
theorem dX8_sky_9 : decode cX8_sky 9 = .ok (.getfield 30, 3) := by decide +kernel
theorem dX8_sky_12 : decode cX8_sky 12 = .ok (.invokevirtual 87, 3) := by decide +kernel
theorem dX8_sky_15 : decode cX8_sky 15 = .ok (.istore_n 1, 1) := by decide +kernel
theorem dX8_sky_16 : decode cX8_sky 16 = .ok (.iload_n 1, 1) := by decide +kernel
theorem dX8_sky_17 : decode cX8_sky 17 = .ok (.ifCond .ge 5, 3) := by decide +kernel
theorem dX8_sky_20 : decode cX8_sky 20 = .ok (.iload_n 1, 1) := by decide +kernel
theorem dX8_sky_21 : decode cX8_sky 21 = .ok (.ireturn, 1) := by decide +kernel
theorem dX8_sky_22 : decode cX8_sky 22 = .ok (.aload_n 0, 1) := by decide +kernel
theorem dX8_sky_23 : decode cX8_sky 23 = .ok (.getfield 26, 3) := by decide +kernel
theorem dX8_sky_26 : decode cX8_sky 26 = .ok (.astore_n 2, 1) := by decide +kernel
theorem dX8_sky_27 : decode cX8_sky 27 = .ok (.aload_n 0, 1) := by decide +kernel
theorem dX8_sky_28 : decode cX8_sky 28 = .ok (.aload_n 0, 1) := by decide +kernel
theorem dX8_sky_29 : decode cX8_sky 29 = .ok (.getfield 30, 3) := by decide +kernel
theorem dX8_sky_32 : decode cX8_sky 32 = .ok (.putfield 26, 3) := by decide +kernel
theorem dX8_sky_35 : decode cX8_sky 35 = .ok (.aload_n 0, 1) := by decide +kernel
theorem dX8_sky_36 : decode cX8_sky 36 = .ok (.aload_n 2, 1) := by decide +kernel
theorem dX8_sky_37 : decode cX8_sky 37 = .ok (.putfield 30, 3) := by decide +kernel
theorem dX8_sky_40 : decode cX8_sky 40 = .ok (.aload_n 0, 1) := by decide +kernel
theorem dX8_sky_41 : decode cX8_sky 41 = .ok (.getfield 10, 3) := by decide +kernel
theorem dX8_sky_44 : decode cX8_sky 44 = .ok (.iconst 0, 1) := by decide +kernel
theorem dX8_sky_45 : decode cX8_sky 45 = .ok (.putfield 84, 3) := by decide +kernel
theorem dX8_sky_48 : decode cX8_sky 48 = .ok (.aload_n 0, 1) := by decide +kernel
theorem dX8_sky_49 : decode cX8_sky 49 = .ok (.getfield 36, 3) := by decide +kernel
theorem dX8_sky_52 : decode cX8_sky 52 = .ok (.aload_n 0, 1) := by decide +kernel
theorem dX8_sky_53 : decode cX8_sky 53 = .ok (.getfield 26, 3) := by decide +kernel
theorem dX8_sky_56 : decode cX8_sky 56 = .ok (.invokevirtual 91, 3) := by decide +kernel
theorem dX8_sky_59 : decode cX8_sky 59 = .ok (.aload_n 0, 1) := by decide +kernel
theorem dX8_sky_60 : decode cX8_sky 60 = .ok (.getfield 53, 3) := by decide +kernel
theorem dX8_sky_63 : decode cX8_sky 63 = .ok (.getfield 95, 3) := by decide +kernel
theorem dX8_sky_66 : decode cX8_sky 66 = .ok (.iconst 0, 1) := by decide +kernel
theorem dX8_sky_67 : decode cX8_sky 67 = .ok (.putfield 99, 3) := by decide +kernel
theorem dX8_sky_70 : decode cX8_sky 70 = .ok (.aload_n 0, 1) := by decide +kernel
theorem dX8_sky_71 : decode cX8_sky 71 = .ok (.getfield 60, 3) := by decide +kernel
theorem dX8_sky_74 : decode cX8_sky 74 = .ok (.iconst 0, 1) := by decide +kernel
theorem dX8_sky_75 : decode cX8_sky 75 = .ok (.putfield 104, 3) := by decide +kernel
theorem dX8_sky_78 : decode cX8_sky 78 = .ok (.iconst 0, 1) := by decide +kernel
theorem dX8_sky_79 : decode cX8_sky 79 = .ok (.istore_n 3, 1) := by decide +kernel
theorem dX8_sky_80 : decode cX8_sky 80 = .ok (.iload_n 3, 1) := by decide +kernel
theorem dX8_sky_81 : decode cX8_sky 81 = .ok (.iconst 2, 1) := by decide +kernel
theorem dX8_sky_82 : decode cX8_sky 82 = .ok (.if_icmp .ge 16, 3) := by decide +kernel
theorem dX8_sky_85 : decode cX8_sky 85 = .ok (.aload_n 0, 1) := by decide +kernel
theorem dX8_sky_86 : decode cX8_sky 86 = .ok (.getfield 46, 3) := by decide +kernel
theorem dX8_sky_89 : decode cX8_sky 89 = .ok (.iload_n 3, 1) := by decide +kernel
theorem dX8_sky_90 : decode cX8_sky 90 = .ok (.iconst 0, 1) := by decide +kernel
theorem dX8_sky_91 : decode cX8_sky 91 = .ok (.bastore, 1) := by decide +kernel
theorem dX8_sky_92 : decode cX8_sky 92 = .ok (.iinc 3 1, 3) := by decide +kernel
theorem dX8_sky_95 : decode cX8_sky 95 = .ok (.goto (-15), 3) := by decide +kernel
theorem dX8_sky_98 : decode cX8_sky 98 = .ok (.iload_n 1, 1) := by decide +kernel
theorem dX8_sky_99 : decode cX8_sky 99 = .ok (.ireturn, 1) := by decide +kernel
set_option maxRecDepth 20000 in
theorem ggX8_star_X5_hasStar : GoodIn wsX8_star wsX5_hasStar := goodIn_r _ [6, 7, 36, 37, 38, 39, 40, 41, 42, 43] (by decide +kernel) (by decide +kernel)
set_option maxRecDepth 20000 in
theorem gX8_star_X5_hasStar : GoodIn wsX8_star (wsV RX8 105 RX5 yX5_hasStar wsX5_hasStar) := goodIn_app (goodIn_of _ (by decide +kernel)) ggX8_star_X5_hasStar
set_option maxRecDepth 20000 in
theorem ggX8_star_X8_isWithin : GoodIn wsX8_star wsX8_isWithin := goodIn_r _ [11] (by decide +kernel) (by decide +kernel)
set_option maxRecDepth 20000 in
theorem gX8_star_X8_isWithin : GoodIn wsX8_star (va_wsS RX8 108 yX8_isWithin wsX8_isWithin) := goodIn_app (goodIn_of _ (by decide +kernel)) ggX8_star_X8_isWithin
set_option maxRecDepth 20000 in
theorem ggX8_star_X5_squareOf : GoodIn wsX8_star wsX5_squareOf := goodIn_r _ [15, 16, 17, 18, 3, 4, 5, 6, 7, 19, 20, 21, 22, 23, 36, 37, 38, 39, 40, 41, 42, 43] (by decide +kernel) (by decide +kernel)
set_option maxRecDepth 20000 in
theorem gX8_star_X5_squareOf : GoodIn wsX8_star (wsV RX8 112 RX5 yX5_squareOf wsX5_squareOf) := goodIn_app (goodIn_of _ (by decide +kernel)) ggX8_star_X5_squareOf
theorem dX8_star_0 : decode cX8_star 0 = .ok (.aload_n 0, 1) := by decide +kernel
theorem dX8_star_1 : decode cX8_star 1 = .ok (.getfield 26, 3) := by decide +kernel
theorem dX8_star_4 : decode cX8_star 4 = .ok (.iload_n 1, 1) := by decide +kernel
theorem dX8_star_5 : decode cX8_star 5 = .ok (.invokevirtual 105, 3) := by decide +kernel
theorem dX8_star_8 : decode cX8_star 8 = .ok (.ifCond .eq 14, 3) := by decide +kernel
theorem dX8_star_11 : decode cX8_star 11 = .ok (.iload_n 2, 1) := by decide +kernel
theorem dX8_star_12 : decode cX8_star 12 = .ok (.iconst 0, 1) := by decide +kernel
theorem dX8_star_13 : decode cX8_star 13 = .ok (.sipush 999, 3) := by decide +kernel
theorem dX8_star_16 : decode cX8_star 16 = .ok (.invokestatic 108, 3) := by decide +kernel
theorem dX8_star_19 : decode cX8_star 19 = .ok (.ifCond .ne 5, 3) := by decide +kernel
theorem dX8_star_22 : decode cX8_star 22 = .ok (.iconst (-1), 1) := by decide +kernel
theorem dX8_star_23 : decode cX8_star 23 = .ok (.ireturn, 1) := by decide +kernel
theorem dX8_star_24 : decode cX8_star 24 = .ok (.aload_n 0, 1) := by decide +kernel
theorem dX8_star_25 : decode cX8_star 25 = .ok (.getfield 26, 3) := by decide +kernel
theorem dX8_star_28 : decode cX8_star 28 = .ok (.iload_n 1, 1) := by decide +kernel
theorem dX8_star_29 : decode cX8_star 29 = .ok (.iload_n 2, 1) := by decide +kernel
theorem dX8_star_30 : decode cX8_star 30 = .ok (.invokevirtual 112, 3) := by decide +kernel
theorem dX8_star_33 : decode cX8_star 33 = .ok (.ireturn, 1) := by decide +kernel
set_option maxRecDepth 20000 in
theorem ggX8_lease_X6_has : GoodIn wsX8_lease wsX6_has := goodIn_r _ [7, 8, 36, 37, 38] (by decide +kernel) (by decide +kernel)
set_option maxRecDepth 20000 in
theorem gX8_lease_X6_has : GoodIn wsX8_lease (wsV RX8 119 RX6 yX6_has wsX6_has) := goodIn_app (goodIn_of _ (by decide +kernel)) ggX8_lease_X6_has
set_option maxRecDepth 20000 in
theorem ggX8_lease_X8_isWithin : GoodIn wsX8_lease wsX8_isWithin := goodIn_r _ [12] (by decide +kernel) (by decide +kernel)
set_option maxRecDepth 20000 in
theorem gX8_lease_X8_isWithin : GoodIn wsX8_lease (va_wsS RX8 108 yX8_isWithin wsX8_isWithin) := goodIn_app (goodIn_of _ (by decide +kernel)) ggX8_lease_X8_isWithin
set_option maxRecDepth 20000 in
theorem ggX8_lease_X6_part : GoodIn wsX8_lease wsX6_part := goodIn_r _ [16, 17, 18, 4, 5, 6, 7, 8, 10, 11, 12, 36, 37, 38] (by decide +kernel) (by decide +kernel)
set_option maxRecDepth 20000 in
theorem gX8_lease_X6_part : GoodIn wsX8_lease (wsV RX8 122 RX6 yX6_part wsX6_part) := goodIn_app (goodIn_of _ (by decide +kernel)) ggX8_lease_X6_part
theorem dX8_lease_0 : decode cX8_lease 0 = .ok (.aload_n 0, 1) := by decide +kernel
theorem dX8_lease_1 : decode cX8_lease 1 = .ok (.getfield 36, 3) := by decide +kernel
theorem dX8_lease_4 : decode cX8_lease 4 = .ok (.getfield 116, 3) := by decide +kernel
theorem dX8_lease_7 : decode cX8_lease 7 = .ok (.iload_n 1, 1) := by decide +kernel
theorem dX8_lease_8 : decode cX8_lease 8 = .ok (.invokevirtual 119, 3) := by decide +kernel
theorem dX8_lease_11 : decode cX8_lease 11 = .ok (.ifCond .eq 12, 3) := by decide +kernel
theorem dX8_lease_14 : decode cX8_lease 14 = .ok (.iload_n 2, 1) := by decide +kernel
theorem dX8_lease_15 : decode cX8_lease 15 = .ok (.iconst 0, 1) := by decide +kernel
theorem dX8_lease_16 : decode cX8_lease 16 = .ok (.iconst 4, 1) := by decide +kernel
theorem dX8_lease_17 : decode cX8_lease 17 = .ok (.invokestatic 108, 3) := by decide +kernel
theorem dX8_lease_20 : decode cX8_lease 20 = .ok (.ifCond .ne 5, 3) := by decide +kernel
theorem dX8_lease_23 : decode cX8_lease 23 = .ok (.iconst (-1), 1) := by decide +kernel
theorem dX8_lease_24 : decode cX8_lease 24 = .ok (.ireturn, 1) := by decide +kernel
theorem dX8_lease_25 : decode cX8_lease 25 = .ok (.aload_n 0, 1) := by decide +kernel
theorem dX8_lease_26 : decode cX8_lease 26 = .ok (.getfield 36, 3) := by decide +kernel
theorem dX8_lease_29 : decode cX8_lease 29 = .ok (.getfield 116, 3) := by decide +kernel
theorem dX8_lease_32 : decode cX8_lease 32 = .ok (.iload_n 1, 1) := by decide +kernel
theorem dX8_lease_33 : decode cX8_lease 33 = .ok (.iload_n 2, 1) := by decide +kernel
theorem dX8_lease_34 : decode cX8_lease 34 = .ok (.invokevirtual 122, 3) := by decide +kernel
theorem dX8_lease_37 : decode cX8_lease 37 = .ok (.ireturn, 1) := by decide +kernel
set_option maxRecDepth 20000 in
theorem ggX8_whose_X5_hasSquare : GoodIn wsX8_whose wsX5_hasSquare := goodIn_r _ [6, 7, 55, 56, 57, 58, 59, 60, 61, 62] (by decide +kernel) (by decide +kernel)
set_option maxRecDepth 20000 in
theorem gX8_whose_X5_hasSquare : GoodIn wsX8_whose (wsV RX8 125 RX5 yX5_hasSquare wsX5_hasSquare) := goodIn_app (goodIn_of _ (by decide +kernel)) ggX8_whose_X5_hasSquare
set_option maxRecDepth 20000 in
theorem ggX8_whose_X8_isWithin : GoodIn wsX8_whose wsX8_isWithin := goodIn_r _ [11] (by decide +kernel) (by decide +kernel)
set_option maxRecDepth 20000 in
theorem gX8_whose_X8_isWithin : GoodIn wsX8_whose (va_wsS RX8 108 yX8_isWithin wsX8_isWithin) := goodIn_app (goodIn_of _ (by decide +kernel)) ggX8_whose_X8_isWithin
set_option maxRecDepth 20000 in
theorem ggX8_whose_X8_ownerOf : GoodIn wsX8_whose wsX8_ownerOf := goodIn_r _ [15, 16, 17, 18, 1, 19, 20, 21, 22, 23, 24, 25, 26, 27, 28, 29, 30, 31, 32, 33, 34, 9, 10, 11, 35, 36, 37, 38, 39, 40, 41, 42, 43, 44, 45, 46, 47, 48, 49, 50, 51, 52, 53, 54, 63, 64, 65, 66, 67, 68, 69, 70, 55, 56, 57, 58, 59, 60, 61, 62] (by decide +kernel) (by decide +kernel)
set_option maxRecDepth 20000 in
theorem gX8_whose_X8_ownerOf : GoodIn wsX8_whose (wsV RX8 128 RX8 yX8_ownerOf wsX8_ownerOf) := goodIn_app (goodIn_of _ (by decide +kernel)) ggX8_whose_X8_ownerOf
theorem dX8_whose_0 : decode cX8_whose 0 = .ok (.aload_n 0, 1) := by decide +kernel
theorem dX8_whose_1 : decode cX8_whose 1 = .ok (.getfield 26, 3) := by decide +kernel
theorem dX8_whose_4 : decode cX8_whose 4 = .ok (.iload_n 1, 1) := by decide +kernel
theorem dX8_whose_5 : decode cX8_whose 5 = .ok (.invokevirtual 125, 3) := by decide +kernel
theorem dX8_whose_8 : decode cX8_whose 8 = .ok (.ifCond .eq 13, 3) := by decide +kernel
theorem dX8_whose_11 : decode cX8_whose 11 = .ok (.iload_n 2, 1) := by decide +kernel
theorem dX8_whose_12 : decode cX8_whose 12 = .ok (.iconst 0, 1) := by decide +kernel
theorem dX8_whose_13 : decode cX8_whose 13 = .ok (.bipush 99, 2) := by decide +kernel
theorem dX8_whose_15 : decode cX8_whose 15 = .ok (.invokestatic 108, 3) := by decide +kernel
theorem dX8_whose_18 : decode cX8_whose 18 = .ok (.ifCond .ne 5, 3) := by decide +kernel
theorem dX8_whose_21 : decode cX8_whose 21 = .ok (.iconst (-1), 1) := by decide +kernel
theorem dX8_whose_22 : decode cX8_whose 22 = .ok (.ireturn, 1) := by decide +kernel
theorem dX8_whose_23 : decode cX8_whose 23 = .ok (.aload_n 0, 1) := by decide +kernel
theorem dX8_whose_24 : decode cX8_whose 24 = .ok (.iload_n 1, 1) := by decide +kernel
theorem dX8_whose_25 : decode cX8_whose 25 = .ok (.iload_n 2, 1) := by decide +kernel
theorem dX8_whose_26 : decode cX8_whose 26 = .ok (.invokevirtual 128, 3) := by decide +kernel
theorem dX8_whose_29 : decode cX8_whose 29 = .ok (.ireturn, 1) := by decide +kernel
set_option maxRecDepth 20000 in
theorem ggX8_claims_X5_hasSquare : GoodIn wsX8_claims wsX5_hasSquare := goodIn_r _ [10, 11, 55, 56, 57, 58, 59, 60, 61, 62] (by decide +kernel) (by decide +kernel)
set_option maxRecDepth 20000 in
theorem gX8_claims_X5_hasSquare : GoodIn wsX8_claims (wsV RX8 125 RX5 yX5_hasSquare wsX5_hasSquare) := goodIn_app (goodIn_of _ (by decide +kernel)) ggX8_claims_X5_hasSquare
set_option maxRecDepth 20000 in
theorem ggX8_claims_X8_isWithin : GoodIn wsX8_claims wsX8_isWithin := goodIn_r _ [15] (by decide +kernel) (by decide +kernel)
set_option maxRecDepth 20000 in
theorem gX8_claims_X8_isWithin : GoodIn wsX8_claims (va_wsS RX8 108 yX8_isWithin wsX8_isWithin) := goodIn_app (goodIn_of _ (by decide +kernel)) ggX8_claims_X8_isWithin
set_option maxRecDepth 20000 in
theorem ggX8_claims_X6_covers : GoodIn wsX8_claims wsX6_covers := goodIn_r _ [20, 21, 22, 23, 19, 24, 25, 26, 27, 28, 29, 30, 13, 14, 15, 31, 32, 33, 34, 52, 53, 54] (by decide +kernel) (by decide +kernel)
set_option maxRecDepth 20000 in
theorem gX8_claims_X6_covers : GoodIn wsX8_claims (wsV RX8 134 RX6 yX6_covers wsX6_covers) := goodIn_app (goodIn_of _ (by decide +kernel)) ggX8_claims_X6_covers
theorem dX8_claims_0 : decode cX8_claims 0 = .ok (.aload_n 0, 1) := by decide +kernel
theorem dX8_claims_1 : decode cX8_claims 1 = .ok (.getfield 26, 3) := by decide +kernel
theorem dX8_claims_4 : decode cX8_claims 4 = .ok (.iload_n 1, 1) := by decide +kernel
theorem dX8_claims_5 : decode cX8_claims 5 = .ok (.invokevirtual 125, 3) := by decide +kernel
theorem dX8_claims_8 : decode cX8_claims 8 = .ok (.ifCond .eq 13, 3) := by decide +kernel
theorem dX8_claims_11 : decode cX8_claims 11 = .ok (.iload_n 2, 1) := by decide +kernel
theorem dX8_claims_12 : decode cX8_claims 12 = .ok (.iconst 0, 1) := by decide +kernel
theorem dX8_claims_13 : decode cX8_claims 13 = .ok (.bipush 99, 2) := by decide +kernel
theorem dX8_claims_15 : decode cX8_claims 15 = .ok (.invokestatic 108, 3) := by decide +kernel
theorem dX8_claims_18 : decode cX8_claims 18 = .ok (.ifCond .ne 5, 3) := by decide +kernel
theorem dX8_claims_21 : decode cX8_claims 21 = .ok (.iconst (-1), 1) := by decide +kernel
theorem dX8_claims_22 : decode cX8_claims 22 = .ok (.ireturn, 1) := by decide +kernel
theorem dX8_claims_23 : decode cX8_claims 23 = .ok (.iconst 0, 1) := by decide +kernel
theorem dX8_claims_24 : decode cX8_claims 24 = .ok (.istore_n 3, 1) := by decide +kernel
theorem dX8_claims_25 : decode cX8_claims 25 = .ok (.iconst 0, 1) := by decide +kernel
theorem dX8_claims_26 : decode cX8_claims 26 = .ok (.istore 4, 2) := by decide +kernel
theorem dX8_claims_28 : decode cX8_claims 28 = .ok (.iload 4, 2) := by decide +kernel
theorem dX8_claims_30 : decode cX8_claims 30 = .ok (.aload_n 0, 1) := by decide +kernel
theorem dX8_claims_31 : decode cX8_claims 31 = .ok (.getfield 36, 3) := by decide +kernel
theorem dX8_claims_34 : decode cX8_claims 34 = .ok (.getfield 116, 3) := by decide +kernel
theorem dX8_claims_37 : decode cX8_claims 37 = .ok (.getfield 99, 3) := by decide +kernel
theorem dX8_claims_40 : decode cX8_claims 40 = .ok (.if_icmp .ge 36, 3) := by decide +kernel
theorem dX8_claims_43 : decode cX8_claims 43 = .ok (.aload_n 0, 1) := by decide +kernel
theorem dX8_claims_44 : decode cX8_claims 44 = .ok (.getfield 36, 3) := by decide +kernel
theorem dX8_claims_47 : decode cX8_claims 47 = .ok (.getfield 116, 3) := by decide +kernel
theorem dX8_claims_50 : decode cX8_claims 50 = .ok (.iload 4, 2) := by decide +kernel
theorem dX8_claims_52 : decode cX8_claims 52 = .ok (.iload_n 1, 1) := by decide +kernel
theorem dX8_claims_53 : decode cX8_claims 53 = .ok (.iload_n 2, 1) := by decide +kernel
theorem dX8_claims_54 : decode cX8_claims 54 = .ok (.aload_n 0, 1) := by decide +kernel
theorem dX8_claims_55 : decode cX8_claims 55 = .ok (.getfield 26, 3) := by decide +kernel
theorem dX8_claims_58 : decode cX8_claims 58 = .ok (.getfield 131, 3) := by decide +kernel
theorem dX8_claims_61 : decode cX8_claims 61 = .ok (.invokevirtual 134, 3) := by decide +kernel
theorem dX8_claims_64 : decode cX8_claims 64 = .ok (.ifCond .eq 6, 3) := by decide +kernel
theorem dX8_claims_67 : decode cX8_claims 67 = .ok (.iinc 3 1, 3) := by decide +kernel
theorem dX8_claims_70 : decode cX8_claims 70 = .ok (.iinc 4 1, 3) := by decide +kernel
theorem dX8_claims_73 : decode cX8_claims 73 = .ok (.goto (-45), 3) := by decide +kernel
theorem dX8_claims_76 : decode cX8_claims 76 = .ok (.iload_n 3, 1) := by decide +kernel
theorem dX8_claims_77 : decode cX8_claims 77 = .ok (.ireturn, 1) := by decide +kernel
set_option maxRecDepth 20000 in
theorem ggX8_cycle_X5_nightsToRepeat : GoodIn wsX8_cycle wsX5_nightsToRepeat := goodIn_r _ [6, 7, 8, 9, 10, 11, 12, 25, 26, 27, 28, 29, 30, 31, 32] (by decide +kernel) (by decide +kernel)
set_option maxRecDepth 20000 in
theorem gX8_cycle_X5_nightsToRepeat : GoodIn wsX8_cycle (wsV RX8 138 RX5 yX5_nightsToRepeat wsX5_nightsToRepeat) := goodIn_app (goodIn_of _ (by decide +kernel)) ggX8_cycle_X5_nightsToRepeat
theorem dX8_cycle_0 : decode cX8_cycle 0 = .ok (.aload_n 0, 1) := by decide +kernel
theorem dX8_cycle_1 : decode cX8_cycle 1 = .ok (.getfield 26, 3) := by decide +kernel
theorem dX8_cycle_4 : decode cX8_cycle 4 = .ok (.invokevirtual 138, 3) := by decide +kernel
theorem dX8_cycle_7 : decode cX8_cycle 7 = .ok (.ireturn, 1) := by decide +kernel
set_option maxRecDepth 20000 in
theorem ggX8_night_X5_aroundRing : GoodIn wsX8_night wsX5_aroundRing := goodIn_r _ [12, 13, 82, 83, 84, 85, 86, 87, 88, 89] (by decide +kernel) (by decide +kernel)
set_option maxRecDepth 20000 in
theorem gX8_night_X5_aroundRing : GoodIn wsX8_night (wsV RX8 146 RX5 yX5_aroundRing wsX5_aroundRing) := goodIn_app (goodIn_of _ (by decide +kernel)) ggX8_night_X5_aroundRing
set_option maxRecDepth 20000 in
theorem ggX8_night_X8_broughtTo : GoodIn wsX8_night wsX8_broughtTo := goodIn_r _ [18, 5, 19, 20, 21, 22, 23, 11, 24, 25, 26, 27, 28, 29, 30, 31, 32, 9, 10, 12, 13, 33, 34, 35, 17, 36, 1, 37, 38, 39, 40, 41, 42, 43, 44, 45, 46, 47, 48, 49, 50, 51, 52, 53, 54, 55, 56, 57, 58, 59, 60, 61, 62, 63, 64, 65, 66, 67, 68, 69, 70, 71, 72, 73, 74, 75, 76, 82, 83, 84, 85, 86, 87, 88, 89, 77, 78, 79, 80, 81, 90, 91, 92] (by decide +kernel) (by decide +kernel)
set_option maxRecDepth 20000 in
theorem gX8_night_X8_broughtTo : GoodIn wsX8_night (wsV RX8 156 RX8 yX8_broughtTo wsX8_broughtTo) := goodIn_app (goodIn_of _ (by decide +kernel)) ggX8_night_X8_broughtTo
theorem dX8_night_0 : decode cX8_night 0 = .ok (.aload_n 0, 1) := by decide +kernel
theorem dX8_night_1 : decode cX8_night 1 = .ok (.getfield 36, 3) := by decide +kernel
theorem dX8_night_4 : decode cX8_night 4 = .ok (.getfield 142, 3) := by decide +kernel
theorem dX8_night_7 : decode cX8_night 7 = .ok (.bipush 99, 2) := by decide +kernel
theorem dX8_night_9 : decode cX8_night 9 = .ok (.if_icmp .lt 6, 3) := by decide +kernel
theorem dX8_night_12 : decode cX8_night 12 = .ok (.bipush (-2), 2) := by decide +kernel
theorem dX8_night_14 : decode cX8_night 14 = .ok (.ireturn, 1) := by decide +kernel
theorem dX8_night_15 : decode cX8_night 15 = .ok (.aload_n 0, 1) := by decide +kernel
theorem dX8_night_16 : decode cX8_night 16 = .ok (.getfield 36, 3) := by decide +kernel
theorem dX8_night_19 : decode cX8_night 19 = .ok (.aload_n 0, 1) := by decide +kernel
theorem dX8_night_20 : decode cX8_night 20 = .ok (.getfield 36, 3) := by decide +kernel
theorem dX8_night_23 : decode cX8_night 23 = .ok (.getfield 72, 3) := by decide +kernel
theorem dX8_night_26 : decode cX8_night 26 = .ok (.ldc 145, 2) := by decide +kernel
theorem dX8_night_28 : decode cX8_night 28 = .ok (.imul, 1) := by decide +kernel
theorem dX8_night_29 : decode cX8_night 29 = .ok (.sipush 12345, 3) := by decide +kernel
theorem dX8_night_32 : decode cX8_night 32 = .ok (.iadd, 1) := by decide +kernel
theorem dX8_night_33 : decode cX8_night 33 = .ok (.putfield 72, 3) := by decide +kernel
theorem dX8_night_36 : decode cX8_night 36 = .ok (.aload_n 0, 1) := by decide +kernel
theorem dX8_night_37 : decode cX8_night 37 = .ok (.getfield 26, 3) := by decide +kernel
theorem dX8_night_40 : decode cX8_night 40 = .ok (.aload_n 0, 1) := by decide +kernel
theorem dX8_night_41 : decode cX8_night 41 = .ok (.getfield 36, 3) := by decide +kernel
theorem dX8_night_44 : decode cX8_night 44 = .ok (.getfield 72, 3) := by decide +kernel
theorem dX8_night_47 : decode cX8_night 47 = .ok (.bipush 16, 2) := by decide +kernel
theorem dX8_night_49 : decode cX8_night 49 = .ok (.iushr, 1) := by decide +kernel
theorem dX8_night_50 : decode cX8_night 50 = .ok (.invokevirtual 146, 3) := by decide +kernel
theorem dX8_night_53 : decode cX8_night 53 = .ok (.istore_n 1, 1) := by decide +kernel
theorem dX8_night_54 : decode cX8_night 54 = .ok (.iconst 0, 1) := by decide +kernel
theorem dX8_night_55 : decode cX8_night 55 = .ok (.istore_n 2, 1) := by decide +kernel
theorem dX8_night_56 : decode cX8_night 56 = .ok (.iload_n 2, 1) := by decide +kernel
theorem dX8_night_57 : decode cX8_night 57 = .ok (.aload_n 0, 1) := by decide +kernel
theorem dX8_night_58 : decode cX8_night 58 = .ok (.getfield 26, 3) := by decide +kernel
theorem dX8_night_61 : decode cX8_night 61 = .ok (.getfield 150, 3) := by decide +kernel
theorem dX8_night_64 : decode cX8_night 64 = .ok (.if_icmp .ge 34, 3) := by decide +kernel
theorem dX8_night_67 : decode cX8_night 67 = .ok (.aload_n 0, 1) := by decide +kernel
theorem dX8_night_68 : decode cX8_night 68 = .ok (.getfield 36, 3) := by decide +kernel
theorem dX8_night_71 : decode cX8_night 71 = .ok (.getfield 153, 3) := by decide +kernel
theorem dX8_night_74 : decode cX8_night 74 = .ok (.iload_n 2, 1) := by decide +kernel
theorem dX8_night_75 : decode cX8_night 75 = .ok (.dup2, 1) := by decide +kernel
theorem dX8_night_76 : decode cX8_night 76 = .ok (.iaload, 1) := by decide +kernel
theorem dX8_night_77 : decode cX8_night 77 = .ok (.aload_n 0, 1) := by decide +kernel
theorem dX8_night_78 : decode cX8_night 78 = .ok (.iload_n 2, 1) := by decide +kernel
theorem dX8_night_79 : decode cX8_night 79 = .ok (.aload_n 0, 1) := by decide +kernel
theorem dX8_night_80 : decode cX8_night 80 = .ok (.getfield 36, 3) := by decide +kernel
theorem dX8_night_83 : decode cX8_night 83 = .ok (.getfield 142, 3) := by decide +kernel
theorem dX8_night_86 : decode cX8_night 86 = .ok (.iload_n 1, 1) := by decide +kernel
theorem dX8_night_87 : decode cX8_night 87 = .ok (.invokevirtual 156, 3) := by decide +kernel
theorem dX8_night_90 : decode cX8_night 90 = .ok (.iadd, 1) := by decide +kernel
theorem dX8_night_91 : decode cX8_night 91 = .ok (.iastore, 1) := by decide +kernel
theorem dX8_night_92 : decode cX8_night 92 = .ok (.iinc 2 1, 3) := by decide +kernel
theorem dX8_night_95 : decode cX8_night 95 = .ok (.goto (-39), 3) := by decide +kernel
theorem dX8_night_98 : decode cX8_night 98 = .ok (.aload_n 0, 1) := by decide +kernel
theorem dX8_night_99 : decode cX8_night 99 = .ok (.getfield 36, 3) := by decide +kernel
theorem dX8_night_102 : decode cX8_night 102 = .ok (.dup, 1) := by decide +kernel
theorem dX8_night_103 : decode cX8_night 103 = .ok (.getfield 142, 3) := by decide +kernel
theorem dX8_night_106 : decode cX8_night 106 = .ok (.iconst 1, 1) := by decide +kernel
theorem dX8_night_107 : decode cX8_night 107 = .ok (.iadd, 1) := by decide +kernel
theorem dX8_night_108 : decode cX8_night 108 = .ok (.putfield 142, 3) := by decide +kernel
theorem dX8_night_111 : decode cX8_night 111 = .ok (.iload_n 1, 1) := by decide +kernel
theorem dX8_night_112 : decode cX8_night 112 = .ok (.ireturn, 1) := by decide +kernel
set_option maxRecDepth 20000 in
theorem ggX8_purse_X5_hasTenant : GoodIn wsX8_purse wsX5_hasTenant := goodIn_r _ [8, 9, 27, 28, 29, 30, 31, 32, 33, 34] (by decide +kernel) (by decide +kernel)
set_option maxRecDepth 20000 in
theorem gX8_purse_X5_hasTenant : GoodIn wsX8_purse (wsV RX8 160 RX5 yX5_hasTenant wsX5_hasTenant) := goodIn_app (goodIn_of _ (by decide +kernel)) ggX8_purse_X5_hasTenant
theorem dX8_purse_0 : decode cX8_purse 0 = .ok (.aload_n 0, 1) := by decide +kernel
theorem dX8_purse_1 : decode cX8_purse 1 = .ok (.getfield 26, 3) := by decide +kernel
theorem dX8_purse_4 : decode cX8_purse 4 = .ok (.iload_n 1, 1) := by decide +kernel
theorem dX8_purse_5 : decode cX8_purse 5 = .ok (.invokevirtual 160, 3) := by decide +kernel
theorem dX8_purse_8 : decode cX8_purse 8 = .ok (.ifCond .eq 15, 3) := by decide +kernel
theorem dX8_purse_11 : decode cX8_purse 11 = .ok (.aload_n 0, 1) := by decide +kernel
theorem dX8_purse_12 : decode cX8_purse 12 = .ok (.getfield 36, 3) := by decide +kernel
theorem dX8_purse_15 : decode cX8_purse 15 = .ok (.getfield 153, 3) := by decide +kernel
theorem dX8_purse_18 : decode cX8_purse 18 = .ok (.iload_n 1, 1) := by decide +kernel
theorem dX8_purse_19 : decode cX8_purse 19 = .ok (.iaload, 1) := by decide +kernel
theorem dX8_purse_20 : decode cX8_purse 20 = .ok (.goto 4, 3) := by decide +kernel
theorem dX8_purse_23 : decode cX8_purse 23 = .ok (.iconst (-1), 1) := by decide +kernel
theorem dX8_purse_24 : decode cX8_purse 24 = .ok (.ireturn, 1) := by decide +kernel
set_option maxRecDepth 20000 in
theorem ggX8_begins_X8_areTerms : GoodIn wsX8_begins wsX8_areTerms := goodIn_r _ [9, 10, 11, 12, 13, 14, 15, 16, 17, 18, 19, 20, 21, 22, 23, 24, 8, 25, 26, 27, 28, 69, 70, 71, 72, 73, 74, 75, 76, 77, 78, 79, 80, 89, 90, 91, 92, 93, 94, 95, 96] (by decide +kernel) (by decide +kernel)
set_option maxRecDepth 20000 in
theorem gX8_begins_X8_areTerms : GoodIn wsX8_begins (wsV RX8 163 RX8 yX8_areTerms wsX8_areTerms) := goodIn_app (goodIn_of _ (by decide +kernel)) ggX8_begins_X8_areTerms
set_option maxRecDepth 20000 in
theorem ggX8_begins_X6_isFull : GoodIn wsX8_begins wsX6_isFull := goodIn_r _ [33, 34, 35, 86, 87, 88] (by decide +kernel) (by decide +kernel)
set_option maxRecDepth 20000 in
theorem gX8_begins_X6_isFull : GoodIn wsX8_begins (wsV RX8 167 RX6 yX6_isFull wsX6_isFull) := goodIn_app (goodIn_of _ (by decide +kernel)) ggX8_begins_X6_isFull
set_option maxRecDepth 20000 in
theorem ggX8_begins_X6_add : GoodIn wsX8_begins wsX6_add := goodIn_r _ [39, 34, 40, 41, 30, 31, 32, 33, 35, 86, 87, 88] (by decide +kernel) (by decide +kernel)
set_option maxRecDepth 20000 in
theorem gX8_begins_X6_add : GoodIn wsX8_begins (wsV RX8 171 RX6 yX6_add wsX6_add) := goodIn_app (goodIn_of _ (by decide +kernel)) ggX8_begins_X6_add
set_option maxRecDepth 20000 in
theorem ggX8_begins_X2_noteBegun : GoodIn wsX8_begins wsX2_noteBegun := goodIn_r _ [46, 47, 48, 49, 50, 51, 52, 45, 53, 54, 55, 56, 57, 58, 30, 31, 32, 33, 34, 35, 59, 60, 61, 62, 40, 63, 64, 65, 66, 67, 68, 37, 38, 39, 41, 97, 98, 86, 87, 88] (by decide +kernel) (by decide +kernel)
set_option maxRecDepth 20000 in
theorem gX8_begins_X2_noteBegun : GoodIn wsX8_begins (wsV RX8 179 RX2 yX2_noteBegun wsX2_noteBegun) := goodIn_app (goodIn_of _ (by decide +kernel)) ggX8_begins_X2_noteBegun
theorem dX8_begins_0 : decode cX8_begins 0 = .ok (.aload_n 0, 1) := by decide +kernel
theorem dX8_begins_1 : decode cX8_begins 1 = .ok (.iload_n 1, 1) := by decide +kernel
theorem dX8_begins_2 : decode cX8_begins 2 = .ok (.iload_n 2, 1) := by decide +kernel
theorem dX8_begins_3 : decode cX8_begins 3 = .ok (.iload_n 3, 1) := by decide +kernel
theorem dX8_begins_4 : decode cX8_begins 4 = .ok (.iload 4, 2) := by decide +kernel
theorem dX8_begins_6 : decode cX8_begins 6 = .ok (.iload 5, 2) := by decide +kernel
theorem dX8_begins_8 : decode cX8_begins 8 = .ok (.invokevirtual 163, 3) := by decide +kernel
theorem dX8_begins_11 : decode cX8_begins 11 = .ok (.ifCond .ne 5, 3) := by decide +kernel
theorem dX8_begins_14 : decode cX8_begins 14 = .ok (.iconst (-1), 1) := by decide +kernel
theorem dX8_begins_15 : decode cX8_begins 15 = .ok (.ireturn, 1) := by decide +kernel
theorem dX8_begins_16 : decode cX8_begins 16 = .ok (.aload_n 0, 1) := by decide +kernel
theorem dX8_begins_17 : decode cX8_begins 17 = .ok (.getfield 36, 3) := by decide +kernel
theorem dX8_begins_20 : decode cX8_begins 20 = .ok (.getfield 116, 3) := by decide +kernel
theorem dX8_begins_23 : decode cX8_begins 23 = .ok (.invokevirtual 167, 3) := by decide +kernel
theorem dX8_begins_26 : decode cX8_begins 26 = .ok (.ifCond .eq 6, 3) := by decide +kernel
theorem dX8_begins_29 : decode cX8_begins 29 = .ok (.bipush (-3), 2) := by decide +kernel
theorem dX8_begins_31 : decode cX8_begins 31 = .ok (.ireturn, 1) := by decide +kernel
theorem dX8_begins_32 : decode cX8_begins 32 = .ok (.aload_n 0, 1) := by decide +kernel
theorem dX8_begins_33 : decode cX8_begins 33 = .ok (.getfield 36, 3) := by decide +kernel
theorem dX8_begins_36 : decode cX8_begins 36 = .ok (.getfield 116, 3) := by decide +kernel
theorem dX8_begins_39 : decode cX8_begins 39 = .ok (.iload_n 1, 1) := by decide +kernel
theorem dX8_begins_40 : decode cX8_begins 40 = .ok (.iload_n 2, 1) := by decide +kernel
theorem dX8_begins_41 : decode cX8_begins 41 = .ok (.iload_n 3, 1) := by decide +kernel
theorem dX8_begins_42 : decode cX8_begins 42 = .ok (.iload 4, 2) := by decide +kernel
theorem dX8_begins_44 : decode cX8_begins 44 = .ok (.iload 5, 2) := by decide +kernel
theorem dX8_begins_46 : decode cX8_begins 46 = .ok (.invokevirtual 171, 3) := by decide +kernel
theorem dX8_begins_49 : decode cX8_begins 49 = .ok (.aload_n 0, 1) := by decide +kernel
theorem dX8_begins_50 : decode cX8_begins 50 = .ok (.getfield 36, 3) := by decide +kernel
theorem dX8_begins_53 : decode cX8_begins 53 = .ok (.getfield 175, 3) := by decide +kernel
theorem dX8_begins_56 : decode cX8_begins 56 = .ok (.invokevirtual 179, 3) := by decide +kernel
theorem dX8_begins_59 : decode cX8_begins 59 = .ok (.aload_n 0, 1) := by decide +kernel
theorem dX8_begins_60 : decode cX8_begins 60 = .ok (.getfield 36, 3) := by decide +kernel
theorem dX8_begins_63 : decode cX8_begins 63 = .ok (.getfield 116, 3) := by decide +kernel
theorem dX8_begins_66 : decode cX8_begins 66 = .ok (.getfield 99, 3) := by decide +kernel
theorem dX8_begins_69 : decode cX8_begins 69 = .ok (.iconst 1, 1) := by decide +kernel
theorem dX8_begins_70 : decode cX8_begins 70 = .ok (.isub, 1) := by decide +kernel
theorem dX8_begins_71 : decode cX8_begins 71 = .ok (.ireturn, 1) := by decide +kernel
set_option maxRecDepth 20000 in
theorem ggX8_ends_X6_has : GoodIn wsX8_ends wsX6_has := goodIn_r _ [9, 10, 65, 66, 67] (by decide +kernel) (by decide +kernel)
set_option maxRecDepth 20000 in
theorem gX8_ends_X6_has : GoodIn wsX8_ends (wsV RX8 119 RX6 yX6_has wsX6_has) := goodIn_app (goodIn_of _ (by decide +kernel)) ggX8_ends_X6_has
set_option maxRecDepth 20000 in
theorem ggX8_ends_X2_noteEnded : GoodIn wsX8_ends wsX2_noteEnded := goodIn_r _ [15, 16, 17, 18, 19, 20, 21, 14, 22, 23, 24, 25, 26, 27, 28, 29, 8, 30, 10, 31, 32, 33, 34, 35, 36, 37, 38, 6, 7, 9, 39, 40, 41, 42, 43, 44, 45, 46, 68, 69, 65, 66, 67] (by decide +kernel) (by decide +kernel)
set_option maxRecDepth 20000 in
theorem gX8_ends_X2_noteEnded : GoodIn wsX8_ends (wsV RX8 184 RX2 yX2_noteEnded wsX2_noteEnded) := goodIn_app (goodIn_of _ (by decide +kernel)) ggX8_ends_X2_noteEnded
set_option maxRecDepth 20000 in
theorem ggX8_ends_X6_removeAt : GoodIn wsX8_ends wsX6_removeAt := goodIn_r _ [35, 36, 10, 37, 24, 25, 26, 38, 6, 7, 8, 9, 65, 66, 67] (by decide +kernel) (by decide +kernel)
set_option maxRecDepth 20000 in
theorem gX8_ends_X6_removeAt : GoodIn wsX8_ends (wsV RX8 188 RX6 yX6_removeAt wsX6_removeAt) := goodIn_app (goodIn_of _ (by decide +kernel)) ggX8_ends_X6_removeAt
theorem dX8_ends_0 : decode cX8_ends 0 = .ok (.aload_n 0, 1) := by decide +kernel
theorem dX8_ends_1 : decode cX8_ends 1 = .ok (.getfield 36, 3) := by decide +kernel
theorem dX8_ends_4 : decode cX8_ends 4 = .ok (.getfield 116, 3) := by decide +kernel
theorem dX8_ends_7 : decode cX8_ends 7 = .ok (.iload_n 1, 1) := by decide +kernel
theorem dX8_ends_8 : decode cX8_ends 8 = .ok (.invokevirtual 119, 3) := by decide +kernel
theorem dX8_ends_11 : decode cX8_ends 11 = .ok (.ifCond .ne 5, 3) := by decide +kernel
theorem dX8_ends_14 : decode cX8_ends 14 = .ok (.iconst (-1), 1) := by decide +kernel
theorem dX8_ends_15 : decode cX8_ends 15 = .ok (.ireturn, 1) := by decide +kernel
theorem dX8_ends_16 : decode cX8_ends 16 = .ok (.aload_n 0, 1) := by decide +kernel
theorem dX8_ends_17 : decode cX8_ends 17 = .ok (.getfield 36, 3) := by decide +kernel
theorem dX8_ends_20 : decode cX8_ends 20 = .ok (.getfield 175, 3) := by decide +kernel
theorem dX8_ends_23 : decode cX8_ends 23 = .ok (.aload_n 0, 1) := by decide +kernel
theorem dX8_ends_24 : decode cX8_ends 24 = .ok (.getfield 36, 3) := by decide +kernel
theorem dX8_ends_27 : decode cX8_ends 27 = .ok (.getfield 116, 3) := by decide +kernel
theorem dX8_ends_30 : decode cX8_ends 30 = .ok (.iload_n 1, 1) := by decide +kernel
theorem dX8_ends_31 : decode cX8_ends 31 = .ok (.invokevirtual 184, 3) := by decide +kernel
theorem dX8_ends_34 : decode cX8_ends 34 = .ok (.aload_n 0, 1) := by decide +kernel
theorem dX8_ends_35 : decode cX8_ends 35 = .ok (.getfield 36, 3) := by decide +kernel
theorem dX8_ends_38 : decode cX8_ends 38 = .ok (.getfield 116, 3) := by decide +kernel
theorem dX8_ends_41 : decode cX8_ends 41 = .ok (.iload_n 1, 1) := by decide +kernel
theorem dX8_ends_42 : decode cX8_ends 42 = .ok (.invokevirtual 188, 3) := by decide +kernel
theorem dX8_ends_45 : decode cX8_ends 45 = .ok (.aload_n 0, 1) := by decide +kernel
theorem dX8_ends_46 : decode cX8_ends 46 = .ok (.getfield 36, 3) := by decide +kernel
theorem dX8_ends_49 : decode cX8_ends 49 = .ok (.getfield 116, 3) := by decide +kernel
theorem dX8_ends_52 : decode cX8_ends 52 = .ok (.getfield 99, 3) := by decide +kernel
theorem dX8_ends_55 : decode cX8_ends 55 = .ok (.ireturn, 1) := by decide +kernel
set_option maxRecDepth 20000 in
theorem ggX8_undo_X2_undoLatest : GoodIn wsX8_undo wsX2_undoLatest := goodIn_r _ [10, 11, 12, 13, 14, 15, 16, 17, 18, 19, 20, 21, 22, 23, 24, 25, 26, 27, 28, 29, 30, 31, 32, 33, 34, 35, 36, 37, 38, 39, 40, 41, 59, 60, 61, 62, 63] (by decide +kernel) (by decide +kernel)
set_option maxRecDepth 20000 in
theorem gX8_undo_X2_undoLatest : GoodIn wsX8_undo (wsV RX8 194 RX2 yX2_undoLatest wsX2_undoLatest) := goodIn_app (goodIn_of _ (by decide +kernel)) ggX8_undo_X2_undoLatest
theorem dX8_undo_0 : decode cX8_undo 0 = .ok (.aload_n 0, 1) := by decide +kernel
theorem dX8_undo_1 : decode cX8_undo 1 = .ok (.getfield 36, 3) := by decide +kernel
theorem dX8_undo_4 : decode cX8_undo 4 = .ok (.getfield 175, 3) := by decide +kernel
theorem dX8_undo_7 : decode cX8_undo 7 = .ok (.getfield 191, 3) := by decide +kernel
theorem dX8_undo_10 : decode cX8_undo 10 = .ok (.getfield 99, 3) := by decide +kernel
theorem dX8_undo_13 : decode cX8_undo 13 = .ok (.ifCond .ne 6, 3) := by decide +kernel
theorem dX8_undo_16 : decode cX8_undo 16 = .ok (.bipush (-2), 2) := by decide +kernel
theorem dX8_undo_18 : decode cX8_undo 18 = .ok (.ireturn, 1) := by decide +kernel
theorem dX8_undo_19 : decode cX8_undo 19 = .ok (.aload_n 0, 1) := by decide +kernel
theorem dX8_undo_20 : decode cX8_undo 20 = .ok (.getfield 36, 3) := by decide +kernel
theorem dX8_undo_23 : decode cX8_undo 23 = .ok (.getfield 175, 3) := by decide +kernel
theorem dX8_undo_26 : decode cX8_undo 26 = .ok (.aload_n 0, 1) := by decide +kernel
theorem dX8_undo_27 : decode cX8_undo 27 = .ok (.getfield 36, 3) := by decide +kernel
theorem dX8_undo_30 : decode cX8_undo 30 = .ok (.getfield 116, 3) := by decide +kernel
theorem dX8_undo_33 : decode cX8_undo 33 = .ok (.invokevirtual 194, 3) := by decide +kernel
theorem dX8_undo_36 : decode cX8_undo 36 = .ok (.aload_n 0, 1) := by decide +kernel
theorem dX8_undo_37 : decode cX8_undo 37 = .ok (.getfield 36, 3) := by decide +kernel
theorem dX8_undo_40 : decode cX8_undo 40 = .ok (.getfield 116, 3) := by decide +kernel
theorem dX8_undo_43 : decode cX8_undo 43 = .ok (.getfield 99, 3) := by decide +kernel
theorem dX8_undo_46 : decode cX8_undo 46 = .ok (.ireturn, 1) := by decide +kernel
theorem dX8_lot_0 : decode cX8_lot 0 = .ok (.aload_n 0, 1) := by decide +kernel
theorem dX8_lot_1 : decode cX8_lot 1 = .ok (.getfield 36, 3) := by decide +kernel
theorem dX8_lot_4 : decode cX8_lot 4 = .ok (.getfield 72, 3) := by decide +kernel
theorem dX8_lot_7 : decode cX8_lot 7 = .ok (.istore_n 2, 1) := by decide +kernel
theorem dX8_lot_8 : decode cX8_lot 8 = .ok (.aload_n 0, 1) := by decide +kernel
theorem dX8_lot_9 : decode cX8_lot 9 = .ok (.getfield 36, 3) := by decide +kernel
theorem dX8_lot_12 : decode cX8_lot 12 = .ok (.iload_n 1, 1) := by decide +kernel
theorem dX8_lot_13 : decode cX8_lot 13 = .ok (.putfield 72, 3) := by decide +kernel
theorem dX8_lot_16 : decode cX8_lot 16 = .ok (.iload_n 2, 1) := by decide +kernel
theorem dX8_lot_17 : decode cX8_lot 17 = .ok (.ireturn, 1) := by decide +kernel
set_option maxRecDepth 20000 in
theorem ggX8_dark_X5_hasTenant : GoodIn wsX8_dark wsX5_hasTenant := goodIn_r _ [8, 9, 89, 90, 91, 92, 93, 94, 95, 96] (by decide +kernel) (by decide +kernel)
set_option maxRecDepth 20000 in
theorem gX8_dark_X5_hasTenant : GoodIn wsX8_dark (wsV RX8 160 RX5 yX5_hasTenant wsX5_hasTenant) := goodIn_app (goodIn_of _ (by decide +kernel)) ggX8_dark_X5_hasTenant
set_option maxRecDepth 20000 in
theorem ggX8_dark_X8_areNights : GoodIn wsX8_dark wsX8_areNights := goodIn_r _ [13, 14, 15, 12, 16] (by decide +kernel) (by decide +kernel)
set_option maxRecDepth 20000 in
theorem gX8_dark_X8_areNights : GoodIn wsX8_dark (va_wsS RX8 198 yX8_areNights wsX8_areNights) := goodIn_app (goodIn_of _ (by decide +kernel)) ggX8_dark_X8_areNights
set_option maxRecDepth 20000 in
theorem ggX8_dark_X6_anyHolds : GoodIn wsX8_dark wsX6_anyHolds := goodIn_r _ [21, 22, 23, 24, 25, 20, 26, 27, 28, 29, 30, 31, 15, 12, 16, 32, 33, 34, 35, 97, 98, 99] (by decide +kernel) (by decide +kernel)
set_option maxRecDepth 20000 in
theorem gX8_dark_X6_anyHolds : GoodIn wsX8_dark (wsV RX8 202 RX6 yX6_anyHolds wsX6_anyHolds) := goodIn_app (goodIn_of _ (by decide +kernel)) ggX8_dark_X6_anyHolds
set_option maxRecDepth 20000 in
theorem ggX8_dark_X8_hasAnyStar : GoodIn wsX8_dark wsX8_hasAnyStar := goodIn_r _ [39, 1, 40, 41, 42, 43, 7, 44, 45, 46, 47, 48, 49, 50, 51, 52, 53, 54, 55, 56, 57, 58, 59, 12, 60, 2, 3, 61, 62, 63, 64, 65, 20, 66, 32, 33, 34, 35, 27, 28, 29, 30, 31, 22, 15, 16, 67, 68, 69, 70, 71, 24, 25, 26, 72, 73, 74, 75, 76, 77, 78, 79, 80, 81, 82, 83, 89, 90, 91, 92, 93, 94, 95, 96, 84, 85, 86, 87, 88, 97, 98, 99] (by decide +kernel) (by decide +kernel)
set_option maxRecDepth 20000 in
theorem gX8_dark_X8_hasAnyStar : GoodIn wsX8_dark (wsV RX8 205 RX8 yX8_hasAnyStar wsX8_hasAnyStar) := goodIn_app (goodIn_of _ (by decide +kernel)) ggX8_dark_X8_hasAnyStar
theorem dX8_dark_0 : decode cX8_dark 0 = .ok (.aload_n 0, 1) := by decide +kernel
theorem dX8_dark_1 : decode cX8_dark 1 = .ok (.getfield 26, 3) := by decide +kernel
theorem dX8_dark_4 : decode cX8_dark 4 = .ok (.iload_n 1, 1) := by decide +kernel
theorem dX8_dark_5 : decode cX8_dark 5 = .ok (.invokevirtual 160, 3) := by decide +kernel
theorem dX8_dark_8 : decode cX8_dark 8 = .ok (.ifCond .eq 11, 3) := by decide +kernel
theorem dX8_dark_11 : decode cX8_dark 11 = .ok (.iload_n 2, 1) := by decide +kernel
theorem dX8_dark_12 : decode cX8_dark 12 = .ok (.iload_n 3, 1) := by decide +kernel
theorem dX8_dark_13 : decode cX8_dark 13 = .ok (.invokestatic 198, 3) := by decide +kernel
theorem dX8_dark_16 : decode cX8_dark 16 = .ok (.ifCond .ne 5, 3) := by decide +kernel
theorem dX8_dark_19 : decode cX8_dark 19 = .ok (.iconst (-1), 1) := by decide +kernel
theorem dX8_dark_20 : decode cX8_dark 20 = .ok (.ireturn, 1) := by decide +kernel
theorem dX8_dark_21 : decode cX8_dark 21 = .ok (.iconst 0, 1) := by decide +kernel
theorem dX8_dark_22 : decode cX8_dark 22 = .ok (.istore 4, 2) := by decide +kernel
theorem dX8_dark_24 : decode cX8_dark 24 = .ok (.iload_n 2, 1) := by decide +kernel
theorem dX8_dark_25 : decode cX8_dark 25 = .ok (.istore 5, 2) := by decide +kernel
theorem dX8_dark_27 : decode cX8_dark 27 = .ok (.iload 5, 2) := by decide +kernel
theorem dX8_dark_29 : decode cX8_dark 29 = .ok (.iload_n 3, 1) := by decide +kernel
theorem dX8_dark_30 : decode cX8_dark 30 = .ok (.if_icmp .gt 38, 3) := by decide +kernel
theorem dX8_dark_33 : decode cX8_dark 33 = .ok (.aload_n 0, 1) := by decide +kernel
theorem dX8_dark_34 : decode cX8_dark 34 = .ok (.getfield 36, 3) := by decide +kernel
theorem dX8_dark_37 : decode cX8_dark 37 = .ok (.getfield 116, 3) := by decide +kernel
theorem dX8_dark_40 : decode cX8_dark 40 = .ok (.iload_n 1, 1) := by decide +kernel
theorem dX8_dark_41 : decode cX8_dark 41 = .ok (.iload 5, 2) := by decide +kernel
theorem dX8_dark_43 : decode cX8_dark 43 = .ok (.invokevirtual 202, 3) := by decide +kernel
theorem dX8_dark_46 : decode cX8_dark 46 = .ok (.ifCond .eq 16, 3) := by decide +kernel
theorem dX8_dark_49 : decode cX8_dark 49 = .ok (.aload_n 0, 1) := by decide +kernel
theorem dX8_dark_50 : decode cX8_dark 50 = .ok (.iload_n 1, 1) := by decide +kernel
theorem dX8_dark_51 : decode cX8_dark 51 = .ok (.iload 5, 2) := by decide +kernel
theorem dX8_dark_53 : decode cX8_dark 53 = .ok (.invokevirtual 205, 3) := by decide +kernel
theorem dX8_dark_56 : decode cX8_dark 56 = .ok (.ifCond .ne 6, 3) := by decide +kernel
theorem dX8_dark_59 : decode cX8_dark 59 = .ok (.iinc 4 1, 3) := by decide +kernel
theorem dX8_dark_62 : decode cX8_dark 62 = .ok (.iinc 5 1, 3) := by decide +kernel
theorem dX8_dark_65 : decode cX8_dark 65 = .ok (.goto (-38), 3) := by decide +kernel
theorem dX8_dark_68 : decode cX8_dark 68 = .ok (.iload 4, 2) := by decide +kernel
theorem dX8_dark_70 : decode cX8_dark 70 = .ok (.ireturn, 1) := by decide +kernel
set_option maxRecDepth 20000 in
theorem ggX8_meets_X5_hasTenant : GoodIn wsX8_meets wsX5_hasTenant := goodIn_r _ [6, 7, 72, 73, 74, 75, 76, 77, 78, 79] (by decide +kernel) (by decide +kernel)
set_option maxRecDepth 20000 in
theorem gX8_meets_X5_hasTenant : GoodIn wsX8_meets (wsV RX8 160 RX5 yX5_hasTenant wsX5_hasTenant) := goodIn_app (goodIn_of _ (by decide +kernel)) ggX8_meets_X5_hasTenant
set_option maxRecDepth 20000 in
theorem ggX8_meets_X5_hasStar : GoodIn wsX8_meets wsX5_hasStar := goodIn_r _ [11, 12, 72, 73, 74, 75, 76, 77, 78, 79] (by decide +kernel) (by decide +kernel)
set_option maxRecDepth 20000 in
theorem gX8_meets_X5_hasStar : GoodIn wsX8_meets (wsV RX8 105 RX5 yX5_hasStar wsX5_hasStar) := goodIn_app (goodIn_of _ (by decide +kernel)) ggX8_meets_X5_hasStar
set_option maxRecDepth 20000 in
theorem ggX8_meets_X8_isWithin : GoodIn wsX8_meets wsX8_isWithin := goodIn_r _ [16] (by decide +kernel) (by decide +kernel)
set_option maxRecDepth 20000 in
theorem gX8_meets_X8_isWithin : GoodIn wsX8_meets (va_wsS RX8 108 yX8_isWithin wsX8_isWithin) := goodIn_app (goodIn_of _ (by decide +kernel)) ggX8_meets_X8_isWithin
set_option maxRecDepth 20000 in
theorem ggX8_meets_X5_squareOf : GoodIn wsX8_meets wsX5_squareOf := goodIn_r _ [20, 21, 22, 23, 9, 10, 5, 11, 12, 24, 25, 26, 27, 28, 72, 73, 74, 75, 76, 77, 78, 79] (by decide +kernel) (by decide +kernel)
set_option maxRecDepth 20000 in
theorem gX8_meets_X5_squareOf : GoodIn wsX8_meets (wsV RX8 112 RX5 yX5_squareOf wsX5_squareOf) := goodIn_app (goodIn_of _ (by decide +kernel)) ggX8_meets_X5_squareOf
set_option maxRecDepth 20000 in
theorem ggX8_meets_X8_ownerOf : GoodIn wsX8_meets wsX8_ownerOf := goodIn_r _ [32, 33, 34, 35, 1, 36, 37, 38, 39, 40, 41, 42, 43, 44, 45, 46, 47, 48, 49, 50, 51, 14, 15, 16, 52, 53, 54, 55, 56, 57, 58, 59, 60, 61, 62, 63, 64, 65, 66, 67, 68, 69, 70, 71, 80, 81, 82, 83, 84, 85, 86, 87, 72, 73, 74, 75, 76, 77, 78, 79] (by decide +kernel) (by decide +kernel)
set_option maxRecDepth 20000 in
theorem gX8_meets_X8_ownerOf : GoodIn wsX8_meets (wsV RX8 128 RX8 yX8_ownerOf wsX8_ownerOf) := goodIn_app (goodIn_of _ (by decide +kernel)) ggX8_meets_X8_ownerOf
theorem dX8_meets_0 : decode cX8_meets 0 = .ok (.aload_n 0, 1) := by decide +kernel
theorem dX8_meets_1 : decode cX8_meets 1 = .ok (.getfield 26, 3) := by decide +kernel
theorem dX8_meets_4 : decode cX8_meets 4 = .ok (.iload_n 1, 1) := by decide +kernel
theorem dX8_meets_5 : decode cX8_meets 5 = .ok (.invokevirtual 160, 3) := by decide +kernel
theorem dX8_meets_8 : decode cX8_meets 8 = .ok (.ifCond .eq 24, 3) := by decide +kernel
theorem dX8_meets_11 : decode cX8_meets 11 = .ok (.aload_n 0, 1) := by decide +kernel
theorem dX8_meets_12 : decode cX8_meets 12 = .ok (.getfield 26, 3) := by decide +kernel
theorem dX8_meets_15 : decode cX8_meets 15 = .ok (.iload_n 2, 1) := by decide +kernel
theorem dX8_meets_16 : decode cX8_meets 16 = .ok (.invokevirtual 105, 3) := by decide +kernel
theorem dX8_meets_19 : decode cX8_meets 19 = .ok (.ifCond .eq 13, 3) := by decide +kernel
theorem dX8_meets_22 : decode cX8_meets 22 = .ok (.iload_n 3, 1) := by decide +kernel
theorem dX8_meets_23 : decode cX8_meets 23 = .ok (.iconst 0, 1) := by decide +kernel
theorem dX8_meets_24 : decode cX8_meets 24 = .ok (.bipush 99, 2) := by decide +kernel
theorem dX8_meets_26 : decode cX8_meets 26 = .ok (.invokestatic 108, 3) := by decide +kernel
theorem dX8_meets_29 : decode cX8_meets 29 = .ok (.ifCond .ne 5, 3) := by decide +kernel
theorem dX8_meets_32 : decode cX8_meets 32 = .ok (.iconst (-1), 1) := by decide +kernel
theorem dX8_meets_33 : decode cX8_meets 33 = .ok (.ireturn, 1) := by decide +kernel
theorem dX8_meets_34 : decode cX8_meets 34 = .ok (.iload_n 3, 1) := by decide +kernel
theorem dX8_meets_35 : decode cX8_meets 35 = .ok (.istore 4, 2) := by decide +kernel
theorem dX8_meets_37 : decode cX8_meets 37 = .ok (.iload 4, 2) := by decide +kernel
theorem dX8_meets_39 : decode cX8_meets 39 = .ok (.bipush 99, 2) := by decide +kernel
theorem dX8_meets_41 : decode cX8_meets 41 = .ok (.if_icmp .gt 32, 3) := by decide +kernel
theorem dX8_meets_44 : decode cX8_meets 44 = .ok (.aload_n 0, 1) := by decide +kernel
theorem dX8_meets_45 : decode cX8_meets 45 = .ok (.aload_n 0, 1) := by decide +kernel
theorem dX8_meets_46 : decode cX8_meets 46 = .ok (.getfield 26, 3) := by decide +kernel
theorem dX8_meets_49 : decode cX8_meets 49 = .ok (.iload_n 2, 1) := by decide +kernel
theorem dX8_meets_50 : decode cX8_meets 50 = .ok (.iload 4, 2) := by decide +kernel
theorem dX8_meets_52 : decode cX8_meets 52 = .ok (.invokevirtual 112, 3) := by decide +kernel
theorem dX8_meets_55 : decode cX8_meets 55 = .ok (.iload 4, 2) := by decide +kernel
theorem dX8_meets_57 : decode cX8_meets 57 = .ok (.invokevirtual 128, 3) := by decide +kernel
theorem dX8_meets_60 : decode cX8_meets 60 = .ok (.iload_n 1, 1) := by decide +kernel
theorem dX8_meets_61 : decode cX8_meets 61 = .ok (.if_icmp .ne 6, 3) := by decide +kernel
theorem dX8_meets_64 : decode cX8_meets 64 = .ok (.iload 4, 2) := by decide +kernel
theorem dX8_meets_66 : decode cX8_meets 66 = .ok (.ireturn, 1) := by decide +kernel
theorem dX8_meets_67 : decode cX8_meets 67 = .ok (.iinc 4 1, 3) := by decide +kernel
theorem dX8_meets_70 : decode cX8_meets 70 = .ok (.goto (-33), 3) := by decide +kernel
theorem dX8_meets_73 : decode cX8_meets 73 = .ok (.bipush (-9), 2) := by decide +kernel
theorem dX8_meets_75 : decode cX8_meets 75 = .ok (.ireturn, 1) := by decide +kernel
set_option maxRecDepth 20000 in
theorem ggX8_offer_X8_areTerms : GoodIn wsX8_offer wsX8_areTerms := goodIn_r _ [10, 3, 4, 11, 12, 13, 14, 15, 16, 17, 18, 19, 20, 21, 22, 23, 9, 24, 25, 26, 27, 68, 69, 70, 71, 72, 73, 74, 75, 76, 77, 78, 79, 86, 87, 88, 89, 90, 91, 92, 93] (by decide +kernel) (by decide +kernel)
set_option maxRecDepth 20000 in
theorem gX8_offer_X8_areTerms : GoodIn wsX8_offer (wsV RX8 163 RX8 yX8_areTerms wsX8_areTerms) := goodIn_app (goodIn_of _ (by decide +kernel)) ggX8_offer_X8_areTerms
set_option maxRecDepth 20000 in
theorem ggX8_offer_X8_isWithin : GoodIn wsX8_offer wsX8_isWithin := goodIn_r _ [24] (by decide +kernel) (by decide +kernel)
set_option maxRecDepth 20000 in
theorem gX8_offer_X8_isWithin : GoodIn wsX8_offer (va_wsS RX8 108 yX8_isWithin wsX8_isWithin) := goodIn_app (goodIn_of _ (by decide +kernel)) ggX8_offer_X8_isWithin
set_option maxRecDepth 20000 in
theorem ggX8_offer_X6_isFull : GoodIn wsX8_offer wsX6_isFull := goodIn_r _ [32, 33, 34, 94, 95, 96] (by decide +kernel) (by decide +kernel)
set_option maxRecDepth 20000 in
theorem gX8_offer_X6_isFull : GoodIn wsX8_offer (wsV RX8 167 RX6 yX6_isFull wsX6_isFull) := goodIn_app (goodIn_of _ (by decide +kernel)) ggX8_offer_X6_isFull
set_option maxRecDepth 20000 in
theorem ggX8_offer_X6_add : GoodIn wsX8_offer wsX6_add := goodIn_r _ [38, 33, 39, 40, 29, 30, 31, 32, 34, 94, 95, 96] (by decide +kernel) (by decide +kernel)
set_option maxRecDepth 20000 in
theorem gX8_offer_X6_add : GoodIn wsX8_offer (wsV RX8 171 RX6 yX6_add wsX6_add) := goodIn_app (goodIn_of _ (by decide +kernel)) ggX8_offer_X6_add
set_option maxRecDepth 20000 in
theorem ggX8_offer_X1_settleLast : GoodIn wsX8_offer wsX1_settleLast := goodIn_r _ [45, 46, 47, 48, 49, 50, 51, 52, 53, 31, 54, 33, 55, 56, 57, 58, 39, 59, 60, 61, 62, 44, 63, 64, 65, 66, 67, 23, 9, 24, 80, 81, 82, 83, 84, 85, 94, 95, 96] (by decide +kernel) (by decide +kernel)
set_option maxRecDepth 20000 in
theorem gX8_offer_X1_settleLast : GoodIn wsX8_offer (wsV RX8 208 RX1 yX1_settleLast wsX1_settleLast) := goodIn_app (goodIn_of _ (by decide +kernel)) ggX8_offer_X1_settleLast
theorem dX8_offer_0 : decode cX8_offer 0 = .ok (.aload_n 0, 1) := by decide +kernel
theorem dX8_offer_1 : decode cX8_offer 1 = .ok (.iload_n 1, 1) := by decide +kernel
theorem dX8_offer_2 : decode cX8_offer 2 = .ok (.iload_n 2, 1) := by decide +kernel
theorem dX8_offer_3 : decode cX8_offer 3 = .ok (.iload_n 3, 1) := by decide +kernel
theorem dX8_offer_4 : decode cX8_offer 4 = .ok (.iload 4, 2) := by decide +kernel
theorem dX8_offer_6 : decode cX8_offer 6 = .ok (.iload 5, 2) := by decide +kernel
theorem dX8_offer_8 : decode cX8_offer 8 = .ok (.invokevirtual 163, 3) := by decide +kernel
theorem dX8_offer_11 : decode cX8_offer 11 = .ok (.ifCond .eq 14, 3) := by decide +kernel
theorem dX8_offer_14 : decode cX8_offer 14 = .ok (.iload 6, 2) := by decide +kernel
theorem dX8_offer_16 : decode cX8_offer 16 = .ok (.iconst 1, 1) := by decide +kernel
theorem dX8_offer_17 : decode cX8_offer 17 = .ok (.bipush 99, 2) := by decide +kernel
theorem dX8_offer_19 : decode cX8_offer 19 = .ok (.invokestatic 108, 3) := by decide +kernel
theorem dX8_offer_22 : decode cX8_offer 22 = .ok (.ifCond .ne 5, 3) := by decide +kernel
theorem dX8_offer_25 : decode cX8_offer 25 = .ok (.iconst (-1), 1) := by decide +kernel
theorem dX8_offer_26 : decode cX8_offer 26 = .ok (.ireturn, 1) := by decide +kernel
theorem dX8_offer_27 : decode cX8_offer 27 = .ok (.aload_n 0, 1) := by decide +kernel
theorem dX8_offer_28 : decode cX8_offer 28 = .ok (.getfield 53, 3) := by decide +kernel
theorem dX8_offer_31 : decode cX8_offer 31 = .ok (.getfield 95, 3) := by decide +kernel
theorem dX8_offer_34 : decode cX8_offer 34 = .ok (.invokevirtual 167, 3) := by decide +kernel
theorem dX8_offer_37 : decode cX8_offer 37 = .ok (.ifCond .eq 6, 3) := by decide +kernel
theorem dX8_offer_40 : decode cX8_offer 40 = .ok (.bipush (-3), 2) := by decide +kernel
theorem dX8_offer_42 : decode cX8_offer 42 = .ok (.ireturn, 1) := by decide +kernel
theorem dX8_offer_43 : decode cX8_offer 43 = .ok (.aload_n 0, 1) := by decide +kernel
theorem dX8_offer_44 : decode cX8_offer 44 = .ok (.getfield 53, 3) := by decide +kernel
theorem dX8_offer_47 : decode cX8_offer 47 = .ok (.getfield 95, 3) := by decide +kernel
theorem dX8_offer_50 : decode cX8_offer 50 = .ok (.iload_n 1, 1) := by decide +kernel
theorem dX8_offer_51 : decode cX8_offer 51 = .ok (.iload_n 2, 1) := by decide +kernel
theorem dX8_offer_52 : decode cX8_offer 52 = .ok (.iload_n 3, 1) := by decide +kernel
theorem dX8_offer_53 : decode cX8_offer 53 = .ok (.iload 4, 2) := by decide +kernel
theorem dX8_offer_55 : decode cX8_offer 55 = .ok (.iload 5, 2) := by decide +kernel
theorem dX8_offer_57 : decode cX8_offer 57 = .ok (.invokevirtual 171, 3) := by decide +kernel
theorem dX8_offer_60 : decode cX8_offer 60 = .ok (.aload_n 0, 1) := by decide +kernel
theorem dX8_offer_61 : decode cX8_offer 61 = .ok (.getfield 53, 3) := by decide +kernel
theorem dX8_offer_64 : decode cX8_offer 64 = .ok (.iload 6, 2) := by decide +kernel
theorem dX8_offer_66 : decode cX8_offer 66 = .ok (.aload_n 0, 1) := by decide +kernel
theorem dX8_offer_67 : decode cX8_offer 67 = .ok (.getfield 26, 3) := by decide +kernel
theorem dX8_offer_70 : decode cX8_offer 70 = .ok (.getfield 131, 3) := by decide +kernel
theorem dX8_offer_73 : decode cX8_offer 73 = .ok (.invokevirtual 208, 3) := by decide +kernel
theorem dX8_offer_76 : decode cX8_offer 76 = .ok (.aload_n 0, 1) := by decide +kernel
theorem dX8_offer_77 : decode cX8_offer 77 = .ok (.getfield 53, 3) := by decide +kernel
theorem dX8_offer_80 : decode cX8_offer 80 = .ok (.getfield 95, 3) := by decide +kernel
theorem dX8_offer_83 : decode cX8_offer 83 = .ok (.getfield 99, 3) := by decide +kernel
theorem dX8_offer_86 : decode cX8_offer 86 = .ok (.iconst 1, 1) := by decide +kernel
theorem dX8_offer_87 : decode cX8_offer 87 = .ok (.isub, 1) := by decide +kernel
theorem dX8_offer_88 : decode cX8_offer 88 = .ok (.ireturn, 1) := by decide +kernel
theorem dX8_refuse_0 : decode cX8_refuse 0 = .ok (.aload_n 0, 1) := by decide +kernel
theorem dX8_refuse_1 : decode cX8_refuse 1 = .ok (.getfield 53, 3) := by decide +kernel
theorem dX8_refuse_4 : decode cX8_refuse 4 = .ok (.getfield 95, 3) := by decide +kernel
theorem dX8_refuse_7 : decode cX8_refuse 7 = .ok (.getfield 99, 3) := by decide +kernel
theorem dX8_refuse_10 : decode cX8_refuse 10 = .ok (.istore_n 1, 1) := by decide +kernel
theorem dX8_refuse_11 : decode cX8_refuse 11 = .ok (.aload_n 0, 1) := by decide +kernel
theorem dX8_refuse_12 : decode cX8_refuse 12 = .ok (.getfield 53, 3) := by decide +kernel
theorem dX8_refuse_15 : decode cX8_refuse 15 = .ok (.getfield 95, 3) := by decide +kernel
theorem dX8_refuse_18 : decode cX8_refuse 18 = .ok (.iconst 0, 1) := by decide +kernel
theorem dX8_refuse_19 : decode cX8_refuse 19 = .ok (.putfield 99, 3) := by decide +kernel
theorem dX8_refuse_22 : decode cX8_refuse 22 = .ok (.iload_n 1, 1) := by decide +kernel
theorem dX8_refuse_23 : decode cX8_refuse 23 = .ok (.ireturn, 1) := by decide +kernel
set_option maxRecDepth 20000 in
theorem ggX8_letting_X8_areNights : GoodIn wsX8_letting wsX8_areNights := goodIn_r _ [6, 7, 8, 5, 9] (by decide +kernel) (by decide +kernel)
set_option maxRecDepth 20000 in
theorem gX8_letting_X8_areNights : GoodIn wsX8_letting (va_wsS RX8 198 yX8_areNights wsX8_areNights) := goodIn_app (goodIn_of _ (by decide +kernel)) ggX8_letting_X8_areNights
set_option maxRecDepth 20000 in
theorem ggX8_letting_X8_isWithin : GoodIn wsX8_letting wsX8_isWithin := goodIn_r _ [9] (by decide +kernel) (by decide +kernel)
set_option maxRecDepth 20000 in
theorem gX8_letting_X8_isWithin : GoodIn wsX8_letting (va_wsS RX8 108 yX8_isWithin wsX8_isWithin) := goodIn_app (goodIn_of _ (by decide +kernel)) ggX8_letting_X8_isWithin
set_option maxRecDepth 20000 in
theorem ggX8_letting_X1_bestSet : GoodIn wsX8_letting wsX1_bestSet := goodIn_r _ [14, 15, 16, 17, 18, 19, 20, 21, 22, 23, 24, 25, 26, 27, 28, 29, 30, 31, 32, 33, 34, 35, 36, 37, 38, 39, 40, 41, 13, 42, 43, 44, 45, 46, 47, 48, 49, 50, 51, 52, 53, 54, 55, 56, 57, 58, 59, 60, 61, 62, 63, 64, 65, 66, 67, 68, 69, 70, 71, 72, 73, 74, 75, 76, 8, 5, 9, 77, 78, 79, 80, 94, 95, 96, 97, 98, 99, 100, 101, 102, 103, 104, 105, 106, 107, 108, 109, 110] (by decide +kernel) (by decide +kernel)
set_option maxRecDepth 20000 in
theorem gX8_letting_X1_bestSet : GoodIn wsX8_letting (wsV RX8 212 RX1 yX1_bestSet wsX1_bestSet) := goodIn_app (goodIn_of _ (by decide +kernel)) ggX8_letting_X1_bestSet
set_option maxRecDepth 20000 in
theorem ggX8_letting_X1_priceOf : GoodIn wsX8_letting wsX1_priceOf := goodIn_r _ [42, 16, 17, 43, 44, 45, 13, 46, 94, 95, 96, 97, 98, 99, 100, 101, 102] (by decide +kernel) (by decide +kernel)
set_option maxRecDepth 20000 in
theorem gX8_letting_X1_priceOf : GoodIn wsX8_letting (wsV RX8 216 RX1 yX1_priceOf wsX1_priceOf) := goodIn_app (goodIn_of _ (by decide +kernel)) ggX8_letting_X1_priceOf
theorem dX8_letting_0 : decode cX8_letting 0 = .ok (.iload_n 1, 1) := by decide +kernel
theorem dX8_letting_1 : decode cX8_letting 1 = .ok (.iload_n 2, 1) := by decide +kernel
theorem dX8_letting_2 : decode cX8_letting 2 = .ok (.invokestatic 198, 3) := by decide +kernel
theorem dX8_letting_5 : decode cX8_letting 5 = .ok (.ifCond .eq 12, 3) := by decide +kernel
theorem dX8_letting_8 : decode cX8_letting 8 = .ok (.iload_n 3, 1) := by decide +kernel
theorem dX8_letting_9 : decode cX8_letting 9 = .ok (.iconst 0, 1) := by decide +kernel
theorem dX8_letting_10 : decode cX8_letting 10 = .ok (.iconst 1, 1) := by decide +kernel
theorem dX8_letting_11 : decode cX8_letting 11 = .ok (.invokestatic 108, 3) := by decide +kernel
theorem dX8_letting_14 : decode cX8_letting 14 = .ok (.ifCond .ne 5, 3) := by decide +kernel
theorem dX8_letting_17 : decode cX8_letting 17 = .ok (.iconst (-1), 1) := by decide +kernel
theorem dX8_letting_18 : decode cX8_letting 18 = .ok (.ireturn, 1) := by decide +kernel
theorem dX8_letting_19 : decode cX8_letting 19 = .ok (.aload_n 0, 1) := by decide +kernel
theorem dX8_letting_20 : decode cX8_letting 20 = .ok (.getfield 53, 3) := by decide +kernel
theorem dX8_letting_23 : decode cX8_letting 23 = .ok (.aload_n 0, 1) := by decide +kernel
theorem dX8_letting_24 : decode cX8_letting 24 = .ok (.getfield 26, 3) := by decide +kernel
theorem dX8_letting_27 : decode cX8_letting 27 = .ok (.iload_n 1, 1) := by decide +kernel
theorem dX8_letting_28 : decode cX8_letting 28 = .ok (.iload_n 2, 1) := by decide +kernel
theorem dX8_letting_29 : decode cX8_letting 29 = .ok (.invokevirtual 212, 3) := by decide +kernel
theorem dX8_letting_32 : decode cX8_letting 32 = .ok (.istore 4, 2) := by decide +kernel
theorem dX8_letting_34 : decode cX8_letting 34 = .ok (.iload_n 3, 1) := by decide +kernel
theorem dX8_letting_35 : decode cX8_letting 35 = .ok (.ifCond .ne 15, 3) := by decide +kernel
theorem dX8_letting_38 : decode cX8_letting 38 = .ok (.aload_n 0, 1) := by decide +kernel
theorem dX8_letting_39 : decode cX8_letting 39 = .ok (.getfield 53, 3) := by decide +kernel
theorem dX8_letting_42 : decode cX8_letting 42 = .ok (.iload 4, 2) := by decide +kernel
theorem dX8_letting_44 : decode cX8_letting 44 = .ok (.invokevirtual 216, 3) := by decide +kernel
theorem dX8_letting_47 : decode cX8_letting 47 = .ok (.goto 5, 3) := by decide +kernel
theorem dX8_letting_50 : decode cX8_letting 50 = .ok (.iload 4, 2) := by decide +kernel
theorem dX8_letting_52 : decode cX8_letting 52 = .ok (.ireturn, 1) := by decide +kernel
set_option maxRecDepth 20000 in
theorem ggX8_saw_X5_hasStar : GoodIn wsX8_saw wsX5_hasStar := goodIn_r _ [8, 9, 43, 44, 45, 46, 47, 48, 49, 50] (by decide +kernel) (by decide +kernel)
set_option maxRecDepth 20000 in
theorem gX8_saw_X5_hasStar : GoodIn wsX8_saw (wsV RX8 105 RX5 yX5_hasStar wsX5_hasStar) := goodIn_app (goodIn_of _ (by decide +kernel)) ggX8_saw_X5_hasStar
set_option maxRecDepth 20000 in
theorem ggX8_saw_X5_hasSquare : GoodIn wsX8_saw wsX5_hasSquare := goodIn_r _ [13, 14, 43, 44, 45, 46, 47, 48, 49, 50] (by decide +kernel) (by decide +kernel)
set_option maxRecDepth 20000 in
theorem gX8_saw_X5_hasSquare : GoodIn wsX8_saw (wsV RX8 125 RX5 yX5_hasSquare wsX5_hasSquare) := goodIn_app (goodIn_of _ (by decide +kernel)) ggX8_saw_X5_hasSquare
set_option maxRecDepth 20000 in
theorem ggX8_saw_X4_isFull : GoodIn wsX8_saw wsX4_isFull := goodIn_r _ [19, 20, 40, 41, 42] (by decide +kernel) (by decide +kernel)
set_option maxRecDepth 20000 in
theorem gX8_saw_X4_isFull : GoodIn wsX8_saw (wsV RX8 219 RX4 yX4_isFull wsX4_isFull) := goodIn_app (goodIn_of _ (by decide +kernel)) ggX8_saw_X4_isFull
set_option maxRecDepth 20000 in
theorem ggX8_saw_X4_add : GoodIn wsX8_saw wsX4_add := goodIn_r _ [24, 25, 20, 26, 27, 16, 17, 18, 19, 40, 41, 42] (by decide +kernel) (by decide +kernel)
set_option maxRecDepth 20000 in
theorem gX8_saw_X4_add : GoodIn wsX8_saw (wsV RX8 220 RX4 yX4_add wsX4_add) := goodIn_app (goodIn_of _ (by decide +kernel)) ggX8_saw_X4_add
theorem dX8_saw_0 : decode cX8_saw 0 = .ok (.aload_n 0, 1) := by decide +kernel
theorem dX8_saw_1 : decode cX8_saw 1 = .ok (.getfield 26, 3) := by decide +kernel
theorem dX8_saw_4 : decode cX8_saw 4 = .ok (.iload_n 1, 1) := by decide +kernel
theorem dX8_saw_5 : decode cX8_saw 5 = .ok (.invokevirtual 105, 3) := by decide +kernel
theorem dX8_saw_8 : decode cX8_saw 8 = .ok (.ifCond .eq 14, 3) := by decide +kernel
theorem dX8_saw_11 : decode cX8_saw 11 = .ok (.aload_n 0, 1) := by decide +kernel
theorem dX8_saw_12 : decode cX8_saw 12 = .ok (.getfield 26, 3) := by decide +kernel
theorem dX8_saw_15 : decode cX8_saw 15 = .ok (.iload_n 2, 1) := by decide +kernel
theorem dX8_saw_16 : decode cX8_saw 16 = .ok (.invokevirtual 125, 3) := by decide +kernel
theorem dX8_saw_19 : decode cX8_saw 19 = .ok (.ifCond .ne 5, 3) := by decide +kernel
theorem dX8_saw_22 : decode cX8_saw 22 = .ok (.iconst (-1), 1) := by decide +kernel
theorem dX8_saw_23 : decode cX8_saw 23 = .ok (.ireturn, 1) := by decide +kernel
theorem dX8_saw_24 : decode cX8_saw 24 = .ok (.aload_n 0, 1) := by decide +kernel
theorem dX8_saw_25 : decode cX8_saw 25 = .ok (.getfield 60, 3) := by decide +kernel
theorem dX8_saw_28 : decode cX8_saw 28 = .ok (.invokevirtual 219, 3) := by decide +kernel
theorem dX8_saw_31 : decode cX8_saw 31 = .ok (.ifCond .eq 6, 3) := by decide +kernel
theorem dX8_saw_34 : decode cX8_saw 34 = .ok (.bipush (-3), 2) := by decide +kernel
theorem dX8_saw_36 : decode cX8_saw 36 = .ok (.ireturn, 1) := by decide +kernel
theorem dX8_saw_37 : decode cX8_saw 37 = .ok (.aload_n 0, 1) := by decide +kernel
theorem dX8_saw_38 : decode cX8_saw 38 = .ok (.getfield 60, 3) := by decide +kernel
theorem dX8_saw_41 : decode cX8_saw 41 = .ok (.iload_n 1, 1) := by decide +kernel
theorem dX8_saw_42 : decode cX8_saw 42 = .ok (.iload_n 2, 1) := by decide +kernel
theorem dX8_saw_43 : decode cX8_saw 43 = .ok (.invokevirtual 220, 3) := by decide +kernel
theorem dX8_saw_46 : decode cX8_saw 46 = .ok (.aload_n 0, 1) := by decide +kernel
theorem dX8_saw_47 : decode cX8_saw 47 = .ok (.getfield 60, 3) := by decide +kernel
theorem dX8_saw_50 : decode cX8_saw 50 = .ok (.getfield 104, 3) := by decide +kernel
theorem dX8_saw_53 : decode cX8_saw 53 = .ok (.ireturn, 1) := by decide +kernel
theorem dX8_forget_0 : decode cX8_forget 0 = .ok (.aload_n 0, 1) := by decide +kernel
theorem dX8_forget_1 : decode cX8_forget 1 = .ok (.getfield 60, 3) := by decide +kernel
theorem dX8_forget_4 : decode cX8_forget 4 = .ok (.getfield 104, 3) := by decide +kernel
theorem dX8_forget_7 : decode cX8_forget 7 = .ok (.istore_n 1, 1) := by decide +kernel
theorem dX8_forget_8 : decode cX8_forget 8 = .ok (.aload_n 0, 1) := by decide +kernel
theorem dX8_forget_9 : decode cX8_forget 9 = .ok (.getfield 60, 3) := by decide +kernel
theorem dX8_forget_12 : decode cX8_forget 12 = .ok (.iconst 0, 1) := by decide +kernel
theorem dX8_forget_13 : decode cX8_forget 13 = .ok (.putfield 104, 3) := by decide +kernel
theorem dX8_forget_16 : decode cX8_forget 16 = .ok (.iload_n 1, 1) := by decide +kernel
theorem dX8_forget_17 : decode cX8_forget 17 = .ok (.ireturn, 1) := by decide +kernel
set_option maxRecDepth 20000 in
theorem ggX8_dates_X8_isWithin : GoodIn wsX8_dates wsX8_isWithin := goodIn_r _ [6] (by decide +kernel) (by decide +kernel)
set_option maxRecDepth 20000 in
theorem gX8_dates_X8_isWithin : GoodIn wsX8_dates (va_wsS RX8 108 yX8_isWithin wsX8_isWithin) := goodIn_app (goodIn_of _ (by decide +kernel)) ggX8_dates_X8_isWithin
set_option maxRecDepth 20000 in
theorem ggX8_dates_X4_fits : GoodIn wsX8_dates wsX4_fits := goodIn_r _ [11, 12, 13, 14, 15, 16, 17, 18, 19, 20, 21, 22, 23, 24, 25, 26, 27, 28, 29, 30, 31, 44, 45, 46, 47, 48, 49, 50, 51, 52, 53, 54] (by decide +kernel) (by decide +kernel)
set_option maxRecDepth 20000 in
theorem gX8_dates_X4_fits : GoodIn wsX8_dates (wsV RX8 222 RX4 yX4_fits wsX4_fits) := goodIn_app (goodIn_of _ (by decide +kernel)) ggX8_dates_X4_fits
theorem dX8_dates_0 : decode cX8_dates 0 = .ok (.iload_n 1, 1) := by decide +kernel
theorem dX8_dates_1 : decode cX8_dates 1 = .ok (.iconst 0, 1) := by decide +kernel
theorem dX8_dates_2 : decode cX8_dates 2 = .ok (.iconst 1, 1) := by decide +kernel
theorem dX8_dates_3 : decode cX8_dates 3 = .ok (.invokestatic 108, 3) := by decide +kernel
theorem dX8_dates_6 : decode cX8_dates 6 = .ok (.ifCond .ne 5, 3) := by decide +kernel
theorem dX8_dates_9 : decode cX8_dates 9 = .ok (.iconst (-1), 1) := by decide +kernel
theorem dX8_dates_10 : decode cX8_dates 10 = .ok (.ireturn, 1) := by decide +kernel
theorem dX8_dates_11 : decode cX8_dates 11 = .ok (.iconst 0, 1) := by decide +kernel
theorem dX8_dates_12 : decode cX8_dates 12 = .ok (.istore_n 2, 1) := by decide +kernel
theorem dX8_dates_13 : decode cX8_dates 13 = .ok (.bipush (-9), 2) := by decide +kernel
theorem dX8_dates_15 : decode cX8_dates 15 = .ok (.istore_n 3, 1) := by decide +kernel
theorem dX8_dates_16 : decode cX8_dates 16 = .ok (.iconst 0, 1) := by decide +kernel
theorem dX8_dates_17 : decode cX8_dates 17 = .ok (.istore 4, 2) := by decide +kernel
theorem dX8_dates_19 : decode cX8_dates 19 = .ok (.iload 4, 2) := by decide +kernel
theorem dX8_dates_21 : decode cX8_dates 21 = .ok (.sipush 999, 3) := by decide +kernel
theorem dX8_dates_24 : decode cX8_dates 24 = .ok (.if_icmp .gt 39, 3) := by decide +kernel
theorem dX8_dates_27 : decode cX8_dates 27 = .ok (.aload_n 0, 1) := by decide +kernel
theorem dX8_dates_28 : decode cX8_dates 28 = .ok (.getfield 60, 3) := by decide +kernel
theorem dX8_dates_31 : decode cX8_dates 31 = .ok (.aload_n 0, 1) := by decide +kernel
theorem dX8_dates_32 : decode cX8_dates 32 = .ok (.getfield 26, 3) := by decide +kernel
theorem dX8_dates_35 : decode cX8_dates 35 = .ok (.iload 4, 2) := by decide +kernel
theorem dX8_dates_37 : decode cX8_dates 37 = .ok (.invokevirtual 222, 3) := by decide +kernel
theorem dX8_dates_40 : decode cX8_dates 40 = .ok (.ifCond .eq 17, 3) := by decide +kernel
theorem dX8_dates_43 : decode cX8_dates 43 = .ok (.iload_n 2, 1) := by decide +kernel
theorem dX8_dates_44 : decode cX8_dates 44 = .ok (.ifCond .ne 8, 3) := by decide +kernel
theorem dX8_dates_47 : decode cX8_dates 47 = .ok (.iload 4, 2) := by decide +kernel
theorem dX8_dates_49 : decode cX8_dates 49 = .ok (.goto 4, 3) := by decide +kernel
theorem dX8_dates_52 : decode cX8_dates 52 = .ok (.iload_n 3, 1) := by decide +kernel
theorem dX8_dates_53 : decode cX8_dates 53 = .ok (.istore_n 3, 1) := by decide +kernel
theorem dX8_dates_54 : decode cX8_dates 54 = .ok (.iinc 2 1, 3) := by decide +kernel
theorem dX8_dates_57 : decode cX8_dates 57 = .ok (.iinc 4 1, 3) := by decide +kernel
theorem dX8_dates_60 : decode cX8_dates 60 = .ok (.goto (-41), 3) := by decide +kernel
theorem dX8_dates_63 : decode cX8_dates 63 = .ok (.iload_n 1, 1) := by decide +kernel
theorem dX8_dates_64 : decode cX8_dates 64 = .ok (.ifCond .ne 7, 3) := by decide +kernel
theorem dX8_dates_67 : decode cX8_dates 67 = .ok (.iload_n 2, 1) := by decide +kernel
theorem dX8_dates_68 : decode cX8_dates 68 = .ok (.goto 4, 3) := by decide +kernel
theorem dX8_dates_71 : decode cX8_dates 71 = .ok (.iload_n 3, 1) := by decide +kernel
theorem dX8_dates_72 : decode cX8_dates 72 = .ok (.ireturn, 1) := by decide +kernel
set_option maxRecDepth 20000 in
theorem ggX8_odds_X5_hasTenant : GoodIn wsX8_odds wsX5_hasTenant := goodIn_r _ [14, 15, 89, 90, 91, 92, 93, 94, 95, 96] (by decide +kernel) (by decide +kernel)
set_option maxRecDepth 20000 in
theorem gX8_odds_X5_hasTenant : GoodIn wsX8_odds (wsV RX8 160 RX5 yX5_hasTenant wsX5_hasTenant) := goodIn_app (goodIn_of _ (by decide +kernel)) ggX8_odds_X5_hasTenant
set_option maxRecDepth 20000 in
theorem ggX8_odds_X8_isWithin : GoodIn wsX8_odds wsX8_isWithin := goodIn_r _ [19] (by decide +kernel) (by decide +kernel)
set_option maxRecDepth 20000 in
theorem gX8_odds_X8_isWithin : GoodIn wsX8_odds (va_wsS RX8 108 yX8_isWithin wsX8_isWithin) := goodIn_app (goodIn_of _ (by decide +kernel)) ggX8_odds_X8_isWithin
set_option maxRecDepth 20000 in
theorem ggX8_odds_X8_broughtTo : GoodIn wsX8_odds wsX8_broughtTo := goodIn_r _ [23, 1, 24, 25, 26, 27, 28, 13, 29, 30, 31, 32, 33, 34, 35, 36, 37, 38, 39, 40, 41, 42, 43, 44, 18, 45, 4, 46, 47, 2, 48, 49, 50, 51, 52, 53, 54, 55, 56, 57, 58, 59, 60, 61, 62, 17, 19, 63, 64, 65, 66, 67, 68, 69, 70, 77, 78, 79, 80, 81, 82, 83, 84, 85, 86, 87, 88, 89, 90, 91, 92, 93, 94, 95, 96, 97, 98, 99, 100, 101, 102, 103, 104] (by decide +kernel) (by decide +kernel)
set_option maxRecDepth 20000 in
theorem gX8_odds_X8_broughtTo : GoodIn wsX8_odds (wsV RX8 156 RX8 yX8_broughtTo wsX8_broughtTo) := goodIn_app (goodIn_of _ (by decide +kernel)) ggX8_odds_X8_broughtTo
set_option maxRecDepth 20000 in
theorem ggX8_odds_X8_waysToBring : GoodIn wsX8_odds wsX8_waysToBring := goodIn_r _ [73, 71, 72, 18] (by decide +kernel) (by decide +kernel)
set_option maxRecDepth 20000 in
theorem gX8_odds_X8_waysToBring : GoodIn wsX8_odds (va_wsS RX8 226 yX8_waysToBring wsX8_waysToBring) := goodIn_app (goodIn_of _ (by decide +kernel)) ggX8_odds_X8_waysToBring
set_option maxRecDepth 20000 in
theorem ggX8_odds_X8_greatestCommon : GoodIn wsX8_odds wsX8_greatestCommon := goodIn_r _ [76] (by decide +kernel) (by decide +kernel)
set_option maxRecDepth 20000 in
theorem gX8_odds_X8_greatestCommon : GoodIn wsX8_odds (va_wsS RX8 230 yX8_greatestCommon wsX8_greatestCommon) := goodIn_app (goodIn_of _ (by decide +kernel)) ggX8_odds_X8_greatestCommon
theorem dX8_odds_0 : decode cX8_odds 0 = .ok (.aload_n 0, 1) := by decide +kernel
theorem dX8_odds_1 : decode cX8_odds 1 = .ok (.getfield 26, 3) := by decide +kernel
theorem dX8_odds_4 : decode cX8_odds 4 = .ok (.iload_n 1, 1) := by decide +kernel
theorem dX8_odds_5 : decode cX8_odds 5 = .ok (.invokevirtual 160, 3) := by decide +kernel
theorem dX8_odds_8 : decode cX8_odds 8 = .ok (.ifCond .eq 32, 3) := by decide +kernel
theorem dX8_odds_11 : decode cX8_odds 11 = .ok (.iload_n 2, 1) := by decide +kernel
theorem dX8_odds_12 : decode cX8_odds 12 = .ok (.iconst 1, 1) := by decide +kernel
theorem dX8_odds_13 : decode cX8_odds 13 = .ok (.iconst 3, 1) := by decide +kernel
theorem dX8_odds_14 : decode cX8_odds 14 = .ok (.invokestatic 108, 3) := by decide +kernel
theorem dX8_odds_17 : decode cX8_odds 17 = .ok (.ifCond .eq 23, 3) := by decide +kernel
theorem dX8_odds_20 : decode cX8_odds 20 = .ok (.iload_n 3, 1) := by decide +kernel
theorem dX8_odds_21 : decode cX8_odds 21 = .ok (.iconst 0, 1) := by decide +kernel
theorem dX8_odds_22 : decode cX8_odds 22 = .ok (.bipush 99, 2) := by decide +kernel
theorem dX8_odds_24 : decode cX8_odds 24 = .ok (.invokestatic 108, 3) := by decide +kernel
theorem dX8_odds_27 : decode cX8_odds 27 = .ok (.ifCond .eq 13, 3) := by decide +kernel
theorem dX8_odds_30 : decode cX8_odds 30 = .ok (.iload 4, 2) := by decide +kernel
theorem dX8_odds_32 : decode cX8_odds 32 = .ok (.iconst 0, 1) := by decide +kernel
theorem dX8_odds_33 : decode cX8_odds 33 = .ok (.iconst 1, 1) := by decide +kernel
theorem dX8_odds_34 : decode cX8_odds 34 = .ok (.invokestatic 108, 3) := by decide +kernel
theorem dX8_odds_37 : decode cX8_odds 37 = .ok (.ifCond .ne 5, 3) := by decide +kernel
theorem dX8_odds_40 : decode cX8_odds 40 = .ok (.iconst (-1), 1) := by decide +kernel
theorem dX8_odds_41 : decode cX8_odds 41 = .ok (.ireturn, 1) := by decide +kernel
theorem dX8_odds_42 : decode cX8_odds 42 = .ok (.iconst 1, 1) := by decide +kernel
theorem dX8_odds_43 : decode cX8_odds 43 = .ok (.istore 5, 2) := by decide +kernel
theorem dX8_odds_45 : decode cX8_odds 45 = .ok (.iconst 0, 1) := by decide +kernel
theorem dX8_odds_46 : decode cX8_odds 46 = .ok (.istore 6, 2) := by decide +kernel
theorem dX8_odds_48 : decode cX8_odds 48 = .ok (.iload 6, 2) := by decide +kernel
theorem dX8_odds_50 : decode cX8_odds 50 = .ok (.iload_n 2, 1) := by decide +kernel
theorem dX8_odds_51 : decode cX8_odds 51 = .ok (.if_icmp .ge 72, 3) := by decide +kernel
theorem dX8_odds_54 : decode cX8_odds 54 = .ok (.iload 5, 2) := by decide +kernel
theorem dX8_odds_56 : decode cX8_odds 56 = .ok (.aload_n 0, 1) := by decide +kernel
theorem dX8_odds_57 : decode cX8_odds 57 = .ok (.getfield 26, 3) := by decide +kernel
theorem dX8_odds_60 : decode cX8_odds 60 = .ok (.getfield 131, 3) := by decide +kernel
theorem dX8_odds_63 : decode cX8_odds 63 = .ok (.imul, 1) := by decide +kernel
theorem dX8_odds_64 : decode cX8_odds 64 = .ok (.istore 5, 2) := by decide +kernel
theorem dX8_odds_66 : decode cX8_odds 66 = .ok (.iconst 0, 1) := by decide +kernel
theorem dX8_odds_67 : decode cX8_odds 67 = .ok (.istore 7, 2) := by decide +kernel
theorem dX8_odds_69 : decode cX8_odds 69 = .ok (.iload 7, 2) := by decide +kernel
theorem dX8_odds_71 : decode cX8_odds 71 = .ok (.aload_n 0, 1) := by decide +kernel
theorem dX8_odds_72 : decode cX8_odds 72 = .ok (.getfield 26, 3) := by decide +kernel
theorem dX8_odds_75 : decode cX8_odds 75 = .ok (.getfield 131, 3) := by decide +kernel
theorem dX8_odds_78 : decode cX8_odds 78 = .ok (.if_icmp .ge 39, 3) := by decide +kernel
theorem dX8_odds_81 : decode cX8_odds 81 = .ok (.aload_n 0, 1) := by decide +kernel
theorem dX8_odds_82 : decode cX8_odds 82 = .ok (.getfield 64, 3) := by decide +kernel
theorem dX8_odds_85 : decode cX8_odds 85 = .ok (.iload 6, 2) := by decide +kernel
theorem dX8_odds_87 : decode cX8_odds 87 = .ok (.bipush 8, 2) := by decide +kernel
theorem dX8_odds_89 : decode cX8_odds 89 = .ok (.imul, 1) := by decide +kernel
theorem dX8_odds_90 : decode cX8_odds 90 = .ok (.iload 7, 2) := by decide +kernel
theorem dX8_odds_92 : decode cX8_odds 92 = .ok (.iadd, 1) := by decide +kernel
theorem dX8_odds_93 : decode cX8_odds 93 = .ok (.aload_n 0, 1) := by decide +kernel
theorem dX8_odds_94 : decode cX8_odds 94 = .ok (.iload_n 1, 1) := by decide +kernel
theorem dX8_odds_95 : decode cX8_odds 95 = .ok (.aload_n 0, 1) := by decide +kernel
theorem dX8_odds_96 : decode cX8_odds 96 = .ok (.getfield 36, 3) := by decide +kernel
theorem dX8_odds_99 : decode cX8_odds 99 = .ok (.getfield 142, 3) := by decide +kernel
theorem dX8_odds_102 : decode cX8_odds 102 = .ok (.iload 6, 2) := by decide +kernel
theorem dX8_odds_104 : decode cX8_odds 104 = .ok (.iadd, 1) := by decide +kernel
theorem dX8_odds_105 : decode cX8_odds 105 = .ok (.iload 7, 2) := by decide +kernel
theorem dX8_odds_107 : decode cX8_odds 107 = .ok (.invokevirtual 156, 3) := by decide +kernel
theorem dX8_odds_110 : decode cX8_odds 110 = .ok (.iastore, 1) := by decide +kernel
theorem dX8_odds_111 : decode cX8_odds 111 = .ok (.iinc 7 1, 3) := by decide +kernel
theorem dX8_odds_114 : decode cX8_odds 114 = .ok (.goto (-45), 3) := by decide +kernel
theorem dX8_odds_117 : decode cX8_odds 117 = .ok (.iinc 6 1, 3) := by decide +kernel
theorem dX8_odds_120 : decode cX8_odds 120 = .ok (.goto (-72), 3) := by decide +kernel
theorem dX8_odds_123 : decode cX8_odds 123 = .ok (.iload_n 3, 1) := by decide +kernel
theorem dX8_odds_124 : decode cX8_odds 124 = .ok (.iload_n 2, 1) := by decide +kernel
theorem dX8_odds_125 : decode cX8_odds 125 = .ok (.aload_n 0, 1) := by decide +kernel
theorem dX8_odds_126 : decode cX8_odds 126 = .ok (.getfield 64, 3) := by decide +kernel
theorem dX8_odds_129 : decode cX8_odds 129 = .ok (.aload_n 0, 1) := by decide +kernel
theorem dX8_odds_130 : decode cX8_odds 130 = .ok (.getfield 26, 3) := by decide +kernel
theorem dX8_odds_133 : decode cX8_odds 133 = .ok (.getfield 131, 3) := by decide +kernel
theorem dX8_odds_136 : decode cX8_odds 136 = .ok (.invokestatic 226, 3) := by decide +kernel
theorem dX8_odds_139 : decode cX8_odds 139 = .ok (.istore 6, 2) := by decide +kernel
theorem dX8_odds_141 : decode cX8_odds 141 = .ok (.iconst 1, 1) := by decide +kernel
theorem dX8_odds_142 : decode cX8_odds 142 = .ok (.iload 5, 2) := by decide +kernel
theorem dX8_odds_144 : decode cX8_odds 144 = .ok (.iload 6, 2) := by decide +kernel
theorem dX8_odds_146 : decode cX8_odds 146 = .ok (.invokestatic 230, 3) := by decide +kernel
theorem dX8_odds_149 : decode cX8_odds 149 = .ok (.invokestatic 233, 3) := by decide +kernel
theorem dX8_odds_152 : decode cX8_odds 152 = .ok (.istore 7, 2) := by decide +kernel
theorem dX8_odds_154 : decode cX8_odds 154 = .ok (.iload 4, 2) := by decide +kernel
theorem dX8_odds_156 : decode cX8_odds 156 = .ok (.ifCond .ne 8, 3) := by decide +kernel
theorem dX8_odds_159 : decode cX8_odds 159 = .ok (.iload 6, 2) := by decide +kernel
theorem dX8_odds_161 : decode cX8_odds 161 = .ok (.goto 5, 3) := by decide +kernel
theorem dX8_odds_164 : decode cX8_odds 164 = .ok (.iload 5, 2) := by decide +kernel
theorem dX8_odds_166 : decode cX8_odds 166 = .ok (.iload 7, 2) := by decide +kernel
theorem dX8_odds_168 : decode cX8_odds 168 = .ok (.idiv, 1) := by decide +kernel
theorem dX8_odds_169 : decode cX8_odds 169 = .ok (.ireturn, 1) := by decide +kernel
set_option maxRecDepth 20000 in
theorem ggX8_rate_X5_hasTenant : GoodIn wsX8_rate wsX5_hasTenant := goodIn_r _ [7, 8, 92, 93, 94, 95, 96, 97, 98, 99] (by decide +kernel) (by decide +kernel)
set_option maxRecDepth 20000 in
theorem gX8_rate_X5_hasTenant : GoodIn wsX8_rate (wsV RX8 160 RX5 yX5_hasTenant wsX5_hasTenant) := goodIn_app (goodIn_of _ (by decide +kernel)) ggX8_rate_X5_hasTenant
set_option maxRecDepth 20000 in
theorem ggX8_rate_X8_tenantRate : GoodIn wsX8_rate wsX8_tenantRate := goodIn_r _ [13, 14, 15, 16, 80, 81, 82, 83, 84, 85, 86, 87, 88, 89, 90, 91, 100, 101, 102, 103, 104] (by decide +kernel) (by decide +kernel)
set_option maxRecDepth 20000 in
theorem gX8_rate_X8_tenantRate : GoodIn wsX8_rate (wsV RX8 239 RX8 yX8_tenantRate wsX8_tenantRate) := goodIn_app (goodIn_of _ (by decide +kernel)) ggX8_rate_X8_tenantRate
set_option maxRecDepth 20000 in
theorem ggX8_rate_X8_cobblerRate : GoodIn wsX8_rate wsX8_cobblerRate := goodIn_r _ [20, 14, 21, 15, 22, 9, 10, 11, 12, 13, 16, 23, 24, 25, 26, 27, 28, 29, 30, 31, 32, 33, 34, 35, 36, 37, 38, 39, 80, 81, 82, 83, 84, 85, 86, 87, 88, 89, 90, 91, 100, 101, 102, 103, 104, 105, 106, 107] (by decide +kernel) (by decide +kernel)
set_option maxRecDepth 20000 in
theorem gX8_rate_X8_cobblerRate : GoodIn wsX8_rate (wsV RX8 242 RX8 yX8_cobblerRate wsX8_cobblerRate) := goodIn_app (goodIn_of _ (by decide +kernel)) ggX8_rate_X8_cobblerRate
set_option maxRecDepth 20000 in
theorem ggX8_rate_X8_widowRate : GoodIn wsX8_rate wsX8_widowRate := goodIn_r _ [43, 14, 44, 1, 45, 15, 46, 47, 48, 49, 12, 50, 22, 51, 52, 53, 54, 26, 55, 56, 57, 58, 59, 33, 34, 35, 36, 37, 28, 38, 39, 60, 61, 62, 63, 64, 30, 31, 32, 9, 10, 11, 13, 16, 80, 81, 82, 83, 84, 85, 86, 87, 88, 89, 90, 91, 92, 93, 94, 95, 96, 97, 98, 99, 100, 101, 102, 103, 104, 105, 106, 107] (by decide +kernel) (by decide +kernel)
set_option maxRecDepth 20000 in
theorem gX8_rate_X8_widowRate : GoodIn wsX8_rate (wsV RX8 245 RX8 yX8_widowRate wsX8_widowRate) := goodIn_app (goodIn_of _ (by decide +kernel)) ggX8_rate_X8_widowRate
set_option maxRecDepth 20000 in
theorem ggX8_rate_X8_heirRate : GoodIn wsX8_rate wsX8_heirRate := goodIn_r _ [68, 14, 69, 17, 18, 19, 12, 20, 21, 15, 22, 9, 10, 11, 13, 16, 23, 24, 25, 26, 27, 28, 29, 30, 31, 32, 33, 34, 35, 36, 37, 38, 39, 80, 81, 82, 83, 84, 85, 86, 87, 88, 89, 90, 91, 100, 101, 102, 103, 104, 105, 106, 107] (by decide +kernel) (by decide +kernel)
set_option maxRecDepth 20000 in
theorem gX8_rate_X8_heirRate : GoodIn wsX8_rate (wsV RX8 248 RX8 yX8_heirRate wsX8_heirRate) := goodIn_app (goodIn_of _ (by decide +kernel)) ggX8_rate_X8_heirRate
set_option maxRecDepth 20000 in
theorem ggX8_rate_X8_abbessRate : GoodIn wsX8_rate wsX8_abbessRate := goodIn_r _ [73, 14, 74, 40, 41, 42, 12, 43, 44, 1, 45, 15, 46, 47, 48, 49, 50, 22, 51, 52, 53, 54, 26, 55, 56, 57, 58, 59, 33, 34, 35, 36, 37, 28, 38, 39, 60, 61, 62, 63, 64, 30, 31, 32, 9, 10, 11, 13, 16, 80, 81, 82, 83, 84, 85, 86, 87, 88, 89, 90, 91, 92, 93, 94, 95, 96, 97, 98, 99, 100, 101, 102, 103, 104, 105, 106, 107] (by decide +kernel) (by decide +kernel)
set_option maxRecDepth 20000 in
theorem gX8_rate_X8_abbessRate : GoodIn wsX8_rate (wsV RX8 251 RX8 yX8_abbessRate wsX8_abbessRate) := goodIn_app (goodIn_of _ (by decide +kernel)) ggX8_rate_X8_abbessRate
set_option maxRecDepth 20000 in
theorem ggX8_rate_X8_shepherdRate : GoodIn wsX8_rate wsX8_shepherdRate := goodIn_r _ [78, 14, 79, 15, 46, 9, 10, 11, 12, 13, 16, 80, 81, 82, 83, 84, 85, 86, 87, 88, 89, 90, 91, 100, 101, 102, 103, 104] (by decide +kernel) (by decide +kernel)
set_option maxRecDepth 20000 in
theorem gX8_rate_X8_shepherdRate : GoodIn wsX8_rate (wsV RX8 254 RX8 yX8_shepherdRate wsX8_shepherdRate) := goodIn_app (goodIn_of _ (by decide +kernel)) ggX8_rate_X8_shepherdRate
theorem dX8_rate_0 : decode cX8_rate 0 = .ok (.aload_n 0, 1) := by decide +kernel
theorem dX8_rate_1 : decode cX8_rate 1 = .ok (.getfield 26, 3) := by decide +kernel
theorem dX8_rate_4 : decode cX8_rate 4 = .ok (.iload_n 2, 1) := by decide +kernel
theorem dX8_rate_5 : decode cX8_rate 5 = .ok (.invokevirtual 160, 3) := by decide +kernel
theorem dX8_rate_8 : decode cX8_rate 8 = .ok (.ifCond .ne 6, 3) := by decide +kernel
theorem dX8_rate_11 : decode cX8_rate 11 = .ok (.ldc 238, 2) := by decide +kernel
theorem dX8_rate_13 : decode cX8_rate 13 = .ok (.ireturn, 1) := by decide +kernel
theorem dX8_rate_14 : decode cX8_rate 14 = .ok (.iload_n 1, 1) := by decide +kernel
theorem dX8_rate_15 : decode cX8_rate 15 = .ok (.tableswitch 73 0 5 #[37, 43, 49, 55, 61, 67], 37) := by decide +kernel
theorem dX8_rate_52 : decode cX8_rate 52 = .ok (.aload_n 0, 1) := by decide +kernel
theorem dX8_rate_53 : decode cX8_rate 53 = .ok (.iload_n 2, 1) := by decide +kernel
theorem dX8_rate_54 : decode cX8_rate 54 = .ok (.invokevirtual 239, 3) := by decide +kernel
theorem dX8_rate_57 : decode cX8_rate 57 = .ok (.ireturn, 1) := by decide +kernel
theorem dX8_rate_58 : decode cX8_rate 58 = .ok (.aload_n 0, 1) := by decide +kernel
theorem dX8_rate_59 : decode cX8_rate 59 = .ok (.iload_n 2, 1) := by decide +kernel
theorem dX8_rate_60 : decode cX8_rate 60 = .ok (.invokevirtual 242, 3) := by decide +kernel
theorem dX8_rate_63 : decode cX8_rate 63 = .ok (.ireturn, 1) := by decide +kernel
theorem dX8_rate_64 : decode cX8_rate 64 = .ok (.aload_n 0, 1) := by decide +kernel
theorem dX8_rate_65 : decode cX8_rate 65 = .ok (.iload_n 2, 1) := by decide +kernel
theorem dX8_rate_66 : decode cX8_rate 66 = .ok (.invokevirtual 245, 3) := by decide +kernel
theorem dX8_rate_69 : decode cX8_rate 69 = .ok (.ireturn, 1) := by decide +kernel
theorem dX8_rate_70 : decode cX8_rate 70 = .ok (.aload_n 0, 1) := by decide +kernel
theorem dX8_rate_71 : decode cX8_rate 71 = .ok (.iload_n 2, 1) := by decide +kernel
theorem dX8_rate_72 : decode cX8_rate 72 = .ok (.invokevirtual 248, 3) := by decide +kernel
theorem dX8_rate_75 : decode cX8_rate 75 = .ok (.ireturn, 1) := by decide +kernel
theorem dX8_rate_76 : decode cX8_rate 76 = .ok (.aload_n 0, 1) := by decide +kernel
theorem dX8_rate_77 : decode cX8_rate 77 = .ok (.iload_n 2, 1) := by decide +kernel
theorem dX8_rate_78 : decode cX8_rate 78 = .ok (.invokevirtual 251, 3) := by decide +kernel
theorem dX8_rate_81 : decode cX8_rate 81 = .ok (.ireturn, 1) := by decide +kernel
theorem dX8_rate_82 : decode cX8_rate 82 = .ok (.aload_n 0, 1) := by decide +kernel
theorem dX8_rate_83 : decode cX8_rate 83 = .ok (.iload_n 2, 1) := by decide +kernel
theorem dX8_rate_84 : decode cX8_rate 84 = .ok (.invokevirtual 254, 3) := by decide +kernel
theorem dX8_rate_87 : decode cX8_rate 87 = .ok (.ireturn, 1) := by decide +kernel
theorem dX8_rate_88 : decode cX8_rate 88 = .ok (.ldc 238, 2) := by decide +kernel
theorem dX8_rate_90 : decode cX8_rate 90 = .ok (.ireturn, 1) := by decide +kernel
set_option maxRecDepth 20000 in
theorem ggX8_keep_X8_isWithin : GoodIn wsX8_keep wsX8_isWithin := goodIn_r _ [7] (by decide +kernel) (by decide +kernel)
set_option maxRecDepth 20000 in
theorem gX8_keep_X8_isWithin : GoodIn wsX8_keep (va_wsS RX8 108 yX8_isWithin wsX8_isWithin) := goodIn_app (goodIn_of _ (by decide +kernel)) ggX8_keep_X8_isWithin
set_option maxRecDepth 20000 in
theorem ggX8_keep_X8_imageOf : GoodIn wsX8_keep wsX8_imageOf := goodIn_r _ [11, 12, 13, 45, 46, 47, 48, 49, 50, 51, 52, 53, 54, 55, 56] (by decide +kernel) (by decide +kernel)
set_option maxRecDepth 20000 in
theorem gX8_keep_X8_imageOf : GoodIn wsX8_keep (wsV RX8 257 RX8 yX8_imageOf wsX8_imageOf) := goodIn_app (goodIn_of _ (by decide +kernel)) ggX8_keep_X8_imageOf
set_option maxRecDepth 20000 in
theorem ggX8_keep_X0_become : GoodIn wsX8_keep wsX0_become := goodIn_r _ [18, 19, 20, 21, 22, 23, 24, 25, 26, 27, 28, 29, 30, 31, 32, 33, 34, 35, 36, 37, 38, 39, 40, 41, 42, 43, 44, 57, 58, 59, 60, 61, 62, 63, 64, 65, 66] (by decide +kernel) (by decide +kernel)
set_option maxRecDepth 20000 in
theorem gX8_keep_X0_become : GoodIn wsX8_keep (wsV RX8 261 RX0 yX0_become wsX0_become) := goodIn_app (goodIn_of _ (by decide +kernel)) ggX8_keep_X0_become
theorem dX8_keep_0 : decode cX8_keep 0 = .ok (.iload_n 1, 1) := by decide +kernel
theorem dX8_keep_1 : decode cX8_keep 1 = .ok (.iconst 0, 1) := by decide +kernel
theorem dX8_keep_2 : decode cX8_keep 2 = .ok (.iconst 1, 1) := by decide +kernel
theorem dX8_keep_3 : decode cX8_keep 3 = .ok (.invokestatic 108, 3) := by decide +kernel
theorem dX8_keep_6 : decode cX8_keep 6 = .ok (.ifCond .ne 5, 3) := by decide +kernel
theorem dX8_keep_9 : decode cX8_keep 9 = .ok (.iconst (-1), 1) := by decide +kernel
theorem dX8_keep_10 : decode cX8_keep 10 = .ok (.ireturn, 1) := by decide +kernel
theorem dX8_keep_11 : decode cX8_keep 11 = .ok (.aload_n 0, 1) := by decide +kernel
theorem dX8_keep_12 : decode cX8_keep 12 = .ok (.iload_n 1, 1) := by decide +kernel
theorem dX8_keep_13 : decode cX8_keep 13 = .ok (.invokevirtual 257, 3) := by decide +kernel
theorem dX8_keep_16 : decode cX8_keep 16 = .ok (.aload_n 0, 1) := by decide +kernel
theorem dX8_keep_17 : decode cX8_keep 17 = .ok (.getfield 36, 3) := by decide +kernel
theorem dX8_keep_20 : decode cX8_keep 20 = .ok (.invokevirtual 261, 3) := by decide +kernel
theorem dX8_keep_23 : decode cX8_keep 23 = .ok (.aload_n 0, 1) := by decide +kernel
theorem dX8_keep_24 : decode cX8_keep 24 = .ok (.getfield 46, 3) := by decide +kernel
theorem dX8_keep_27 : decode cX8_keep 27 = .ok (.iload_n 1, 1) := by decide +kernel
theorem dX8_keep_28 : decode cX8_keep 28 = .ok (.iconst 1, 1) := by decide +kernel
theorem dX8_keep_29 : decode cX8_keep 29 = .ok (.bastore, 1) := by decide +kernel
theorem dX8_keep_30 : decode cX8_keep 30 = .ok (.aload_n 0, 1) := by decide +kernel
theorem dX8_keep_31 : decode cX8_keep 31 = .ok (.getfield 36, 3) := by decide +kernel
theorem dX8_keep_34 : decode cX8_keep 34 = .ok (.getfield 142, 3) := by decide +kernel
theorem dX8_keep_37 : decode cX8_keep 37 = .ok (.ireturn, 1) := by decide +kernel
set_option maxRecDepth 20000 in
theorem ggX8_back_X8_isWithin : GoodIn wsX8_back wsX8_isWithin := goodIn_r _ [7] (by decide +kernel) (by decide +kernel)
set_option maxRecDepth 20000 in
theorem gX8_back_X8_isWithin : GoodIn wsX8_back (va_wsS RX8 108 yX8_isWithin wsX8_isWithin) := goodIn_app (goodIn_of _ (by decide +kernel)) ggX8_back_X8_isWithin
set_option maxRecDepth 20000 in
theorem ggX8_back_X8_imageOf : GoodIn wsX8_back wsX8_imageOf := goodIn_r _ [11, 12, 13, 45, 46, 47, 48, 49, 50, 51, 52, 53, 54, 55, 56] (by decide +kernel) (by decide +kernel)
set_option maxRecDepth 20000 in
theorem gX8_back_X8_imageOf : GoodIn wsX8_back (wsV RX8 257 RX8 yX8_imageOf wsX8_imageOf) := goodIn_app (goodIn_of _ (by decide +kernel)) ggX8_back_X8_imageOf
set_option maxRecDepth 20000 in
theorem ggX8_back_X0_become : GoodIn wsX8_back wsX0_become := goodIn_r _ [18, 19, 20, 21, 22, 23, 24, 25, 26, 27, 28, 29, 30, 31, 32, 33, 34, 35, 36, 37, 38, 39, 40, 41, 42, 43, 44, 57, 58, 59, 60, 61, 62, 63, 64, 65, 66] (by decide +kernel) (by decide +kernel)
set_option maxRecDepth 20000 in
theorem gX8_back_X0_become : GoodIn wsX8_back (wsV RX8 261 RX0 yX0_become wsX0_become) := goodIn_app (goodIn_of _ (by decide +kernel)) ggX8_back_X0_become
theorem dX8_back_0 : decode cX8_back 0 = .ok (.iload_n 1, 1) := by decide +kernel
theorem dX8_back_1 : decode cX8_back 1 = .ok (.iconst 0, 1) := by decide +kernel
theorem dX8_back_2 : decode cX8_back 2 = .ok (.iconst 1, 1) := by decide +kernel
theorem dX8_back_3 : decode cX8_back 3 = .ok (.invokestatic 108, 3) := by decide +kernel
theorem dX8_back_6 : decode cX8_back 6 = .ok (.ifCond .ne 5, 3) := by decide +kernel
theorem dX8_back_9 : decode cX8_back 9 = .ok (.iconst (-1), 1) := by decide +kernel
theorem dX8_back_10 : decode cX8_back 10 = .ok (.ireturn, 1) := by decide +kernel
theorem dX8_back_11 : decode cX8_back 11 = .ok (.aload_n 0, 1) := by decide +kernel
theorem dX8_back_12 : decode cX8_back 12 = .ok (.getfield 46, 3) := by decide +kernel
theorem dX8_back_15 : decode cX8_back 15 = .ok (.iload_n 1, 1) := by decide +kernel
theorem dX8_back_16 : decode cX8_back 16 = .ok (.baload, 1) := by decide +kernel
theorem dX8_back_17 : decode cX8_back 17 = .ok (.ifCond .ne 6, 3) := by decide +kernel
theorem dX8_back_20 : decode cX8_back 20 = .ok (.bipush (-2), 2) := by decide +kernel
theorem dX8_back_22 : decode cX8_back 22 = .ok (.ireturn, 1) := by decide +kernel
theorem dX8_back_23 : decode cX8_back 23 = .ok (.aload_n 0, 1) := by decide +kernel
theorem dX8_back_24 : decode cX8_back 24 = .ok (.getfield 36, 3) := by decide +kernel
theorem dX8_back_27 : decode cX8_back 27 = .ok (.aload_n 0, 1) := by decide +kernel
theorem dX8_back_28 : decode cX8_back 28 = .ok (.iload_n 1, 1) := by decide +kernel
theorem dX8_back_29 : decode cX8_back 29 = .ok (.invokevirtual 257, 3) := by decide +kernel
theorem dX8_back_32 : decode cX8_back 32 = .ok (.invokevirtual 261, 3) := by decide +kernel
theorem dX8_back_35 : decode cX8_back 35 = .ok (.aload_n 0, 1) := by decide +kernel
theorem dX8_back_36 : decode cX8_back 36 = .ok (.getfield 36, 3) := by decide +kernel
theorem dX8_back_39 : decode cX8_back 39 = .ok (.getfield 142, 3) := by decide +kernel
theorem dX8_back_42 : decode cX8_back 42 = .ok (.ireturn, 1) := by decide +kernel
theorem dX8_count_0 : decode cX8_count 0 = .ok (.iload_n 1, 1) := by decide +kernel
theorem dX8_count_1 : decode cX8_count 1 = .ok (.tableswitch 135 0 8 #[51, 59, 67, 75, 86, 97, 105, 113, 127], 51) := by decide +kernel
theorem dX8_count_52 : decode cX8_count 52 = .ok (.aload_n 0, 1) := by decide +kernel
theorem dX8_count_53 : decode cX8_count 53 = .ok (.getfield 26, 3) := by decide +kernel
theorem dX8_count_56 : decode cX8_count 56 = .ok (.getfield 131, 3) := by decide +kernel
theorem dX8_count_59 : decode cX8_count 59 = .ok (.ireturn, 1) := by decide +kernel
theorem dX8_count_60 : decode cX8_count 60 = .ok (.aload_n 0, 1) := by decide +kernel
theorem dX8_count_61 : decode cX8_count 61 = .ok (.getfield 26, 3) := by decide +kernel
theorem dX8_count_64 : decode cX8_count 64 = .ok (.getfield 265, 3) := by decide +kernel
theorem dX8_count_67 : decode cX8_count 67 = .ok (.ireturn, 1) := by decide +kernel
theorem dX8_count_68 : decode cX8_count 68 = .ok (.aload_n 0, 1) := by decide +kernel
theorem dX8_count_69 : decode cX8_count 69 = .ok (.getfield 26, 3) := by decide +kernel
theorem dX8_count_72 : decode cX8_count 72 = .ok (.getfield 150, 3) := by decide +kernel
theorem dX8_count_75 : decode cX8_count 75 = .ok (.ireturn, 1) := by decide +kernel
theorem dX8_count_76 : decode cX8_count 76 = .ok (.aload_n 0, 1) := by decide +kernel
theorem dX8_count_77 : decode cX8_count 77 = .ok (.getfield 36, 3) := by decide +kernel
theorem dX8_count_80 : decode cX8_count 80 = .ok (.getfield 116, 3) := by decide +kernel
theorem dX8_count_83 : decode cX8_count 83 = .ok (.getfield 99, 3) := by decide +kernel
theorem dX8_count_86 : decode cX8_count 86 = .ok (.ireturn, 1) := by decide +kernel
theorem dX8_count_87 : decode cX8_count 87 = .ok (.aload_n 0, 1) := by decide +kernel
theorem dX8_count_88 : decode cX8_count 88 = .ok (.getfield 53, 3) := by decide +kernel
theorem dX8_count_91 : decode cX8_count 91 = .ok (.getfield 95, 3) := by decide +kernel
theorem dX8_count_94 : decode cX8_count 94 = .ok (.getfield 99, 3) := by decide +kernel
theorem dX8_count_97 : decode cX8_count 97 = .ok (.ireturn, 1) := by decide +kernel
theorem dX8_count_98 : decode cX8_count 98 = .ok (.aload_n 0, 1) := by decide +kernel
theorem dX8_count_99 : decode cX8_count 99 = .ok (.getfield 60, 3) := by decide +kernel
theorem dX8_count_102 : decode cX8_count 102 = .ok (.getfield 104, 3) := by decide +kernel
theorem dX8_count_105 : decode cX8_count 105 = .ok (.ireturn, 1) := by decide +kernel
theorem dX8_count_106 : decode cX8_count 106 = .ok (.aload_n 0, 1) := by decide +kernel
theorem dX8_count_107 : decode cX8_count 107 = .ok (.getfield 36, 3) := by decide +kernel
theorem dX8_count_110 : decode cX8_count 110 = .ok (.getfield 142, 3) := by decide +kernel
theorem dX8_count_113 : decode cX8_count 113 = .ok (.ireturn, 1) := by decide +kernel
theorem dX8_count_114 : decode cX8_count 114 = .ok (.aload_n 0, 1) := by decide +kernel
theorem dX8_count_115 : decode cX8_count 115 = .ok (.getfield 36, 3) := by decide +kernel
theorem dX8_count_118 : decode cX8_count 118 = .ok (.getfield 175, 3) := by decide +kernel
theorem dX8_count_121 : decode cX8_count 121 = .ok (.getfield 191, 3) := by decide +kernel
theorem dX8_count_124 : decode cX8_count 124 = .ok (.getfield 99, 3) := by decide +kernel
theorem dX8_count_127 : decode cX8_count 127 = .ok (.ireturn, 1) := by decide +kernel
theorem dX8_count_128 : decode cX8_count 128 = .ok (.aload_n 0, 1) := by decide +kernel
theorem dX8_count_129 : decode cX8_count 129 = .ok (.getfield 10, 3) := by decide +kernel
theorem dX8_count_132 : decode cX8_count 132 = .ok (.getfield 84, 3) := by decide +kernel
theorem dX8_count_135 : decode cX8_count 135 = .ok (.ireturn, 1) := by decide +kernel
theorem dX8_count_136 : decode cX8_count 136 = .ok (.iconst (-1), 1) := by decide +kernel
theorem dX8_count_137 : decode cX8_count 137 = .ok (.ireturn, 1) := by decide +kernel
theorem dX8_trace_0 : decode cX8_trace 0 = .ok (.aload_n 0, 1) := by decide +kernel
theorem dX8_trace_1 : decode cX8_trace 1 = .ok (.getfield 68, 3) := by decide +kernel
theorem dX8_trace_4 : decode cX8_trace 4 = .ok (.lreturn, 1) := by decide +kernel
theorem dX8_isWithin_0 : decode cX8_isWithin 0 = .ok (.iload_n 0, 1) := by decide +kernel
theorem dX8_isWithin_1 : decode cX8_isWithin 1 = .ok (.iload_n 1, 1) := by decide +kernel
theorem dX8_isWithin_2 : decode cX8_isWithin 2 = .ok (.if_icmp .lt 12, 3) := by decide +kernel
theorem dX8_isWithin_5 : decode cX8_isWithin 5 = .ok (.iload_n 0, 1) := by decide +kernel
theorem dX8_isWithin_6 : decode cX8_isWithin 6 = .ok (.iload_n 2, 1) := by decide +kernel
theorem dX8_isWithin_7 : decode cX8_isWithin 7 = .ok (.if_icmp .gt 7, 3) := by decide +kernel
theorem dX8_isWithin_10 : decode cX8_isWithin 10 = .ok (.iconst 1, 1) := by decide +kernel
theorem dX8_isWithin_11 : decode cX8_isWithin 11 = .ok (.goto 4, 3) := by decide +kernel
theorem dX8_isWithin_14 : decode cX8_isWithin 14 = .ok (.iconst 0, 1) := by decide +kernel
theorem dX8_isWithin_15 : decode cX8_isWithin 15 = .ok (.ireturn, 1) := by decide +kernel
set_option maxRecDepth 20000 in
theorem ggX8_areNights_X8_isWithin : GoodIn wsX8_areNights wsX8_isWithin := goodIn_r _ [4] (by decide +kernel) (by decide +kernel)
set_option maxRecDepth 20000 in
theorem gX8_areNights_X8_isWithin : GoodIn wsX8_areNights (va_wsS RX8 108 yX8_isWithin wsX8_isWithin) := goodIn_app (goodIn_of _ (by decide +kernel)) ggX8_areNights_X8_isWithin
theorem dX8_areNights_0 : decode cX8_areNights 0 = .ok (.iload_n 0, 1) := by decide +kernel
theorem dX8_areNights_1 : decode cX8_areNights 1 = .ok (.iconst 0, 1) := by decide +kernel
theorem dX8_areNights_2 : decode cX8_areNights 2 = .ok (.bipush 99, 2) := by decide +kernel
theorem dX8_areNights_4 : decode cX8_areNights 4 = .ok (.invokestatic 108, 3) := by decide +kernel
theorem dX8_areNights_7 : decode cX8_areNights 7 = .ok (.ifCond .eq 17, 3) := by decide +kernel
theorem dX8_areNights_10 : decode cX8_areNights 10 = .ok (.iload_n 1, 1) := by decide +kernel
theorem dX8_areNights_11 : decode cX8_areNights 11 = .ok (.iload_n 0, 1) := by decide +kernel
theorem dX8_areNights_12 : decode cX8_areNights 12 = .ok (.bipush 99, 2) := by decide +kernel
theorem dX8_areNights_14 : decode cX8_areNights 14 = .ok (.invokestatic 108, 3) := by decide +kernel
theorem dX8_areNights_17 : decode cX8_areNights 17 = .ok (.ifCond .eq 7, 3) := by decide +kernel
theorem dX8_areNights_20 : decode cX8_areNights 20 = .ok (.iconst 1, 1) := by decide +kernel
theorem dX8_areNights_21 : decode cX8_areNights 21 = .ok (.goto 4, 3) := by decide +kernel
theorem dX8_areNights_24 : decode cX8_areNights 24 = .ok (.iconst 0, 1) := by decide +kernel
theorem dX8_areNights_25 : decode cX8_areNights 25 = .ok (.ireturn, 1) := by decide +kernel
set_option maxRecDepth 20000 in
theorem ggX8_areTerms_X5_hasTenant : GoodIn wsX8_areTerms wsX5_hasTenant := goodIn_r _ [7, 8, 33, 34, 35, 36, 37, 38, 39, 40] (by decide +kernel) (by decide +kernel)
set_option maxRecDepth 20000 in
theorem gX8_areTerms_X5_hasTenant : GoodIn wsX8_areTerms (wsV RX8 160 RX5 yX5_hasTenant wsX5_hasTenant) := goodIn_app (goodIn_of _ (by decide +kernel)) ggX8_areTerms_X5_hasTenant
set_option maxRecDepth 20000 in
theorem ggX8_areTerms_X5_hasSquare : GoodIn wsX8_areTerms wsX5_hasSquare := goodIn_r _ [12, 13, 33, 34, 35, 36, 37, 38, 39, 40] (by decide +kernel) (by decide +kernel)
set_option maxRecDepth 20000 in
theorem gX8_areTerms_X5_hasSquare : GoodIn wsX8_areTerms (wsV RX8 125 RX5 yX5_hasSquare wsX5_hasSquare) := goodIn_app (goodIn_of _ (by decide +kernel)) ggX8_areTerms_X5_hasSquare
set_option maxRecDepth 20000 in
theorem ggX8_areTerms_X8_isWithin : GoodIn wsX8_areTerms wsX8_isWithin := goodIn_r _ [17] (by decide +kernel) (by decide +kernel)
set_option maxRecDepth 20000 in
theorem gX8_areTerms_X8_isWithin : GoodIn wsX8_areTerms (va_wsS RX8 108 yX8_isWithin wsX8_isWithin) := goodIn_app (goodIn_of _ (by decide +kernel)) ggX8_areTerms_X8_isWithin
set_option maxRecDepth 20000 in
theorem ggX8_areTerms_X8_areNights : GoodIn wsX8_areTerms wsX8_areNights := goodIn_r _ [20, 14, 15, 16, 17] (by decide +kernel) (by decide +kernel)
set_option maxRecDepth 20000 in
theorem gX8_areTerms_X8_areNights : GoodIn wsX8_areTerms (va_wsS RX8 198 yX8_areNights wsX8_areNights) := goodIn_app (goodIn_of _ (by decide +kernel)) ggX8_areTerms_X8_areNights
theorem dX8_areTerms_0 : decode cX8_areTerms 0 = .ok (.aload_n 0, 1) := by decide +kernel
theorem dX8_areTerms_1 : decode cX8_areTerms 1 = .ok (.getfield 26, 3) := by decide +kernel
theorem dX8_areTerms_4 : decode cX8_areTerms 4 = .ok (.iload_n 1, 1) := by decide +kernel
theorem dX8_areTerms_5 : decode cX8_areTerms 5 = .ok (.invokevirtual 160, 3) := by decide +kernel
theorem dX8_areTerms_8 : decode cX8_areTerms 8 = .ok (.ifCond .eq 43, 3) := by decide +kernel
theorem dX8_areTerms_11 : decode cX8_areTerms 11 = .ok (.aload_n 0, 1) := by decide +kernel
theorem dX8_areTerms_12 : decode cX8_areTerms 12 = .ok (.getfield 26, 3) := by decide +kernel
theorem dX8_areTerms_15 : decode cX8_areTerms 15 = .ok (.iload_n 2, 1) := by decide +kernel
theorem dX8_areTerms_16 : decode cX8_areTerms 16 = .ok (.invokevirtual 125, 3) := by decide +kernel
theorem dX8_areTerms_19 : decode cX8_areTerms 19 = .ok (.ifCond .eq 32, 3) := by decide +kernel
theorem dX8_areTerms_22 : decode cX8_areTerms 22 = .ok (.iload_n 3, 1) := by decide +kernel
theorem dX8_areTerms_23 : decode cX8_areTerms 23 = .ok (.iconst 1, 1) := by decide +kernel
theorem dX8_areTerms_24 : decode cX8_areTerms 24 = .ok (.aload_n 0, 1) := by decide +kernel
theorem dX8_areTerms_25 : decode cX8_areTerms 25 = .ok (.getfield 26, 3) := by decide +kernel
theorem dX8_areTerms_28 : decode cX8_areTerms 28 = .ok (.getfield 131, 3) := by decide +kernel
theorem dX8_areTerms_31 : decode cX8_areTerms 31 = .ok (.invokestatic 108, 3) := by decide +kernel
theorem dX8_areTerms_34 : decode cX8_areTerms 34 = .ok (.ifCond .eq 17, 3) := by decide +kernel
theorem dX8_areTerms_37 : decode cX8_areTerms 37 = .ok (.iload 4, 2) := by decide +kernel
theorem dX8_areTerms_39 : decode cX8_areTerms 39 = .ok (.iload 5, 2) := by decide +kernel
theorem dX8_areTerms_41 : decode cX8_areTerms 41 = .ok (.invokestatic 198, 3) := by decide +kernel
theorem dX8_areTerms_44 : decode cX8_areTerms 44 = .ok (.ifCond .eq 7, 3) := by decide +kernel
theorem dX8_areTerms_47 : decode cX8_areTerms 47 = .ok (.iconst 1, 1) := by decide +kernel
theorem dX8_areTerms_48 : decode cX8_areTerms 48 = .ok (.goto 4, 3) := by decide +kernel
theorem dX8_areTerms_51 : decode cX8_areTerms 51 = .ok (.iconst 0, 1) := by decide +kernel
theorem dX8_areTerms_52 : decode cX8_areTerms 52 = .ok (.ireturn, 1) := by decide +kernel
set_option maxRecDepth 20000 in
theorem ggX8_ownerOf_X6_covers : GoodIn wsX8_ownerOf wsX6_covers := goodIn_r _ [10, 11, 12, 13, 9, 14, 15, 16, 17, 18, 19, 20, 21, 22, 23, 24, 25, 26, 27, 49, 50, 51] (by decide +kernel) (by decide +kernel)
set_option maxRecDepth 20000 in
theorem gX8_ownerOf_X6_covers : GoodIn wsX8_ownerOf (wsV RX8 134 RX6 yX6_covers wsX6_covers) := goodIn_app (goodIn_of _ (by decide +kernel)) ggX8_ownerOf_X6_covers
set_option maxRecDepth 20000 in
theorem ggX8_ownerOf_X6_part : GoodIn wsX8_ownerOf wsX6_part := goodIn_r _ [31, 15, 16, 17, 18, 9, 19, 20, 21, 22, 23, 49, 50, 51] (by decide +kernel) (by decide +kernel)
set_option maxRecDepth 20000 in
theorem gX8_ownerOf_X6_part : GoodIn wsX8_ownerOf (wsV RX8 122 RX6 yX6_part wsX6_part) := goodIn_app (goodIn_of _ (by decide +kernel)) ggX8_ownerOf_X6_part
theorem dX8_ownerOf_0 : decode cX8_ownerOf 0 = .ok (.iconst 0, 1) := by decide +kernel
theorem dX8_ownerOf_1 : decode cX8_ownerOf 1 = .ok (.istore_n 3, 1) := by decide +kernel
theorem dX8_ownerOf_2 : decode cX8_ownerOf 2 = .ok (.iload_n 3, 1) := by decide +kernel
theorem dX8_ownerOf_3 : decode cX8_ownerOf 3 = .ok (.aload_n 0, 1) := by decide +kernel
theorem dX8_ownerOf_4 : decode cX8_ownerOf 4 = .ok (.getfield 36, 3) := by decide +kernel
theorem dX8_ownerOf_7 : decode cX8_ownerOf 7 = .ok (.getfield 116, 3) := by decide +kernel
theorem dX8_ownerOf_10 : decode cX8_ownerOf 10 = .ok (.getfield 99, 3) := by decide +kernel
theorem dX8_ownerOf_13 : decode cX8_ownerOf 13 = .ok (.if_icmp .ge 45, 3) := by decide +kernel
theorem dX8_ownerOf_16 : decode cX8_ownerOf 16 = .ok (.aload_n 0, 1) := by decide +kernel
theorem dX8_ownerOf_17 : decode cX8_ownerOf 17 = .ok (.getfield 36, 3) := by decide +kernel
theorem dX8_ownerOf_20 : decode cX8_ownerOf 20 = .ok (.getfield 116, 3) := by decide +kernel
theorem dX8_ownerOf_23 : decode cX8_ownerOf 23 = .ok (.iload_n 3, 1) := by decide +kernel
theorem dX8_ownerOf_24 : decode cX8_ownerOf 24 = .ok (.iload_n 1, 1) := by decide +kernel
theorem dX8_ownerOf_25 : decode cX8_ownerOf 25 = .ok (.iload_n 2, 1) := by decide +kernel
theorem dX8_ownerOf_26 : decode cX8_ownerOf 26 = .ok (.aload_n 0, 1) := by decide +kernel
theorem dX8_ownerOf_27 : decode cX8_ownerOf 27 = .ok (.getfield 26, 3) := by decide +kernel
theorem dX8_ownerOf_30 : decode cX8_ownerOf 30 = .ok (.getfield 131, 3) := by decide +kernel
theorem dX8_ownerOf_33 : decode cX8_ownerOf 33 = .ok (.invokevirtual 134, 3) := by decide +kernel
theorem dX8_ownerOf_36 : decode cX8_ownerOf 36 = .ok (.ifCond .eq 16, 3) := by decide +kernel
theorem dX8_ownerOf_39 : decode cX8_ownerOf 39 = .ok (.aload_n 0, 1) := by decide +kernel
theorem dX8_ownerOf_40 : decode cX8_ownerOf 40 = .ok (.getfield 36, 3) := by decide +kernel
theorem dX8_ownerOf_43 : decode cX8_ownerOf 43 = .ok (.getfield 116, 3) := by decide +kernel
theorem dX8_ownerOf_46 : decode cX8_ownerOf 46 = .ok (.iload_n 3, 1) := by decide +kernel
theorem dX8_ownerOf_47 : decode cX8_ownerOf 47 = .ok (.iconst 0, 1) := by decide +kernel
theorem dX8_ownerOf_48 : decode cX8_ownerOf 48 = .ok (.invokevirtual 122, 3) := by decide +kernel
theorem dX8_ownerOf_51 : decode cX8_ownerOf 51 = .ok (.ireturn, 1) := by decide +kernel
theorem dX8_ownerOf_52 : decode cX8_ownerOf 52 = .ok (.iinc 3 1, 3) := by decide +kernel
theorem dX8_ownerOf_55 : decode cX8_ownerOf 55 = .ok (.goto (-53), 3) := by decide +kernel
theorem dX8_ownerOf_58 : decode cX8_ownerOf 58 = .ok (.bipush (-9), 2) := by decide +kernel
theorem dX8_ownerOf_60 : decode cX8_ownerOf 60 = .ok (.ireturn, 1) := by decide +kernel
set_option maxRecDepth 20000 in
theorem ggX8_hasAnyStar_X5_squareOf : GoodIn wsX8_hasAnyStar wsX5_squareOf := goodIn_r _ [7, 8, 9, 10, 11, 12, 6, 13, 14, 15, 16, 17, 18, 19, 66, 67, 68, 69, 70, 71, 72, 73] (by decide +kernel) (by decide +kernel)
set_option maxRecDepth 20000 in
theorem gX8_hasAnyStar_X5_squareOf : GoodIn wsX8_hasAnyStar (wsV RX8 112 RX5 yX5_squareOf wsX5_squareOf) := goodIn_app (goodIn_of _ (by decide +kernel)) ggX8_hasAnyStar_X5_squareOf
set_option maxRecDepth 20000 in
theorem ggX8_hasAnyStar_X8_ownerOf : GoodIn wsX8_hasAnyStar wsX8_ownerOf := goodIn_r _ [24, 25, 26, 27, 1, 28, 29, 30, 31, 32, 33, 34, 35, 36, 37, 38, 39, 40, 41, 42, 43, 44, 23, 45, 46, 47, 48, 49, 50, 51, 52, 53, 54, 55, 56, 57, 58, 59, 60, 61, 62, 63, 64, 65, 74, 75, 76, 77, 78, 79, 80, 81, 66, 67, 68, 69, 70, 71, 72, 73] (by decide +kernel) (by decide +kernel)
set_option maxRecDepth 20000 in
theorem gX8_hasAnyStar_X8_ownerOf : GoodIn wsX8_hasAnyStar (wsV RX8 128 RX8 yX8_ownerOf wsX8_ownerOf) := goodIn_app (goodIn_of _ (by decide +kernel)) ggX8_hasAnyStar_X8_ownerOf
theorem dX8_hasAnyStar_0 : decode cX8_hasAnyStar 0 = .ok (.iconst 0, 1) := by decide +kernel
theorem dX8_hasAnyStar_1 : decode cX8_hasAnyStar 1 = .ok (.istore_n 3, 1) := by decide +kernel
theorem dX8_hasAnyStar_2 : decode cX8_hasAnyStar 2 = .ok (.iload_n 3, 1) := by decide +kernel
theorem dX8_hasAnyStar_3 : decode cX8_hasAnyStar 3 = .ok (.aload_n 0, 1) := by decide +kernel
theorem dX8_hasAnyStar_4 : decode cX8_hasAnyStar 4 = .ok (.getfield 26, 3) := by decide +kernel
theorem dX8_hasAnyStar_7 : decode cX8_hasAnyStar 7 = .ok (.getfield 265, 3) := by decide +kernel
theorem dX8_hasAnyStar_10 : decode cX8_hasAnyStar 10 = .ok (.if_icmp .ge 29, 3) := by decide +kernel
theorem dX8_hasAnyStar_13 : decode cX8_hasAnyStar 13 = .ok (.aload_n 0, 1) := by decide +kernel
theorem dX8_hasAnyStar_14 : decode cX8_hasAnyStar 14 = .ok (.aload_n 0, 1) := by decide +kernel
theorem dX8_hasAnyStar_15 : decode cX8_hasAnyStar 15 = .ok (.getfield 26, 3) := by decide +kernel
theorem dX8_hasAnyStar_18 : decode cX8_hasAnyStar 18 = .ok (.iload_n 3, 1) := by decide +kernel
theorem dX8_hasAnyStar_19 : decode cX8_hasAnyStar 19 = .ok (.iload_n 2, 1) := by decide +kernel
theorem dX8_hasAnyStar_20 : decode cX8_hasAnyStar 20 = .ok (.invokevirtual 112, 3) := by decide +kernel
theorem dX8_hasAnyStar_23 : decode cX8_hasAnyStar 23 = .ok (.iload_n 2, 1) := by decide +kernel
theorem dX8_hasAnyStar_24 : decode cX8_hasAnyStar 24 = .ok (.invokevirtual 128, 3) := by decide +kernel
theorem dX8_hasAnyStar_27 : decode cX8_hasAnyStar 27 = .ok (.iload_n 1, 1) := by decide +kernel
theorem dX8_hasAnyStar_28 : decode cX8_hasAnyStar 28 = .ok (.if_icmp .ne 5, 3) := by decide +kernel
theorem dX8_hasAnyStar_31 : decode cX8_hasAnyStar 31 = .ok (.iconst 1, 1) := by decide +kernel
theorem dX8_hasAnyStar_32 : decode cX8_hasAnyStar 32 = .ok (.ireturn, 1) := by decide +kernel
theorem dX8_hasAnyStar_33 : decode cX8_hasAnyStar 33 = .ok (.iinc 3 1, 3) := by decide +kernel
theorem dX8_hasAnyStar_36 : decode cX8_hasAnyStar 36 = .ok (.goto (-34), 3) := by decide +kernel
theorem dX8_hasAnyStar_39 : decode cX8_hasAnyStar 39 = .ok (.iconst 0, 1) := by decide +kernel
theorem dX8_hasAnyStar_40 : decode cX8_hasAnyStar 40 = .ok (.ireturn, 1) := by decide +kernel
set_option maxRecDepth 20000 in
theorem ggX8_broughtTo_X5_squareOf : GoodIn wsX8_broughtTo wsX5_squareOf := goodIn_r _ [8, 9, 10, 11, 12, 13, 7, 14, 15, 16, 17, 18, 19, 20, 67, 68, 69, 70, 71, 72, 73, 74] (by decide +kernel) (by decide +kernel)
set_option maxRecDepth 20000 in
theorem gX8_broughtTo_X5_squareOf : GoodIn wsX8_broughtTo (wsV RX8 112 RX5 yX5_squareOf wsX5_squareOf) := goodIn_app (goodIn_of _ (by decide +kernel)) ggX8_broughtTo_X5_squareOf
set_option maxRecDepth 20000 in
theorem ggX8_broughtTo_X8_ownerOf : GoodIn wsX8_broughtTo wsX8_ownerOf := goodIn_r _ [25, 26, 27, 28, 1, 29, 30, 31, 32, 33, 34, 35, 36, 37, 38, 39, 40, 41, 42, 43, 44, 45, 24, 46, 47, 48, 49, 50, 51, 52, 53, 54, 55, 56, 57, 58, 59, 60, 61, 62, 63, 64, 65, 66, 75, 76, 77, 78, 79, 80, 81, 82, 67, 68, 69, 70, 71, 72, 73, 74] (by decide +kernel) (by decide +kernel)
set_option maxRecDepth 20000 in
theorem gX8_broughtTo_X8_ownerOf : GoodIn wsX8_broughtTo (wsV RX8 128 RX8 yX8_ownerOf wsX8_ownerOf) := goodIn_app (goodIn_of _ (by decide +kernel)) ggX8_broughtTo_X8_ownerOf
theorem dX8_broughtTo_0 : decode cX8_broughtTo 0 = .ok (.iconst 0, 1) := by decide +kernel
theorem dX8_broughtTo_1 : decode cX8_broughtTo 1 = .ok (.istore 4, 2) := by decide +kernel
theorem dX8_broughtTo_3 : decode cX8_broughtTo 3 = .ok (.iconst 0, 1) := by decide +kernel
theorem dX8_broughtTo_4 : decode cX8_broughtTo 4 = .ok (.istore 5, 2) := by decide +kernel
theorem dX8_broughtTo_6 : decode cX8_broughtTo 6 = .ok (.iload 5, 2) := by decide +kernel
theorem dX8_broughtTo_8 : decode cX8_broughtTo 8 = .ok (.aload_n 0, 1) := by decide +kernel
theorem dX8_broughtTo_9 : decode cX8_broughtTo 9 = .ok (.getfield 26, 3) := by decide +kernel
theorem dX8_broughtTo_12 : decode cX8_broughtTo 12 = .ok (.getfield 265, 3) := by decide +kernel
theorem dX8_broughtTo_15 : decode cX8_broughtTo 15 = .ok (.if_icmp .ge 53, 3) := by decide +kernel
theorem dX8_broughtTo_18 : decode cX8_broughtTo 18 = .ok (.aload_n 0, 1) := by decide +kernel
theorem dX8_broughtTo_19 : decode cX8_broughtTo 19 = .ok (.getfield 26, 3) := by decide +kernel
theorem dX8_broughtTo_22 : decode cX8_broughtTo 22 = .ok (.iload 5, 2) := by decide +kernel
theorem dX8_broughtTo_24 : decode cX8_broughtTo 24 = .ok (.iload_n 2, 1) := by decide +kernel
theorem dX8_broughtTo_25 : decode cX8_broughtTo 25 = .ok (.invokevirtual 112, 3) := by decide +kernel
theorem dX8_broughtTo_28 : decode cX8_broughtTo 28 = .ok (.istore 6, 2) := by decide +kernel
theorem dX8_broughtTo_30 : decode cX8_broughtTo 30 = .ok (.iload 6, 2) := by decide +kernel
theorem dX8_broughtTo_32 : decode cX8_broughtTo 32 = .ok (.iload_n 3, 1) := by decide +kernel
theorem dX8_broughtTo_33 : decode cX8_broughtTo 33 = .ok (.if_icmp .eq 29, 3) := by decide +kernel
theorem dX8_broughtTo_36 : decode cX8_broughtTo 36 = .ok (.aload_n 0, 1) := by decide +kernel
theorem dX8_broughtTo_37 : decode cX8_broughtTo 37 = .ok (.iload 6, 2) := by decide +kernel
theorem dX8_broughtTo_39 : decode cX8_broughtTo 39 = .ok (.iload_n 2, 1) := by decide +kernel
theorem dX8_broughtTo_40 : decode cX8_broughtTo 40 = .ok (.invokevirtual 128, 3) := by decide +kernel
theorem dX8_broughtTo_43 : decode cX8_broughtTo 43 = .ok (.iload_n 1, 1) := by decide +kernel
theorem dX8_broughtTo_44 : decode cX8_broughtTo 44 = .ok (.if_icmp .ne 18, 3) := by decide +kernel
theorem dX8_broughtTo_47 : decode cX8_broughtTo 47 = .ok (.iload 4, 2) := by decide +kernel
theorem dX8_broughtTo_49 : decode cX8_broughtTo 49 = .ok (.aload_n 0, 1) := by decide +kernel
theorem dX8_broughtTo_50 : decode cX8_broughtTo 50 = .ok (.getfield 26, 3) := by decide +kernel
theorem dX8_broughtTo_53 : decode cX8_broughtTo 53 = .ok (.getfield 268, 3) := by decide +kernel
theorem dX8_broughtTo_56 : decode cX8_broughtTo 56 = .ok (.iload 5, 2) := by decide +kernel
theorem dX8_broughtTo_58 : decode cX8_broughtTo 58 = .ok (.iaload, 1) := by decide +kernel
theorem dX8_broughtTo_59 : decode cX8_broughtTo 59 = .ok (.iadd, 1) := by decide +kernel
theorem dX8_broughtTo_60 : decode cX8_broughtTo 60 = .ok (.istore 4, 2) := by decide +kernel
theorem dX8_broughtTo_62 : decode cX8_broughtTo 62 = .ok (.iinc 5 1, 3) := by decide +kernel
theorem dX8_broughtTo_65 : decode cX8_broughtTo 65 = .ok (.goto (-59), 3) := by decide +kernel
theorem dX8_broughtTo_68 : decode cX8_broughtTo 68 = .ok (.iload 4, 2) := by decide +kernel
theorem dX8_broughtTo_70 : decode cX8_broughtTo 70 = .ok (.ireturn, 1) := by decide +kernel
set_option maxRecDepth 20000 in
theorem ggX8_waysToBring_X8_waysToBring : GoodIn wsX8_waysToBring wsX8_waysToBring := goodIn_r _ [0, 1, 2, 3] (by decide +kernel) (by decide +kernel)
set_option maxRecDepth 20000 in
theorem gX8_waysToBring_X8_waysToBring : GoodIn wsX8_waysToBring (va_wsS RX8 226 yX8_waysToBring wsX8_waysToBring) := goodIn_app (goodIn_of _ (by decide +kernel)) ggX8_waysToBring_X8_waysToBring
theorem dX8_waysToBring_0 : decode cX8_waysToBring 0 = .ok (.iload_n 1, 1) := by decide +kernel
theorem dX8_waysToBring_1 : decode cX8_waysToBring 1 = .ok (.iconst 1, 1) := by decide +kernel
theorem dX8_waysToBring_2 : decode cX8_waysToBring 2 = .ok (.if_icmp .lt 8, 3) := by decide +kernel
theorem dX8_waysToBring_5 : decode cX8_waysToBring 5 = .ok (.iload_n 1, 1) := by decide +kernel
theorem dX8_waysToBring_6 : decode cX8_waysToBring 6 = .ok (.iconst 3, 1) := by decide +kernel
theorem dX8_waysToBring_7 : decode cX8_waysToBring 7 = .ok (.if_icmp .le 13, 3) := by decide +kernel
theorem dX8_waysToBring_10 : decode cX8_waysToBring 10 = .ok (.iload_n 0, 1) := by decide +kernel
theorem dX8_waysToBring_11 : decode cX8_waysToBring 11 = .ok (.ifCond .gt 7, 3) := by decide +kernel
theorem dX8_waysToBring_14 : decode cX8_waysToBring 14 = .ok (.iconst 1, 1) := by decide +kernel
theorem dX8_waysToBring_15 : decode cX8_waysToBring 15 = .ok (.goto 4, 3) := by decide +kernel
theorem dX8_waysToBring_18 : decode cX8_waysToBring 18 = .ok (.iconst 0, 1) := by decide +kernel
theorem dX8_waysToBring_19 : decode cX8_waysToBring 19 = .ok (.ireturn, 1) := by decide +kernel
theorem dX8_waysToBring_20 : decode cX8_waysToBring 20 = .ok (.iconst 0, 1) := by decide +kernel
theorem dX8_waysToBring_21 : decode cX8_waysToBring 21 = .ok (.istore 4, 2) := by decide +kernel
theorem dX8_waysToBring_23 : decode cX8_waysToBring 23 = .ok (.iconst 0, 1) := by decide +kernel
theorem dX8_waysToBring_24 : decode cX8_waysToBring 24 = .ok (.istore 5, 2) := by decide +kernel
theorem dX8_waysToBring_26 : decode cX8_waysToBring 26 = .ok (.iload 5, 2) := by decide +kernel
theorem dX8_waysToBring_28 : decode cX8_waysToBring 28 = .ok (.iload_n 3, 1) := by decide +kernel
theorem dX8_waysToBring_29 : decode cX8_waysToBring 29 = .ok (.if_icmp .ge 39, 3) := by decide +kernel
theorem dX8_waysToBring_32 : decode cX8_waysToBring 32 = .ok (.aload_n 2, 1) := by decide +kernel
theorem dX8_waysToBring_33 : decode cX8_waysToBring 33 = .ok (.iload_n 1, 1) := by decide +kernel
theorem dX8_waysToBring_34 : decode cX8_waysToBring 34 = .ok (.iconst 1, 1) := by decide +kernel
theorem dX8_waysToBring_35 : decode cX8_waysToBring 35 = .ok (.isub, 1) := by decide +kernel
theorem dX8_waysToBring_36 : decode cX8_waysToBring 36 = .ok (.bipush 8, 2) := by decide +kernel
theorem dX8_waysToBring_38 : decode cX8_waysToBring 38 = .ok (.imul, 1) := by decide +kernel
theorem dX8_waysToBring_39 : decode cX8_waysToBring 39 = .ok (.iload 5, 2) := by decide +kernel
theorem dX8_waysToBring_41 : decode cX8_waysToBring 41 = .ok (.iadd, 1) := by decide +kernel
theorem dX8_waysToBring_42 : decode cX8_waysToBring 42 = .ok (.iaload, 1) := by decide +kernel
theorem dX8_waysToBring_43 : decode cX8_waysToBring 43 = .ok (.istore 6, 2) := by decide +kernel
theorem dX8_waysToBring_45 : decode cX8_waysToBring 45 = .ok (.iload 4, 2) := by decide +kernel
theorem dX8_waysToBring_47 : decode cX8_waysToBring 47 = .ok (.iload_n 0, 1) := by decide +kernel
theorem dX8_waysToBring_48 : decode cX8_waysToBring 48 = .ok (.iload 6, 2) := by decide +kernel
theorem dX8_waysToBring_50 : decode cX8_waysToBring 50 = .ok (.isub, 1) := by decide +kernel
theorem dX8_waysToBring_51 : decode cX8_waysToBring 51 = .ok (.iload_n 1, 1) := by decide +kernel
theorem dX8_waysToBring_52 : decode cX8_waysToBring 52 = .ok (.iconst 1, 1) := by decide +kernel
theorem dX8_waysToBring_53 : decode cX8_waysToBring 53 = .ok (.isub, 1) := by decide +kernel
theorem dX8_waysToBring_54 : decode cX8_waysToBring 54 = .ok (.aload_n 2, 1) := by decide +kernel
theorem dX8_waysToBring_55 : decode cX8_waysToBring 55 = .ok (.iload_n 3, 1) := by decide +kernel
theorem dX8_waysToBring_56 : decode cX8_waysToBring 56 = .ok (.invokestatic 226, 3) := by decide +kernel
theorem dX8_waysToBring_59 : decode cX8_waysToBring 59 = .ok (.iadd, 1) := by decide +kernel
theorem dX8_waysToBring_60 : decode cX8_waysToBring 60 = .ok (.istore 4, 2) := by decide +kernel
theorem dX8_waysToBring_62 : decode cX8_waysToBring 62 = .ok (.iinc 5 1, 3) := by decide +kernel
theorem dX8_waysToBring_65 : decode cX8_waysToBring 65 = .ok (.goto (-39), 3) := by decide +kernel
theorem dX8_waysToBring_68 : decode cX8_waysToBring 68 = .ok (.iload 4, 2) := by decide +kernel
theorem dX8_waysToBring_70 : decode cX8_waysToBring 70 = .ok (.ireturn, 1) := by decide +kernel
theorem dX8_imageOf_0 : decode cX8_imageOf 0 = .ok (.iload_n 1, 1) := by decide +kernel
theorem dX8_imageOf_1 : decode cX8_imageOf 1 = .ok (.ifCond .ne 10, 3) := by decide +kernel
theorem dX8_imageOf_4 : decode cX8_imageOf 4 = .ok (.aload_n 0, 1) := by decide +kernel
theorem dX8_imageOf_5 : decode cX8_imageOf 5 = .ok (.getfield 40, 3) := by decide +kernel
theorem dX8_imageOf_8 : decode cX8_imageOf 8 = .ok (.goto 7, 3) := by decide +kernel
theorem dX8_imageOf_11 : decode cX8_imageOf 11 = .ok (.aload_n 0, 1) := by decide +kernel
theorem dX8_imageOf_12 : decode cX8_imageOf 12 = .ok (.getfield 43, 3) := by decide +kernel
theorem dX8_imageOf_15 : decode cX8_imageOf 15 = .ok (.areturn, 1) := by decide +kernel
theorem dX8_greatestCommon_0 : decode cX8_greatestCommon 0 = .ok (.iload_n 0, 1) := by decide +kernel
theorem dX8_greatestCommon_1 : decode cX8_greatestCommon 1 = .ok (.istore_n 2, 1) := by decide +kernel
theorem dX8_greatestCommon_2 : decode cX8_greatestCommon 2 = .ok (.iload_n 1, 1) := by decide +kernel
theorem dX8_greatestCommon_3 : decode cX8_greatestCommon 3 = .ok (.istore_n 3, 1) := by decide +kernel
theorem dX8_greatestCommon_4 : decode cX8_greatestCommon 4 = .ok (.iconst 0, 1) := by decide +kernel
theorem dX8_greatestCommon_5 : decode cX8_greatestCommon 5 = .ok (.istore 4, 2) := by decide +kernel
theorem dX8_greatestCommon_7 : decode cX8_greatestCommon 7 = .ok (.iload 4, 2) := by decide +kernel
theorem dX8_greatestCommon_9 : decode cX8_greatestCommon 9 = .ok (.bipush 64, 2) := by decide +kernel
