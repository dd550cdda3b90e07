theorem dX8_greatestCommon_11 : decode cX8_greatestCommon 11 = .ok (.if_icmp .ge 23, 3) := by decide +kernel
theorem dX8_greatestCommon_14 : decode cX8_greatestCommon 14 = .ok (.iload_n 3, 1) := by decide +kernel
theorem dX8_greatestCommon_15 : decode cX8_greatestCommon 15 = .ok (.ifCond .eq 19, 3) := by decide +kernel
theorem dX8_greatestCommon_18 : decode cX8_greatestCommon 18 = .ok (.iload_n 2, 1) := by decide +kernel
theorem dX8_greatestCommon_19 : decode cX8_greatestCommon 19 = .ok (.iload_n 3, 1) := by decide +kernel
theorem dX8_greatestCommon_20 : decode cX8_greatestCommon 20 = .ok (.irem, 1) := by decide +kernel
theorem dX8_greatestCommon_21 : decode cX8_greatestCommon 21 = .ok (.istore 5, 2) := by decide +kernel
theorem dX8_greatestCommon_23 : decode cX8_greatestCommon 23 = .ok (.iload_n 3, 1) := by decide +kernel
theorem dX8_greatestCommon_24 : decode cX8_greatestCommon 24 = .ok (.istore_n 2, 1) := by decide +kernel
theorem dX8_greatestCommon_25 : decode cX8_greatestCommon 25 = .ok (.iload 5, 2) := by decide +kernel
theorem dX8_greatestCommon_27 : decode cX8_greatestCommon 27 = .ok (.istore_n 3, 1) := by decide +kernel
theorem dX8_greatestCommon_28 : decode cX8_greatestCommon 28 = .ok (.iinc 4 1, 3) := by decide +kernel
theorem dX8_greatestCommon_31 : decode cX8_greatestCommon 31 = .ok (.goto (-24), 3) := by decide +kernel
theorem dX8_greatestCommon_34 : decode cX8_greatestCommon 34 = .ok (.iload_n 2, 1) := by decide +kernel
theorem dX8_greatestCommon_35 : decode cX8_greatestCommon 35 = .ok (.ireturn, 1) := by decide +kernel
theorem dX8_tenantRate_0 : decode cX8_tenantRate 0 = .ok (.aload_n 0, 1) := by decide +kernel
theorem dX8_tenantRate_1 : decode cX8_tenantRate 1 = .ok (.dup, 1) := by decide +kernel
theorem dX8_tenantRate_2 : decode cX8_tenantRate 2 = .ok (.getfield 68, 3) := by decide +kernel
theorem dX8_tenantRate_5 : decode cX8_tenantRate 5 = .ok (.lconst 1, 1) := by decide +kernel
theorem dX8_tenantRate_6 : decode cX8_tenantRate 6 = .ok (.ladd, 1) := by decide +kernel
theorem dX8_tenantRate_7 : decode cX8_tenantRate 7 = .ok (.putfield 68, 3) := by decide +kernel
theorem dX8_tenantRate_10 : decode cX8_tenantRate 10 = .ok (.aload_n 0, 1) := by decide +kernel
theorem dX8_tenantRate_11 : decode cX8_tenantRate 11 = .ok (.getfield 36, 3) := by decide +kernel
theorem dX8_tenantRate_14 : decode cX8_tenantRate 14 = .ok (.getfield 153, 3) := by decide +kernel
theorem dX8_tenantRate_17 : decode cX8_tenantRate 17 = .ok (.iload_n 1, 1) := by decide +kernel
theorem dX8_tenantRate_18 : decode cX8_tenantRate 18 = .ok (.iaload, 1) := by decide +kernel
theorem dX8_tenantRate_19 : decode cX8_tenantRate 19 = .ok (.ireturn, 1) := by decide +kernel
set_option maxRecDepth 20000 in
theorem ggX8_cobblerRate_X8_tenantRate : GoodIn wsX8_cobblerRate wsX8_tenantRate := goodIn_r _ [9, 1, 3, 10, 28, 29, 30, 31, 32, 33, 34, 35, 36, 37, 38, 39, 40, 41, 42, 43, 44] (by decide +kernel) (by decide +kernel)
set_option maxRecDepth 20000 in
theorem gX8_cobblerRate_X8_tenantRate : GoodIn wsX8_cobblerRate (wsV RX8 239 RX8 yX8_tenantRate wsX8_tenantRate) := goodIn_app (goodIn_of _ (by decide +kernel)) ggX8_cobblerRate_X8_tenantRate
set_option maxRecDepth 20000 in
theorem ggX8_cobblerRate_X6_countOf : GoodIn wsX8_cobblerRate wsX6_countOf := goodIn_r _ [15, 16, 17, 18, 19, 14, 20, 21, 22, 23, 24, 25, 26, 8, 27, 45, 46, 47] (by decide +kernel) (by decide +kernel)
set_option maxRecDepth 20000 in
theorem gX8_cobblerRate_X6_countOf : GoodIn wsX8_cobblerRate (wsV RX8 273 RX6 yX6_countOf wsX6_countOf) := goodIn_app (goodIn_of _ (by decide +kernel)) ggX8_cobblerRate_X6_countOf
theorem dX8_cobblerRate_0 : decode cX8_cobblerRate 0 = .ok (.aload_n 0, 1) := by decide +kernel
theorem dX8_cobblerRate_1 : decode cX8_cobblerRate 1 = .ok (.dup, 1) := by decide +kernel
theorem dX8_cobblerRate_2 : decode cX8_cobblerRate 2 = .ok (.getfield 68, 3) := by decide +kernel
theorem dX8_cobblerRate_5 : decode cX8_cobblerRate 5 = .ok (.ldc2_w 271, 3) := by decide +kernel
theorem dX8_cobblerRate_8 : decode cX8_cobblerRate 8 = .ok (.ladd, 1) := by decide +kernel
theorem dX8_cobblerRate_9 : decode cX8_cobblerRate 9 = .ok (.putfield 68, 3) := by decide +kernel
theorem dX8_cobblerRate_12 : decode cX8_cobblerRate 12 = .ok (.aload_n 0, 1) := by decide +kernel
theorem dX8_cobblerRate_13 : decode cX8_cobblerRate 13 = .ok (.iload_n 1, 1) := by decide +kernel
theorem dX8_cobblerRate_14 : decode cX8_cobblerRate 14 = .ok (.invokevirtual 239, 3) := by decide +kernel
theorem dX8_cobblerRate_17 : decode cX8_cobblerRate 17 = .ok (.aload_n 0, 1) := by decide +kernel
theorem dX8_cobblerRate_18 : decode cX8_cobblerRate 18 = .ok (.getfield 36, 3) := by decide +kernel
theorem dX8_cobblerRate_21 : decode cX8_cobblerRate 21 = .ok (.getfield 116, 3) := by decide +kernel
theorem dX8_cobblerRate_24 : decode cX8_cobblerRate 24 = .ok (.iload_n 1, 1) := by decide +kernel
theorem dX8_cobblerRate_25 : decode cX8_cobblerRate 25 = .ok (.invokevirtual 273, 3) := by decide +kernel
theorem dX8_cobblerRate_28 : decode cX8_cobblerRate 28 = .ok (.iadd, 1) := by decide +kernel
theorem dX8_cobblerRate_29 : decode cX8_cobblerRate 29 = .ok (.ireturn, 1) := by decide +kernel
set_option maxRecDepth 20000 in
theorem ggX8_widowRate_X8_ownerOf : GoodIn wsX8_widowRate wsX8_ownerOf := goodIn_r _ [11, 5, 12, 13, 3, 4, 14, 15, 16, 17, 18, 19, 20, 21, 22, 23, 24, 25, 26, 27, 28, 29, 10, 30, 31, 32, 33, 34, 35, 36, 37, 38, 44, 45, 46, 47, 48, 49, 50, 51, 52, 53, 54, 55, 64, 65, 66, 67, 68, 69, 70, 71, 56, 57, 58, 59, 60, 61, 62, 63] (by decide +kernel) (by decide +kernel)
set_option maxRecDepth 20000 in
theorem gX8_widowRate_X8_ownerOf : GoodIn wsX8_widowRate (wsV RX8 128 RX8 yX8_ownerOf wsX8_ownerOf) := goodIn_app (goodIn_of _ (by decide +kernel)) ggX8_widowRate_X8_ownerOf
set_option maxRecDepth 20000 in
theorem ggX8_widowRate_X8_tenantRate : GoodIn wsX8_widowRate wsX8_tenantRate := goodIn_r _ [42, 1, 5, 43, 44, 45, 46, 47, 48, 49, 50, 51, 52, 53, 54, 55, 64, 65, 66, 67, 68] (by decide +kernel) (by decide +kernel)
set_option maxRecDepth 20000 in
theorem gX8_widowRate_X8_tenantRate : GoodIn wsX8_widowRate (wsV RX8 239 RX8 yX8_tenantRate wsX8_tenantRate) := goodIn_app (goodIn_of _ (by decide +kernel)) ggX8_widowRate_X8_tenantRate
theorem dX8_widowRate_0 : decode cX8_widowRate 0 = .ok (.aload_n 0, 1) := by decide +kernel
theorem dX8_widowRate_1 : decode cX8_widowRate 1 = .ok (.dup, 1) := by decide +kernel
theorem dX8_widowRate_2 : decode cX8_widowRate 2 = .ok (.getfield 68, 3) := by decide +kernel
theorem dX8_widowRate_5 : decode cX8_widowRate 5 = .ok (.ldc2_w 276, 3) := by decide +kernel
theorem dX8_widowRate_8 : decode cX8_widowRate 8 = .ok (.ladd, 1) := by decide +kernel
theorem dX8_widowRate_9 : decode cX8_widowRate 9 = .ok (.putfield 68, 3) := by decide +kernel
theorem dX8_widowRate_12 : decode cX8_widowRate 12 = .ok (.iconst 0, 1) := by decide +kernel
theorem dX8_widowRate_13 : decode cX8_widowRate 13 = .ok (.istore_n 2, 1) := by decide +kernel
theorem dX8_widowRate_14 : decode cX8_widowRate 14 = .ok (.iconst 0, 1) := by decide +kernel
theorem dX8_widowRate_15 : decode cX8_widowRate 15 = .ok (.istore_n 3, 1) := by decide +kernel
theorem dX8_widowRate_16 : decode cX8_widowRate 16 = .ok (.iload_n 3, 1) := by decide +kernel
theorem dX8_widowRate_17 : decode cX8_widowRate 17 = .ok (.aload_n 0, 1) := by decide +kernel
theorem dX8_widowRate_18 : decode cX8_widowRate 18 = .ok (.getfield 26, 3) := by decide +kernel
theorem dX8_widowRate_21 : decode cX8_widowRate 21 = .ok (.getfield 131, 3) := by decide +kernel
theorem dX8_widowRate_24 : decode cX8_widowRate 24 = .ok (.if_icmp .ge 28, 3) := by decide +kernel
theorem dX8_widowRate_27 : decode cX8_widowRate 27 = .ok (.aload_n 0, 1) := by decide +kernel
theorem dX8_widowRate_28 : decode cX8_widowRate 28 = .ok (.iload_n 3, 1) := by decide +kernel
theorem dX8_widowRate_29 : decode cX8_widowRate 29 = .ok (.aload_n 0, 1) := by decide +kernel
theorem dX8_widowRate_30 : decode cX8_widowRate 30 = .ok (.getfield 36, 3) := by decide +kernel
theorem dX8_widowRate_33 : decode cX8_widowRate 33 = .ok (.getfield 142, 3) := by decide +kernel
theorem dX8_widowRate_36 : decode cX8_widowRate 36 = .ok (.invokevirtual 128, 3) := by decide +kernel
theorem dX8_widowRate_39 : decode cX8_widowRate 39 = .ok (.iload_n 1, 1) := by decide +kernel
theorem dX8_widowRate_40 : decode cX8_widowRate 40 = .ok (.if_icmp .ne 6, 3) := by decide +kernel
theorem dX8_widowRate_43 : decode cX8_widowRate 43 = .ok (.iinc 2 1, 3) := by decide +kernel
theorem dX8_widowRate_46 : decode cX8_widowRate 46 = .ok (.iinc 3 1, 3) := by decide +kernel
theorem dX8_widowRate_49 : decode cX8_widowRate 49 = .ok (.goto (-33), 3) := by decide +kernel
theorem dX8_widowRate_52 : decode cX8_widowRate 52 = .ok (.aload_n 0, 1) := by decide +kernel
theorem dX8_widowRate_53 : decode cX8_widowRate 53 = .ok (.iload_n 1, 1) := by decide +kernel
theorem dX8_widowRate_54 : decode cX8_widowRate 54 = .ok (.invokevirtual 239, 3) := by decide +kernel
theorem dX8_widowRate_57 : decode cX8_widowRate 57 = .ok (.iload_n 2, 1) := by decide +kernel
theorem dX8_widowRate_58 : decode cX8_widowRate 58 = .ok (.isub, 1) := by decide +kernel
theorem dX8_widowRate_59 : decode cX8_widowRate 59 = .ok (.ireturn, 1) := by decide +kernel
set_option maxRecDepth 20000 in
theorem ggX8_heirRate_X8_cobblerRate : GoodIn wsX8_heirRate wsX8_cobblerRate := goodIn_r _ [7, 1, 8, 9, 10, 11, 12, 13, 6, 14, 15, 16, 17, 18, 19, 20, 21, 22, 23, 24, 25, 26, 27, 28, 29, 30, 31, 32, 33, 34, 35, 36, 37, 38, 39, 40, 41, 42, 43, 44, 45, 46, 47, 48, 49, 50, 51, 52] (by decide +kernel) (by decide +kernel)
set_option maxRecDepth 20000 in
theorem gX8_heirRate_X8_cobblerRate : GoodIn wsX8_heirRate (wsV RX8 242 RX8 yX8_cobblerRate wsX8_cobblerRate) := goodIn_app (goodIn_of _ (by decide +kernel)) ggX8_heirRate_X8_cobblerRate
theorem dX8_heirRate_0 : decode cX8_heirRate 0 = .ok (.aload_n 0, 1) := by decide +kernel
theorem dX8_heirRate_1 : decode cX8_heirRate 1 = .ok (.dup, 1) := by decide +kernel
theorem dX8_heirRate_2 : decode cX8_heirRate 2 = .ok (.getfield 68, 3) := by decide +kernel
theorem dX8_heirRate_5 : decode cX8_heirRate 5 = .ok (.ldc2_w 278, 3) := by decide +kernel
theorem dX8_heirRate_8 : decode cX8_heirRate 8 = .ok (.ladd, 1) := by decide +kernel
theorem dX8_heirRate_9 : decode cX8_heirRate 9 = .ok (.putfield 68, 3) := by decide +kernel
theorem dX8_heirRate_12 : decode cX8_heirRate 12 = .ok (.iconst 2, 1) := by decide +kernel
theorem dX8_heirRate_13 : decode cX8_heirRate 13 = .ok (.aload_n 0, 1) := by decide +kernel
theorem dX8_heirRate_14 : decode cX8_heirRate 14 = .ok (.iload_n 1, 1) := by decide +kernel
theorem dX8_heirRate_15 : decode cX8_heirRate 15 = .ok (.invokevirtual 242, 3) := by decide +kernel
theorem dX8_heirRate_18 : decode cX8_heirRate 18 = .ok (.imul, 1) := by decide +kernel
theorem dX8_heirRate_19 : decode cX8_heirRate 19 = .ok (.ireturn, 1) := by decide +kernel
set_option maxRecDepth 20000 in
theorem ggX8_abbessRate_X8_widowRate : GoodIn wsX8_abbessRate wsX8_widowRate := goodIn_r _ [7, 1, 8, 9, 10, 11, 12, 13, 14, 15, 6, 16, 17, 18, 19, 20, 21, 22, 23, 24, 25, 26, 27, 28, 29, 30, 31, 32, 33, 34, 35, 36, 37, 38, 39, 40, 41, 42, 43, 44, 45, 46, 47, 48, 49, 50, 51, 52, 53, 54, 55, 56, 57, 58, 59, 60, 61, 62, 63, 64, 65, 66, 67, 68, 69, 70, 71, 72, 73, 74, 75, 76] (by decide +kernel) (by decide +kernel)
set_option maxRecDepth 20000 in
theorem gX8_abbessRate_X8_widowRate : GoodIn wsX8_abbessRate (wsV RX8 245 RX8 yX8_widowRate wsX8_widowRate) := goodIn_app (goodIn_of _ (by decide +kernel)) ggX8_abbessRate_X8_widowRate
theorem dX8_abbessRate_0 : decode cX8_abbessRate 0 = .ok (.aload_n 0, 1) := by decide +kernel
theorem dX8_abbessRate_1 : decode cX8_abbessRate 1 = .ok (.dup, 1) := by decide +kernel
theorem dX8_abbessRate_2 : decode cX8_abbessRate 2 = .ok (.getfield 68, 3) := by decide +kernel
theorem dX8_abbessRate_5 : decode cX8_abbessRate 5 = .ok (.ldc2_w 280, 3) := by decide +kernel
theorem dX8_abbessRate_8 : decode cX8_abbessRate 8 = .ok (.ladd, 1) := by decide +kernel
theorem dX8_abbessRate_9 : decode cX8_abbessRate 9 = .ok (.putfield 68, 3) := by decide +kernel
theorem dX8_abbessRate_12 : decode cX8_abbessRate 12 = .ok (.aload_n 0, 1) := by decide +kernel
theorem dX8_abbessRate_13 : decode cX8_abbessRate 13 = .ok (.iload_n 1, 1) := by decide +kernel
theorem dX8_abbessRate_14 : decode cX8_abbessRate 14 = .ok (.invokevirtual 245, 3) := by decide +kernel
theorem dX8_abbessRate_17 : decode cX8_abbessRate 17 = .ok (.iload_n 1, 1) := by decide +kernel
theorem dX8_abbessRate_18 : decode cX8_abbessRate 18 = .ok (.iadd, 1) := by decide +kernel
theorem dX8_abbessRate_19 : decode cX8_abbessRate 19 = .ok (.ireturn, 1) := by decide +kernel
set_option maxRecDepth 20000 in
theorem ggX8_shepherdRate_X8_tenantRate : GoodIn wsX8_shepherdRate wsX8_tenantRate := goodIn_r _ [9, 1, 3, 10, 11, 12, 13, 14, 15, 16, 17, 18, 19, 20, 21, 22, 23, 24, 25, 26, 27] (by decide +kernel) (by decide +kernel)
set_option maxRecDepth 20000 in
theorem gX8_shepherdRate_X8_tenantRate : GoodIn wsX8_shepherdRate (wsV RX8 239 RX8 yX8_tenantRate wsX8_tenantRate) := goodIn_app (goodIn_of _ (by decide +kernel)) ggX8_shepherdRate_X8_tenantRate
theorem dX8_shepherdRate_0 : decode cX8_shepherdRate 0 = .ok (.aload_n 0, 1) := by decide +kernel
theorem dX8_shepherdRate_1 : decode cX8_shepherdRate 1 = .ok (.dup, 1) := by decide +kernel
theorem dX8_shepherdRate_2 : decode cX8_shepherdRate 2 = .ok (.getfield 68, 3) := by decide +kernel
theorem dX8_shepherdRate_5 : decode cX8_shepherdRate 5 = .ok (.ldc2_w 282, 3) := by decide +kernel
theorem dX8_shepherdRate_8 : decode cX8_shepherdRate 8 = .ok (.ladd, 1) := by decide +kernel
theorem dX8_shepherdRate_9 : decode cX8_shepherdRate 9 = .ok (.putfield 68, 3) := by decide +kernel
theorem dX8_shepherdRate_12 : decode cX8_shepherdRate 12 = .ok (.aload_n 0, 1) := by decide +kernel
theorem dX8_shepherdRate_13 : decode cX8_shepherdRate 13 = .ok (.iload_n 1, 1) := by decide +kernel
theorem dX8_shepherdRate_14 : decode cX8_shepherdRate 14 = .ok (.invokevirtual 239, 3) := by decide +kernel
theorem dX8_shepherdRate_17 : decode cX8_shepherdRate 17 = .ok (.aload_n 0, 1) := by decide +kernel
theorem dX8_shepherdRate_18 : decode cX8_shepherdRate 18 = .ok (.getfield 36, 3) := by decide +kernel
theorem dX8_shepherdRate_21 : decode cX8_shepherdRate 21 = .ok (.getfield 142, 3) := by decide +kernel
theorem dX8_shepherdRate_24 : decode cX8_shepherdRate 24 = .ok (.iadd, 1) := by decide +kernel
theorem dX8_shepherdRate_25 : decode cX8_shepherdRate 25 = .ok (.ireturn, 1) := by decide +kernel
theorem dX9_init_0 : decode cX9_init 0 = .ok (.aload_n 0, 1) := by decide +kernel
theorem dX9_init_1 : decode cX9_init 1 = .ok (.invokespecial 1, 3) := by decide +kernel
theorem dX9_init_4 : decode cX9_init 4 = .ok (.aload_n 0, 1) := by decide +kernel
theorem dX9_init_5 : decode cX9_init 5 = .ok (.sipush 300, 3) := by decide +kernel
theorem dX9_init_8 : decode cX9_init 8 = .ok (.newarray .int, 2) := by decide +kernel
theorem dX9_init_10 : decode cX9_init 10 = .ok (.putfield 7, 3) := by decide +kernel
theorem dX9_init_13 : decode cX9_init 13 = .ok (.aload_n 0, 1) := by decide +kernel
theorem dX9_init_14 : decode cX9_init 14 = .ok (.bipush 48, 2) := by decide +kernel
theorem dX9_init_16 : decode cX9_init 16 = .ok (.newarray .int, 2) := by decide +kernel
theorem dX9_init_18 : decode cX9_init 18 = .ok (.putfield 13, 3) := by decide +kernel
theorem dX9_init_21 : decode cX9_init 21 = .ok (.aload_n 0, 1) := by decide +kernel
theorem dX9_init_22 : decode cX9_init 22 = .ok (.bipush 8, 2) := by decide +kernel
theorem dX9_init_24 : decode cX9_init 24 = .ok (.newarray .int, 2) := by decide +kernel
theorem dX9_init_26 : decode cX9_init 26 = .ok (.putfield 16, 3) := by decide +kernel
theorem dX9_init_29 : decode cX9_init 29 = .ok (.aload_n 0, 1) := by decide +kernel
theorem dX9_init_30 : decode cX9_init 30 = .ok (.bipush 50, 2) := by decide +kernel
theorem dX9_init_32 : decode cX9_init 32 = .ok (.newarray .int, 2) := by decide +kernel
theorem dX9_init_34 : decode cX9_init 34 = .ok (.putfield 19, 3) := by decide +kernel
theorem dX9_init_37 : decode cX9_init 37 = .ok (.aload_n 0, 1) := by decide +kernel
theorem dX9_init_38 : decode cX9_init 38 = .ok (.bipush 100, 2) := by decide +kernel
theorem dX9_init_40 : decode cX9_init 40 = .ok (.newarray .int, 2) := by decide +kernel
theorem dX9_init_42 : decode cX9_init 42 = .ok (.putfield 22, 3) := by decide +kernel
theorem dX9_init_45 : decode cX9_init 45 = .ok (.aload_n 0, 1) := by decide +kernel
theorem dX9_init_46 : decode cX9_init 46 = .ok (.sipush 200, 3) := by decide +kernel
theorem dX9_init_49 : decode cX9_init 49 = .ok (.newarray .int, 2) := by decide +kernel
theorem dX9_init_51 : decode cX9_init 51 = .ok (.putfield 25, 3) := by decide +kernel
theorem dX9_init_54 : decode cX9_init 54 = .ok (.aload_n 0, 1) := by decide +kernel
theorem dX9_init_55 : decode cX9_init 55 = .ok (.iconst 2, 1) := by decide +kernel
theorem dX9_init_56 : decode cX9_init 56 = .ok (.newarray .boolean, 2) := by decide +kernel
theorem dX9_init_58 : decode cX9_init 58 = .ok (.putfield 28, 3) := by decide +kernel
theorem dX9_init_61 : decode cX9_init 61 = .ok (.aload_n 0, 1) := by decide +kernel
theorem dX9_init_62 : decode cX9_init 62 = .ok (.bipush 48, 2) := by decide +kernel
theorem dX9_init_64 : decode cX9_init 64 = .ok (.newarray .int, 2) := by decide +kernel
theorem dX9_init_66 : decode cX9_init 66 = .ok (.putfield 32, 3) := by decide +kernel
theorem dX9_init_69 : decode cX9_init 69 = .ok (.aload_n 0, 1) := by decide +kernel
theorem dX9_init_70 : decode cX9_init 70 = .ok (.bipush 16, 2) := by decide +kernel
theorem dX9_init_72 : decode cX9_init 72 = .ok (.newarray .int, 2) := by decide +kernel
theorem dX9_init_74 : decode cX9_init 74 = .ok (.putfield 35, 3) := by decide +kernel
theorem dX9_init_77 : decode cX9_init 77 = .ok (.aload_n 0, 1) := by decide +kernel
theorem dX9_init_78 : decode cX9_init 78 = .ok (.iconst 4, 1) := by decide +kernel
theorem dX9_init_79 : decode cX9_init 79 = .ok (.putfield 38, 3) := by decide +kernel
theorem dX9_init_82 : decode cX9_init 82 = .ok (.aload_n 0, 1) := by decide +kernel
theorem dX9_init_83 : decode cX9_init 83 = .ok (.getfield 22, 3) := by decide +kernel
theorem dX9_init_86 : decode cX9_init 86 = .ok (.iconst 1, 1) := by decide +kernel
theorem dX9_init_87 : decode cX9_init 87 = .ok (.iconst 1, 1) := by decide +kernel
theorem dX9_init_88 : decode cX9_init 88 = .ok (.iastore, 1) := by decide +kernel
theorem dX9_init_89 : decode cX9_init 89 = .ok (.return_, 1) := by decide +kernel
theorem dX9_in_0 : decode cX9_in 0 = .ok (.iload_n 0, 1) := by decide +kernel
theorem dX9_in_1 : decode cX9_in 1 = .ok (.iload_n 1, 1) := by decide +kernel
theorem dX9_in_2 : decode cX9_in 2 = .ok (.if_icmp .lt 12, 3) := by decide +kernel
theorem dX9_in_5 : decode cX9_in 5 = .ok (.iload_n 0, 1) := by decide +kernel
theorem dX9_in_6 : decode cX9_in 6 = .ok (.iload_n 2, 1) := by decide +kernel
theorem dX9_in_7 : decode cX9_in 7 = .ok (.if_icmp .gt 7, 3) := by decide +kernel
theorem dX9_in_10 : decode cX9_in 10 = .ok (.iconst 1, 1) := by decide +kernel
theorem dX9_in_11 : decode cX9_in 11 = .ok (.goto 4, 3) := by decide +kernel
theorem dX9_in_14 : decode cX9_in 14 = .ok (.iconst 0, 1) := by decide +kernel
theorem dX9_in_15 : decode cX9_in 15 = .ok (.ireturn, 1) := by decide +kernel
set_option maxRecDepth 20000 in
theorem ggX9_type_X9_in : GoodIn wsX9_type wsX9_in := goodIn_r _ [8] (by decide +kernel) (by decide +kernel)
set_option maxRecDepth 20000 in
theorem gX9_type_X9_in : GoodIn wsX9_type (va_wsS RX9 45 yX9_in wsX9_in) := goodIn_app (goodIn_of _ (by decide +kernel)) ggX9_type_X9_in
theorem dX9_type_0 : decode cX9_type 0 = .ok (.aload_n 0, 1) := by decide +kernel
theorem dX9_type_1 : decode cX9_type 1 = .ok (.iconst 0, 1) := by decide +kernel
theorem dX9_type_2 : decode cX9_type 2 = .ok (.putfield 42, 3) := by decide +kernel
theorem dX9_type_5 : decode cX9_type 5 = .ok (.iload_n 3, 1) := by decide +kernel
theorem dX9_type_6 : decode cX9_type 6 = .ok (.iconst 1, 1) := by decide +kernel
theorem dX9_type_7 : decode cX9_type 7 = .ok (.bipush 8, 2) := by decide +kernel
theorem dX9_type_9 : decode cX9_type 9 = .ok (.invokestatic 45, 3) := by decide +kernel
theorem dX9_type_12 : decode cX9_type 12 = .ok (.ifCond .ne 5, 3) := by decide +kernel
theorem dX9_type_15 : decode cX9_type 15 = .ok (.iconst (-1), 1) := by decide +kernel
theorem dX9_type_16 : decode cX9_type 16 = .ok (.ireturn, 1) := by decide +kernel
theorem dX9_type_17 : decode cX9_type 17 = .ok (.aload_n 0, 1) := by decide +kernel
theorem dX9_type_18 : decode cX9_type 18 = .ok (.getfield 49, 3) := by decide +kernel
theorem dX9_type_21 : decode cX9_type 21 = .ok (.iload_n 3, 1) := by decide +kernel
theorem dX9_type_22 : decode cX9_type 22 = .ok (.iadd, 1) := by decide +kernel
theorem dX9_type_23 : decode cX9_type 23 = .ok (.sipush 300, 3) := by decide +kernel
theorem dX9_type_26 : decode cX9_type 26 = .ok (.if_icmp .le 6, 3) := by decide +kernel
theorem dX9_type_29 : decode cX9_type 29 = .ok (.bipush (-3), 2) := by decide +kernel
theorem dX9_type_31 : decode cX9_type 31 = .ok (.ireturn, 1) := by decide +kernel
theorem dX9_type_32 : decode cX9_type 32 = .ok (.iload_n 3, 1) := by decide +kernel
theorem dX9_type_33 : decode cX9_type 33 = .ok (.iconst 1, 1) := by decide +kernel
theorem dX9_type_34 : decode cX9_type 34 = .ok (.isub, 1) := by decide +kernel
theorem dX9_type_35 : decode cX9_type 35 = .ok (.istore 4, 2) := by decide +kernel
theorem dX9_type_37 : decode cX9_type 37 = .ok (.iload 4, 2) := by decide +kernel
theorem dX9_type_39 : decode cX9_type 39 = .ok (.ifCond .lt 40, 3) := by decide +kernel
theorem dX9_type_42 : decode cX9_type 42 = .ok (.aload_n 0, 1) := by decide +kernel
theorem dX9_type_43 : decode cX9_type 43 = .ok (.getfield 7, 3) := by decide +kernel
theorem dX9_type_46 : decode cX9_type 46 = .ok (.aload_n 0, 1) := by decide +kernel
theorem dX9_type_47 : decode cX9_type 47 = .ok (.getfield 49, 3) := by decide +kernel
theorem dX9_type_50 : decode cX9_type 50 = .ok (.lload_n 1, 1) := by decide +kernel
theorem dX9_type_51 : decode cX9_type 51 = .ok (.bipush 8, 2) := by decide +kernel
theorem dX9_type_53 : decode cX9_type 53 = .ok (.iload 4, 2) := by decide +kernel
theorem dX9_type_55 : decode cX9_type 55 = .ok (.imul, 1) := by decide +kernel
theorem dX9_type_56 : decode cX9_type 56 = .ok (.lshr, 1) := by decide +kernel
theorem dX9_type_57 : decode cX9_type 57 = .ok (.ldc2_w 52, 3) := by decide +kernel
theorem dX9_type_60 : decode cX9_type 60 = .ok (.land, 1) := by decide +kernel
theorem dX9_type_61 : decode cX9_type 61 = .ok (.l2i, 1) := by decide +kernel
theorem dX9_type_62 : decode cX9_type 62 = .ok (.iastore, 1) := by decide +kernel
theorem dX9_type_63 : decode cX9_type 63 = .ok (.aload_n 0, 1) := by decide +kernel
theorem dX9_type_64 : decode cX9_type 64 = .ok (.dup, 1) := by decide +kernel
theorem dX9_type_65 : decode cX9_type 65 = .ok (.getfield 49, 3) := by decide +kernel
theorem dX9_type_68 : decode cX9_type 68 = .ok (.iconst 1, 1) := by decide +kernel
theorem dX9_type_69 : decode cX9_type 69 = .ok (.iadd, 1) := by decide +kernel
theorem dX9_type_70 : decode cX9_type 70 = .ok (.putfield 49, 3) := by decide +kernel
theorem dX9_type_73 : decode cX9_type 73 = .ok (.iinc 4 (-1), 3) := by decide +kernel
theorem dX9_type_76 : decode cX9_type 76 = .ok (.goto (-39), 3) := by decide +kernel
theorem dX9_type_79 : decode cX9_type 79 = .ok (.aload_n 0, 1) := by decide +kernel
theorem dX9_type_80 : decode cX9_type 80 = .ok (.getfield 49, 3) := by decide +kernel
theorem dX9_type_83 : decode cX9_type 83 = .ok (.ireturn, 1) := by decide +kernel
theorem dX9_clear_0 : decode cX9_clear 0 = .ok (.aload_n 0, 1) := by decide +kernel
theorem dX9_clear_1 : decode cX9_clear 1 = .ok (.iconst 0, 1) := by decide +kernel
theorem dX9_clear_2 : decode cX9_clear 2 = .ok (.putfield 42, 3) := by decide +kernel
theorem dX9_clear_5 : decode cX9_clear 5 = .ok (.aload_n 0, 1) := by decide +kernel
theorem dX9_clear_6 : decode cX9_clear 6 = .ok (.getfield 49, 3) := by decide +kernel
theorem dX9_clear_9 : decode cX9_clear 9 = .ok (.istore_n 1, 1) := by decide +kernel
theorem dX9_clear_10 : decode cX9_clear 10 = .ok (.aload_n 0, 1) := by decide +kernel
theorem dX9_clear_11 : decode cX9_clear 11 = .ok (.iconst 0, 1) := by decide +kernel
theorem dX9_clear_12 : decode cX9_clear 12 = .ok (.putfield 49, 3) := by decide +kernel
theorem dX9_clear_15 : decode cX9_clear 15 = .ok (.iload_n 1, 1) := by decide +kernel
theorem dX9_clear_16 : decode cX9_clear 16 = .ok (.ireturn, 1) := by decide +kernel
theorem dX9_byteAt_0 : decode cX9_byteAt 0 = .ok (.iload_n 1, 1) := by decide +kernel
theorem dX9_byteAt_1 : decode cX9_byteAt 1 = .ok (.aload_n 0, 1) := by decide +kernel
theorem dX9_byteAt_2 : decode cX9_byteAt 2 = .ok (.getfield 49, 3) := by decide +kernel
theorem dX9_byteAt_5 : decode cX9_byteAt 5 = .ok (.if_icmp .ge 12, 3) := by decide +kernel
theorem dX9_byteAt_8 : decode cX9_byteAt 8 = .ok (.aload_n 0, 1) := by decide +kernel
theorem dX9_byteAt_9 : decode cX9_byteAt 9 = .ok (.getfield 7, 3) := by decide +kernel
theorem dX9_byteAt_12 : decode cX9_byteAt 12 = .ok (.iload_n 1, 1) := by decide +kernel
theorem dX9_byteAt_13 : decode cX9_byteAt 13 = .ok (.iaload, 1) := by decide +kernel
theorem dX9_byteAt_14 : decode cX9_byteAt 14 = .ok (.goto 4, 3) := by decide +kernel
theorem dX9_byteAt_17 : decode cX9_byteAt 17 = .ok (.iconst (-1), 1) := by decide +kernel
theorem dX9_byteAt_18 : decode cX9_byteAt 18 = .ok (.ireturn, 1) := by decide +kernel
theorem dX9_add_0 : decode cX9_add 0 = .ok (.iload_n 2, 1) := by decide +kernel
theorem dX9_add_1 : decode cX9_add 1 = .ok (.ifCond .ne 7, 3) := by decide +kernel
theorem dX9_add_4 : decode cX9_add 4 = .ok (.lload_n 0, 1) := by decide +kernel
theorem dX9_add_5 : decode cX9_add 5 = .ok (.goto 11, 3) := by decide +kernel
theorem dX9_add_8 : decode cX9_add 8 = .ok (.ldc2_w 54, 3) := by decide +kernel
theorem dX9_add_11 : decode cX9_add 11 = .ok (.lload_n 0, 1) := by decide +kernel
theorem dX9_add_12 : decode cX9_add 12 = .ok (.lmul, 1) := by decide +kernel
theorem dX9_add_13 : decode cX9_add 13 = .ok (.iload_n 2, 1) := by decide +kernel
theorem dX9_add_14 : decode cX9_add 14 = .ok (.i2l, 1) := by decide +kernel
theorem dX9_add_15 : decode cX9_add 15 = .ok (.ladd, 1) := by decide +kernel
theorem dX9_add_16 : decode cX9_add 16 = .ok (.lreturn, 1) := by decide +kernel
set_option maxRecDepth 20000 in
theorem ggX9_named_X9_add : GoodIn wsX9_named wsX9_add := goodIn_r _ [4, 5] (by decide +kernel) (by decide +kernel)
set_option maxRecDepth 20000 in
theorem gX9_named_X9_add : GoodIn wsX9_named (va_wsS RX9 56 yX9_add wsX9_add) := goodIn_app (goodIn_of _ (by decide +kernel)) ggX9_named_X9_add
theorem dX9_named_0 : decode cX9_named 0 = .ok (.lconst 0, 1) := by decide +kernel
theorem dX9_named_1 : decode cX9_named 1 = .ok (.iload_n 0, 1) := by decide +kernel
theorem dX9_named_2 : decode cX9_named 2 = .ok (.invokestatic 56, 3) := by decide +kernel
theorem dX9_named_5 : decode cX9_named 5 = .ok (.iload_n 1, 1) := by decide +kernel
theorem dX9_named_6 : decode cX9_named 6 = .ok (.invokestatic 56, 3) := by decide +kernel
theorem dX9_named_9 : decode cX9_named 9 = .ok (.iload_n 2, 1) := by decide +kernel
theorem dX9_named_10 : decode cX9_named 10 = .ok (.invokestatic 56, 3) := by decide +kernel
theorem dX9_named_13 : decode cX9_named 13 = .ok (.iload_n 3, 1) := by decide +kernel
theorem dX9_named_14 : decode cX9_named 14 = .ok (.invokestatic 56, 3) := by decide +kernel
theorem dX9_named_17 : decode cX9_named 17 = .ok (.iload 4, 2) := by decide +kernel
theorem dX9_named_19 : decode cX9_named 19 = .ok (.invokestatic 56, 3) := by decide +kernel
theorem dX9_named_22 : decode cX9_named 22 = .ok (.iload 5, 2) := by decide +kernel
theorem dX9_named_24 : decode cX9_named 24 = .ok (.invokestatic 56, 3) := by decide +kernel
theorem dX9_named_27 : decode cX9_named 27 = .ok (.lreturn, 1) := by decide +kernel
set_option maxRecDepth 20000 in
theorem ggX9_wordOf_X9_named : GoodIn wsX9_wordOf wsX9_named := goodIn_r _ [4, 5, 6, 3, 7, 8] (by decide +kernel) (by decide +kernel)
set_option maxRecDepth 20000 in
theorem gX9_wordOf_X9_named : GoodIn wsX9_wordOf (va_wsS RX9 60 yX9_named wsX9_named) := goodIn_app (goodIn_of _ (by decide +kernel)) ggX9_wordOf_X9_named
theorem dX9_wordOf_0 : decode cX9_wordOf 0 = .ok (.lload_n 0, 1) := by decide +kernel
theorem dX9_wordOf_1 : decode cX9_wordOf 1 = .ok (.bipush 115, 2) := by decide +kernel
theorem dX9_wordOf_3 : decode cX9_wordOf 3 = .ok (.bipush 107, 2) := by decide +kernel
theorem dX9_wordOf_5 : decode cX9_wordOf 5 = .ok (.bipush 121, 2) := by decide +kernel
theorem dX9_wordOf_7 : decode cX9_wordOf 7 = .ok (.iconst 0, 1) := by decide +kernel
theorem dX9_wordOf_8 : decode cX9_wordOf 8 = .ok (.iconst 0, 1) := by decide +kernel
theorem dX9_wordOf_9 : decode cX9_wordOf 9 = .ok (.iconst 0, 1) := by decide +kernel
theorem dX9_wordOf_10 : decode cX9_wordOf 10 = .ok (.invokestatic 60, 3) := by decide +kernel
theorem dX9_wordOf_13 : decode cX9_wordOf 13 = .ok (.lcmp, 1) := by decide +kernel
theorem dX9_wordOf_14 : decode cX9_wordOf 14 = .ok (.ifCond .ne 7, 3) := by decide +kernel
theorem dX9_wordOf_17 : decode cX9_wordOf 17 = .ok (.iconst 0, 1) := by decide +kernel
theorem dX9_wordOf_18 : decode cX9_wordOf 18 = .ok (.goto 27, 3) := by decide +kernel
theorem dX9_wordOf_21 : decode cX9_wordOf 21 = .ok (.lload_n 0, 1) := by decide +kernel
theorem dX9_wordOf_22 : decode cX9_wordOf 22 = .ok (.bipush 115, 2) := by decide +kernel
theorem dX9_wordOf_24 : decode cX9_wordOf 24 = .ok (.bipush 116, 2) := by decide +kernel
theorem dX9_wordOf_26 : decode cX9_wordOf 26 = .ok (.bipush 97, 2) := by decide +kernel
theorem dX9_wordOf_28 : decode cX9_wordOf 28 = .ok (.bipush 114, 2) := by decide +kernel
theorem dX9_wordOf_30 : decode cX9_wordOf 30 = .ok (.iconst 0, 1) := by decide +kernel
theorem dX9_wordOf_31 : decode cX9_wordOf 31 = .ok (.iconst 0, 1) := by decide +kernel
theorem dX9_wordOf_32 : decode cX9_wordOf 32 = .ok (.invokestatic 60, 3) := by decide +kernel
theorem dX9_wordOf_35 : decode cX9_wordOf 35 = .ok (.lcmp, 1) := by decide +kernel
theorem dX9_wordOf_36 : decode cX9_wordOf 36 = .ok (.ifCond .ne 7, 3) := by decide +kernel
theorem dX9_wordOf_39 : decode cX9_wordOf 39 = .ok (.iconst 1, 1) := by decide +kernel
theorem dX9_wordOf_40 : decode cX9_wordOf 40 = .ok (.goto 5, 3) := by decide +kernel
theorem dX9_wordOf_43 : decode cX9_wordOf 43 = .ok (.bipush (-9), 2) := by decide +kernel
theorem dX9_wordOf_45 : decode cX9_wordOf 45 = .ok (.istore_n 2, 1) := by decide +kernel
theorem dX9_wordOf_46 : decode cX9_wordOf 46 = .ok (.iload_n 2, 1) := by decide +kernel
theorem dX9_wordOf_47 : decode cX9_wordOf 47 = .ok (.bipush (-9), 2) := by decide +kernel
theorem dX9_wordOf_49 : decode cX9_wordOf 49 = .ok (.if_icmp .eq 7, 3) := by decide +kernel
theorem dX9_wordOf_52 : decode cX9_wordOf 52 = .ok (.iload_n 2, 1) := by decide +kernel
theorem dX9_wordOf_53 : decode cX9_wordOf 53 = .ok (.goto 52, 3) := by decide +kernel
theorem dX9_wordOf_56 : decode cX9_wordOf 56 = .ok (.lload_n 0, 1) := by decide +kernel
theorem dX9_wordOf_57 : decode cX9_wordOf 57 = .ok (.bipush 116, 2) := by decide +kernel
theorem dX9_wordOf_59 : decode cX9_wordOf 59 = .ok (.bipush 101, 2) := by decide +kernel
theorem dX9_wordOf_61 : decode cX9_wordOf 61 = .ok (.bipush 110, 2) := by decide +kernel
theorem dX9_wordOf_63 : decode cX9_wordOf 63 = .ok (.bipush 97, 2) := by decide +kernel
theorem dX9_wordOf_65 : decode cX9_wordOf 65 = .ok (.bipush 110, 2) := by decide +kernel
theorem dX9_wordOf_67 : decode cX9_wordOf 67 = .ok (.bipush 116, 2) := by decide +kernel
theorem dX9_wordOf_69 : decode cX9_wordOf 69 = .ok (.invokestatic 60, 3) := by decide +kernel
theorem dX9_wordOf_72 : decode cX9_wordOf 72 = .ok (.lcmp, 1) := by decide +kernel
theorem dX9_wordOf_73 : decode cX9_wordOf 73 = .ok (.ifCond .ne 7, 3) := by decide +kernel
theorem dX9_wordOf_76 : decode cX9_wordOf 76 = .ok (.iconst 2, 1) := by decide +kernel
theorem dX9_wordOf_77 : decode cX9_wordOf 77 = .ok (.goto 28, 3) := by decide +kernel
theorem dX9_wordOf_80 : decode cX9_wordOf 80 = .ok (.lload_n 0, 1) := by decide +kernel
theorem dX9_wordOf_81 : decode cX9_wordOf 81 = .ok (.bipush 108, 2) := by decide +kernel
theorem dX9_wordOf_83 : decode cX9_wordOf 83 = .ok (.bipush 101, 2) := by decide +kernel
theorem dX9_wordOf_85 : decode cX9_wordOf 85 = .ok (.bipush 97, 2) := by decide +kernel
theorem dX9_wordOf_87 : decode cX9_wordOf 87 = .ok (.bipush 115, 2) := by decide +kernel
theorem dX9_wordOf_89 : decode cX9_wordOf 89 = .ok (.bipush 101, 2) := by decide +kernel
theorem dX9_wordOf_91 : decode cX9_wordOf 91 = .ok (.iconst 0, 1) := by decide +kernel
theorem dX9_wordOf_92 : decode cX9_wordOf 92 = .ok (.invokestatic 60, 3) := by decide +kernel
theorem dX9_wordOf_95 : decode cX9_wordOf 95 = .ok (.lcmp, 1) := by decide +kernel
theorem dX9_wordOf_96 : decode cX9_wordOf 96 = .ok (.ifCond .ne 7, 3) := by decide +kernel
theorem dX9_wordOf_99 : decode cX9_wordOf 99 = .ok (.iconst 3, 1) := by decide +kernel
theorem dX9_wordOf_100 : decode cX9_wordOf 100 = .ok (.goto 5, 3) := by decide +kernel
theorem dX9_wordOf_103 : decode cX9_wordOf 103 = .ok (.bipush (-9), 2) := by decide +kernel
theorem dX9_wordOf_105 : decode cX9_wordOf 105 = .ok (.ireturn, 1) := by decide +kernel
set_option maxRecDepth 20000 in
theorem ggX9_advances_X9_byteAt : GoodIn wsX9_advances wsX9_byteAt := goodIn_r _ [9, 10, 11, 25, 26, 27, 28, 29, 30, 31, 32, 33, 34, 35, 36, 37, 38, 39, 40, 41, 42, 43, 44, 45, 46, 47, 48, 49, 50] (by decide +kernel) (by decide +kernel)
set_option maxRecDepth 20000 in
theorem gX9_advances_X9_byteAt : GoodIn wsX9_advances (wsV RX9 67 RX9 yX9_byteAt wsX9_byteAt) := goodIn_app (goodIn_of _ (by decide +kernel)) ggX9_advances_X9_byteAt
set_option maxRecDepth 20000 in
theorem ggX9_advances_X9_in : GoodIn wsX9_advances wsX9_in := goodIn_r _ [14] (by decide +kernel) (by decide +kernel)
set_option maxRecDepth 20000 in
theorem gX9_advances_X9_in : GoodIn wsX9_advances (va_wsS RX9 45 yX9_in wsX9_in) := goodIn_app (goodIn_of _ (by decide +kernel)) ggX9_advances_X9_in
set_option maxRecDepth 20000 in
theorem ggX9_advances_X9_add : GoodIn wsX9_advances wsX9_add := goodIn_r _ [17, 18] (by decide +kernel) (by decide +kernel)
set_option maxRecDepth 20000 in
theorem gX9_advances_X9_add : GoodIn wsX9_advances (va_wsS RX9 56 yX9_add wsX9_add) := goodIn_app (goodIn_of _ (by decide +kernel)) ggX9_advances_X9_add
set_option maxRecDepth 20000 in
theorem ggX9_advances_X9_wordOf : GoodIn wsX9_advances wsX9_wordOf := goodIn_r _ [21, 22, 23, 8, 24, 15, 16, 17, 18] (by decide +kernel) (by decide +kernel)
set_option maxRecDepth 20000 in
theorem gX9_advances_X9_wordOf : GoodIn wsX9_advances (va_wsS RX9 77 yX9_wordOf wsX9_wordOf) := goodIn_app (goodIn_of _ (by decide +kernel)) ggX9_advances_X9_wordOf
theorem dX9_advances_0 : decode cX9_advances 0 = .ok (.aload_n 0, 1) := by decide +kernel
theorem dX9_advances_1 : decode cX9_advances 1 = .ok (.aload_n 0, 1) := by decide +kernel
theorem dX9_advances_2 : decode cX9_advances 2 = .ok (.getfield 64, 3) := by decide +kernel
theorem dX9_advances_5 : decode cX9_advances 5 = .ok (.invokevirtual 67, 3) := by decide +kernel
theorem dX9_advances_8 : decode cX9_advances 8 = .ok (.bipush 32, 2) := by decide +kernel
theorem dX9_advances_10 : decode cX9_advances 10 = .ok (.if_icmp .ne 16, 3) := by decide +kernel
theorem dX9_advances_13 : decode cX9_advances 13 = .ok (.aload_n 0, 1) := by decide +kernel
theorem dX9_advances_14 : decode cX9_advances 14 = .ok (.dup, 1) := by decide +kernel
theorem dX9_advances_15 : decode cX9_advances 15 = .ok (.getfield 64, 3) := by decide +kernel
theorem dX9_advances_18 : decode cX9_advances 18 = .ok (.iconst 1, 1) := by decide +kernel
theorem dX9_advances_19 : decode cX9_advances 19 = .ok (.iadd, 1) := by decide +kernel
theorem dX9_advances_20 : decode cX9_advances 20 = .ok (.putfield 64, 3) := by decide +kernel
theorem dX9_advances_23 : decode cX9_advances 23 = .ok (.goto (-23), 3) := by decide +kernel
theorem dX9_advances_26 : decode cX9_advances 26 = .ok (.aload_n 0, 1) := by decide +kernel
theorem dX9_advances_27 : decode cX9_advances 27 = .ok (.aload_n 0, 1) := by decide +kernel
theorem dX9_advances_28 : decode cX9_advances 28 = .ok (.getfield 64, 3) := by decide +kernel
theorem dX9_advances_31 : decode cX9_advances 31 = .ok (.putfield 71, 3) := by decide +kernel
theorem dX9_advances_34 : decode cX9_advances 34 = .ok (.aload_n 0, 1) := by decide +kernel
theorem dX9_advances_35 : decode cX9_advances 35 = .ok (.aload_n 0, 1) := by decide +kernel
theorem dX9_advances_36 : decode cX9_advances 36 = .ok (.getfield 64, 3) := by decide +kernel
theorem dX9_advances_39 : decode cX9_advances 39 = .ok (.invokevirtual 67, 3) := by decide +kernel
theorem dX9_advances_42 : decode cX9_advances 42 = .ok (.istore_n 1, 1) := by decide +kernel
theorem dX9_advances_43 : decode cX9_advances 43 = .ok (.iload_n 1, 1) := by decide +kernel
theorem dX9_advances_44 : decode cX9_advances 44 = .ok (.ifCond .ge 11, 3) := by decide +kernel
theorem dX9_advances_47 : decode cX9_advances 47 = .ok (.aload_n 0, 1) := by decide +kernel
theorem dX9_advances_48 : decode cX9_advances 48 = .ok (.iconst 0, 1) := by decide +kernel
theorem dX9_advances_49 : decode cX9_advances 49 = .ok (.putfield 74, 3) := by decide +kernel
theorem dX9_advances_52 : decode cX9_advances 52 = .ok (.goto 258, 3) := by decide +kernel
theorem dX9_advances_55 : decode cX9_advances 55 = .ok (.iload_n 1, 1) := by decide +kernel
theorem dX9_advances_56 : decode cX9_advances 56 = .ok (.bipush 97, 2) := by decide +kernel
theorem dX9_advances_58 : decode cX9_advances 58 = .ok (.bipush 122, 2) := by decide +kernel
theorem dX9_advances_60 : decode cX9_advances 60 = .ok (.invokestatic 45, 3) := by decide +kernel
theorem dX9_advances_63 : decode cX9_advances 63 = .ok (.ifCond .eq 96, 3) := by decide +kernel
theorem dX9_advances_66 : decode cX9_advances 66 = .ok (.lconst 0, 1) := by decide +kernel
theorem dX9_advances_67 : decode cX9_advances 67 = .ok (.lstore_n 2, 1) := by decide +kernel
theorem dX9_advances_68 : decode cX9_advances 68 = .ok (.aload_n 0, 1) := by decide +kernel
theorem dX9_advances_69 : decode cX9_advances 69 = .ok (.aload_n 0, 1) := by decide +kernel
theorem dX9_advances_70 : decode cX9_advances 70 = .ok (.getfield 64, 3) := by decide +kernel
theorem dX9_advances_73 : decode cX9_advances 73 = .ok (.invokevirtual 67, 3) := by decide +kernel
theorem dX9_advances_76 : decode cX9_advances 76 = .ok (.bipush 97, 2) := by decide +kernel
theorem dX9_advances_78 : decode cX9_advances 78 = .ok (.bipush 122, 2) := by decide +kernel
theorem dX9_advances_80 : decode cX9_advances 80 = .ok (.invokestatic 45, 3) := by decide +kernel
theorem dX9_advances_83 : decode cX9_advances 83 = .ok (.ifCond .eq 47, 3) := by decide +kernel
theorem dX9_advances_86 : decode cX9_advances 86 = .ok (.aload_n 0, 1) := by decide +kernel
theorem dX9_advances_87 : decode cX9_advances 87 = .ok (.getfield 64, 3) := by decide +kernel
theorem dX9_advances_90 : decode cX9_advances 90 = .ok (.aload_n 0, 1) := by decide +kernel
theorem dX9_advances_91 : decode cX9_advances 91 = .ok (.getfield 71, 3) := by decide +kernel
theorem dX9_advances_94 : decode cX9_advances 94 = .ok (.isub, 1) := by decide +kernel
theorem dX9_advances_95 : decode cX9_advances 95 = .ok (.bipush 7, 2) := by decide +kernel
theorem dX9_advances_97 : decode cX9_advances 97 = .ok (.if_icmp .ge 18, 3) := by decide +kernel
theorem dX9_advances_100 : decode cX9_advances 100 = .ok (.lload_n 2, 1) := by decide +kernel
theorem dX9_advances_101 : decode cX9_advances 101 = .ok (.aload_n 0, 1) := by decide +kernel
theorem dX9_advances_102 : decode cX9_advances 102 = .ok (.aload_n 0, 1) := by decide +kernel
theorem dX9_advances_103 : decode cX9_advances 103 = .ok (.getfield 64, 3) := by decide +kernel
theorem dX9_advances_106 : decode cX9_advances 106 = .ok (.invokevirtual 67, 3) := by decide +kernel
theorem dX9_advances_109 : decode cX9_advances 109 = .ok (.invokestatic 56, 3) := by decide +kernel
theorem dX9_advances_112 : decode cX9_advances 112 = .ok (.goto 4, 3) := by decide +kernel
theorem dX9_advances_115 : decode cX9_advances 115 = .ok (.lload_n 2, 1) := by decide +kernel
theorem dX9_advances_116 : decode cX9_advances 116 = .ok (.lstore_n 2, 1) := by decide +kernel
theorem dX9_advances_117 : decode cX9_advances 117 = .ok (.aload_n 0, 1) := by decide +kernel
theorem dX9_advances_118 : decode cX9_advances 118 = .ok (.dup, 1) := by decide +kernel
theorem dX9_advances_119 : decode cX9_advances 119 = .ok (.getfield 64, 3) := by decide +kernel
theorem dX9_advances_122 : decode cX9_advances 122 = .ok (.iconst 1, 1) := by decide +kernel
theorem dX9_advances_123 : decode cX9_advances 123 = .ok (.iadd, 1) := by decide +kernel
theorem dX9_advances_124 : decode cX9_advances 124 = .ok (.putfield 64, 3) := by decide +kernel
theorem dX9_advances_127 : decode cX9_advances 127 = .ok (.goto (-59), 3) := by decide +kernel
theorem dX9_advances_130 : decode cX9_advances 130 = .ok (.aload_n 0, 1) := by decide +kernel
theorem dX9_advances_131 : decode cX9_advances 131 = .ok (.lload_n 2, 1) := by decide +kernel
theorem dX9_advances_132 : decode cX9_advances 132 = .ok (.invokestatic 77, 3) := by decide +kernel
theorem dX9_advances_135 : decode cX9_advances 135 = .ok (.putfield 81, 3) := by decide +kernel
theorem dX9_advances_138 : decode cX9_advances 138 = .ok (.aload_n 0, 1) := by decide +kernel
theorem dX9_advances_139 : decode cX9_advances 139 = .ok (.aload_n 0, 1) := by decide +kernel
theorem dX9_advances_140 : decode cX9_advances 140 = .ok (.getfield 81, 3) := by decide +kernel
theorem dX9_advances_143 : decode cX9_advances 143 = .ok (.bipush (-9), 2) := by decide +kernel
theorem dX9_advances_145 : decode cX9_advances 145 = .ok (.if_icmp .ne 7, 3) := by decide +kernel
theorem dX9_advances_148 : decode cX9_advances 148 = .ok (.iconst 4, 1) := by decide +kernel
theorem dX9_advances_149 : decode cX9_advances 149 = .ok (.goto 4, 3) := by decide +kernel
theorem dX9_advances_152 : decode cX9_advances 152 = .ok (.iconst 1, 1) := by decide +kernel
theorem dX9_advances_153 : decode cX9_advances 153 = .ok (.putfield 74, 3) := by decide +kernel
theorem dX9_advances_156 : decode cX9_advances 156 = .ok (.goto 154, 3) := by decide +kernel
theorem dX9_advances_159 : decode cX9_advances 159 = .ok (.iload_n 1, 1) := by decide +kernel
theorem dX9_advances_160 : decode cX9_advances 160 = .ok (.bipush 48, 2) := by decide +kernel
theorem dX9_advances_162 : decode cX9_advances 162 = .ok (.bipush 57, 2) := by decide +kernel
theorem dX9_advances_164 : decode cX9_advances 164 = .ok (.invokestatic 45, 3) := by decide +kernel
theorem dX9_advances_167 : decode cX9_advances 167 = .ok (.ifCond .eq 118, 3) := by decide +kernel
theorem dX9_advances_170 : decode cX9_advances 170 = .ok (.aload_n 0, 1) := by decide +kernel
theorem dX9_advances_171 : decode cX9_advances 171 = .ok (.iconst 0, 1) := by decide +kernel
theorem dX9_advances_172 : decode cX9_advances 172 = .ok (.putfield 81, 3) := by decide +kernel
theorem dX9_advances_175 : decode cX9_advances 175 = .ok (.aload_n 0, 1) := by decide +kernel
theorem dX9_advances_176 : decode cX9_advances 176 = .ok (.aload_n 0, 1) := by decide +kernel
theorem dX9_advances_177 : decode cX9_advances 177 = .ok (.getfield 64, 3) := by decide +kernel
theorem dX9_advances_180 : decode cX9_advances 180 = .ok (.invokevirtual 67, 3) := by decide +kernel
theorem dX9_advances_183 : decode cX9_advances 183 = .ok (.bipush 48, 2) := by decide +kernel
theorem dX9_advances_185 : decode cX9_advances 185 = .ok (.bipush 57, 2) := by decide +kernel
theorem dX9_advances_187 : decode cX9_advances 187 = .ok (.invokestatic 45, 3) := by decide +kernel
theorem dX9_advances_190 : decode cX9_advances 190 = .ok (.ifCond .eq 55, 3) := by decide +kernel
theorem dX9_advances_193 : decode cX9_advances 193 = .ok (.aload_n 0, 1) := by decide +kernel
theorem dX9_advances_194 : decode cX9_advances 194 = .ok (.aload_n 0, 1) := by decide +kernel
theorem dX9_advances_195 : decode cX9_advances 195 = .ok (.getfield 81, 3) := by decide +kernel
theorem dX9_advances_198 : decode cX9_advances 198 = .ok (.bipush 99, 2) := by decide +kernel
theorem dX9_advances_200 : decode cX9_advances 200 = .ok (.if_icmp .le 10, 3) := by decide +kernel
theorem dX9_advances_203 : decode cX9_advances 203 = .ok (.aload_n 0, 1) := by decide +kernel
theorem dX9_advances_204 : decode cX9_advances 204 = .ok (.getfield 81, 3) := by decide +kernel
theorem dX9_advances_207 : decode cX9_advances 207 = .ok (.goto 22, 3) := by decide +kernel
theorem dX9_advances_210 : decode cX9_advances 210 = .ok (.bipush 10, 2) := by decide +kernel
theorem dX9_advances_212 : decode cX9_advances 212 = .ok (.aload_n 0, 1) := by decide +kernel
theorem dX9_advances_213 : decode cX9_advances 213 = .ok (.getfield 81, 3) := by decide +kernel
theorem dX9_advances_216 : decode cX9_advances 216 = .ok (.imul, 1) := by decide +kernel
theorem dX9_advances_217 : decode cX9_advances 217 = .ok (.aload_n 0, 1) := by decide +kernel
theorem dX9_advances_218 : decode cX9_advances 218 = .ok (.aload_n 0, 1) := by decide +kernel
theorem dX9_advances_219 : decode cX9_advances 219 = .ok (.getfield 64, 3) := by decide +kernel
theorem dX9_advances_222 : decode cX9_advances 222 = .ok (.invokevirtual 67, 3) := by decide +kernel
theorem dX9_advances_225 : decode cX9_advances 225 = .ok (.iadd, 1) := by decide +kernel
theorem dX9_advances_226 : decode cX9_advances 226 = .ok (.bipush 48, 2) := by decide +kernel
theorem dX9_advances_228 : decode cX9_advances 228 = .ok (.isub, 1) := by decide +kernel
theorem dX9_advances_229 : decode cX9_advances 229 = .ok (.putfield 81, 3) := by decide +kernel
theorem dX9_advances_232 : decode cX9_advances 232 = .ok (.aload_n 0, 1) := by decide +kernel
theorem dX9_advances_233 : decode cX9_advances 233 = .ok (.dup, 1) := by decide +kernel
theorem dX9_advances_234 : decode cX9_advances 234 = .ok (.getfield 64, 3) := by decide +kernel
theorem dX9_advances_237 : decode cX9_advances 237 = .ok (.iconst 1, 1) := by decide +kernel
theorem dX9_advances_238 : decode cX9_advances 238 = .ok (.iadd, 1) := by decide +kernel
theorem dX9_advances_239 : decode cX9_advances 239 = .ok (.putfield 64, 3) := by decide +kernel
theorem dX9_advances_242 : decode cX9_advances 242 = .ok (.goto (-67), 3) := by decide +kernel
theorem dX9_advances_245 : decode cX9_advances 245 = .ok (.aload_n 0, 1) := by decide +kernel
theorem dX9_advances_246 : decode cX9_advances 246 = .ok (.aload_n 0, 1) := by decide +kernel
theorem dX9_advances_247 : decode cX9_advances 247 = .ok (.getfield 81, 3) := by decide +kernel
theorem dX9_advances_250 : decode cX9_advances 250 = .ok (.bipush 99, 2) := by decide +kernel
theorem dX9_advances_252 : decode cX9_advances 252 = .ok (.if_icmp .gt 22, 3) := by decide +kernel
theorem dX9_advances_255 : decode cX9_advances 255 = .ok (.iload_n 1, 1) := by decide +kernel
theorem dX9_advances_256 : decode cX9_advances 256 = .ok (.bipush 48, 2) := by decide +kernel
theorem dX9_advances_258 : decode cX9_advances 258 = .ok (.if_icmp .ne 20, 3) := by decide +kernel
theorem dX9_advances_261 : decode cX9_advances 261 = .ok (.aload_n 0, 1) := by decide +kernel
theorem dX9_advances_262 : decode cX9_advances 262 = .ok (.getfield 64, 3) := by decide +kernel
theorem dX9_advances_265 : decode cX9_advances 265 = .ok (.aload_n 0, 1) := by decide +kernel
theorem dX9_advances_266 : decode cX9_advances 266 = .ok (.getfield 71, 3) := by decide +kernel
theorem dX9_advances_269 : decode cX9_advances 269 = .ok (.isub, 1) := by decide +kernel
theorem dX9_advances_270 : decode cX9_advances 270 = .ok (.iconst 1, 1) := by decide +kernel
theorem dX9_advances_271 : decode cX9_advances 271 = .ok (.if_icmp .le 7, 3) := by decide +kernel
theorem dX9_advances_274 : decode cX9_advances 274 = .ok (.iconst 4, 1) := by decide +kernel
theorem dX9_advances_275 : decode cX9_advances 275 = .ok (.goto 4, 3) := by decide +kernel
theorem dX9_advances_278 : decode cX9_advances 278 = .ok (.iconst 2, 1) := by decide +kernel
theorem dX9_advances_279 : decode cX9_advances 279 = .ok (.putfield 74, 3) := by decide +kernel
theorem dX9_advances_282 : decode cX9_advances 282 = .ok (.goto 28, 3) := by decide +kernel
theorem dX9_advances_285 : decode cX9_advances 285 = .ok (.aload_n 0, 1) := by decide +kernel
theorem dX9_advances_286 : decode cX9_advances 286 = .ok (.dup, 1) := by decide +kernel
theorem dX9_advances_287 : decode cX9_advances 287 = .ok (.getfield 64, 3) := by decide +kernel
theorem dX9_advances_290 : decode cX9_advances 290 = .ok (.iconst 1, 1) := by decide +kernel
theorem dX9_advances_291 : decode cX9_advances 291 = .ok (.iadd, 1) := by decide +kernel
theorem dX9_advances_292 : decode cX9_advances 292 = .ok (.putfield 64, 3) := by decide +kernel
theorem dX9_advances_295 : decode cX9_advances 295 = .ok (.aload_n 0, 1) := by decide +kernel
theorem dX9_advances_296 : decode cX9_advances 296 = .ok (.iload_n 1, 1) := by decide +kernel
theorem dX9_advances_297 : decode cX9_advances 297 = .ok (.bipush 59, 2) := by decide +kernel
theorem dX9_advances_299 : decode cX9_advances 299 = .ok (.if_icmp .ne 7, 3) := by decide +kernel
theorem dX9_advances_302 : decode cX9_advances 302 = .ok (.iconst 3, 1) := by decide +kernel
theorem dX9_advances_303 : decode cX9_advances 303 = .ok (.goto 4, 3) := by decide +kernel
theorem dX9_advances_306 : decode cX9_advances 306 = .ok (.iconst 4, 1) := by decide +kernel
theorem dX9_advances_307 : decode cX9_advances 307 = .ok (.putfield 74, 3) := by decide +kernel
theorem dX9_advances_310 : decode cX9_advances 310 = .ok (.return_, 1) := by decide +kernel
theorem dX9_isWell_0 : decode cX9_isWell 0 = .ok (.aload_n 0, 1) := by decide +kernel
theorem dX9_isWell_1 : decode cX9_isWell 1 = .ok (.getfield 84, 3) := by decide +kernel
theorem dX9_isWell_4 : decode cX9_isWell 4 = .ok (.ifCond .ge 7, 3) := by decide +kernel
theorem dX9_isWell_7 : decode cX9_isWell 7 = .ok (.iconst 1, 1) := by decide +kernel
theorem dX9_isWell_8 : decode cX9_isWell 8 = .ok (.goto 4, 3) := by decide +kernel
theorem dX9_isWell_11 : decode cX9_isWell 11 = .ok (.iconst 0, 1) := by decide +kernel
theorem dX9_isWell_12 : decode cX9_isWell 12 = .ok (.ireturn, 1) := by decide +kernel
set_option maxRecDepth 20000 in
theorem ggX9_takes_X9_isWell : GoodIn wsX9_takes wsX9_isWell := goodIn_r _ [8, 2, 34, 35, 36, 37, 38, 39, 40, 41, 42, 43, 44, 45, 46, 47, 48, 49, 50, 51, 52, 53, 54, 55, 56, 57, 58, 59] (by decide +kernel) (by decide +kernel)
set_option maxRecDepth 20000 in
theorem gX9_takes_X9_isWell : GoodIn wsX9_takes (wsV RX9 87 RX9 yX9_isWell wsX9_isWell) := goodIn_app (goodIn_of _ (by decide +kernel)) ggX9_takes_X9_isWell
set_option maxRecDepth 20000 in
theorem ggX9_takes_X9_advances : GoodIn wsX9_takes wsX9_advances := goodIn_r _ [12, 13, 1, 14, 3, 15, 16, 17, 7, 18, 19, 20, 21, 22, 23, 24, 25, 26, 27, 28, 29, 30, 31, 32, 33, 34, 35, 36, 37, 38, 39, 40, 41, 42, 43, 44, 45, 46, 47, 48, 49, 50, 51, 52, 53, 54, 55, 56, 57, 58, 59] (by decide +kernel) (by decide +kernel)
set_option maxRecDepth 20000 in
theorem gX9_takes_X9_advances : GoodIn wsX9_takes (wsV RX9 91 RX9 yX9_advances wsX9_advances) := goodIn_app (goodIn_of _ (by decide +kernel)) ggX9_takes_X9_advances
theorem dX9_takes_0 : decode cX9_takes 0 = .ok (.aload_n 0, 1) := by decide +kernel
theorem dX9_takes_1 : decode cX9_takes 1 = .ok (.invokevirtual 87, 3) := by decide +kernel
theorem dX9_takes_4 : decode cX9_takes 4 = .ok (.ifCond .ne 5, 3) := by decide +kernel
theorem dX9_takes_7 : decode cX9_takes 7 = .ok (.iconst 0, 1) := by decide +kernel
theorem dX9_takes_8 : decode cX9_takes 8 = .ok (.ireturn, 1) := by decide +kernel
theorem dX9_takes_9 : decode cX9_takes 9 = .ok (.iload_n 1, 1) := by decide +kernel
theorem dX9_takes_10 : decode cX9_takes 10 = .ok (.ifCond .ne 13, 3) := by decide +kernel
theorem dX9_takes_13 : decode cX9_takes 13 = .ok (.aload_n 0, 1) := by decide +kernel
theorem dX9_takes_14 : decode cX9_takes 14 = .ok (.aload_n 0, 1) := by decide +kernel
theorem dX9_takes_15 : decode cX9_takes 15 = .ok (.getfield 71, 3) := by decide +kernel
theorem dX9_takes_18 : decode cX9_takes 18 = .ok (.putfield 84, 3) := by decide +kernel
theorem dX9_takes_21 : decode cX9_takes 21 = .ok (.iconst 0, 1) := by decide +kernel
theorem dX9_takes_22 : decode cX9_takes 22 = .ok (.ireturn, 1) := by decide +kernel
theorem dX9_takes_23 : decode cX9_takes 23 = .ok (.aload_n 0, 1) := by decide +kernel
theorem dX9_takes_24 : decode cX9_takes 24 = .ok (.getfield 81, 3) := by decide +kernel
theorem dX9_takes_27 : decode cX9_takes 27 = .ok (.istore_n 2, 1) := by decide +kernel
theorem dX9_takes_28 : decode cX9_takes 28 = .ok (.aload_n 0, 1) := by decide +kernel
theorem dX9_takes_29 : decode cX9_takes 29 = .ok (.invokevirtual 91, 3) := by decide +kernel
theorem dX9_takes_32 : decode cX9_takes 32 = .ok (.iload_n 2, 1) := by decide +kernel
theorem dX9_takes_33 : decode cX9_takes 33 = .ok (.ireturn, 1) := by decide +kernel
set_option maxRecDepth 20000 in
theorem ggX9_number_X9_in : GoodIn wsX9_number wsX9_in := goodIn_r _ [6] (by decide +kernel) (by decide +kernel)
set_option maxRecDepth 20000 in
theorem gX9_number_X9_in : GoodIn wsX9_number (va_wsS RX9 45 yX9_in wsX9_in) := goodIn_app (goodIn_of _ (by decide +kernel)) ggX9_number_X9_in
set_option maxRecDepth 20000 in
theorem ggX9_number_X9_takes : GoodIn wsX9_number wsX9_takes := goodIn_r _ [10, 11, 12, 2, 13, 14, 15, 5, 16, 17, 18, 19, 20, 21, 1, 22, 23, 24, 25, 26, 27, 3, 4, 6, 28, 29, 30, 31, 32, 33, 34, 35, 36, 37, 38, 39, 40, 41, 42, 43, 44, 45, 46, 47, 48, 49, 50, 51, 52, 53, 54, 55, 56, 57, 58, 59, 60, 61, 62, 63] (by decide +kernel) (by decide +kernel)
set_option maxRecDepth 20000 in
theorem gX9_number_X9_takes : GoodIn wsX9_number (wsV RX9 94 RX9 yX9_takes wsX9_takes) := goodIn_app (goodIn_of _ (by decide +kernel)) ggX9_number_X9_takes
theorem dX9_number_0 : decode cX9_number 0 = .ok (.aload_n 0, 1) := by decide +kernel
theorem dX9_number_1 : decode cX9_number 1 = .ok (.aload_n 0, 1) := by decide +kernel
theorem dX9_number_2 : decode cX9_number 2 = .ok (.getfield 74, 3) := by decide +kernel
theorem dX9_number_5 : decode cX9_number 5 = .ok (.iconst 2, 1) := by decide +kernel
theorem dX9_number_6 : decode cX9_number 6 = .ok (.if_icmp .ne 19, 3) := by decide +kernel
theorem dX9_number_9 : decode cX9_number 9 = .ok (.aload_n 0, 1) := by decide +kernel
theorem dX9_number_10 : decode cX9_number 10 = .ok (.getfield 81, 3) := by decide +kernel
theorem dX9_number_13 : decode cX9_number 13 = .ok (.iload_n 1, 1) := by decide +kernel
theorem dX9_number_14 : decode cX9_number 14 = .ok (.iload_n 2, 1) := by decide +kernel
theorem dX9_number_15 : decode cX9_number 15 = .ok (.invokestatic 45, 3) := by decide +kernel
theorem dX9_number_18 : decode cX9_number 18 = .ok (.ifCond .eq 7, 3) := by decide +kernel
theorem dX9_number_21 : decode cX9_number 21 = .ok (.iconst 1, 1) := by decide +kernel
theorem dX9_number_22 : decode cX9_number 22 = .ok (.goto 4, 3) := by decide +kernel
theorem dX9_number_25 : decode cX9_number 25 = .ok (.iconst 0, 1) := by decide +kernel
theorem dX9_number_26 : decode cX9_number 26 = .ok (.invokevirtual 94, 3) := by decide +kernel
theorem dX9_number_29 : decode cX9_number 29 = .ok (.ireturn, 1) := by decide +kernel
set_option maxRecDepth 20000 in
theorem ggX9_readsItem_X9_number : GoodIn wsX9_readsItem wsX9_number := goodIn_r _ [12, 13, 14, 15, 16, 11, 17, 18, 19, 20, 21, 22, 23, 24, 25, 26, 27, 28, 29, 30, 31, 32, 33, 34, 35, 36, 37, 38, 39, 40, 41, 42, 43, 44, 45, 46, 47, 48, 49, 50, 51, 52, 53, 54, 55, 56, 57, 58, 59, 60, 61, 62, 63, 64, 65, 66, 67, 68, 69, 70, 71, 72, 73, 74] (by decide +kernel) (by decide +kernel)
set_option maxRecDepth 20000 in
theorem gX9_readsItem_X9_number : GoodIn wsX9_readsItem (wsV RX9 98 RX9 yX9_number wsX9_number) := goodIn_app (goodIn_of _ (by decide +kernel)) ggX9_readsItem_X9_number
set_option maxRecDepth 20000 in
theorem ggX9_readsItem_X9_isWell : GoodIn wsX9_readsItem wsX9_isWell := goodIn_r _ [27, 23, 49, 50, 51, 52, 53, 54, 55, 56, 57, 58, 59, 60, 61, 62, 63, 64, 65, 66, 67, 68, 69, 70, 71, 72, 73, 74] (by decide +kernel) (by decide +kernel)
set_option maxRecDepth 20000 in
theorem gX9_readsItem_X9_isWell : GoodIn wsX9_readsItem (wsV RX9 87 RX9 yX9_isWell wsX9_isWell) := goodIn_app (goodIn_of _ (by decide +kernel)) ggX9_readsItem_X9_isWell
theorem dX9_readsItem_0 : decode cX9_readsItem 0 = .ok (.iload_n 1, 1) := by decide +kernel
theorem dX9_readsItem_1 : decode cX9_readsItem 1 = .ok (.ifCond .ne 33, 3) := by decide +kernel
theorem dX9_readsItem_4 : decode cX9_readsItem 4 = .ok (.aload_n 0, 1) := by decide +kernel
theorem dX9_readsItem_5 : decode cX9_readsItem 5 = .ok (.iconst 2, 1) := by decide +kernel
theorem dX9_readsItem_6 : decode cX9_readsItem 6 = .ok (.bipush 8, 2) := by decide +kernel
theorem dX9_readsItem_8 : decode cX9_readsItem 8 = .ok (.invokevirtual 98, 3) := by decide +kernel
theorem dX9_readsItem_11 : decode cX9_readsItem 11 = .ok (.istore_n 2, 1) := by decide +kernel
theorem dX9_readsItem_12 : decode cX9_readsItem 12 = .ok (.aload_n 0, 1) := by decide +kernel
theorem dX9_readsItem_13 : decode cX9_readsItem 13 = .ok (.aload_n 0, 1) := by decide +kernel
theorem dX9_readsItem_14 : decode cX9_readsItem 14 = .ok (.invokevirtual 87, 3) := by decide +kernel
theorem dX9_readsItem_17 : decode cX9_readsItem 17 = .ok (.ifCond .eq 7, 3) := by decide +kernel
theorem dX9_readsItem_20 : decode cX9_readsItem 20 = .ok (.iload_n 2, 1) := by decide +kernel
theorem dX9_readsItem_21 : decode cX9_readsItem 21 = .ok (.goto 7, 3) := by decide +kernel
theorem dX9_readsItem_24 : decode cX9_readsItem 24 = .ok (.aload_n 0, 1) := by decide +kernel
theorem dX9_readsItem_25 : decode cX9_readsItem 25 = .ok (.getfield 102, 3) := by decide +kernel
theorem dX9_readsItem_28 : decode cX9_readsItem 28 = .ok (.putfield 102, 3) := by decide +kernel
theorem dX9_readsItem_31 : decode cX9_readsItem 31 = .ok (.goto 216, 3) := by decide +kernel
theorem dX9_readsItem_34 : decode cX9_readsItem 34 = .ok (.iload_n 1, 1) := by decide +kernel
theorem dX9_readsItem_35 : decode cX9_readsItem 35 = .ok (.iconst 1, 1) := by decide +kernel
theorem dX9_readsItem_36 : decode cX9_readsItem 36 = .ok (.if_icmp .ne 73, 3) := by decide +kernel
theorem dX9_readsItem_39 : decode cX9_readsItem 39 = .ok (.bipush 24, 2) := by decide +kernel
theorem dX9_readsItem_41 : decode cX9_readsItem 41 = .ok (.iconst 3, 1) := by decide +kernel
theorem dX9_readsItem_42 : decode cX9_readsItem 42 = .ok (.aload_n 0, 1) := by decide +kernel
theorem dX9_readsItem_43 : decode cX9_readsItem 43 = .ok (.getfield 105, 3) := by decide +kernel
theorem dX9_readsItem_46 : decode cX9_readsItem 46 = .ok (.imul, 1) := by decide +kernel
theorem dX9_readsItem_47 : decode cX9_readsItem 47 = .ok (.iadd, 1) := by decide +kernel
theorem dX9_readsItem_48 : decode cX9_readsItem 48 = .ok (.istore_n 2, 1) := by decide +kernel
theorem dX9_readsItem_49 : decode cX9_readsItem 49 = .ok (.aload_n 0, 1) := by decide +kernel
theorem dX9_readsItem_50 : decode cX9_readsItem 50 = .ok (.getfield 13, 3) := by decide +kernel
theorem dX9_readsItem_53 : decode cX9_readsItem 53 = .ok (.iload_n 2, 1) := by decide +kernel
theorem dX9_readsItem_54 : decode cX9_readsItem 54 = .ok (.aload_n 0, 1) := by decide +kernel
theorem dX9_readsItem_55 : decode cX9_readsItem 55 = .ok (.iconst 0, 1) := by decide +kernel
theorem dX9_readsItem_56 : decode cX9_readsItem 56 = .ok (.aload_n 0, 1) := by decide +kernel
theorem dX9_readsItem_57 : decode cX9_readsItem 57 = .ok (.getfield 102, 3) := by decide +kernel
theorem dX9_readsItem_60 : decode cX9_readsItem 60 = .ok (.iconst 1, 1) := by decide +kernel
theorem dX9_readsItem_61 : decode cX9_readsItem 61 = .ok (.isub, 1) := by decide +kernel
theorem dX9_readsItem_62 : decode cX9_readsItem 62 = .ok (.invokevirtual 98, 3) := by decide +kernel
theorem dX9_readsItem_65 : decode cX9_readsItem 65 = .ok (.iastore, 1) := by decide +kernel
theorem dX9_readsItem_66 : decode cX9_readsItem 66 = .ok (.aload_n 0, 1) := by decide +kernel
theorem dX9_readsItem_67 : decode cX9_readsItem 67 = .ok (.getfield 13, 3) := by decide +kernel
theorem dX9_readsItem_70 : decode cX9_readsItem 70 = .ok (.iload_n 2, 1) := by decide +kernel
theorem dX9_readsItem_71 : decode cX9_readsItem 71 = .ok (.iconst 1, 1) := by decide +kernel
theorem dX9_readsItem_72 : decode cX9_readsItem 72 = .ok (.iadd, 1) := by decide +kernel
theorem dX9_readsItem_73 : decode cX9_readsItem 73 = .ok (.aload_n 0, 1) := by decide +kernel
theorem dX9_readsItem_74 : decode cX9_readsItem 74 = .ok (.iconst 0, 1) := by decide +kernel
theorem dX9_readsItem_75 : decode cX9_readsItem 75 = .ok (.bipush 9, 2) := by decide +kernel
theorem dX9_readsItem_77 : decode cX9_readsItem 77 = .ok (.invokevirtual 98, 3) := by decide +kernel
theorem dX9_readsItem_80 : decode cX9_readsItem 80 = .ok (.iastore, 1) := by decide +kernel
theorem dX9_readsItem_81 : decode cX9_readsItem 81 = .ok (.aload_n 0, 1) := by decide +kernel
theorem dX9_readsItem_82 : decode cX9_readsItem 82 = .ok (.getfield 13, 3) := by decide +kernel
theorem dX9_readsItem_85 : decode cX9_readsItem 85 = .ok (.iload_n 2, 1) := by decide +kernel
theorem dX9_readsItem_86 : decode cX9_readsItem 86 = .ok (.iconst 2, 1) := by decide +kernel
theorem dX9_readsItem_87 : decode cX9_readsItem 87 = .ok (.iadd, 1) := by decide +kernel
theorem dX9_readsItem_88 : decode cX9_readsItem 88 = .ok (.aload_n 0, 1) := by decide +kernel
theorem dX9_readsItem_89 : decode cX9_readsItem 89 = .ok (.iconst 1, 1) := by decide +kernel
theorem dX9_readsItem_90 : decode cX9_readsItem 90 = .ok (.bipush 9, 2) := by decide +kernel
theorem dX9_readsItem_92 : decode cX9_readsItem 92 = .ok (.invokevirtual 98, 3) := by decide +kernel
theorem dX9_readsItem_95 : decode cX9_readsItem 95 = .ok (.iastore, 1) := by decide +kernel
theorem dX9_readsItem_96 : decode cX9_readsItem 96 = .ok (.aload_n 0, 1) := by decide +kernel
theorem dX9_readsItem_97 : decode cX9_readsItem 97 = .ok (.dup, 1) := by decide +kernel
theorem dX9_readsItem_98 : decode cX9_readsItem 98 = .ok (.getfield 105, 3) := by decide +kernel
theorem dX9_readsItem_101 : decode cX9_readsItem 101 = .ok (.iconst 1, 1) := by decide +kernel
theorem dX9_readsItem_102 : decode cX9_readsItem 102 = .ok (.iadd, 1) := by decide +kernel
theorem dX9_readsItem_103 : decode cX9_readsItem 103 = .ok (.putfield 105, 3) := by decide +kernel
theorem dX9_readsItem_106 : decode cX9_readsItem 106 = .ok (.goto 141, 3) := by decide +kernel
theorem dX9_readsItem_109 : decode cX9_readsItem 109 = .ok (.iload_n 1, 1) := by decide +kernel
theorem dX9_readsItem_110 : decode cX9_readsItem 110 = .ok (.iconst 2, 1) := by decide +kernel
theorem dX9_readsItem_111 : decode cX9_readsItem 111 = .ok (.if_icmp .ne 34, 3) := by decide +kernel
theorem dX9_readsItem_114 : decode cX9_readsItem 114 = .ok (.aload_n 0, 1) := by decide +kernel
theorem dX9_readsItem_115 : decode cX9_readsItem 115 = .ok (.getfield 16, 3) := by decide +kernel
theorem dX9_readsItem_118 : decode cX9_readsItem 118 = .ok (.iconst 4, 1) := by decide +kernel
theorem dX9_readsItem_119 : decode cX9_readsItem 119 = .ok (.aload_n 0, 1) := by decide +kernel
theorem dX9_readsItem_120 : decode cX9_readsItem 120 = .ok (.getfield 108, 3) := by decide +kernel
theorem dX9_readsItem_123 : decode cX9_readsItem 123 = .ok (.iadd, 1) := by decide +kernel
theorem dX9_readsItem_124 : decode cX9_readsItem 124 = .ok (.aload_n 0, 1) := by decide +kernel
theorem dX9_readsItem_125 : decode cX9_readsItem 125 = .ok (.iconst 0, 1) := by decide +kernel
theorem dX9_readsItem_126 : decode cX9_readsItem 126 = .ok (.bipush 99, 2) := by decide +kernel
theorem dX9_readsItem_128 : decode cX9_readsItem 128 = .ok (.invokevirtual 98, 3) := by decide +kernel
theorem dX9_readsItem_131 : decode cX9_readsItem 131 = .ok (.iastore, 1) := by decide +kernel
theorem dX9_readsItem_132 : decode cX9_readsItem 132 = .ok (.aload_n 0, 1) := by decide +kernel
theorem dX9_readsItem_133 : decode cX9_readsItem 133 = .ok (.dup, 1) := by decide +kernel
theorem dX9_readsItem_134 : decode cX9_readsItem 134 = .ok (.getfield 108, 3) := by decide +kernel
theorem dX9_readsItem_137 : decode cX9_readsItem 137 = .ok (.iconst 1, 1) := by decide +kernel
theorem dX9_readsItem_138 : decode cX9_readsItem 138 = .ok (.iadd, 1) := by decide +kernel
theorem dX9_readsItem_139 : decode cX9_readsItem 139 = .ok (.putfield 108, 3) := by decide +kernel
theorem dX9_readsItem_142 : decode cX9_readsItem 142 = .ok (.goto 105, 3) := by decide +kernel
theorem dX9_readsItem_145 : decode cX9_readsItem 145 = .ok (.iconst 5, 1) := by decide +kernel
theorem dX9_readsItem_146 : decode cX9_readsItem 146 = .ok (.aload_n 0, 1) := by decide +kernel
theorem dX9_readsItem_147 : decode cX9_readsItem 147 = .ok (.getfield 111, 3) := by decide +kernel
theorem dX9_readsItem_150 : decode cX9_readsItem 150 = .ok (.imul, 1) := by decide +kernel
theorem dX9_readsItem_151 : decode cX9_readsItem 151 = .ok (.istore_n 2, 1) := by decide +kernel
theorem dX9_readsItem_152 : decode cX9_readsItem 152 = .ok (.aload_n 0, 1) := by decide +kernel
theorem dX9_readsItem_153 : decode cX9_readsItem 153 = .ok (.getfield 19, 3) := by decide +kernel
theorem dX9_readsItem_156 : decode cX9_readsItem 156 = .ok (.iload_n 2, 1) := by decide +kernel
theorem dX9_readsItem_157 : decode cX9_readsItem 157 = .ok (.aload_n 0, 1) := by decide +kernel
theorem dX9_readsItem_158 : decode cX9_readsItem 158 = .ok (.iconst 0, 1) := by decide +kernel
theorem dX9_readsItem_159 : decode cX9_readsItem 159 = .ok (.aload_n 0, 1) := by decide +kernel
theorem dX9_readsItem_160 : decode cX9_readsItem 160 = .ok (.getfield 108, 3) := by decide +kernel
theorem dX9_readsItem_163 : decode cX9_readsItem 163 = .ok (.iconst 1, 1) := by decide +kernel
theorem dX9_readsItem_164 : decode cX9_readsItem 164 = .ok (.isub, 1) := by decide +kernel
theorem dX9_readsItem_165 : decode cX9_readsItem 165 = .ok (.invokevirtual 98, 3) := by decide +kernel
theorem dX9_readsItem_168 : decode cX9_readsItem 168 = .ok (.iastore, 1) := by decide +kernel
theorem dX9_readsItem_169 : decode cX9_readsItem 169 = .ok (.aload_n 0, 1) := by decide +kernel
theorem dX9_readsItem_170 : decode cX9_readsItem 170 = .ok (.getfield 19, 3) := by decide +kernel
theorem dX9_readsItem_173 : decode cX9_readsItem 173 = .ok (.iload_n 2, 1) := by decide +kernel
theorem dX9_readsItem_174 : decode cX9_readsItem 174 = .ok (.iconst 1, 1) := by decide +kernel
theorem dX9_readsItem_175 : decode cX9_readsItem 175 = .ok (.iadd, 1) := by decide +kernel
theorem dX9_readsItem_176 : decode cX9_readsItem 176 = .ok (.aload_n 0, 1) := by decide +kernel
theorem dX9_readsItem_177 : decode cX9_readsItem 177 = .ok (.iconst 0, 1) := by decide +kernel
theorem dX9_readsItem_178 : decode cX9_readsItem 178 = .ok (.aload_n 0, 1) := by decide +kernel
theorem dX9_readsItem_179 : decode cX9_readsItem 179 = .ok (.getfield 102, 3) := by decide +kernel
theorem dX9_readsItem_182 : decode cX9_readsItem 182 = .ok (.iconst 1, 1) := by decide +kernel
theorem dX9_readsItem_183 : decode cX9_readsItem 183 = .ok (.isub, 1) := by decide +kernel
theorem dX9_readsItem_184 : decode cX9_readsItem 184 = .ok (.invokevirtual 98, 3) := by decide +kernel
theorem dX9_readsItem_187 : decode cX9_readsItem 187 = .ok (.iastore, 1) := by decide +kernel
theorem dX9_readsItem_188 : decode cX9_readsItem 188 = .ok (.aload_n 0, 1) := by decide +kernel
theorem dX9_readsItem_189 : decode cX9_readsItem 189 = .ok (.getfield 19, 3) := by decide +kernel
theorem dX9_readsItem_192 : decode cX9_readsItem 192 = .ok (.iload_n 2, 1) := by decide +kernel
theorem dX9_readsItem_193 : decode cX9_readsItem 193 = .ok (.iconst 2, 1) := by decide +kernel
theorem dX9_readsItem_194 : decode cX9_readsItem 194 = .ok (.iadd, 1) := by decide +kernel
theorem dX9_readsItem_195 : decode cX9_readsItem 195 = .ok (.aload_n 0, 1) := by decide +kernel
theorem dX9_readsItem_196 : decode cX9_readsItem 196 = .ok (.iconst 1, 1) := by decide +kernel
theorem dX9_readsItem_197 : decode cX9_readsItem 197 = .ok (.aload_n 0, 1) := by decide +kernel
theorem dX9_readsItem_198 : decode cX9_readsItem 198 = .ok (.getfield 102, 3) := by decide +kernel
theorem dX9_readsItem_201 : decode cX9_readsItem 201 = .ok (.invokevirtual 98, 3) := by decide +kernel
theorem dX9_readsItem_204 : decode cX9_readsItem 204 = .ok (.iastore, 1) := by decide +kernel
theorem dX9_readsItem_205 : decode cX9_readsItem 205 = .ok (.aload_n 0, 1) := by decide +kernel
theorem dX9_readsItem_206 : decode cX9_readsItem 206 = .ok (.iconst 0, 1) := by decide +kernel
theorem dX9_readsItem_207 : decode cX9_readsItem 207 = .ok (.bipush 99, 2) := by decide +kernel
theorem dX9_readsItem_209 : decode cX9_readsItem 209 = .ok (.invokevirtual 98, 3) := by decide +kernel
theorem dX9_readsItem_212 : decode cX9_readsItem 212 = .ok (.istore_n 3, 1) := by decide +kernel
theorem dX9_readsItem_213 : decode cX9_readsItem 213 = .ok (.aload_n 0, 1) := by decide +kernel
theorem dX9_readsItem_214 : decode cX9_readsItem 214 = .ok (.getfield 19, 3) := by decide +kernel
theorem dX9_readsItem_217 : decode cX9_readsItem 217 = .ok (.iload_n 2, 1) := by decide +kernel
theorem dX9_readsItem_218 : decode cX9_readsItem 218 = .ok (.iconst 3, 1) := by decide +kernel
theorem dX9_readsItem_219 : decode cX9_readsItem 219 = .ok (.iadd, 1) := by decide +kernel
theorem dX9_readsItem_220 : decode cX9_readsItem 220 = .ok (.iload_n 3, 1) := by decide +kernel
theorem dX9_readsItem_221 : decode cX9_readsItem 221 = .ok (.iastore, 1) := by decide +kernel
theorem dX9_readsItem_222 : decode cX9_readsItem 222 = .ok (.aload_n 0, 1) := by decide +kernel
theorem dX9_readsItem_223 : decode cX9_readsItem 223 = .ok (.getfield 19, 3) := by decide +kernel
theorem dX9_readsItem_226 : decode cX9_readsItem 226 = .ok (.iload_n 2, 1) := by decide +kernel
theorem dX9_readsItem_227 : decode cX9_readsItem 227 = .ok (.iconst 4, 1) := by decide +kernel
theorem dX9_readsItem_228 : decode cX9_readsItem 228 = .ok (.iadd, 1) := by decide +kernel
theorem dX9_readsItem_229 : decode cX9_readsItem 229 = .ok (.aload_n 0, 1) := by decide +kernel
theorem dX9_readsItem_230 : decode cX9_readsItem 230 = .ok (.iload_n 3, 1) := by decide +kernel
theorem dX9_readsItem_231 : decode cX9_readsItem 231 = .ok (.bipush 99, 2) := by decide +kernel
theorem dX9_readsItem_233 : decode cX9_readsItem 233 = .ok (.invokevirtual 98, 3) := by decide +kernel
theorem dX9_readsItem_236 : decode cX9_readsItem 236 = .ok (.iastore, 1) := by decide +kernel
theorem dX9_readsItem_237 : decode cX9_readsItem 237 = .ok (.aload_n 0, 1) := by decide +kernel
theorem dX9_readsItem_238 : decode cX9_readsItem 238 = .ok (.dup, 1) := by decide +kernel
theorem dX9_readsItem_239 : decode cX9_readsItem 239 = .ok (.getfield 111, 3) := by decide +kernel
theorem dX9_readsItem_242 : decode cX9_readsItem 242 = .ok (.iconst 1, 1) := by decide +kernel
theorem dX9_readsItem_243 : decode cX9_readsItem 243 = .ok (.iadd, 1) := by decide +kernel
theorem dX9_readsItem_244 : decode cX9_readsItem 244 = .ok (.putfield 111, 3) := by decide +kernel
theorem dX9_readsItem_247 : decode cX9_readsItem 247 = .ok (.return_, 1) := by decide +kernel
set_option maxRecDepth 20000 in
theorem ggX9_sky_X9_advances : GoodIn wsX9_sky wsX9_advances := goodIn_r _ [25, 3, 26, 8, 9, 27, 28, 29, 24, 30, 19, 31, 32, 33, 34, 35, 36, 37, 38, 39, 40, 41, 42, 43, 44, 61, 62, 63, 64, 65, 66, 67, 68, 69, 70, 71, 72, 73, 74, 75, 76, 77, 78, 79, 80, 81, 82, 83, 84, 85, 86] (by decide +kernel) (by decide +kernel)
set_option maxRecDepth 20000 in
theorem gX9_sky_X9_advances : GoodIn wsX9_sky (wsV RX9 91 RX9 yX9_advances wsX9_advances) := goodIn_app (goodIn_of _ (by decide +kernel)) ggX9_sky_X9_advances
set_option maxRecDepth 20000 in
theorem ggX9_sky_X9_isWell : GoodIn wsX9_sky wsX9_isWell := goodIn_r _ [48, 2, 61, 62, 63, 64, 65, 66, 67, 68, 69, 70, 71, 72, 73, 74, 75, 76, 77, 78, 79, 80, 81, 82, 83, 84, 85, 86] (by decide +kernel) (by decide +kernel)
set_option maxRecDepth 20000 in
theorem gX9_sky_X9_isWell : GoodIn wsX9_sky (wsV RX9 87 RX9 yX9_isWell wsX9_isWell) := goodIn_app (goodIn_of _ (by decide +kernel)) ggX9_sky_X9_isWell
set_option maxRecDepth 20000 in
theorem ggX9_sky_X9_takes : GoodIn wsX9_sky wsX9_takes := goodIn_r _ [52, 26, 2, 9, 45, 46, 47, 24, 48, 21, 22, 23, 25, 3, 8, 27, 28, 29, 30, 19, 31, 32, 33, 34, 35, 36, 37, 38, 39, 40, 41, 42, 43, 44, 61, 62, 63, 64, 65, 66, 67, 68, 69, 70, 71, 72, 73, 74, 75, 76, 77, 78, 79, 80, 81, 82, 83, 84, 85, 86] (by decide +kernel) (by decide +kernel)
set_option maxRecDepth 20000 in
theorem gX9_sky_X9_takes : GoodIn wsX9_sky (wsV RX9 94 RX9 yX9_takes wsX9_takes) := goodIn_app (goodIn_of _ (by decide +kernel)) ggX9_sky_X9_takes
set_option maxRecDepth 20000 in
theorem ggX9_sky_X9_readsItem : GoodIn wsX9_sky wsX9_readsItem := goodIn_r _ [56, 4, 5, 13, 15, 6, 7, 16, 57, 58, 59, 24, 60, 8, 9, 32, 33, 34, 49, 50, 51, 52, 26, 2, 45, 46, 47, 48, 21, 22, 23, 25, 3, 27, 28, 29, 30, 19, 31, 35, 36, 37, 38, 39, 40, 41, 42, 43, 44, 61, 62, 63, 64, 65, 66, 67, 68, 69, 70, 71, 72, 73, 74, 75, 76, 77, 78, 79, 80, 81, 82, 83, 84, 85, 86] (by decide +kernel) (by decide +kernel)
set_option maxRecDepth 20000 in
theorem gX9_sky_X9_readsItem : GoodIn wsX9_sky (wsV RX9 114 RX9 yX9_readsItem wsX9_readsItem) := goodIn_app (goodIn_of _ (by decide +kernel)) ggX9_sky_X9_readsItem
theorem dX9_sky_0 : decode cX9_sky 0 = .ok (.aload_n 0, 1) := by decide +kernel
theorem dX9_sky_1 : decode cX9_sky 1 = .ok (.iconst 0, 1) := by decide +kernel
theorem dX9_sky_2 : decode cX9_sky 2 = .ok (.putfield 42, 3) := by decide +kernel
theorem dX9_sky_5 : decode cX9_sky 5 = .ok (.aload_n 0, 1) := by decide +kernel
theorem dX9_sky_6 : decode cX9_sky 6 = .ok (.iconst (-1), 1) := by decide +kernel
theorem dX9_sky_7 : decode cX9_sky 7 = .ok (.putfield 84, 3) := by decide +kernel
theorem dX9_sky_10 : decode cX9_sky 10 = .ok (.aload_n 0, 1) := by decide +kernel
theorem dX9_sky_11 : decode cX9_sky 11 = .ok (.iconst 0, 1) := by decide +kernel
theorem dX9_sky_12 : decode cX9_sky 12 = .ok (.putfield 64, 3) := by decide +kernel
theorem dX9_sky_15 : decode cX9_sky 15 = .ok (.iconst 0, 1) := by decide +kernel
theorem dX9_sky_16 : decode cX9_sky 16 = .ok (.istore_n 1, 1) := by decide +kernel
theorem dX9_sky_17 : decode cX9_sky 17 = .ok (.aload_n 0, 1) := by decide +kernel
theorem dX9_sky_18 : decode cX9_sky 18 = .ok (.iconst 4, 1) := by decide +kernel
theorem dX9_sky_19 : decode cX9_sky 19 = .ok (.putfield 102, 3) := by decide +kernel
theorem dX9_sky_22 : decode cX9_sky 22 = .ok (.aload_n 0, 1) := by decide +kernel
theorem dX9_sky_23 : decode cX9_sky 23 = .ok (.iconst 0, 1) := by decide +kernel
theorem dX9_sky_24 : decode cX9_sky 24 = .ok (.putfield 105, 3) := by decide +kernel
theorem dX9_sky_27 : decode cX9_sky 27 = .ok (.aload_n 0, 1) := by decide +kernel
theorem dX9_sky_28 : decode cX9_sky 28 = .ok (.iconst 0, 1) := by decide +kernel
theorem dX9_sky_29 : decode cX9_sky 29 = .ok (.putfield 108, 3) := by decide +kernel
theorem dX9_sky_32 : decode cX9_sky 32 = .ok (.aload_n 0, 1) := by decide +kernel
theorem dX9_sky_33 : decode cX9_sky 33 = .ok (.iconst 0, 1) := by decide +kernel
theorem dX9_sky_34 : decode cX9_sky 34 = .ok (.putfield 111, 3) := by decide +kernel
theorem dX9_sky_37 : decode cX9_sky 37 = .ok (.aload_n 0, 1) := by decide +kernel
theorem dX9_sky_38 : decode cX9_sky 38 = .ok (.invokevirtual 91, 3) := by decide +kernel
theorem dX9_sky_41 : decode cX9_sky 41 = .ok (.aload_n 0, 1) := by decide +kernel
theorem dX9_sky_42 : decode cX9_sky 42 = .ok (.invokevirtual 87, 3) := by decide +kernel
theorem dX9_sky_45 : decode cX9_sky 45 = .ok (.ifCond .eq 151, 3) := by decide +kernel
theorem dX9_sky_48 : decode cX9_sky 48 = .ok (.aload_n 0, 1) := by decide +kernel
theorem dX9_sky_49 : decode cX9_sky 49 = .ok (.getfield 74, 3) := by decide +kernel
theorem dX9_sky_52 : decode cX9_sky 52 = .ok (.ifCond .eq 144, 3) := by decide +kernel
theorem dX9_sky_55 : decode cX9_sky 55 = .ok (.aload_n 0, 1) := by decide +kernel
theorem dX9_sky_56 : decode cX9_sky 56 = .ok (.getfield 81, 3) := by decide +kernel
theorem dX9_sky_59 : decode cX9_sky 59 = .ok (.ifCond .ne 15, 3) := by decide +kernel
theorem dX9_sky_62 : decode cX9_sky 62 = .ok (.iload_n 1, 1) := by decide +kernel
theorem dX9_sky_63 : decode cX9_sky 63 = .ok (.ifCond .ne 7, 3) := by decide +kernel
theorem dX9_sky_66 : decode cX9_sky 66 = .ok (.iconst 1, 1) := by decide +kernel
theorem dX9_sky_67 : decode cX9_sky 67 = .ok (.goto 70, 3) := by decide +kernel
theorem dX9_sky_70 : decode cX9_sky 70 = .ok (.iconst 0, 1) := by decide +kernel
theorem dX9_sky_71 : decode cX9_sky 71 = .ok (.goto 66, 3) := by decide +kernel
theorem dX9_sky_74 : decode cX9_sky 74 = .ok (.aload_n 0, 1) := by decide +kernel
theorem dX9_sky_75 : decode cX9_sky 75 = .ok (.getfield 81, 3) := by decide +kernel
theorem dX9_sky_78 : decode cX9_sky 78 = .ok (.iconst 1, 1) := by decide +kernel
theorem dX9_sky_79 : decode cX9_sky 79 = .ok (.if_icmp .ne 20, 3) := by decide +kernel
theorem dX9_sky_82 : decode cX9_sky 82 = .ok (.aload_n 0, 1) := by decide +kernel
theorem dX9_sky_83 : decode cX9_sky 83 = .ok (.getfield 105, 3) := by decide +kernel
theorem dX9_sky_86 : decode cX9_sky 86 = .ok (.bipush 8, 2) := by decide +kernel
theorem dX9_sky_88 : decode cX9_sky 88 = .ok (.if_icmp .ge 7, 3) := by decide +kernel
theorem dX9_sky_91 : decode cX9_sky 91 = .ok (.iconst 1, 1) := by decide +kernel
theorem dX9_sky_92 : decode cX9_sky 92 = .ok (.goto 45, 3) := by decide +kernel
theorem dX9_sky_95 : decode cX9_sky 95 = .ok (.iconst 0, 1) := by decide +kernel
theorem dX9_sky_96 : decode cX9_sky 96 = .ok (.goto 41, 3) := by decide +kernel
theorem dX9_sky_99 : decode cX9_sky 99 = .ok (.aload_n 0, 1) := by decide +kernel
theorem dX9_sky_100 : decode cX9_sky 100 = .ok (.getfield 81, 3) := by decide +kernel
theorem dX9_sky_103 : decode cX9_sky 103 = .ok (.iconst 2, 1) := by decide +kernel
theorem dX9_sky_104 : decode cX9_sky 104 = .ok (.if_icmp .ne 19, 3) := by decide +kernel
theorem dX9_sky_107 : decode cX9_sky 107 = .ok (.aload_n 0, 1) := by decide +kernel
theorem dX9_sky_108 : decode cX9_sky 108 = .ok (.getfield 108, 3) := by decide +kernel
theorem dX9_sky_111 : decode cX9_sky 111 = .ok (.iconst 4, 1) := by decide +kernel
theorem dX9_sky_112 : decode cX9_sky 112 = .ok (.if_icmp .ge 7, 3) := by decide +kernel
theorem dX9_sky_115 : decode cX9_sky 115 = .ok (.iconst 1, 1) := by decide +kernel
theorem dX9_sky_116 : decode cX9_sky 116 = .ok (.goto 21, 3) := by decide +kernel
theorem dX9_sky_119 : decode cX9_sky 119 = .ok (.iconst 0, 1) := by decide +kernel
theorem dX9_sky_120 : decode cX9_sky 120 = .ok (.goto 17, 3) := by decide +kernel
theorem dX9_sky_123 : decode cX9_sky 123 = .ok (.aload_n 0, 1) := by decide +kernel
theorem dX9_sky_124 : decode cX9_sky 124 = .ok (.getfield 111, 3) := by decide +kernel
theorem dX9_sky_127 : decode cX9_sky 127 = .ok (.bipush 10, 2) := by decide +kernel
theorem dX9_sky_129 : decode cX9_sky 129 = .ok (.if_icmp .ge 7, 3) := by decide +kernel
theorem dX9_sky_132 : decode cX9_sky 132 = .ok (.iconst 1, 1) := by decide +kernel
theorem dX9_sky_133 : decode cX9_sky 133 = .ok (.goto 4, 3) := by decide +kernel
theorem dX9_sky_136 : decode cX9_sky 136 = .ok (.iconst 0, 1) := by decide +kernel
theorem dX9_sky_137 : decode cX9_sky 137 = .ok (.istore_n 2, 1) := by decide +kernel
theorem dX9_sky_138 : decode cX9_sky 138 = .ok (.aload_n 0, 1) := by decide +kernel
theorem dX9_sky_139 : decode cX9_sky 139 = .ok (.aload_n 0, 1) := by decide +kernel
theorem dX9_sky_140 : decode cX9_sky 140 = .ok (.getfield 74, 3) := by decide +kernel
theorem dX9_sky_143 : decode cX9_sky 143 = .ok (.iconst 1, 1) := by decide +kernel
theorem dX9_sky_144 : decode cX9_sky 144 = .ok (.if_icmp .ne 11, 3) := by decide +kernel
theorem dX9_sky_147 : decode cX9_sky 147 = .ok (.iload_n 2, 1) := by decide +kernel
theorem dX9_sky_148 : decode cX9_sky 148 = .ok (.ifCond .eq 7, 3) := by decide +kernel
theorem dX9_sky_151 : decode cX9_sky 151 = .ok (.iconst 1, 1) := by decide +kernel
theorem dX9_sky_152 : decode cX9_sky 152 = .ok (.goto 4, 3) := by decide +kernel
theorem dX9_sky_155 : decode cX9_sky 155 = .ok (.iconst 0, 1) := by decide +kernel
theorem dX9_sky_156 : decode cX9_sky 156 = .ok (.invokevirtual 94, 3) := by decide +kernel
theorem dX9_sky_159 : decode cX9_sky 159 = .ok (.istore_n 3, 1) := by decide +kernel
theorem dX9_sky_160 : decode cX9_sky 160 = .ok (.aload_n 0, 1) := by decide +kernel
theorem dX9_sky_161 : decode cX9_sky 161 = .ok (.invokevirtual 87, 3) := by decide +kernel
theorem dX9_sky_164 : decode cX9_sky 164 = .ok (.ifCond .eq 8, 3) := by decide +kernel
theorem dX9_sky_167 : decode cX9_sky 167 = .ok (.aload_n 0, 1) := by decide +kernel
theorem dX9_sky_168 : decode cX9_sky 168 = .ok (.iload_n 3, 1) := by decide +kernel
theorem dX9_sky_169 : decode cX9_sky 169 = .ok (.invokevirtual 114, 3) := by decide +kernel
theorem dX9_sky_172 : decode cX9_sky 172 = .ok (.aload_n 0, 1) := by decide +kernel
theorem dX9_sky_173 : decode cX9_sky 173 = .ok (.aload_n 0, 1) := by decide +kernel
theorem dX9_sky_174 : decode cX9_sky 174 = .ok (.getfield 74, 3) := by decide +kernel
theorem dX9_sky_177 : decode cX9_sky 177 = .ok (.iconst 3, 1) := by decide +kernel
theorem dX9_sky_178 : decode cX9_sky 178 = .ok (.if_icmp .ne 7, 3) := by decide +kernel
theorem dX9_sky_181 : decode cX9_sky 181 = .ok (.iconst 1, 1) := by decide +kernel
theorem dX9_sky_182 : decode cX9_sky 182 = .ok (.goto 4, 3) := by decide +kernel
theorem dX9_sky_185 : decode cX9_sky 185 = .ok (.iconst 0, 1) := by decide +kernel
theorem dX9_sky_186 : decode cX9_sky 186 = .ok (.invokevirtual 94, 3) := by decide +kernel
theorem dX9_sky_189 : decode cX9_sky 189 = .ok (.pop, 1) := by decide +kernel
theorem dX9_sky_190 : decode cX9_sky 190 = .ok (.iinc 1 1, 3) := by decide +kernel
theorem dX9_sky_193 : decode cX9_sky 193 = .ok (.goto (-152), 3) := by decide +kernel
theorem dX9_sky_196 : decode cX9_sky 196 = .ok (.aload_n 0, 1) := by decide +kernel
theorem dX9_sky_197 : decode cX9_sky 197 = .ok (.invokevirtual 87, 3) := by decide +kernel
theorem dX9_sky_200 : decode cX9_sky 200 = .ok (.ifCond .ne 11, 3) := by decide +kernel
theorem dX9_sky_203 : decode cX9_sky 203 = .ok (.bipush (-10), 2) := by decide +kernel
theorem dX9_sky_205 : decode cX9_sky 205 = .ok (.aload_n 0, 1) := by decide +kernel
theorem dX9_sky_206 : decode cX9_sky 206 = .ok (.getfield 84, 3) := by decide +kernel
theorem dX9_sky_209 : decode cX9_sky 209 = .ok (.isub, 1) := by decide +kernel
theorem dX9_sky_210 : decode cX9_sky 210 = .ok (.ireturn, 1) := by decide +kernel
theorem dX9_sky_211 : decode cX9_sky 211 = .ok (.aload_n 0, 1) := by decide +kernel
theorem dX9_sky_212 : decode cX9_sky 212 = .ok (.aload_n 0, 1) := by decide +kernel
theorem dX9_sky_213 : decode cX9_sky 213 = .ok (.getfield 102, 3) := by decide +kernel
theorem dX9_sky_216 : decode cX9_sky 216 = .ok (.putfield 38, 3) := by decide +kernel
theorem dX9_sky_219 : decode cX9_sky 219 = .ok (.aload_n 0, 1) := by decide +kernel
theorem dX9_sky_220 : decode cX9_sky 220 = .ok (.aload_n 0, 1) := by decide +kernel
theorem dX9_sky_221 : decode cX9_sky 221 = .ok (.getfield 105, 3) := by decide +kernel
theorem dX9_sky_224 : decode cX9_sky 224 = .ok (.putfield 118, 3) := by decide +kernel
theorem dX9_sky_227 : decode cX9_sky 227 = .ok (.aload_n 0, 1) := by decide +kernel
theorem dX9_sky_228 : decode cX9_sky 228 = .ok (.aload_n 0, 1) := by decide +kernel
theorem dX9_sky_229 : decode cX9_sky 229 = .ok (.getfield 108, 3) := by decide +kernel
theorem dX9_sky_232 : decode cX9_sky 232 = .ok (.putfield 121, 3) := by decide +kernel
theorem dX9_sky_235 : decode cX9_sky 235 = .ok (.iconst 0, 1) := by decide +kernel
theorem dX9_sky_236 : decode cX9_sky 236 = .ok (.istore_n 2, 1) := by decide +kernel
theorem dX9_sky_237 : decode cX9_sky 237 = .ok (.iload_n 2, 1) := by decide +kernel
theorem dX9_sky_238 : decode cX9_sky 238 = .ok (.bipush 24, 2) := by decide +kernel
theorem dX9_sky_240 : decode cX9_sky 240 = .ok (.if_icmp .ge 24, 3) := by decide +kernel
theorem dX9_sky_243 : decode cX9_sky 243 = .ok (.aload_n 0, 1) := by decide +kernel
theorem dX9_sky_244 : decode cX9_sky 244 = .ok (.getfield 13, 3) := by decide +kernel
theorem dX9_sky_247 : decode cX9_sky 247 = .ok (.iload_n 2, 1) := by decide +kernel
theorem dX9_sky_248 : decode cX9_sky 248 = .ok (.aload_n 0, 1) := by decide +kernel
theorem dX9_sky_249 : decode cX9_sky 249 = .ok (.getfield 13, 3) := by decide +kernel
theorem dX9_sky_252 : decode cX9_sky 252 = .ok (.bipush 24, 2) := by decide +kernel
theorem dX9_sky_254 : decode cX9_sky 254 = .ok (.iload_n 2, 1) := by decide +kernel
theorem dX9_sky_255 : decode cX9_sky 255 = .ok (.iadd, 1) := by decide +kernel
theorem dX9_sky_256 : decode cX9_sky 256 = .ok (.iaload, 1) := by decide +kernel
theorem dX9_sky_257 : decode cX9_sky 257 = .ok (.iastore, 1) := by decide +kernel
theorem dX9_sky_258 : decode cX9_sky 258 = .ok (.iinc 2 1, 3) := by decide +kernel
theorem dX9_sky_261 : decode cX9_sky 261 = .ok (.goto (-24), 3) := by decide +kernel
theorem dX9_sky_264 : decode cX9_sky 264 = .ok (.aload_n 0, 1) := by decide +kernel
theorem dX9_sky_265 : decode cX9_sky 265 = .ok (.getfield 22, 3) := by decide +kernel
theorem dX9_sky_268 : decode cX9_sky 268 = .ok (.iconst 0, 1) := by decide +kernel
theorem dX9_sky_269 : decode cX9_sky 269 = .ok (.iconst 0, 1) := by decide +kernel
theorem dX9_sky_270 : decode cX9_sky 270 = .ok (.iastore, 1) := by decide +kernel
theorem dX9_sky_271 : decode cX9_sky 271 = .ok (.iconst 0, 1) := by decide +kernel
theorem dX9_sky_272 : decode cX9_sky 272 = .ok (.istore_n 2, 1) := by decide +kernel
theorem dX9_sky_273 : decode cX9_sky 273 = .ok (.iload_n 2, 1) := by decide +kernel
theorem dX9_sky_274 : decode cX9_sky 274 = .ok (.iconst 4, 1) := by decide +kernel
theorem dX9_sky_275 : decode cX9_sky 275 = .ok (.if_icmp .ge 49, 3) := by decide +kernel
theorem dX9_sky_278 : decode cX9_sky 278 = .ok (.aload_n 0, 1) := by decide +kernel
theorem dX9_sky_279 : decode cX9_sky 279 = .ok (.getfield 16, 3) := by decide +kernel
theorem dX9_sky_282 : decode cX9_sky 282 = .ok (.iload_n 2, 1) := by decide +kernel
theorem dX9_sky_283 : decode cX9_sky 283 = .ok (.aload_n 0, 1) := by decide +kernel
theorem dX9_sky_284 : decode cX9_sky 284 = .ok (.getfield 16, 3) := by decide +kernel
theorem dX9_sky_287 : decode cX9_sky 287 = .ok (.iconst 4, 1) := by decide +kernel
theorem dX9_sky_288 : decode cX9_sky 288 = .ok (.iload_n 2, 1) := by decide +kernel
theorem dX9_sky_289 : decode cX9_sky 289 = .ok (.iadd, 1) := by decide +kernel
theorem dX9_sky_290 : decode cX9_sky 290 = .ok (.iaload, 1) := by decide +kernel
theorem dX9_sky_291 : decode cX9_sky 291 = .ok (.iastore, 1) := by decide +kernel
theorem dX9_sky_292 : decode cX9_sky 292 = .ok (.aload_n 0, 1) := by decide +kernel
theorem dX9_sky_293 : decode cX9_sky 293 = .ok (.getfield 22, 3) := by decide +kernel
theorem dX9_sky_296 : decode cX9_sky 296 = .ok (.iconst 2, 1) := by decide +kernel
theorem dX9_sky_297 : decode cX9_sky 297 = .ok (.iload_n 2, 1) := by decide +kernel
theorem dX9_sky_298 : decode cX9_sky 298 = .ok (.iadd, 1) := by decide +kernel
theorem dX9_sky_299 : decode cX9_sky 299 = .ok (.iload_n 2, 1) := by decide +kernel
theorem dX9_sky_300 : decode cX9_sky 300 = .ok (.aload_n 0, 1) := by decide +kernel
theorem dX9_sky_301 : decode cX9_sky 301 = .ok (.getfield 121, 3) := by decide +kernel
theorem dX9_sky_304 : decode cX9_sky 304 = .ok (.if_icmp .ge 12, 3) := by decide +kernel
theorem dX9_sky_307 : decode cX9_sky 307 = .ok (.aload_n 0, 1) := by decide +kernel
theorem dX9_sky_308 : decode cX9_sky 308 = .ok (.getfield 16, 3) := by decide +kernel
theorem dX9_sky_311 : decode cX9_sky 311 = .ok (.iload_n 2, 1) := by decide +kernel
theorem dX9_sky_312 : decode cX9_sky 312 = .ok (.iaload, 1) := by decide +kernel
theorem dX9_sky_313 : decode cX9_sky 313 = .ok (.goto 4, 3) := by decide +kernel
theorem dX9_sky_316 : decode cX9_sky 316 = .ok (.iconst 0, 1) := by decide +kernel
theorem dX9_sky_317 : decode cX9_sky 317 = .ok (.iastore, 1) := by decide +kernel
theorem dX9_sky_318 : decode cX9_sky 318 = .ok (.iinc 2 1, 3) := by decide +kernel
theorem dX9_sky_321 : decode cX9_sky 321 = .ok (.goto (-48), 3) := by decide +kernel
theorem dX9_sky_324 : decode cX9_sky 324 = .ok (.aload_n 0, 1) := by decide +kernel
theorem dX9_sky_325 : decode cX9_sky 325 = .ok (.getfield 22, 3) := by decide +kernel
theorem dX9_sky_328 : decode cX9_sky 328 = .ok (.bipush 6, 2) := by decide +kernel
theorem dX9_sky_330 : decode cX9_sky 330 = .ok (.aload_n 0, 1) := by decide +kernel
theorem dX9_sky_331 : decode cX9_sky 331 = .ok (.getfield 111, 3) := by decide +kernel
theorem dX9_sky_334 : decode cX9_sky 334 = .ok (.iastore, 1) := by decide +kernel
theorem dX9_sky_335 : decode cX9_sky 335 = .ok (.iconst 0, 1) := by decide +kernel
theorem dX9_sky_336 : decode cX9_sky 336 = .ok (.istore_n 2, 1) := by decide +kernel
theorem dX9_sky_337 : decode cX9_sky 337 = .ok (.iload_n 2, 1) := by decide +kernel
theorem dX9_sky_338 : decode cX9_sky 338 = .ok (.bipush 50, 2) := by decide +kernel
theorem dX9_sky_340 : decode cX9_sky 340 = .ok (.if_icmp .ge 24, 3) := by decide +kernel
theorem dX9_sky_343 : decode cX9_sky 343 = .ok (.aload_n 0, 1) := by decide +kernel
theorem dX9_sky_344 : decode cX9_sky 344 = .ok (.getfield 22, 3) := by decide +kernel
theorem dX9_sky_347 : decode cX9_sky 347 = .ok (.bipush 7, 2) := by decide +kernel
theorem dX9_sky_349 : decode cX9_sky 349 = .ok (.iload_n 2, 1) := by decide +kernel
theorem dX9_sky_350 : decode cX9_sky 350 = .ok (.iadd, 1) := by decide +kernel
theorem dX9_sky_351 : decode cX9_sky 351 = .ok (.aload_n 0, 1) := by decide +kernel
theorem dX9_sky_352 : decode cX9_sky 352 = .ok (.getfield 19, 3) := by decide +kernel
theorem dX9_sky_355 : decode cX9_sky 355 = .ok (.iload_n 2, 1) := by decide +kernel
theorem dX9_sky_356 : decode cX9_sky 356 = .ok (.iaload, 1) := by decide +kernel
theorem dX9_sky_357 : decode cX9_sky 357 = .ok (.iastore, 1) := by decide +kernel
theorem dX9_sky_358 : decode cX9_sky 358 = .ok (.iinc 2 1, 3) := by decide +kernel
theorem dX9_sky_361 : decode cX9_sky 361 = .ok (.goto (-24), 3) := by decide +kernel
theorem dX9_sky_364 : decode cX9_sky 364 = .ok (.aload_n 0, 1) := by decide +kernel
theorem dX9_sky_365 : decode cX9_sky 365 = .ok (.getfield 22, 3) := by decide +kernel
theorem dX9_sky_368 : decode cX9_sky 368 = .ok (.bipush 57, 2) := by decide +kernel
theorem dX9_sky_370 : decode cX9_sky 370 = .ok (.iconst 0, 1) := by decide +kernel
theorem dX9_sky_371 : decode cX9_sky 371 = .ok (.iastore, 1) := by decide +kernel
theorem dX9_sky_372 : decode cX9_sky 372 = .ok (.aload_n 0, 1) := by decide +kernel
theorem dX9_sky_373 : decode cX9_sky 373 = .ok (.iconst 0, 1) := by decide +kernel
theorem dX9_sky_374 : decode cX9_sky 374 = .ok (.putfield 124, 3) := by decide +kernel
theorem dX9_sky_377 : decode cX9_sky 377 = .ok (.aload_n 0, 1) := by decide +kernel
theorem dX9_sky_378 : decode cX9_sky 378 = .ok (.iconst 0, 1) := by decide +kernel
theorem dX9_sky_379 : decode cX9_sky 379 = .ok (.putfield 127, 3) := by decide +kernel
theorem dX9_sky_382 : decode cX9_sky 382 = .ok (.aload_n 0, 1) := by decide +kernel
theorem dX9_sky_383 : decode cX9_sky 383 = .ok (.iconst 0, 1) := by decide +kernel
theorem dX9_sky_384 : decode cX9_sky 384 = .ok (.putfield 49, 3) := by decide +kernel
theorem dX9_sky_387 : decode cX9_sky 387 = .ok (.aload_n 0, 1) := by decide +kernel
theorem dX9_sky_388 : decode cX9_sky 388 = .ok (.getfield 28, 3) := by decide +kernel
theorem dX9_sky_391 : decode cX9_sky 391 = .ok (.iconst 0, 1) := by decide +kernel
theorem dX9_sky_392 : decode cX9_sky 392 = .ok (.iconst 0, 1) := by decide +kernel
theorem dX9_sky_393 : decode cX9_sky 393 = .ok (.bastore, 1) := by decide +kernel
theorem dX9_sky_394 : decode cX9_sky 394 = .ok (.aload_n 0, 1) := by decide +kernel
theorem dX9_sky_395 : decode cX9_sky 395 = .ok (.getfield 28, 3) := by decide +kernel
theorem dX9_sky_398 : decode cX9_sky 398 = .ok (.iconst 1, 1) := by decide +kernel
theorem dX9_sky_399 : decode cX9_sky 399 = .ok (.iconst 0, 1) := by decide +kernel
theorem dX9_sky_400 : decode cX9_sky 400 = .ok (.bastore, 1) := by decide +kernel
theorem dX9_sky_401 : decode cX9_sky 401 = .ok (.iload_n 1, 1) := by decide +kernel
theorem dX9_sky_402 : decode cX9_sky 402 = .ok (.ireturn, 1) := by decide +kernel
set_option maxRecDepth 20000 in
theorem ggX9_isSquare_X9_in : GoodIn wsX9_isSquare wsX9_in := goodIn_r _ [5] (by decide +kernel) (by decide +kernel)
set_option maxRecDepth 20000 in
theorem gX9_isSquare_X9_in : GoodIn wsX9_isSquare (va_wsS RX9 45 yX9_in wsX9_in) := goodIn_app (goodIn_of _ (by decide +kernel)) ggX9_isSquare_X9_in
theorem dX9_isSquare_0 : decode cX9_isSquare 0 = .ok (.iload_n 1, 1) := by decide +kernel
theorem dX9_isSquare_1 : decode cX9_isSquare 1 = .ok (.iconst 0, 1) := by decide +kernel
theorem dX9_isSquare_2 : decode cX9_isSquare 2 = .ok (.aload_n 0, 1) := by decide +kernel
theorem dX9_isSquare_3 : decode cX9_isSquare 3 = .ok (.getfield 38, 3) := by decide +kernel
theorem dX9_isSquare_6 : decode cX9_isSquare 6 = .ok (.iconst 1, 1) := by decide +kernel
theorem dX9_isSquare_7 : decode cX9_isSquare 7 = .ok (.isub, 1) := by decide +kernel
theorem dX9_isSquare_8 : decode cX9_isSquare 8 = .ok (.invokestatic 45, 3) := by decide +kernel
theorem dX9_isSquare_11 : decode cX9_isSquare 11 = .ok (.ireturn, 1) := by decide +kernel
set_option maxRecDepth 20000 in
theorem ggX9_isStar_X9_in : GoodIn wsX9_isStar wsX9_in := goodIn_r _ [5] (by decide +kernel) (by decide +kernel)
set_option maxRecDepth 20000 in
theorem gX9_isStar_X9_in : GoodIn wsX9_isStar (va_wsS RX9 45 yX9_in wsX9_in) := goodIn_app (goodIn_of _ (by decide +kernel)) ggX9_isStar_X9_in
theorem dX9_isStar_0 : decode cX9_isStar 0 = .ok (.iload_n 1, 1) := by decide +kernel
theorem dX9_isStar_1 : decode cX9_isStar 1 = .ok (.iconst 0, 1) := by decide +kernel
theorem dX9_isStar_2 : decode cX9_isStar 2 = .ok (.aload_n 0, 1) := by decide +kernel
theorem dX9_isStar_3 : decode cX9_isStar 3 = .ok (.getfield 118, 3) := by decide +kernel
theorem dX9_isStar_6 : decode cX9_isStar 6 = .ok (.iconst 1, 1) := by decide +kernel
theorem dX9_isStar_7 : decode cX9_isStar 7 = .ok (.isub, 1) := by decide +kernel
theorem dX9_isStar_8 : decode cX9_isStar 8 = .ok (.invokestatic 45, 3) := by decide +kernel
theorem dX9_isStar_11 : decode cX9_isStar 11 = .ok (.ireturn, 1) := by decide +kernel
set_option maxRecDepth 20000 in
theorem ggX9_isTenant_X9_in : GoodIn wsX9_isTenant wsX9_in := goodIn_r _ [5] (by decide +kernel) (by decide +kernel)
set_option maxRecDepth 20000 in
theorem gX9_isTenant_X9_in : GoodIn wsX9_isTenant (va_wsS RX9 45 yX9_in wsX9_in) := goodIn_app (goodIn_of _ (by decide +kernel)) ggX9_isTenant_X9_in
theorem dX9_isTenant_0 : decode cX9_isTenant 0 = .ok (.iload_n 1, 1) := by decide +kernel
theorem dX9_isTenant_1 : decode cX9_isTenant 1 = .ok (.iconst 0, 1) := by decide +kernel
theorem dX9_isTenant_2 : decode cX9_isTenant 2 = .ok (.aload_n 0, 1) := by decide +kernel
theorem dX9_isTenant_3 : decode cX9_isTenant 3 = .ok (.getfield 121, 3) := by decide +kernel
theorem dX9_isTenant_6 : decode cX9_isTenant 6 = .ok (.iconst 1, 1) := by decide +kernel
theorem dX9_isTenant_7 : decode cX9_isTenant 7 = .ok (.isub, 1) := by decide +kernel
theorem dX9_isTenant_8 : decode cX9_isTenant 8 = .ok (.invokestatic 45, 3) := by decide +kernel
theorem dX9_isTenant_11 : decode cX9_isTenant 11 = .ok (.ireturn, 1) := by decide +kernel
set_option maxRecDepth 20000 in
theorem ggX9_isNight_X9_in : GoodIn wsX9_isNight wsX9_in := goodIn_r _ [4] (by decide +kernel) (by decide +kernel)
set_option maxRecDepth 20000 in
theorem gX9_isNight_X9_in : GoodIn wsX9_isNight (va_wsS RX9 45 yX9_in wsX9_in) := goodIn_app (goodIn_of _ (by decide +kernel)) ggX9_isNight_X9_in
theorem dX9_isNight_0 : decode cX9_isNight 0 = .ok (.iload_n 0, 1) := by decide +kernel
theorem dX9_isNight_1 : decode cX9_isNight 1 = .ok (.iconst 0, 1) := by decide +kernel
theorem dX9_isNight_2 : decode cX9_isNight 2 = .ok (.bipush 99, 2) := by decide +kernel
theorem dX9_isNight_4 : decode cX9_isNight 4 = .ok (.invokestatic 45, 3) := by decide +kernel
theorem dX9_isNight_7 : decode cX9_isNight 7 = .ok (.ireturn, 1) := by decide +kernel
theorem dX9_squareOf_0 : decode cX9_squareOf 0 = .ok (.aload_n 0, 1) := by decide +kernel
theorem dX9_squareOf_1 : decode cX9_squareOf 1 = .ok (.getfield 13, 3) := by decide +kernel
theorem dX9_squareOf_4 : decode cX9_squareOf 4 = .ok (.iconst 3, 1) := by decide +kernel
theorem dX9_squareOf_5 : decode cX9_squareOf 5 = .ok (.iload_n 1, 1) := by decide +kernel
theorem dX9_squareOf_6 : decode cX9_squareOf 6 = .ok (.imul, 1) := by decide +kernel
theorem dX9_squareOf_7 : decode cX9_squareOf 7 = .ok (.iconst 1, 1) := by decide +kernel
theorem dX9_squareOf_8 : decode cX9_squareOf 8 = .ok (.iadd, 1) := by decide +kernel
theorem dX9_squareOf_9 : decode cX9_squareOf 9 = .ok (.iaload, 1) := by decide +kernel
theorem dX9_squareOf_10 : decode cX9_squareOf 10 = .ok (.istore_n 3, 1) := by decide +kernel
theorem dX9_squareOf_11 : decode cX9_squareOf 11 = .ok (.iload_n 3, 1) := by decide +kernel
theorem dX9_squareOf_12 : decode cX9_squareOf 12 = .ok (.ifCond .ne 14, 3) := by decide +kernel
theorem dX9_squareOf_15 : decode cX9_squareOf 15 = .ok (.aload_n 0, 1) := by decide +kernel
theorem dX9_squareOf_16 : decode cX9_squareOf 16 = .ok (.getfield 13, 3) := by decide +kernel
theorem dX9_squareOf_19 : decode cX9_squareOf 19 = .ok (.iconst 3, 1) := by decide +kernel
theorem dX9_squareOf_20 : decode cX9_squareOf 20 = .ok (.iload_n 1, 1) := by decide +kernel
theorem dX9_squareOf_21 : decode cX9_squareOf 21 = .ok (.imul, 1) := by decide +kernel
theorem dX9_squareOf_22 : decode cX9_squareOf 22 = .ok (.iaload, 1) := by decide +kernel
theorem dX9_squareOf_23 : decode cX9_squareOf 23 = .ok (.goto 20, 3) := by decide +kernel
theorem dX9_squareOf_26 : decode cX9_squareOf 26 = .ok (.aload_n 0, 1) := by decide +kernel
theorem dX9_squareOf_27 : decode cX9_squareOf 27 = .ok (.getfield 13, 3) := by decide +kernel
theorem dX9_squareOf_30 : decode cX9_squareOf 30 = .ok (.iconst 3, 1) := by decide +kernel
theorem dX9_squareOf_31 : decode cX9_squareOf 31 = .ok (.iload_n 1, 1) := by decide +kernel
theorem dX9_squareOf_32 : decode cX9_squareOf 32 = .ok (.imul, 1) := by decide +kernel
theorem dX9_squareOf_33 : decode cX9_squareOf 33 = .ok (.iaload, 1) := by decide +kernel
theorem dX9_squareOf_34 : decode cX9_squareOf 34 = .ok (.iload_n 2, 1) := by decide +kernel
theorem dX9_squareOf_35 : decode cX9_squareOf 35 = .ok (.iload_n 3, 1) := by decide +kernel
theorem dX9_squareOf_36 : decode cX9_squareOf 36 = .ok (.idiv, 1) := by decide +kernel
theorem dX9_squareOf_37 : decode cX9_squareOf 37 = .ok (.iadd, 1) := by decide +kernel
theorem dX9_squareOf_38 : decode cX9_squareOf 38 = .ok (.aload_n 0, 1) := by decide +kernel
theorem dX9_squareOf_39 : decode cX9_squareOf 39 = .ok (.getfield 38, 3) := by decide +kernel
theorem dX9_squareOf_42 : decode cX9_squareOf 42 = .ok (.irem, 1) := by decide +kernel
theorem dX9_squareOf_43 : decode cX9_squareOf 43 = .ok (.ireturn, 1) := by decide +kernel
set_option maxRecDepth 20000 in
theorem ggX9_star_X9_isStar : GoodIn wsX9_star wsX9_isStar := goodIn_r _ [6, 7, 8, 9, 5, 10, 17, 18, 19, 20, 21, 22, 23, 24, 25, 26, 27, 28, 29, 30, 31, 32, 33, 34, 35, 36, 37, 38, 39, 40, 41, 42] (by decide +kernel) (by decide +kernel)
set_option maxRecDepth 20000 in
theorem gX9_star_X9_isStar : GoodIn wsX9_star (wsV RX9 130 RX9 yX9_isStar wsX9_isStar) := goodIn_app (goodIn_of _ (by decide +kernel)) ggX9_star_X9_isStar
set_option maxRecDepth 20000 in
theorem ggX9_star_X9_in : GoodIn wsX9_star wsX9_in := goodIn_r _ [10] (by decide +kernel) (by decide +kernel)
set_option maxRecDepth 20000 in
theorem gX9_star_X9_in : GoodIn wsX9_star (va_wsS RX9 45 yX9_in wsX9_in) := goodIn_app (goodIn_of _ (by decide +kernel)) ggX9_star_X9_in
set_option maxRecDepth 20000 in
theorem ggX9_star_X9_squareOf : GoodIn wsX9_star wsX9_squareOf := goodIn_r _ [14, 15, 16, 17, 18, 19, 20, 21, 22, 23, 24, 25, 26, 27, 28, 29, 30, 31, 32, 33, 34, 35, 36, 37, 38, 39, 40, 41, 42] (by decide +kernel) (by decide +kernel)
set_option maxRecDepth 20000 in
theorem gX9_star_X9_squareOf : GoodIn wsX9_star (wsV RX9 134 RX9 yX9_squareOf wsX9_squareOf) := goodIn_app (goodIn_of _ (by decide +kernel)) ggX9_star_X9_squareOf
theorem dX9_star_0 : decode cX9_star 0 = .ok (.aload_n 0, 1) := by decide +kernel
theorem dX9_star_1 : decode cX9_star 1 = .ok (.iconst 0, 1) := by decide +kernel
theorem dX9_star_2 : decode cX9_star 2 = .ok (.putfield 42, 3) := by decide +kernel
theorem dX9_star_5 : decode cX9_star 5 = .ok (.aload_n 0, 1) := by decide +kernel
theorem dX9_star_6 : decode cX9_star 6 = .ok (.iload_n 1, 1) := by decide +kernel
theorem dX9_star_7 : decode cX9_star 7 = .ok (.invokevirtual 130, 3) := by decide +kernel
theorem dX9_star_10 : decode cX9_star 10 = .ok (.ifCond .eq 23, 3) := by decide +kernel
theorem dX9_star_13 : decode cX9_star 13 = .ok (.iload_n 2, 1) := by decide +kernel
theorem dX9_star_14 : decode cX9_star 14 = .ok (.iconst 0, 1) := by decide +kernel
theorem dX9_star_15 : decode cX9_star 15 = .ok (.sipush 999, 3) := by decide +kernel
theorem dX9_star_18 : decode cX9_star 18 = .ok (.invokestatic 45, 3) := by decide +kernel
theorem dX9_star_21 : decode cX9_star 21 = .ok (.ifCond .eq 12, 3) := by decide +kernel
theorem dX9_star_24 : decode cX9_star 24 = .ok (.aload_n 0, 1) := by decide +kernel
theorem dX9_star_25 : decode cX9_star 25 = .ok (.iload_n 1, 1) := by decide +kernel
theorem dX9_star_26 : decode cX9_star 26 = .ok (.iload_n 2, 1) := by decide +kernel
theorem dX9_star_27 : decode cX9_star 27 = .ok (.invokevirtual 134, 3) := by decide +kernel
theorem dX9_star_30 : decode cX9_star 30 = .ok (.goto 4, 3) := by decide +kernel
theorem dX9_star_33 : decode cX9_star 33 = .ok (.iconst (-1), 1) := by decide +kernel
theorem dX9_star_34 : decode cX9_star 34 = .ok (.ireturn, 1) := by decide +kernel
set_option maxRecDepth 20000 in
theorem ggX9_lease_X9_in : GoodIn wsX9_lease wsX9_in := goodIn_r _ [6] (by decide +kernel) (by decide +kernel)
set_option maxRecDepth 20000 in
theorem gX9_lease_X9_in : GoodIn wsX9_lease (va_wsS RX9 45 yX9_in wsX9_in) := goodIn_app (goodIn_of _ (by decide +kernel)) ggX9_lease_X9_in
theorem dX9_lease_0 : decode cX9_lease 0 = .ok (.aload_n 0, 1) := by decide +kernel
theorem dX9_lease_1 : decode cX9_lease 1 = .ok (.iconst 0, 1) := by decide +kernel
theorem dX9_lease_2 : decode cX9_lease 2 = .ok (.putfield 42, 3) := by decide +kernel
theorem dX9_lease_5 : decode cX9_lease 5 = .ok (.iload_n 1, 1) := by decide +kernel
theorem dX9_lease_6 : decode cX9_lease 6 = .ok (.iconst 0, 1) := by decide +kernel
theorem dX9_lease_7 : decode cX9_lease 7 = .ok (.aload_n 0, 1) := by decide +kernel
theorem dX9_lease_8 : decode cX9_lease 8 = .ok (.getfield 22, 3) := by decide +kernel
theorem dX9_lease_11 : decode cX9_lease 11 = .ok (.bipush 6, 2) := by decide +kernel
theorem dX9_lease_13 : decode cX9_lease 13 = .ok (.iaload, 1) := by decide +kernel
theorem dX9_lease_14 : decode cX9_lease 14 = .ok (.iconst 1, 1) := by decide +kernel
theorem dX9_lease_15 : decode cX9_lease 15 = .ok (.isub, 1) := by decide +kernel
theorem dX9_lease_16 : decode cX9_lease 16 = .ok (.invokestatic 45, 3) := by decide +kernel
theorem dX9_lease_19 : decode cX9_lease 19 = .ok (.ifCond .eq 28, 3) := by decide +kernel
theorem dX9_lease_22 : decode cX9_lease 22 = .ok (.iload_n 2, 1) := by decide +kernel
theorem dX9_lease_23 : decode cX9_lease 23 = .ok (.iconst 0, 1) := by decide +kernel
theorem dX9_lease_24 : decode cX9_lease 24 = .ok (.iconst 4, 1) := by decide +kernel
theorem dX9_lease_25 : decode cX9_lease 25 = .ok (.invokestatic 45, 3) := by decide +kernel
theorem dX9_lease_28 : decode cX9_lease 28 = .ok (.ifCond .eq 19, 3) := by decide +kernel
theorem dX9_lease_31 : decode cX9_lease 31 = .ok (.aload_n 0, 1) := by decide +kernel
theorem dX9_lease_32 : decode cX9_lease 32 = .ok (.getfield 22, 3) := by decide +kernel
theorem dX9_lease_35 : decode cX9_lease 35 = .ok (.bipush 7, 2) := by decide +kernel
theorem dX9_lease_37 : decode cX9_lease 37 = .ok (.iconst 5, 1) := by decide +kernel
theorem dX9_lease_38 : decode cX9_lease 38 = .ok (.iload_n 1, 1) := by decide +kernel
theorem dX9_lease_39 : decode cX9_lease 39 = .ok (.imul, 1) := by decide +kernel
theorem dX9_lease_40 : decode cX9_lease 40 = .ok (.iadd, 1) := by decide +kernel
theorem dX9_lease_41 : decode cX9_lease 41 = .ok (.iload_n 2, 1) := by decide +kernel
theorem dX9_lease_42 : decode cX9_lease 42 = .ok (.iadd, 1) := by decide +kernel
theorem dX9_lease_43 : decode cX9_lease 43 = .ok (.iaload, 1) := by decide +kernel
theorem dX9_lease_44 : decode cX9_lease 44 = .ok (.goto 4, 3) := by decide +kernel
theorem dX9_lease_47 : decode cX9_lease 47 = .ok (.iconst (-1), 1) := by decide +kernel
theorem dX9_lease_48 : decode cX9_lease 48 = .ok (.ireturn, 1) := by decide +kernel
theorem dX9_hasSquare_0 : decode cX9_hasSquare 0 = .ok (.iload_n 3, 1) := by decide +kernel
theorem dX9_hasSquare_1 : decode cX9_hasSquare 1 = .ok (.iload_n 1, 1) := by decide +kernel
theorem dX9_hasSquare_2 : decode cX9_hasSquare 2 = .ok (.isub, 1) := by decide +kernel
theorem dX9_hasSquare_3 : decode cX9_hasSquare 3 = .ok (.aload_n 0, 1) := by decide +kernel
theorem dX9_hasSquare_4 : decode cX9_hasSquare 4 = .ok (.getfield 38, 3) := by decide +kernel
theorem dX9_hasSquare_7 : decode cX9_hasSquare 7 = .ok (.iadd, 1) := by decide +kernel
theorem dX9_hasSquare_8 : decode cX9_hasSquare 8 = .ok (.aload_n 0, 1) := by decide +kernel
theorem dX9_hasSquare_9 : decode cX9_hasSquare 9 = .ok (.getfield 38, 3) := by decide +kernel
theorem dX9_hasSquare_12 : decode cX9_hasSquare 12 = .ok (.irem, 1) := by decide +kernel
theorem dX9_hasSquare_13 : decode cX9_hasSquare 13 = .ok (.iload_n 2, 1) := by decide +kernel
theorem dX9_hasSquare_14 : decode cX9_hasSquare 14 = .ok (.if_icmp .ge 7, 3) := by decide +kernel
theorem dX9_hasSquare_17 : decode cX9_hasSquare 17 = .ok (.iconst 1, 1) := by decide +kernel
theorem dX9_hasSquare_18 : decode cX9_hasSquare 18 = .ok (.goto 4, 3) := by decide +kernel
theorem dX9_hasSquare_21 : decode cX9_hasSquare 21 = .ok (.iconst 0, 1) := by decide +kernel
theorem dX9_hasSquare_22 : decode cX9_hasSquare 22 = .ok (.ireturn, 1) := by decide +kernel
set_option maxRecDepth 20000 in
theorem ggX9_holds_X9_hasSquare : GoodIn wsX9_holds wsX9_hasSquare := goodIn_r _ [6, 7, 11, 12, 13, 14, 15, 16, 17, 18, 19, 20, 21, 22, 23, 24, 25, 26, 27, 28, 29, 30, 31, 32, 33, 34, 35, 36] (by decide +kernel) (by decide +kernel)
set_option maxRecDepth 20000 in
theorem gX9_holds_X9_hasSquare : GoodIn wsX9_holds (wsV RX9 137 RX9 yX9_hasSquare wsX9_hasSquare) := goodIn_app (goodIn_of _ (by decide +kernel)) ggX9_holds_X9_hasSquare
set_option maxRecDepth 20000 in
theorem ggX9_holds_X9_in : GoodIn wsX9_holds wsX9_in := goodIn_r _ [10] (by decide +kernel) (by decide +kernel)
set_option maxRecDepth 20000 in
theorem gX9_holds_X9_in : GoodIn wsX9_holds (va_wsS RX9 45 yX9_in wsX9_in) := goodIn_app (goodIn_of _ (by decide +kernel)) ggX9_holds_X9_in
theorem dX9_holds_0 : decode cX9_holds 0 = .ok (.bipush 7, 2) := by decide +kernel
theorem dX9_holds_2 : decode cX9_holds 2 = .ok (.iconst 5, 1) := by decide +kernel
theorem dX9_holds_3 : decode cX9_holds 3 = .ok (.iload_n 1, 1) := by decide +kernel
theorem dX9_holds_4 : decode cX9_holds 4 = .ok (.imul, 1) := by decide +kernel
theorem dX9_holds_5 : decode cX9_holds 5 = .ok (.iadd, 1) := by decide +kernel
theorem dX9_holds_6 : decode cX9_holds 6 = .ok (.istore 4, 2) := by decide +kernel
theorem dX9_holds_8 : decode cX9_holds 8 = .ok (.aload_n 0, 1) := by decide +kernel
theorem dX9_holds_9 : decode cX9_holds 9 = .ok (.aload_n 0, 1) := by decide +kernel
theorem dX9_holds_10 : decode cX9_holds 10 = .ok (.getfield 22, 3) := by decide +kernel
theorem dX9_holds_13 : decode cX9_holds 13 = .ok (.iload 4, 2) := by decide +kernel
theorem dX9_holds_15 : decode cX9_holds 15 = .ok (.iconst 1, 1) := by decide +kernel
theorem dX9_holds_16 : decode cX9_holds 16 = .ok (.iadd, 1) := by decide +kernel
theorem dX9_holds_17 : decode cX9_holds 17 = .ok (.iaload, 1) := by decide +kernel
theorem dX9_holds_18 : decode cX9_holds 18 = .ok (.aload_n 0, 1) := by decide +kernel
theorem dX9_holds_19 : decode cX9_holds 19 = .ok (.getfield 22, 3) := by decide +kernel
theorem dX9_holds_22 : decode cX9_holds 22 = .ok (.iload 4, 2) := by decide +kernel
theorem dX9_holds_24 : decode cX9_holds 24 = .ok (.iconst 2, 1) := by decide +kernel
theorem dX9_holds_25 : decode cX9_holds 25 = .ok (.iadd, 1) := by decide +kernel
theorem dX9_holds_26 : decode cX9_holds 26 = .ok (.iaload, 1) := by decide +kernel
theorem dX9_holds_27 : decode cX9_holds 27 = .ok (.iload_n 2, 1) := by decide +kernel
theorem dX9_holds_28 : decode cX9_holds 28 = .ok (.invokevirtual 137, 3) := by decide +kernel
theorem dX9_holds_31 : decode cX9_holds 31 = .ok (.ifCond .eq 32, 3) := by decide +kernel
theorem dX9_holds_34 : decode cX9_holds 34 = .ok (.iload_n 3, 1) := by decide +kernel
theorem dX9_holds_35 : decode cX9_holds 35 = .ok (.aload_n 0, 1) := by decide +kernel
theorem dX9_holds_36 : decode cX9_holds 36 = .ok (.getfield 22, 3) := by decide +kernel
theorem dX9_holds_39 : decode cX9_holds 39 = .ok (.iload 4, 2) := by decide +kernel
theorem dX9_holds_41 : decode cX9_holds 41 = .ok (.iconst 3, 1) := by decide +kernel
theorem dX9_holds_42 : decode cX9_holds 42 = .ok (.iadd, 1) := by decide +kernel
theorem dX9_holds_43 : decode cX9_holds 43 = .ok (.iaload, 1) := by decide +kernel
theorem dX9_holds_44 : decode cX9_holds 44 = .ok (.aload_n 0, 1) := by decide +kernel
theorem dX9_holds_45 : decode cX9_holds 45 = .ok (.getfield 22, 3) := by decide +kernel
theorem dX9_holds_48 : decode cX9_holds 48 = .ok (.iload 4, 2) := by decide +kernel
theorem dX9_holds_50 : decode cX9_holds 50 = .ok (.iconst 4, 1) := by decide +kernel
theorem dX9_holds_51 : decode cX9_holds 51 = .ok (.iadd, 1) := by decide +kernel
theorem dX9_holds_52 : decode cX9_holds 52 = .ok (.iaload, 1) := by decide +kernel
theorem dX9_holds_53 : decode cX9_holds 53 = .ok (.invokestatic 45, 3) := by decide +kernel
theorem dX9_holds_56 : decode cX9_holds 56 = .ok (.ifCond .eq 7, 3) := by decide +kernel
theorem dX9_holds_59 : decode cX9_holds 59 = .ok (.iconst 1, 1) := by decide +kernel
theorem dX9_holds_60 : decode cX9_holds 60 = .ok (.goto 4, 3) := by decide +kernel
theorem dX9_holds_63 : decode cX9_holds 63 = .ok (.iconst 0, 1) := by decide +kernel
theorem dX9_holds_64 : decode cX9_holds 64 = .ok (.ireturn, 1) := by decide +kernel
set_option maxRecDepth 20000 in
theorem ggX9_whoseIs_X9_holds : GoodIn wsX9_whoseIs wsX9_holds := goodIn_r _ [6, 1, 7, 8, 9, 5, 10, 11, 12, 13, 14, 15, 16, 17, 18, 19, 20, 21, 22, 23, 24, 25, 26, 27, 28, 29, 30, 31, 32, 33, 34, 35, 36, 37, 38, 39, 40] (by decide +kernel) (by decide +kernel)
set_option maxRecDepth 20000 in
theorem gX9_whoseIs_X9_holds : GoodIn wsX9_whoseIs (wsV RX9 140 RX9 yX9_holds wsX9_holds) := goodIn_app (goodIn_of _ (by decide +kernel)) ggX9_whoseIs_X9_holds
theorem dX9_whoseIs_0 : decode cX9_whoseIs 0 = .ok (.iconst 0, 1) := by decide +kernel
theorem dX9_whoseIs_1 : decode cX9_whoseIs 1 = .ok (.istore_n 3, 1) := by decide +kernel
theorem dX9_whoseIs_2 : decode cX9_whoseIs 2 = .ok (.iload_n 3, 1) := by decide +kernel
theorem dX9_whoseIs_3 : decode cX9_whoseIs 3 = .ok (.aload_n 0, 1) := by decide +kernel
theorem dX9_whoseIs_4 : decode cX9_whoseIs 4 = .ok (.getfield 22, 3) := by decide +kernel
theorem dX9_whoseIs_7 : decode cX9_whoseIs 7 = .ok (.bipush 6, 2) := by decide +kernel
theorem dX9_whoseIs_9 : decode cX9_whoseIs 9 = .ok (.iaload, 1) := by decide +kernel
theorem dX9_whoseIs_10 : decode cX9_whoseIs 10 = .ok (.if_icmp .ge 31, 3) := by decide +kernel
theorem dX9_whoseIs_13 : decode cX9_whoseIs 13 = .ok (.aload_n 0, 1) := by decide +kernel
theorem dX9_whoseIs_14 : decode cX9_whoseIs 14 = .ok (.iload_n 3, 1) := by decide +kernel
theorem dX9_whoseIs_15 : decode cX9_whoseIs 15 = .ok (.iload_n 1, 1) := by decide +kernel
theorem dX9_whoseIs_16 : decode cX9_whoseIs 16 = .ok (.iload_n 2, 1) := by decide +kernel
theorem dX9_whoseIs_17 : decode cX9_whoseIs 17 = .ok (.invokevirtual 140, 3) := by decide +kernel
theorem dX9_whoseIs_20 : decode cX9_whoseIs 20 = .ok (.ifCond .eq 15, 3) := by decide +kernel
theorem dX9_whoseIs_23 : decode cX9_whoseIs 23 = .ok (.aload_n 0, 1) := by decide +kernel
theorem dX9_whoseIs_24 : decode cX9_whoseIs 24 = .ok (.getfield 22, 3) := by decide +kernel
theorem dX9_whoseIs_27 : decode cX9_whoseIs 27 = .ok (.bipush 7, 2) := by decide +kernel
theorem dX9_whoseIs_29 : decode cX9_whoseIs 29 = .ok (.iconst 5, 1) := by decide +kernel
theorem dX9_whoseIs_30 : decode cX9_whoseIs 30 = .ok (.iload_n 3, 1) := by decide +kernel
theorem dX9_whoseIs_31 : decode cX9_whoseIs 31 = .ok (.imul, 1) := by decide +kernel
theorem dX9_whoseIs_32 : decode cX9_whoseIs 32 = .ok (.iadd, 1) := by decide +kernel
theorem dX9_whoseIs_33 : decode cX9_whoseIs 33 = .ok (.iaload, 1) := by decide +kernel
theorem dX9_whoseIs_34 : decode cX9_whoseIs 34 = .ok (.ireturn, 1) := by decide +kernel
theorem dX9_whoseIs_35 : decode cX9_whoseIs 35 = .ok (.iinc 3 1, 3) := by decide +kernel
theorem dX9_whoseIs_38 : decode cX9_whoseIs 38 = .ok (.goto (-36), 3) := by decide +kernel
theorem dX9_whoseIs_41 : decode cX9_whoseIs 41 = .ok (.bipush (-9), 2) := by decide +kernel
theorem dX9_whoseIs_43 : decode cX9_whoseIs 43 = .ok (.ireturn, 1) := by decide +kernel
set_option maxRecDepth 20000 in
theorem ggX9_whose_X9_isSquare : GoodIn wsX9_whose wsX9_isSquare := goodIn_r _ [6, 7, 8, 9, 5, 10, 27, 28, 29, 30, 31, 32, 33, 34, 35, 36, 37, 38, 39, 40, 41, 42, 43, 44, 45, 46, 47, 48, 49, 50, 51, 52] (by decide +kernel) (by decide +kernel)
set_option maxRecDepth 20000 in
theorem gX9_whose_X9_isSquare : GoodIn wsX9_whose (wsV RX9 143 RX9 yX9_isSquare wsX9_isSquare) := goodIn_app (goodIn_of _ (by decide +kernel)) ggX9_whose_X9_isSquare
set_option maxRecDepth 20000 in
theorem ggX9_whose_X9_isNight : GoodIn wsX9_whose wsX9_isNight := goodIn_r _ [13, 8, 9, 5, 10] (by decide +kernel) (by decide +kernel)
set_option maxRecDepth 20000 in
theorem gX9_whose_X9_isNight : GoodIn wsX9_whose (va_wsS RX9 146 yX9_isNight wsX9_isNight) := goodIn_app (goodIn_of _ (by decide +kernel)) ggX9_whose_X9_isNight
set_option maxRecDepth 20000 in
theorem ggX9_whose_X9_whoseIs : GoodIn wsX9_whose wsX9_whoseIs := goodIn_r _ [17, 18, 19, 20, 21, 5, 22, 23, 24, 25, 26, 7, 8, 9, 10, 27, 28, 29, 30, 31, 32, 33, 34, 35, 36, 37, 38, 39, 40, 41, 42, 43, 44, 45, 46, 47, 48, 49, 50, 51, 52] (by decide +kernel) (by decide +kernel)
set_option maxRecDepth 20000 in
theorem gX9_whose_X9_whoseIs : GoodIn wsX9_whose (wsV RX9 149 RX9 yX9_whoseIs wsX9_whoseIs) := goodIn_app (goodIn_of _ (by decide +kernel)) ggX9_whose_X9_whoseIs
theorem dX9_whose_0 : decode cX9_whose 0 = .ok (.aload_n 0, 1) := by decide +kernel
theorem dX9_whose_1 : decode cX9_whose 1 = .ok (.iconst 0, 1) := by decide +kernel
theorem dX9_whose_2 : decode cX9_whose 2 = .ok (.putfield 42, 3) := by decide +kernel
theorem dX9_whose_5 : decode cX9_whose 5 = .ok (.aload_n 0, 1) := by decide +kernel
theorem dX9_whose_6 : decode cX9_whose 6 = .ok (.iload_n 1, 1) := by decide +kernel
theorem dX9_whose_7 : decode cX9_whose 7 = .ok (.invokevirtual 143, 3) := by decide +kernel
theorem dX9_whose_10 : decode cX9_whose 10 = .ok (.ifCond .eq 19, 3) := by decide +kernel
theorem dX9_whose_13 : decode cX9_whose 13 = .ok (.iload_n 2, 1) := by decide +kernel
theorem dX9_whose_14 : decode cX9_whose 14 = .ok (.invokestatic 146, 3) := by decide +kernel
theorem dX9_whose_17 : decode cX9_whose 17 = .ok (.ifCond .eq 12, 3) := by decide +kernel
theorem dX9_whose_20 : decode cX9_whose 20 = .ok (.aload_n 0, 1) := by decide +kernel
theorem dX9_whose_21 : decode cX9_whose 21 = .ok (.iload_n 1, 1) := by decide +kernel
theorem dX9_whose_22 : decode cX9_whose 22 = .ok (.iload_n 2, 1) := by decide +kernel
theorem dX9_whose_23 : decode cX9_whose 23 = .ok (.invokevirtual 149, 3) := by decide +kernel
theorem dX9_whose_26 : decode cX9_whose 26 = .ok (.goto 4, 3) := by decide +kernel
theorem dX9_whose_29 : decode cX9_whose 29 = .ok (.iconst (-1), 1) := by decide +kernel
theorem dX9_whose_30 : decode cX9_whose 30 = .ok (.ireturn, 1) := by decide +kernel
set_option maxRecDepth 20000 in
theorem ggX9_claims_X9_isSquare : GoodIn wsX9_claims wsX9_isSquare := goodIn_r _ [7, 8, 9, 10, 6, 11, 23, 24, 25, 26, 27, 28, 29, 30, 31, 32, 33, 34, 35, 36, 37, 38, 39, 40, 41, 42, 43, 44, 45, 46, 47, 48] (by decide +kernel) (by decide +kernel)
set_option maxRecDepth 20000 in
theorem gX9_claims_X9_isSquare : GoodIn wsX9_claims (wsV RX9 143 RX9 yX9_isSquare wsX9_isSquare) := goodIn_app (goodIn_of _ (by decide +kernel)) ggX9_claims_X9_isSquare
set_option maxRecDepth 20000 in
theorem ggX9_claims_X9_isNight : GoodIn wsX9_claims wsX9_isNight := goodIn_r _ [14, 9, 10, 6, 11] (by decide +kernel) (by decide +kernel)
set_option maxRecDepth 20000 in
theorem gX9_claims_X9_isNight : GoodIn wsX9_claims (va_wsS RX9 146 yX9_isNight wsX9_isNight) := goodIn_app (goodIn_of _ (by decide +kernel)) ggX9_claims_X9_isNight
set_option maxRecDepth 20000 in
theorem ggX9_claims_X9_holds : GoodIn wsX9_claims wsX9_holds := goodIn_r _ [18, 2, 19, 20, 21, 6, 22, 8, 9, 10, 11, 23, 24, 25, 26, 27, 28, 29, 30, 31, 32, 33, 34, 35, 36, 37, 38, 39, 40, 41, 42, 43, 44, 45, 46, 47, 48] (by decide +kernel) (by decide +kernel)
set_option maxRecDepth 20000 in
theorem gX9_claims_X9_holds : GoodIn wsX9_claims (wsV RX9 140 RX9 yX9_holds wsX9_holds) := goodIn_app (goodIn_of _ (by decide +kernel)) ggX9_claims_X9_holds
theorem dX9_claims_0 : decode cX9_claims 0 = .ok (.aload_n 0, 1) := by decide +kernel
theorem dX9_claims_1 : decode cX9_claims 1 = .ok (.iconst 0, 1) := by decide +kernel
theorem dX9_claims_2 : decode cX9_claims 2 = .ok (.putfield 42, 3) := by decide +kernel
theorem dX9_claims_5 : decode cX9_claims 5 = .ok (.aload_n 0, 1) := by decide +kernel
theorem dX9_claims_6 : decode cX9_claims 6 = .ok (.iload_n 1, 1) := by decide +kernel
theorem dX9_claims_7 : decode cX9_claims 7 = .ok (.invokevirtual 143, 3) := by decide +kernel
theorem dX9_claims_10 : decode cX9_claims 10 = .ok (.ifCond .eq 10, 3) := by decide +kernel
theorem dX9_claims_13 : decode cX9_claims 13 = .ok (.iload_n 2, 1) := by decide +kernel
theorem dX9_claims_14 : decode cX9_claims 14 = .ok (.invokestatic 146, 3) := by decide +kernel
theorem dX9_claims_17 : decode cX9_claims 17 = .ok (.ifCond .ne 5, 3) := by decide +kernel
theorem dX9_claims_20 : decode cX9_claims 20 = .ok (.iconst (-1), 1) := by decide +kernel
theorem dX9_claims_21 : decode cX9_claims 21 = .ok (.ireturn, 1) := by decide +kernel
theorem dX9_claims_22 : decode cX9_claims 22 = .ok (.iconst 0, 1) := by decide +kernel
theorem dX9_claims_23 : decode cX9_claims 23 = .ok (.istore_n 3, 1) := by decide +kernel
theorem dX9_claims_24 : decode cX9_claims 24 = .ok (.iconst 0, 1) := by decide +kernel
theorem dX9_claims_25 : decode cX9_claims 25 = .ok (.istore 4, 2) := by decide +kernel
theorem dX9_claims_27 : decode cX9_claims 27 = .ok (.iload 4, 2) := by decide +kernel
theorem dX9_claims_29 : decode cX9_claims 29 = .ok (.aload_n 0, 1) := by decide +kernel
theorem dX9_claims_30 : decode cX9_claims 30 = .ok (.getfield 22, 3) := by decide +kernel
theorem dX9_claims_33 : decode cX9_claims 33 = .ok (.bipush 6, 2) := by decide +kernel
theorem dX9_claims_35 : decode cX9_claims 35 = .ok (.iaload, 1) := by decide +kernel
theorem dX9_claims_36 : decode cX9_claims 36 = .ok (.if_icmp .ge 28, 3) := by decide +kernel
theorem dX9_claims_39 : decode cX9_claims 39 = .ok (.iload_n 3, 1) := by decide +kernel
theorem dX9_claims_40 : decode cX9_claims 40 = .ok (.aload_n 0, 1) := by decide +kernel
theorem dX9_claims_41 : decode cX9_claims 41 = .ok (.iload 4, 2) := by decide +kernel
theorem dX9_claims_43 : decode cX9_claims 43 = .ok (.iload_n 1, 1) := by decide +kernel
theorem dX9_claims_44 : decode cX9_claims 44 = .ok (.iload_n 2, 1) := by decide +kernel
theorem dX9_claims_45 : decode cX9_claims 45 = .ok (.invokevirtual 140, 3) := by decide +kernel
theorem dX9_claims_48 : decode cX9_claims 48 = .ok (.ifCond .eq 7, 3) := by decide +kernel
theorem dX9_claims_51 : decode cX9_claims 51 = .ok (.iconst 1, 1) := by decide +kernel
theorem dX9_claims_52 : decode cX9_claims 52 = .ok (.goto 4, 3) := by decide +kernel
theorem dX9_claims_55 : decode cX9_claims 55 = .ok (.iconst 0, 1) := by decide +kernel
theorem dX9_claims_56 : decode cX9_claims 56 = .ok (.iadd, 1) := by decide +kernel
theorem dX9_claims_57 : decode cX9_claims 57 = .ok (.istore_n 3, 1) := by decide +kernel
theorem dX9_claims_58 : decode cX9_claims 58 = .ok (.iinc 4 1, 3) := by decide +kernel
theorem dX9_claims_61 : decode cX9_claims 61 = .ok (.goto (-34), 3) := by decide +kernel
theorem dX9_claims_64 : decode cX9_claims 64 = .ok (.iload_n 3, 1) := by decide +kernel
theorem dX9_claims_65 : decode cX9_claims 65 = .ok (.ireturn, 1) := by decide +kernel
theorem dX9_gcd_0 : decode cX9_gcd 0 = .ok (.lload_n 0, 1) := by decide +kernel
theorem dX9_gcd_1 : decode cX9_gcd 1 = .ok (.lstore 4, 2) := by decide +kernel
theorem dX9_gcd_3 : decode cX9_gcd 3 = .ok (.lload_n 2, 1) := by decide +kernel
theorem dX9_gcd_4 : decode cX9_gcd 4 = .ok (.lstore 6, 2) := by decide +kernel
theorem dX9_gcd_6 : decode cX9_gcd 6 = .ok (.lload 6, 2) := by decide +kernel
theorem dX9_gcd_8 : decode cX9_gcd 8 = .ok (.lconst 0, 1) := by decide +kernel
theorem dX9_gcd_9 : decode cX9_gcd 9 = .ok (.lcmp, 1) := by decide +kernel
theorem dX9_gcd_10 : decode cX9_gcd 10 = .ok (.ifCond .eq 21, 3) := by decide +kernel
theorem dX9_gcd_13 : decode cX9_gcd 13 = .ok (.lload 4, 2) := by decide +kernel
theorem dX9_gcd_15 : decode cX9_gcd 15 = .ok (.lload 6, 2) := by decide +kernel
theorem dX9_gcd_17 : decode cX9_gcd 17 = .ok (.lrem, 1) := by decide +kernel
theorem dX9_gcd_18 : decode cX9_gcd 18 = .ok (.lstore 8, 2) := by decide +kernel
theorem dX9_gcd_20 : decode cX9_gcd 20 = .ok (.lload 6, 2) := by decide +kernel
theorem dX9_gcd_22 : decode cX9_gcd 22 = .ok (.lstore 4, 2) := by decide +kernel
theorem dX9_gcd_24 : decode cX9_gcd 24 = .ok (.lload 8, 2) := by decide +kernel
theorem dX9_gcd_26 : decode cX9_gcd 26 = .ok (.lstore 6, 2) := by decide +kernel
theorem dX9_gcd_28 : decode cX9_gcd 28 = .ok (.goto (-22), 3) := by decide +kernel
theorem dX9_gcd_31 : decode cX9_gcd 31 = .ok (.lload 4, 2) := by decide +kernel
theorem dX9_gcd_33 : decode cX9_gcd 33 = .ok (.lreturn, 1) := by decide +kernel
set_option maxRecDepth 20000 in
theorem ggX9_cycle_X9_gcd : GoodIn wsX9_cycle wsX9_gcd := goodIn_r _ [8] (by decide +kernel) (by decide +kernel)
set_option maxRecDepth 20000 in
theorem gX9_cycle_X9_gcd : GoodIn wsX9_cycle (va_wsS RX9 152 yX9_gcd wsX9_gcd) := goodIn_app (goodIn_of _ (by decide +kernel)) ggX9_cycle_X9_gcd
theorem dX9_cycle_0 : decode cX9_cycle 0 = .ok (.aload_n 0, 1) := by decide +kernel
theorem dX9_cycle_1 : decode cX9_cycle 1 = .ok (.iconst 0, 1) := by decide +kernel
theorem dX9_cycle_2 : decode cX9_cycle 2 = .ok (.putfield 42, 3) := by decide +kernel
theorem dX9_cycle_5 : decode cX9_cycle 5 = .ok (.iconst 1, 1) := by decide +kernel
theorem dX9_cycle_6 : decode cX9_cycle 6 = .ok (.istore_n 1, 1) := by decide +kernel
theorem dX9_cycle_7 : decode cX9_cycle 7 = .ok (.iconst 0, 1) := by decide +kernel
theorem dX9_cycle_8 : decode cX9_cycle 8 = .ok (.istore_n 2, 1) := by decide +kernel
theorem dX9_cycle_9 : decode cX9_cycle 9 = .ok (.iload_n 2, 1) := by decide +kernel
theorem dX9_cycle_10 : decode cX9_cycle 10 = .ok (.aload_n 0, 1) := by decide +kernel
theorem dX9_cycle_11 : decode cX9_cycle 11 = .ok (.getfield 118, 3) := by decide +kernel
theorem dX9_cycle_14 : decode cX9_cycle 14 = .ok (.if_icmp .ge 55, 3) := by decide +kernel
theorem dX9_cycle_17 : decode cX9_cycle 17 = .ok (.aload_n 0, 1) := by decide +kernel
theorem dX9_cycle_18 : decode cX9_cycle 18 = .ok (.getfield 13, 3) := by decide +kernel
theorem dX9_cycle_21 : decode cX9_cycle 21 = .ok (.iconst 3, 1) := by decide +kernel
theorem dX9_cycle_22 : decode cX9_cycle 22 = .ok (.iload_n 2, 1) := by decide +kernel
theorem dX9_cycle_23 : decode cX9_cycle 23 = .ok (.imul, 1) := by decide +kernel
theorem dX9_cycle_24 : decode cX9_cycle 24 = .ok (.iconst 1, 1) := by decide +kernel
theorem dX9_cycle_25 : decode cX9_cycle 25 = .ok (.iadd, 1) := by decide +kernel
theorem dX9_cycle_26 : decode cX9_cycle 26 = .ok (.iaload, 1) := by decide +kernel
theorem dX9_cycle_27 : decode cX9_cycle 27 = .ok (.ifCond .ne 7, 3) := by decide +kernel
theorem dX9_cycle_30 : decode cX9_cycle 30 = .ok (.iconst 1, 1) := by decide +kernel
theorem dX9_cycle_31 : decode cX9_cycle 31 = .ok (.goto 18, 3) := by decide +kernel
theorem dX9_cycle_34 : decode cX9_cycle 34 = .ok (.aload_n 0, 1) := by decide +kernel
theorem dX9_cycle_35 : decode cX9_cycle 35 = .ok (.getfield 38, 3) := by decide +kernel
theorem dX9_cycle_38 : decode cX9_cycle 38 = .ok (.aload_n 0, 1) := by decide +kernel
theorem dX9_cycle_39 : decode cX9_cycle 39 = .ok (.getfield 13, 3) := by decide +kernel
theorem dX9_cycle_42 : decode cX9_cycle 42 = .ok (.iconst 3, 1) := by decide +kernel
theorem dX9_cycle_43 : decode cX9_cycle 43 = .ok (.iload_n 2, 1) := by decide +kernel
theorem dX9_cycle_44 : decode cX9_cycle 44 = .ok (.imul, 1) := by decide +kernel
theorem dX9_cycle_45 : decode cX9_cycle 45 = .ok (.iconst 1, 1) := by decide +kernel
theorem dX9_cycle_46 : decode cX9_cycle 46 = .ok (.iadd, 1) := by decide +kernel
theorem dX9_cycle_47 : decode cX9_cycle 47 = .ok (.iaload, 1) := by decide +kernel
theorem dX9_cycle_48 : decode cX9_cycle 48 = .ok (.imul, 1) := by decide +kernel
theorem dX9_cycle_49 : decode cX9_cycle 49 = .ok (.istore_n 3, 1) := by decide +kernel
theorem dX9_cycle_50 : decode cX9_cycle 50 = .ok (.iload_n 1, 1) := by decide +kernel
theorem dX9_cycle_51 : decode cX9_cycle 51 = .ok (.iload_n 1, 1) := by decide +kernel
theorem dX9_cycle_52 : decode cX9_cycle 52 = .ok (.i2l, 1) := by decide +kernel
theorem dX9_cycle_53 : decode cX9_cycle 53 = .ok (.iload_n 3, 1) := by decide +kernel
theorem dX9_cycle_54 : decode cX9_cycle 54 = .ok (.i2l, 1) := by decide +kernel
theorem dX9_cycle_55 : decode cX9_cycle 55 = .ok (.invokestatic 152, 3) := by decide +kernel
theorem dX9_cycle_58 : decode cX9_cycle 58 = .ok (.l2i, 1) := by decide +kernel
theorem dX9_cycle_59 : decode cX9_cycle 59 = .ok (.idiv, 1) := by decide +kernel
theorem dX9_cycle_60 : decode cX9_cycle 60 = .ok (.iload_n 3, 1) := by decide +kernel
theorem dX9_cycle_61 : decode cX9_cycle 61 = .ok (.imul, 1) := by decide +kernel
theorem dX9_cycle_62 : decode cX9_cycle 62 = .ok (.istore_n 1, 1) := by decide +kernel
theorem dX9_cycle_63 : decode cX9_cycle 63 = .ok (.iinc 2 1, 3) := by decide +kernel
theorem dX9_cycle_66 : decode cX9_cycle 66 = .ok (.goto (-57), 3) := by decide +kernel
theorem dX9_cycle_69 : decode cX9_cycle 69 = .ok (.iload_n 1, 1) := by decide +kernel
theorem dX9_cycle_70 : decode cX9_cycle 70 = .ok (.ireturn, 1) := by decide +kernel
set_option maxRecDepth 20000 in
theorem ggX9_night_X9_squareOf : GoodIn wsX9_night wsX9_squareOf := goodIn_r _ [12, 7, 5, 28, 29, 30, 31, 32, 33, 34, 35, 36, 37, 38, 39, 40, 41, 42, 43, 44, 45, 46, 47, 48, 49, 50, 51, 52, 53] (by decide +kernel) (by decide +kernel)
set_option maxRecDepth 20000 in
theorem gX9_night_X9_squareOf : GoodIn wsX9_night (wsV RX9 134 RX9 yX9_squareOf wsX9_squareOf) := goodIn_app (goodIn_of _ (by decide +kernel)) ggX9_night_X9_squareOf
set_option maxRecDepth 20000 in
theorem ggX9_night_X9_whoseIs : GoodIn wsX9_night wsX9_whoseIs := goodIn_r _ [16, 2, 17, 18, 19, 11, 20, 21, 22, 23, 24, 5, 25, 26, 27, 28, 29, 30, 31, 32, 33, 34, 35, 36, 37, 38, 39, 40, 41, 42, 43, 44, 45, 46, 47, 48, 49, 50, 51, 52, 53] (by decide +kernel) (by decide +kernel)
set_option maxRecDepth 20000 in
theorem gX9_night_X9_whoseIs : GoodIn wsX9_night (wsV RX9 149 RX9 yX9_whoseIs wsX9_whoseIs) := goodIn_app (goodIn_of _ (by decide +kernel)) ggX9_night_X9_whoseIs
theorem dX9_night_0 : decode cX9_night 0 = .ok (.aload_n 0, 1) := by decide +kernel
theorem dX9_night_1 : decode cX9_night 1 = .ok (.iconst 0, 1) := by decide +kernel
theorem dX9_night_2 : decode cX9_night 2 = .ok (.putfield 42, 3) := by decide +kernel
theorem dX9_night_5 : decode cX9_night 5 = .ok (.aload_n 0, 1) := by decide +kernel
theorem dX9_night_6 : decode cX9_night 6 = .ok (.getfield 22, 3) := by decide +kernel
theorem dX9_night_9 : decode cX9_night 9 = .ok (.iconst 0, 1) := by decide +kernel
theorem dX9_night_10 : decode cX9_night 10 = .ok (.iaload, 1) := by decide +kernel
theorem dX9_night_11 : decode cX9_night 11 = .ok (.bipush 99, 2) := by decide +kernel
theorem dX9_night_13 : decode cX9_night 13 = .ok (.if_icmp .ne 6, 3) := by decide +kernel
theorem dX9_night_16 : decode cX9_night 16 = .ok (.bipush (-2), 2) := by decide +kernel
theorem dX9_night_18 : decode cX9_night 18 = .ok (.ireturn, 1) := by decide +kernel
theorem dX9_night_19 : decode cX9_night 19 = .ok (.aload_n 0, 1) := by decide +kernel
theorem dX9_night_20 : decode cX9_night 20 = .ok (.getfield 22, 3) := by decide +kernel
theorem dX9_night_23 : decode cX9_night 23 = .ok (.iconst 1, 1) := by decide +kernel
theorem dX9_night_24 : decode cX9_night 24 = .ok (.aload_n 0, 1) := by decide +kernel
theorem dX9_night_25 : decode cX9_night 25 = .ok (.getfield 22, 3) := by decide +kernel
theorem dX9_night_28 : decode cX9_night 28 = .ok (.iconst 1, 1) := by decide +kernel
theorem dX9_night_29 : decode cX9_night 29 = .ok (.iaload, 1) := by decide +kernel
theorem dX9_night_30 : decode cX9_night 30 = .ok (.ldc 156, 2) := by decide +kernel
theorem dX9_night_32 : decode cX9_night 32 = .ok (.imul, 1) := by decide +kernel
theorem dX9_night_33 : decode cX9_night 33 = .ok (.sipush 12345, 3) := by decide +kernel
theorem dX9_night_36 : decode cX9_night 36 = .ok (.iadd, 1) := by decide +kernel
theorem dX9_night_37 : decode cX9_night 37 = .ok (.iastore, 1) := by decide +kernel
theorem dX9_night_38 : decode cX9_night 38 = .ok (.aload_n 0, 1) := by decide +kernel
theorem dX9_night_39 : decode cX9_night 39 = .ok (.getfield 22, 3) := by decide +kernel
theorem dX9_night_42 : decode cX9_night 42 = .ok (.iconst 1, 1) := by decide +kernel
theorem dX9_night_43 : decode cX9_night 43 = .ok (.iaload, 1) := by decide +kernel
theorem dX9_night_44 : decode cX9_night 44 = .ok (.bipush 16, 2) := by decide +kernel
theorem dX9_night_46 : decode cX9_night 46 = .ok (.ishr, 1) := by decide +kernel
theorem dX9_night_47 : decode cX9_night 47 = .ok (.ldc 157, 2) := by decide +kernel
theorem dX9_night_49 : decode cX9_night 49 = .ok (.iand, 1) := by decide +kernel
theorem dX9_night_50 : decode cX9_night 50 = .ok (.aload_n 0, 1) := by decide +kernel
theorem dX9_night_51 : decode cX9_night 51 = .ok (.getfield 38, 3) := by decide +kernel
theorem dX9_night_54 : decode cX9_night 54 = .ok (.irem, 1) := by decide +kernel
theorem dX9_night_55 : decode cX9_night 55 = .ok (.istore_n 1, 1) := by decide +kernel
theorem dX9_night_56 : decode cX9_night 56 = .ok (.iconst 0, 1) := by decide +kernel
theorem dX9_night_57 : decode cX9_night 57 = .ok (.istore_n 2, 1) := by decide +kernel
theorem dX9_night_58 : decode cX9_night 58 = .ok (.iload_n 2, 1) := by decide +kernel
theorem dX9_night_59 : decode cX9_night 59 = .ok (.aload_n 0, 1) := by decide +kernel
theorem dX9_night_60 : decode cX9_night 60 = .ok (.getfield 118, 3) := by decide +kernel
theorem dX9_night_63 : decode cX9_night 63 = .ok (.if_icmp .ge 68, 3) := by decide +kernel
theorem dX9_night_66 : decode cX9_night 66 = .ok (.aload_n 0, 1) := by decide +kernel
theorem dX9_night_67 : decode cX9_night 67 = .ok (.iload_n 2, 1) := by decide +kernel
theorem dX9_night_68 : decode cX9_night 68 = .ok (.aload_n 0, 1) := by decide +kernel
theorem dX9_night_69 : decode cX9_night 69 = .ok (.getfield 22, 3) := by decide +kernel
theorem dX9_night_72 : decode cX9_night 72 = .ok (.iconst 0, 1) := by decide +kernel
theorem dX9_night_73 : decode cX9_night 73 = .ok (.iaload, 1) := by decide +kernel
theorem dX9_night_74 : decode cX9_night 74 = .ok (.invokevirtual 134, 3) := by decide +kernel
theorem dX9_night_77 : decode cX9_night 77 = .ok (.istore_n 3, 1) := by decide +kernel
theorem dX9_night_78 : decode cX9_night 78 = .ok (.aload_n 0, 1) := by decide +kernel
theorem dX9_night_79 : decode cX9_night 79 = .ok (.iload_n 3, 1) := by decide +kernel
theorem dX9_night_80 : decode cX9_night 80 = .ok (.aload_n 0, 1) := by decide +kernel
theorem dX9_night_81 : decode cX9_night 81 = .ok (.getfield 22, 3) := by decide +kernel
theorem dX9_night_84 : decode cX9_night 84 = .ok (.iconst 0, 1) := by decide +kernel
theorem dX9_night_85 : decode cX9_night 85 = .ok (.iaload, 1) := by decide +kernel
theorem dX9_night_86 : decode cX9_night 86 = .ok (.invokevirtual 149, 3) := by decide +kernel
theorem dX9_night_89 : decode cX9_night 89 = .ok (.istore 4, 2) := by decide +kernel
theorem dX9_night_91 : decode cX9_night 91 = .ok (.iload_n 3, 1) := by decide +kernel
theorem dX9_night_92 : decode cX9_night 92 = .ok (.iload_n 1, 1) := by decide +kernel
theorem dX9_night_93 : decode cX9_night 93 = .ok (.if_icmp .eq 32, 3) := by decide +kernel
theorem dX9_night_96 : decode cX9_night 96 = .ok (.iload 4, 2) := by decide +kernel
theorem dX9_night_98 : decode cX9_night 98 = .ok (.bipush (-9), 2) := by decide +kernel
theorem dX9_night_100 : decode cX9_night 100 = .ok (.if_icmp .eq 25, 3) := by decide +kernel
theorem dX9_night_103 : decode cX9_night 103 = .ok (.aload_n 0, 1) := by decide +kernel
theorem dX9_night_104 : decode cX9_night 104 = .ok (.getfield 22, 3) := by decide +kernel
theorem dX9_night_107 : decode cX9_night 107 = .ok (.iconst 2, 1) := by decide +kernel
theorem dX9_night_108 : decode cX9_night 108 = .ok (.iload 4, 2) := by decide +kernel
theorem dX9_night_110 : decode cX9_night 110 = .ok (.iadd, 1) := by decide +kernel
theorem dX9_night_111 : decode cX9_night 111 = .ok (.dup2, 1) := by decide +kernel
theorem dX9_night_112 : decode cX9_night 112 = .ok (.iaload, 1) := by decide +kernel
theorem dX9_night_113 : decode cX9_night 113 = .ok (.aload_n 0, 1) := by decide +kernel
theorem dX9_night_114 : decode cX9_night 114 = .ok (.getfield 13, 3) := by decide +kernel
theorem dX9_night_117 : decode cX9_night 117 = .ok (.iconst 3, 1) := by decide +kernel
theorem dX9_night_118 : decode cX9_night 118 = .ok (.iload_n 2, 1) := by decide +kernel
theorem dX9_night_119 : decode cX9_night 119 = .ok (.imul, 1) := by decide +kernel
theorem dX9_night_120 : decode cX9_night 120 = .ok (.iconst 2, 1) := by decide +kernel
theorem dX9_night_121 : decode cX9_night 121 = .ok (.iadd, 1) := by decide +kernel
theorem dX9_night_122 : decode cX9_night 122 = .ok (.iaload, 1) := by decide +kernel
theorem dX9_night_123 : decode cX9_night 123 = .ok (.iadd, 1) := by decide +kernel
theorem dX9_night_124 : decode cX9_night 124 = .ok (.iastore, 1) := by decide +kernel
theorem dX9_night_125 : decode cX9_night 125 = .ok (.iinc 2 1, 3) := by decide +kernel
theorem dX9_night_128 : decode cX9_night 128 = .ok (.goto (-70), 3) := by decide +kernel
theorem dX9_night_131 : decode cX9_night 131 = .ok (.aload_n 0, 1) := by decide +kernel
theorem dX9_night_132 : decode cX9_night 132 = .ok (.getfield 22, 3) := by decide +kernel
theorem dX9_night_135 : decode cX9_night 135 = .ok (.iconst 0, 1) := by decide +kernel
theorem dX9_night_136 : decode cX9_night 136 = .ok (.dup2, 1) := by decide +kernel
theorem dX9_night_137 : decode cX9_night 137 = .ok (.iaload, 1) := by decide +kernel
theorem dX9_night_138 : decode cX9_night 138 = .ok (.iconst 1, 1) := by decide +kernel
theorem dX9_night_139 : decode cX9_night 139 = .ok (.iadd, 1) := by decide +kernel
theorem dX9_night_140 : decode cX9_night 140 = .ok (.iastore, 1) := by decide +kernel
theorem dX9_night_141 : decode cX9_night 141 = .ok (.iload_n 1, 1) := by decide +kernel
theorem dX9_night_142 : decode cX9_night 142 = .ok (.ireturn, 1) := by decide +kernel
set_option maxRecDepth 20000 in
theorem ggX9_purse_X9_isTenant : GoodIn wsX9_purse wsX9_isTenant := goodIn_r _ [7, 8, 9, 10, 6, 11, 12, 13, 14, 15, 16, 17, 18, 19, 20, 21, 22, 23, 24, 25, 26, 27, 28, 29, 30, 31, 32, 33, 34, 35, 36, 37] (by decide +kernel) (by decide +kernel)
set_option maxRecDepth 20000 in
theorem gX9_purse_X9_isTenant : GoodIn wsX9_purse (wsV RX9 158 RX9 yX9_isTenant wsX9_isTenant) := goodIn_app (goodIn_of _ (by decide +kernel)) ggX9_purse_X9_isTenant
theorem dX9_purse_0 : decode cX9_purse 0 = .ok (.aload_n 0, 1) := by decide +kernel
theorem dX9_purse_1 : decode cX9_purse 1 = .ok (.iconst 0, 1) := by decide +kernel
theorem dX9_purse_2 : decode cX9_purse 2 = .ok (.putfield 42, 3) := by decide +kernel
theorem dX9_purse_5 : decode cX9_purse 5 = .ok (.aload_n 0, 1) := by decide +kernel
theorem dX9_purse_6 : decode cX9_purse 6 = .ok (.iload_n 1, 1) := by decide +kernel
theorem dX9_purse_7 : decode cX9_purse 7 = .ok (.invokevirtual 158, 3) := by decide +kernel
theorem dX9_purse_10 : decode cX9_purse 10 = .ok (.ifCond .eq 14, 3) := by decide +kernel
