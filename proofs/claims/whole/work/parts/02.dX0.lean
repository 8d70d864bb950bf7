theorem dX0_init_0 : decode cX0_init 0 = .ok (.aload_n 0, 1) := by decide +kernel
theorem dX0_init_1 : decode cX0_init 1 = .ok (.invokespecial 3, 3) := by decide +kernel
theorem dX0_init_4 : decode cX0_init 4 = .ok (.aload_n 0, 1) := by decide +kernel
theorem dX0_init_5 : decode cX0_init 5 = .ok (.bipush 40, 2) := by decide +kernel
theorem dX0_init_7 : decode cX0_init 7 = .ok (.newarray .int, 2) := by decide +kernel
theorem dX0_init_9 : decode cX0_init 9 = .ok (.putfield 9, 3) := by decide +kernel
theorem dX0_init_12 : decode cX0_init 12 = .ok (.aload_n 0, 1) := by decide +kernel
theorem dX0_init_13 : decode cX0_init 13 = .ok (.bipush 40, 2) := by decide +kernel
theorem dX0_init_15 : decode cX0_init 15 = .ok (.newarray .int, 2) := by decide +kernel
theorem dX0_init_17 : decode cX0_init 17 = .ok (.putfield 15, 3) := by decide +kernel
theorem dX0_init_20 : decode cX0_init 20 = .ok (.aload_n 0, 1) := by decide +kernel
theorem dX0_init_21 : decode cX0_init 21 = .ok (.bipush 40, 2) := by decide +kernel
theorem dX0_init_23 : decode cX0_init 23 = .ok (.newarray .int, 2) := by decide +kernel
theorem dX0_init_25 : decode cX0_init 25 = .ok (.putfield 18, 3) := by decide +kernel
theorem dX0_init_28 : decode cX0_init 28 = .ok (.return_, 1) := by decide +kernel
theorem dX0_has_0 : decode cX0_has 0 = .ok (.iload_n 1, 1) := by decide +kernel
theorem dX0_has_1 : decode cX0_has 1 = .ok (.ifCond .lt 15, 3) := by decide +kernel
theorem dX0_has_4 : decode cX0_has 4 = .ok (.iload_n 1, 1) := by decide +kernel
theorem dX0_has_5 : decode cX0_has 5 = .ok (.aload_n 0, 1) := by decide +kernel
theorem dX0_has_6 : decode cX0_has 6 = .ok (.getfield 21, 3) := by decide +kernel
theorem dX0_has_9 : decode cX0_has 9 = .ok (.if_icmp .ge 7, 3) := by decide +kernel
theorem dX0_has_12 : decode cX0_has 12 = .ok (.iconst 1, 1) := by decide +kernel
theorem dX0_has_13 : decode cX0_has 13 = .ok (.goto 4, 3) := by decide +kernel
theorem dX0_has_16 : decode cX0_has 16 = .ok (.iconst 0, 1) := by decide +kernel
theorem dX0_has_17 : decode cX0_has 17 = .ok (.ireturn, 1) := by decide +kernel
set_option maxRecDepth 20000 in
theorem ggX0_add_X0_sizeFor : GoodIn wsX0_add wsX0_sizeFor := goodIn_r _ [8] (by decide +kernel) (by decide +kernel)
set_option maxRecDepth 20000 in
theorem gX0_add_X0_sizeFor : GoodIn wsX0_add (va_wsS RX0 25 yX0_sizeFor wsX0_sizeFor) := goodIn_app (goodIn_of _ (by decide +kernel)) ggX0_add_X0_sizeFor
theorem dX0_add_0 : decode cX0_add 0 = .ok (.iload_n 1, 1) := by decide +kernel
theorem dX0_add_1 : decode cX0_add 1 = .ok (.ifCond .lt 19, 3) := by decide +kernel
theorem dX0_add_4 : decode cX0_add 4 = .ok (.iload_n 1, 1) := by decide +kernel
theorem dX0_add_5 : decode cX0_add 5 = .ok (.iconst 2, 1) := by decide +kernel
theorem dX0_add_6 : decode cX0_add 6 = .ok (.if_icmp .gt 14, 3) := by decide +kernel
theorem dX0_add_9 : decode cX0_add 9 = .ok (.iload_n 2, 1) := by decide +kernel
theorem dX0_add_10 : decode cX0_add 10 = .ok (.iconst 1, 1) := by decide +kernel
theorem dX0_add_11 : decode cX0_add 11 = .ok (.if_icmp .lt 9, 3) := by decide +kernel
theorem dX0_add_14 : decode cX0_add 14 = .ok (.iload_n 2, 1) := by decide +kernel
theorem dX0_add_15 : decode cX0_add 15 = .ok (.bipush 9, 2) := by decide +kernel
theorem dX0_add_17 : decode cX0_add 17 = .ok (.if_icmp .le 6, 3) := by decide +kernel
theorem dX0_add_20 : decode cX0_add 20 = .ok (.bipush (-4), 2) := by decide +kernel
theorem dX0_add_22 : decode cX0_add 22 = .ok (.ireturn, 1) := by decide +kernel
theorem dX0_add_23 : decode cX0_add 23 = .ok (.iload_n 3, 1) := by decide +kernel
theorem dX0_add_24 : decode cX0_add 24 = .ok (.ifCond .lt 15, 3) := by decide +kernel
theorem dX0_add_27 : decode cX0_add 27 = .ok (.iload_n 3, 1) := by decide +kernel
theorem dX0_add_28 : decode cX0_add 28 = .ok (.bipush 64, 2) := by decide +kernel
theorem dX0_add_30 : decode cX0_add 30 = .ok (.iload_n 1, 1) := by decide +kernel
theorem dX0_add_31 : decode cX0_add 31 = .ok (.iload_n 2, 1) := by decide +kernel
theorem dX0_add_32 : decode cX0_add 32 = .ok (.invokestatic 25, 3) := by decide +kernel
theorem dX0_add_35 : decode cX0_add 35 = .ok (.isub, 1) := by decide +kernel
theorem dX0_add_36 : decode cX0_add 36 = .ok (.if_icmp .le 6, 3) := by decide +kernel
theorem dX0_add_39 : decode cX0_add 39 = .ok (.bipush (-4), 2) := by decide +kernel
theorem dX0_add_41 : decode cX0_add 41 = .ok (.ireturn, 1) := by decide +kernel
theorem dX0_add_42 : decode cX0_add 42 = .ok (.aload_n 0, 1) := by decide +kernel
theorem dX0_add_43 : decode cX0_add 43 = .ok (.getfield 21, 3) := by decide +kernel
theorem dX0_add_46 : decode cX0_add 46 = .ok (.bipush 40, 2) := by decide +kernel
theorem dX0_add_48 : decode cX0_add 48 = .ok (.if_icmp .lt 5, 3) := by decide +kernel
theorem dX0_add_51 : decode cX0_add 51 = .ok (.iconst (-1), 1) := by decide +kernel
theorem dX0_add_52 : decode cX0_add 52 = .ok (.ireturn, 1) := by decide +kernel
theorem dX0_add_53 : decode cX0_add 53 = .ok (.aload_n 0, 1) := by decide +kernel
theorem dX0_add_54 : decode cX0_add 54 = .ok (.getfield 9, 3) := by decide +kernel
theorem dX0_add_57 : decode cX0_add 57 = .ok (.aload_n 0, 1) := by decide +kernel
theorem dX0_add_58 : decode cX0_add 58 = .ok (.getfield 21, 3) := by decide +kernel
theorem dX0_add_61 : decode cX0_add 61 = .ok (.iload_n 1, 1) := by decide +kernel
theorem dX0_add_62 : decode cX0_add 62 = .ok (.iastore, 1) := by decide +kernel
theorem dX0_add_63 : decode cX0_add 63 = .ok (.aload_n 0, 1) := by decide +kernel
theorem dX0_add_64 : decode cX0_add 64 = .ok (.getfield 15, 3) := by decide +kernel
theorem dX0_add_67 : decode cX0_add 67 = .ok (.aload_n 0, 1) := by decide +kernel
theorem dX0_add_68 : decode cX0_add 68 = .ok (.getfield 21, 3) := by decide +kernel
theorem dX0_add_71 : decode cX0_add 71 = .ok (.iload_n 2, 1) := by decide +kernel
theorem dX0_add_72 : decode cX0_add 72 = .ok (.iastore, 1) := by decide +kernel
theorem dX0_add_73 : decode cX0_add 73 = .ok (.aload_n 0, 1) := by decide +kernel
theorem dX0_add_74 : decode cX0_add 74 = .ok (.getfield 18, 3) := by decide +kernel
theorem dX0_add_77 : decode cX0_add 77 = .ok (.aload_n 0, 1) := by decide +kernel
theorem dX0_add_78 : decode cX0_add 78 = .ok (.getfield 21, 3) := by decide +kernel
theorem dX0_add_81 : decode cX0_add 81 = .ok (.iload_n 3, 1) := by decide +kernel
theorem dX0_add_82 : decode cX0_add 82 = .ok (.iastore, 1) := by decide +kernel
theorem dX0_add_83 : decode cX0_add 83 = .ok (.aload_n 0, 1) := by decide +kernel
theorem dX0_add_84 : decode cX0_add 84 = .ok (.dup, 1) := by decide +kernel
theorem dX0_add_85 : decode cX0_add 85 = .ok (.getfield 21, 3) := by decide +kernel
theorem dX0_add_88 : decode cX0_add 88 = .ok (.iconst 1, 1) := by decide +kernel
theorem dX0_add_89 : decode cX0_add 89 = .ok (.iadd, 1) := by decide +kernel
theorem dX0_add_90 : decode cX0_add 90 = .ok (.putfield 21, 3) := by decide +kernel
theorem dX0_add_93 : decode cX0_add 93 = .ok (.aload_n 0, 1) := by decide +kernel
theorem dX0_add_94 : decode cX0_add 94 = .ok (.getfield 21, 3) := by decide +kernel
theorem dX0_add_97 : decode cX0_add 97 = .ok (.iconst 1, 1) := by decide +kernel
theorem dX0_add_98 : decode cX0_add 98 = .ok (.isub, 1) := by decide +kernel
theorem dX0_add_99 : decode cX0_add 99 = .ok (.ireturn, 1) := by decide +kernel
theorem dX0_sizeFor_0 : decode cX0_sizeFor 0 = .ok (.iload_n 0, 1) := by decide +kernel
theorem dX0_sizeFor_1 : decode cX0_sizeFor 1 = .ok (.iconst 2, 1) := by decide +kernel
theorem dX0_sizeFor_2 : decode cX0_sizeFor 2 = .ok (.if_icmp .ne 5, 3) := by decide +kernel
theorem dX0_sizeFor_5 : decode cX0_sizeFor 5 = .ok (.iconst 4, 1) := by decide +kernel
theorem dX0_sizeFor_6 : decode cX0_sizeFor 6 = .ok (.ireturn, 1) := by decide +kernel
theorem dX0_sizeFor_7 : decode cX0_sizeFor 7 = .ok (.iload_n 0, 1) := by decide +kernel
theorem dX0_sizeFor_8 : decode cX0_sizeFor 8 = .ok (.iconst 1, 1) := by decide +kernel
theorem dX0_sizeFor_9 : decode cX0_sizeFor 9 = .ok (.if_icmp .ne 11, 3) := by decide +kernel
theorem dX0_sizeFor_12 : decode cX0_sizeFor 12 = .ok (.iload_n 1, 1) := by decide +kernel
theorem dX0_sizeFor_13 : decode cX0_sizeFor 13 = .ok (.iconst 2, 1) := by decide +kernel
theorem dX0_sizeFor_14 : decode cX0_sizeFor 14 = .ok (.idiv, 1) := by decide +kernel
theorem dX0_sizeFor_15 : decode cX0_sizeFor 15 = .ok (.iconst 1, 1) := by decide +kernel
theorem dX0_sizeFor_16 : decode cX0_sizeFor 16 = .ok (.iadd, 1) := by decide +kernel
theorem dX0_sizeFor_17 : decode cX0_sizeFor 17 = .ok (.goto 4, 3) := by decide +kernel
theorem dX0_sizeFor_20 : decode cX0_sizeFor 20 = .ok (.iload_n 1, 1) := by decide +kernel
theorem dX0_sizeFor_21 : decode cX0_sizeFor 21 = .ok (.ireturn, 1) := by decide +kernel
set_option maxRecDepth 20000 in
theorem ggX0_surelyWithin_X0_has : GoodIn wsX0_surelyWithin wsX0_has := goodIn_r _ [7, 8, 9, 10, 11, 12] (by decide +kernel) (by decide +kernel)
set_option maxRecDepth 20000 in
theorem gX0_surelyWithin_X0_has : GoodIn wsX0_surelyWithin (wsV RX0 29 RX0 yX0_has wsX0_has) := goodIn_app (goodIn_of _ (by decide +kernel)) ggX0_surelyWithin_X0_has
theorem dX0_surelyWithin_0 : decode cX0_surelyWithin 0 = .ok (.aload_n 0, 1) := by decide +kernel
theorem dX0_surelyWithin_1 : decode cX0_surelyWithin 1 = .ok (.iload_n 1, 1) := by decide +kernel
theorem dX0_surelyWithin_2 : decode cX0_surelyWithin 2 = .ok (.invokevirtual 29, 3) := by decide +kernel
theorem dX0_surelyWithin_5 : decode cX0_surelyWithin 5 = .ok (.ifCond .ne 5, 3) := by decide +kernel
theorem dX0_surelyWithin_8 : decode cX0_surelyWithin 8 = .ok (.iconst 0, 1) := by decide +kernel
theorem dX0_surelyWithin_9 : decode cX0_surelyWithin 9 = .ok (.ireturn, 1) := by decide +kernel
theorem dX0_surelyWithin_10 : decode cX0_surelyWithin 10 = .ok (.aload_n 0, 1) := by decide +kernel
theorem dX0_surelyWithin_11 : decode cX0_surelyWithin 11 = .ok (.getfield 9, 3) := by decide +kernel
theorem dX0_surelyWithin_14 : decode cX0_surelyWithin 14 = .ok (.iload_n 1, 1) := by decide +kernel
theorem dX0_surelyWithin_15 : decode cX0_surelyWithin 15 = .ok (.iaload, 1) := by decide +kernel
theorem dX0_surelyWithin_16 : decode cX0_surelyWithin 16 = .ok (.iconst 2, 1) := by decide +kernel
theorem dX0_surelyWithin_17 : decode cX0_surelyWithin 17 = .ok (.if_icmp .ne 8, 3) := by decide +kernel
theorem dX0_surelyWithin_20 : decode cX0_surelyWithin 20 = .ok (.bipush 10, 2) := by decide +kernel
theorem dX0_surelyWithin_22 : decode cX0_surelyWithin 22 = .ok (.goto 9, 3) := by decide +kernel
theorem dX0_surelyWithin_25 : decode cX0_surelyWithin 25 = .ok (.aload_n 0, 1) := by decide +kernel
theorem dX0_surelyWithin_26 : decode cX0_surelyWithin 26 = .ok (.getfield 15, 3) := by decide +kernel
theorem dX0_surelyWithin_29 : decode cX0_surelyWithin 29 = .ok (.iload_n 1, 1) := by decide +kernel
theorem dX0_surelyWithin_30 : decode cX0_surelyWithin 30 = .ok (.iaload, 1) := by decide +kernel
theorem dX0_surelyWithin_31 : decode cX0_surelyWithin 31 = .ok (.ireturn, 1) := by decide +kernel
set_option maxRecDepth 20000 in
theorem ggX0_placeBehind_X0_has : GoodIn wsX0_placeBehind wsX0_has := goodIn_r _ [10, 11, 15, 16, 17, 18] (by decide +kernel) (by decide +kernel)
set_option maxRecDepth 20000 in
theorem gX0_placeBehind_X0_has : GoodIn wsX0_placeBehind (wsV RX0 29 RX0 yX0_has wsX0_has) := goodIn_app (goodIn_of _ (by decide +kernel)) ggX0_placeBehind_X0_has
set_option maxRecDepth 20000 in
theorem ggX0_placeBehind_X0_sizeFor : GoodIn wsX0_placeBehind wsX0_sizeFor := goodIn_r _ [14] (by decide +kernel) (by decide +kernel)
set_option maxRecDepth 20000 in
theorem gX0_placeBehind_X0_sizeFor : GoodIn wsX0_placeBehind (va_wsS RX0 25 yX0_sizeFor wsX0_sizeFor) := goodIn_app (goodIn_of _ (by decide +kernel)) ggX0_placeBehind_X0_sizeFor
theorem dX0_placeBehind_0 : decode cX0_placeBehind 0 = .ok (.aload_n 0, 1) := by decide +kernel
theorem dX0_placeBehind_1 : decode cX0_placeBehind 1 = .ok (.iload_n 1, 1) := by decide +kernel
theorem dX0_placeBehind_2 : decode cX0_placeBehind 2 = .ok (.invokevirtual 29, 3) := by decide +kernel
theorem dX0_placeBehind_5 : decode cX0_placeBehind 5 = .ok (.ifCond .eq 19, 3) := by decide +kernel
theorem dX0_placeBehind_8 : decode cX0_placeBehind 8 = .ok (.lload_n 2, 1) := by decide +kernel
theorem dX0_placeBehind_9 : decode cX0_placeBehind 9 = .ok (.ldc2_w 33, 3) := by decide +kernel
theorem dX0_placeBehind_12 : decode cX0_placeBehind 12 = .ok (.lcmp, 1) := by decide +kernel
theorem dX0_placeBehind_13 : decode cX0_placeBehind 13 = .ok (.ifCond .lt 11, 3) := by decide +kernel
theorem dX0_placeBehind_16 : decode cX0_placeBehind 16 = .ok (.lload_n 2, 1) := by decide +kernel
theorem dX0_placeBehind_17 : decode cX0_placeBehind 17 = .ok (.ldc2_w 35, 3) := by decide +kernel
theorem dX0_placeBehind_20 : decode cX0_placeBehind 20 = .ok (.lcmp, 1) := by decide +kernel
theorem dX0_placeBehind_21 : decode cX0_placeBehind 21 = .ok (.ifCond .le 5, 3) := by decide +kernel
theorem dX0_placeBehind_24 : decode cX0_placeBehind 24 = .ok (.iconst (-1), 1) := by decide +kernel
theorem dX0_placeBehind_25 : decode cX0_placeBehind 25 = .ok (.ireturn, 1) := by decide +kernel
theorem dX0_placeBehind_26 : decode cX0_placeBehind 26 = .ok (.aload_n 0, 1) := by decide +kernel
theorem dX0_placeBehind_27 : decode cX0_placeBehind 27 = .ok (.getfield 9, 3) := by decide +kernel
theorem dX0_placeBehind_30 : decode cX0_placeBehind 30 = .ok (.iload_n 1, 1) := by decide +kernel
theorem dX0_placeBehind_31 : decode cX0_placeBehind 31 = .ok (.iaload, 1) := by decide +kernel
theorem dX0_placeBehind_32 : decode cX0_placeBehind 32 = .ok (.aload_n 0, 1) := by decide +kernel
theorem dX0_placeBehind_33 : decode cX0_placeBehind 33 = .ok (.getfield 15, 3) := by decide +kernel
theorem dX0_placeBehind_36 : decode cX0_placeBehind 36 = .ok (.iload_n 1, 1) := by decide +kernel
theorem dX0_placeBehind_37 : decode cX0_placeBehind 37 = .ok (.iaload, 1) := by decide +kernel
theorem dX0_placeBehind_38 : decode cX0_placeBehind 38 = .ok (.invokestatic 25, 3) := by decide +kernel
theorem dX0_placeBehind_41 : decode cX0_placeBehind 41 = .ok (.istore 4, 2) := by decide +kernel
theorem dX0_placeBehind_43 : decode cX0_placeBehind 43 = .ok (.aload_n 0, 1) := by decide +kernel
theorem dX0_placeBehind_44 : decode cX0_placeBehind 44 = .ok (.getfield 18, 3) := by decide +kernel
theorem dX0_placeBehind_47 : decode cX0_placeBehind 47 = .ok (.iload_n 1, 1) := by decide +kernel
theorem dX0_placeBehind_48 : decode cX0_placeBehind 48 = .ok (.iaload, 1) := by decide +kernel
theorem dX0_placeBehind_49 : decode cX0_placeBehind 49 = .ok (.lload_n 2, 1) := by decide +kernel
theorem dX0_placeBehind_50 : decode cX0_placeBehind 50 = .ok (.l2i, 1) := by decide +kernel
theorem dX0_placeBehind_51 : decode cX0_placeBehind 51 = .ok (.iload 4, 2) := by decide +kernel
theorem dX0_placeBehind_53 : decode cX0_placeBehind 53 = .ok (.imul, 1) := by decide +kernel
theorem dX0_placeBehind_54 : decode cX0_placeBehind 54 = .ok (.iadd, 1) := by decide +kernel
theorem dX0_placeBehind_55 : decode cX0_placeBehind 55 = .ok (.istore 5, 2) := by decide +kernel
theorem dX0_placeBehind_57 : decode cX0_placeBehind 57 = .ok (.iload 5, 2) := by decide +kernel
theorem dX0_placeBehind_59 : decode cX0_placeBehind 59 = .ok (.ifCond .lt 13, 3) := by decide +kernel
theorem dX0_placeBehind_62 : decode cX0_placeBehind 62 = .ok (.iload 5, 2) := by decide +kernel
theorem dX0_placeBehind_64 : decode cX0_placeBehind 64 = .ok (.bipush 64, 2) := by decide +kernel
theorem dX0_placeBehind_66 : decode cX0_placeBehind 66 = .ok (.iload 4, 2) := by decide +kernel
theorem dX0_placeBehind_68 : decode cX0_placeBehind 68 = .ok (.isub, 1) := by decide +kernel
theorem dX0_placeBehind_69 : decode cX0_placeBehind 69 = .ok (.if_icmp .le 7, 3) := by decide +kernel
theorem dX0_placeBehind_72 : decode cX0_placeBehind 72 = .ok (.iconst (-1), 1) := by decide +kernel
theorem dX0_placeBehind_73 : decode cX0_placeBehind 73 = .ok (.goto 5, 3) := by decide +kernel
theorem dX0_placeBehind_76 : decode cX0_placeBehind 76 = .ok (.iload 5, 2) := by decide +kernel
theorem dX0_placeBehind_78 : decode cX0_placeBehind 78 = .ok (.ireturn, 1) := by decide +kernel
set_option maxRecDepth 20000 in
theorem ggX0_read_X0_has : GoodIn wsX0_read wsX0_has := goodIn_r _ [7, 8, 25, 26, 27, 28] (by decide +kernel) (by decide +kernel)
set_option maxRecDepth 20000 in
theorem gX0_read_X0_has : GoodIn wsX0_read (wsV RX0 29 RX0 yX0_has wsX0_has) := goodIn_app (goodIn_of _ (by decide +kernel)) ggX0_read_X0_has
set_option maxRecDepth 20000 in
theorem ggX0_read_X0_readBinary : GoodIn wsX0_read wsX0_readBinary := goodIn_r _ [11, 12, 13, 6, 14] (by decide +kernel) (by decide +kernel)
set_option maxRecDepth 20000 in
theorem gX0_read_X0_readBinary : GoodIn wsX0_read (va_wsS RX0 37 yX0_readBinary wsX0_readBinary) := goodIn_app (goodIn_of _ (by decide +kernel)) ggX0_read_X0_readBinary
set_option maxRecDepth 20000 in
theorem ggX0_read_X0_readPacked : GoodIn wsX0_read wsX0_readPacked := goodIn_r _ [17, 18, 19, 20, 6, 21, 12, 13, 14] (by decide +kernel) (by decide +kernel)
set_option maxRecDepth 20000 in
theorem gX0_read_X0_readPacked : GoodIn wsX0_read (va_wsS RX0 41 yX0_readPacked wsX0_readPacked) := goodIn_app (goodIn_of _ (by decide +kernel)) ggX0_read_X0_readPacked
set_option maxRecDepth 20000 in
theorem ggX0_read_X0_readZoned : GoodIn wsX0_read wsX0_readZoned := goodIn_r _ [24, 18, 12, 13, 6, 14] (by decide +kernel) (by decide +kernel)
set_option maxRecDepth 20000 in
theorem gX0_read_X0_readZoned : GoodIn wsX0_read (va_wsS RX0 45 yX0_readZoned wsX0_readZoned) := goodIn_app (goodIn_of _ (by decide +kernel)) ggX0_read_X0_readZoned
theorem dX0_read_0 : decode cX0_read 0 = .ok (.aload_n 0, 1) := by decide +kernel
theorem dX0_read_1 : decode cX0_read 1 = .ok (.iload_n 2, 1) := by decide +kernel
theorem dX0_read_2 : decode cX0_read 2 = .ok (.invokevirtual 29, 3) := by decide +kernel
theorem dX0_read_5 : decode cX0_read 5 = .ok (.ifCond .ne 5, 3) := by decide +kernel
theorem dX0_read_8 : decode cX0_read 8 = .ok (.lconst 0, 1) := by decide +kernel
theorem dX0_read_9 : decode cX0_read 9 = .ok (.lreturn, 1) := by decide +kernel
theorem dX0_read_10 : decode cX0_read 10 = .ok (.aload_n 0, 1) := by decide +kernel
theorem dX0_read_11 : decode cX0_read 11 = .ok (.getfield 9, 3) := by decide +kernel
theorem dX0_read_14 : decode cX0_read 14 = .ok (.iload_n 2, 1) := by decide +kernel
theorem dX0_read_15 : decode cX0_read 15 = .ok (.iaload, 1) := by decide +kernel
theorem dX0_read_16 : decode cX0_read 16 = .ok (.iconst 2, 1) := by decide +kernel
theorem dX0_read_17 : decode cX0_read 17 = .ok (.if_icmp .ne 9, 3) := by decide +kernel
theorem dX0_read_20 : decode cX0_read 20 = .ok (.aload_n 1, 1) := by decide +kernel
theorem dX0_read_21 : decode cX0_read 21 = .ok (.iload_n 3, 1) := by decide +kernel
theorem dX0_read_22 : decode cX0_read 22 = .ok (.invokestatic 37, 3) := by decide +kernel
theorem dX0_read_25 : decode cX0_read 25 = .ok (.lreturn, 1) := by decide +kernel
theorem dX0_read_26 : decode cX0_read 26 = .ok (.aload_n 0, 1) := by decide +kernel
theorem dX0_read_27 : decode cX0_read 27 = .ok (.getfield 9, 3) := by decide +kernel
theorem dX0_read_30 : decode cX0_read 30 = .ok (.iload_n 2, 1) := by decide +kernel
theorem dX0_read_31 : decode cX0_read 31 = .ok (.iaload, 1) := by decide +kernel
theorem dX0_read_32 : decode cX0_read 32 = .ok (.iconst 1, 1) := by decide +kernel
theorem dX0_read_33 : decode cX0_read 33 = .ok (.if_icmp .ne 17, 3) := by decide +kernel
theorem dX0_read_36 : decode cX0_read 36 = .ok (.aload_n 1, 1) := by decide +kernel
theorem dX0_read_37 : decode cX0_read 37 = .ok (.iload_n 3, 1) := by decide +kernel
theorem dX0_read_38 : decode cX0_read 38 = .ok (.aload_n 0, 1) := by decide +kernel
theorem dX0_read_39 : decode cX0_read 39 = .ok (.getfield 15, 3) := by decide +kernel
theorem dX0_read_42 : decode cX0_read 42 = .ok (.iload_n 2, 1) := by decide +kernel
theorem dX0_read_43 : decode cX0_read 43 = .ok (.iaload, 1) := by decide +kernel
theorem dX0_read_44 : decode cX0_read 44 = .ok (.invokestatic 41, 3) := by decide +kernel
theorem dX0_read_47 : decode cX0_read 47 = .ok (.goto 14, 3) := by decide +kernel
theorem dX0_read_50 : decode cX0_read 50 = .ok (.aload_n 1, 1) := by decide +kernel
theorem dX0_read_51 : decode cX0_read 51 = .ok (.iload_n 3, 1) := by decide +kernel
theorem dX0_read_52 : decode cX0_read 52 = .ok (.aload_n 0, 1) := by decide +kernel
theorem dX0_read_53 : decode cX0_read 53 = .ok (.getfield 15, 3) := by decide +kernel
theorem dX0_read_56 : decode cX0_read 56 = .ok (.iload_n 2, 1) := by decide +kernel
theorem dX0_read_57 : decode cX0_read 57 = .ok (.iaload, 1) := by decide +kernel
theorem dX0_read_58 : decode cX0_read 58 = .ok (.invokestatic 45, 3) := by decide +kernel
theorem dX0_read_61 : decode cX0_read 61 = .ok (.lreturn, 1) := by decide +kernel
set_option maxRecDepth 20000 in
theorem ggX0_write_X0_has : GoodIn wsX0_write wsX0_has := goodIn_r _ [7, 8, 30, 31, 32, 33] (by decide +kernel) (by decide +kernel)
set_option maxRecDepth 20000 in
theorem gX0_write_X0_has : GoodIn wsX0_write (wsV RX0 29 RX0 yX0_has wsX0_has) := goodIn_app (goodIn_of _ (by decide +kernel)) ggX0_write_X0_has
set_option maxRecDepth 20000 in
theorem ggX0_write_X0_lowestDigits : GoodIn wsX0_write wsX0_lowestDigits := goodIn_r _ [11, 12] (by decide +kernel) (by decide +kernel)
set_option maxRecDepth 20000 in
theorem gX0_write_X0_lowestDigits : GoodIn wsX0_write (va_wsS RX0 48 yX0_lowestDigits wsX0_lowestDigits) := goodIn_app (goodIn_of _ (by decide +kernel)) ggX0_write_X0_lowestDigits
set_option maxRecDepth 20000 in
theorem ggX0_write_X0_writeBinary : GoodIn wsX0_write wsX0_writeBinary := goodIn_r _ [15, 16, 17, 6, 18] (by decide +kernel) (by decide +kernel)
set_option maxRecDepth 20000 in
theorem gX0_write_X0_writeBinary : GoodIn wsX0_write (va_wsS RX0 52 yX0_writeBinary wsX0_writeBinary) := goodIn_app (goodIn_of _ (by decide +kernel)) ggX0_write_X0_writeBinary
set_option maxRecDepth 20000 in
theorem ggX0_write_X0_writePacked : GoodIn wsX0_write wsX0_writePacked := goodIn_r _ [21, 12, 22, 23, 24, 6, 25, 16, 17, 18] (by decide +kernel) (by decide +kernel)
set_option maxRecDepth 20000 in
theorem gX0_write_X0_writePacked : GoodIn wsX0_write (va_wsS RX0 56 yX0_writePacked wsX0_writePacked) := goodIn_app (goodIn_of _ (by decide +kernel)) ggX0_write_X0_writePacked
set_option maxRecDepth 20000 in
theorem ggX0_write_X0_writeZoned : GoodIn wsX0_write wsX0_writeZoned := goodIn_r _ [28, 29, 12, 16, 17, 6, 18] (by decide +kernel) (by decide +kernel)
set_option maxRecDepth 20000 in
theorem gX0_write_X0_writeZoned : GoodIn wsX0_write (va_wsS RX0 60 yX0_writeZoned wsX0_writeZoned) := goodIn_app (goodIn_of _ (by decide +kernel)) ggX0_write_X0_writeZoned
theorem dX0_write_0 : decode cX0_write 0 = .ok (.aload_n 0, 1) := by decide +kernel
theorem dX0_write_1 : decode cX0_write 1 = .ok (.iload_n 2, 1) := by decide +kernel
theorem dX0_write_2 : decode cX0_write 2 = .ok (.invokevirtual 29, 3) := by decide +kernel
theorem dX0_write_5 : decode cX0_write 5 = .ok (.ifCond .ne 4, 3) := by decide +kernel
theorem dX0_write_8 : decode cX0_write 8 = .ok (.return_, 1) := by decide +kernel
theorem dX0_write_9 : decode cX0_write 9 = .ok (.lload 4, 2) := by decide +kernel
theorem dX0_write_11 : decode cX0_write 11 = .ok (.aload_n 0, 1) := by decide +kernel
theorem dX0_write_12 : decode cX0_write 12 = .ok (.getfield 15, 3) := by decide +kernel
theorem dX0_write_15 : decode cX0_write 15 = .ok (.iload_n 2, 1) := by decide +kernel
theorem dX0_write_16 : decode cX0_write 16 = .ok (.iaload, 1) := by decide +kernel
theorem dX0_write_17 : decode cX0_write 17 = .ok (.invokestatic 48, 3) := by decide +kernel
theorem dX0_write_20 : decode cX0_write 20 = .ok (.lstore 6, 2) := by decide +kernel
theorem dX0_write_22 : decode cX0_write 22 = .ok (.aload_n 0, 1) := by decide +kernel
theorem dX0_write_23 : decode cX0_write 23 = .ok (.getfield 9, 3) := by decide +kernel
theorem dX0_write_26 : decode cX0_write 26 = .ok (.iload_n 2, 1) := by decide +kernel
theorem dX0_write_27 : decode cX0_write 27 = .ok (.iaload, 1) := by decide +kernel
theorem dX0_write_28 : decode cX0_write 28 = .ok (.iconst 2, 1) := by decide +kernel
theorem dX0_write_29 : decode cX0_write 29 = .ok (.if_icmp .ne 14, 3) := by decide +kernel
theorem dX0_write_32 : decode cX0_write 32 = .ok (.aload_n 1, 1) := by decide +kernel
theorem dX0_write_33 : decode cX0_write 33 = .ok (.iload_n 3, 1) := by decide +kernel
theorem dX0_write_34 : decode cX0_write 34 = .ok (.lload 6, 2) := by decide +kernel
theorem dX0_write_36 : decode cX0_write 36 = .ok (.l2i, 1) := by decide +kernel
theorem dX0_write_37 : decode cX0_write 37 = .ok (.invokestatic 52, 3) := by decide +kernel
theorem dX0_write_40 : decode cX0_write 40 = .ok (.goto 42, 3) := by decide +kernel
theorem dX0_write_43 : decode cX0_write 43 = .ok (.aload_n 0, 1) := by decide +kernel
theorem dX0_write_44 : decode cX0_write 44 = .ok (.getfield 9, 3) := by decide +kernel
theorem dX0_write_47 : decode cX0_write 47 = .ok (.iload_n 2, 1) := by decide +kernel
theorem dX0_write_48 : decode cX0_write 48 = .ok (.iaload, 1) := by decide +kernel
theorem dX0_write_49 : decode cX0_write 49 = .ok (.iconst 1, 1) := by decide +kernel
theorem dX0_write_50 : decode cX0_write 50 = .ok (.if_icmp .ne 19, 3) := by decide +kernel
theorem dX0_write_53 : decode cX0_write 53 = .ok (.aload_n 1, 1) := by decide +kernel
theorem dX0_write_54 : decode cX0_write 54 = .ok (.iload_n 3, 1) := by decide +kernel
theorem dX0_write_55 : decode cX0_write 55 = .ok (.aload_n 0, 1) := by decide +kernel
theorem dX0_write_56 : decode cX0_write 56 = .ok (.getfield 15, 3) := by decide +kernel
theorem dX0_write_59 : decode cX0_write 59 = .ok (.iload_n 2, 1) := by decide +kernel
theorem dX0_write_60 : decode cX0_write 60 = .ok (.iaload, 1) := by decide +kernel
theorem dX0_write_61 : decode cX0_write 61 = .ok (.lload 6, 2) := by decide +kernel
theorem dX0_write_63 : decode cX0_write 63 = .ok (.invokestatic 56, 3) := by decide +kernel
theorem dX0_write_66 : decode cX0_write 66 = .ok (.goto 16, 3) := by decide +kernel
theorem dX0_write_69 : decode cX0_write 69 = .ok (.aload_n 1, 1) := by decide +kernel
theorem dX0_write_70 : decode cX0_write 70 = .ok (.iload_n 3, 1) := by decide +kernel
theorem dX0_write_71 : decode cX0_write 71 = .ok (.aload_n 0, 1) := by decide +kernel
theorem dX0_write_72 : decode cX0_write 72 = .ok (.getfield 15, 3) := by decide +kernel
theorem dX0_write_75 : decode cX0_write 75 = .ok (.iload_n 2, 1) := by decide +kernel
theorem dX0_write_76 : decode cX0_write 76 = .ok (.iaload, 1) := by decide +kernel
theorem dX0_write_77 : decode cX0_write 77 = .ok (.lload 6, 2) := by decide +kernel
theorem dX0_write_79 : decode cX0_write 79 = .ok (.invokestatic 60, 3) := by decide +kernel
theorem dX0_write_82 : decode cX0_write 82 = .ok (.return_, 1) := by decide +kernel
theorem dX0_lowestDigits_0 : decode cX0_lowestDigits 0 = .ok (.lconst 0, 1) := by decide +kernel
theorem dX0_lowestDigits_1 : decode cX0_lowestDigits 1 = .ok (.lstore_n 3, 1) := by decide +kernel
theorem dX0_lowestDigits_2 : decode cX0_lowestDigits 2 = .ok (.lload_n 0, 1) := by decide +kernel
theorem dX0_lowestDigits_3 : decode cX0_lowestDigits 3 = .ok (.lstore 5, 2) := by decide +kernel
theorem dX0_lowestDigits_5 : decode cX0_lowestDigits 5 = .ok (.lconst 1, 1) := by decide +kernel
theorem dX0_lowestDigits_6 : decode cX0_lowestDigits 6 = .ok (.lstore 7, 2) := by decide +kernel
theorem dX0_lowestDigits_8 : decode cX0_lowestDigits 8 = .ok (.iconst 0, 1) := by decide +kernel
theorem dX0_lowestDigits_9 : decode cX0_lowestDigits 9 = .ok (.istore 9, 2) := by decide +kernel
theorem dX0_lowestDigits_11 : decode cX0_lowestDigits 11 = .ok (.iload 9, 2) := by decide +kernel
theorem dX0_lowestDigits_13 : decode cX0_lowestDigits 13 = .ok (.iload_n 2, 1) := by decide +kernel
theorem dX0_lowestDigits_14 : decode cX0_lowestDigits 14 = .ok (.if_icmp .ge 44, 3) := by decide +kernel
theorem dX0_lowestDigits_17 : decode cX0_lowestDigits 17 = .ok (.iload 9, 2) := by decide +kernel
theorem dX0_lowestDigits_19 : decode cX0_lowestDigits 19 = .ok (.bipush 9, 2) := by decide +kernel
theorem dX0_lowestDigits_21 : decode cX0_lowestDigits 21 = .ok (.if_icmp .ge 37, 3) := by decide +kernel
theorem dX0_lowestDigits_24 : decode cX0_lowestDigits 24 = .ok (.lload_n 3, 1) := by decide +kernel
theorem dX0_lowestDigits_25 : decode cX0_lowestDigits 25 = .ok (.lload 5, 2) := by decide +kernel
theorem dX0_lowestDigits_27 : decode cX0_lowestDigits 27 = .ok (.ldc2_w 63, 3) := by decide +kernel
theorem dX0_lowestDigits_30 : decode cX0_lowestDigits 30 = .ok (.lrem, 1) := by decide +kernel
theorem dX0_lowestDigits_31 : decode cX0_lowestDigits 31 = .ok (.lload 7, 2) := by decide +kernel
theorem dX0_lowestDigits_33 : decode cX0_lowestDigits 33 = .ok (.lmul, 1) := by decide +kernel
theorem dX0_lowestDigits_34 : decode cX0_lowestDigits 34 = .ok (.ladd, 1) := by decide +kernel
theorem dX0_lowestDigits_35 : decode cX0_lowestDigits 35 = .ok (.lstore_n 3, 1) := by decide +kernel
theorem dX0_lowestDigits_36 : decode cX0_lowestDigits 36 = .ok (.lload 5, 2) := by decide +kernel
theorem dX0_lowestDigits_38 : decode cX0_lowestDigits 38 = .ok (.ldc2_w 63, 3) := by decide +kernel
theorem dX0_lowestDigits_41 : decode cX0_lowestDigits 41 = .ok (.ldiv, 1) := by decide +kernel
theorem dX0_lowestDigits_42 : decode cX0_lowestDigits 42 = .ok (.lstore 5, 2) := by decide +kernel
theorem dX0_lowestDigits_44 : decode cX0_lowestDigits 44 = .ok (.lload 7, 2) := by decide +kernel
theorem dX0_lowestDigits_46 : decode cX0_lowestDigits 46 = .ok (.ldc2_w 63, 3) := by decide +kernel
theorem dX0_lowestDigits_49 : decode cX0_lowestDigits 49 = .ok (.lmul, 1) := by decide +kernel
theorem dX0_lowestDigits_50 : decode cX0_lowestDigits 50 = .ok (.lstore 7, 2) := by decide +kernel
theorem dX0_lowestDigits_52 : decode cX0_lowestDigits 52 = .ok (.iinc 9 1, 3) := by decide +kernel
theorem dX0_lowestDigits_55 : decode cX0_lowestDigits 55 = .ok (.goto (-44), 3) := by decide +kernel
theorem dX0_lowestDigits_58 : decode cX0_lowestDigits 58 = .ok (.lload_n 3, 1) := by decide +kernel
theorem dX0_lowestDigits_59 : decode cX0_lowestDigits 59 = .ok (.lreturn, 1) := by decide +kernel
theorem dX0_isInside_0 : decode cX0_isInside 0 = .ok (.iload_n 1, 1) := by decide +kernel
theorem dX0_isInside_1 : decode cX0_isInside 1 = .ok (.ifCond .lt 26, 3) := by decide +kernel
theorem dX0_isInside_4 : decode cX0_isInside 4 = .ok (.iload_n 2, 1) := by decide +kernel
theorem dX0_isInside_5 : decode cX0_isInside 5 = .ok (.iconst 1, 1) := by decide +kernel
theorem dX0_isInside_6 : decode cX0_isInside 6 = .ok (.if_icmp .lt 21, 3) := by decide +kernel
theorem dX0_isInside_9 : decode cX0_isInside 9 = .ok (.iload_n 2, 1) := by decide +kernel
theorem dX0_isInside_10 : decode cX0_isInside 10 = .ok (.aload_n 0, 1) := by decide +kernel
theorem dX0_isInside_11 : decode cX0_isInside 11 = .ok (.arraylength, 1) := by decide +kernel
theorem dX0_isInside_12 : decode cX0_isInside 12 = .ok (.if_icmp .gt 15, 3) := by decide +kernel
theorem dX0_isInside_15 : decode cX0_isInside 15 = .ok (.iload_n 1, 1) := by decide +kernel
theorem dX0_isInside_16 : decode cX0_isInside 16 = .ok (.aload_n 0, 1) := by decide +kernel
theorem dX0_isInside_17 : decode cX0_isInside 17 = .ok (.arraylength, 1) := by decide +kernel
theorem dX0_isInside_18 : decode cX0_isInside 18 = .ok (.iload_n 2, 1) := by decide +kernel
theorem dX0_isInside_19 : decode cX0_isInside 19 = .ok (.isub, 1) := by decide +kernel
theorem dX0_isInside_20 : decode cX0_isInside 20 = .ok (.if_icmp .gt 7, 3) := by decide +kernel
theorem dX0_isInside_23 : decode cX0_isInside 23 = .ok (.iconst 1, 1) := by decide +kernel
theorem dX0_isInside_24 : decode cX0_isInside 24 = .ok (.goto 4, 3) := by decide +kernel
theorem dX0_isInside_27 : decode cX0_isInside 27 = .ok (.iconst 0, 1) := by decide +kernel
theorem dX0_isInside_28 : decode cX0_isInside 28 = .ok (.ireturn, 1) := by decide +kernel
set_option maxRecDepth 20000 in
theorem ggX0_readZoned_X0_isInside : GoodIn wsX0_readZoned wsX0_isInside := goodIn_r _ [5] (by decide +kernel) (by decide +kernel)
set_option maxRecDepth 20000 in
theorem gX0_readZoned_X0_isInside : GoodIn wsX0_readZoned (va_wsS RX0 65 yX0_isInside wsX0_isInside) := goodIn_app (goodIn_of _ (by decide +kernel)) ggX0_readZoned_X0_isInside
theorem dX0_readZoned_0 : decode cX0_readZoned 0 = .ok (.aload_n 0, 1) := by decide +kernel
theorem dX0_readZoned_1 : decode cX0_readZoned 1 = .ok (.iload_n 1, 1) := by decide +kernel
theorem dX0_readZoned_2 : decode cX0_readZoned 2 = .ok (.iload_n 2, 1) := by decide +kernel
theorem dX0_readZoned_3 : decode cX0_readZoned 3 = .ok (.invokestatic 65, 3) := by decide +kernel
theorem dX0_readZoned_6 : decode cX0_readZoned 6 = .ok (.ifCond .ne 5, 3) := by decide +kernel
theorem dX0_readZoned_9 : decode cX0_readZoned 9 = .ok (.lconst 0, 1) := by decide +kernel
theorem dX0_readZoned_10 : decode cX0_readZoned 10 = .ok (.lreturn, 1) := by decide +kernel
theorem dX0_readZoned_11 : decode cX0_readZoned 11 = .ok (.lconst 0, 1) := by decide +kernel
theorem dX0_readZoned_12 : decode cX0_readZoned 12 = .ok (.lstore_n 3, 1) := by decide +kernel
theorem dX0_readZoned_13 : decode cX0_readZoned 13 = .ok (.iload_n 1, 1) := by decide +kernel
theorem dX0_readZoned_14 : decode cX0_readZoned 14 = .ok (.istore 5, 2) := by decide +kernel
theorem dX0_readZoned_16 : decode cX0_readZoned 16 = .ok (.iload 5, 2) := by decide +kernel
theorem dX0_readZoned_18 : decode cX0_readZoned 18 = .ok (.iload_n 1, 1) := by decide +kernel
theorem dX0_readZoned_19 : decode cX0_readZoned 19 = .ok (.iload_n 2, 1) := by decide +kernel
theorem dX0_readZoned_20 : decode cX0_readZoned 20 = .ok (.iadd, 1) := by decide +kernel
theorem dX0_readZoned_21 : decode cX0_readZoned 21 = .ok (.if_icmp .ge 27, 3) := by decide +kernel
theorem dX0_readZoned_24 : decode cX0_readZoned 24 = .ok (.lload_n 3, 1) := by decide +kernel
theorem dX0_readZoned_25 : decode cX0_readZoned 25 = .ok (.ldc2_w 63, 3) := by decide +kernel
theorem dX0_readZoned_28 : decode cX0_readZoned 28 = .ok (.lmul, 1) := by decide +kernel
theorem dX0_readZoned_29 : decode cX0_readZoned 29 = .ok (.aload_n 0, 1) := by decide +kernel
theorem dX0_readZoned_30 : decode cX0_readZoned 30 = .ok (.iload 5, 2) := by decide +kernel
theorem dX0_readZoned_32 : decode cX0_readZoned 32 = .ok (.baload, 1) := by decide +kernel
theorem dX0_readZoned_33 : decode cX0_readZoned 33 = .ok (.bipush 15, 2) := by decide +kernel
theorem dX0_readZoned_35 : decode cX0_readZoned 35 = .ok (.iand, 1) := by decide +kernel
theorem dX0_readZoned_36 : decode cX0_readZoned 36 = .ok (.bipush 10, 2) := by decide +kernel
theorem dX0_readZoned_38 : decode cX0_readZoned 38 = .ok (.irem, 1) := by decide +kernel
theorem dX0_readZoned_39 : decode cX0_readZoned 39 = .ok (.i2l, 1) := by decide +kernel
theorem dX0_readZoned_40 : decode cX0_readZoned 40 = .ok (.ladd, 1) := by decide +kernel
theorem dX0_readZoned_41 : decode cX0_readZoned 41 = .ok (.lstore_n 3, 1) := by decide +kernel
theorem dX0_readZoned_42 : decode cX0_readZoned 42 = .ok (.iinc 5 1, 3) := by decide +kernel
theorem dX0_readZoned_45 : decode cX0_readZoned 45 = .ok (.goto (-29), 3) := by decide +kernel
theorem dX0_readZoned_48 : decode cX0_readZoned 48 = .ok (.aload_n 0, 1) := by decide +kernel
theorem dX0_readZoned_49 : decode cX0_readZoned 49 = .ok (.iload_n 1, 1) := by decide +kernel
theorem dX0_readZoned_50 : decode cX0_readZoned 50 = .ok (.iload_n 2, 1) := by decide +kernel
theorem dX0_readZoned_51 : decode cX0_readZoned 51 = .ok (.iadd, 1) := by decide +kernel
theorem dX0_readZoned_52 : decode cX0_readZoned 52 = .ok (.iconst 1, 1) := by decide +kernel
theorem dX0_readZoned_53 : decode cX0_readZoned 53 = .ok (.isub, 1) := by decide +kernel
theorem dX0_readZoned_54 : decode cX0_readZoned 54 = .ok (.baload, 1) := by decide +kernel
theorem dX0_readZoned_55 : decode cX0_readZoned 55 = .ok (.bipush 64, 2) := by decide +kernel
theorem dX0_readZoned_57 : decode cX0_readZoned 57 = .ok (.iand, 1) := by decide +kernel
theorem dX0_readZoned_58 : decode cX0_readZoned 58 = .ok (.ifCond .eq 8, 3) := by decide +kernel
theorem dX0_readZoned_61 : decode cX0_readZoned 61 = .ok (.lload_n 3, 1) := by decide +kernel
theorem dX0_readZoned_62 : decode cX0_readZoned 62 = .ok (.lneg, 1) := by decide +kernel
theorem dX0_readZoned_63 : decode cX0_readZoned 63 = .ok (.goto 4, 3) := by decide +kernel
theorem dX0_readZoned_66 : decode cX0_readZoned 66 = .ok (.lload_n 3, 1) := by decide +kernel
theorem dX0_readZoned_67 : decode cX0_readZoned 67 = .ok (.lreturn, 1) := by decide +kernel
set_option maxRecDepth 20000 in
theorem ggX0_writeZoned_X0_isInside : GoodIn wsX0_writeZoned wsX0_isInside := goodIn_r _ [6] (by decide +kernel) (by decide +kernel)
set_option maxRecDepth 20000 in
theorem gX0_writeZoned_X0_isInside : GoodIn wsX0_writeZoned (va_wsS RX0 65 yX0_isInside wsX0_isInside) := goodIn_app (goodIn_of _ (by decide +kernel)) ggX0_writeZoned_X0_isInside
theorem dX0_writeZoned_0 : decode cX0_writeZoned 0 = .ok (.aload_n 0, 1) := by decide +kernel
theorem dX0_writeZoned_1 : decode cX0_writeZoned 1 = .ok (.iload_n 1, 1) := by decide +kernel
theorem dX0_writeZoned_2 : decode cX0_writeZoned 2 = .ok (.iload_n 2, 1) := by decide +kernel
theorem dX0_writeZoned_3 : decode cX0_writeZoned 3 = .ok (.invokestatic 65, 3) := by decide +kernel
theorem dX0_writeZoned_6 : decode cX0_writeZoned 6 = .ok (.ifCond .ne 4, 3) := by decide +kernel
theorem dX0_writeZoned_9 : decode cX0_writeZoned 9 = .ok (.return_, 1) := by decide +kernel
theorem dX0_writeZoned_10 : decode cX0_writeZoned 10 = .ok (.lload_n 3, 1) := by decide +kernel
theorem dX0_writeZoned_11 : decode cX0_writeZoned 11 = .ok (.lconst 0, 1) := by decide +kernel
theorem dX0_writeZoned_12 : decode cX0_writeZoned 12 = .ok (.lcmp, 1) := by decide +kernel
theorem dX0_writeZoned_13 : decode cX0_writeZoned 13 = .ok (.ifCond .ge 8, 3) := by decide +kernel
theorem dX0_writeZoned_16 : decode cX0_writeZoned 16 = .ok (.lload_n 3, 1) := by decide +kernel
theorem dX0_writeZoned_17 : decode cX0_writeZoned 17 = .ok (.lneg, 1) := by decide +kernel
theorem dX0_writeZoned_18 : decode cX0_writeZoned 18 = .ok (.goto 4, 3) := by decide +kernel
theorem dX0_writeZoned_21 : decode cX0_writeZoned 21 = .ok (.lload_n 3, 1) := by decide +kernel
theorem dX0_writeZoned_22 : decode cX0_writeZoned 22 = .ok (.lstore 5, 2) := by decide +kernel
theorem dX0_writeZoned_24 : decode cX0_writeZoned 24 = .ok (.lload_n 3, 1) := by decide +kernel
theorem dX0_writeZoned_25 : decode cX0_writeZoned 25 = .ok (.lconst 0, 1) := by decide +kernel
theorem dX0_writeZoned_26 : decode cX0_writeZoned 26 = .ok (.lcmp, 1) := by decide +kernel
theorem dX0_writeZoned_27 : decode cX0_writeZoned 27 = .ok (.ifCond .ge 8, 3) := by decide +kernel
theorem dX0_writeZoned_30 : decode cX0_writeZoned 30 = .ok (.bipush 64, 2) := by decide +kernel
theorem dX0_writeZoned_32 : decode cX0_writeZoned 32 = .ok (.goto 4, 3) := by decide +kernel
theorem dX0_writeZoned_35 : decode cX0_writeZoned 35 = .ok (.iconst 0, 1) := by decide +kernel
theorem dX0_writeZoned_36 : decode cX0_writeZoned 36 = .ok (.istore 7, 2) := by decide +kernel
theorem dX0_writeZoned_38 : decode cX0_writeZoned 38 = .ok (.iload_n 1, 1) := by decide +kernel
theorem dX0_writeZoned_39 : decode cX0_writeZoned 39 = .ok (.iload_n 2, 1) := by decide +kernel
theorem dX0_writeZoned_40 : decode cX0_writeZoned 40 = .ok (.iadd, 1) := by decide +kernel
theorem dX0_writeZoned_41 : decode cX0_writeZoned 41 = .ok (.iconst 1, 1) := by decide +kernel
theorem dX0_writeZoned_42 : decode cX0_writeZoned 42 = .ok (.isub, 1) := by decide +kernel
theorem dX0_writeZoned_43 : decode cX0_writeZoned 43 = .ok (.istore 8, 2) := by decide +kernel
theorem dX0_writeZoned_45 : decode cX0_writeZoned 45 = .ok (.iload 8, 2) := by decide +kernel
theorem dX0_writeZoned_47 : decode cX0_writeZoned 47 = .ok (.iload_n 1, 1) := by decide +kernel
theorem dX0_writeZoned_48 : decode cX0_writeZoned 48 = .ok (.if_icmp .lt 40, 3) := by decide +kernel
theorem dX0_writeZoned_51 : decode cX0_writeZoned 51 = .ok (.aload_n 0, 1) := by decide +kernel
theorem dX0_writeZoned_52 : decode cX0_writeZoned 52 = .ok (.iload 8, 2) := by decide +kernel
theorem dX0_writeZoned_54 : decode cX0_writeZoned 54 = .ok (.ldc2_w 69, 3) := by decide +kernel
theorem dX0_writeZoned_57 : decode cX0_writeZoned 57 = .ok (.lload 5, 2) := by decide +kernel
theorem dX0_writeZoned_59 : decode cX0_writeZoned 59 = .ok (.ldc2_w 63, 3) := by decide +kernel
theorem dX0_writeZoned_62 : decode cX0_writeZoned 62 = .ok (.lrem, 1) := by decide +kernel
theorem dX0_writeZoned_63 : decode cX0_writeZoned 63 = .ok (.ladd, 1) := by decide +kernel
theorem dX0_writeZoned_64 : decode cX0_writeZoned 64 = .ok (.iload 7, 2) := by decide +kernel
theorem dX0_writeZoned_66 : decode cX0_writeZoned 66 = .ok (.i2l, 1) := by decide +kernel
theorem dX0_writeZoned_67 : decode cX0_writeZoned 67 = .ok (.ladd, 1) := by decide +kernel
theorem dX0_writeZoned_68 : decode cX0_writeZoned 68 = .ok (.l2i, 1) := by decide +kernel
theorem dX0_writeZoned_69 : decode cX0_writeZoned 69 = .ok (.i2b, 1) := by decide +kernel
theorem dX0_writeZoned_70 : decode cX0_writeZoned 70 = .ok (.bastore, 1) := by decide +kernel
theorem dX0_writeZoned_71 : decode cX0_writeZoned 71 = .ok (.lload 5, 2) := by decide +kernel
theorem dX0_writeZoned_73 : decode cX0_writeZoned 73 = .ok (.ldc2_w 63, 3) := by decide +kernel
theorem dX0_writeZoned_76 : decode cX0_writeZoned 76 = .ok (.ldiv, 1) := by decide +kernel
theorem dX0_writeZoned_77 : decode cX0_writeZoned 77 = .ok (.lstore 5, 2) := by decide +kernel
theorem dX0_writeZoned_79 : decode cX0_writeZoned 79 = .ok (.iconst 0, 1) := by decide +kernel
theorem dX0_writeZoned_80 : decode cX0_writeZoned 80 = .ok (.istore 7, 2) := by decide +kernel
theorem dX0_writeZoned_82 : decode cX0_writeZoned 82 = .ok (.iinc 8 (-1), 3) := by decide +kernel
theorem dX0_writeZoned_85 : decode cX0_writeZoned 85 = .ok (.goto (-40), 3) := by decide +kernel
theorem dX0_writeZoned_88 : decode cX0_writeZoned 88 = .ok (.return_, 1) := by decide +kernel
set_option maxRecDepth 20000 in
theorem ggX0_readPacked_X0_sizeFor : GoodIn wsX0_readPacked wsX0_sizeFor := goodIn_r _ [5] (by decide +kernel) (by decide +kernel)
set_option maxRecDepth 20000 in
theorem gX0_readPacked_X0_sizeFor : GoodIn wsX0_readPacked (va_wsS RX0 25 yX0_sizeFor wsX0_sizeFor) := goodIn_app (goodIn_of _ (by decide +kernel)) ggX0_readPacked_X0_sizeFor
set_option maxRecDepth 20000 in
theorem ggX0_readPacked_X0_isInside : GoodIn wsX0_readPacked wsX0_isInside := goodIn_r _ [8] (by decide +kernel) (by decide +kernel)
set_option maxRecDepth 20000 in
theorem gX0_readPacked_X0_isInside : GoodIn wsX0_readPacked (va_wsS RX0 65 yX0_isInside wsX0_isInside) := goodIn_app (goodIn_of _ (by decide +kernel)) ggX0_readPacked_X0_isInside
theorem dX0_readPacked_0 : decode cX0_readPacked 0 = .ok (.iconst 1, 1) := by decide +kernel
theorem dX0_readPacked_1 : decode cX0_readPacked 1 = .ok (.iload_n 2, 1) := by decide +kernel
theorem dX0_readPacked_2 : decode cX0_readPacked 2 = .ok (.invokestatic 25, 3) := by decide +kernel
theorem dX0_readPacked_5 : decode cX0_readPacked 5 = .ok (.istore_n 3, 1) := by decide +kernel
theorem dX0_readPacked_6 : decode cX0_readPacked 6 = .ok (.aload_n 0, 1) := by decide +kernel
theorem dX0_readPacked_7 : decode cX0_readPacked 7 = .ok (.iload_n 1, 1) := by decide +kernel
theorem dX0_readPacked_8 : decode cX0_readPacked 8 = .ok (.iload_n 3, 1) := by decide +kernel
theorem dX0_readPacked_9 : decode cX0_readPacked 9 = .ok (.invokestatic 65, 3) := by decide +kernel
theorem dX0_readPacked_12 : decode cX0_readPacked 12 = .ok (.ifCond .ne 5, 3) := by decide +kernel
theorem dX0_readPacked_15 : decode cX0_readPacked 15 = .ok (.lconst 0, 1) := by decide +kernel
theorem dX0_readPacked_16 : decode cX0_readPacked 16 = .ok (.lreturn, 1) := by decide +kernel
theorem dX0_readPacked_17 : decode cX0_readPacked 17 = .ok (.lconst 0, 1) := by decide +kernel
theorem dX0_readPacked_18 : decode cX0_readPacked 18 = .ok (.lstore 4, 2) := by decide +kernel
theorem dX0_readPacked_20 : decode cX0_readPacked 20 = .ok (.iload_n 2, 1) := by decide +kernel
theorem dX0_readPacked_21 : decode cX0_readPacked 21 = .ok (.iconst 2, 1) := by decide +kernel
theorem dX0_readPacked_22 : decode cX0_readPacked 22 = .ok (.irem, 1) := by decide +kernel
theorem dX0_readPacked_23 : decode cX0_readPacked 23 = .ok (.ifCond .ne 7, 3) := by decide +kernel
theorem dX0_readPacked_26 : decode cX0_readPacked 26 = .ok (.iconst 1, 1) := by decide +kernel
theorem dX0_readPacked_27 : decode cX0_readPacked 27 = .ok (.goto 4, 3) := by decide +kernel
theorem dX0_readPacked_30 : decode cX0_readPacked 30 = .ok (.iconst 0, 1) := by decide +kernel
theorem dX0_readPacked_31 : decode cX0_readPacked 31 = .ok (.istore 6, 2) := by decide +kernel
theorem dX0_readPacked_33 : decode cX0_readPacked 33 = .ok (.iload_n 3, 1) := by decide +kernel
theorem dX0_readPacked_34 : decode cX0_readPacked 34 = .ok (.iconst 2, 1) := by decide +kernel
theorem dX0_readPacked_35 : decode cX0_readPacked 35 = .ok (.imul, 1) := by decide +kernel
theorem dX0_readPacked_36 : decode cX0_readPacked 36 = .ok (.iconst 1, 1) := by decide +kernel
theorem dX0_readPacked_37 : decode cX0_readPacked 37 = .ok (.isub, 1) := by decide +kernel
theorem dX0_readPacked_38 : decode cX0_readPacked 38 = .ok (.istore 7, 2) := by decide +kernel
theorem dX0_readPacked_40 : decode cX0_readPacked 40 = .ok (.iload 6, 2) := by decide +kernel
theorem dX0_readPacked_42 : decode cX0_readPacked 42 = .ok (.istore 8, 2) := by decide +kernel
theorem dX0_readPacked_44 : decode cX0_readPacked 44 = .ok (.iload 8, 2) := by decide +kernel
theorem dX0_readPacked_46 : decode cX0_readPacked 46 = .ok (.iload 7, 2) := by decide +kernel
theorem dX0_readPacked_48 : decode cX0_readPacked 48 = .ok (.if_icmp .ge 59, 3) := by decide +kernel
theorem dX0_readPacked_51 : decode cX0_readPacked 51 = .ok (.aload_n 0, 1) := by decide +kernel
theorem dX0_readPacked_52 : decode cX0_readPacked 52 = .ok (.iload_n 1, 1) := by decide +kernel
theorem dX0_readPacked_53 : decode cX0_readPacked 53 = .ok (.iload 8, 2) := by decide +kernel
theorem dX0_readPacked_55 : decode cX0_readPacked 55 = .ok (.iconst 2, 1) := by decide +kernel
theorem dX0_readPacked_56 : decode cX0_readPacked 56 = .ok (.idiv, 1) := by decide +kernel
theorem dX0_readPacked_57 : decode cX0_readPacked 57 = .ok (.iadd, 1) := by decide +kernel
theorem dX0_readPacked_58 : decode cX0_readPacked 58 = .ok (.baload, 1) := by decide +kernel
theorem dX0_readPacked_59 : decode cX0_readPacked 59 = .ok (.sipush 255, 3) := by decide +kernel
theorem dX0_readPacked_62 : decode cX0_readPacked 62 = .ok (.iand, 1) := by decide +kernel
theorem dX0_readPacked_63 : decode cX0_readPacked 63 = .ok (.istore 9, 2) := by decide +kernel
theorem dX0_readPacked_65 : decode cX0_readPacked 65 = .ok (.iload 8, 2) := by decide +kernel
theorem dX0_readPacked_67 : decode cX0_readPacked 67 = .ok (.iconst 2, 1) := by decide +kernel
theorem dX0_readPacked_68 : decode cX0_readPacked 68 = .ok (.irem, 1) := by decide +kernel
theorem dX0_readPacked_69 : decode cX0_readPacked 69 = .ok (.ifCond .ne 10, 3) := by decide +kernel
theorem dX0_readPacked_72 : decode cX0_readPacked 72 = .ok (.iload 9, 2) := by decide +kernel
theorem dX0_readPacked_74 : decode cX0_readPacked 74 = .ok (.iconst 4, 1) := by decide +kernel
theorem dX0_readPacked_75 : decode cX0_readPacked 75 = .ok (.ishr, 1) := by decide +kernel
theorem dX0_readPacked_76 : decode cX0_readPacked 76 = .ok (.goto 8, 3) := by decide +kernel
theorem dX0_readPacked_79 : decode cX0_readPacked 79 = .ok (.iload 9, 2) := by decide +kernel
theorem dX0_readPacked_81 : decode cX0_readPacked 81 = .ok (.bipush 15, 2) := by decide +kernel
theorem dX0_readPacked_83 : decode cX0_readPacked 83 = .ok (.iand, 1) := by decide +kernel
theorem dX0_readPacked_84 : decode cX0_readPacked 84 = .ok (.istore 10, 2) := by decide +kernel
theorem dX0_readPacked_86 : decode cX0_readPacked 86 = .ok (.lload 4, 2) := by decide +kernel
theorem dX0_readPacked_88 : decode cX0_readPacked 88 = .ok (.ldc2_w 63, 3) := by decide +kernel
theorem dX0_readPacked_91 : decode cX0_readPacked 91 = .ok (.lmul, 1) := by decide +kernel
theorem dX0_readPacked_92 : decode cX0_readPacked 92 = .ok (.iload 10, 2) := by decide +kernel
theorem dX0_readPacked_94 : decode cX0_readPacked 94 = .ok (.bipush 10, 2) := by decide +kernel
theorem dX0_readPacked_96 : decode cX0_readPacked 96 = .ok (.irem, 1) := by decide +kernel
theorem dX0_readPacked_97 : decode cX0_readPacked 97 = .ok (.i2l, 1) := by decide +kernel
theorem dX0_readPacked_98 : decode cX0_readPacked 98 = .ok (.ladd, 1) := by decide +kernel
theorem dX0_readPacked_99 : decode cX0_readPacked 99 = .ok (.lstore 4, 2) := by decide +kernel
theorem dX0_readPacked_101 : decode cX0_readPacked 101 = .ok (.iinc 8 1, 3) := by decide +kernel
theorem dX0_readPacked_104 : decode cX0_readPacked 104 = .ok (.goto (-60), 3) := by decide +kernel
theorem dX0_readPacked_107 : decode cX0_readPacked 107 = .ok (.aload_n 0, 1) := by decide +kernel
theorem dX0_readPacked_108 : decode cX0_readPacked 108 = .ok (.iload_n 1, 1) := by decide +kernel
theorem dX0_readPacked_109 : decode cX0_readPacked 109 = .ok (.iload_n 3, 1) := by decide +kernel
theorem dX0_readPacked_110 : decode cX0_readPacked 110 = .ok (.iadd, 1) := by decide +kernel
theorem dX0_readPacked_111 : decode cX0_readPacked 111 = .ok (.iconst 1, 1) := by decide +kernel
theorem dX0_readPacked_112 : decode cX0_readPacked 112 = .ok (.isub, 1) := by decide +kernel
theorem dX0_readPacked_113 : decode cX0_readPacked 113 = .ok (.baload, 1) := by decide +kernel
theorem dX0_readPacked_114 : decode cX0_readPacked 114 = .ok (.bipush 15, 2) := by decide +kernel
theorem dX0_readPacked_116 : decode cX0_readPacked 116 = .ok (.iand, 1) := by decide +kernel
theorem dX0_readPacked_117 : decode cX0_readPacked 117 = .ok (.bipush 13, 2) := by decide +kernel
theorem dX0_readPacked_119 : decode cX0_readPacked 119 = .ok (.if_icmp .ne 9, 3) := by decide +kernel
theorem dX0_readPacked_122 : decode cX0_readPacked 122 = .ok (.lload 4, 2) := by decide +kernel
theorem dX0_readPacked_124 : decode cX0_readPacked 124 = .ok (.lneg, 1) := by decide +kernel
theorem dX0_readPacked_125 : decode cX0_readPacked 125 = .ok (.goto 5, 3) := by decide +kernel
theorem dX0_readPacked_128 : decode cX0_readPacked 128 = .ok (.lload 4, 2) := by decide +kernel
theorem dX0_readPacked_130 : decode cX0_readPacked 130 = .ok (.lreturn, 1) := by decide +kernel
set_option maxRecDepth 20000 in
theorem ggX0_writePacked_X0_sizeFor : GoodIn wsX0_writePacked wsX0_sizeFor := goodIn_r _ [6] (by decide +kernel) (by decide +kernel)
set_option maxRecDepth 20000 in
theorem gX0_writePacked_X0_sizeFor : GoodIn wsX0_writePacked (va_wsS RX0 25 yX0_sizeFor wsX0_sizeFor) := goodIn_app (goodIn_of _ (by decide +kernel)) ggX0_writePacked_X0_sizeFor
set_option maxRecDepth 20000 in
theorem ggX0_writePacked_X0_isInside : GoodIn wsX0_writePacked wsX0_isInside := goodIn_r _ [9] (by decide +kernel) (by decide +kernel)
set_option maxRecDepth 20000 in
theorem gX0_writePacked_X0_isInside : GoodIn wsX0_writePacked (va_wsS RX0 65 yX0_isInside wsX0_isInside) := goodIn_app (goodIn_of _ (by decide +kernel)) ggX0_writePacked_X0_isInside
theorem dX0_writePacked_0 : decode cX0_writePacked 0 = .ok (.iconst 1, 1) := by decide +kernel
theorem dX0_writePacked_1 : decode cX0_writePacked 1 = .ok (.iload_n 2, 1) := by decide +kernel
theorem dX0_writePacked_2 : decode cX0_writePacked 2 = .ok (.invokestatic 25, 3) := by decide +kernel
theorem dX0_writePacked_5 : decode cX0_writePacked 5 = .ok (.istore 5, 2) := by decide +kernel
theorem dX0_writePacked_7 : decode cX0_writePacked 7 = .ok (.aload_n 0, 1) := by decide +kernel
theorem dX0_writePacked_8 : decode cX0_writePacked 8 = .ok (.iload_n 1, 1) := by decide +kernel
theorem dX0_writePacked_9 : decode cX0_writePacked 9 = .ok (.iload 5, 2) := by decide +kernel
theorem dX0_writePacked_11 : decode cX0_writePacked 11 = .ok (.invokestatic 65, 3) := by decide +kernel
theorem dX0_writePacked_14 : decode cX0_writePacked 14 = .ok (.ifCond .ne 4, 3) := by decide +kernel
theorem dX0_writePacked_17 : decode cX0_writePacked 17 = .ok (.return_, 1) := by decide +kernel
theorem dX0_writePacked_18 : decode cX0_writePacked 18 = .ok (.lload_n 3, 1) := by decide +kernel
theorem dX0_writePacked_19 : decode cX0_writePacked 19 = .ok (.lconst 0, 1) := by decide +kernel
theorem dX0_writePacked_20 : decode cX0_writePacked 20 = .ok (.lcmp, 1) := by decide +kernel
theorem dX0_writePacked_21 : decode cX0_writePacked 21 = .ok (.ifCond .ge 8, 3) := by decide +kernel
theorem dX0_writePacked_24 : decode cX0_writePacked 24 = .ok (.lload_n 3, 1) := by decide +kernel
theorem dX0_writePacked_25 : decode cX0_writePacked 25 = .ok (.lneg, 1) := by decide +kernel
theorem dX0_writePacked_26 : decode cX0_writePacked 26 = .ok (.goto 4, 3) := by decide +kernel
theorem dX0_writePacked_29 : decode cX0_writePacked 29 = .ok (.lload_n 3, 1) := by decide +kernel
theorem dX0_writePacked_30 : decode cX0_writePacked 30 = .ok (.lstore 6, 2) := by decide +kernel
theorem dX0_writePacked_32 : decode cX0_writePacked 32 = .ok (.lload_n 3, 1) := by decide +kernel
theorem dX0_writePacked_33 : decode cX0_writePacked 33 = .ok (.lconst 0, 1) := by decide +kernel
theorem dX0_writePacked_34 : decode cX0_writePacked 34 = .ok (.lcmp, 1) := by decide +kernel
theorem dX0_writePacked_35 : decode cX0_writePacked 35 = .ok (.ifCond .ge 8, 3) := by decide +kernel
theorem dX0_writePacked_38 : decode cX0_writePacked 38 = .ok (.bipush 13, 2) := by decide +kernel
theorem dX0_writePacked_40 : decode cX0_writePacked 40 = .ok (.goto 5, 3) := by decide +kernel
theorem dX0_writePacked_43 : decode cX0_writePacked 43 = .ok (.bipush 12, 2) := by decide +kernel
theorem dX0_writePacked_45 : decode cX0_writePacked 45 = .ok (.istore 8, 2) := by decide +kernel
theorem dX0_writePacked_47 : decode cX0_writePacked 47 = .ok (.iload_n 1, 1) := by decide +kernel
theorem dX0_writePacked_48 : decode cX0_writePacked 48 = .ok (.iload 5, 2) := by decide +kernel
theorem dX0_writePacked_50 : decode cX0_writePacked 50 = .ok (.iadd, 1) := by decide +kernel
theorem dX0_writePacked_51 : decode cX0_writePacked 51 = .ok (.iconst 1, 1) := by decide +kernel
theorem dX0_writePacked_52 : decode cX0_writePacked 52 = .ok (.isub, 1) := by decide +kernel
theorem dX0_writePacked_53 : decode cX0_writePacked 53 = .ok (.istore 9, 2) := by decide +kernel
theorem dX0_writePacked_55 : decode cX0_writePacked 55 = .ok (.iload 9, 2) := by decide +kernel
theorem dX0_writePacked_57 : decode cX0_writePacked 57 = .ok (.iload_n 1, 1) := by decide +kernel
theorem dX0_writePacked_58 : decode cX0_writePacked 58 = .ok (.if_icmp .lt 51, 3) := by decide +kernel
theorem dX0_writePacked_61 : decode cX0_writePacked 61 = .ok (.lload 6, 2) := by decide +kernel
theorem dX0_writePacked_63 : decode cX0_writePacked 63 = .ok (.ldc2_w 63, 3) := by decide +kernel
theorem dX0_writePacked_66 : decode cX0_writePacked 66 = .ok (.lrem, 1) := by decide +kernel
theorem dX0_writePacked_67 : decode cX0_writePacked 67 = .ok (.l2i, 1) := by decide +kernel
theorem dX0_writePacked_68 : decode cX0_writePacked 68 = .ok (.istore 10, 2) := by decide +kernel
theorem dX0_writePacked_70 : decode cX0_writePacked 70 = .ok (.aload_n 0, 1) := by decide +kernel
theorem dX0_writePacked_71 : decode cX0_writePacked 71 = .ok (.iload 9, 2) := by decide +kernel
theorem dX0_writePacked_73 : decode cX0_writePacked 73 = .ok (.iload 10, 2) := by decide +kernel
theorem dX0_writePacked_75 : decode cX0_writePacked 75 = .ok (.iconst 4, 1) := by decide +kernel
theorem dX0_writePacked_76 : decode cX0_writePacked 76 = .ok (.ishl, 1) := by decide +kernel
theorem dX0_writePacked_77 : decode cX0_writePacked 77 = .ok (.iload 8, 2) := by decide +kernel
theorem dX0_writePacked_79 : decode cX0_writePacked 79 = .ok (.ior, 1) := by decide +kernel
theorem dX0_writePacked_80 : decode cX0_writePacked 80 = .ok (.i2b, 1) := by decide +kernel
theorem dX0_writePacked_81 : decode cX0_writePacked 81 = .ok (.bastore, 1) := by decide +kernel
theorem dX0_writePacked_82 : decode cX0_writePacked 82 = .ok (.lload 6, 2) := by decide +kernel
theorem dX0_writePacked_84 : decode cX0_writePacked 84 = .ok (.ldc2_w 63, 3) := by decide +kernel
theorem dX0_writePacked_87 : decode cX0_writePacked 87 = .ok (.ldiv, 1) := by decide +kernel
theorem dX0_writePacked_88 : decode cX0_writePacked 88 = .ok (.ldc2_w 63, 3) := by decide +kernel
theorem dX0_writePacked_91 : decode cX0_writePacked 91 = .ok (.lrem, 1) := by decide +kernel
theorem dX0_writePacked_92 : decode cX0_writePacked 92 = .ok (.l2i, 1) := by decide +kernel
theorem dX0_writePacked_93 : decode cX0_writePacked 93 = .ok (.istore 8, 2) := by decide +kernel
theorem dX0_writePacked_95 : decode cX0_writePacked 95 = .ok (.lload 6, 2) := by decide +kernel
theorem dX0_writePacked_97 : decode cX0_writePacked 97 = .ok (.ldc2_w 71, 3) := by decide +kernel
theorem dX0_writePacked_100 : decode cX0_writePacked 100 = .ok (.ldiv, 1) := by decide +kernel
theorem dX0_writePacked_101 : decode cX0_writePacked 101 = .ok (.lstore 6, 2) := by decide +kernel
theorem dX0_writePacked_103 : decode cX0_writePacked 103 = .ok (.iinc 9 (-1), 3) := by decide +kernel
theorem dX0_writePacked_106 : decode cX0_writePacked 106 = .ok (.goto (-51), 3) := by decide +kernel
theorem dX0_writePacked_109 : decode cX0_writePacked 109 = .ok (.return_, 1) := by decide +kernel
set_option maxRecDepth 20000 in
theorem ggX0_readBinary_X0_isInside : GoodIn wsX0_readBinary wsX0_isInside := goodIn_r _ [4] (by decide +kernel) (by decide +kernel)
set_option maxRecDepth 20000 in
theorem gX0_readBinary_X0_isInside : GoodIn wsX0_readBinary (va_wsS RX0 65 yX0_isInside wsX0_isInside) := goodIn_app (goodIn_of _ (by decide +kernel)) ggX0_readBinary_X0_isInside
theorem dX0_readBinary_0 : decode cX0_readBinary 0 = .ok (.aload_n 0, 1) := by decide +kernel
theorem dX0_readBinary_1 : decode cX0_readBinary 1 = .ok (.iload_n 1, 1) := by decide +kernel
theorem dX0_readBinary_2 : decode cX0_readBinary 2 = .ok (.iconst 4, 1) := by decide +kernel
theorem dX0_readBinary_3 : decode cX0_readBinary 3 = .ok (.invokestatic 65, 3) := by decide +kernel
theorem dX0_readBinary_6 : decode cX0_readBinary 6 = .ok (.ifCond .ne 5, 3) := by decide +kernel
theorem dX0_readBinary_9 : decode cX0_readBinary 9 = .ok (.lconst 0, 1) := by decide +kernel
theorem dX0_readBinary_10 : decode cX0_readBinary 10 = .ok (.lreturn, 1) := by decide +kernel
theorem dX0_readBinary_11 : decode cX0_readBinary 11 = .ok (.iconst 0, 1) := by decide +kernel
theorem dX0_readBinary_12 : decode cX0_readBinary 12 = .ok (.istore_n 2, 1) := by decide +kernel
theorem dX0_readBinary_13 : decode cX0_readBinary 13 = .ok (.iload_n 1, 1) := by decide +kernel
theorem dX0_readBinary_14 : decode cX0_readBinary 14 = .ok (.istore_n 3, 1) := by decide +kernel
theorem dX0_readBinary_15 : decode cX0_readBinary 15 = .ok (.iload_n 3, 1) := by decide +kernel
theorem dX0_readBinary_16 : decode cX0_readBinary 16 = .ok (.iload_n 1, 1) := by decide +kernel
theorem dX0_readBinary_17 : decode cX0_readBinary 17 = .ok (.iconst 4, 1) := by decide +kernel
theorem dX0_readBinary_18 : decode cX0_readBinary 18 = .ok (.iadd, 1) := by decide +kernel
theorem dX0_readBinary_19 : decode cX0_readBinary 19 = .ok (.if_icmp .ge 22, 3) := by decide +kernel
theorem dX0_readBinary_22 : decode cX0_readBinary 22 = .ok (.iload_n 2, 1) := by decide +kernel
theorem dX0_readBinary_23 : decode cX0_readBinary 23 = .ok (.bipush 8, 2) := by decide +kernel
theorem dX0_readBinary_25 : decode cX0_readBinary 25 = .ok (.ishl, 1) := by decide +kernel
theorem dX0_readBinary_26 : decode cX0_readBinary 26 = .ok (.aload_n 0, 1) := by decide +kernel
theorem dX0_readBinary_27 : decode cX0_readBinary 27 = .ok (.iload_n 3, 1) := by decide +kernel
theorem dX0_readBinary_28 : decode cX0_readBinary 28 = .ok (.baload, 1) := by decide +kernel
theorem dX0_readBinary_29 : decode cX0_readBinary 29 = .ok (.sipush 255, 3) := by decide +kernel
theorem dX0_readBinary_32 : decode cX0_readBinary 32 = .ok (.iand, 1) := by decide +kernel
theorem dX0_readBinary_33 : decode cX0_readBinary 33 = .ok (.ior, 1) := by decide +kernel
theorem dX0_readBinary_34 : decode cX0_readBinary 34 = .ok (.istore_n 2, 1) := by decide +kernel
theorem dX0_readBinary_35 : decode cX0_readBinary 35 = .ok (.iinc 3 1, 3) := by decide +kernel
theorem dX0_readBinary_38 : decode cX0_readBinary 38 = .ok (.goto (-23), 3) := by decide +kernel
theorem dX0_readBinary_41 : decode cX0_readBinary 41 = .ok (.iload_n 2, 1) := by decide +kernel
theorem dX0_readBinary_42 : decode cX0_readBinary 42 = .ok (.i2l, 1) := by decide +kernel
theorem dX0_readBinary_43 : decode cX0_readBinary 43 = .ok (.lreturn, 1) := by decide +kernel
set_option maxRecDepth 20000 in
theorem ggX0_writeBinary_X0_isInside : GoodIn wsX0_writeBinary wsX0_isInside := goodIn_r _ [4] (by decide +kernel) (by decide +kernel)
set_option maxRecDepth 20000 in
theorem gX0_writeBinary_X0_isInside : GoodIn wsX0_writeBinary (va_wsS RX0 65 yX0_isInside wsX0_isInside) := goodIn_app (goodIn_of _ (by decide +kernel)) ggX0_writeBinary_X0_isInside
theorem dX0_writeBinary_0 : decode cX0_writeBinary 0 = .ok (.aload_n 0, 1) := by decide +kernel
theorem dX0_writeBinary_1 : decode cX0_writeBinary 1 = .ok (.iload_n 1, 1) := by decide +kernel
theorem dX0_writeBinary_2 : decode cX0_writeBinary 2 = .ok (.iconst 4, 1) := by decide +kernel
theorem dX0_writeBinary_3 : decode cX0_writeBinary 3 = .ok (.invokestatic 65, 3) := by decide +kernel
theorem dX0_writeBinary_6 : decode cX0_writeBinary 6 = .ok (.ifCond .ne 4, 3) := by decide +kernel
theorem dX0_writeBinary_9 : decode cX0_writeBinary 9 = .ok (.return_, 1) := by decide +kernel
theorem dX0_writeBinary_10 : decode cX0_writeBinary 10 = .ok (.iload_n 2, 1) := by decide +kernel
theorem dX0_writeBinary_11 : decode cX0_writeBinary 11 = .ok (.istore_n 3, 1) := by decide +kernel
theorem dX0_writeBinary_12 : decode cX0_writeBinary 12 = .ok (.iload_n 1, 1) := by decide +kernel
theorem dX0_writeBinary_13 : decode cX0_writeBinary 13 = .ok (.iconst 4, 1) := by decide +kernel
theorem dX0_writeBinary_14 : decode cX0_writeBinary 14 = .ok (.iadd, 1) := by decide +kernel
theorem dX0_writeBinary_15 : decode cX0_writeBinary 15 = .ok (.iconst 1, 1) := by decide +kernel
theorem dX0_writeBinary_16 : decode cX0_writeBinary 16 = .ok (.isub, 1) := by decide +kernel
theorem dX0_writeBinary_17 : decode cX0_writeBinary 17 = .ok (.istore 4, 2) := by decide +kernel
theorem dX0_writeBinary_19 : decode cX0_writeBinary 19 = .ok (.iload 4, 2) := by decide +kernel
theorem dX0_writeBinary_21 : decode cX0_writeBinary 21 = .ok (.iload_n 1, 1) := by decide +kernel
theorem dX0_writeBinary_22 : decode cX0_writeBinary 22 = .ok (.if_icmp .lt 20, 3) := by decide +kernel
theorem dX0_writeBinary_25 : decode cX0_writeBinary 25 = .ok (.aload_n 0, 1) := by decide +kernel
theorem dX0_writeBinary_26 : decode cX0_writeBinary 26 = .ok (.iload 4, 2) := by decide +kernel
theorem dX0_writeBinary_28 : decode cX0_writeBinary 28 = .ok (.iload_n 3, 1) := by decide +kernel
theorem dX0_writeBinary_29 : decode cX0_writeBinary 29 = .ok (.i2b, 1) := by decide +kernel
theorem dX0_writeBinary_30 : decode cX0_writeBinary 30 = .ok (.bastore, 1) := by decide +kernel
theorem dX0_writeBinary_31 : decode cX0_writeBinary 31 = .ok (.iload_n 3, 1) := by decide +kernel
theorem dX0_writeBinary_32 : decode cX0_writeBinary 32 = .ok (.bipush 8, 2) := by decide +kernel
theorem dX0_writeBinary_34 : decode cX0_writeBinary 34 = .ok (.ishr, 1) := by decide +kernel
theorem dX0_writeBinary_35 : decode cX0_writeBinary 35 = .ok (.istore_n 3, 1) := by decide +kernel
theorem dX0_writeBinary_36 : decode cX0_writeBinary 36 = .ok (.iinc 4 (-1), 3) := by decide +kernel
theorem dX0_writeBinary_39 : decode cX0_writeBinary 39 = .ok (.goto (-20), 3) := by decide +kernel
theorem dX0_writeBinary_42 : decode cX0_writeBinary 42 = .ok (.return_, 1) := by decide +kernel
