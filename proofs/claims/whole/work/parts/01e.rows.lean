theorem dX5_chargeAll_0 : decode cX5_chargeAll 0 = .ok (.iconst 0, 1) := by decide +kernel
theorem dX5_chargeAll_1 : decode cX5_chargeAll 1 = .ok (.istore_n 1, 1) := by decide +kernel
theorem dX5_chargeAll_2 : decode cX5_chargeAll 2 = .ok (.iconst 0, 1) := by decide +kernel
theorem dX5_chargeAll_3 : decode cX5_chargeAll 3 = .ok (.istore_n 2, 1) := by decide +kernel
theorem dX5_chargeAll_4 : decode cX5_chargeAll 4 = .ok (.iload_n 2, 1) := by decide +kernel
theorem dX5_chargeAll_5 : decode cX5_chargeAll 5 = .ok (.aload_n 0, 1) := by decide +kernel
theorem dX5_chargeAll_6 : decode cX5_chargeAll 6 = .ok (.getfield 19, 3) := by decide +kernel
theorem dX5_chargeAll_9 : decode cX5_chargeAll 9 = .ok (.invokevirtual 77, 3) := by decide +kernel
theorem dX5_chargeAll_12 : decode cX5_chargeAll 12 = .ok (.if_icmp .ge 71, 3) := by decide +kernel
theorem dX5_chargeAll_15 : decode cX5_chargeAll 15 = .ok (.aload_n 0, 1) := by decide +kernel
theorem dX5_chargeAll_16 : decode cX5_chargeAll 16 = .ok (.getfield 19, 3) := by decide +kernel
theorem dX5_chargeAll_19 : decode cX5_chargeAll 19 = .ok (.iload_n 2, 1) := by decide +kernel
theorem dX5_chargeAll_20 : decode cX5_chargeAll 20 = .ok (.invokevirtual 164, 3) := by decide +kernel
theorem dX5_chargeAll_23 : decode cX5_chargeAll 23 = .ok (.checkcast 82, 3) := by decide +kernel
theorem dX5_chargeAll_26 : decode cX5_chargeAll 26 = .ok (.astore_n 3, 1) := by decide +kernel
theorem dX5_chargeAll_27 : decode cX5_chargeAll 27 = .ok (.aload_n 3, 1) := by decide +kernel
theorem dX5_chargeAll_28 : decode cX5_chargeAll 28 = .ok (.invokevirtual 145, 3) := by decide +kernel
theorem dX5_chargeAll_31 : decode cX5_chargeAll 31 = .ok (.ifCond .eq 46, 3) := by decide +kernel
theorem dX5_chargeAll_34 : decode cX5_chargeAll 34 = .ok (.aload_n 3, 1) := by decide +kernel
theorem dX5_chargeAll_35 : decode cX5_chargeAll 35 = .ok (.aload_n 0, 1) := by decide +kernel
theorem dX5_chargeAll_36 : decode cX5_chargeAll 36 = .ok (.getfield 10, 3) := by decide +kernel
theorem dX5_chargeAll_39 : decode cX5_chargeAll 39 = .ok (.invokevirtual 37, 3) := by decide +kernel
theorem dX5_chargeAll_42 : decode cX5_chargeAll 42 = .ok (.invokevirtual 204, 3) := by decide +kernel
theorem dX5_chargeAll_45 : decode cX5_chargeAll 45 = .ok (.aload_n 0, 1) := by decide +kernel
theorem dX5_chargeAll_46 : decode cX5_chargeAll 46 = .ok (.dup, 1) := by decide +kernel
theorem dX5_chargeAll_47 : decode cX5_chargeAll 47 = .ok (.getfield 171, 3) := by decide +kernel
theorem dX5_chargeAll_50 : decode cX5_chargeAll 50 = .ok (.aload_n 3, 1) := by decide +kernel
theorem dX5_chargeAll_51 : decode cX5_chargeAll 51 = .ok (.aload_n 0, 1) := by decide +kernel
theorem dX5_chargeAll_52 : decode cX5_chargeAll 52 = .ok (.getfield 10, 3) := by decide +kernel
theorem dX5_chargeAll_55 : decode cX5_chargeAll 55 = .ok (.invokevirtual 207, 3) := by decide +kernel
theorem dX5_chargeAll_58 : decode cX5_chargeAll 58 = .ok (.ladd, 1) := by decide +kernel
theorem dX5_chargeAll_59 : decode cX5_chargeAll 59 = .ok (.putfield 171, 3) := by decide +kernel
theorem dX5_chargeAll_62 : decode cX5_chargeAll 62 = .ok (.iload_n 1, 1) := by decide +kernel
theorem dX5_chargeAll_63 : decode cX5_chargeAll 63 = .ok (.aload_n 3, 1) := by decide +kernel
theorem dX5_chargeAll_64 : decode cX5_chargeAll 64 = .ok (.invokevirtual 145, 3) := by decide +kernel
theorem dX5_chargeAll_67 : decode cX5_chargeAll 67 = .ok (.ifCond .eq 7, 3) := by decide +kernel
theorem dX5_chargeAll_70 : decode cX5_chargeAll 70 = .ok (.iconst 0, 1) := by decide +kernel
theorem dX5_chargeAll_71 : decode cX5_chargeAll 71 = .ok (.goto 4, 3) := by decide +kernel
theorem dX5_chargeAll_74 : decode cX5_chargeAll 74 = .ok (.iconst 1, 1) := by decide +kernel
theorem dX5_chargeAll_75 : decode cX5_chargeAll 75 = .ok (.iadd, 1) := by decide +kernel
theorem dX5_chargeAll_76 : decode cX5_chargeAll 76 = .ok (.istore_n 1, 1) := by decide +kernel
theorem dX5_chargeAll_77 : decode cX5_chargeAll 77 = .ok (.iinc 2 1, 3) := by decide +kernel
theorem dX5_chargeAll_80 : decode cX5_chargeAll 80 = .ok (.goto (-76), 3) := by decide +kernel
theorem dX5_chargeAll_83 : decode cX5_chargeAll 83 = .ok (.iload_n 1, 1) := by decide +kernel
theorem dX5_chargeAll_84 : decode cX5_chargeAll 84 = .ok (.ireturn, 1) := by decide +kernel
theorem dX5_moneyFor_0 : decode cX5_moneyFor 0 = .ok (.lload_n 0, 1) := by decide +kernel
theorem dX5_moneyFor_1 : decode cX5_moneyFor 1 = .ok (.lload_n 2, 1) := by decide +kernel
theorem dX5_moneyFor_2 : decode cX5_moneyFor 2 = .ok (.lmul, 1) := by decide +kernel
theorem dX5_moneyFor_3 : decode cX5_moneyFor 3 = .ok (.ldc2_w 210, 3) := by decide +kernel
theorem dX5_moneyFor_6 : decode cX5_moneyFor 6 = .ok (.ldiv, 1) := by decide +kernel
theorem dX5_moneyFor_7 : decode cX5_moneyFor 7 = .ok (.lreturn, 1) := by decide +kernel
theorem dX5_unitsFor_0 : decode cX5_unitsFor 0 = .ok (.lload_n 2, 1) := by decide +kernel
theorem dX5_unitsFor_1 : decode cX5_unitsFor 1 = .ok (.lconst 1, 1) := by decide +kernel
theorem dX5_unitsFor_2 : decode cX5_unitsFor 2 = .ok (.lcmp, 1) := by decide +kernel
theorem dX5_unitsFor_3 : decode cX5_unitsFor 3 = .ok (.ifCond .ge 7, 3) := by decide +kernel
theorem dX5_unitsFor_6 : decode cX5_unitsFor 6 = .ok (.lconst 0, 1) := by decide +kernel
theorem dX5_unitsFor_7 : decode cX5_unitsFor 7 = .ok (.goto 10, 3) := by decide +kernel
theorem dX5_unitsFor_10 : decode cX5_unitsFor 10 = .ok (.lload_n 0, 1) := by decide +kernel
theorem dX5_unitsFor_11 : decode cX5_unitsFor 11 = .ok (.ldc2_w 210, 3) := by decide +kernel
theorem dX5_unitsFor_14 : decode cX5_unitsFor 14 = .ok (.lmul, 1) := by decide +kernel
theorem dX5_unitsFor_15 : decode cX5_unitsFor 15 = .ok (.lload_n 2, 1) := by decide +kernel
theorem dX5_unitsFor_16 : decode cX5_unitsFor 16 = .ok (.ldiv, 1) := by decide +kernel
theorem dX5_unitsFor_17 : decode cX5_unitsFor 17 = .ok (.lreturn, 1) := by decide +kernel
theorem dX6_init_0 : decode cX6_init 0 = .ok (.aload_n 0, 1) := by decide +kernel
theorem dX6_init_1 : decode cX6_init 1 = .ok (.invokespecial 1, 3) := by decide +kernel
theorem dX6_init_4 : decode cX6_init 4 = .ok (.aload_n 0, 1) := by decide +kernel
theorem dX6_init_5 : decode cX6_init 5 = .ok (.sipush 6003, 3) := by decide +kernel
theorem dX6_init_8 : decode cX6_init 8 = .ok (.newarray .int, 2) := by decide +kernel
theorem dX6_init_10 : decode cX6_init 10 = .ok (.putfield 7, 3) := by decide +kernel
theorem dX6_init_13 : decode cX6_init 13 = .ok (.aload_n 0, 1) := by decide +kernel
theorem dX6_init_14 : decode cX6_init 14 = .ok (.bipush 10, 2) := by decide +kernel
theorem dX6_init_16 : decode cX6_init 16 = .ok (.newarray .int, 2) := by decide +kernel
theorem dX6_init_18 : decode cX6_init 18 = .ok (.putfield 13, 3) := by decide +kernel
theorem dX6_init_21 : decode cX6_init 21 = .ok (.aload_n 0, 1) := by decide +kernel
theorem dX6_init_22 : decode cX6_init 22 = .ok (.bipush 10, 2) := by decide +kernel
theorem dX6_init_24 : decode cX6_init 24 = .ok (.newarray .int, 2) := by decide +kernel
theorem dX6_init_26 : decode cX6_init 26 = .ok (.putfield 16, 3) := by decide +kernel
theorem dX6_init_29 : decode cX6_init 29 = .ok (.aload_n 0, 1) := by decide +kernel
theorem dX6_init_30 : decode cX6_init 30 = .ok (.bipush 10, 2) := by decide +kernel
theorem dX6_init_32 : decode cX6_init 32 = .ok (.newarray .int, 2) := by decide +kernel
theorem dX6_init_34 : decode cX6_init 34 = .ok (.putfield 19, 3) := by decide +kernel
theorem dX6_init_37 : decode cX6_init 37 = .ok (.aload_n 0, 1) := by decide +kernel
theorem dX6_init_38 : decode cX6_init 38 = .ok (.bipush 10, 2) := by decide +kernel
theorem dX6_init_40 : decode cX6_init 40 = .ok (.newarray .int, 2) := by decide +kernel
theorem dX6_init_42 : decode cX6_init 42 = .ok (.putfield 22, 3) := by decide +kernel
theorem dX6_init_45 : decode cX6_init 45 = .ok (.aload_n 0, 1) := by decide +kernel
theorem dX6_init_46 : decode cX6_init 46 = .ok (.bipush 10, 2) := by decide +kernel
theorem dX6_init_48 : decode cX6_init 48 = .ok (.newarray .int, 2) := by decide +kernel
theorem dX6_init_50 : decode cX6_init 50 = .ok (.putfield 25, 3) := by decide +kernel
theorem dX6_init_53 : decode cX6_init 53 = .ok (.aload_n 0, 1) := by decide +kernel
theorem dX6_init_54 : decode cX6_init 54 = .ok (.bipush 10, 2) := by decide +kernel
theorem dX6_init_56 : decode cX6_init 56 = .ok (.newarray .boolean, 2) := by decide +kernel
theorem dX6_init_58 : decode cX6_init 58 = .ok (.putfield 28, 3) := by decide +kernel
theorem dX6_init_61 : decode cX6_init 61 = .ok (.aload_n 0, 1) := by decide +kernel
theorem dX6_init_62 : decode cX6_init 62 = .ok (.bipush 10, 2) := by decide +kernel
theorem dX6_init_64 : decode cX6_init 64 = .ok (.newarray .long, 2) := by decide +kernel
theorem dX6_init_66 : decode cX6_init 66 = .ok (.putfield 32, 3) := by decide +kernel
theorem dX6_init_69 : decode cX6_init 69 = .ok (.aload_n 0, 1) := by decide +kernel
theorem dX6_init_70 : decode cX6_init 70 = .ok (.bipush 30, 2) := by decide +kernel
theorem dX6_init_72 : decode cX6_init 72 = .ok (.newarray .long, 2) := by decide +kernel
theorem dX6_init_74 : decode cX6_init 74 = .ok (.putfield 36, 3) := by decide +kernel
theorem dX6_init_77 : decode cX6_init 77 = .ok (.aload_n 0, 1) := by decide +kernel
theorem dX6_init_78 : decode cX6_init 78 = .ok (.sipush 4096, 3) := by decide +kernel
theorem dX6_init_81 : decode cX6_init 81 = .ok (.newarray .int, 2) := by decide +kernel
theorem dX6_init_83 : decode cX6_init 83 = .ok (.putfield 39, 3) := by decide +kernel
theorem dX6_init_86 : decode cX6_init 86 = .ok (.aload_n 0, 1) := by decide +kernel
theorem dX6_init_87 : decode cX6_init 87 = .ok (.sipush 4096, 3) := by decide +kernel
theorem dX6_init_90 : decode cX6_init 90 = .ok (.newarray .int, 2) := by decide +kernel
theorem dX6_init_92 : decode cX6_init 92 = .ok (.putfield 42, 3) := by decide +kernel
theorem dX6_init_95 : decode cX6_init 95 = .ok (.aload_n 0, 1) := by decide +kernel
theorem dX6_init_96 : decode cX6_init 96 = .ok (.sipush 4096, 3) := by decide +kernel
theorem dX6_init_99 : decode cX6_init 99 = .ok (.newarray .int, 2) := by decide +kernel
theorem dX6_init_101 : decode cX6_init 101 = .ok (.putfield 45, 3) := by decide +kernel
theorem dX6_init_104 : decode cX6_init 104 = .ok (.aload_n 0, 1) := by decide +kernel
theorem dX6_init_105 : decode cX6_init 105 = .ok (.sipush 4096, 3) := by decide +kernel
theorem dX6_init_108 : decode cX6_init 108 = .ok (.newarray .int, 2) := by decide +kernel
theorem dX6_init_110 : decode cX6_init 110 = .ok (.putfield 48, 3) := by decide +kernel
theorem dX6_init_113 : decode cX6_init 113 = .ok (.iconst 0, 1) := by decide +kernel
theorem dX6_init_114 : decode cX6_init 114 = .ok (.istore_n 1, 1) := by decide +kernel
theorem dX6_init_115 : decode cX6_init 115 = .ok (.iload_n 1, 1) := by decide +kernel
theorem dX6_init_116 : decode cX6_init 116 = .ok (.iconst 3, 1) := by decide +kernel
theorem dX6_init_117 : decode cX6_init 117 = .ok (.if_icmp .ge 22, 3) := by decide +kernel
theorem dX6_init_120 : decode cX6_init 120 = .ok (.aload_n 0, 1) := by decide +kernel
theorem dX6_init_121 : decode cX6_init 121 = .ok (.getfield 7, 3) := by decide +kernel
theorem dX6_init_124 : decode cX6_init 124 = .ok (.sipush 2001, 3) := by decide +kernel
theorem dX6_init_127 : decode cX6_init 127 = .ok (.iload_n 1, 1) := by decide +kernel
theorem dX6_init_128 : decode cX6_init 128 = .ok (.imul, 1) := by decide +kernel
theorem dX6_init_129 : decode cX6_init 129 = .ok (.sipush 1000, 3) := by decide +kernel
theorem dX6_init_132 : decode cX6_init 132 = .ok (.iastore, 1) := by decide +kernel
theorem dX6_init_133 : decode cX6_init 133 = .ok (.iinc 1 1, 3) := by decide +kernel
theorem dX6_init_136 : decode cX6_init 136 = .ok (.goto (-21), 3) := by decide +kernel
theorem dX6_init_139 : decode cX6_init 139 = .ok (.return_, 1) := by decide +kernel
theorem dX6_thrown_0 : decode cX6_thrown 0 = .ok (.aload_n 0, 1) := by decide +kernel
theorem dX6_thrown_1 : decode cX6_thrown 1 = .ok (.getfield 51, 3) := by decide +kernel
theorem dX6_thrown_4 : decode cX6_thrown 4 = .ok (.ireturn, 1) := by decide +kernel
theorem dX6_holds_0 : decode cX6_holds 0 = .ok (.aload_n 0, 1) := by decide +kernel
theorem dX6_holds_1 : decode cX6_holds 1 = .ok (.iload_n 1, 1) := by decide +kernel
theorem dX6_holds_2 : decode cX6_holds 2 = .ok (.putfield 51, 3) := by decide +kernel
theorem dX6_holds_5 : decode cX6_holds 5 = .ok (.iload_n 1, 1) := by decide +kernel
theorem dX6_holds_6 : decode cX6_holds 6 = .ok (.ifCond .ne 7, 3) := by decide +kernel
theorem dX6_holds_9 : decode cX6_holds 9 = .ok (.iconst 1, 1) := by decide +kernel
theorem dX6_holds_10 : decode cX6_holds 10 = .ok (.goto 4, 3) := by decide +kernel
theorem dX6_holds_13 : decode cX6_holds 13 = .ok (.iconst 0, 1) := by decide +kernel
theorem dX6_holds_14 : decode cX6_holds 14 = .ok (.ireturn, 1) := by decide +kernel
theorem dX6_isIn_0 : decode cX6_isIn 0 = .ok (.iload_n 0, 1) := by decide +kernel
theorem dX6_isIn_1 : decode cX6_isIn 1 = .ok (.iload_n 1, 1) := by decide +kernel
theorem dX6_isIn_2 : decode cX6_isIn 2 = .ok (.if_icmp .lt 12, 3) := by decide +kernel
theorem dX6_isIn_5 : decode cX6_isIn 5 = .ok (.iload_n 0, 1) := by decide +kernel
theorem dX6_isIn_6 : decode cX6_isIn 6 = .ok (.iload_n 2, 1) := by decide +kernel
theorem dX6_isIn_7 : decode cX6_isIn 7 = .ok (.if_icmp .gt 7, 3) := by decide +kernel
theorem dX6_isIn_10 : decode cX6_isIn 10 = .ok (.iconst 1, 1) := by decide +kernel
theorem dX6_isIn_11 : decode cX6_isIn 11 = .ok (.goto 4, 3) := by decide +kernel
theorem dX6_isIn_14 : decode cX6_isIn 14 = .ok (.iconst 0, 1) := by decide +kernel
theorem dX6_isIn_15 : decode cX6_isIn 15 = .ok (.ireturn, 1) := by decide +kernel
set_option maxRecDepth 20000 in
theorem ggX6_isFund_X6_isIn : GoodIn wsX6_isFund wsX6_isIn := goodIn_r _ [4] (by decide +kernel) (by decide +kernel)
set_option maxRecDepth 20000 in
theorem gX6_isFund_X6_isIn : GoodIn wsX6_isFund (va_wsS RX6 55 yX6_isIn wsX6_isIn) := goodIn_app (goodIn_of _ (by decide +kernel)) ggX6_isFund_X6_isIn
theorem dX6_isFund_0 : decode cX6_isFund 0 = .ok (.iload_n 0, 1) := by decide +kernel
theorem dX6_isFund_1 : decode cX6_isFund 1 = .ok (.iconst 0, 1) := by decide +kernel
theorem dX6_isFund_2 : decode cX6_isFund 2 = .ok (.iconst 2, 1) := by decide +kernel
theorem dX6_isFund_3 : decode cX6_isFund 3 = .ok (.invokestatic 55, 3) := by decide +kernel
theorem dX6_isFund_6 : decode cX6_isFund 6 = .ok (.ireturn, 1) := by decide +kernel
set_option maxRecDepth 20000 in
theorem ggX6_isContract_X6_isIn : GoodIn wsX6_isContract wsX6_isIn := goodIn_r _ [5] (by decide +kernel) (by decide +kernel)
set_option maxRecDepth 20000 in
theorem gX6_isContract_X6_isIn : GoodIn wsX6_isContract (va_wsS RX6 55 yX6_isIn wsX6_isIn) := goodIn_app (goodIn_of _ (by decide +kernel)) ggX6_isContract_X6_isIn
theorem dX6_isContract_0 : decode cX6_isContract 0 = .ok (.iload_n 1, 1) := by decide +kernel
theorem dX6_isContract_1 : decode cX6_isContract 1 = .ok (.iconst 0, 1) := by decide +kernel
theorem dX6_isContract_2 : decode cX6_isContract 2 = .ok (.aload_n 0, 1) := by decide +kernel
theorem dX6_isContract_3 : decode cX6_isContract 3 = .ok (.getfield 59, 3) := by decide +kernel
theorem dX6_isContract_6 : decode cX6_isContract 6 = .ok (.iconst 1, 1) := by decide +kernel
theorem dX6_isContract_7 : decode cX6_isContract 7 = .ok (.isub, 1) := by decide +kernel
theorem dX6_isContract_8 : decode cX6_isContract 8 = .ok (.invokestatic 55, 3) := by decide +kernel
theorem dX6_isContract_11 : decode cX6_isContract 11 = .ok (.ireturn, 1) := by decide +kernel
theorem dX6_bid_0 : decode cX6_bid 0 = .ok (.aload_n 0, 1) := by decide +kernel
theorem dX6_bid_1 : decode cX6_bid 1 = .ok (.getfield 7, 3) := by decide +kernel
theorem dX6_bid_4 : decode cX6_bid 4 = .ok (.sipush 2001, 3) := by decide +kernel
theorem dX6_bid_7 : decode cX6_bid 7 = .ok (.iload_n 1, 1) := by decide +kernel
theorem dX6_bid_8 : decode cX6_bid 8 = .ok (.imul, 1) := by decide +kernel
theorem dX6_bid_9 : decode cX6_bid 9 = .ok (.aload_n 0, 1) := by decide +kernel
theorem dX6_bid_10 : decode cX6_bid 10 = .ok (.getfield 62, 3) := by decide +kernel
theorem dX6_bid_13 : decode cX6_bid 13 = .ok (.iadd, 1) := by decide +kernel
theorem dX6_bid_14 : decode cX6_bid 14 = .ok (.iaload, 1) := by decide +kernel
theorem dX6_bid_15 : decode cX6_bid 15 = .ok (.ireturn, 1) := by decide +kernel
theorem dX6_offerOn_0 : decode cX6_offerOn 0 = .ok (.aload_n 0, 1) := by decide +kernel
theorem dX6_offerOn_1 : decode cX6_offerOn 1 = .ok (.getfield 7, 3) := by decide +kernel
theorem dX6_offerOn_4 : decode cX6_offerOn 4 = .ok (.sipush 2001, 3) := by decide +kernel
theorem dX6_offerOn_7 : decode cX6_offerOn 7 = .ok (.iload_n 1, 1) := by decide +kernel
theorem dX6_offerOn_8 : decode cX6_offerOn 8 = .ok (.imul, 1) := by decide +kernel
theorem dX6_offerOn_9 : decode cX6_offerOn 9 = .ok (.iload_n 2, 1) := by decide +kernel
theorem dX6_offerOn_10 : decode cX6_offerOn 10 = .ok (.iadd, 1) := by decide +kernel
theorem dX6_offerOn_11 : decode cX6_offerOn 11 = .ok (.iaload, 1) := by decide +kernel
theorem dX6_offerOn_12 : decode cX6_offerOn 12 = .ok (.bipush 105, 2) := by decide +kernel
theorem dX6_offerOn_14 : decode cX6_offerOn 14 = .ok (.imul, 1) := by decide +kernel
theorem dX6_offerOn_15 : decode cX6_offerOn 15 = .ok (.bipush 100, 2) := by decide +kernel
theorem dX6_offerOn_17 : decode cX6_offerOn 17 = .ok (.idiv, 1) := by decide +kernel
theorem dX6_offerOn_18 : decode cX6_offerOn 18 = .ok (.ireturn, 1) := by decide +kernel
theorem dX6_money_0 : decode cX6_money 0 = .ok (.lload_n 0, 1) := by decide +kernel
theorem dX6_money_1 : decode cX6_money 1 = .ok (.iload_n 2, 1) := by decide +kernel
theorem dX6_money_2 : decode cX6_money 2 = .ok (.i2l, 1) := by decide +kernel
theorem dX6_money_3 : decode cX6_money 3 = .ok (.lmul, 1) := by decide +kernel
theorem dX6_money_4 : decode cX6_money 4 = .ok (.ldc2_w 65, 3) := by decide +kernel
theorem dX6_money_7 : decode cX6_money 7 = .ok (.ldiv, 1) := by decide +kernel
theorem dX6_money_8 : decode cX6_money 8 = .ok (.lreturn, 1) := by decide +kernel
theorem dX6_unitsFor_0 : decode cX6_unitsFor 0 = .ok (.lload_n 0, 1) := by decide +kernel
theorem dX6_unitsFor_1 : decode cX6_unitsFor 1 = .ok (.ldc2_w 65, 3) := by decide +kernel
theorem dX6_unitsFor_4 : decode cX6_unitsFor 4 = .ok (.lmul, 1) := by decide +kernel
theorem dX6_unitsFor_5 : decode cX6_unitsFor 5 = .ok (.iload_n 2, 1) := by decide +kernel
theorem dX6_unitsFor_6 : decode cX6_unitsFor 6 = .ok (.i2l, 1) := by decide +kernel
theorem dX6_unitsFor_7 : decode cX6_unitsFor 7 = .ok (.ldiv, 1) := by decide +kernel
theorem dX6_unitsFor_8 : decode cX6_unitsFor 8 = .ok (.lreturn, 1) := by decide +kernel
theorem dX6_grows_0 : decode cX6_grows 0 = .ok (.iconst 3, 1) := by decide +kernel
theorem dX6_grows_1 : decode cX6_grows 1 = .ok (.iload_n 1, 1) := by decide +kernel
theorem dX6_grows_2 : decode cX6_grows 2 = .ok (.imul, 1) := by decide +kernel
theorem dX6_grows_3 : decode cX6_grows 3 = .ok (.iload_n 2, 1) := by decide +kernel
theorem dX6_grows_4 : decode cX6_grows 4 = .ok (.iadd, 1) := by decide +kernel
theorem dX6_grows_5 : decode cX6_grows 5 = .ok (.istore 5, 2) := by decide +kernel
theorem dX6_grows_7 : decode cX6_grows 7 = .ok (.aload_n 0, 1) := by decide +kernel
theorem dX6_grows_8 : decode cX6_grows 8 = .ok (.getfield 36, 3) := by decide +kernel
theorem dX6_grows_11 : decode cX6_grows 11 = .ok (.iload 5, 2) := by decide +kernel
theorem dX6_grows_13 : decode cX6_grows 13 = .ok (.aload_n 0, 1) := by decide +kernel
theorem dX6_grows_14 : decode cX6_grows 14 = .ok (.getfield 36, 3) := by decide +kernel
theorem dX6_grows_17 : decode cX6_grows 17 = .ok (.iload 5, 2) := by decide +kernel
theorem dX6_grows_19 : decode cX6_grows 19 = .ok (.laload, 1) := by decide +kernel
theorem dX6_grows_20 : decode cX6_grows 20 = .ok (.lload_n 3, 1) := by decide +kernel
theorem dX6_grows_21 : decode cX6_grows 21 = .ok (.ladd, 1) := by decide +kernel
theorem dX6_grows_22 : decode cX6_grows 22 = .ok (.ldc2_w 67, 3) := by decide +kernel
theorem dX6_grows_25 : decode cX6_grows 25 = .ok (.lcmp, 1) := by decide +kernel
theorem dX6_grows_26 : decode cX6_grows 26 = .ok (.ifCond .le 9, 3) := by decide +kernel
theorem dX6_grows_29 : decode cX6_grows 29 = .ok (.ldc2_w 67, 3) := by decide +kernel
theorem dX6_grows_32 : decode cX6_grows 32 = .ok (.goto 12, 3) := by decide +kernel
theorem dX6_grows_35 : decode cX6_grows 35 = .ok (.aload_n 0, 1) := by decide +kernel
theorem dX6_grows_36 : decode cX6_grows 36 = .ok (.getfield 36, 3) := by decide +kernel
theorem dX6_grows_39 : decode cX6_grows 39 = .ok (.iload 5, 2) := by decide +kernel
theorem dX6_grows_41 : decode cX6_grows 41 = .ok (.laload, 1) := by decide +kernel
theorem dX6_grows_42 : decode cX6_grows 42 = .ok (.lload_n 3, 1) := by decide +kernel
theorem dX6_grows_43 : decode cX6_grows 43 = .ok (.ladd, 1) := by decide +kernel
theorem dX6_grows_44 : decode cX6_grows 44 = .ok (.lastore, 1) := by decide +kernel
theorem dX6_grows_45 : decode cX6_grows 45 = .ok (.return_, 1) := by decide +kernel
set_option maxRecDepth 20000 in
theorem ggX6_pays_X6_offerOn : GoodIn wsX6_pays wsX6_offerOn := goodIn_r _ [10, 11, 22, 23, 24, 25, 26, 27, 28, 29, 30, 31, 32, 33, 34, 35, 36, 37, 38, 39, 40] (by decide +kernel) (by decide +kernel)
set_option maxRecDepth 20000 in
theorem gX6_pays_X6_offerOn : GoodIn wsX6_pays (wsV RX6 69 RX6 yX6_offerOn wsX6_offerOn) := goodIn_app (goodIn_of _ (by decide +kernel)) ggX6_pays_X6_offerOn
set_option maxRecDepth 20000 in
theorem ggX6_pays_X6_unitsFor : GoodIn wsX6_pays wsX6_unitsFor := goodIn_r _ [14, 15] (by decide +kernel) (by decide +kernel)
set_option maxRecDepth 20000 in
theorem gX6_pays_X6_unitsFor : GoodIn wsX6_pays (va_wsS RX6 73 yX6_unitsFor wsX6_unitsFor) := goodIn_app (goodIn_of _ (by decide +kernel)) ggX6_pays_X6_unitsFor
set_option maxRecDepth 20000 in
theorem ggX6_pays_X6_grows : GoodIn wsX6_pays wsX6_grows := goodIn_r _ [19, 20, 21, 22, 23, 24, 25, 26, 27, 28, 29, 30, 31, 32, 33, 34, 35, 36, 37, 38, 39, 40] (by decide +kernel) (by decide +kernel)
set_option maxRecDepth 20000 in
theorem gX6_pays_X6_grows : GoodIn wsX6_pays (wsV RX6 77 RX6 yX6_grows wsX6_grows) := goodIn_app (goodIn_of _ (by decide +kernel)) ggX6_pays_X6_grows
theorem dX6_pays_0 : decode cX6_pays 0 = .ok (.aload_n 0, 1) := by decide +kernel
theorem dX6_pays_1 : decode cX6_pays 1 = .ok (.getfield 22, 3) := by decide +kernel
theorem dX6_pays_4 : decode cX6_pays 4 = .ok (.iload_n 1, 1) := by decide +kernel
theorem dX6_pays_5 : decode cX6_pays 5 = .ok (.iaload, 1) := by decide +kernel
theorem dX6_pays_6 : decode cX6_pays 6 = .ok (.istore_n 2, 1) := by decide +kernel
theorem dX6_pays_7 : decode cX6_pays 7 = .ok (.aload_n 0, 1) := by decide +kernel
theorem dX6_pays_8 : decode cX6_pays 8 = .ok (.getfield 13, 3) := by decide +kernel
theorem dX6_pays_11 : decode cX6_pays 11 = .ok (.iload_n 1, 1) := by decide +kernel
theorem dX6_pays_12 : decode cX6_pays 12 = .ok (.iaload, 1) := by decide +kernel
theorem dX6_pays_13 : decode cX6_pays 13 = .ok (.i2l, 1) := by decide +kernel
theorem dX6_pays_14 : decode cX6_pays 14 = .ok (.aload_n 0, 1) := by decide +kernel
theorem dX6_pays_15 : decode cX6_pays 15 = .ok (.iload_n 2, 1) := by decide +kernel
theorem dX6_pays_16 : decode cX6_pays 16 = .ok (.aload_n 0, 1) := by decide +kernel
theorem dX6_pays_17 : decode cX6_pays 17 = .ok (.getfield 62, 3) := by decide +kernel
theorem dX6_pays_20 : decode cX6_pays 20 = .ok (.invokevirtual 69, 3) := by decide +kernel
theorem dX6_pays_23 : decode cX6_pays 23 = .ok (.invokestatic 73, 3) := by decide +kernel
theorem dX6_pays_26 : decode cX6_pays 26 = .ok (.lstore_n 3, 1) := by decide +kernel
theorem dX6_pays_27 : decode cX6_pays 27 = .ok (.aload_n 0, 1) := by decide +kernel
theorem dX6_pays_28 : decode cX6_pays 28 = .ok (.getfield 25, 3) := by decide +kernel
theorem dX6_pays_31 : decode cX6_pays 31 = .ok (.iload_n 1, 1) := by decide +kernel
theorem dX6_pays_32 : decode cX6_pays 32 = .ok (.dup2, 1) := by decide +kernel
theorem dX6_pays_33 : decode cX6_pays 33 = .ok (.iaload, 1) := by decide +kernel
theorem dX6_pays_34 : decode cX6_pays 34 = .ok (.iconst 1, 1) := by decide +kernel
theorem dX6_pays_35 : decode cX6_pays 35 = .ok (.iadd, 1) := by decide +kernel
theorem dX6_pays_36 : decode cX6_pays 36 = .ok (.iastore, 1) := by decide +kernel
theorem dX6_pays_37 : decode cX6_pays 37 = .ok (.aload_n 0, 1) := by decide +kernel
theorem dX6_pays_38 : decode cX6_pays 38 = .ok (.getfield 25, 3) := by decide +kernel
theorem dX6_pays_41 : decode cX6_pays 41 = .ok (.iload_n 1, 1) := by decide +kernel
theorem dX6_pays_42 : decode cX6_pays 42 = .ok (.iaload, 1) := by decide +kernel
theorem dX6_pays_43 : decode cX6_pays 43 = .ok (.bipush 12, 2) := by decide +kernel
theorem dX6_pays_45 : decode cX6_pays 45 = .ok (.if_icmp .gt 16, 3) := by decide +kernel
theorem dX6_pays_48 : decode cX6_pays 48 = .ok (.aload_n 0, 1) := by decide +kernel
theorem dX6_pays_49 : decode cX6_pays 49 = .ok (.getfield 32, 3) := by decide +kernel
theorem dX6_pays_52 : decode cX6_pays 52 = .ok (.iload_n 1, 1) := by decide +kernel
theorem dX6_pays_53 : decode cX6_pays 53 = .ok (.dup2, 1) := by decide +kernel
theorem dX6_pays_54 : decode cX6_pays 54 = .ok (.laload, 1) := by decide +kernel
theorem dX6_pays_55 : decode cX6_pays 55 = .ok (.lload_n 3, 1) := by decide +kernel
theorem dX6_pays_56 : decode cX6_pays 56 = .ok (.ladd, 1) := by decide +kernel
theorem dX6_pays_57 : decode cX6_pays 57 = .ok (.lastore, 1) := by decide +kernel
theorem dX6_pays_58 : decode cX6_pays 58 = .ok (.goto 10, 3) := by decide +kernel
theorem dX6_pays_61 : decode cX6_pays 61 = .ok (.aload_n 0, 1) := by decide +kernel
theorem dX6_pays_62 : decode cX6_pays 62 = .ok (.iload_n 1, 1) := by decide +kernel
theorem dX6_pays_63 : decode cX6_pays 63 = .ok (.iload_n 2, 1) := by decide +kernel
theorem dX6_pays_64 : decode cX6_pays 64 = .ok (.lload_n 3, 1) := by decide +kernel
theorem dX6_pays_65 : decode cX6_pays 65 = .ok (.invokevirtual 77, 3) := by decide +kernel
theorem dX6_pays_68 : decode cX6_pays 68 = .ok (.return_, 1) := by decide +kernel
set_option maxRecDepth 20000 in
theorem ggX6_switches_X6_bid : GoodIn wsX6_switches wsX6_bid := goodIn_r _ [7, 8, 9, 22, 23, 24, 25, 26, 27, 28, 29, 30, 31, 32, 33, 34, 35, 36, 37, 38, 39, 40] (by decide +kernel) (by decide +kernel)
set_option maxRecDepth 20000 in
theorem gX6_switches_X6_bid : GoodIn wsX6_switches (wsV RX6 83 RX6 yX6_bid wsX6_bid) := goodIn_app (goodIn_of _ (by decide +kernel)) ggX6_switches_X6_bid
set_option maxRecDepth 20000 in
theorem ggX6_switches_X6_money : GoodIn wsX6_switches wsX6_money := goodIn_r _ [12, 13] (by decide +kernel) (by decide +kernel)
set_option maxRecDepth 20000 in
theorem gX6_switches_X6_money : GoodIn wsX6_switches (va_wsS RX6 87 yX6_money wsX6_money) := goodIn_app (goodIn_of _ (by decide +kernel)) ggX6_switches_X6_money
set_option maxRecDepth 20000 in
theorem ggX6_switches_X6_unitsFor : GoodIn wsX6_switches wsX6_unitsFor := goodIn_r _ [16, 13] (by decide +kernel) (by decide +kernel)
set_option maxRecDepth 20000 in
theorem gX6_switches_X6_unitsFor : GoodIn wsX6_switches (va_wsS RX6 73 yX6_unitsFor wsX6_unitsFor) := goodIn_app (goodIn_of _ (by decide +kernel)) ggX6_switches_X6_unitsFor
set_option maxRecDepth 20000 in
theorem ggX6_switches_X6_grows : GoodIn wsX6_switches wsX6_grows := goodIn_r _ [20, 1, 21, 22, 23, 24, 25, 26, 27, 28, 29, 30, 31, 32, 33, 34, 35, 36, 37, 38, 39, 40] (by decide +kernel) (by decide +kernel)
set_option maxRecDepth 20000 in
theorem gX6_switches_X6_grows : GoodIn wsX6_switches (wsV RX6 77 RX6 yX6_grows wsX6_grows) := goodIn_app (goodIn_of _ (by decide +kernel)) ggX6_switches_X6_grows
theorem dX6_switches_0 : decode cX6_switches 0 = .ok (.iconst 3, 1) := by decide +kernel
theorem dX6_switches_1 : decode cX6_switches 1 = .ok (.iload_n 1, 1) := by decide +kernel
theorem dX6_switches_2 : decode cX6_switches 2 = .ok (.imul, 1) := by decide +kernel
theorem dX6_switches_3 : decode cX6_switches 3 = .ok (.iload_n 2, 1) := by decide +kernel
theorem dX6_switches_4 : decode cX6_switches 4 = .ok (.iadd, 1) := by decide +kernel
theorem dX6_switches_5 : decode cX6_switches 5 = .ok (.istore 5, 2) := by decide +kernel
theorem dX6_switches_7 : decode cX6_switches 7 = .ok (.aload_n 0, 1) := by decide +kernel
theorem dX6_switches_8 : decode cX6_switches 8 = .ok (.getfield 36, 3) := by decide +kernel
theorem dX6_switches_11 : decode cX6_switches 11 = .ok (.iload 5, 2) := by decide +kernel
theorem dX6_switches_13 : decode cX6_switches 13 = .ok (.laload, 1) := by decide +kernel
theorem dX6_switches_14 : decode cX6_switches 14 = .ok (.iload 4, 2) := by decide +kernel
theorem dX6_switches_16 : decode cX6_switches 16 = .ok (.i2l, 1) := by decide +kernel
theorem dX6_switches_17 : decode cX6_switches 17 = .ok (.lmul, 1) := by decide +kernel
theorem dX6_switches_18 : decode cX6_switches 18 = .ok (.ldc2_w 81, 3) := by decide +kernel
theorem dX6_switches_21 : decode cX6_switches 21 = .ok (.ldiv, 1) := by decide +kernel
theorem dX6_switches_22 : decode cX6_switches 22 = .ok (.lstore 6, 2) := by decide +kernel
theorem dX6_switches_24 : decode cX6_switches 24 = .ok (.aload_n 0, 1) := by decide +kernel
theorem dX6_switches_25 : decode cX6_switches 25 = .ok (.getfield 36, 3) := by decide +kernel
theorem dX6_switches_28 : decode cX6_switches 28 = .ok (.iload 5, 2) := by decide +kernel
theorem dX6_switches_30 : decode cX6_switches 30 = .ok (.dup2, 1) := by decide +kernel
theorem dX6_switches_31 : decode cX6_switches 31 = .ok (.laload, 1) := by decide +kernel
theorem dX6_switches_32 : decode cX6_switches 32 = .ok (.lload 6, 2) := by decide +kernel
theorem dX6_switches_34 : decode cX6_switches 34 = .ok (.lsub, 1) := by decide +kernel
theorem dX6_switches_35 : decode cX6_switches 35 = .ok (.lastore, 1) := by decide +kernel
theorem dX6_switches_36 : decode cX6_switches 36 = .ok (.aload_n 0, 1) := by decide +kernel
theorem dX6_switches_37 : decode cX6_switches 37 = .ok (.iload_n 1, 1) := by decide +kernel
theorem dX6_switches_38 : decode cX6_switches 38 = .ok (.iload_n 3, 1) := by decide +kernel
theorem dX6_switches_39 : decode cX6_switches 39 = .ok (.lload 6, 2) := by decide +kernel
theorem dX6_switches_41 : decode cX6_switches 41 = .ok (.aload_n 0, 1) := by decide +kernel
theorem dX6_switches_42 : decode cX6_switches 42 = .ok (.iload_n 2, 1) := by decide +kernel
theorem dX6_switches_43 : decode cX6_switches 43 = .ok (.invokevirtual 83, 3) := by decide +kernel
theorem dX6_switches_46 : decode cX6_switches 46 = .ok (.invokestatic 87, 3) := by decide +kernel
theorem dX6_switches_49 : decode cX6_switches 49 = .ok (.aload_n 0, 1) := by decide +kernel
theorem dX6_switches_50 : decode cX6_switches 50 = .ok (.iload_n 3, 1) := by decide +kernel
theorem dX6_switches_51 : decode cX6_switches 51 = .ok (.invokevirtual 83, 3) := by decide +kernel
theorem dX6_switches_54 : decode cX6_switches 54 = .ok (.invokestatic 73, 3) := by decide +kernel
theorem dX6_switches_57 : decode cX6_switches 57 = .ok (.invokevirtual 77, 3) := by decide +kernel
theorem dX6_switches_60 : decode cX6_switches 60 = .ok (.return_, 1) := by decide +kernel
set_option maxRecDepth 20000 in
theorem ggX6_worthOf_X6_bid : GoodIn wsX6_worthOf wsX6_bid := goodIn_r _ [8, 9, 10, 15, 16, 17, 18, 19, 20, 21, 22, 23, 24, 25, 26, 27, 28, 29, 30, 31, 32, 33] (by decide +kernel) (by decide +kernel)
set_option maxRecDepth 20000 in
theorem gX6_worthOf_X6_bid : GoodIn wsX6_worthOf (wsV RX6 83 RX6 yX6_bid wsX6_bid) := goodIn_app (goodIn_of _ (by decide +kernel)) ggX6_worthOf_X6_bid
set_option maxRecDepth 20000 in
theorem ggX6_worthOf_X6_money : GoodIn wsX6_worthOf wsX6_money := goodIn_r _ [13, 14] (by decide +kernel) (by decide +kernel)
set_option maxRecDepth 20000 in
theorem gX6_worthOf_X6_money : GoodIn wsX6_worthOf (va_wsS RX6 87 yX6_money wsX6_money) := goodIn_app (goodIn_of _ (by decide +kernel)) ggX6_worthOf_X6_money
theorem dX6_worthOf_0 : decode cX6_worthOf 0 = .ok (.aload_n 0, 1) := by decide +kernel
theorem dX6_worthOf_1 : decode cX6_worthOf 1 = .ok (.getfield 32, 3) := by decide +kernel
theorem dX6_worthOf_4 : decode cX6_worthOf 4 = .ok (.iload_n 1, 1) := by decide +kernel
theorem dX6_worthOf_5 : decode cX6_worthOf 5 = .ok (.laload, 1) := by decide +kernel
theorem dX6_worthOf_6 : decode cX6_worthOf 6 = .ok (.aload_n 0, 1) := by decide +kernel
theorem dX6_worthOf_7 : decode cX6_worthOf 7 = .ok (.aload_n 0, 1) := by decide +kernel
theorem dX6_worthOf_8 : decode cX6_worthOf 8 = .ok (.getfield 22, 3) := by decide +kernel
theorem dX6_worthOf_11 : decode cX6_worthOf 11 = .ok (.iload_n 1, 1) := by decide +kernel
theorem dX6_worthOf_12 : decode cX6_worthOf 12 = .ok (.iaload, 1) := by decide +kernel
theorem dX6_worthOf_13 : decode cX6_worthOf 13 = .ok (.invokevirtual 83, 3) := by decide +kernel
theorem dX6_worthOf_16 : decode cX6_worthOf 16 = .ok (.invokestatic 87, 3) := by decide +kernel
theorem dX6_worthOf_19 : decode cX6_worthOf 19 = .ok (.lstore_n 2, 1) := by decide +kernel
theorem dX6_worthOf_20 : decode cX6_worthOf 20 = .ok (.iconst 0, 1) := by decide +kernel
theorem dX6_worthOf_21 : decode cX6_worthOf 21 = .ok (.istore 4, 2) := by decide +kernel
theorem dX6_worthOf_23 : decode cX6_worthOf 23 = .ok (.iload 4, 2) := by decide +kernel
theorem dX6_worthOf_25 : decode cX6_worthOf 25 = .ok (.iconst 3, 1) := by decide +kernel
theorem dX6_worthOf_26 : decode cX6_worthOf 26 = .ok (.if_icmp .ge 32, 3) := by decide +kernel
theorem dX6_worthOf_29 : decode cX6_worthOf 29 = .ok (.lload_n 2, 1) := by decide +kernel
theorem dX6_worthOf_30 : decode cX6_worthOf 30 = .ok (.aload_n 0, 1) := by decide +kernel
theorem dX6_worthOf_31 : decode cX6_worthOf 31 = .ok (.getfield 36, 3) := by decide +kernel
theorem dX6_worthOf_34 : decode cX6_worthOf 34 = .ok (.iconst 3, 1) := by decide +kernel
theorem dX6_worthOf_35 : decode cX6_worthOf 35 = .ok (.iload_n 1, 1) := by decide +kernel
theorem dX6_worthOf_36 : decode cX6_worthOf 36 = .ok (.imul, 1) := by decide +kernel
theorem dX6_worthOf_37 : decode cX6_worthOf 37 = .ok (.iload 4, 2) := by decide +kernel
theorem dX6_worthOf_39 : decode cX6_worthOf 39 = .ok (.iadd, 1) := by decide +kernel
theorem dX6_worthOf_40 : decode cX6_worthOf 40 = .ok (.laload, 1) := by decide +kernel
theorem dX6_worthOf_41 : decode cX6_worthOf 41 = .ok (.aload_n 0, 1) := by decide +kernel
theorem dX6_worthOf_42 : decode cX6_worthOf 42 = .ok (.iload 4, 2) := by decide +kernel
theorem dX6_worthOf_44 : decode cX6_worthOf 44 = .ok (.invokevirtual 83, 3) := by decide +kernel
theorem dX6_worthOf_47 : decode cX6_worthOf 47 = .ok (.invokestatic 87, 3) := by decide +kernel
theorem dX6_worthOf_50 : decode cX6_worthOf 50 = .ok (.ladd, 1) := by decide +kernel
theorem dX6_worthOf_51 : decode cX6_worthOf 51 = .ok (.lstore_n 2, 1) := by decide +kernel
theorem dX6_worthOf_52 : decode cX6_worthOf 52 = .ok (.iinc 4 1, 3) := by decide +kernel
theorem dX6_worthOf_55 : decode cX6_worthOf 55 = .ok (.goto (-32), 3) := by decide +kernel
theorem dX6_worthOf_58 : decode cX6_worthOf 58 = .ok (.lload_n 2, 1) := by decide +kernel
theorem dX6_worthOf_59 : decode cX6_worthOf 59 = .ok (.lreturn, 1) := by decide +kernel
set_option maxRecDepth 20000 in
theorem ggX6_charges_X6_worthOf : GoodIn wsX6_charges wsX6_worthOf := goodIn_r _ [12, 13, 14, 6, 15, 16, 17, 11, 18, 19, 20, 21, 22, 23, 5, 24, 25, 26, 27, 28, 29, 30, 31, 32, 33, 34, 35, 36, 37, 38, 39, 40, 41, 42] (by decide +kernel) (by decide +kernel)
set_option maxRecDepth 20000 in
theorem gX6_charges_X6_worthOf : GoodIn wsX6_charges (wsV RX6 90 RX6 yX6_worthOf wsX6_worthOf) := goodIn_app (goodIn_of _ (by decide +kernel)) ggX6_charges_X6_worthOf
set_option maxRecDepth 20000 in
theorem ggX6_charges_X6_bid : GoodIn wsX6_charges wsX6_bid := goodIn_r _ [18, 19, 20, 24, 25, 26, 27, 28, 29, 30, 31, 32, 33, 34, 35, 36, 37, 38, 39, 40, 41, 42] (by decide +kernel) (by decide +kernel)
set_option maxRecDepth 20000 in
theorem gX6_charges_X6_bid : GoodIn wsX6_charges (wsV RX6 83 RX6 yX6_bid wsX6_bid) := goodIn_app (goodIn_of _ (by decide +kernel)) ggX6_charges_X6_bid
set_option maxRecDepth 20000 in
theorem ggX6_charges_X6_money : GoodIn wsX6_charges wsX6_money := goodIn_r _ [23, 5] (by decide +kernel) (by decide +kernel)
set_option maxRecDepth 20000 in
theorem gX6_charges_X6_money : GoodIn wsX6_charges (va_wsS RX6 87 yX6_money wsX6_money) := goodIn_app (goodIn_of _ (by decide +kernel)) ggX6_charges_X6_money
theorem dX6_charges_0 : decode cX6_charges 0 = .ok (.aload_n 0, 1) := by decide +kernel
theorem dX6_charges_1 : decode cX6_charges 1 = .ok (.getfield 16, 3) := by decide +kernel
theorem dX6_charges_4 : decode cX6_charges 4 = .ok (.iload_n 1, 1) := by decide +kernel
theorem dX6_charges_5 : decode cX6_charges 5 = .ok (.iaload, 1) := by decide +kernel
theorem dX6_charges_6 : decode cX6_charges 6 = .ok (.i2l, 1) := by decide +kernel
theorem dX6_charges_7 : decode cX6_charges 7 = .ok (.aload_n 0, 1) := by decide +kernel
theorem dX6_charges_8 : decode cX6_charges 8 = .ok (.iload_n 1, 1) := by decide +kernel
theorem dX6_charges_9 : decode cX6_charges 9 = .ok (.invokevirtual 90, 3) := by decide +kernel
theorem dX6_charges_12 : decode cX6_charges 12 = .ok (.lsub, 1) := by decide +kernel
theorem dX6_charges_13 : decode cX6_charges 13 = .ok (.lstore_n 2, 1) := by decide +kernel
theorem dX6_charges_14 : decode cX6_charges 14 = .ok (.ldc2_w 94, 3) := by decide +kernel
theorem dX6_charges_17 : decode cX6_charges 17 = .ok (.lload_n 2, 1) := by decide +kernel
theorem dX6_charges_18 : decode cX6_charges 18 = .ok (.lconst 0, 1) := by decide +kernel
theorem dX6_charges_19 : decode cX6_charges 19 = .ok (.lcmp, 1) := by decide +kernel
theorem dX6_charges_20 : decode cX6_charges 20 = .ok (.ifCond .le 19, 3) := by decide +kernel
theorem dX6_charges_23 : decode cX6_charges 23 = .ok (.lload_n 2, 1) := by decide +kernel
theorem dX6_charges_24 : decode cX6_charges 24 = .ok (.aload_n 0, 1) := by decide +kernel
theorem dX6_charges_25 : decode cX6_charges 25 = .ok (.getfield 19, 3) := by decide +kernel
theorem dX6_charges_28 : decode cX6_charges 28 = .ok (.iload_n 1, 1) := by decide +kernel
theorem dX6_charges_29 : decode cX6_charges 29 = .ok (.iaload, 1) := by decide +kernel
theorem dX6_charges_30 : decode cX6_charges 30 = .ok (.i2l, 1) := by decide +kernel
theorem dX6_charges_31 : decode cX6_charges 31 = .ok (.lmul, 1) := by decide +kernel
theorem dX6_charges_32 : decode cX6_charges 32 = .ok (.ldc2_w 96, 3) := by decide +kernel
theorem dX6_charges_35 : decode cX6_charges 35 = .ok (.ldiv, 1) := by decide +kernel
theorem dX6_charges_36 : decode cX6_charges 36 = .ok (.goto 4, 3) := by decide +kernel
theorem dX6_charges_39 : decode cX6_charges 39 = .ok (.lconst 0, 1) := by decide +kernel
theorem dX6_charges_40 : decode cX6_charges 40 = .ok (.ladd, 1) := by decide +kernel
theorem dX6_charges_41 : decode cX6_charges 41 = .ok (.lstore 4, 2) := by decide +kernel
theorem dX6_charges_43 : decode cX6_charges 43 = .ok (.iconst 0, 1) := by decide +kernel
theorem dX6_charges_44 : decode cX6_charges 44 = .ok (.istore 6, 2) := by decide +kernel
theorem dX6_charges_46 : decode cX6_charges 46 = .ok (.iload 6, 2) := by decide +kernel
theorem dX6_charges_48 : decode cX6_charges 48 = .ok (.iconst 3, 1) := by decide +kernel
theorem dX6_charges_49 : decode cX6_charges 49 = .ok (.if_icmp .ge 135, 3) := by decide +kernel
theorem dX6_charges_52 : decode cX6_charges 52 = .ok (.iconst 3, 1) := by decide +kernel
theorem dX6_charges_53 : decode cX6_charges 53 = .ok (.iload_n 1, 1) := by decide +kernel
theorem dX6_charges_54 : decode cX6_charges 54 = .ok (.imul, 1) := by decide +kernel
theorem dX6_charges_55 : decode cX6_charges 55 = .ok (.iload 6, 2) := by decide +kernel
theorem dX6_charges_57 : decode cX6_charges 57 = .ok (.iadd, 1) := by decide +kernel
theorem dX6_charges_58 : decode cX6_charges 58 = .ok (.istore 7, 2) := by decide +kernel
theorem dX6_charges_60 : decode cX6_charges 60 = .ok (.lload 4, 2) := by decide +kernel
theorem dX6_charges_62 : decode cX6_charges 62 = .ok (.ldc2_w 65, 3) := by decide +kernel
theorem dX6_charges_65 : decode cX6_charges 65 = .ok (.lmul, 1) := by decide +kernel
theorem dX6_charges_66 : decode cX6_charges 66 = .ok (.aload_n 0, 1) := by decide +kernel
theorem dX6_charges_67 : decode cX6_charges 67 = .ok (.iload 6, 2) := by decide +kernel
theorem dX6_charges_69 : decode cX6_charges 69 = .ok (.invokevirtual 83, 3) := by decide +kernel
theorem dX6_charges_72 : decode cX6_charges 72 = .ok (.i2l, 1) := by decide +kernel
theorem dX6_charges_73 : decode cX6_charges 73 = .ok (.ladd, 1) := by decide +kernel
theorem dX6_charges_74 : decode cX6_charges 74 = .ok (.lconst 1, 1) := by decide +kernel
theorem dX6_charges_75 : decode cX6_charges 75 = .ok (.lsub, 1) := by decide +kernel
theorem dX6_charges_76 : decode cX6_charges 76 = .ok (.aload_n 0, 1) := by decide +kernel
theorem dX6_charges_77 : decode cX6_charges 77 = .ok (.iload 6, 2) := by decide +kernel
theorem dX6_charges_79 : decode cX6_charges 79 = .ok (.invokevirtual 83, 3) := by decide +kernel
theorem dX6_charges_82 : decode cX6_charges 82 = .ok (.i2l, 1) := by decide +kernel
theorem dX6_charges_83 : decode cX6_charges 83 = .ok (.ldiv, 1) := by decide +kernel
theorem dX6_charges_84 : decode cX6_charges 84 = .ok (.lstore 8, 2) := by decide +kernel
theorem dX6_charges_86 : decode cX6_charges 86 = .ok (.lload 8, 2) := by decide +kernel
theorem dX6_charges_88 : decode cX6_charges 88 = .ok (.aload_n 0, 1) := by decide +kernel
theorem dX6_charges_89 : decode cX6_charges 89 = .ok (.getfield 36, 3) := by decide +kernel
theorem dX6_charges_92 : decode cX6_charges 92 = .ok (.iload 7, 2) := by decide +kernel
theorem dX6_charges_94 : decode cX6_charges 94 = .ok (.laload, 1) := by decide +kernel
theorem dX6_charges_95 : decode cX6_charges 95 = .ok (.lcmp, 1) := by decide +kernel
theorem dX6_charges_96 : decode cX6_charges 96 = .ok (.ifCond .ge 8, 3) := by decide +kernel
theorem dX6_charges_99 : decode cX6_charges 99 = .ok (.lload 8, 2) := by decide +kernel
theorem dX6_charges_101 : decode cX6_charges 101 = .ok (.goto 10, 3) := by decide +kernel
theorem dX6_charges_104 : decode cX6_charges 104 = .ok (.aload_n 0, 1) := by decide +kernel
theorem dX6_charges_105 : decode cX6_charges 105 = .ok (.getfield 36, 3) := by decide +kernel
theorem dX6_charges_108 : decode cX6_charges 108 = .ok (.iload 7, 2) := by decide +kernel
theorem dX6_charges_110 : decode cX6_charges 110 = .ok (.laload, 1) := by decide +kernel
theorem dX6_charges_111 : decode cX6_charges 111 = .ok (.lstore 10, 2) := by decide +kernel
theorem dX6_charges_113 : decode cX6_charges 113 = .ok (.lload 10, 2) := by decide +kernel
theorem dX6_charges_115 : decode cX6_charges 115 = .ok (.aload_n 0, 1) := by decide +kernel
theorem dX6_charges_116 : decode cX6_charges 116 = .ok (.iload 6, 2) := by decide +kernel
theorem dX6_charges_118 : decode cX6_charges 118 = .ok (.invokevirtual 83, 3) := by decide +kernel
theorem dX6_charges_121 : decode cX6_charges 121 = .ok (.invokestatic 87, 3) := by decide +kernel
theorem dX6_charges_124 : decode cX6_charges 124 = .ok (.lload 4, 2) := by decide +kernel
theorem dX6_charges_126 : decode cX6_charges 126 = .ok (.lcmp, 1) := by decide +kernel
theorem dX6_charges_127 : decode cX6_charges 127 = .ok (.ifCond .ge 17, 3) := by decide +kernel
theorem dX6_charges_130 : decode cX6_charges 130 = .ok (.lload 10, 2) := by decide +kernel
theorem dX6_charges_132 : decode cX6_charges 132 = .ok (.aload_n 0, 1) := by decide +kernel
theorem dX6_charges_133 : decode cX6_charges 133 = .ok (.iload 6, 2) := by decide +kernel
theorem dX6_charges_135 : decode cX6_charges 135 = .ok (.invokevirtual 83, 3) := by decide +kernel
theorem dX6_charges_138 : decode cX6_charges 138 = .ok (.invokestatic 87, 3) := by decide +kernel
theorem dX6_charges_141 : decode cX6_charges 141 = .ok (.goto 5, 3) := by decide +kernel
theorem dX6_charges_144 : decode cX6_charges 144 = .ok (.lload 4, 2) := by decide +kernel
theorem dX6_charges_146 : decode cX6_charges 146 = .ok (.lstore 12, 2) := by decide +kernel
theorem dX6_charges_148 : decode cX6_charges 148 = .ok (.aload_n 0, 1) := by decide +kernel
theorem dX6_charges_149 : decode cX6_charges 149 = .ok (.getfield 36, 3) := by decide +kernel
theorem dX6_charges_152 : decode cX6_charges 152 = .ok (.iload 7, 2) := by decide +kernel
theorem dX6_charges_154 : decode cX6_charges 154 = .ok (.dup2, 1) := by decide +kernel
theorem dX6_charges_155 : decode cX6_charges 155 = .ok (.laload, 1) := by decide +kernel
theorem dX6_charges_156 : decode cX6_charges 156 = .ok (.lload 10, 2) := by decide +kernel
theorem dX6_charges_158 : decode cX6_charges 158 = .ok (.lsub, 1) := by decide +kernel
theorem dX6_charges_159 : decode cX6_charges 159 = .ok (.lastore, 1) := by decide +kernel
theorem dX6_charges_160 : decode cX6_charges 160 = .ok (.lload 4, 2) := by decide +kernel
theorem dX6_charges_162 : decode cX6_charges 162 = .ok (.lload 12, 2) := by decide +kernel
theorem dX6_charges_164 : decode cX6_charges 164 = .ok (.lsub, 1) := by decide +kernel
theorem dX6_charges_165 : decode cX6_charges 165 = .ok (.lstore 4, 2) := by decide +kernel
theorem dX6_charges_167 : decode cX6_charges 167 = .ok (.aload_n 0, 1) := by decide +kernel
theorem dX6_charges_168 : decode cX6_charges 168 = .ok (.dup, 1) := by decide +kernel
theorem dX6_charges_169 : decode cX6_charges 169 = .ok (.getfield 98, 3) := by decide +kernel
theorem dX6_charges_172 : decode cX6_charges 172 = .ok (.lload 12, 2) := by decide +kernel
theorem dX6_charges_174 : decode cX6_charges 174 = .ok (.ladd, 1) := by decide +kernel
theorem dX6_charges_175 : decode cX6_charges 175 = .ok (.putfield 98, 3) := by decide +kernel
theorem dX6_charges_178 : decode cX6_charges 178 = .ok (.iinc 6 1, 3) := by decide +kernel
theorem dX6_charges_181 : decode cX6_charges 181 = .ok (.goto (-135), 3) := by decide +kernel
theorem dX6_charges_184 : decode cX6_charges 184 = .ok (.lload 4, 2) := by decide +kernel
theorem dX6_charges_186 : decode cX6_charges 186 = .ok (.lconst 0, 1) := by decide +kernel
theorem dX6_charges_187 : decode cX6_charges 187 = .ok (.lcmp, 1) := by decide +kernel
theorem dX6_charges_188 : decode cX6_charges 188 = .ok (.ifCond .le 7, 3) := by decide +kernel
theorem dX6_charges_191 : decode cX6_charges 191 = .ok (.iconst 1, 1) := by decide +kernel
theorem dX6_charges_192 : decode cX6_charges 192 = .ok (.goto 4, 3) := by decide +kernel
theorem dX6_charges_195 : decode cX6_charges 195 = .ok (.iconst 0, 1) := by decide +kernel
theorem dX6_charges_196 : decode cX6_charges 196 = .ok (.ireturn, 1) := by decide +kernel
theorem dX6_lapses_0 : decode cX6_lapses 0 = .ok (.aload_n 0, 1) := by decide +kernel
theorem dX6_lapses_1 : decode cX6_lapses 1 = .ok (.getfield 28, 3) := by decide +kernel
theorem dX6_lapses_4 : decode cX6_lapses 4 = .ok (.iload_n 1, 1) := by decide +kernel
theorem dX6_lapses_5 : decode cX6_lapses 5 = .ok (.iconst 0, 1) := by decide +kernel
theorem dX6_lapses_6 : decode cX6_lapses 6 = .ok (.bastore, 1) := by decide +kernel
theorem dX6_lapses_7 : decode cX6_lapses 7 = .ok (.aload_n 0, 1) := by decide +kernel
theorem dX6_lapses_8 : decode cX6_lapses 8 = .ok (.getfield 32, 3) := by decide +kernel
theorem dX6_lapses_11 : decode cX6_lapses 11 = .ok (.iload_n 1, 1) := by decide +kernel
theorem dX6_lapses_12 : decode cX6_lapses 12 = .ok (.lconst 0, 1) := by decide +kernel
theorem dX6_lapses_13 : decode cX6_lapses 13 = .ok (.lastore, 1) := by decide +kernel
theorem dX6_lapses_14 : decode cX6_lapses 14 = .ok (.iconst 0, 1) := by decide +kernel
theorem dX6_lapses_15 : decode cX6_lapses 15 = .ok (.istore_n 2, 1) := by decide +kernel
theorem dX6_lapses_16 : decode cX6_lapses 16 = .ok (.iload_n 2, 1) := by decide +kernel
theorem dX6_lapses_17 : decode cX6_lapses 17 = .ok (.iconst 3, 1) := by decide +kernel
theorem dX6_lapses_18 : decode cX6_lapses 18 = .ok (.if_icmp .ge 20, 3) := by decide +kernel
theorem dX6_lapses_21 : decode cX6_lapses 21 = .ok (.aload_n 0, 1) := by decide +kernel
theorem dX6_lapses_22 : decode cX6_lapses 22 = .ok (.getfield 36, 3) := by decide +kernel
theorem dX6_lapses_25 : decode cX6_lapses 25 = .ok (.iconst 3, 1) := by decide +kernel
theorem dX6_lapses_26 : decode cX6_lapses 26 = .ok (.iload_n 1, 1) := by decide +kernel
theorem dX6_lapses_27 : decode cX6_lapses 27 = .ok (.imul, 1) := by decide +kernel
theorem dX6_lapses_28 : decode cX6_lapses 28 = .ok (.iload_n 2, 1) := by decide +kernel
theorem dX6_lapses_29 : decode cX6_lapses 29 = .ok (.iadd, 1) := by decide +kernel
theorem dX6_lapses_30 : decode cX6_lapses 30 = .ok (.lconst 0, 1) := by decide +kernel
theorem dX6_lapses_31 : decode cX6_lapses 31 = .ok (.lastore, 1) := by decide +kernel
theorem dX6_lapses_32 : decode cX6_lapses 32 = .ok (.iinc 2 1, 3) := by decide +kernel
theorem dX6_lapses_35 : decode cX6_lapses 35 = .ok (.goto (-19), 3) := by decide +kernel
theorem dX6_lapses_38 : decode cX6_lapses 38 = .ok (.return_, 1) := by decide +kernel
set_option maxRecDepth 20000 in
theorem ggX6_months_X6_grows : GoodIn wsX6_months wsX6_grows := goodIn_r _ [14, 15, 16, 43, 44, 45, 46, 47, 48, 49, 50, 51, 52, 53, 54, 55, 56, 57, 58, 59, 60, 61] (by decide +kernel) (by decide +kernel)
set_option maxRecDepth 20000 in
theorem gX6_months_X6_grows : GoodIn wsX6_months (wsV RX6 77 RX6 yX6_grows wsX6_grows) := goodIn_app (goodIn_of _ (by decide +kernel)) ggX6_months_X6_grows
set_option maxRecDepth 20000 in
theorem ggX6_months_X6_charges : GoodIn wsX6_months wsX6_charges := goodIn_r _ [20, 21, 22, 23, 24, 25, 15, 26, 27, 28, 29, 13, 30, 3, 7, 31, 32, 33, 34, 35, 6, 36, 37, 38, 43, 44, 45, 46, 47, 48, 49, 50, 51, 52, 53, 54, 55, 56, 57, 58, 59, 60, 61] (by decide +kernel) (by decide +kernel)
set_option maxRecDepth 20000 in
theorem gX6_months_X6_charges : GoodIn wsX6_months (wsV RX6 108 RX6 yX6_charges wsX6_charges) := goodIn_app (goodIn_of _ (by decide +kernel)) ggX6_months_X6_charges
set_option maxRecDepth 20000 in
theorem ggX6_months_X6_lapses : GoodIn wsX6_months wsX6_lapses := goodIn_r _ [42, 2, 3, 15, 43, 44, 45, 46, 47, 48, 49, 50, 51, 52, 53, 54, 55, 56, 57, 58, 59, 60, 61] (by decide +kernel) (by decide +kernel)
set_option maxRecDepth 20000 in
theorem gX6_months_X6_lapses : GoodIn wsX6_months (wsV RX6 112 RX6 yX6_lapses wsX6_lapses) := goodIn_app (goodIn_of _ (by decide +kernel)) ggX6_months_X6_lapses
theorem dX6_months_0 : decode cX6_months 0 = .ok (.iconst 0, 1) := by decide +kernel
theorem dX6_months_1 : decode cX6_months 1 = .ok (.istore_n 1, 1) := by decide +kernel
theorem dX6_months_2 : decode cX6_months 2 = .ok (.iconst 0, 1) := by decide +kernel
theorem dX6_months_3 : decode cX6_months 3 = .ok (.istore_n 2, 1) := by decide +kernel
theorem dX6_months_4 : decode cX6_months 4 = .ok (.iload_n 2, 1) := by decide +kernel
theorem dX6_months_5 : decode cX6_months 5 = .ok (.aload_n 0, 1) := by decide +kernel
theorem dX6_months_6 : decode cX6_months 6 = .ok (.getfield 59, 3) := by decide +kernel
theorem dX6_months_9 : decode cX6_months 9 = .ok (.if_icmp .ge 96, 3) := by decide +kernel
theorem dX6_months_12 : decode cX6_months 12 = .ok (.aload_n 0, 1) := by decide +kernel
theorem dX6_months_13 : decode cX6_months 13 = .ok (.getfield 28, 3) := by decide +kernel
theorem dX6_months_16 : decode cX6_months 16 = .ok (.iload_n 2, 1) := by decide +kernel
theorem dX6_months_17 : decode cX6_months 17 = .ok (.baload, 1) := by decide +kernel
theorem dX6_months_18 : decode cX6_months 18 = .ok (.ifCond .eq 81, 3) := by decide +kernel
theorem dX6_months_21 : decode cX6_months 21 = .ok (.aload_n 0, 1) := by decide +kernel
theorem dX6_months_22 : decode cX6_months 22 = .ok (.getfield 32, 3) := by decide +kernel
theorem dX6_months_25 : decode cX6_months 25 = .ok (.iload_n 2, 1) := by decide +kernel
theorem dX6_months_26 : decode cX6_months 26 = .ok (.aload_n 0, 1) := by decide +kernel
theorem dX6_months_27 : decode cX6_months 27 = .ok (.getfield 32, 3) := by decide +kernel
theorem dX6_months_30 : decode cX6_months 30 = .ok (.iload_n 2, 1) := by decide +kernel
theorem dX6_months_31 : decode cX6_months 31 = .ok (.laload, 1) := by decide +kernel
theorem dX6_months_32 : decode cX6_months 32 = .ok (.ldc2_w 102, 3) := by decide +kernel
theorem dX6_months_35 : decode cX6_months 35 = .ok (.lmul, 1) := by decide +kernel
theorem dX6_months_36 : decode cX6_months 36 = .ok (.ldc2_w 81, 3) := by decide +kernel
theorem dX6_months_39 : decode cX6_months 39 = .ok (.ldiv, 1) := by decide +kernel
theorem dX6_months_40 : decode cX6_months 40 = .ok (.lastore, 1) := by decide +kernel
theorem dX6_months_41 : decode cX6_months 41 = .ok (.aload_n 0, 1) := by decide +kernel
theorem dX6_months_42 : decode cX6_months 42 = .ok (.getfield 62, 3) := by decide +kernel
theorem dX6_months_45 : decode cX6_months 45 = .ok (.sipush 720, 3) := by decide +kernel
theorem dX6_months_48 : decode cX6_months 48 = .ok (.if_icmp .lt 35, 3) := by decide +kernel
theorem dX6_months_51 : decode cX6_months 51 = .ok (.aload_n 0, 1) := by decide +kernel
theorem dX6_months_52 : decode cX6_months 52 = .ok (.iload_n 2, 1) := by decide +kernel
theorem dX6_months_53 : decode cX6_months 53 = .ok (.aload_n 0, 1) := by decide +kernel
theorem dX6_months_54 : decode cX6_months 54 = .ok (.getfield 22, 3) := by decide +kernel
theorem dX6_months_57 : decode cX6_months 57 = .ok (.iload_n 2, 1) := by decide +kernel
theorem dX6_months_58 : decode cX6_months 58 = .ok (.iaload, 1) := by decide +kernel
theorem dX6_months_59 : decode cX6_months 59 = .ok (.aload_n 0, 1) := by decide +kernel
theorem dX6_months_60 : decode cX6_months 60 = .ok (.getfield 32, 3) := by decide +kernel
theorem dX6_months_63 : decode cX6_months 63 = .ok (.iload_n 2, 1) := by decide +kernel
theorem dX6_months_64 : decode cX6_months 64 = .ok (.laload, 1) := by decide +kernel
theorem dX6_months_65 : decode cX6_months 65 = .ok (.ldc2_w 104, 3) := by decide +kernel
theorem dX6_months_68 : decode cX6_months 68 = .ok (.lmul, 1) := by decide +kernel
theorem dX6_months_69 : decode cX6_months 69 = .ok (.ldc2_w 106, 3) := by decide +kernel
theorem dX6_months_72 : decode cX6_months 72 = .ok (.ldiv, 1) := by decide +kernel
theorem dX6_months_73 : decode cX6_months 73 = .ok (.invokevirtual 77, 3) := by decide +kernel
theorem dX6_months_76 : decode cX6_months 76 = .ok (.aload_n 0, 1) := by decide +kernel
theorem dX6_months_77 : decode cX6_months 77 = .ok (.getfield 32, 3) := by decide +kernel
theorem dX6_months_80 : decode cX6_months 80 = .ok (.iload_n 2, 1) := by decide +kernel
theorem dX6_months_81 : decode cX6_months 81 = .ok (.lconst 0, 1) := by decide +kernel
theorem dX6_months_82 : decode cX6_months 82 = .ok (.lastore, 1) := by decide +kernel
theorem dX6_months_83 : decode cX6_months 83 = .ok (.aload_n 0, 1) := by decide +kernel
theorem dX6_months_84 : decode cX6_months 84 = .ok (.iload_n 2, 1) := by decide +kernel
theorem dX6_months_85 : decode cX6_months 85 = .ok (.invokevirtual 108, 3) := by decide +kernel
theorem dX6_months_88 : decode cX6_months 88 = .ok (.ifCond .eq 11, 3) := by decide +kernel
theorem dX6_months_91 : decode cX6_months 91 = .ok (.aload_n 0, 1) := by decide +kernel
theorem dX6_months_92 : decode cX6_months 92 = .ok (.iload_n 2, 1) := by decide +kernel
theorem dX6_months_93 : decode cX6_months 93 = .ok (.invokevirtual 112, 3) := by decide +kernel
theorem dX6_months_96 : decode cX6_months 96 = .ok (.iinc 1 1, 3) := by decide +kernel
theorem dX6_months_99 : decode cX6_months 99 = .ok (.iinc 2 1, 3) := by decide +kernel
theorem dX6_months_102 : decode cX6_months 102 = .ok (.goto (-98), 3) := by decide +kernel
theorem dX6_months_105 : decode cX6_months 105 = .ok (.iload_n 1, 1) := by decide +kernel
theorem dX6_months_106 : decode cX6_months 106 = .ok (.ireturn, 1) := by decide +kernel
set_option maxRecDepth 20000 in
theorem ggX6_goes_X6_pays : GoodIn wsX6_goes wsX6_pays := goodIn_r _ [12, 13, 14, 1, 15, 16, 17, 18, 19, 11, 20, 2, 21, 22, 23, 24, 25, 26, 27, 28, 29, 30, 69, 70, 71, 72, 73, 74, 75, 76, 77, 78, 79, 80, 81, 82, 83, 84, 85, 86, 87] (by decide +kernel) (by decide +kernel)
set_option maxRecDepth 20000 in
theorem gX6_goes_X6_pays : GoodIn wsX6_goes (wsV RX6 119 RX6 yX6_pays wsX6_pays) := goodIn_app (goodIn_of _ (by decide +kernel)) ggX6_goes_X6_pays
set_option maxRecDepth 20000 in
theorem ggX6_goes_X6_switches : GoodIn wsX6_goes wsX6_switches := goodIn_r _ [34, 29, 35, 36, 37, 38, 11, 39, 2, 1, 40, 41, 42, 24, 21, 22, 23, 25, 26, 27, 28, 30, 69, 70, 71, 72, 73, 74, 75, 76, 77, 78, 79, 80, 81, 82, 83, 84, 85, 86, 87] (by decide +kernel) (by decide +kernel)
set_option maxRecDepth 20000 in
theorem gX6_goes_X6_switches : GoodIn wsX6_goes (wsV RX6 122 RX6 yX6_switches wsX6_switches) := goodIn_app (goodIn_of _ (by decide +kernel)) ggX6_goes_X6_switches
set_option maxRecDepth 20000 in
theorem ggX6_goes_X6_months : GoodIn wsX6_goes wsX6_months := goodIn_r _ [46, 47, 48, 16, 49, 35, 1, 13, 50, 51, 25, 26, 27, 11, 28, 29, 30, 52, 53, 54, 55, 56, 57, 58, 59, 24, 60, 61, 62, 63, 64, 36, 37, 38, 39, 2, 40, 41, 42, 65, 66, 67, 68, 69, 70, 71, 72, 73, 74, 75, 76, 77, 78, 79, 80, 81, 82, 83, 84, 85, 86, 87] (by decide +kernel) (by decide +kernel)
set_option maxRecDepth 20000 in
theorem gX6_goes_X6_months : GoodIn wsX6_goes (wsV RX6 126 RX6 yX6_months wsX6_months) := goodIn_app (goodIn_of _ (by decide +kernel)) ggX6_goes_X6_months
theorem dX6_goes_0 : decode cX6_goes 0 = .ok (.aload_n 0, 1) := by decide +kernel
theorem dX6_goes_1 : decode cX6_goes 1 = .ok (.dup, 1) := by decide +kernel
theorem dX6_goes_2 : decode cX6_goes 2 = .ok (.getfield 62, 3) := by decide +kernel
theorem dX6_goes_5 : decode cX6_goes 5 = .ok (.iconst 1, 1) := by decide +kernel
theorem dX6_goes_6 : decode cX6_goes 6 = .ok (.iadd, 1) := by decide +kernel
theorem dX6_goes_7 : decode cX6_goes 7 = .ok (.putfield 62, 3) := by decide +kernel
theorem dX6_goes_10 : decode cX6_goes 10 = .ok (.aload_n 0, 1) := by decide +kernel
theorem dX6_goes_11 : decode cX6_goes 11 = .ok (.getfield 7, 3) := by decide +kernel
theorem dX6_goes_14 : decode cX6_goes 14 = .ok (.aload_n 0, 1) := by decide +kernel
theorem dX6_goes_15 : decode cX6_goes 15 = .ok (.getfield 62, 3) := by decide +kernel
theorem dX6_goes_18 : decode cX6_goes 18 = .ok (.iload_n 1, 1) := by decide +kernel
theorem dX6_goes_19 : decode cX6_goes 19 = .ok (.iastore, 1) := by decide +kernel
theorem dX6_goes_20 : decode cX6_goes 20 = .ok (.aload_n 0, 1) := by decide +kernel
theorem dX6_goes_21 : decode cX6_goes 21 = .ok (.getfield 7, 3) := by decide +kernel
theorem dX6_goes_24 : decode cX6_goes 24 = .ok (.sipush 2001, 3) := by decide +kernel
theorem dX6_goes_27 : decode cX6_goes 27 = .ok (.aload_n 0, 1) := by decide +kernel
theorem dX6_goes_28 : decode cX6_goes 28 = .ok (.getfield 62, 3) := by decide +kernel
theorem dX6_goes_31 : decode cX6_goes 31 = .ok (.iadd, 1) := by decide +kernel
theorem dX6_goes_32 : decode cX6_goes 32 = .ok (.iload_n 2, 1) := by decide +kernel
theorem dX6_goes_33 : decode cX6_goes 33 = .ok (.iastore, 1) := by decide +kernel
theorem dX6_goes_34 : decode cX6_goes 34 = .ok (.aload_n 0, 1) := by decide +kernel
theorem dX6_goes_35 : decode cX6_goes 35 = .ok (.getfield 7, 3) := by decide +kernel
theorem dX6_goes_38 : decode cX6_goes 38 = .ok (.sipush 4002, 3) := by decide +kernel
theorem dX6_goes_41 : decode cX6_goes 41 = .ok (.aload_n 0, 1) := by decide +kernel
theorem dX6_goes_42 : decode cX6_goes 42 = .ok (.getfield 62, 3) := by decide +kernel
theorem dX6_goes_45 : decode cX6_goes 45 = .ok (.iadd, 1) := by decide +kernel
theorem dX6_goes_46 : decode cX6_goes 46 = .ok (.iload_n 3, 1) := by decide +kernel
theorem dX6_goes_47 : decode cX6_goes 47 = .ok (.iastore, 1) := by decide +kernel
theorem dX6_goes_48 : decode cX6_goes 48 = .ok (.iconst 0, 1) := by decide +kernel
theorem dX6_goes_49 : decode cX6_goes 49 = .ok (.istore 4, 2) := by decide +kernel
theorem dX6_goes_51 : decode cX6_goes 51 = .ok (.iload 4, 2) := by decide +kernel
theorem dX6_goes_53 : decode cX6_goes 53 = .ok (.aload_n 0, 1) := by decide +kernel
theorem dX6_goes_54 : decode cX6_goes 54 = .ok (.getfield 116, 3) := by decide +kernel
theorem dX6_goes_57 : decode cX6_goes 57 = .ok (.if_icmp .ge 66, 3) := by decide +kernel
theorem dX6_goes_60 : decode cX6_goes 60 = .ok (.aload_n 0, 1) := by decide +kernel
theorem dX6_goes_61 : decode cX6_goes 61 = .ok (.getfield 42, 3) := by decide +kernel
theorem dX6_goes_64 : decode cX6_goes 64 = .ok (.iload 4, 2) := by decide +kernel
theorem dX6_goes_66 : decode cX6_goes 66 = .ok (.iaload, 1) := by decide +kernel
theorem dX6_goes_67 : decode cX6_goes 67 = .ok (.iconst (-1), 1) := by decide +kernel
theorem dX6_goes_68 : decode cX6_goes 68 = .ok (.if_icmp .ne 17, 3) := by decide +kernel
theorem dX6_goes_71 : decode cX6_goes 71 = .ok (.aload_n 0, 1) := by decide +kernel
theorem dX6_goes_72 : decode cX6_goes 72 = .ok (.aload_n 0, 1) := by decide +kernel
theorem dX6_goes_73 : decode cX6_goes 73 = .ok (.getfield 39, 3) := by decide +kernel
theorem dX6_goes_76 : decode cX6_goes 76 = .ok (.iload 4, 2) := by decide +kernel
theorem dX6_goes_78 : decode cX6_goes 78 = .ok (.iaload, 1) := by decide +kernel
theorem dX6_goes_79 : decode cX6_goes 79 = .ok (.invokevirtual 119, 3) := by decide +kernel
theorem dX6_goes_82 : decode cX6_goes 82 = .ok (.goto 35, 3) := by decide +kernel
theorem dX6_goes_85 : decode cX6_goes 85 = .ok (.aload_n 0, 1) := by decide +kernel
theorem dX6_goes_86 : decode cX6_goes 86 = .ok (.aload_n 0, 1) := by decide +kernel
theorem dX6_goes_87 : decode cX6_goes 87 = .ok (.getfield 39, 3) := by decide +kernel
theorem dX6_goes_90 : decode cX6_goes 90 = .ok (.iload 4, 2) := by decide +kernel
theorem dX6_goes_92 : decode cX6_goes 92 = .ok (.iaload, 1) := by decide +kernel
theorem dX6_goes_93 : decode cX6_goes 93 = .ok (.aload_n 0, 1) := by decide +kernel
theorem dX6_goes_94 : decode cX6_goes 94 = .ok (.getfield 45, 3) := by decide +kernel
theorem dX6_goes_97 : decode cX6_goes 97 = .ok (.iload 4, 2) := by decide +kernel
theorem dX6_goes_99 : decode cX6_goes 99 = .ok (.iaload, 1) := by decide +kernel
theorem dX6_goes_100 : decode cX6_goes 100 = .ok (.aload_n 0, 1) := by decide +kernel
theorem dX6_goes_101 : decode cX6_goes 101 = .ok (.getfield 48, 3) := by decide +kernel
theorem dX6_goes_104 : decode cX6_goes 104 = .ok (.iload 4, 2) := by decide +kernel
theorem dX6_goes_106 : decode cX6_goes 106 = .ok (.iaload, 1) := by decide +kernel
theorem dX6_goes_107 : decode cX6_goes 107 = .ok (.aload_n 0, 1) := by decide +kernel
theorem dX6_goes_108 : decode cX6_goes 108 = .ok (.getfield 42, 3) := by decide +kernel
theorem dX6_goes_111 : decode cX6_goes 111 = .ok (.iload 4, 2) := by decide +kernel
theorem dX6_goes_113 : decode cX6_goes 113 = .ok (.iaload, 1) := by decide +kernel
theorem dX6_goes_114 : decode cX6_goes 114 = .ok (.invokevirtual 122, 3) := by decide +kernel
theorem dX6_goes_117 : decode cX6_goes 117 = .ok (.iinc 4 1, 3) := by decide +kernel
theorem dX6_goes_120 : decode cX6_goes 120 = .ok (.goto (-69), 3) := by decide +kernel
theorem dX6_goes_123 : decode cX6_goes 123 = .ok (.aload_n 0, 1) := by decide +kernel
theorem dX6_goes_124 : decode cX6_goes 124 = .ok (.iconst 0, 1) := by decide +kernel
theorem dX6_goes_125 : decode cX6_goes 125 = .ok (.putfield 116, 3) := by decide +kernel
theorem dX6_goes_128 : decode cX6_goes 128 = .ok (.aload_n 0, 1) := by decide +kernel
theorem dX6_goes_129 : decode cX6_goes 129 = .ok (.getfield 62, 3) := by decide +kernel
theorem dX6_goes_132 : decode cX6_goes 132 = .ok (.bipush 30, 2) := by decide +kernel
theorem dX6_goes_134 : decode cX6_goes 134 = .ok (.irem, 1) := by decide +kernel
theorem dX6_goes_135 : decode cX6_goes 135 = .ok (.ifCond .ne 10, 3) := by decide +kernel
theorem dX6_goes_138 : decode cX6_goes 138 = .ok (.aload_n 0, 1) := by decide +kernel
theorem dX6_goes_139 : decode cX6_goes 139 = .ok (.invokevirtual 126, 3) := by decide +kernel
theorem dX6_goes_142 : decode cX6_goes 142 = .ok (.goto 4, 3) := by decide +kernel
theorem dX6_goes_145 : decode cX6_goes 145 = .ok (.iconst 0, 1) := by decide +kernel
theorem dX6_goes_146 : decode cX6_goes 146 = .ok (.ireturn, 1) := by decide +kernel
set_option maxRecDepth 20000 in
theorem ggX6_isPrice_X6_isIn : GoodIn wsX6_isPrice wsX6_isIn := goodIn_r _ [5] (by decide +kernel) (by decide +kernel)
set_option maxRecDepth 20000 in
theorem gX6_isPrice_X6_isIn : GoodIn wsX6_isPrice (va_wsS RX6 55 yX6_isIn wsX6_isIn) := goodIn_app (goodIn_of _ (by decide +kernel)) ggX6_isPrice_X6_isIn
theorem dX6_isPrice_0 : decode cX6_isPrice 0 = .ok (.iload_n 0, 1) := by decide +kernel
theorem dX6_isPrice_1 : decode cX6_isPrice 1 = .ok (.iconst 1, 1) := by decide +kernel
theorem dX6_isPrice_2 : decode cX6_isPrice 2 = .ok (.ldc 130, 2) := by decide +kernel
theorem dX6_isPrice_4 : decode cX6_isPrice 4 = .ok (.invokestatic 55, 3) := by decide +kernel
theorem dX6_isPrice_7 : decode cX6_isPrice 7 = .ok (.ireturn, 1) := by decide +kernel
set_option maxRecDepth 20000 in
theorem ggX6_tell_X6_isPrice : GoodIn wsX6_tell wsX6_isPrice := goodIn_r _ [5, 6, 7, 8, 4, 9] (by decide +kernel) (by decide +kernel)
set_option maxRecDepth 20000 in
theorem gX6_tell_X6_isPrice : GoodIn wsX6_tell (va_wsS RX6 131 yX6_isPrice wsX6_isPrice) := goodIn_app (goodIn_of _ (by decide +kernel)) ggX6_tell_X6_isPrice
set_option maxRecDepth 20000 in
theorem ggX6_tell_X6_holds : GoodIn wsX6_tell wsX6_holds := goodIn_r _ [13, 14, 85, 86, 87, 88, 89, 90, 91, 92, 93, 94, 95, 96, 97, 98, 99, 100, 101, 102, 103] (by decide +kernel) (by decide +kernel)
set_option maxRecDepth 20000 in
theorem gX6_tell_X6_holds : GoodIn wsX6_tell (wsV RX6 134 RX6 yX6_holds wsX6_holds) := goodIn_app (goodIn_of _ (by decide +kernel)) ggX6_tell_X6_holds
set_option maxRecDepth 20000 in
theorem ggX6_tell_X6_goes : GoodIn wsX6_tell wsX6_goes := goodIn_r _ [18, 1, 19, 20, 21, 22, 23, 24, 25, 26, 27, 4, 28, 29, 30, 31, 32, 33, 34, 35, 36, 37, 38, 39, 40, 41, 42, 43, 44, 45, 46, 47, 48, 49, 50, 51, 52, 53, 54, 55, 56, 57, 58, 59, 60, 61, 62, 63, 64, 65, 66, 67, 68, 69, 70, 71, 72, 73, 74, 75, 76, 77, 78, 79, 80, 81, 82, 83, 84, 85, 86, 87, 88, 89, 90, 91, 92, 93, 94, 95, 96, 97, 98, 99, 100, 101, 102, 103] (by decide +kernel) (by decide +kernel)
set_option maxRecDepth 20000 in
theorem gX6_tell_X6_goes : GoodIn wsX6_tell (wsV RX6 137 RX6 yX6_goes wsX6_goes) := goodIn_app (goodIn_of _ (by decide +kernel)) ggX6_tell_X6_goes
theorem dX6_tell_0 : decode cX6_tell 0 = .ok (.iload_n 1, 1) := by decide +kernel
theorem dX6_tell_1 : decode cX6_tell 1 = .ok (.invokestatic 131, 3) := by decide +kernel
theorem dX6_tell_4 : decode cX6_tell 4 = .ok (.ifCond .eq 21, 3) := by decide +kernel
theorem dX6_tell_7 : decode cX6_tell 7 = .ok (.iload_n 2, 1) := by decide +kernel
theorem dX6_tell_8 : decode cX6_tell 8 = .ok (.invokestatic 131, 3) := by decide +kernel
theorem dX6_tell_11 : decode cX6_tell 11 = .ok (.ifCond .eq 14, 3) := by decide +kernel
theorem dX6_tell_14 : decode cX6_tell 14 = .ok (.iload_n 3, 1) := by decide +kernel
theorem dX6_tell_15 : decode cX6_tell 15 = .ok (.invokestatic 131, 3) := by decide +kernel
theorem dX6_tell_18 : decode cX6_tell 18 = .ok (.ifCond .eq 7, 3) := by decide +kernel
theorem dX6_tell_21 : decode cX6_tell 21 = .ok (.iconst 1, 1) := by decide +kernel
theorem dX6_tell_22 : decode cX6_tell 22 = .ok (.goto 4, 3) := by decide +kernel
theorem dX6_tell_25 : decode cX6_tell 25 = .ok (.iconst 0, 1) := by decide +kernel
theorem dX6_tell_26 : decode cX6_tell 26 = .ok (.istore 4, 2) := by decide +kernel
theorem dX6_tell_28 : decode cX6_tell 28 = .ok (.aload_n 0, 1) := by decide +kernel
theorem dX6_tell_29 : decode cX6_tell 29 = .ok (.iload 4, 2) := by decide +kernel
theorem dX6_tell_31 : decode cX6_tell 31 = .ok (.ifCond .ne 7, 3) := by decide +kernel
theorem dX6_tell_34 : decode cX6_tell 34 = .ok (.iconst 1, 1) := by decide +kernel
theorem dX6_tell_35 : decode cX6_tell 35 = .ok (.goto 18, 3) := by decide +kernel
theorem dX6_tell_38 : decode cX6_tell 38 = .ok (.aload_n 0, 1) := by decide +kernel
theorem dX6_tell_39 : decode cX6_tell 39 = .ok (.getfield 62, 3) := by decide +kernel
theorem dX6_tell_42 : decode cX6_tell 42 = .ok (.sipush 2000, 3) := by decide +kernel
theorem dX6_tell_45 : decode cX6_tell 45 = .ok (.if_icmp .ne 7, 3) := by decide +kernel
theorem dX6_tell_48 : decode cX6_tell 48 = .ok (.iconst 2, 1) := by decide +kernel
theorem dX6_tell_49 : decode cX6_tell 49 = .ok (.goto 4, 3) := by decide +kernel
theorem dX6_tell_52 : decode cX6_tell 52 = .ok (.iconst 0, 1) := by decide +kernel
theorem dX6_tell_53 : decode cX6_tell 53 = .ok (.invokevirtual 134, 3) := by decide +kernel
theorem dX6_tell_56 : decode cX6_tell 56 = .ok (.ifCond .eq 13, 3) := by decide +kernel
theorem dX6_tell_59 : decode cX6_tell 59 = .ok (.aload_n 0, 1) := by decide +kernel
theorem dX6_tell_60 : decode cX6_tell 60 = .ok (.iload_n 1, 1) := by decide +kernel
theorem dX6_tell_61 : decode cX6_tell 61 = .ok (.iload_n 2, 1) := by decide +kernel
theorem dX6_tell_62 : decode cX6_tell 62 = .ok (.iload_n 3, 1) := by decide +kernel
theorem dX6_tell_63 : decode cX6_tell 63 = .ok (.invokevirtual 137, 3) := by decide +kernel
theorem dX6_tell_66 : decode cX6_tell 66 = .ok (.goto 4, 3) := by decide +kernel
theorem dX6_tell_69 : decode cX6_tell 69 = .ok (.iconst 0, 1) := by decide +kernel
theorem dX6_tell_70 : decode cX6_tell 70 = .ok (.ireturn, 1) := by decide +kernel
set_option maxRecDepth 20000 in
theorem ggX6_pass_X6_isIn : GoodIn wsX6_pass wsX6_isIn := goodIn_r _ [5] (by decide +kernel) (by decide +kernel)
set_option maxRecDepth 20000 in
theorem gX6_pass_X6_isIn : GoodIn wsX6_pass (va_wsS RX6 55 yX6_isIn wsX6_isIn) := goodIn_app (goodIn_of _ (by decide +kernel)) ggX6_pass_X6_isIn
set_option maxRecDepth 20000 in
theorem ggX6_pass_X6_holds : GoodIn wsX6_pass wsX6_holds := goodIn_r _ [9, 10, 81, 82, 83, 84, 85, 86, 87, 88, 89, 90, 91, 92, 93, 94, 95, 96, 97, 98, 99] (by decide +kernel) (by decide +kernel)
set_option maxRecDepth 20000 in
theorem gX6_pass_X6_holds : GoodIn wsX6_pass (wsV RX6 134 RX6 yX6_holds wsX6_holds) := goodIn_app (goodIn_of _ (by decide +kernel)) ggX6_pass_X6_holds
set_option maxRecDepth 20000 in
theorem ggX6_pass_X6_bid : GoodIn wsX6_pass wsX6_bid := goodIn_r _ [14, 15, 1, 81, 82, 83, 84, 85, 86, 87, 88, 89, 90, 91, 92, 93, 94, 95, 96, 97, 98, 99] (by decide +kernel) (by decide +kernel)
set_option maxRecDepth 20000 in
theorem gX6_pass_X6_bid : GoodIn wsX6_pass (wsV RX6 83 RX6 yX6_bid wsX6_bid) := goodIn_app (goodIn_of _ (by decide +kernel)) ggX6_pass_X6_bid
set_option maxRecDepth 20000 in
theorem ggX6_pass_X6_goes : GoodIn wsX6_pass wsX6_goes := goodIn_r _ [19, 1, 15, 20, 21, 22, 23, 24, 25, 26, 27, 4, 28, 29, 30, 31, 32, 33, 34, 35, 36, 37, 38, 39, 40, 41, 42, 43, 44, 45, 46, 47, 48, 49, 50, 51, 11, 12, 13, 14, 52, 53, 54, 55, 56, 57, 58, 59, 60, 61, 62, 63, 64, 65, 66, 67, 68, 69, 70, 71, 72, 73, 74, 75, 76, 77, 78, 79, 80, 81, 82, 83, 84, 85, 86, 87, 88, 89, 90, 91, 92, 93, 94, 95, 96, 97, 98, 99] (by decide +kernel) (by decide +kernel)
set_option maxRecDepth 20000 in
theorem gX6_pass_X6_goes : GoodIn wsX6_pass (wsV RX6 137 RX6 yX6_goes wsX6_goes) := goodIn_app (goodIn_of _ (by decide +kernel)) ggX6_pass_X6_goes
theorem dX6_pass_0 : decode cX6_pass 0 = .ok (.aload_n 0, 1) := by decide +kernel
theorem dX6_pass_1 : decode cX6_pass 1 = .ok (.iload_n 1, 1) := by decide +kernel
theorem dX6_pass_2 : decode cX6_pass 2 = .ok (.iconst 1, 1) := by decide +kernel
theorem dX6_pass_3 : decode cX6_pass 3 = .ok (.sipush 400, 3) := by decide +kernel
theorem dX6_pass_6 : decode cX6_pass 6 = .ok (.invokestatic 55, 3) := by decide +kernel
theorem dX6_pass_9 : decode cX6_pass 9 = .ok (.ifCond .ne 7, 3) := by decide +kernel
theorem dX6_pass_12 : decode cX6_pass 12 = .ok (.iconst 1, 1) := by decide +kernel
theorem dX6_pass_13 : decode cX6_pass 13 = .ok (.goto 20, 3) := by decide +kernel
theorem dX6_pass_16 : decode cX6_pass 16 = .ok (.aload_n 0, 1) := by decide +kernel
theorem dX6_pass_17 : decode cX6_pass 17 = .ok (.getfield 62, 3) := by decide +kernel
theorem dX6_pass_20 : decode cX6_pass 20 = .ok (.iload_n 1, 1) := by decide +kernel
theorem dX6_pass_21 : decode cX6_pass 21 = .ok (.iadd, 1) := by decide +kernel
theorem dX6_pass_22 : decode cX6_pass 22 = .ok (.sipush 2001, 3) := by decide +kernel
theorem dX6_pass_25 : decode cX6_pass 25 = .ok (.if_icmp .lt 7, 3) := by decide +kernel
theorem dX6_pass_28 : decode cX6_pass 28 = .ok (.iconst 2, 1) := by decide +kernel
theorem dX6_pass_29 : decode cX6_pass 29 = .ok (.goto 4, 3) := by decide +kernel
theorem dX6_pass_32 : decode cX6_pass 32 = .ok (.iconst 0, 1) := by decide +kernel
theorem dX6_pass_33 : decode cX6_pass 33 = .ok (.invokevirtual 134, 3) := by decide +kernel
theorem dX6_pass_36 : decode cX6_pass 36 = .ok (.ifCond .ne 5, 3) := by decide +kernel
theorem dX6_pass_39 : decode cX6_pass 39 = .ok (.iconst 0, 1) := by decide +kernel
theorem dX6_pass_40 : decode cX6_pass 40 = .ok (.ireturn, 1) := by decide +kernel
theorem dX6_pass_41 : decode cX6_pass 41 = .ok (.iconst 0, 1) := by decide +kernel
theorem dX6_pass_42 : decode cX6_pass 42 = .ok (.istore_n 2, 1) := by decide +kernel
theorem dX6_pass_43 : decode cX6_pass 43 = .ok (.iconst 0, 1) := by decide +kernel
theorem dX6_pass_44 : decode cX6_pass 44 = .ok (.istore_n 3, 1) := by decide +kernel
theorem dX6_pass_45 : decode cX6_pass 45 = .ok (.iload_n 3, 1) := by decide +kernel
theorem dX6_pass_46 : decode cX6_pass 46 = .ok (.iload_n 1, 1) := by decide +kernel
theorem dX6_pass_47 : decode cX6_pass 47 = .ok (.if_icmp .ge 31, 3) := by decide +kernel
theorem dX6_pass_50 : decode cX6_pass 50 = .ok (.iload_n 2, 1) := by decide +kernel
theorem dX6_pass_51 : decode cX6_pass 51 = .ok (.aload_n 0, 1) := by decide +kernel
theorem dX6_pass_52 : decode cX6_pass 52 = .ok (.aload_n 0, 1) := by decide +kernel
theorem dX6_pass_53 : decode cX6_pass 53 = .ok (.iconst 0, 1) := by decide +kernel
theorem dX6_pass_54 : decode cX6_pass 54 = .ok (.invokevirtual 83, 3) := by decide +kernel
theorem dX6_pass_57 : decode cX6_pass 57 = .ok (.aload_n 0, 1) := by decide +kernel
theorem dX6_pass_58 : decode cX6_pass 58 = .ok (.iconst 1, 1) := by decide +kernel
theorem dX6_pass_59 : decode cX6_pass 59 = .ok (.invokevirtual 83, 3) := by decide +kernel
theorem dX6_pass_62 : decode cX6_pass 62 = .ok (.aload_n 0, 1) := by decide +kernel
theorem dX6_pass_63 : decode cX6_pass 63 = .ok (.iconst 2, 1) := by decide +kernel
theorem dX6_pass_64 : decode cX6_pass 64 = .ok (.invokevirtual 83, 3) := by decide +kernel
theorem dX6_pass_67 : decode cX6_pass 67 = .ok (.invokevirtual 137, 3) := by decide +kernel
theorem dX6_pass_70 : decode cX6_pass 70 = .ok (.iadd, 1) := by decide +kernel
theorem dX6_pass_71 : decode cX6_pass 71 = .ok (.istore_n 2, 1) := by decide +kernel
theorem dX6_pass_72 : decode cX6_pass 72 = .ok (.iinc 3 1, 3) := by decide +kernel
theorem dX6_pass_75 : decode cX6_pass 75 = .ok (.goto (-30), 3) := by decide +kernel
theorem dX6_pass_78 : decode cX6_pass 78 = .ok (.iload_n 2, 1) := by decide +kernel
theorem dX6_pass_79 : decode cX6_pass 79 = .ok (.ireturn, 1) := by decide +kernel
theorem dX6_today_0 : decode cX6_today 0 = .ok (.aload_n 0, 1) := by decide +kernel
theorem dX6_today_1 : decode cX6_today 1 = .ok (.iconst 0, 1) := by decide +kernel
theorem dX6_today_2 : decode cX6_today 2 = .ok (.putfield 51, 3) := by decide +kernel
theorem dX6_today_5 : decode cX6_today 5 = .ok (.aload_n 0, 1) := by decide +kernel
theorem dX6_today_6 : decode cX6_today 6 = .ok (.getfield 62, 3) := by decide +kernel
theorem dX6_today_9 : decode cX6_today 9 = .ok (.ireturn, 1) := by decide +kernel
set_option maxRecDepth 20000 in
theorem ggX6_offer_X6_isFund : GoodIn wsX6_offer wsX6_isFund := goodIn_r _ [5, 6, 7, 4, 8] (by decide +kernel) (by decide +kernel)
set_option maxRecDepth 20000 in
theorem gX6_offer_X6_isFund : GoodIn wsX6_offer (va_wsS RX6 141 yX6_isFund wsX6_isFund) := goodIn_app (goodIn_of _ (by decide +kernel)) ggX6_offer_X6_isFund
set_option maxRecDepth 20000 in
theorem ggX6_offer_X6_isIn : GoodIn wsX6_offer wsX6_isIn := goodIn_r _ [8] (by decide +kernel) (by decide +kernel)
set_option maxRecDepth 20000 in
theorem gX6_offer_X6_isIn : GoodIn wsX6_offer (va_wsS RX6 55 yX6_isIn wsX6_isIn) := goodIn_app (goodIn_of _ (by decide +kernel)) ggX6_offer_X6_isIn
set_option maxRecDepth 20000 in
theorem ggX6_offer_X6_holds : GoodIn wsX6_offer wsX6_holds := goodIn_r _ [12, 13, 19, 20, 21, 22, 23, 24, 25, 26, 27, 28, 29, 30, 31, 32, 33, 34, 35, 36, 37] (by decide +kernel) (by decide +kernel)
set_option maxRecDepth 20000 in
theorem gX6_offer_X6_holds : GoodIn wsX6_offer (wsV RX6 134 RX6 yX6_holds wsX6_holds) := goodIn_app (goodIn_of _ (by decide +kernel)) ggX6_offer_X6_holds
set_option maxRecDepth 20000 in
theorem ggX6_offer_X6_offerOn : GoodIn wsX6_offer wsX6_offerOn := goodIn_r _ [17, 18, 19, 20, 21, 22, 23, 24, 25, 26, 27, 28, 29, 30, 31, 32, 33, 34, 35, 36, 37] (by decide +kernel) (by decide +kernel)
set_option maxRecDepth 20000 in
theorem gX6_offer_X6_offerOn : GoodIn wsX6_offer (wsV RX6 69 RX6 yX6_offerOn wsX6_offerOn) := goodIn_app (goodIn_of _ (by decide +kernel)) ggX6_offer_X6_offerOn
theorem dX6_offer_0 : decode cX6_offer 0 = .ok (.aload_n 0, 1) := by decide +kernel
theorem dX6_offer_1 : decode cX6_offer 1 = .ok (.iload_n 1, 1) := by decide +kernel
theorem dX6_offer_2 : decode cX6_offer 2 = .ok (.invokestatic 141, 3) := by decide +kernel
theorem dX6_offer_5 : decode cX6_offer 5 = .ok (.ifCond .eq 19, 3) := by decide +kernel
theorem dX6_offer_8 : decode cX6_offer 8 = .ok (.iload_n 2, 1) := by decide +kernel
theorem dX6_offer_9 : decode cX6_offer 9 = .ok (.iconst 0, 1) := by decide +kernel
theorem dX6_offer_10 : decode cX6_offer 10 = .ok (.aload_n 0, 1) := by decide +kernel
theorem dX6_offer_11 : decode cX6_offer 11 = .ok (.getfield 62, 3) := by decide +kernel
theorem dX6_offer_14 : decode cX6_offer 14 = .ok (.invokestatic 55, 3) := by decide +kernel
theorem dX6_offer_17 : decode cX6_offer 17 = .ok (.ifCond .eq 7, 3) := by decide +kernel
theorem dX6_offer_20 : decode cX6_offer 20 = .ok (.iconst 0, 1) := by decide +kernel
theorem dX6_offer_21 : decode cX6_offer 21 = .ok (.goto 4, 3) := by decide +kernel
theorem dX6_offer_24 : decode cX6_offer 24 = .ok (.iconst 1, 1) := by decide +kernel
theorem dX6_offer_25 : decode cX6_offer 25 = .ok (.invokevirtual 134, 3) := by decide +kernel
theorem dX6_offer_28 : decode cX6_offer 28 = .ok (.ifCond .eq 12, 3) := by decide +kernel
theorem dX6_offer_31 : decode cX6_offer 31 = .ok (.aload_n 0, 1) := by decide +kernel
theorem dX6_offer_32 : decode cX6_offer 32 = .ok (.iload_n 1, 1) := by decide +kernel
theorem dX6_offer_33 : decode cX6_offer 33 = .ok (.iload_n 2, 1) := by decide +kernel
theorem dX6_offer_34 : decode cX6_offer 34 = .ok (.invokevirtual 69, 3) := by decide +kernel
theorem dX6_offer_37 : decode cX6_offer 37 = .ok (.goto 4, 3) := by decide +kernel
theorem dX6_offer_40 : decode cX6_offer 40 = .ok (.iconst 0, 1) := by decide +kernel
theorem dX6_offer_41 : decode cX6_offer 41 = .ok (.ireturn, 1) := by decide +kernel
set_option maxRecDepth 20000 in
theorem ggX6_make_X6_isIn : GoodIn wsX6_make wsX6_isIn := goodIn_r _ [12] (by decide +kernel) (by decide +kernel)
set_option maxRecDepth 20000 in
theorem gX6_make_X6_isIn : GoodIn wsX6_make (va_wsS RX6 55 yX6_isIn wsX6_isIn) := goodIn_app (goodIn_of _ (by decide +kernel)) ggX6_make_X6_isIn
set_option maxRecDepth 20000 in
theorem ggX6_make_X6_isFund : GoodIn wsX6_make wsX6_isFund := goodIn_r _ [15, 9, 10, 11, 12] (by decide +kernel) (by decide +kernel)
set_option maxRecDepth 20000 in
theorem gX6_make_X6_isFund : GoodIn wsX6_make (va_wsS RX6 141 yX6_isFund wsX6_isFund) := goodIn_app (goodIn_of _ (by decide +kernel)) ggX6_make_X6_isFund
set_option maxRecDepth 20000 in
theorem ggX6_make_X6_holds : GoodIn wsX6_make wsX6_holds := goodIn_r _ [19, 20, 21, 22, 23, 24, 25, 26, 27, 28, 29, 30, 31, 32, 33, 34, 35, 36, 37, 38, 39] (by decide +kernel) (by decide +kernel)
set_option maxRecDepth 20000 in
theorem gX6_make_X6_holds : GoodIn wsX6_make (wsV RX6 134 RX6 yX6_holds wsX6_holds) := goodIn_app (goodIn_of _ (by decide +kernel)) ggX6_make_X6_holds
theorem dX6_make_0 : decode cX6_make 0 = .ok (.iload_n 1, 1) := by decide +kernel
theorem dX6_make_1 : decode cX6_make 1 = .ok (.bipush 100, 2) := by decide +kernel
theorem dX6_make_3 : decode cX6_make 3 = .ok (.ldc 130, 2) := by decide +kernel
theorem dX6_make_5 : decode cX6_make 5 = .ok (.invokestatic 55, 3) := by decide +kernel
theorem dX6_make_8 : decode cX6_make 8 = .ok (.ifCond .eq 36, 3) := by decide +kernel
theorem dX6_make_11 : decode cX6_make 11 = .ok (.iload_n 2, 1) := by decide +kernel
theorem dX6_make_12 : decode cX6_make 12 = .ok (.iconst 0, 1) := by decide +kernel
theorem dX6_make_13 : decode cX6_make 13 = .ok (.ldc 144, 2) := by decide +kernel
theorem dX6_make_15 : decode cX6_make 15 = .ok (.invokestatic 55, 3) := by decide +kernel
theorem dX6_make_18 : decode cX6_make 18 = .ok (.ifCond .eq 26, 3) := by decide +kernel
theorem dX6_make_21 : decode cX6_make 21 = .ok (.iload_n 3, 1) := by decide +kernel
theorem dX6_make_22 : decode cX6_make 22 = .ok (.iconst 0, 1) := by decide +kernel
theorem dX6_make_23 : decode cX6_make 23 = .ok (.sipush 1000, 3) := by decide +kernel
theorem dX6_make_26 : decode cX6_make 26 = .ok (.invokestatic 55, 3) := by decide +kernel
theorem dX6_make_29 : decode cX6_make 29 = .ok (.ifCond .eq 15, 3) := by decide +kernel
theorem dX6_make_32 : decode cX6_make 32 = .ok (.iload 4, 2) := by decide +kernel
theorem dX6_make_34 : decode cX6_make 34 = .ok (.invokestatic 141, 3) := by decide +kernel
theorem dX6_make_37 : decode cX6_make 37 = .ok (.ifCond .eq 7, 3) := by decide +kernel
theorem dX6_make_40 : decode cX6_make 40 = .ok (.iconst 1, 1) := by decide +kernel
theorem dX6_make_41 : decode cX6_make 41 = .ok (.goto 4, 3) := by decide +kernel
theorem dX6_make_44 : decode cX6_make 44 = .ok (.iconst 0, 1) := by decide +kernel
theorem dX6_make_45 : decode cX6_make 45 = .ok (.istore 5, 2) := by decide +kernel
theorem dX6_make_47 : decode cX6_make 47 = .ok (.aload_n 0, 1) := by decide +kernel
theorem dX6_make_48 : decode cX6_make 48 = .ok (.iload 5, 2) := by decide +kernel
theorem dX6_make_50 : decode cX6_make 50 = .ok (.ifCond .ne 7, 3) := by decide +kernel
theorem dX6_make_53 : decode cX6_make 53 = .ok (.iconst 1, 1) := by decide +kernel
theorem dX6_make_54 : decode cX6_make 54 = .ok (.goto 17, 3) := by decide +kernel
theorem dX6_make_57 : decode cX6_make 57 = .ok (.aload_n 0, 1) := by decide +kernel
theorem dX6_make_58 : decode cX6_make 58 = .ok (.getfield 59, 3) := by decide +kernel
theorem dX6_make_61 : decode cX6_make 61 = .ok (.bipush 10, 2) := by decide +kernel
theorem dX6_make_63 : decode cX6_make 63 = .ok (.if_icmp .ne 7, 3) := by decide +kernel
theorem dX6_make_66 : decode cX6_make 66 = .ok (.iconst 2, 1) := by decide +kernel
theorem dX6_make_67 : decode cX6_make 67 = .ok (.goto 4, 3) := by decide +kernel
theorem dX6_make_70 : decode cX6_make 70 = .ok (.iconst 0, 1) := by decide +kernel
theorem dX6_make_71 : decode cX6_make 71 = .ok (.invokevirtual 134, 3) := by decide +kernel
theorem dX6_make_74 : decode cX6_make 74 = .ok (.ifCond .ne 5, 3) := by decide +kernel
theorem dX6_make_77 : decode cX6_make 77 = .ok (.iconst 0, 1) := by decide +kernel
theorem dX6_make_78 : decode cX6_make 78 = .ok (.ireturn, 1) := by decide +kernel
theorem dX6_make_79 : decode cX6_make 79 = .ok (.aload_n 0, 1) := by decide +kernel
theorem dX6_make_80 : decode cX6_make 80 = .ok (.getfield 13, 3) := by decide +kernel
theorem dX6_make_83 : decode cX6_make 83 = .ok (.aload_n 0, 1) := by decide +kernel
theorem dX6_make_84 : decode cX6_make 84 = .ok (.getfield 59, 3) := by decide +kernel
theorem dX6_make_87 : decode cX6_make 87 = .ok (.iload_n 1, 1) := by decide +kernel
theorem dX6_make_88 : decode cX6_make 88 = .ok (.iastore, 1) := by decide +kernel
theorem dX6_make_89 : decode cX6_make 89 = .ok (.aload_n 0, 1) := by decide +kernel
theorem dX6_make_90 : decode cX6_make 90 = .ok (.getfield 16, 3) := by decide +kernel
theorem dX6_make_93 : decode cX6_make 93 = .ok (.aload_n 0, 1) := by decide +kernel
theorem dX6_make_94 : decode cX6_make 94 = .ok (.getfield 59, 3) := by decide +kernel
theorem dX6_make_97 : decode cX6_make 97 = .ok (.iload_n 2, 1) := by decide +kernel
theorem dX6_make_98 : decode cX6_make 98 = .ok (.iastore, 1) := by decide +kernel
theorem dX6_make_99 : decode cX6_make 99 = .ok (.aload_n 0, 1) := by decide +kernel
theorem dX6_make_100 : decode cX6_make 100 = .ok (.getfield 19, 3) := by decide +kernel
theorem dX6_make_103 : decode cX6_make 103 = .ok (.aload_n 0, 1) := by decide +kernel
theorem dX6_make_104 : decode cX6_make 104 = .ok (.getfield 59, 3) := by decide +kernel
theorem dX6_make_107 : decode cX6_make 107 = .ok (.iload_n 3, 1) := by decide +kernel
theorem dX6_make_108 : decode cX6_make 108 = .ok (.iastore, 1) := by decide +kernel
theorem dX6_make_109 : decode cX6_make 109 = .ok (.aload_n 0, 1) := by decide +kernel
theorem dX6_make_110 : decode cX6_make 110 = .ok (.getfield 22, 3) := by decide +kernel
theorem dX6_make_113 : decode cX6_make 113 = .ok (.aload_n 0, 1) := by decide +kernel
theorem dX6_make_114 : decode cX6_make 114 = .ok (.getfield 59, 3) := by decide +kernel
theorem dX6_make_117 : decode cX6_make 117 = .ok (.iload 4, 2) := by decide +kernel
theorem dX6_make_119 : decode cX6_make 119 = .ok (.iastore, 1) := by decide +kernel
theorem dX6_make_120 : decode cX6_make 120 = .ok (.aload_n 0, 1) := by decide +kernel
theorem dX6_make_121 : decode cX6_make 121 = .ok (.getfield 28, 3) := by decide +kernel
theorem dX6_make_124 : decode cX6_make 124 = .ok (.aload_n 0, 1) := by decide +kernel
theorem dX6_make_125 : decode cX6_make 125 = .ok (.getfield 59, 3) := by decide +kernel
theorem dX6_make_128 : decode cX6_make 128 = .ok (.iconst 1, 1) := by decide +kernel
theorem dX6_make_129 : decode cX6_make 129 = .ok (.bastore, 1) := by decide +kernel
theorem dX6_make_130 : decode cX6_make 130 = .ok (.aload_n 0, 1) := by decide +kernel
theorem dX6_make_131 : decode cX6_make 131 = .ok (.dup, 1) := by decide +kernel
theorem dX6_make_132 : decode cX6_make 132 = .ok (.getfield 59, 3) := by decide +kernel
theorem dX6_make_135 : decode cX6_make 135 = .ok (.iconst 1, 1) := by decide +kernel
theorem dX6_make_136 : decode cX6_make 136 = .ok (.iadd, 1) := by decide +kernel
theorem dX6_make_137 : decode cX6_make 137 = .ok (.putfield 59, 3) := by decide +kernel
theorem dX6_make_140 : decode cX6_make 140 = .ok (.aload_n 0, 1) := by decide +kernel
theorem dX6_make_141 : decode cX6_make 141 = .ok (.getfield 59, 3) := by decide +kernel
theorem dX6_make_144 : decode cX6_make 144 = .ok (.iconst 1, 1) := by decide +kernel
theorem dX6_make_145 : decode cX6_make 145 = .ok (.isub, 1) := by decide +kernel
theorem dX6_make_146 : decode cX6_make 146 = .ok (.ireturn, 1) := by decide +kernel
theorem dX6_orders_0 : decode cX6_orders 0 = .ok (.aload_n 0, 1) := by decide +kernel
theorem dX6_orders_1 : decode cX6_orders 1 = .ok (.getfield 39, 3) := by decide +kernel
theorem dX6_orders_4 : decode cX6_orders 4 = .ok (.aload_n 0, 1) := by decide +kernel
theorem dX6_orders_5 : decode cX6_orders 5 = .ok (.getfield 116, 3) := by decide +kernel
theorem dX6_orders_8 : decode cX6_orders 8 = .ok (.iload_n 1, 1) := by decide +kernel
theorem dX6_orders_9 : decode cX6_orders 9 = .ok (.iastore, 1) := by decide +kernel
theorem dX6_orders_10 : decode cX6_orders 10 = .ok (.aload_n 0, 1) := by decide +kernel
theorem dX6_orders_11 : decode cX6_orders 11 = .ok (.getfield 42, 3) := by decide +kernel
theorem dX6_orders_14 : decode cX6_orders 14 = .ok (.aload_n 0, 1) := by decide +kernel
theorem dX6_orders_15 : decode cX6_orders 15 = .ok (.getfield 116, 3) := by decide +kernel
theorem dX6_orders_18 : decode cX6_orders 18 = .ok (.iload_n 2, 1) := by decide +kernel
theorem dX6_orders_19 : decode cX6_orders 19 = .ok (.iastore, 1) := by decide +kernel
theorem dX6_orders_20 : decode cX6_orders 20 = .ok (.aload_n 0, 1) := by decide +kernel
theorem dX6_orders_21 : decode cX6_orders 21 = .ok (.getfield 45, 3) := by decide +kernel
theorem dX6_orders_24 : decode cX6_orders 24 = .ok (.aload_n 0, 1) := by decide +kernel
theorem dX6_orders_25 : decode cX6_orders 25 = .ok (.getfield 116, 3) := by decide +kernel
theorem dX6_orders_28 : decode cX6_orders 28 = .ok (.iload_n 3, 1) := by decide +kernel
theorem dX6_orders_29 : decode cX6_orders 29 = .ok (.iastore, 1) := by decide +kernel
theorem dX6_orders_30 : decode cX6_orders 30 = .ok (.aload_n 0, 1) := by decide +kernel
theorem dX6_orders_31 : decode cX6_orders 31 = .ok (.getfield 48, 3) := by decide +kernel
theorem dX6_orders_34 : decode cX6_orders 34 = .ok (.aload_n 0, 1) := by decide +kernel
theorem dX6_orders_35 : decode cX6_orders 35 = .ok (.getfield 116, 3) := by decide +kernel
theorem dX6_orders_38 : decode cX6_orders 38 = .ok (.iload 4, 2) := by decide +kernel
theorem dX6_orders_40 : decode cX6_orders 40 = .ok (.iastore, 1) := by decide +kernel
theorem dX6_orders_41 : decode cX6_orders 41 = .ok (.aload_n 0, 1) := by decide +kernel
theorem dX6_orders_42 : decode cX6_orders 42 = .ok (.dup, 1) := by decide +kernel
theorem dX6_orders_43 : decode cX6_orders 43 = .ok (.getfield 116, 3) := by decide +kernel
theorem dX6_orders_46 : decode cX6_orders 46 = .ok (.iconst 1, 1) := by decide +kernel
theorem dX6_orders_47 : decode cX6_orders 47 = .ok (.iadd, 1) := by decide +kernel
theorem dX6_orders_48 : decode cX6_orders 48 = .ok (.putfield 116, 3) := by decide +kernel
theorem dX6_orders_51 : decode cX6_orders 51 = .ok (.aload_n 0, 1) := by decide +kernel
theorem dX6_orders_52 : decode cX6_orders 52 = .ok (.getfield 116, 3) := by decide +kernel
theorem dX6_orders_55 : decode cX6_orders 55 = .ok (.ireturn, 1) := by decide +kernel
set_option maxRecDepth 20000 in
theorem ggX6_pay_X6_isContract : GoodIn wsX6_pay wsX6_isContract := goodIn_r _ [6, 7, 8, 9, 5, 10, 25, 26, 27, 28, 29, 30, 31, 32, 33, 34, 35, 36, 37, 38, 39, 40, 41, 42, 43] (by decide +kernel) (by decide +kernel)
set_option maxRecDepth 20000 in
theorem gX6_pay_X6_isContract : GoodIn wsX6_pay (wsV RX6 145 RX6 yX6_isContract wsX6_isContract) := goodIn_app (goodIn_of _ (by decide +kernel)) ggX6_pay_X6_isContract
set_option maxRecDepth 20000 in
theorem ggX6_pay_X6_holds : GoodIn wsX6_pay wsX6_holds := goodIn_r _ [14, 15, 25, 26, 27, 28, 29, 30, 31, 32, 33, 34, 35, 36, 37, 38, 39, 40, 41, 42, 43] (by decide +kernel) (by decide +kernel)
set_option maxRecDepth 20000 in
theorem gX6_pay_X6_holds : GoodIn wsX6_pay (wsV RX6 134 RX6 yX6_holds wsX6_holds) := goodIn_app (goodIn_of _ (by decide +kernel)) ggX6_pay_X6_holds
set_option maxRecDepth 20000 in
theorem ggX6_pay_X6_orders : GoodIn wsX6_pay wsX6_orders := goodIn_r _ [19, 20, 21, 22, 23, 24, 25, 26, 27, 28, 29, 30, 31, 32, 33, 34, 35, 36, 37, 38, 39, 40, 41, 42, 43] (by decide +kernel) (by decide +kernel)
set_option maxRecDepth 20000 in
theorem gX6_pay_X6_orders : GoodIn wsX6_pay (wsV RX6 148 RX6 yX6_orders wsX6_orders) := goodIn_app (goodIn_of _ (by decide +kernel)) ggX6_pay_X6_orders
theorem dX6_pay_0 : decode cX6_pay 0 = .ok (.aload_n 0, 1) := by decide +kernel
theorem dX6_pay_1 : decode cX6_pay 1 = .ok (.iload_n 1, 1) := by decide +kernel
theorem dX6_pay_2 : decode cX6_pay 2 = .ok (.invokevirtual 145, 3) := by decide +kernel
theorem dX6_pay_5 : decode cX6_pay 5 = .ok (.istore_n 2, 1) := by decide +kernel
theorem dX6_pay_6 : decode cX6_pay 6 = .ok (.aload_n 0, 1) := by decide +kernel
theorem dX6_pay_7 : decode cX6_pay 7 = .ok (.iload_n 2, 1) := by decide +kernel
theorem dX6_pay_8 : decode cX6_pay 8 = .ok (.ifCond .ne 7, 3) := by decide +kernel
theorem dX6_pay_11 : decode cX6_pay 11 = .ok (.iconst 1, 1) := by decide +kernel
theorem dX6_pay_12 : decode cX6_pay 12 = .ok (.goto 17, 3) := by decide +kernel
theorem dX6_pay_15 : decode cX6_pay 15 = .ok (.aload_n 0, 1) := by decide +kernel
theorem dX6_pay_16 : decode cX6_pay 16 = .ok (.getfield 28, 3) := by decide +kernel
theorem dX6_pay_19 : decode cX6_pay 19 = .ok (.iload_n 1, 1) := by decide +kernel
theorem dX6_pay_20 : decode cX6_pay 20 = .ok (.baload, 1) := by decide +kernel
theorem dX6_pay_21 : decode cX6_pay 21 = .ok (.ifCond .eq 7, 3) := by decide +kernel
theorem dX6_pay_24 : decode cX6_pay 24 = .ok (.iconst 0, 1) := by decide +kernel
theorem dX6_pay_25 : decode cX6_pay 25 = .ok (.goto 4, 3) := by decide +kernel
theorem dX6_pay_28 : decode cX6_pay 28 = .ok (.iconst 2, 1) := by decide +kernel
theorem dX6_pay_29 : decode cX6_pay 29 = .ok (.invokevirtual 134, 3) := by decide +kernel
theorem dX6_pay_32 : decode cX6_pay 32 = .ok (.ifCond .eq 14, 3) := by decide +kernel
theorem dX6_pay_35 : decode cX6_pay 35 = .ok (.aload_n 0, 1) := by decide +kernel
theorem dX6_pay_36 : decode cX6_pay 36 = .ok (.iload_n 1, 1) := by decide +kernel
theorem dX6_pay_37 : decode cX6_pay 37 = .ok (.iconst (-1), 1) := by decide +kernel
theorem dX6_pay_38 : decode cX6_pay 38 = .ok (.iconst 0, 1) := by decide +kernel
theorem dX6_pay_39 : decode cX6_pay 39 = .ok (.iconst 0, 1) := by decide +kernel
theorem dX6_pay_40 : decode cX6_pay 40 = .ok (.invokevirtual 148, 3) := by decide +kernel
theorem dX6_pay_43 : decode cX6_pay 43 = .ok (.goto 4, 3) := by decide +kernel
theorem dX6_pay_46 : decode cX6_pay 46 = .ok (.iconst 0, 1) := by decide +kernel
theorem dX6_pay_47 : decode cX6_pay 47 = .ok (.ireturn, 1) := by decide +kernel
set_option maxRecDepth 20000 in
theorem ggX6_change_X6_isContract : GoodIn wsX6_change wsX6_isContract := goodIn_r _ [6, 7, 8, 9, 5, 10, 28, 29, 30, 31, 32, 33, 34, 35, 36, 37, 38, 39, 40, 41, 42, 43, 44, 45, 46] (by decide +kernel) (by decide +kernel)
set_option maxRecDepth 20000 in
theorem gX6_change_X6_isContract : GoodIn wsX6_change (wsV RX6 145 RX6 yX6_isContract wsX6_isContract) := goodIn_app (goodIn_of _ (by decide +kernel)) ggX6_change_X6_isContract
set_option maxRecDepth 20000 in
theorem ggX6_change_X6_isFund : GoodIn wsX6_change wsX6_isFund := goodIn_r _ [13, 8, 9, 5, 10] (by decide +kernel) (by decide +kernel)
set_option maxRecDepth 20000 in
theorem gX6_change_X6_isFund : GoodIn wsX6_change (va_wsS RX6 141 yX6_isFund wsX6_isFund) := goodIn_app (goodIn_of _ (by decide +kernel)) ggX6_change_X6_isFund
set_option maxRecDepth 20000 in
theorem ggX6_change_X6_isIn : GoodIn wsX6_change wsX6_isIn := goodIn_r _ [10] (by decide +kernel) (by decide +kernel)
set_option maxRecDepth 20000 in
theorem gX6_change_X6_isIn : GoodIn wsX6_change (va_wsS RX6 55 yX6_isIn wsX6_isIn) := goodIn_app (goodIn_of _ (by decide +kernel)) ggX6_change_X6_isIn
set_option maxRecDepth 20000 in
theorem ggX6_change_X6_holds : GoodIn wsX6_change wsX6_holds := goodIn_r _ [17, 18, 28, 29, 30, 31, 32, 33, 34, 35, 36, 37, 38, 39, 40, 41, 42, 43, 44, 45, 46] (by decide +kernel) (by decide +kernel)
set_option maxRecDepth 20000 in
theorem gX6_change_X6_holds : GoodIn wsX6_change (wsV RX6 134 RX6 yX6_holds wsX6_holds) := goodIn_app (goodIn_of _ (by decide +kernel)) ggX6_change_X6_holds
set_option maxRecDepth 20000 in
theorem ggX6_change_X6_orders : GoodIn wsX6_change wsX6_orders := goodIn_r _ [22, 23, 24, 25, 26, 27, 28, 29, 30, 31, 32, 33, 34, 35, 36, 37, 38, 39, 40, 41, 42, 43, 44, 45, 46] (by decide +kernel) (by decide +kernel)
set_option maxRecDepth 20000 in
theorem gX6_change_X6_orders : GoodIn wsX6_change (wsV RX6 148 RX6 yX6_orders wsX6_orders) := goodIn_app (goodIn_of _ (by decide +kernel)) ggX6_change_X6_orders
theorem dX6_change_0 : decode cX6_change 0 = .ok (.aload_n 0, 1) := by decide +kernel
theorem dX6_change_1 : decode cX6_change 1 = .ok (.iload_n 1, 1) := by decide +kernel
theorem dX6_change_2 : decode cX6_change 2 = .ok (.invokevirtual 145, 3) := by decide +kernel
theorem dX6_change_5 : decode cX6_change 5 = .ok (.istore 5, 2) := by decide +kernel
theorem dX6_change_7 : decode cX6_change 7 = .ok (.iload_n 2, 1) := by decide +kernel
theorem dX6_change_8 : decode cX6_change 8 = .ok (.invokestatic 141, 3) := by decide +kernel
theorem dX6_change_11 : decode cX6_change 11 = .ok (.ifCond .eq 30, 3) := by decide +kernel
theorem dX6_change_14 : decode cX6_change 14 = .ok (.iload_n 3, 1) := by decide +kernel
theorem dX6_change_15 : decode cX6_change 15 = .ok (.invokestatic 141, 3) := by decide +kernel
theorem dX6_change_18 : decode cX6_change 18 = .ok (.ifCond .eq 23, 3) := by decide +kernel
theorem dX6_change_21 : decode cX6_change 21 = .ok (.iload_n 2, 1) := by decide +kernel
theorem dX6_change_22 : decode cX6_change 22 = .ok (.iload_n 3, 1) := by decide +kernel
theorem dX6_change_23 : decode cX6_change 23 = .ok (.if_icmp .eq 18, 3) := by decide +kernel
theorem dX6_change_26 : decode cX6_change 26 = .ok (.iload 4, 2) := by decide +kernel
theorem dX6_change_28 : decode cX6_change 28 = .ok (.iconst 1, 1) := by decide +kernel
theorem dX6_change_29 : decode cX6_change 29 = .ok (.bipush 100, 2) := by decide +kernel
theorem dX6_change_31 : decode cX6_change 31 = .ok (.invokestatic 55, 3) := by decide +kernel
theorem dX6_change_34 : decode cX6_change 34 = .ok (.ifCond .eq 7, 3) := by decide +kernel
theorem dX6_change_37 : decode cX6_change 37 = .ok (.iconst 1, 1) := by decide +kernel
theorem dX6_change_38 : decode cX6_change 38 = .ok (.goto 4, 3) := by decide +kernel
theorem dX6_change_41 : decode cX6_change 41 = .ok (.iconst 0, 1) := by decide +kernel
theorem dX6_change_42 : decode cX6_change 42 = .ok (.istore 6, 2) := by decide +kernel
theorem dX6_change_44 : decode cX6_change 44 = .ok (.aload_n 0, 1) := by decide +kernel
theorem dX6_change_45 : decode cX6_change 45 = .ok (.iload 5, 2) := by decide +kernel
theorem dX6_change_47 : decode cX6_change 47 = .ok (.ifCond .ne 7, 3) := by decide +kernel
theorem dX6_change_50 : decode cX6_change 50 = .ok (.iconst 1, 1) := by decide +kernel
theorem dX6_change_51 : decode cX6_change 51 = .ok (.goto 26, 3) := by decide +kernel
theorem dX6_change_54 : decode cX6_change 54 = .ok (.iload 6, 2) := by decide +kernel
theorem dX6_change_56 : decode cX6_change 56 = .ok (.ifCond .ne 7, 3) := by decide +kernel
theorem dX6_change_59 : decode cX6_change 59 = .ok (.iconst 2, 1) := by decide +kernel
theorem dX6_change_60 : decode cX6_change 60 = .ok (.goto 17, 3) := by decide +kernel
theorem dX6_change_63 : decode cX6_change 63 = .ok (.aload_n 0, 1) := by decide +kernel
theorem dX6_change_64 : decode cX6_change 64 = .ok (.getfield 28, 3) := by decide +kernel
theorem dX6_change_67 : decode cX6_change 67 = .ok (.iload_n 1, 1) := by decide +kernel
theorem dX6_change_68 : decode cX6_change 68 = .ok (.baload, 1) := by decide +kernel
theorem dX6_change_69 : decode cX6_change 69 = .ok (.ifCond .eq 7, 3) := by decide +kernel
theorem dX6_change_72 : decode cX6_change 72 = .ok (.iconst 0, 1) := by decide +kernel
theorem dX6_change_73 : decode cX6_change 73 = .ok (.goto 4, 3) := by decide +kernel
theorem dX6_change_76 : decode cX6_change 76 = .ok (.iconst 3, 1) := by decide +kernel
theorem dX6_change_77 : decode cX6_change 77 = .ok (.invokevirtual 134, 3) := by decide +kernel
theorem dX6_change_80 : decode cX6_change 80 = .ok (.ifCond .eq 15, 3) := by decide +kernel
theorem dX6_change_83 : decode cX6_change 83 = .ok (.aload_n 0, 1) := by decide +kernel
theorem dX6_change_84 : decode cX6_change 84 = .ok (.iload_n 1, 1) := by decide +kernel
theorem dX6_change_85 : decode cX6_change 85 = .ok (.iload 4, 2) := by decide +kernel
theorem dX6_change_87 : decode cX6_change 87 = .ok (.iload_n 2, 1) := by decide +kernel
theorem dX6_change_88 : decode cX6_change 88 = .ok (.iload_n 3, 1) := by decide +kernel
theorem dX6_change_89 : decode cX6_change 89 = .ok (.invokevirtual 148, 3) := by decide +kernel
theorem dX6_change_92 : decode cX6_change 92 = .ok (.goto 4, 3) := by decide +kernel
theorem dX6_change_95 : decode cX6_change 95 = .ok (.iconst 0, 1) := by decide +kernel
theorem dX6_change_96 : decode cX6_change 96 = .ok (.ireturn, 1) := by decide +kernel
set_option maxRecDepth 20000 in
theorem ggX6_backdate_X6_isContract : GoodIn wsX6_backdate wsX6_isContract := goodIn_r _ [10, 11, 12, 13, 9, 14, 38, 39, 40, 41, 42, 43, 44, 45, 46, 47, 48, 49, 50, 51, 52, 53, 54, 55, 56] (by decide +kernel) (by decide +kernel)
set_option maxRecDepth 20000 in
theorem gX6_backdate_X6_isContract : GoodIn wsX6_backdate (wsV RX6 145 RX6 yX6_isContract wsX6_isContract) := goodIn_app (goodIn_of _ (by decide +kernel)) ggX6_backdate_X6_isContract
set_option maxRecDepth 20000 in
theorem ggX6_backdate_X6_isIn : GoodIn wsX6_backdate wsX6_isIn := goodIn_r _ [14] (by decide +kernel) (by decide +kernel)
set_option maxRecDepth 20000 in
theorem gX6_backdate_X6_isIn : GoodIn wsX6_backdate (va_wsS RX6 55 yX6_isIn wsX6_isIn) := goodIn_app (goodIn_of _ (by decide +kernel)) ggX6_backdate_X6_isIn
set_option maxRecDepth 20000 in
theorem ggX6_backdate_X6_holds : GoodIn wsX6_backdate wsX6_holds := goodIn_r _ [18, 19, 38, 39, 40, 41, 42, 43, 44, 45, 46, 47, 48, 49, 50, 51, 52, 53, 54, 55, 56] (by decide +kernel) (by decide +kernel)
set_option maxRecDepth 20000 in
theorem gX6_backdate_X6_holds : GoodIn wsX6_backdate (wsV RX6 134 RX6 yX6_holds wsX6_holds) := goodIn_app (goodIn_of _ (by decide +kernel)) ggX6_backdate_X6_holds
set_option maxRecDepth 20000 in
theorem ggX6_backdate_X6_offerOn : GoodIn wsX6_backdate wsX6_offerOn := goodIn_r _ [23, 24, 38, 39, 40, 41, 42, 43, 44, 45, 46, 47, 48, 49, 50, 51, 52, 53, 54, 55, 56] (by decide +kernel) (by decide +kernel)
set_option maxRecDepth 20000 in
theorem gX6_backdate_X6_offerOn : GoodIn wsX6_backdate (wsV RX6 69 RX6 yX6_offerOn wsX6_offerOn) := goodIn_app (goodIn_of _ (by decide +kernel)) ggX6_backdate_X6_offerOn
set_option maxRecDepth 20000 in
theorem ggX6_backdate_X6_unitsFor : GoodIn wsX6_backdate wsX6_unitsFor := goodIn_r _ [27, 28] (by decide +kernel) (by decide +kernel)
set_option maxRecDepth 20000 in
theorem gX6_backdate_X6_unitsFor : GoodIn wsX6_backdate (va_wsS RX6 73 yX6_unitsFor wsX6_unitsFor) := goodIn_app (goodIn_of _ (by decide +kernel)) ggX6_backdate_X6_unitsFor
set_option maxRecDepth 20000 in
theorem ggX6_backdate_X6_money : GoodIn wsX6_backdate wsX6_money := goodIn_r _ [31, 28] (by decide +kernel) (by decide +kernel)
set_option maxRecDepth 20000 in
theorem gX6_backdate_X6_money : GoodIn wsX6_backdate (va_wsS RX6 87 yX6_money wsX6_money) := goodIn_app (goodIn_of _ (by decide +kernel)) ggX6_backdate_X6_money
set_option maxRecDepth 20000 in
theorem ggX6_backdate_X6_grows : GoodIn wsX6_backdate wsX6_grows := goodIn_r _ [35, 36, 37, 38, 39, 40, 41, 42, 43, 44, 45, 46, 47, 48, 49, 50, 51, 52, 53, 54, 55, 56] (by decide +kernel) (by decide +kernel)
set_option maxRecDepth 20000 in
theorem gX6_backdate_X6_grows : GoodIn wsX6_backdate (wsV RX6 77 RX6 yX6_grows wsX6_grows) := goodIn_app (goodIn_of _ (by decide +kernel)) ggX6_backdate_X6_grows
theorem dX6_backdate_0 : decode cX6_backdate 0 = .ok (.aload_n 0, 1) := by decide +kernel
theorem dX6_backdate_1 : decode cX6_backdate 1 = .ok (.iload_n 1, 1) := by decide +kernel
theorem dX6_backdate_2 : decode cX6_backdate 2 = .ok (.invokevirtual 145, 3) := by decide +kernel
theorem dX6_backdate_5 : decode cX6_backdate 5 = .ok (.istore_n 3, 1) := by decide +kernel
theorem dX6_backdate_6 : decode cX6_backdate 6 = .ok (.aload_n 0, 1) := by decide +kernel
theorem dX6_backdate_7 : decode cX6_backdate 7 = .ok (.iload_n 3, 1) := by decide +kernel
theorem dX6_backdate_8 : decode cX6_backdate 8 = .ok (.ifCond .ne 7, 3) := by decide +kernel
theorem dX6_backdate_11 : decode cX6_backdate 11 = .ok (.iconst 1, 1) := by decide +kernel
theorem dX6_backdate_12 : decode cX6_backdate 12 = .ok (.goto 33, 3) := by decide +kernel
theorem dX6_backdate_15 : decode cX6_backdate 15 = .ok (.iload_n 2, 1) := by decide +kernel
theorem dX6_backdate_16 : decode cX6_backdate 16 = .ok (.iconst 0, 1) := by decide +kernel
theorem dX6_backdate_17 : decode cX6_backdate 17 = .ok (.aload_n 0, 1) := by decide +kernel
theorem dX6_backdate_18 : decode cX6_backdate 18 = .ok (.getfield 62, 3) := by decide +kernel
theorem dX6_backdate_21 : decode cX6_backdate 21 = .ok (.invokestatic 55, 3) := by decide +kernel
theorem dX6_backdate_24 : decode cX6_backdate 24 = .ok (.ifCond .ne 7, 3) := by decide +kernel
theorem dX6_backdate_27 : decode cX6_backdate 27 = .ok (.iconst 2, 1) := by decide +kernel
theorem dX6_backdate_28 : decode cX6_backdate 28 = .ok (.goto 17, 3) := by decide +kernel
theorem dX6_backdate_31 : decode cX6_backdate 31 = .ok (.aload_n 0, 1) := by decide +kernel
theorem dX6_backdate_32 : decode cX6_backdate 32 = .ok (.getfield 28, 3) := by decide +kernel
theorem dX6_backdate_35 : decode cX6_backdate 35 = .ok (.iload_n 1, 1) := by decide +kernel
theorem dX6_backdate_36 : decode cX6_backdate 36 = .ok (.baload, 1) := by decide +kernel
theorem dX6_backdate_37 : decode cX6_backdate 37 = .ok (.ifCond .eq 7, 3) := by decide +kernel
theorem dX6_backdate_40 : decode cX6_backdate 40 = .ok (.iconst 0, 1) := by decide +kernel
theorem dX6_backdate_41 : decode cX6_backdate 41 = .ok (.goto 4, 3) := by decide +kernel
theorem dX6_backdate_44 : decode cX6_backdate 44 = .ok (.iconst 3, 1) := by decide +kernel
theorem dX6_backdate_45 : decode cX6_backdate 45 = .ok (.invokevirtual 134, 3) := by decide +kernel
theorem dX6_backdate_48 : decode cX6_backdate 48 = .ok (.ifCond .ne 5, 3) := by decide +kernel
theorem dX6_backdate_51 : decode cX6_backdate 51 = .ok (.iconst 0, 1) := by decide +kernel
theorem dX6_backdate_52 : decode cX6_backdate 52 = .ok (.ireturn, 1) := by decide +kernel
theorem dX6_backdate_53 : decode cX6_backdate 53 = .ok (.aload_n 0, 1) := by decide +kernel
theorem dX6_backdate_54 : decode cX6_backdate 54 = .ok (.getfield 22, 3) := by decide +kernel
theorem dX6_backdate_57 : decode cX6_backdate 57 = .ok (.iload_n 1, 1) := by decide +kernel
theorem dX6_backdate_58 : decode cX6_backdate 58 = .ok (.iaload, 1) := by decide +kernel
theorem dX6_backdate_59 : decode cX6_backdate 59 = .ok (.istore 4, 2) := by decide +kernel
theorem dX6_backdate_61 : decode cX6_backdate 61 = .ok (.aload_n 0, 1) := by decide +kernel
theorem dX6_backdate_62 : decode cX6_backdate 62 = .ok (.getfield 13, 3) := by decide +kernel
theorem dX6_backdate_65 : decode cX6_backdate 65 = .ok (.iload_n 1, 1) := by decide +kernel
theorem dX6_backdate_66 : decode cX6_backdate 66 = .ok (.iaload, 1) := by decide +kernel
theorem dX6_backdate_67 : decode cX6_backdate 67 = .ok (.i2l, 1) := by decide +kernel
theorem dX6_backdate_68 : decode cX6_backdate 68 = .ok (.aload_n 0, 1) := by decide +kernel
theorem dX6_backdate_69 : decode cX6_backdate 69 = .ok (.iload 4, 2) := by decide +kernel
theorem dX6_backdate_71 : decode cX6_backdate 71 = .ok (.iload_n 2, 1) := by decide +kernel
theorem dX6_backdate_72 : decode cX6_backdate 72 = .ok (.invokevirtual 69, 3) := by decide +kernel
theorem dX6_backdate_75 : decode cX6_backdate 75 = .ok (.invokestatic 73, 3) := by decide +kernel
theorem dX6_backdate_78 : decode cX6_backdate 78 = .ok (.lstore 5, 2) := by decide +kernel
theorem dX6_backdate_80 : decode cX6_backdate 80 = .ok (.lload 5, 2) := by decide +kernel
theorem dX6_backdate_82 : decode cX6_backdate 82 = .ok (.aload_n 0, 1) := by decide +kernel
theorem dX6_backdate_83 : decode cX6_backdate 83 = .ok (.iload 4, 2) := by decide +kernel
theorem dX6_backdate_85 : decode cX6_backdate 85 = .ok (.aload_n 0, 1) := by decide +kernel
theorem dX6_backdate_86 : decode cX6_backdate 86 = .ok (.getfield 62, 3) := by decide +kernel
theorem dX6_backdate_89 : decode cX6_backdate 89 = .ok (.invokevirtual 69, 3) := by decide +kernel
theorem dX6_backdate_92 : decode cX6_backdate 92 = .ok (.invokestatic 87, 3) := by decide +kernel
theorem dX6_backdate_95 : decode cX6_backdate 95 = .ok (.aload_n 0, 1) := by decide +kernel
theorem dX6_backdate_96 : decode cX6_backdate 96 = .ok (.getfield 13, 3) := by decide +kernel
theorem dX6_backdate_99 : decode cX6_backdate 99 = .ok (.iload_n 1, 1) := by decide +kernel
theorem dX6_backdate_100 : decode cX6_backdate 100 = .ok (.iaload, 1) := by decide +kernel
theorem dX6_backdate_101 : decode cX6_backdate 101 = .ok (.i2l, 1) := by decide +kernel
theorem dX6_backdate_102 : decode cX6_backdate 102 = .ok (.lsub, 1) := by decide +kernel
theorem dX6_backdate_103 : decode cX6_backdate 103 = .ok (.lstore 7, 2) := by decide +kernel
theorem dX6_backdate_105 : decode cX6_backdate 105 = .ok (.aload_n 0, 1) := by decide +kernel
theorem dX6_backdate_106 : decode cX6_backdate 106 = .ok (.iload_n 1, 1) := by decide +kernel
theorem dX6_backdate_107 : decode cX6_backdate 107 = .ok (.iload 4, 2) := by decide +kernel
theorem dX6_backdate_109 : decode cX6_backdate 109 = .ok (.lload 5, 2) := by decide +kernel
theorem dX6_backdate_111 : decode cX6_backdate 111 = .ok (.invokevirtual 77, 3) := by decide +kernel
theorem dX6_backdate_114 : decode cX6_backdate 114 = .ok (.aload_n 0, 1) := by decide +kernel
theorem dX6_backdate_115 : decode cX6_backdate 115 = .ok (.dup, 1) := by decide +kernel
theorem dX6_backdate_116 : decode cX6_backdate 116 = .ok (.getfield 152, 3) := by decide +kernel
theorem dX6_backdate_119 : decode cX6_backdate 119 = .ok (.lload 7, 2) := by decide +kernel
theorem dX6_backdate_121 : decode cX6_backdate 121 = .ok (.lconst 0, 1) := by decide +kernel
theorem dX6_backdate_122 : decode cX6_backdate 122 = .ok (.lcmp, 1) := by decide +kernel
theorem dX6_backdate_123 : decode cX6_backdate 123 = .ok (.ifCond .le 8, 3) := by decide +kernel
theorem dX6_backdate_126 : decode cX6_backdate 126 = .ok (.lload 7, 2) := by decide +kernel
theorem dX6_backdate_128 : decode cX6_backdate 128 = .ok (.goto 4, 3) := by decide +kernel
theorem dX6_backdate_131 : decode cX6_backdate 131 = .ok (.lconst 0, 1) := by decide +kernel
theorem dX6_backdate_132 : decode cX6_backdate 132 = .ok (.ladd, 1) := by decide +kernel
theorem dX6_backdate_133 : decode cX6_backdate 133 = .ok (.putfield 152, 3) := by decide +kernel
theorem dX6_backdate_136 : decode cX6_backdate 136 = .ok (.lload 5, 2) := by decide +kernel
theorem dX6_backdate_138 : decode cX6_backdate 138 = .ok (.l2i, 1) := by decide +kernel
theorem dX6_backdate_139 : decode cX6_backdate 139 = .ok (.ireturn, 1) := by decide +kernel
theorem dX6_contracts_0 : decode cX6_contracts 0 = .ok (.aload_n 0, 1) := by decide +kernel
theorem dX6_contracts_1 : decode cX6_contracts 1 = .ok (.iconst 0, 1) := by decide +kernel
theorem dX6_contracts_2 : decode cX6_contracts 2 = .ok (.putfield 51, 3) := by decide +kernel
theorem dX6_contracts_5 : decode cX6_contracts 5 = .ok (.aload_n 0, 1) := by decide +kernel
theorem dX6_contracts_6 : decode cX6_contracts 6 = .ok (.getfield 59, 3) := by decide +kernel
theorem dX6_contracts_9 : decode cX6_contracts 9 = .ok (.ireturn, 1) := by decide +kernel
theorem dX6_waiting_0 : decode cX6_waiting 0 = .ok (.aload_n 0, 1) := by decide +kernel
theorem dX6_waiting_1 : decode cX6_waiting 1 = .ok (.iconst 0, 1) := by decide +kernel
theorem dX6_waiting_2 : decode cX6_waiting 2 = .ok (.putfield 51, 3) := by decide +kernel
theorem dX6_waiting_5 : decode cX6_waiting 5 = .ok (.aload_n 0, 1) := by decide +kernel
theorem dX6_waiting_6 : decode cX6_waiting 6 = .ok (.getfield 116, 3) := by decide +kernel
theorem dX6_waiting_9 : decode cX6_waiting 9 = .ok (.ireturn, 1) := by decide +kernel
set_option maxRecDepth 20000 in
theorem ggX6_isInForce_X6_isContract : GoodIn wsX6_isInForce wsX6_isContract := goodIn_r _ [6, 7, 8, 9, 5, 10, 16, 17, 18, 19, 20, 21, 22, 23, 24, 25, 26, 27, 28, 29, 30, 31, 32, 33, 34] (by decide +kernel) (by decide +kernel)
set_option maxRecDepth 20000 in
theorem gX6_isInForce_X6_isContract : GoodIn wsX6_isInForce (wsV RX6 145 RX6 yX6_isContract wsX6_isContract) := goodIn_app (goodIn_of _ (by decide +kernel)) ggX6_isInForce_X6_isContract
set_option maxRecDepth 20000 in
theorem ggX6_isInForce_X6_holds : GoodIn wsX6_isInForce wsX6_holds := goodIn_r _ [14, 15, 16, 17, 18, 19, 20, 21, 22, 23, 24, 25, 26, 27, 28, 29, 30, 31, 32, 33, 34] (by decide +kernel) (by decide +kernel)
set_option maxRecDepth 20000 in
theorem gX6_isInForce_X6_holds : GoodIn wsX6_isInForce (wsV RX6 134 RX6 yX6_holds wsX6_holds) := goodIn_app (goodIn_of _ (by decide +kernel)) ggX6_isInForce_X6_holds
theorem dX6_isInForce_0 : decode cX6_isInForce 0 = .ok (.aload_n 0, 1) := by decide +kernel
theorem dX6_isInForce_1 : decode cX6_isInForce 1 = .ok (.aload_n 0, 1) := by decide +kernel
theorem dX6_isInForce_2 : decode cX6_isInForce 2 = .ok (.iload_n 1, 1) := by decide +kernel
theorem dX6_isInForce_3 : decode cX6_isInForce 3 = .ok (.invokevirtual 145, 3) := by decide +kernel
theorem dX6_isInForce_6 : decode cX6_isInForce 6 = .ok (.ifCond .eq 7, 3) := by decide +kernel
theorem dX6_isInForce_9 : decode cX6_isInForce 9 = .ok (.iconst 0, 1) := by decide +kernel
theorem dX6_isInForce_10 : decode cX6_isInForce 10 = .ok (.goto 4, 3) := by decide +kernel
theorem dX6_isInForce_13 : decode cX6_isInForce 13 = .ok (.iconst 1, 1) := by decide +kernel
theorem dX6_isInForce_14 : decode cX6_isInForce 14 = .ok (.invokevirtual 134, 3) := by decide +kernel
theorem dX6_isInForce_17 : decode cX6_isInForce 17 = .ok (.ifCond .eq 16, 3) := by decide +kernel
theorem dX6_isInForce_20 : decode cX6_isInForce 20 = .ok (.aload_n 0, 1) := by decide +kernel
theorem dX6_isInForce_21 : decode cX6_isInForce 21 = .ok (.getfield 28, 3) := by decide +kernel
theorem dX6_isInForce_24 : decode cX6_isInForce 24 = .ok (.iload_n 1, 1) := by decide +kernel
theorem dX6_isInForce_25 : decode cX6_isInForce 25 = .ok (.baload, 1) := by decide +kernel
theorem dX6_isInForce_26 : decode cX6_isInForce 26 = .ok (.ifCond .eq 7, 3) := by decide +kernel
theorem dX6_isInForce_29 : decode cX6_isInForce 29 = .ok (.iconst 1, 1) := by decide +kernel
theorem dX6_isInForce_30 : decode cX6_isInForce 30 = .ok (.goto 4, 3) := by decide +kernel
theorem dX6_isInForce_33 : decode cX6_isInForce 33 = .ok (.iconst 0, 1) := by decide +kernel
theorem dX6_isInForce_34 : decode cX6_isInForce 34 = .ok (.ireturn, 1) := by decide +kernel
set_option maxRecDepth 20000 in
theorem ggX6_units_X6_isContract : GoodIn wsX6_units wsX6_isContract := goodIn_r _ [6, 7, 8, 9, 5, 10, 19, 20, 21, 22, 23, 24, 25, 26, 27, 28, 29, 30, 31, 32, 33, 34, 35, 36, 37] (by decide +kernel) (by decide +kernel)
set_option maxRecDepth 20000 in
theorem gX6_units_X6_isContract : GoodIn wsX6_units (wsV RX6 145 RX6 yX6_isContract wsX6_isContract) := goodIn_app (goodIn_of _ (by decide +kernel)) ggX6_units_X6_isContract
set_option maxRecDepth 20000 in
theorem ggX6_units_X6_isFund : GoodIn wsX6_units wsX6_isFund := goodIn_r _ [13, 8, 9, 5, 10] (by decide +kernel) (by decide +kernel)
set_option maxRecDepth 20000 in
theorem gX6_units_X6_isFund : GoodIn wsX6_units (va_wsS RX6 141 yX6_isFund wsX6_isFund) := goodIn_app (goodIn_of _ (by decide +kernel)) ggX6_units_X6_isFund
set_option maxRecDepth 20000 in
theorem ggX6_units_X6_holds : GoodIn wsX6_units wsX6_holds := goodIn_r _ [17, 18, 19, 20, 21, 22, 23, 24, 25, 26, 27, 28, 29, 30, 31, 32, 33, 34, 35, 36, 37] (by decide +kernel) (by decide +kernel)
set_option maxRecDepth 20000 in
theorem gX6_units_X6_holds : GoodIn wsX6_units (wsV RX6 134 RX6 yX6_holds wsX6_holds) := goodIn_app (goodIn_of _ (by decide +kernel)) ggX6_units_X6_holds
theorem dX6_units_0 : decode cX6_units 0 = .ok (.aload_n 0, 1) := by decide +kernel
theorem dX6_units_1 : decode cX6_units 1 = .ok (.aload_n 0, 1) := by decide +kernel
theorem dX6_units_2 : decode cX6_units 2 = .ok (.iload_n 1, 1) := by decide +kernel
theorem dX6_units_3 : decode cX6_units 3 = .ok (.invokevirtual 145, 3) := by decide +kernel
theorem dX6_units_6 : decode cX6_units 6 = .ok (.ifCond .ne 7, 3) := by decide +kernel
theorem dX6_units_9 : decode cX6_units 9 = .ok (.iconst 1, 1) := by decide +kernel
theorem dX6_units_10 : decode cX6_units 10 = .ok (.goto 15, 3) := by decide +kernel
theorem dX6_units_13 : decode cX6_units 13 = .ok (.iload_n 2, 1) := by decide +kernel
theorem dX6_units_14 : decode cX6_units 14 = .ok (.invokestatic 141, 3) := by decide +kernel
theorem dX6_units_17 : decode cX6_units 17 = .ok (.ifCond .eq 7, 3) := by decide +kernel
theorem dX6_units_20 : decode cX6_units 20 = .ok (.iconst 0, 1) := by decide +kernel
theorem dX6_units_21 : decode cX6_units 21 = .ok (.goto 4, 3) := by decide +kernel
theorem dX6_units_24 : decode cX6_units 24 = .ok (.iconst 2, 1) := by decide +kernel
theorem dX6_units_25 : decode cX6_units 25 = .ok (.invokevirtual 134, 3) := by decide +kernel
theorem dX6_units_28 : decode cX6_units 28 = .ok (.ifCond .eq 16, 3) := by decide +kernel
theorem dX6_units_31 : decode cX6_units 31 = .ok (.aload_n 0, 1) := by decide +kernel
theorem dX6_units_32 : decode cX6_units 32 = .ok (.getfield 36, 3) := by decide +kernel
theorem dX6_units_35 : decode cX6_units 35 = .ok (.iconst 3, 1) := by decide +kernel
theorem dX6_units_36 : decode cX6_units 36 = .ok (.iload_n 1, 1) := by decide +kernel
theorem dX6_units_37 : decode cX6_units 37 = .ok (.imul, 1) := by decide +kernel
theorem dX6_units_38 : decode cX6_units 38 = .ok (.iload_n 2, 1) := by decide +kernel
theorem dX6_units_39 : decode cX6_units 39 = .ok (.iadd, 1) := by decide +kernel
theorem dX6_units_40 : decode cX6_units 40 = .ok (.laload, 1) := by decide +kernel
theorem dX6_units_41 : decode cX6_units 41 = .ok (.goto 4, 3) := by decide +kernel
theorem dX6_units_44 : decode cX6_units 44 = .ok (.lconst 0, 1) := by decide +kernel
theorem dX6_units_45 : decode cX6_units 45 = .ok (.lreturn, 1) := by decide +kernel
set_option maxRecDepth 20000 in
theorem ggX6_initial_X6_isContract : GoodIn wsX6_initial wsX6_isContract := goodIn_r _ [6, 7, 8, 9, 5, 10, 16, 17, 18, 19, 20, 21, 22, 23, 24, 25, 26, 27, 28, 29, 30, 31, 32, 33, 34] (by decide +kernel) (by decide +kernel)
set_option maxRecDepth 20000 in
theorem gX6_initial_X6_isContract : GoodIn wsX6_initial (wsV RX6 145 RX6 yX6_isContract wsX6_isContract) := goodIn_app (goodIn_of _ (by decide +kernel)) ggX6_initial_X6_isContract
set_option maxRecDepth 20000 in
theorem ggX6_initial_X6_holds : GoodIn wsX6_initial wsX6_holds := goodIn_r _ [14, 15, 16, 17, 18, 19, 20, 21, 22, 23, 24, 25, 26, 27, 28, 29, 30, 31, 32, 33, 34] (by decide +kernel) (by decide +kernel)
set_option maxRecDepth 20000 in
theorem gX6_initial_X6_holds : GoodIn wsX6_initial (wsV RX6 134 RX6 yX6_holds wsX6_holds) := goodIn_app (goodIn_of _ (by decide +kernel)) ggX6_initial_X6_holds
theorem dX6_initial_0 : decode cX6_initial 0 = .ok (.aload_n 0, 1) := by decide +kernel
theorem dX6_initial_1 : decode cX6_initial 1 = .ok (.aload_n 0, 1) := by decide +kernel
theorem dX6_initial_2 : decode cX6_initial 2 = .ok (.iload_n 1, 1) := by decide +kernel
theorem dX6_initial_3 : decode cX6_initial 3 = .ok (.invokevirtual 145, 3) := by decide +kernel
theorem dX6_initial_6 : decode cX6_initial 6 = .ok (.ifCond .eq 7, 3) := by decide +kernel
theorem dX6_initial_9 : decode cX6_initial 9 = .ok (.iconst 0, 1) := by decide +kernel
theorem dX6_initial_10 : decode cX6_initial 10 = .ok (.goto 4, 3) := by decide +kernel
theorem dX6_initial_13 : decode cX6_initial 13 = .ok (.iconst 1, 1) := by decide +kernel
theorem dX6_initial_14 : decode cX6_initial 14 = .ok (.invokevirtual 134, 3) := by decide +kernel
theorem dX6_initial_17 : decode cX6_initial 17 = .ok (.ifCond .eq 12, 3) := by decide +kernel
theorem dX6_initial_20 : decode cX6_initial 20 = .ok (.aload_n 0, 1) := by decide +kernel
theorem dX6_initial_21 : decode cX6_initial 21 = .ok (.getfield 32, 3) := by decide +kernel
theorem dX6_initial_24 : decode cX6_initial 24 = .ok (.iload_n 1, 1) := by decide +kernel
theorem dX6_initial_25 : decode cX6_initial 25 = .ok (.laload, 1) := by decide +kernel
theorem dX6_initial_26 : decode cX6_initial 26 = .ok (.goto 4, 3) := by decide +kernel
theorem dX6_initial_29 : decode cX6_initial 29 = .ok (.lconst 0, 1) := by decide +kernel
theorem dX6_initial_30 : decode cX6_initial 30 = .ok (.lreturn, 1) := by decide +kernel
set_option maxRecDepth 20000 in
theorem ggX6_worth_X6_isContract : GoodIn wsX6_worth wsX6_isContract := goodIn_r _ [5, 6, 7, 8, 4, 9, 32, 33, 34, 35, 36, 37, 38, 39, 40, 41, 42, 43, 44, 45, 46, 47, 48, 49, 50] (by decide +kernel) (by decide +kernel)
set_option maxRecDepth 20000 in
theorem gX6_worth_X6_isContract : GoodIn wsX6_worth (wsV RX6 145 RX6 yX6_isContract wsX6_isContract) := goodIn_app (goodIn_of _ (by decide +kernel)) ggX6_worth_X6_isContract
set_option maxRecDepth 20000 in
theorem ggX6_worth_X6_holds : GoodIn wsX6_worth wsX6_holds := goodIn_r _ [13, 14, 32, 33, 34, 35, 36, 37, 38, 39, 40, 41, 42, 43, 44, 45, 46, 47, 48, 49, 50] (by decide +kernel) (by decide +kernel)
set_option maxRecDepth 20000 in
theorem gX6_worth_X6_holds : GoodIn wsX6_worth (wsV RX6 134 RX6 yX6_holds wsX6_holds) := goodIn_app (goodIn_of _ (by decide +kernel)) ggX6_worth_X6_holds
set_option maxRecDepth 20000 in
theorem ggX6_worth_X6_worthOf : GoodIn wsX6_worth wsX6_worthOf := goodIn_r _ [18, 19, 20, 21, 22, 23, 24, 4, 25, 26, 27, 28, 29, 30, 31, 32, 33, 34, 35, 36, 37, 38, 39, 40, 41, 42, 43, 44, 45, 46, 47, 48, 49, 50] (by decide +kernel) (by decide +kernel)
set_option maxRecDepth 20000 in
theorem gX6_worth_X6_worthOf : GoodIn wsX6_worth (wsV RX6 90 RX6 yX6_worthOf wsX6_worthOf) := goodIn_app (goodIn_of _ (by decide +kernel)) ggX6_worth_X6_worthOf
theorem dX6_worth_0 : decode cX6_worth 0 = .ok (.aload_n 0, 1) := by decide +kernel
theorem dX6_worth_1 : decode cX6_worth 1 = .ok (.aload_n 0, 1) := by decide +kernel
theorem dX6_worth_2 : decode cX6_worth 2 = .ok (.iload_n 1, 1) := by decide +kernel
theorem dX6_worth_3 : decode cX6_worth 3 = .ok (.invokevirtual 145, 3) := by decide +kernel
theorem dX6_worth_6 : decode cX6_worth 6 = .ok (.ifCond .eq 7, 3) := by decide +kernel
theorem dX6_worth_9 : decode cX6_worth 9 = .ok (.iconst 0, 1) := by decide +kernel
theorem dX6_worth_10 : decode cX6_worth 10 = .ok (.goto 4, 3) := by decide +kernel
theorem dX6_worth_13 : decode cX6_worth 13 = .ok (.iconst 1, 1) := by decide +kernel
theorem dX6_worth_14 : decode cX6_worth 14 = .ok (.invokevirtual 134, 3) := by decide +kernel
theorem dX6_worth_17 : decode cX6_worth 17 = .ok (.ifCond .eq 11, 3) := by decide +kernel
theorem dX6_worth_20 : decode cX6_worth 20 = .ok (.aload_n 0, 1) := by decide +kernel
theorem dX6_worth_21 : decode cX6_worth 21 = .ok (.iload_n 1, 1) := by decide +kernel
theorem dX6_worth_22 : decode cX6_worth 22 = .ok (.invokevirtual 90, 3) := by decide +kernel
theorem dX6_worth_25 : decode cX6_worth 25 = .ok (.goto 4, 3) := by decide +kernel
theorem dX6_worth_28 : decode cX6_worth 28 = .ok (.lconst 0, 1) := by decide +kernel
theorem dX6_worth_29 : decode cX6_worth 29 = .ok (.lreturn, 1) := by decide +kernel
set_option maxRecDepth 20000 in
theorem ggX6_paid_X6_isContract : GoodIn wsX6_paid wsX6_isContract := goodIn_r _ [6, 7, 8, 9, 5, 10, 16, 17, 18, 19, 20, 21, 22, 23, 24, 25, 26, 27, 28, 29, 30, 31, 32, 33, 34] (by decide +kernel) (by decide +kernel)
set_option maxRecDepth 20000 in
theorem gX6_paid_X6_isContract : GoodIn wsX6_paid (wsV RX6 145 RX6 yX6_isContract wsX6_isContract) := goodIn_app (goodIn_of _ (by decide +kernel)) ggX6_paid_X6_isContract
set_option maxRecDepth 20000 in
theorem ggX6_paid_X6_holds : GoodIn wsX6_paid wsX6_holds := goodIn_r _ [14, 15, 16, 17, 18, 19, 20, 21, 22, 23, 24, 25, 26, 27, 28, 29, 30, 31, 32, 33, 34] (by decide +kernel) (by decide +kernel)
set_option maxRecDepth 20000 in
theorem gX6_paid_X6_holds : GoodIn wsX6_paid (wsV RX6 134 RX6 yX6_holds wsX6_holds) := goodIn_app (goodIn_of _ (by decide +kernel)) ggX6_paid_X6_holds
theorem dX6_paid_0 : decode cX6_paid 0 = .ok (.aload_n 0, 1) := by decide +kernel
theorem dX6_paid_1 : decode cX6_paid 1 = .ok (.aload_n 0, 1) := by decide +kernel
theorem dX6_paid_2 : decode cX6_paid 2 = .ok (.iload_n 1, 1) := by decide +kernel
theorem dX6_paid_3 : decode cX6_paid 3 = .ok (.invokevirtual 145, 3) := by decide +kernel
theorem dX6_paid_6 : decode cX6_paid 6 = .ok (.ifCond .eq 7, 3) := by decide +kernel
theorem dX6_paid_9 : decode cX6_paid 9 = .ok (.iconst 0, 1) := by decide +kernel
theorem dX6_paid_10 : decode cX6_paid 10 = .ok (.goto 4, 3) := by decide +kernel
theorem dX6_paid_13 : decode cX6_paid 13 = .ok (.iconst 1, 1) := by decide +kernel
theorem dX6_paid_14 : decode cX6_paid 14 = .ok (.invokevirtual 134, 3) := by decide +kernel
theorem dX6_paid_17 : decode cX6_paid 17 = .ok (.ifCond .eq 12, 3) := by decide +kernel
theorem dX6_paid_20 : decode cX6_paid 20 = .ok (.aload_n 0, 1) := by decide +kernel
theorem dX6_paid_21 : decode cX6_paid 21 = .ok (.getfield 25, 3) := by decide +kernel
theorem dX6_paid_24 : decode cX6_paid 24 = .ok (.iload_n 1, 1) := by decide +kernel
theorem dX6_paid_25 : decode cX6_paid 25 = .ok (.iaload, 1) := by decide +kernel
theorem dX6_paid_26 : decode cX6_paid 26 = .ok (.goto 4, 3) := by decide +kernel
theorem dX6_paid_29 : decode cX6_paid 29 = .ok (.iconst 0, 1) := by decide +kernel
theorem dX6_paid_30 : decode cX6_paid 30 = .ok (.ireturn, 1) := by decide +kernel
set_option maxRecDepth 20000 in
theorem ggX6_fundUnits_X6_isFund : GoodIn wsX6_fundUnits wsX6_isFund := goodIn_r _ [8, 9, 10, 7, 11] (by decide +kernel) (by decide +kernel)
set_option maxRecDepth 20000 in
theorem gX6_fundUnits_X6_isFund : GoodIn wsX6_fundUnits (va_wsS RX6 141 yX6_isFund wsX6_isFund) := goodIn_app (goodIn_of _ (by decide +kernel)) ggX6_fundUnits_X6_isFund
set_option maxRecDepth 20000 in
theorem ggX6_fundUnits_X6_holds : GoodIn wsX6_fundUnits wsX6_holds := goodIn_r _ [15, 16, 17, 18, 19, 20, 21, 22, 23, 24, 25, 26, 27, 28, 29, 30, 31, 32, 33, 34, 35] (by decide +kernel) (by decide +kernel)
set_option maxRecDepth 20000 in
theorem gX6_fundUnits_X6_holds : GoodIn wsX6_fundUnits (wsV RX6 134 RX6 yX6_holds wsX6_holds) := goodIn_app (goodIn_of _ (by decide +kernel)) ggX6_fundUnits_X6_holds
theorem dX6_fundUnits_0 : decode cX6_fundUnits 0 = .ok (.aload_n 0, 1) := by decide +kernel
theorem dX6_fundUnits_1 : decode cX6_fundUnits 1 = .ok (.iload_n 1, 1) := by decide +kernel
theorem dX6_fundUnits_2 : decode cX6_fundUnits 2 = .ok (.invokestatic 141, 3) := by decide +kernel
theorem dX6_fundUnits_5 : decode cX6_fundUnits 5 = .ok (.ifCond .eq 7, 3) := by decide +kernel
theorem dX6_fundUnits_8 : decode cX6_fundUnits 8 = .ok (.iconst 0, 1) := by decide +kernel
theorem dX6_fundUnits_9 : decode cX6_fundUnits 9 = .ok (.goto 4, 3) := by decide +kernel
theorem dX6_fundUnits_12 : decode cX6_fundUnits 12 = .ok (.iconst 1, 1) := by decide +kernel
theorem dX6_fundUnits_13 : decode cX6_fundUnits 13 = .ok (.invokevirtual 134, 3) := by decide +kernel
theorem dX6_fundUnits_16 : decode cX6_fundUnits 16 = .ok (.ifCond .ne 5, 3) := by decide +kernel
theorem dX6_fundUnits_19 : decode cX6_fundUnits 19 = .ok (.lconst 0, 1) := by decide +kernel
theorem dX6_fundUnits_20 : decode cX6_fundUnits 20 = .ok (.lreturn, 1) := by decide +kernel
theorem dX6_fundUnits_21 : decode cX6_fundUnits 21 = .ok (.lconst 0, 1) := by decide +kernel
theorem dX6_fundUnits_22 : decode cX6_fundUnits 22 = .ok (.lstore_n 2, 1) := by decide +kernel
theorem dX6_fundUnits_23 : decode cX6_fundUnits 23 = .ok (.iconst 0, 1) := by decide +kernel
theorem dX6_fundUnits_24 : decode cX6_fundUnits 24 = .ok (.istore 4, 2) := by decide +kernel
theorem dX6_fundUnits_26 : decode cX6_fundUnits 26 = .ok (.iload 4, 2) := by decide +kernel
theorem dX6_fundUnits_28 : decode cX6_fundUnits 28 = .ok (.aload_n 0, 1) := by decide +kernel
theorem dX6_fundUnits_29 : decode cX6_fundUnits 29 = .ok (.getfield 59, 3) := by decide +kernel
theorem dX6_fundUnits_32 : decode cX6_fundUnits 32 = .ok (.if_icmp .ge 46, 3) := by decide +kernel
theorem dX6_fundUnits_35 : decode cX6_fundUnits 35 = .ok (.lload_n 2, 1) := by decide +kernel
theorem dX6_fundUnits_36 : decode cX6_fundUnits 36 = .ok (.aload_n 0, 1) := by decide +kernel
theorem dX6_fundUnits_37 : decode cX6_fundUnits 37 = .ok (.getfield 36, 3) := by decide +kernel
theorem dX6_fundUnits_40 : decode cX6_fundUnits 40 = .ok (.iconst 3, 1) := by decide +kernel
theorem dX6_fundUnits_41 : decode cX6_fundUnits 41 = .ok (.iload 4, 2) := by decide +kernel
theorem dX6_fundUnits_43 : decode cX6_fundUnits 43 = .ok (.imul, 1) := by decide +kernel
theorem dX6_fundUnits_44 : decode cX6_fundUnits 44 = .ok (.iload_n 1, 1) := by decide +kernel
theorem dX6_fundUnits_45 : decode cX6_fundUnits 45 = .ok (.iadd, 1) := by decide +kernel
theorem dX6_fundUnits_46 : decode cX6_fundUnits 46 = .ok (.laload, 1) := by decide +kernel
theorem dX6_fundUnits_47 : decode cX6_fundUnits 47 = .ok (.aload_n 0, 1) := by decide +kernel
theorem dX6_fundUnits_48 : decode cX6_fundUnits 48 = .ok (.getfield 22, 3) := by decide +kernel
theorem dX6_fundUnits_51 : decode cX6_fundUnits 51 = .ok (.iload 4, 2) := by decide +kernel
theorem dX6_fundUnits_53 : decode cX6_fundUnits 53 = .ok (.iaload, 1) := by decide +kernel
theorem dX6_fundUnits_54 : decode cX6_fundUnits 54 = .ok (.iload_n 1, 1) := by decide +kernel
theorem dX6_fundUnits_55 : decode cX6_fundUnits 55 = .ok (.if_icmp .ne 13, 3) := by decide +kernel
theorem dX6_fundUnits_58 : decode cX6_fundUnits 58 = .ok (.aload_n 0, 1) := by decide +kernel
theorem dX6_fundUnits_59 : decode cX6_fundUnits 59 = .ok (.getfield 32, 3) := by decide +kernel
theorem dX6_fundUnits_62 : decode cX6_fundUnits 62 = .ok (.iload 4, 2) := by decide +kernel
theorem dX6_fundUnits_64 : decode cX6_fundUnits 64 = .ok (.laload, 1) := by decide +kernel
theorem dX6_fundUnits_65 : decode cX6_fundUnits 65 = .ok (.goto 4, 3) := by decide +kernel
theorem dX6_fundUnits_68 : decode cX6_fundUnits 68 = .ok (.lconst 0, 1) := by decide +kernel
theorem dX6_fundUnits_69 : decode cX6_fundUnits 69 = .ok (.ladd, 1) := by decide +kernel
theorem dX6_fundUnits_70 : decode cX6_fundUnits 70 = .ok (.ladd, 1) := by decide +kernel
theorem dX6_fundUnits_71 : decode cX6_fundUnits 71 = .ok (.lstore_n 2, 1) := by decide +kernel
theorem dX6_fundUnits_72 : decode cX6_fundUnits 72 = .ok (.iinc 4 1, 3) := by decide +kernel
theorem dX6_fundUnits_75 : decode cX6_fundUnits 75 = .ok (.goto (-49), 3) := by decide +kernel
theorem dX6_fundUnits_78 : decode cX6_fundUnits 78 = .ok (.lload_n 2, 1) := by decide +kernel
theorem dX6_fundUnits_79 : decode cX6_fundUnits 79 = .ok (.lreturn, 1) := by decide +kernel
theorem dX6_charged_0 : decode cX6_charged 0 = .ok (.aload_n 0, 1) := by decide +kernel
theorem dX6_charged_1 : decode cX6_charged 1 = .ok (.iconst 0, 1) := by decide +kernel
theorem dX6_charged_2 : decode cX6_charged 2 = .ok (.putfield 51, 3) := by decide +kernel
theorem dX6_charged_5 : decode cX6_charged 5 = .ok (.aload_n 0, 1) := by decide +kernel
theorem dX6_charged_6 : decode cX6_charged 6 = .ok (.getfield 98, 3) := by decide +kernel
theorem dX6_charged_9 : decode cX6_charged 9 = .ok (.lreturn, 1) := by decide +kernel
theorem dX6_madeGood_0 : decode cX6_madeGood 0 = .ok (.aload_n 0, 1) := by decide +kernel
theorem dX6_madeGood_1 : decode cX6_madeGood 1 = .ok (.iconst 0, 1) := by decide +kernel
theorem dX6_madeGood_2 : decode cX6_madeGood 2 = .ok (.putfield 51, 3) := by decide +kernel
theorem dX6_madeGood_5 : decode cX6_madeGood 5 = .ok (.aload_n 0, 1) := by decide +kernel
theorem dX6_madeGood_6 : decode cX6_madeGood 6 = .ok (.getfield 152, 3) := by decide +kernel
theorem dX6_madeGood_9 : decode cX6_madeGood 9 = .ok (.lreturn, 1) := by decide +kernel
