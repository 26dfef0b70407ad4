theorem dX0_init_0 : decode cX0_init 0 = .ok (.aload_n 0, 1) := by decide +kernel
theorem dX0_init_1 : decode cX0_init 1 = .ok (.invokespecial 3, 3) := by decide +kernel
theorem dX0_init_4 : decode cX0_init 4 = .ok (.aload_n 0, 1) := by decide +kernel
theorem dX0_init_5 : decode cX0_init 5 = .ok (.iconst 3, 1) := by decide +kernel
theorem dX0_init_6 : decode cX0_init 6 = .ok (.newarray .long, 2) := by decide +kernel
theorem dX0_init_8 : decode cX0_init 8 = .ok (.putfield 9, 3) := by decide +kernel
theorem dX0_init_11 : decode cX0_init 11 = .ok (.aload_n 0, 1) := by decide +kernel
theorem dX0_init_12 : decode cX0_init 12 = .ok (.iconst 1, 1) := by decide +kernel
theorem dX0_init_13 : decode cX0_init 13 = .ok (.putfield 15, 3) := by decide +kernel
theorem dX0_init_16 : decode cX0_init 16 = .ok (.aload_n 0, 1) := by decide +kernel
theorem dX0_init_17 : decode cX0_init 17 = .ok (.iload_n 1, 1) := by decide +kernel
theorem dX0_init_18 : decode cX0_init 18 = .ok (.putfield 19, 3) := by decide +kernel
theorem dX0_init_21 : decode cX0_init 21 = .ok (.aload_n 0, 1) := by decide +kernel
theorem dX0_init_22 : decode cX0_init 22 = .ok (.iload_n 2, 1) := by decide +kernel
theorem dX0_init_23 : decode cX0_init 23 = .ok (.putfield 23, 3) := by decide +kernel
theorem dX0_init_26 : decode cX0_init 26 = .ok (.aload_n 0, 1) := by decide +kernel
theorem dX0_init_27 : decode cX0_init 27 = .ok (.iload_n 3, 1) := by decide +kernel
theorem dX0_init_28 : decode cX0_init 28 = .ok (.putfield 26, 3) := by decide +kernel
theorem dX0_init_31 : decode cX0_init 31 = .ok (.aload_n 0, 1) := by decide +kernel
theorem dX0_init_32 : decode cX0_init 32 = .ok (.iload 4, 2) := by decide +kernel
theorem dX0_init_34 : decode cX0_init 34 = .ok (.putfield 29, 3) := by decide +kernel
theorem dX0_init_37 : decode cX0_init 37 = .ok (.return_, 1) := by decide +kernel
theorem dX0_premiumMoney_0 : decode cX0_premiumMoney 0 = .ok (.aload_n 0, 1) := by decide +kernel
theorem dX0_premiumMoney_1 : decode cX0_premiumMoney 1 = .ok (.getfield 19, 3) := by decide +kernel
theorem dX0_premiumMoney_4 : decode cX0_premiumMoney 4 = .ok (.ireturn, 1) := by decide +kernel
theorem dX0_premiumFund_0 : decode cX0_premiumFund 0 = .ok (.aload_n 0, 1) := by decide +kernel
theorem dX0_premiumFund_1 : decode cX0_premiumFund 1 = .ok (.getfield 29, 3) := by decide +kernel
theorem dX0_premiumFund_4 : decode cX0_premiumFund 4 = .ok (.ireturn, 1) := by decide +kernel
theorem dX0_premiumsMade_0 : decode cX0_premiumsMade 0 = .ok (.aload_n 0, 1) := by decide +kernel
theorem dX0_premiumsMade_1 : decode cX0_premiumsMade 1 = .ok (.getfield 32, 3) := by decide +kernel
theorem dX0_premiumsMade_4 : decode cX0_premiumsMade 4 = .ok (.ireturn, 1) := by decide +kernel
theorem dX0_isAlive_0 : decode cX0_isAlive 0 = .ok (.aload_n 0, 1) := by decide +kernel
theorem dX0_isAlive_1 : decode cX0_isAlive 1 = .ok (.getfield 15, 3) := by decide +kernel
theorem dX0_isAlive_4 : decode cX0_isAlive 4 = .ok (.ireturn, 1) := by decide +kernel
theorem dX0_initialLeft_0 : decode cX0_initialLeft 0 = .ok (.aload_n 0, 1) := by decide +kernel
theorem dX0_initialLeft_1 : decode cX0_initialLeft 1 = .ok (.getfield 35, 3) := by decide +kernel
theorem dX0_initialLeft_4 : decode cX0_initialLeft 4 = .ok (.lreturn, 1) := by decide +kernel
set_option maxRecDepth 20000 in
theorem ggX0_accumulatedIn_X5_isFund : GoodIn wsX0_accumulatedIn wsX5_isFund := goodIn_r _ [4] (by decide +kernel) (by decide +kernel)
set_option maxRecDepth 20000 in
theorem gX0_accumulatedIn_X5_isFund_n39 : GoodIn wsX0_accumulatedIn (wsX5_isFund) := ggX0_accumulatedIn_X5_isFund
theorem dX0_accumulatedIn_0 : decode cX0_accumulatedIn 0 = .ok (.iload_n 1, 1) := by decide +kernel
theorem dX0_accumulatedIn_1 : decode cX0_accumulatedIn 1 = .ok (.invokestatic 39, 3) := by decide +kernel
theorem dX0_accumulatedIn_4 : decode cX0_accumulatedIn 4 = .ok (.ifCond .eq 12, 3) := by decide +kernel
theorem dX0_accumulatedIn_7 : decode cX0_accumulatedIn 7 = .ok (.aload_n 0, 1) := by decide +kernel
theorem dX0_accumulatedIn_8 : decode cX0_accumulatedIn 8 = .ok (.getfield 9, 3) := by decide +kernel
theorem dX0_accumulatedIn_11 : decode cX0_accumulatedIn 11 = .ok (.iload_n 1, 1) := by decide +kernel
theorem dX0_accumulatedIn_12 : decode cX0_accumulatedIn 12 = .ok (.laload, 1) := by decide +kernel
theorem dX0_accumulatedIn_13 : decode cX0_accumulatedIn 13 = .ok (.goto 4, 3) := by decide +kernel
theorem dX0_accumulatedIn_17 : decode cX0_accumulatedIn 17 = .ok (.lreturn, 1) := by decide +kernel
set_option maxRecDepth 20000 in
theorem ggX0_allUnitsIn_X0_accumulatedIn : GoodIn wsX0_allUnitsIn wsX0_accumulatedIn := goodIn_r _ [7, 8, 9, 10, 11, 12, 13, 14, 15, 16, 17, 18, 19] (by decide +kernel) (by decide +kernel)
set_option maxRecDepth 20000 in
theorem gX0_allUnitsIn_X0_accumulatedIn : GoodIn wsX0_allUnitsIn (wsV RX0 43 RX0 yX0_accumulatedIn wsX0_accumulatedIn) := goodIn_app (goodIn_of _ (by decide +kernel)) ggX0_allUnitsIn_X0_accumulatedIn
theorem dX0_allUnitsIn_0 : decode cX0_allUnitsIn 0 = .ok (.aload_n 0, 1) := by decide +kernel
theorem dX0_allUnitsIn_1 : decode cX0_allUnitsIn 1 = .ok (.iload_n 1, 1) := by decide +kernel
theorem dX0_allUnitsIn_2 : decode cX0_allUnitsIn 2 = .ok (.invokevirtual 43, 3) := by decide +kernel
theorem dX0_allUnitsIn_5 : decode cX0_allUnitsIn 5 = .ok (.iload_n 1, 1) := by decide +kernel
theorem dX0_allUnitsIn_6 : decode cX0_allUnitsIn 6 = .ok (.aload_n 0, 1) := by decide +kernel
theorem dX0_allUnitsIn_7 : decode cX0_allUnitsIn 7 = .ok (.getfield 29, 3) := by decide +kernel
theorem dX0_allUnitsIn_10 : decode cX0_allUnitsIn 10 = .ok (.if_icmp .ne 10, 3) := by decide +kernel
theorem dX0_allUnitsIn_13 : decode cX0_allUnitsIn 13 = .ok (.aload_n 0, 1) := by decide +kernel
theorem dX0_allUnitsIn_14 : decode cX0_allUnitsIn 14 = .ok (.getfield 35, 3) := by decide +kernel
theorem dX0_allUnitsIn_17 : decode cX0_allUnitsIn 17 = .ok (.goto 4, 3) := by decide +kernel
theorem dX0_allUnitsIn_20 : decode cX0_allUnitsIn 20 = .ok (.lconst 0, 1) := by decide +kernel
theorem dX0_allUnitsIn_21 : decode cX0_allUnitsIn 21 = .ok (.ladd, 1) := by decide +kernel
theorem dX0_allUnitsIn_22 : decode cX0_allUnitsIn 22 = .ok (.lreturn, 1) := by decide +kernel
set_option maxRecDepth 20000 in
theorem ggX0_worthAt_X3_bidNow : GoodIn wsX0_worthAt wsX3_bidNow := goodIn_r _ [8, 9, 10, 11, 12, 7, 13, 14, 15, 16, 17, 29, 30] (by decide +kernel) (by decide +kernel)
set_option maxRecDepth 20000 in
theorem gX0_worthAt_X3_bidNow : GoodIn wsX0_worthAt (wsV RX0 47 RX3 yX3_bidNow wsX3_bidNow) := goodIn_app (goodIn_of _ (by decide +kernel)) ggX0_worthAt_X3_bidNow
set_option maxRecDepth 20000 in
theorem ggX0_worthAt_X5_moneyFor : GoodIn wsX0_worthAt wsX5_moneyFor := goodIn_r _ [19, 20] (by decide +kernel) (by decide +kernel)
set_option maxRecDepth 20000 in
theorem gX0_worthAt_X5_moneyFor_n53 : GoodIn wsX0_worthAt (wsX5_moneyFor) := ggX0_worthAt_X5_moneyFor
theorem dX0_worthAt_0 : decode cX0_worthAt 0 = .ok (.aload_n 0, 1) := by decide +kernel
theorem dX0_worthAt_1 : decode cX0_worthAt 1 = .ok (.getfield 35, 3) := by decide +kernel
theorem dX0_worthAt_4 : decode cX0_worthAt 4 = .ok (.aload_n 1, 1) := by decide +kernel
theorem dX0_worthAt_5 : decode cX0_worthAt 5 = .ok (.aload_n 0, 1) := by decide +kernel
theorem dX0_worthAt_6 : decode cX0_worthAt 6 = .ok (.getfield 29, 3) := by decide +kernel
theorem dX0_worthAt_9 : decode cX0_worthAt 9 = .ok (.invokevirtual 47, 3) := by decide +kernel
theorem dX0_worthAt_12 : decode cX0_worthAt 12 = .ok (.i2l, 1) := by decide +kernel
theorem dX0_worthAt_13 : decode cX0_worthAt 13 = .ok (.invokestatic 53, 3) := by decide +kernel
theorem dX0_worthAt_16 : decode cX0_worthAt 16 = .ok (.lstore_n 2, 1) := by decide +kernel
theorem dX0_worthAt_17 : decode cX0_worthAt 17 = .ok (.iconst 0, 1) := by decide +kernel
theorem dX0_worthAt_18 : decode cX0_worthAt 18 = .ok (.istore 4, 2) := by decide +kernel
theorem dX0_worthAt_20 : decode cX0_worthAt 20 = .ok (.iload 4, 2) := by decide +kernel
theorem dX0_worthAt_22 : decode cX0_worthAt 22 = .ok (.aload_n 0, 1) := by decide +kernel
theorem dX0_worthAt_23 : decode cX0_worthAt 23 = .ok (.getfield 9, 3) := by decide +kernel
theorem dX0_worthAt_26 : decode cX0_worthAt 26 = .ok (.arraylength, 1) := by decide +kernel
theorem dX0_worthAt_27 : decode cX0_worthAt 27 = .ok (.if_icmp .ge 29, 3) := by decide +kernel
theorem dX0_worthAt_30 : decode cX0_worthAt 30 = .ok (.lload_n 2, 1) := by decide +kernel
theorem dX0_worthAt_31 : decode cX0_worthAt 31 = .ok (.aload_n 0, 1) := by decide +kernel
theorem dX0_worthAt_32 : decode cX0_worthAt 32 = .ok (.getfield 9, 3) := by decide +kernel
theorem dX0_worthAt_35 : decode cX0_worthAt 35 = .ok (.iload 4, 2) := by decide +kernel
theorem dX0_worthAt_37 : decode cX0_worthAt 37 = .ok (.laload, 1) := by decide +kernel
theorem dX0_worthAt_38 : decode cX0_worthAt 38 = .ok (.aload_n 1, 1) := by decide +kernel
theorem dX0_worthAt_39 : decode cX0_worthAt 39 = .ok (.iload 4, 2) := by decide +kernel
theorem dX0_worthAt_41 : decode cX0_worthAt 41 = .ok (.invokevirtual 47, 3) := by decide +kernel
theorem dX0_worthAt_44 : decode cX0_worthAt 44 = .ok (.i2l, 1) := by decide +kernel
theorem dX0_worthAt_45 : decode cX0_worthAt 45 = .ok (.invokestatic 53, 3) := by decide +kernel
theorem dX0_worthAt_48 : decode cX0_worthAt 48 = .ok (.ladd, 1) := by decide +kernel
theorem dX0_worthAt_49 : decode cX0_worthAt 49 = .ok (.lstore_n 2, 1) := by decide +kernel
theorem dX0_worthAt_50 : decode cX0_worthAt 50 = .ok (.iinc 4 1, 3) := by decide +kernel
theorem dX0_worthAt_53 : decode cX0_worthAt 53 = .ok (.goto (-33), 3) := by decide +kernel
theorem dX0_worthAt_56 : decode cX0_worthAt 56 = .ok (.lload_n 2, 1) := by decide +kernel
theorem dX0_worthAt_57 : decode cX0_worthAt 57 = .ok (.lreturn, 1) := by decide +kernel
set_option maxRecDepth 20000 in
theorem ggX0_addUnits_X5_isFund : GoodIn wsX0_addUnits wsX5_isFund := goodIn_r _ [9] (by decide +kernel) (by decide +kernel)
set_option maxRecDepth 20000 in
theorem gX0_addUnits_X5_isFund_n39 : GoodIn wsX0_addUnits (wsX5_isFund) := ggX0_addUnits_X5_isFund
theorem dX0_addUnits_0 : decode cX0_addUnits 0 = .ok (.iload_n 1, 1) := by decide +kernel
theorem dX0_addUnits_1 : decode cX0_addUnits 1 = .ok (.invokestatic 39, 3) := by decide +kernel
theorem dX0_addUnits_4 : decode cX0_addUnits 4 = .ok (.ifCond .eq 23, 3) := by decide +kernel
theorem dX0_addUnits_7 : decode cX0_addUnits 7 = .ok (.aload_n 0, 1) := by decide +kernel
theorem dX0_addUnits_8 : decode cX0_addUnits 8 = .ok (.getfield 9, 3) := by decide +kernel
theorem dX0_addUnits_11 : decode cX0_addUnits 11 = .ok (.iload_n 1, 1) := by decide +kernel
theorem dX0_addUnits_12 : decode cX0_addUnits 12 = .ok (.ldc2_w 57, 3) := by decide +kernel
theorem dX0_addUnits_15 : decode cX0_addUnits 15 = .ok (.aload_n 0, 1) := by decide +kernel
theorem dX0_addUnits_16 : decode cX0_addUnits 16 = .ok (.getfield 9, 3) := by decide +kernel
theorem dX0_addUnits_19 : decode cX0_addUnits 19 = .ok (.iload_n 1, 1) := by decide +kernel
theorem dX0_addUnits_20 : decode cX0_addUnits 20 = .ok (.laload, 1) := by decide +kernel
theorem dX0_addUnits_21 : decode cX0_addUnits 21 = .ok (.lload_n 2, 1) := by decide +kernel
theorem dX0_addUnits_22 : decode cX0_addUnits 22 = .ok (.ladd, 1) := by decide +kernel
theorem dX0_addUnits_23 : decode cX0_addUnits 23 = .ok (.invokestatic 59, 3) := by decide +kernel
theorem dX0_addUnits_26 : decode cX0_addUnits 26 = .ok (.lastore, 1) := by decide +kernel
theorem dX0_addUnits_27 : decode cX0_addUnits 27 = .ok (.return_, 1) := by decide +kernel
set_option maxRecDepth 20000 in
theorem ggX0_buyPremium_X3_offerNow : GoodIn wsX0_buyPremium wsX3_offerNow := goodIn_r _ [9, 10, 11, 12, 13, 8, 14, 15, 16, 17, 18, 19, 20, 21, 22, 45, 46] (by decide +kernel) (by decide +kernel)
set_option maxRecDepth 20000 in
theorem gX0_buyPremium_X3_offerNow : GoodIn wsX0_buyPremium (wsV RX0 64 RX3 yX3_offerNow wsX3_offerNow) := goodIn_app (goodIn_of _ (by decide +kernel)) ggX0_buyPremium_X3_offerNow
set_option maxRecDepth 20000 in
theorem ggX0_buyPremium_X5_unitsFor : GoodIn wsX0_buyPremium wsX5_unitsFor := goodIn_r _ [24, 25] (by decide +kernel) (by decide +kernel)
set_option maxRecDepth 20000 in
theorem gX0_buyPremium_X5_unitsFor_n67 : GoodIn wsX0_buyPremium (wsX5_unitsFor) := ggX0_buyPremium_X5_unitsFor
set_option maxRecDepth 20000 in
theorem ggX0_buyPremium_X0_addUnits : GoodIn wsX0_buyPremium wsX0_addUnits := goodIn_r _ [30, 31, 32, 33, 34, 35, 36, 20, 21, 22, 37, 38, 39, 40, 41, 42, 43, 44] (by decide +kernel) (by decide +kernel)
set_option maxRecDepth 20000 in
theorem gX0_buyPremium_X0_addUnits : GoodIn wsX0_buyPremium (wsV RX0 70 RX0 yX0_addUnits wsX0_addUnits) := goodIn_app (goodIn_of _ (by decide +kernel)) ggX0_buyPremium_X0_addUnits
theorem dX0_buyPremium_0 : decode cX0_buyPremium 0 = .ok (.aload_n 0, 1) := by decide +kernel
theorem dX0_buyPremium_1 : decode cX0_buyPremium 1 = .ok (.getfield 19, 3) := by decide +kernel
theorem dX0_buyPremium_4 : decode cX0_buyPremium 4 = .ok (.i2l, 1) := by decide +kernel
theorem dX0_buyPremium_5 : decode cX0_buyPremium 5 = .ok (.aload_n 1, 1) := by decide +kernel
theorem dX0_buyPremium_6 : decode cX0_buyPremium 6 = .ok (.aload_n 0, 1) := by decide +kernel
theorem dX0_buyPremium_7 : decode cX0_buyPremium 7 = .ok (.getfield 29, 3) := by decide +kernel
theorem dX0_buyPremium_10 : decode cX0_buyPremium 10 = .ok (.invokevirtual 64, 3) := by decide +kernel
theorem dX0_buyPremium_13 : decode cX0_buyPremium 13 = .ok (.i2l, 1) := by decide +kernel
theorem dX0_buyPremium_14 : decode cX0_buyPremium 14 = .ok (.invokestatic 67, 3) := by decide +kernel
theorem dX0_buyPremium_17 : decode cX0_buyPremium 17 = .ok (.lstore_n 2, 1) := by decide +kernel
theorem dX0_buyPremium_18 : decode cX0_buyPremium 18 = .ok (.aload_n 0, 1) := by decide +kernel
theorem dX0_buyPremium_19 : decode cX0_buyPremium 19 = .ok (.getfield 32, 3) := by decide +kernel
theorem dX0_buyPremium_22 : decode cX0_buyPremium 22 = .ok (.bipush 12, 2) := by decide +kernel
theorem dX0_buyPremium_24 : decode cX0_buyPremium 24 = .ok (.if_icmp .ge 16, 3) := by decide +kernel
theorem dX0_buyPremium_27 : decode cX0_buyPremium 27 = .ok (.aload_n 0, 1) := by decide +kernel
theorem dX0_buyPremium_28 : decode cX0_buyPremium 28 = .ok (.dup, 1) := by decide +kernel
theorem dX0_buyPremium_29 : decode cX0_buyPremium 29 = .ok (.getfield 35, 3) := by decide +kernel
theorem dX0_buyPremium_32 : decode cX0_buyPremium 32 = .ok (.lload_n 2, 1) := by decide +kernel
theorem dX0_buyPremium_33 : decode cX0_buyPremium 33 = .ok (.ladd, 1) := by decide +kernel
theorem dX0_buyPremium_34 : decode cX0_buyPremium 34 = .ok (.putfield 35, 3) := by decide +kernel
theorem dX0_buyPremium_37 : decode cX0_buyPremium 37 = .ok (.goto 12, 3) := by decide +kernel
theorem dX0_buyPremium_40 : decode cX0_buyPremium 40 = .ok (.aload_n 0, 1) := by decide +kernel
theorem dX0_buyPremium_41 : decode cX0_buyPremium 41 = .ok (.aload_n 0, 1) := by decide +kernel
theorem dX0_buyPremium_42 : decode cX0_buyPremium 42 = .ok (.getfield 29, 3) := by decide +kernel
theorem dX0_buyPremium_45 : decode cX0_buyPremium 45 = .ok (.lload_n 2, 1) := by decide +kernel
theorem dX0_buyPremium_46 : decode cX0_buyPremium 46 = .ok (.invokevirtual 70, 3) := by decide +kernel
theorem dX0_buyPremium_49 : decode cX0_buyPremium 49 = .ok (.aload_n 0, 1) := by decide +kernel
theorem dX0_buyPremium_50 : decode cX0_buyPremium 50 = .ok (.dup, 1) := by decide +kernel
theorem dX0_buyPremium_51 : decode cX0_buyPremium 51 = .ok (.getfield 32, 3) := by decide +kernel
theorem dX0_buyPremium_54 : decode cX0_buyPremium 54 = .ok (.iconst 1, 1) := by decide +kernel
theorem dX0_buyPremium_55 : decode cX0_buyPremium 55 = .ok (.iadd, 1) := by decide +kernel
theorem dX0_buyPremium_56 : decode cX0_buyPremium 56 = .ok (.putfield 32, 3) := by decide +kernel
theorem dX0_buyPremium_59 : decode cX0_buyPremium 59 = .ok (.return_, 1) := by decide +kernel
set_option maxRecDepth 20000 in
theorem ggX0_switchUnits_X5_isFund : GoodIn wsX0_switchUnits wsX5_isFund := goodIn_r _ [5] (by decide +kernel) (by decide +kernel)
set_option maxRecDepth 20000 in
theorem gX0_switchUnits_X5_isFund_n39 : GoodIn wsX0_switchUnits (wsX5_isFund) := ggX0_switchUnits_X5_isFund
set_option maxRecDepth 20000 in
theorem ggX0_switchUnits_X3_bidNow : GoodIn wsX0_switchUnits wsX3_bidNow := goodIn_r _ [10, 11, 12, 13, 14, 9, 15, 16, 3, 4, 5, 40, 41] (by decide +kernel) (by decide +kernel)
set_option maxRecDepth 20000 in
theorem gX0_switchUnits_X3_bidNow : GoodIn wsX0_switchUnits (wsV RX0 47 RX3 yX3_bidNow wsX3_bidNow) := goodIn_app (goodIn_of _ (by decide +kernel)) ggX0_switchUnits_X3_bidNow
set_option maxRecDepth 20000 in
theorem ggX0_switchUnits_X5_moneyFor : GoodIn wsX0_switchUnits wsX5_moneyFor := goodIn_r _ [18, 19] (by decide +kernel) (by decide +kernel)
set_option maxRecDepth 20000 in
theorem gX0_switchUnits_X5_moneyFor_n53 : GoodIn wsX0_switchUnits (wsX5_moneyFor) := ggX0_switchUnits_X5_moneyFor
set_option maxRecDepth 20000 in
theorem ggX0_switchUnits_X5_unitsFor : GoodIn wsX0_switchUnits wsX5_unitsFor := goodIn_r _ [21, 19] (by decide +kernel) (by decide +kernel)
set_option maxRecDepth 20000 in
theorem gX0_switchUnits_X5_unitsFor_n67 : GoodIn wsX0_switchUnits (wsX5_unitsFor) := ggX0_switchUnits_X5_unitsFor
set_option maxRecDepth 20000 in
theorem ggX0_switchUnits_X0_addUnits : GoodIn wsX0_switchUnits wsX0_addUnits := goodIn_r _ [26, 1, 27, 28, 29, 30, 31, 3, 4, 5, 32, 33, 34, 35, 36, 37, 38, 39] (by decide +kernel) (by decide +kernel)
set_option maxRecDepth 20000 in
theorem gX0_switchUnits_X0_addUnits : GoodIn wsX0_switchUnits (wsV RX0 70 RX0 yX0_addUnits wsX0_addUnits) := goodIn_app (goodIn_of _ (by decide +kernel)) ggX0_switchUnits_X0_addUnits
theorem dX0_switchUnits_0 : decode cX0_switchUnits 0 = .ok (.iload_n 2, 1) := by decide +kernel
theorem dX0_switchUnits_1 : decode cX0_switchUnits 1 = .ok (.invokestatic 39, 3) := by decide +kernel
theorem dX0_switchUnits_4 : decode cX0_switchUnits 4 = .ok (.ifCond .eq 55, 3) := by decide +kernel
theorem dX0_switchUnits_7 : decode cX0_switchUnits 7 = .ok (.aload_n 0, 1) := by decide +kernel
theorem dX0_switchUnits_8 : decode cX0_switchUnits 8 = .ok (.getfield 9, 3) := by decide +kernel
theorem dX0_switchUnits_11 : decode cX0_switchUnits 11 = .ok (.iload_n 2, 1) := by decide +kernel
theorem dX0_switchUnits_12 : decode cX0_switchUnits 12 = .ok (.laload, 1) := by decide +kernel
theorem dX0_switchUnits_13 : decode cX0_switchUnits 13 = .ok (.iload 4, 2) := by decide +kernel
theorem dX0_switchUnits_15 : decode cX0_switchUnits 15 = .ok (.i2l, 1) := by decide +kernel
theorem dX0_switchUnits_16 : decode cX0_switchUnits 16 = .ok (.lmul, 1) := by decide +kernel
theorem dX0_switchUnits_17 : decode cX0_switchUnits 17 = .ok (.ldc2_w 74, 3) := by decide +kernel
theorem dX0_switchUnits_20 : decode cX0_switchUnits 20 = .ok (.ldiv, 1) := by decide +kernel
theorem dX0_switchUnits_21 : decode cX0_switchUnits 21 = .ok (.lstore 5, 2) := by decide +kernel
theorem dX0_switchUnits_23 : decode cX0_switchUnits 23 = .ok (.aload_n 0, 1) := by decide +kernel
theorem dX0_switchUnits_24 : decode cX0_switchUnits 24 = .ok (.getfield 9, 3) := by decide +kernel
theorem dX0_switchUnits_27 : decode cX0_switchUnits 27 = .ok (.iload_n 2, 1) := by decide +kernel
theorem dX0_switchUnits_28 : decode cX0_switchUnits 28 = .ok (.dup2, 1) := by decide +kernel
theorem dX0_switchUnits_29 : decode cX0_switchUnits 29 = .ok (.laload, 1) := by decide +kernel
theorem dX0_switchUnits_30 : decode cX0_switchUnits 30 = .ok (.lload 5, 2) := by decide +kernel
theorem dX0_switchUnits_32 : decode cX0_switchUnits 32 = .ok (.lsub, 1) := by decide +kernel
theorem dX0_switchUnits_33 : decode cX0_switchUnits 33 = .ok (.lastore, 1) := by decide +kernel
theorem dX0_switchUnits_34 : decode cX0_switchUnits 34 = .ok (.aload_n 0, 1) := by decide +kernel
theorem dX0_switchUnits_35 : decode cX0_switchUnits 35 = .ok (.iload_n 3, 1) := by decide +kernel
theorem dX0_switchUnits_36 : decode cX0_switchUnits 36 = .ok (.lload 5, 2) := by decide +kernel
theorem dX0_switchUnits_38 : decode cX0_switchUnits 38 = .ok (.aload_n 1, 1) := by decide +kernel
theorem dX0_switchUnits_39 : decode cX0_switchUnits 39 = .ok (.iload_n 2, 1) := by decide +kernel
theorem dX0_switchUnits_40 : decode cX0_switchUnits 40 = .ok (.invokevirtual 47, 3) := by decide +kernel
theorem dX0_switchUnits_43 : decode cX0_switchUnits 43 = .ok (.i2l, 1) := by decide +kernel
theorem dX0_switchUnits_44 : decode cX0_switchUnits 44 = .ok (.invokestatic 53, 3) := by decide +kernel
theorem dX0_switchUnits_47 : decode cX0_switchUnits 47 = .ok (.aload_n 1, 1) := by decide +kernel
theorem dX0_switchUnits_48 : decode cX0_switchUnits 48 = .ok (.iload_n 3, 1) := by decide +kernel
theorem dX0_switchUnits_49 : decode cX0_switchUnits 49 = .ok (.invokevirtual 47, 3) := by decide +kernel
theorem dX0_switchUnits_52 : decode cX0_switchUnits 52 = .ok (.i2l, 1) := by decide +kernel
theorem dX0_switchUnits_53 : decode cX0_switchUnits 53 = .ok (.invokestatic 67, 3) := by decide +kernel
theorem dX0_switchUnits_56 : decode cX0_switchUnits 56 = .ok (.invokevirtual 70, 3) := by decide +kernel
theorem dX0_switchUnits_59 : decode cX0_switchUnits 59 = .ok (.return_, 1) := by decide +kernel
set_option maxRecDepth 20000 in
theorem ggX0_ageInitial_X0_addUnits : GoodIn wsX0_ageInitial wsX0_addUnits := goodIn_r _ [11, 12, 13, 14, 15, 16, 17, 18, 19, 20, 21, 22, 23, 24, 25, 26, 27, 28] (by decide +kernel) (by decide +kernel)
set_option maxRecDepth 20000 in
theorem gX0_ageInitial_X0_addUnits : GoodIn wsX0_ageInitial (wsV RX0 70 RX0 yX0_addUnits wsX0_addUnits) := goodIn_app (goodIn_of _ (by decide +kernel)) ggX0_ageInitial_X0_addUnits
theorem dX0_ageInitial_0 : decode cX0_ageInitial 0 = .ok (.aload_n 0, 1) := by decide +kernel
theorem dX0_ageInitial_1 : decode cX0_ageInitial 1 = .ok (.aload_n 0, 1) := by decide +kernel
theorem dX0_ageInitial_2 : decode cX0_ageInitial 2 = .ok (.getfield 35, 3) := by decide +kernel
theorem dX0_ageInitial_5 : decode cX0_ageInitial 5 = .ok (.ldc2_w 76, 3) := by decide +kernel
theorem dX0_ageInitial_8 : decode cX0_ageInitial 8 = .ok (.lmul, 1) := by decide +kernel
theorem dX0_ageInitial_9 : decode cX0_ageInitial 9 = .ok (.ldc2_w 74, 3) := by decide +kernel
theorem dX0_ageInitial_12 : decode cX0_ageInitial 12 = .ok (.ldiv, 1) := by decide +kernel
theorem dX0_ageInitial_13 : decode cX0_ageInitial 13 = .ok (.putfield 35, 3) := by decide +kernel
theorem dX0_ageInitial_16 : decode cX0_ageInitial 16 = .ok (.iload_n 1, 1) := by decide +kernel
theorem dX0_ageInitial_17 : decode cX0_ageInitial 17 = .ok (.sipush 720, 3) := by decide +kernel
theorem dX0_ageInitial_20 : decode cX0_ageInitial 20 = .ok (.if_icmp .lt 28, 3) := by decide +kernel
theorem dX0_ageInitial_23 : decode cX0_ageInitial 23 = .ok (.aload_n 0, 1) := by decide +kernel
theorem dX0_ageInitial_24 : decode cX0_ageInitial 24 = .ok (.aload_n 0, 1) := by decide +kernel
theorem dX0_ageInitial_25 : decode cX0_ageInitial 25 = .ok (.getfield 29, 3) := by decide +kernel
theorem dX0_ageInitial_28 : decode cX0_ageInitial 28 = .ok (.aload_n 0, 1) := by decide +kernel
theorem dX0_ageInitial_29 : decode cX0_ageInitial 29 = .ok (.getfield 35, 3) := by decide +kernel
theorem dX0_ageInitial_32 : decode cX0_ageInitial 32 = .ok (.ldc2_w 78, 3) := by decide +kernel
theorem dX0_ageInitial_35 : decode cX0_ageInitial 35 = .ok (.lmul, 1) := by decide +kernel
theorem dX0_ageInitial_36 : decode cX0_ageInitial 36 = .ok (.ldc2_w 80, 3) := by decide +kernel
theorem dX0_ageInitial_39 : decode cX0_ageInitial 39 = .ok (.ldiv, 1) := by decide +kernel
theorem dX0_ageInitial_40 : decode cX0_ageInitial 40 = .ok (.invokevirtual 70, 3) := by decide +kernel
theorem dX0_ageInitial_43 : decode cX0_ageInitial 43 = .ok (.aload_n 0, 1) := by decide +kernel
theorem dX0_ageInitial_44 : decode cX0_ageInitial 44 = .ok (.lconst 0, 1) := by decide +kernel
theorem dX0_ageInitial_45 : decode cX0_ageInitial 45 = .ok (.putfield 35, 3) := by decide +kernel
theorem dX0_ageInitial_48 : decode cX0_ageInitial 48 = .ok (.return_, 1) := by decide +kernel
set_option maxRecDepth 20000 in
theorem ggX0_takeCharge_X0_worthAt : GoodIn wsX0_takeCharge wsX0_worthAt := goodIn_r _ [13, 14, 15, 16, 17, 18, 19, 20, 21, 22, 23, 24, 25, 26, 27, 28, 29, 30, 31, 32, 33, 47, 48, 49, 50, 51, 52, 53, 54, 55, 56] (by decide +kernel) (by decide +kernel)
set_option maxRecDepth 20000 in
theorem gX0_takeCharge_X0_worthAt : GoodIn wsX0_takeCharge (wsV RX0 82 RX0 yX0_worthAt wsX0_worthAt) := goodIn_app (goodIn_of _ (by decide +kernel)) ggX0_takeCharge_X0_worthAt
set_option maxRecDepth 20000 in
theorem ggX0_takeCharge_X3_bidNow : GoodIn wsX0_takeCharge wsX3_bidNow := goodIn_r _ [21, 22, 23, 24, 25, 20, 26, 27, 28, 29, 30, 55, 56] (by decide +kernel) (by decide +kernel)
set_option maxRecDepth 20000 in
theorem gX0_takeCharge_X3_bidNow : GoodIn wsX0_takeCharge (wsV RX0 47 RX3 yX3_bidNow wsX3_bidNow) := goodIn_app (goodIn_of _ (by decide +kernel)) ggX0_takeCharge_X3_bidNow
set_option maxRecDepth 20000 in
theorem ggX0_takeCharge_X0_sellFor : GoodIn wsX0_takeCharge wsX0_sellFor := goodIn_r _ [37, 38, 16, 39, 40, 4, 41, 28, 29, 30, 31, 32, 33, 47, 48, 49, 50, 51, 52, 53, 54] (by decide +kernel) (by decide +kernel)
set_option maxRecDepth 20000 in
theorem gX0_takeCharge_X0_sellFor : GoodIn wsX0_takeCharge (wsV RX0 93 RX0 yX0_sellFor wsX0_sellFor) := goodIn_app (goodIn_of _ (by decide +kernel)) ggX0_takeCharge_X0_sellFor
set_option maxRecDepth 20000 in
theorem ggX0_takeCharge_X0_lapse : GoodIn wsX0_takeCharge wsX0_lapse := goodIn_r _ [45, 46, 14, 16, 47, 48, 49, 50, 51, 52, 53, 54] (by decide +kernel) (by decide +kernel)
set_option maxRecDepth 20000 in
theorem gX0_takeCharge_X0_lapse : GoodIn wsX0_takeCharge (wsV RX0 97 RX0 yX0_lapse wsX0_lapse) := goodIn_app (goodIn_of _ (by decide +kernel)) ggX0_takeCharge_X0_lapse
theorem dX0_takeCharge_0 : decode cX0_takeCharge 0 = .ok (.lconst 0, 1) := by decide +kernel
theorem dX0_takeCharge_1 : decode cX0_takeCharge 1 = .ok (.aload_n 0, 1) := by decide +kernel
theorem dX0_takeCharge_2 : decode cX0_takeCharge 2 = .ok (.getfield 23, 3) := by decide +kernel
theorem dX0_takeCharge_5 : decode cX0_takeCharge 5 = .ok (.i2l, 1) := by decide +kernel
theorem dX0_takeCharge_6 : decode cX0_takeCharge 6 = .ok (.aload_n 0, 1) := by decide +kernel
theorem dX0_takeCharge_7 : decode cX0_takeCharge 7 = .ok (.aload_n 1, 1) := by decide +kernel
theorem dX0_takeCharge_8 : decode cX0_takeCharge 8 = .ok (.invokevirtual 82, 3) := by decide +kernel
theorem dX0_takeCharge_11 : decode cX0_takeCharge 11 = .ok (.lsub, 1) := by decide +kernel
theorem dX0_takeCharge_12 : decode cX0_takeCharge 12 = .ok (.invokestatic 86, 3) := by decide +kernel
theorem dX0_takeCharge_15 : decode cX0_takeCharge 15 = .ok (.lstore_n 2, 1) := by decide +kernel
theorem dX0_takeCharge_16 : decode cX0_takeCharge 16 = .ok (.ldc2_w 89, 3) := by decide +kernel
theorem dX0_takeCharge_19 : decode cX0_takeCharge 19 = .ok (.lload_n 2, 1) := by decide +kernel
theorem dX0_takeCharge_20 : decode cX0_takeCharge 20 = .ok (.aload_n 0, 1) := by decide +kernel
theorem dX0_takeCharge_21 : decode cX0_takeCharge 21 = .ok (.getfield 26, 3) := by decide +kernel
theorem dX0_takeCharge_24 : decode cX0_takeCharge 24 = .ok (.i2l, 1) := by decide +kernel
theorem dX0_takeCharge_25 : decode cX0_takeCharge 25 = .ok (.lmul, 1) := by decide +kernel
theorem dX0_takeCharge_26 : decode cX0_takeCharge 26 = .ok (.ldc2_w 91, 3) := by decide +kernel
theorem dX0_takeCharge_29 : decode cX0_takeCharge 29 = .ok (.ldiv, 1) := by decide +kernel
theorem dX0_takeCharge_30 : decode cX0_takeCharge 30 = .ok (.ladd, 1) := by decide +kernel
theorem dX0_takeCharge_31 : decode cX0_takeCharge 31 = .ok (.lstore 4, 2) := by decide +kernel
theorem dX0_takeCharge_33 : decode cX0_takeCharge 33 = .ok (.lload 4, 2) := by decide +kernel
theorem dX0_takeCharge_35 : decode cX0_takeCharge 35 = .ok (.lstore 6, 2) := by decide +kernel
theorem dX0_takeCharge_37 : decode cX0_takeCharge 37 = .ok (.iconst 0, 1) := by decide +kernel
theorem dX0_takeCharge_38 : decode cX0_takeCharge 38 = .ok (.istore 8, 2) := by decide +kernel
theorem dX0_takeCharge_40 : decode cX0_takeCharge 40 = .ok (.iload 8, 2) := by decide +kernel
theorem dX0_takeCharge_42 : decode cX0_takeCharge 42 = .ok (.iconst 3, 1) := by decide +kernel
theorem dX0_takeCharge_43 : decode cX0_takeCharge 43 = .ok (.if_icmp .ge 29, 3) := by decide +kernel
theorem dX0_takeCharge_46 : decode cX0_takeCharge 46 = .ok (.lload 6, 2) := by decide +kernel
theorem dX0_takeCharge_48 : decode cX0_takeCharge 48 = .ok (.aload_n 0, 1) := by decide +kernel
theorem dX0_takeCharge_49 : decode cX0_takeCharge 49 = .ok (.lload 6, 2) := by decide +kernel
theorem dX0_takeCharge_51 : decode cX0_takeCharge 51 = .ok (.iload 8, 2) := by decide +kernel
theorem dX0_takeCharge_53 : decode cX0_takeCharge 53 = .ok (.aload_n 1, 1) := by decide +kernel
theorem dX0_takeCharge_54 : decode cX0_takeCharge 54 = .ok (.iload 8, 2) := by decide +kernel
theorem dX0_takeCharge_56 : decode cX0_takeCharge 56 = .ok (.invokevirtual 47, 3) := by decide +kernel
theorem dX0_takeCharge_59 : decode cX0_takeCharge 59 = .ok (.i2l, 1) := by decide +kernel
theorem dX0_takeCharge_60 : decode cX0_takeCharge 60 = .ok (.invokevirtual 93, 3) := by decide +kernel
theorem dX0_takeCharge_63 : decode cX0_takeCharge 63 = .ok (.lsub, 1) := by decide +kernel
theorem dX0_takeCharge_64 : decode cX0_takeCharge 64 = .ok (.lstore 6, 2) := by decide +kernel
theorem dX0_takeCharge_66 : decode cX0_takeCharge 66 = .ok (.iinc 8 1, 3) := by decide +kernel
theorem dX0_takeCharge_69 : decode cX0_takeCharge 69 = .ok (.goto (-29), 3) := by decide +kernel
theorem dX0_takeCharge_72 : decode cX0_takeCharge 72 = .ok (.lload 6, 2) := by decide +kernel
theorem dX0_takeCharge_74 : decode cX0_takeCharge 74 = .ok (.lconst 0, 1) := by decide +kernel
theorem dX0_takeCharge_75 : decode cX0_takeCharge 75 = .ok (.lcmp, 1) := by decide +kernel
theorem dX0_takeCharge_76 : decode cX0_takeCharge 76 = .ok (.ifCond .le 7, 3) := by decide +kernel
theorem dX0_takeCharge_79 : decode cX0_takeCharge 79 = .ok (.aload_n 0, 1) := by decide +kernel
theorem dX0_takeCharge_80 : decode cX0_takeCharge 80 = .ok (.invokevirtual 97, 3) := by decide +kernel
theorem dX0_takeCharge_83 : decode cX0_takeCharge 83 = .ok (.lload 4, 2) := by decide +kernel
theorem dX0_takeCharge_85 : decode cX0_takeCharge 85 = .ok (.lload 6, 2) := by decide +kernel
theorem dX0_takeCharge_87 : decode cX0_takeCharge 87 = .ok (.lsub, 1) := by decide +kernel
theorem dX0_takeCharge_88 : decode cX0_takeCharge 88 = .ok (.lreturn, 1) := by decide +kernel
set_option maxRecDepth 20000 in
theorem ggX0_sellFor_X5_isFund : GoodIn wsX0_sellFor wsX5_isFund := goodIn_r _ [9] (by decide +kernel) (by decide +kernel)
set_option maxRecDepth 20000 in
theorem gX0_sellFor_X5_isFund_n39 : GoodIn wsX0_sellFor (wsX5_isFund) := ggX0_sellFor_X5_isFund
set_option maxRecDepth 20000 in
theorem ggX0_sellFor_X5_moneyFor : GoodIn wsX0_sellFor wsX5_moneyFor := goodIn_r _ [11, 12] (by decide +kernel) (by decide +kernel)
set_option maxRecDepth 20000 in
theorem gX0_sellFor_X5_moneyFor_n53 : GoodIn wsX0_sellFor (wsX5_moneyFor) := ggX0_sellFor_X5_moneyFor
theorem dX0_sellFor_0 : decode cX0_sellFor 0 = .ok (.lload 4, 2) := by decide +kernel
theorem dX0_sellFor_2 : decode cX0_sellFor 2 = .ok (.lconst 1, 1) := by decide +kernel
theorem dX0_sellFor_3 : decode cX0_sellFor 3 = .ok (.lcmp, 1) := by decide +kernel
theorem dX0_sellFor_4 : decode cX0_sellFor 4 = .ok (.ifCond .lt 10, 3) := by decide +kernel
theorem dX0_sellFor_7 : decode cX0_sellFor 7 = .ok (.iload_n 3, 1) := by decide +kernel
theorem dX0_sellFor_8 : decode cX0_sellFor 8 = .ok (.invokestatic 39, 3) := by decide +kernel
theorem dX0_sellFor_11 : decode cX0_sellFor 11 = .ok (.ifCond .ne 5, 3) := by decide +kernel
theorem dX0_sellFor_16 : decode cX0_sellFor 16 = .ok (.lload_n 1, 1) := by decide +kernel
theorem dX0_sellFor_17 : decode cX0_sellFor 17 = .ok (.ldc2_w 100, 3) := by decide +kernel
theorem dX0_sellFor_20 : decode cX0_sellFor 20 = .ok (.lmul, 1) := by decide +kernel
theorem dX0_sellFor_21 : decode cX0_sellFor 21 = .ok (.lload 4, 2) := by decide +kernel
theorem dX0_sellFor_23 : decode cX0_sellFor 23 = .ok (.ladd, 1) := by decide +kernel
theorem dX0_sellFor_24 : decode cX0_sellFor 24 = .ok (.lconst 1, 1) := by decide +kernel
theorem dX0_sellFor_25 : decode cX0_sellFor 25 = .ok (.lsub, 1) := by decide +kernel
theorem dX0_sellFor_26 : decode cX0_sellFor 26 = .ok (.lload 4, 2) := by decide +kernel
theorem dX0_sellFor_28 : decode cX0_sellFor 28 = .ok (.ldiv, 1) := by decide +kernel
theorem dX0_sellFor_29 : decode cX0_sellFor 29 = .ok (.lstore 6, 2) := by decide +kernel
theorem dX0_sellFor_31 : decode cX0_sellFor 31 = .ok (.lload 6, 2) := by decide +kernel
theorem dX0_sellFor_33 : decode cX0_sellFor 33 = .ok (.aload_n 0, 1) := by decide +kernel
theorem dX0_sellFor_34 : decode cX0_sellFor 34 = .ok (.getfield 9, 3) := by decide +kernel
theorem dX0_sellFor_37 : decode cX0_sellFor 37 = .ok (.iload_n 3, 1) := by decide +kernel
theorem dX0_sellFor_38 : decode cX0_sellFor 38 = .ok (.laload, 1) := by decide +kernel
theorem dX0_sellFor_39 : decode cX0_sellFor 39 = .ok (.invokestatic 59, 3) := by decide +kernel
theorem dX0_sellFor_42 : decode cX0_sellFor 42 = .ok (.lstore 8, 2) := by decide +kernel
theorem dX0_sellFor_44 : decode cX0_sellFor 44 = .ok (.aload_n 0, 1) := by decide +kernel
theorem dX0_sellFor_45 : decode cX0_sellFor 45 = .ok (.getfield 9, 3) := by decide +kernel
theorem dX0_sellFor_48 : decode cX0_sellFor 48 = .ok (.iload_n 3, 1) := by decide +kernel
theorem dX0_sellFor_49 : decode cX0_sellFor 49 = .ok (.dup2, 1) := by decide +kernel
theorem dX0_sellFor_50 : decode cX0_sellFor 50 = .ok (.laload, 1) := by decide +kernel
theorem dX0_sellFor_51 : decode cX0_sellFor 51 = .ok (.lload 8, 2) := by decide +kernel
theorem dX0_sellFor_53 : decode cX0_sellFor 53 = .ok (.lsub, 1) := by decide +kernel
theorem dX0_sellFor_54 : decode cX0_sellFor 54 = .ok (.lastore, 1) := by decide +kernel
theorem dX0_sellFor_55 : decode cX0_sellFor 55 = .ok (.lload_n 1, 1) := by decide +kernel
theorem dX0_sellFor_56 : decode cX0_sellFor 56 = .ok (.lload 8, 2) := by decide +kernel
theorem dX0_sellFor_58 : decode cX0_sellFor 58 = .ok (.lload 4, 2) := by decide +kernel
theorem dX0_sellFor_60 : decode cX0_sellFor 60 = .ok (.invokestatic 53, 3) := by decide +kernel
theorem dX0_sellFor_63 : decode cX0_sellFor 63 = .ok (.invokestatic 59, 3) := by decide +kernel
theorem dX0_sellFor_66 : decode cX0_sellFor 66 = .ok (.lreturn, 1) := by decide +kernel
theorem dX0_lapse_0 : decode cX0_lapse 0 = .ok (.aload_n 0, 1) := by decide +kernel
theorem dX0_lapse_1 : decode cX0_lapse 1 = .ok (.iconst 0, 1) := by decide +kernel
theorem dX0_lapse_2 : decode cX0_lapse 2 = .ok (.putfield 15, 3) := by decide +kernel
theorem dX0_lapse_5 : decode cX0_lapse 5 = .ok (.aload_n 0, 1) := by decide +kernel
theorem dX0_lapse_6 : decode cX0_lapse 6 = .ok (.lconst 0, 1) := by decide +kernel
theorem dX0_lapse_7 : decode cX0_lapse 7 = .ok (.putfield 35, 3) := by decide +kernel
theorem dX0_lapse_10 : decode cX0_lapse 10 = .ok (.iconst 0, 1) := by decide +kernel
theorem dX0_lapse_11 : decode cX0_lapse 11 = .ok (.istore_n 1, 1) := by decide +kernel
theorem dX0_lapse_12 : decode cX0_lapse 12 = .ok (.iload_n 1, 1) := by decide +kernel
theorem dX0_lapse_13 : decode cX0_lapse 13 = .ok (.aload_n 0, 1) := by decide +kernel
theorem dX0_lapse_14 : decode cX0_lapse 14 = .ok (.getfield 9, 3) := by decide +kernel
theorem dX0_lapse_17 : decode cX0_lapse 17 = .ok (.arraylength, 1) := by decide +kernel
theorem dX0_lapse_18 : decode cX0_lapse 18 = .ok (.if_icmp .ge 16, 3) := by decide +kernel
theorem dX0_lapse_21 : decode cX0_lapse 21 = .ok (.aload_n 0, 1) := by decide +kernel
theorem dX0_lapse_22 : decode cX0_lapse 22 = .ok (.getfield 9, 3) := by decide +kernel
theorem dX0_lapse_25 : decode cX0_lapse 25 = .ok (.iload_n 1, 1) := by decide +kernel
theorem dX0_lapse_26 : decode cX0_lapse 26 = .ok (.lconst 0, 1) := by decide +kernel
theorem dX0_lapse_27 : decode cX0_lapse 27 = .ok (.lastore, 1) := by decide +kernel
theorem dX0_lapse_28 : decode cX0_lapse 28 = .ok (.iinc 1 1, 3) := by decide +kernel
theorem dX0_lapse_31 : decode cX0_lapse 31 = .ok (.goto (-19), 3) := by decide +kernel
theorem dX0_lapse_34 : decode cX0_lapse 34 = .ok (.return_, 1) := by decide +kernel
theorem dX1_init_0 : decode cX1_init 0 = .ok (.aload_n 0, 1) := by decide +kernel
theorem dX1_init_1 : decode cX1_init 1 = .ok (.invokespecial 1, 3) := by decide +kernel
theorem dX1_init_4 : decode cX1_init 4 = .ok (.return_, 1) := by decide +kernel
set_option maxRecDepth 20000 in
theorem ggX2_init_X1_init : GoodIn wsX2_init wsX1_init := goodIn_r _ [5, 6, 7, 8] (by decide +kernel) (by decide +kernel)
set_option maxRecDepth 20000 in
theorem gX2_init_X1_init : GoodIn wsX2_init (wsX1_init) := ggX2_init_X1_init
theorem dX2_init_0 : decode cX2_init 0 = .ok (.aload_n 0, 1) := by decide +kernel
theorem dX2_init_1 : decode cX2_init 1 = .ok (.invokespecial 1, 3) := by decide +kernel
theorem dX2_init_4 : decode cX2_init 4 = .ok (.aload_n 0, 1) := by decide +kernel
theorem dX2_init_5 : decode cX2_init 5 = .ok (.aload_n 1, 1) := by decide +kernel
theorem dX2_init_6 : decode cX2_init 6 = .ok (.putfield 7, 3) := by decide +kernel
theorem dX2_init_9 : decode cX2_init 9 = .ok (.return_, 1) := by decide +kernel
set_option maxRecDepth 20000 in
theorem ggX2_carryOut_X0_buyPremium : GoodIn wsX2_carryOut wsX0_buyPremium := goodIn_r _ [6, 7, 8, 9, 10, 11, 12, 13, 14, 15, 16, 17, 18, 19, 20, 21, 22, 23, 24, 25, 26, 27, 28, 29, 30, 31, 32, 33, 34, 5, 35, 36, 37, 38, 39, 40, 41, 43, 44, 45, 46, 47, 48, 49, 50, 51, 52] (by decide +kernel) (by decide +kernel)
set_option maxRecDepth 20000 in
theorem gX2_carryOut_X0_buyPremium : GoodIn wsX2_carryOut (wsV RX2 13 RX0 yX0_buyPremium wsX0_buyPremium) := goodIn_app (goodIn_of _ (by decide +kernel)) ggX2_carryOut_X0_buyPremium
theorem dX2_carryOut_0 : decode cX2_carryOut 0 = .ok (.aload_n 0, 1) := by decide +kernel
theorem dX2_carryOut_1 : decode cX2_carryOut 1 = .ok (.getfield 7, 3) := by decide +kernel
theorem dX2_carryOut_4 : decode cX2_carryOut 4 = .ok (.aload_n 1, 1) := by decide +kernel
theorem dX2_carryOut_5 : decode cX2_carryOut 5 = .ok (.invokevirtual 13, 3) := by decide +kernel
theorem dX2_carryOut_8 : decode cX2_carryOut 8 = .ok (.return_, 1) := by decide +kernel
theorem dX3_init_0 : decode cX3_init 0 = .ok (.aload_n 0, 1) := by decide +kernel
theorem dX3_init_1 : decode cX3_init 1 = .ok (.invokespecial 3, 3) := by decide +kernel
theorem dX3_init_4 : decode cX3_init 4 = .ok (.aload_n 0, 1) := by decide +kernel
theorem dX3_init_5 : decode cX3_init 5 = .ok (.sipush 6003, 3) := by decide +kernel
theorem dX3_init_8 : decode cX3_init 8 = .ok (.newarray .int, 2) := by decide +kernel
theorem dX3_init_10 : decode cX3_init 10 = .ok (.putfield 9, 3) := by decide +kernel
theorem dX3_init_13 : decode cX3_init 13 = .ok (.iconst 0, 1) := by decide +kernel
theorem dX3_init_14 : decode cX3_init 14 = .ok (.istore_n 1, 1) := by decide +kernel
theorem dX3_init_15 : decode cX3_init 15 = .ok (.iload_n 1, 1) := by decide +kernel
theorem dX3_init_16 : decode cX3_init 16 = .ok (.iconst 3, 1) := by decide +kernel
theorem dX3_init_17 : decode cX3_init 17 = .ok (.if_icmp .ge 18, 3) := by decide +kernel
theorem dX3_init_20 : decode cX3_init 20 = .ok (.aload_n 0, 1) := by decide +kernel
theorem dX3_init_21 : decode cX3_init 21 = .ok (.getfield 9, 3) := by decide +kernel
theorem dX3_init_24 : decode cX3_init 24 = .ok (.iload_n 1, 1) := by decide +kernel
theorem dX3_init_25 : decode cX3_init 25 = .ok (.sipush 1000, 3) := by decide +kernel
theorem dX3_init_28 : decode cX3_init 28 = .ok (.iastore, 1) := by decide +kernel
theorem dX3_init_29 : decode cX3_init 29 = .ok (.iinc 1 1, 3) := by decide +kernel
theorem dX3_init_32 : decode cX3_init 32 = .ok (.goto (-17), 3) := by decide +kernel
theorem dX3_init_35 : decode cX3_init 35 = .ok (.return_, 1) := by decide +kernel
theorem dX3_latestDay_0 : decode cX3_latestDay 0 = .ok (.aload_n 0, 1) := by decide +kernel
theorem dX3_latestDay_1 : decode cX3_latestDay 1 = .ok (.getfield 15, 3) := by decide +kernel
theorem dX3_latestDay_4 : decode cX3_latestDay 4 = .ok (.ireturn, 1) := by decide +kernel
theorem dX3_addDay_0 : decode cX3_addDay 0 = .ok (.aload_n 0, 1) := by decide +kernel
theorem dX3_addDay_1 : decode cX3_addDay 1 = .ok (.getfield 15, 3) := by decide +kernel
theorem dX3_addDay_4 : decode cX3_addDay 4 = .ok (.ifCond .lt 63, 3) := by decide +kernel
theorem dX3_addDay_7 : decode cX3_addDay 7 = .ok (.aload_n 0, 1) := by decide +kernel
theorem dX3_addDay_8 : decode cX3_addDay 8 = .ok (.getfield 15, 3) := by decide +kernel
theorem dX3_addDay_11 : decode cX3_addDay 11 = .ok (.sipush 2000, 3) := by decide +kernel
theorem dX3_addDay_14 : decode cX3_addDay 14 = .ok (.if_icmp .ge 53, 3) := by decide +kernel
theorem dX3_addDay_17 : decode cX3_addDay 17 = .ok (.aload_n 0, 1) := by decide +kernel
theorem dX3_addDay_18 : decode cX3_addDay 18 = .ok (.dup, 1) := by decide +kernel
theorem dX3_addDay_19 : decode cX3_addDay 19 = .ok (.getfield 15, 3) := by decide +kernel
theorem dX3_addDay_22 : decode cX3_addDay 22 = .ok (.iconst 1, 1) := by decide +kernel
theorem dX3_addDay_23 : decode cX3_addDay 23 = .ok (.iadd, 1) := by decide +kernel
theorem dX3_addDay_24 : decode cX3_addDay 24 = .ok (.putfield 15, 3) := by decide +kernel
theorem dX3_addDay_27 : decode cX3_addDay 27 = .ok (.aload_n 0, 1) := by decide +kernel
theorem dX3_addDay_28 : decode cX3_addDay 28 = .ok (.getfield 9, 3) := by decide +kernel
theorem dX3_addDay_31 : decode cX3_addDay 31 = .ok (.aload_n 0, 1) := by decide +kernel
theorem dX3_addDay_32 : decode cX3_addDay 32 = .ok (.getfield 15, 3) := by decide +kernel
theorem dX3_addDay_35 : decode cX3_addDay 35 = .ok (.iconst 3, 1) := by decide +kernel
theorem dX3_addDay_36 : decode cX3_addDay 36 = .ok (.imul, 1) := by decide +kernel
theorem dX3_addDay_37 : decode cX3_addDay 37 = .ok (.iload_n 1, 1) := by decide +kernel
theorem dX3_addDay_38 : decode cX3_addDay 38 = .ok (.iastore, 1) := by decide +kernel
theorem dX3_addDay_39 : decode cX3_addDay 39 = .ok (.aload_n 0, 1) := by decide +kernel
theorem dX3_addDay_40 : decode cX3_addDay 40 = .ok (.getfield 9, 3) := by decide +kernel
theorem dX3_addDay_43 : decode cX3_addDay 43 = .ok (.aload_n 0, 1) := by decide +kernel
theorem dX3_addDay_44 : decode cX3_addDay 44 = .ok (.getfield 15, 3) := by decide +kernel
theorem dX3_addDay_47 : decode cX3_addDay 47 = .ok (.iconst 3, 1) := by decide +kernel
theorem dX3_addDay_48 : decode cX3_addDay 48 = .ok (.imul, 1) := by decide +kernel
theorem dX3_addDay_49 : decode cX3_addDay 49 = .ok (.iconst 1, 1) := by decide +kernel
theorem dX3_addDay_50 : decode cX3_addDay 50 = .ok (.iadd, 1) := by decide +kernel
theorem dX3_addDay_51 : decode cX3_addDay 51 = .ok (.iload_n 2, 1) := by decide +kernel
theorem dX3_addDay_52 : decode cX3_addDay 52 = .ok (.iastore, 1) := by decide +kernel
theorem dX3_addDay_53 : decode cX3_addDay 53 = .ok (.aload_n 0, 1) := by decide +kernel
theorem dX3_addDay_54 : decode cX3_addDay 54 = .ok (.getfield 9, 3) := by decide +kernel
theorem dX3_addDay_57 : decode cX3_addDay 57 = .ok (.aload_n 0, 1) := by decide +kernel
theorem dX3_addDay_58 : decode cX3_addDay 58 = .ok (.getfield 15, 3) := by decide +kernel
theorem dX3_addDay_61 : decode cX3_addDay 61 = .ok (.iconst 3, 1) := by decide +kernel
theorem dX3_addDay_62 : decode cX3_addDay 62 = .ok (.imul, 1) := by decide +kernel
theorem dX3_addDay_63 : decode cX3_addDay 63 = .ok (.iconst 2, 1) := by decide +kernel
theorem dX3_addDay_64 : decode cX3_addDay 64 = .ok (.iadd, 1) := by decide +kernel
theorem dX3_addDay_65 : decode cX3_addDay 65 = .ok (.iload_n 3, 1) := by decide +kernel
theorem dX3_addDay_66 : decode cX3_addDay 66 = .ok (.iastore, 1) := by decide +kernel
theorem dX3_addDay_67 : decode cX3_addDay 67 = .ok (.return_, 1) := by decide +kernel
set_option maxRecDepth 20000 in
theorem ggX3_bidOn_X5_isFund : GoodIn wsX3_bidOn wsX5_isFund := goodIn_r _ [4] (by decide +kernel) (by decide +kernel)
set_option maxRecDepth 20000 in
theorem gX3_bidOn_X5_isFund_n19 : GoodIn wsX3_bidOn (wsX5_isFund) := ggX3_bidOn_X5_isFund
theorem dX3_bidOn_0 : decode cX3_bidOn 0 = .ok (.iload_n 1, 1) := by decide +kernel
theorem dX3_bidOn_1 : decode cX3_bidOn 1 = .ok (.invokestatic 19, 3) := by decide +kernel
theorem dX3_bidOn_4 : decode cX3_bidOn 4 = .ok (.ifCond .eq 27, 3) := by decide +kernel
theorem dX3_bidOn_7 : decode cX3_bidOn 7 = .ok (.iload_n 2, 1) := by decide +kernel
theorem dX3_bidOn_8 : decode cX3_bidOn 8 = .ok (.ifCond .lt 23, 3) := by decide +kernel
theorem dX3_bidOn_11 : decode cX3_bidOn 11 = .ok (.iload_n 2, 1) := by decide +kernel
theorem dX3_bidOn_12 : decode cX3_bidOn 12 = .ok (.sipush 2000, 3) := by decide +kernel
theorem dX3_bidOn_15 : decode cX3_bidOn 15 = .ok (.if_icmp .gt 16, 3) := by decide +kernel
theorem dX3_bidOn_18 : decode cX3_bidOn 18 = .ok (.aload_n 0, 1) := by decide +kernel
theorem dX3_bidOn_19 : decode cX3_bidOn 19 = .ok (.getfield 9, 3) := by decide +kernel
theorem dX3_bidOn_22 : decode cX3_bidOn 22 = .ok (.iload_n 2, 1) := by decide +kernel
theorem dX3_bidOn_23 : decode cX3_bidOn 23 = .ok (.iconst 3, 1) := by decide +kernel
theorem dX3_bidOn_24 : decode cX3_bidOn 24 = .ok (.imul, 1) := by decide +kernel
theorem dX3_bidOn_25 : decode cX3_bidOn 25 = .ok (.iload_n 1, 1) := by decide +kernel
theorem dX3_bidOn_26 : decode cX3_bidOn 26 = .ok (.iadd, 1) := by decide +kernel
theorem dX3_bidOn_27 : decode cX3_bidOn 27 = .ok (.iaload, 1) := by decide +kernel
theorem dX3_bidOn_28 : decode cX3_bidOn 28 = .ok (.goto 4, 3) := by decide +kernel
theorem dX3_bidOn_32 : decode cX3_bidOn 32 = .ok (.ireturn, 1) := by decide +kernel
set_option maxRecDepth 20000 in
theorem ggX3_bidNow_X3_bidOn : GoodIn wsX3_bidNow wsX3_bidOn := goodIn_r _ [6, 7, 8, 9, 10, 11, 12] (by decide +kernel) (by decide +kernel)
set_option maxRecDepth 20000 in
theorem gX3_bidNow_X3_bidOn : GoodIn wsX3_bidNow (wsV RX3 23 RX3 yX3_bidOn wsX3_bidOn) := goodIn_app (goodIn_of _ (by decide +kernel)) ggX3_bidNow_X3_bidOn
theorem dX3_bidNow_0 : decode cX3_bidNow 0 = .ok (.aload_n 0, 1) := by decide +kernel
theorem dX3_bidNow_1 : decode cX3_bidNow 1 = .ok (.iload_n 1, 1) := by decide +kernel
theorem dX3_bidNow_2 : decode cX3_bidNow 2 = .ok (.aload_n 0, 1) := by decide +kernel
theorem dX3_bidNow_3 : decode cX3_bidNow 3 = .ok (.getfield 15, 3) := by decide +kernel
theorem dX3_bidNow_6 : decode cX3_bidNow 6 = .ok (.invokevirtual 23, 3) := by decide +kernel
theorem dX3_bidNow_9 : decode cX3_bidNow 9 = .ok (.ireturn, 1) := by decide +kernel
set_option maxRecDepth 20000 in
theorem ggX3_offerOn_X3_bidOn : GoodIn wsX3_offerOn wsX3_bidOn := goodIn_r _ [5, 6, 7, 8, 9, 10, 11] (by decide +kernel) (by decide +kernel)
set_option maxRecDepth 20000 in
theorem gX3_offerOn_X3_bidOn : GoodIn wsX3_offerOn (wsV RX3 23 RX3 yX3_bidOn wsX3_bidOn) := goodIn_app (goodIn_of _ (by decide +kernel)) ggX3_offerOn_X3_bidOn
theorem dX3_offerOn_0 : decode cX3_offerOn 0 = .ok (.aload_n 0, 1) := by decide +kernel
theorem dX3_offerOn_1 : decode cX3_offerOn 1 = .ok (.iload_n 1, 1) := by decide +kernel
theorem dX3_offerOn_2 : decode cX3_offerOn 2 = .ok (.iload_n 2, 1) := by decide +kernel
theorem dX3_offerOn_3 : decode cX3_offerOn 3 = .ok (.invokevirtual 23, 3) := by decide +kernel
theorem dX3_offerOn_6 : decode cX3_offerOn 6 = .ok (.bipush 105, 2) := by decide +kernel
theorem dX3_offerOn_8 : decode cX3_offerOn 8 = .ok (.imul, 1) := by decide +kernel
theorem dX3_offerOn_9 : decode cX3_offerOn 9 = .ok (.bipush 100, 2) := by decide +kernel
theorem dX3_offerOn_11 : decode cX3_offerOn 11 = .ok (.idiv, 1) := by decide +kernel
theorem dX3_offerOn_12 : decode cX3_offerOn 12 = .ok (.ireturn, 1) := by decide +kernel
set_option maxRecDepth 20000 in
theorem ggX3_offerNow_X3_offerOn : GoodIn wsX3_offerNow wsX3_offerOn := goodIn_r _ [6, 7, 8, 9, 5, 10, 11, 12, 13, 14, 15, 16] (by decide +kernel) (by decide +kernel)
set_option maxRecDepth 20000 in
theorem gX3_offerNow_X3_offerOn : GoodIn wsX3_offerNow (wsV RX3 27 RX3 yX3_offerOn wsX3_offerOn) := goodIn_app (goodIn_of _ (by decide +kernel)) ggX3_offerNow_X3_offerOn
theorem dX3_offerNow_0 : decode cX3_offerNow 0 = .ok (.aload_n 0, 1) := by decide +kernel
theorem dX3_offerNow_1 : decode cX3_offerNow 1 = .ok (.iload_n 1, 1) := by decide +kernel
theorem dX3_offerNow_2 : decode cX3_offerNow 2 = .ok (.aload_n 0, 1) := by decide +kernel
theorem dX3_offerNow_3 : decode cX3_offerNow 3 = .ok (.getfield 15, 3) := by decide +kernel
theorem dX3_offerNow_6 : decode cX3_offerNow 6 = .ok (.invokevirtual 27, 3) := by decide +kernel
theorem dX3_offerNow_9 : decode cX3_offerNow 9 = .ok (.ireturn, 1) := by decide +kernel
set_option maxRecDepth 20000 in
theorem ggX4_init_X1_init : GoodIn wsX4_init wsX1_init := goodIn_r _ [8, 9, 10, 11] (by decide +kernel) (by decide +kernel)
set_option maxRecDepth 20000 in
theorem gX4_init_X1_init : GoodIn wsX4_init (wsX1_init) := ggX4_init_X1_init
theorem dX4_init_0 : decode cX4_init 0 = .ok (.aload_n 0, 1) := by decide +kernel
theorem dX4_init_1 : decode cX4_init 1 = .ok (.invokespecial 1, 3) := by decide +kernel
theorem dX4_init_4 : decode cX4_init 4 = .ok (.aload_n 0, 1) := by decide +kernel
theorem dX4_init_5 : decode cX4_init 5 = .ok (.aload_n 1, 1) := by decide +kernel
theorem dX4_init_6 : decode cX4_init 6 = .ok (.putfield 7, 3) := by decide +kernel
theorem dX4_init_9 : decode cX4_init 9 = .ok (.aload_n 0, 1) := by decide +kernel
theorem dX4_init_10 : decode cX4_init 10 = .ok (.iload_n 2, 1) := by decide +kernel
theorem dX4_init_11 : decode cX4_init 11 = .ok (.putfield 13, 3) := by decide +kernel
theorem dX4_init_14 : decode cX4_init 14 = .ok (.aload_n 0, 1) := by decide +kernel
theorem dX4_init_15 : decode cX4_init 15 = .ok (.iload_n 3, 1) := by decide +kernel
theorem dX4_init_16 : decode cX4_init 16 = .ok (.putfield 17, 3) := by decide +kernel
theorem dX4_init_19 : decode cX4_init 19 = .ok (.aload_n 0, 1) := by decide +kernel
theorem dX4_init_20 : decode cX4_init 20 = .ok (.iload 4, 2) := by decide +kernel
theorem dX4_init_22 : decode cX4_init 22 = .ok (.putfield 20, 3) := by decide +kernel
theorem dX4_init_25 : decode cX4_init 25 = .ok (.return_, 1) := by decide +kernel
set_option maxRecDepth 20000 in
theorem ggX4_carryOut_X0_switchUnits : GoodIn wsX4_carryOut wsX0_switchUnits := goodIn_r _ [9, 10, 11, 12, 13, 14, 15, 16, 17, 18, 19, 20, 21, 22, 23, 24, 25, 26, 27, 28, 29, 30, 31, 32, 33, 8, 34, 35, 36, 37, 38, 39, 44, 45, 46, 47, 48, 49, 50, 51, 52, 53] (by decide +kernel) (by decide +kernel)
set_option maxRecDepth 20000 in
theorem gX4_carryOut_X0_switchUnits : GoodIn wsX4_carryOut (wsV RX4 23 RX0 yX0_switchUnits wsX0_switchUnits) := goodIn_app (goodIn_of _ (by decide +kernel)) ggX4_carryOut_X0_switchUnits
theorem dX4_carryOut_0 : decode cX4_carryOut 0 = .ok (.aload_n 0, 1) := by decide +kernel
theorem dX4_carryOut_1 : decode cX4_carryOut 1 = .ok (.getfield 7, 3) := by decide +kernel
theorem dX4_carryOut_4 : decode cX4_carryOut 4 = .ok (.aload_n 1, 1) := by decide +kernel
theorem dX4_carryOut_5 : decode cX4_carryOut 5 = .ok (.aload_n 0, 1) := by decide +kernel
theorem dX4_carryOut_6 : decode cX4_carryOut 6 = .ok (.getfield 13, 3) := by decide +kernel
theorem dX4_carryOut_9 : decode cX4_carryOut 9 = .ok (.aload_n 0, 1) := by decide +kernel
theorem dX4_carryOut_10 : decode cX4_carryOut 10 = .ok (.getfield 17, 3) := by decide +kernel
theorem dX4_carryOut_13 : decode cX4_carryOut 13 = .ok (.aload_n 0, 1) := by decide +kernel
theorem dX4_carryOut_14 : decode cX4_carryOut 14 = .ok (.getfield 20, 3) := by decide +kernel
theorem dX4_carryOut_17 : decode cX4_carryOut 17 = .ok (.invokevirtual 23, 3) := by decide +kernel
theorem dX4_carryOut_20 : decode cX4_carryOut 20 = .ok (.return_, 1) := by decide +kernel
set_option maxRecDepth 20000 in
theorem ggX5_init_X3_init : GoodIn wsX5_init wsX3_init := goodIn_r _ [15, 16, 2, 3, 17, 18, 34, 35] (by decide +kernel) (by decide +kernel)
set_option maxRecDepth 20000 in
theorem gX5_init_X3_init : GoodIn wsX5_init (wsX3_init) := ggX5_init_X3_init
set_option maxRecDepth 20000 in
theorem ggX5_init_Jx4a65c_init_da8c8 : GoodIn wsX5_init wsJx4a65c_init_da8c8 := goodIn_r _ [21, 22, 23, 24, 25, 26, 27, 28, 29, 30, 31, 32, 33, 2, 3, 41, 42, 43] (by decide +kernel) (by decide +kernel)
set_option maxRecDepth 20000 in
theorem gX5_init_Jx4a65c_init_da8c8 : GoodIn wsX5_init (wsJx4a65c_init_da8c8) := ggX5_init_Jx4a65c_init_da8c8
theorem dX5_init_0 : decode cX5_init 0 = .ok (.aload_n 0, 1) := by decide +kernel
theorem dX5_init_1 : decode cX5_init 1 = .ok (.invokespecial 1, 3) := by decide +kernel
theorem dX5_init_4 : decode cX5_init 4 = .ok (.aload_n 0, 1) := by decide +kernel
theorem dX5_init_5 : decode cX5_init 5 = .ok (.new 7, 3) := by decide +kernel
theorem dX5_init_8 : decode cX5_init 8 = .ok (.dup, 1) := by decide +kernel
theorem dX5_init_9 : decode cX5_init 9 = .ok (.invokespecial 9, 3) := by decide +kernel
theorem dX5_init_12 : decode cX5_init 12 = .ok (.putfield 10, 3) := by decide +kernel
theorem dX5_init_15 : decode cX5_init 15 = .ok (.aload_n 0, 1) := by decide +kernel
theorem dX5_init_16 : decode cX5_init 16 = .ok (.new 16, 3) := by decide +kernel
theorem dX5_init_19 : decode cX5_init 19 = .ok (.dup, 1) := by decide +kernel
theorem dX5_init_20 : decode cX5_init 20 = .ok (.invokespecial 18, 3) := by decide +kernel
theorem dX5_init_23 : decode cX5_init 23 = .ok (.putfield 19, 3) := by decide +kernel
theorem dX5_init_26 : decode cX5_init 26 = .ok (.aload_n 0, 1) := by decide +kernel
theorem dX5_init_27 : decode cX5_init 27 = .ok (.new 16, 3) := by decide +kernel
theorem dX5_init_30 : decode cX5_init 30 = .ok (.dup, 1) := by decide +kernel
theorem dX5_init_31 : decode cX5_init 31 = .ok (.invokespecial 18, 3) := by decide +kernel
theorem dX5_init_34 : decode cX5_init 34 = .ok (.putfield 23, 3) := by decide +kernel
theorem dX5_init_37 : decode cX5_init 37 = .ok (.return_, 1) := by decide +kernel
set_option maxRecDepth 20000 in
theorem ggX5_tell_X5_isBid : GoodIn wsX5_tell wsX5_isBid := goodIn_r _ [9, 10] (by decide +kernel) (by decide +kernel)
set_option maxRecDepth 20000 in
theorem gX5_tell_X5_isBid : GoodIn wsX5_tell (va_wsS RX5 26 yX5_isBid wsX5_isBid) := goodIn_app (goodIn_of _ (by decide +kernel)) ggX5_tell_X5_isBid
set_option maxRecDepth 20000 in
theorem ggX5_tell_X3_latestDay : GoodIn wsX5_tell wsX3_latestDay := goodIn_r _ [15, 16, 167, 168] (by decide +kernel) (by decide +kernel)
set_option maxRecDepth 20000 in
theorem gX5_tell_X3_latestDay : GoodIn wsX5_tell (wsV RX5 37 RX3 yX3_latestDay wsX3_latestDay) := goodIn_app (goodIn_of _ (by decide +kernel)) ggX5_tell_X3_latestDay
set_option maxRecDepth 20000 in
theorem ggX5_tell_X5_beginDay : GoodIn wsX5_tell wsX5_beginDay := goodIn_r _ [20, 5, 21, 22, 23, 24, 25, 14, 26, 16, 27, 28, 29, 30, 31, 32, 33, 34, 35, 36, 37, 38, 39, 40, 41, 42, 43, 44, 45, 46, 47, 48, 49, 50, 51, 52, 53, 54, 55, 56, 57, 58, 59, 60, 61, 62, 63, 64, 65, 66, 67, 68, 69, 70, 71, 72, 73, 74, 75, 76, 77, 78, 79, 8, 80, 81, 82, 83, 84, 85, 86, 87, 88, 89, 90, 91, 92, 93, 94, 95, 96, 97, 98, 99, 100, 101, 102, 103, 104, 105, 106, 107, 108, 109, 110, 111, 112, 113, 114, 115, 116, 117, 118, 11, 12, 13, 15, 119, 120, 121, 122, 123, 124, 125, 126, 127, 128, 129, 130, 131, 132, 133, 134, 135, 136, 137, 138, 139, 140, 141, 142, 143, 144, 145, 146, 147, 148, 149, 150, 151, 152, 153, 154, 155, 156, 157, 158, 159, 160, 161, 162, 163, 164, 165, 166, 167, 168, 169, 170, 171, 172, 173, 174, 175, 176, 177, 178, 179, 180, 181, 182, 183, 184] (by decide +kernel) (by decide +kernel)
set_option maxRecDepth 20000 in
theorem gX5_tell_X5_beginDay : GoodIn wsX5_tell (wsV RX5 46 RX5 yX5_beginDay wsX5_beginDay) := goodIn_app (goodIn_of _ (by decide +kernel)) ggX5_tell_X5_beginDay
theorem dX5_tell_0 : decode cX5_tell 0 = .ok (.iload_n 1, 1) := by decide +kernel
theorem dX5_tell_1 : decode cX5_tell 1 = .ok (.invokestatic 26, 3) := by decide +kernel
theorem dX5_tell_4 : decode cX5_tell 4 = .ok (.ifCond .eq 17, 3) := by decide +kernel
theorem dX5_tell_7 : decode cX5_tell 7 = .ok (.iload_n 2, 1) := by decide +kernel
theorem dX5_tell_8 : decode cX5_tell 8 = .ok (.invokestatic 26, 3) := by decide +kernel
theorem dX5_tell_11 : decode cX5_tell 11 = .ok (.ifCond .eq 10, 3) := by decide +kernel
theorem dX5_tell_14 : decode cX5_tell 14 = .ok (.iload_n 3, 1) := by decide +kernel
theorem dX5_tell_15 : decode cX5_tell 15 = .ok (.invokestatic 26, 3) := by decide +kernel
theorem dX5_tell_18 : decode cX5_tell 18 = .ok (.ifCond .ne 13, 3) := by decide +kernel
theorem dX5_tell_31 : decode cX5_tell 31 = .ok (.aload_n 0, 1) := by decide +kernel
theorem dX5_tell_32 : decode cX5_tell 32 = .ok (.getfield 10, 3) := by decide +kernel
theorem dX5_tell_35 : decode cX5_tell 35 = .ok (.invokevirtual 37, 3) := by decide +kernel
theorem dX5_tell_38 : decode cX5_tell 38 = .ok (.sipush 2000, 3) := by decide +kernel
theorem dX5_tell_41 : decode cX5_tell 41 = .ok (.if_icmp .lt 13, 3) := by decide +kernel
theorem dX5_tell_54 : decode cX5_tell 54 = .ok (.aload_n 0, 1) := by decide +kernel
theorem dX5_tell_55 : decode cX5_tell 55 = .ok (.iload_n 1, 1) := by decide +kernel
theorem dX5_tell_56 : decode cX5_tell 56 = .ok (.iload_n 2, 1) := by decide +kernel
theorem dX5_tell_57 : decode cX5_tell 57 = .ok (.iload_n 3, 1) := by decide +kernel
theorem dX5_tell_58 : decode cX5_tell 58 = .ok (.invokevirtual 46, 3) := by decide +kernel
theorem dX5_tell_61 : decode cX5_tell 61 = .ok (.ireturn, 1) := by decide +kernel
set_option maxRecDepth 20000 in
theorem ggX5_pass_X3_latestDay : GoodIn wsX5_pass wsX3_latestDay := goodIn_r _ [10, 11, 164, 165] (by decide +kernel) (by decide +kernel)
set_option maxRecDepth 20000 in
theorem gX5_pass_X3_latestDay : GoodIn wsX5_pass (wsV RX5 37 RX3 yX3_latestDay wsX3_latestDay) := goodIn_app (goodIn_of _ (by decide +kernel)) ggX5_pass_X3_latestDay
set_option maxRecDepth 20000 in
theorem ggX5_pass_X3_bidNow : GoodIn wsX5_pass wsX3_bidNow := goodIn_r _ [15, 11, 16, 17, 18, 9, 19, 20, 21, 22, 23, 164, 165] (by decide +kernel) (by decide +kernel)
set_option maxRecDepth 20000 in
theorem gX5_pass_X3_bidNow : GoodIn wsX5_pass (wsV RX5 54 RX3 yX3_bidNow wsX3_bidNow) := goodIn_app (goodIn_of _ (by decide +kernel)) ggX5_pass_X3_bidNow
set_option maxRecDepth 20000 in
theorem ggX5_pass_X5_beginDay : GoodIn wsX5_pass wsX5_beginDay := goodIn_r _ [27, 5, 28, 29, 30, 31, 32, 9, 33, 11, 20, 34, 35, 36, 37, 38, 39, 40, 41, 42, 43, 44, 45, 46, 47, 48, 49, 50, 51, 52, 53, 54, 55, 56, 57, 58, 59, 60, 61, 62, 63, 64, 65, 66, 67, 68, 69, 70, 71, 72, 73, 74, 75, 76, 77, 78, 79, 80, 16, 17, 18, 19, 21, 22, 23, 81, 82, 83, 84, 85, 86, 87, 88, 89, 90, 91, 92, 93, 94, 95, 96, 97, 98, 99, 100, 101, 102, 103, 104, 105, 106, 107, 13, 14, 15, 108, 109, 110, 111, 112, 113, 114, 115, 6, 7, 8, 10, 116, 117, 118, 119, 120, 121, 122, 123, 124, 125, 126, 127, 128, 129, 130, 131, 132, 133, 134, 135, 136, 137, 138, 139, 140, 141, 142, 143, 144, 145, 146, 147, 148, 149, 150, 151, 152, 153, 154, 155, 156, 157, 158, 159, 160, 161, 162, 163, 164, 165, 166, 167, 168, 169, 170, 171, 172, 173, 174, 175, 176, 177, 178, 179, 180, 181] (by decide +kernel) (by decide +kernel)
set_option maxRecDepth 20000 in
theorem gX5_pass_X5_beginDay : GoodIn wsX5_pass (wsV RX5 46 RX5 yX5_beginDay wsX5_beginDay) := goodIn_app (goodIn_of _ (by decide +kernel)) ggX5_pass_X5_beginDay
theorem dX5_pass_0 : decode cX5_pass 0 = .ok (.iload_n 1, 1) := by decide +kernel
theorem dX5_pass_1 : decode cX5_pass 1 = .ok (.iconst 1, 1) := by decide +kernel
theorem dX5_pass_2 : decode cX5_pass 2 = .ok (.if_icmp .lt 10, 3) := by decide +kernel
theorem dX5_pass_5 : decode cX5_pass 5 = .ok (.iload_n 1, 1) := by decide +kernel
theorem dX5_pass_6 : decode cX5_pass 6 = .ok (.sipush 400, 3) := by decide +kernel
theorem dX5_pass_9 : decode cX5_pass 9 = .ok (.if_icmp .le 13, 3) := by decide +kernel
theorem dX5_pass_22 : decode cX5_pass 22 = .ok (.aload_n 0, 1) := by decide +kernel
theorem dX5_pass_23 : decode cX5_pass 23 = .ok (.getfield 10, 3) := by decide +kernel
theorem dX5_pass_26 : decode cX5_pass 26 = .ok (.invokevirtual 37, 3) := by decide +kernel
theorem dX5_pass_29 : decode cX5_pass 29 = .ok (.iload_n 1, 1) := by decide +kernel
theorem dX5_pass_30 : decode cX5_pass 30 = .ok (.iadd, 1) := by decide +kernel
theorem dX5_pass_31 : decode cX5_pass 31 = .ok (.sipush 2000, 3) := by decide +kernel
theorem dX5_pass_34 : decode cX5_pass 34 = .ok (.if_icmp .le 13, 3) := by decide +kernel
theorem dX5_pass_47 : decode cX5_pass 47 = .ok (.iconst 0, 1) := by decide +kernel
theorem dX5_pass_48 : decode cX5_pass 48 = .ok (.istore_n 2, 1) := by decide +kernel
theorem dX5_pass_49 : decode cX5_pass 49 = .ok (.iconst 0, 1) := by decide +kernel
theorem dX5_pass_50 : decode cX5_pass 50 = .ok (.istore_n 3, 1) := by decide +kernel
theorem dX5_pass_51 : decode cX5_pass 51 = .ok (.iload_n 3, 1) := by decide +kernel
theorem dX5_pass_52 : decode cX5_pass 52 = .ok (.iload_n 1, 1) := by decide +kernel
theorem dX5_pass_53 : decode cX5_pass 53 = .ok (.if_icmp .ge 40, 3) := by decide +kernel
theorem dX5_pass_56 : decode cX5_pass 56 = .ok (.iload_n 2, 1) := by decide +kernel
theorem dX5_pass_57 : decode cX5_pass 57 = .ok (.aload_n 0, 1) := by decide +kernel
theorem dX5_pass_58 : decode cX5_pass 58 = .ok (.aload_n 0, 1) := by decide +kernel
theorem dX5_pass_59 : decode cX5_pass 59 = .ok (.getfield 10, 3) := by decide +kernel
theorem dX5_pass_62 : decode cX5_pass 62 = .ok (.iconst 0, 1) := by decide +kernel
theorem dX5_pass_63 : decode cX5_pass 63 = .ok (.invokevirtual 54, 3) := by decide +kernel
theorem dX5_pass_66 : decode cX5_pass 66 = .ok (.aload_n 0, 1) := by decide +kernel
theorem dX5_pass_67 : decode cX5_pass 67 = .ok (.getfield 10, 3) := by decide +kernel
theorem dX5_pass_70 : decode cX5_pass 70 = .ok (.iconst 1, 1) := by decide +kernel
theorem dX5_pass_71 : decode cX5_pass 71 = .ok (.invokevirtual 54, 3) := by decide +kernel
theorem dX5_pass_74 : decode cX5_pass 74 = .ok (.aload_n 0, 1) := by decide +kernel
theorem dX5_pass_75 : decode cX5_pass 75 = .ok (.getfield 10, 3) := by decide +kernel
theorem dX5_pass_78 : decode cX5_pass 78 = .ok (.iconst 2, 1) := by decide +kernel
theorem dX5_pass_79 : decode cX5_pass 79 = .ok (.invokevirtual 54, 3) := by decide +kernel
theorem dX5_pass_82 : decode cX5_pass 82 = .ok (.invokevirtual 46, 3) := by decide +kernel
theorem dX5_pass_85 : decode cX5_pass 85 = .ok (.iadd, 1) := by decide +kernel
theorem dX5_pass_86 : decode cX5_pass 86 = .ok (.istore_n 2, 1) := by decide +kernel
theorem dX5_pass_87 : decode cX5_pass 87 = .ok (.iinc 3 1, 3) := by decide +kernel
theorem dX5_pass_90 : decode cX5_pass 90 = .ok (.goto (-39), 3) := by decide +kernel
theorem dX5_pass_93 : decode cX5_pass 93 = .ok (.iload_n 2, 1) := by decide +kernel
theorem dX5_pass_94 : decode cX5_pass 94 = .ok (.ireturn, 1) := by decide +kernel
set_option maxRecDepth 20000 in
theorem ggX5_today_X3_latestDay : GoodIn wsX5_today wsX3_latestDay := goodIn_r _ [6, 7, 13, 14] (by decide +kernel) (by decide +kernel)
set_option maxRecDepth 20000 in
theorem gX5_today_X3_latestDay : GoodIn wsX5_today (wsV RX5 37 RX3 yX3_latestDay wsX3_latestDay) := goodIn_app (goodIn_of _ (by decide +kernel)) ggX5_today_X3_latestDay
theorem dX5_today_0 : decode cX5_today 0 = .ok (.aload_n 0, 1) := by decide +kernel
theorem dX5_today_1 : decode cX5_today 1 = .ok (.getfield 10, 3) := by decide +kernel
theorem dX5_today_4 : decode cX5_today 4 = .ok (.invokevirtual 37, 3) := by decide +kernel
theorem dX5_today_7 : decode cX5_today 7 = .ok (.ireturn, 1) := by decide +kernel
set_option maxRecDepth 20000 in
theorem ggX5_offer_X5_requireFund : GoodIn wsX5_offer wsX5_requireFund := goodIn_ca (goodIn_r _ [5, 6, 7, 8, 9, 4, 10] (by decide +kernel) (by decide +kernel)) (goodIn_sub (fun _ h => List.mem_cons_of_mem _ (List.mem_append_right _ h)) (by decide +kernel))
set_option maxRecDepth 20000 in
theorem gX5_offer_X5_requireFund : GoodIn wsX5_offer (va_wsS RX5 58 yX5_requireFund wsX5_requireFund) := goodIn_app (goodIn_of _ (by decide +kernel)) ggX5_offer_X5_requireFund
set_option maxRecDepth 20000 in
theorem ggX5_offer_X5_requireDay : GoodIn wsX5_offer wsX5_requireDay := goodIn_ca (goodIn_r _ [14, 6, 7, 1, 15, 16, 17, 18, 19, 20, 30, 31, 32, 33, 34, 35, 36] (by decide +kernel) (by decide +kernel)) (goodIn_sub (fun _ h => List.mem_cons_of_mem _ (List.mem_append_right _ h)) (by decide +kernel))
set_option maxRecDepth 20000 in
theorem gX5_offer_X5_requireDay : GoodIn wsX5_offer (wsV RX5 62 RX5 yX5_requireDay wsX5_requireDay) := goodIn_app (goodIn_of _ (by decide +kernel)) ggX5_offer_X5_requireDay
set_option maxRecDepth 20000 in
theorem ggX5_offer_X3_offerOn : GoodIn wsX5_offer wsX3_offerOn := goodIn_r _ [24, 25, 26, 27, 18, 28, 29, 9, 4, 10, 35, 36] (by decide +kernel) (by decide +kernel)
set_option maxRecDepth 20000 in
theorem gX5_offer_X3_offerOn : GoodIn wsX5_offer (wsV RX5 65 RX3 yX3_offerOn wsX3_offerOn) := goodIn_app (goodIn_of _ (by decide +kernel)) ggX5_offer_X3_offerOn
theorem dX5_offer_0 : decode cX5_offer 0 = .ok (.iload_n 1, 1) := by decide +kernel
theorem dX5_offer_1 : decode cX5_offer 1 = .ok (.invokestatic 58, 3) := by decide +kernel
theorem dX5_offer_4 : decode cX5_offer 4 = .ok (.aload_n 0, 1) := by decide +kernel
theorem dX5_offer_5 : decode cX5_offer 5 = .ok (.iload_n 2, 1) := by decide +kernel
theorem dX5_offer_6 : decode cX5_offer 6 = .ok (.invokevirtual 62, 3) := by decide +kernel
theorem dX5_offer_9 : decode cX5_offer 9 = .ok (.aload_n 0, 1) := by decide +kernel
theorem dX5_offer_10 : decode cX5_offer 10 = .ok (.getfield 10, 3) := by decide +kernel
theorem dX5_offer_13 : decode cX5_offer 13 = .ok (.iload_n 1, 1) := by decide +kernel
theorem dX5_offer_14 : decode cX5_offer 14 = .ok (.iload_n 2, 1) := by decide +kernel
theorem dX5_offer_15 : decode cX5_offer 15 = .ok (.invokevirtual 65, 3) := by decide +kernel
theorem dX5_offer_18 : decode cX5_offer 18 = .ok (.ireturn, 1) := by decide +kernel
set_option maxRecDepth 20000 in
theorem ggX5_make_X5_requireFund : GoodIn wsX5_make wsX5_requireFund := goodIn_ca (goodIn_r _ [14, 1, 2, 15, 16, 13, 17] (by decide +kernel) (by decide +kernel)) (goodIn_sub (fun _ h => List.mem_cons_of_mem _ (List.mem_append_left _ (List.mem_append_right _ h))) (by decide +kernel))
set_option maxRecDepth 20000 in
theorem gX5_make_X5_requireFund : GoodIn wsX5_make (va_wsS RX5 58 yX5_requireFund wsX5_requireFund) := goodIn_app (goodIn_of _ (by decide +kernel)) ggX5_make_X5_requireFund
set_option maxRecDepth 20000 in
theorem ggX5_make_Jx4a65c_size_8abf5 : GoodIn wsX5_make wsJx4a65c_size_8abf5 := goodIn_r _ [22, 23, 104, 105, 106] (by decide +kernel) (by decide +kernel)
set_option maxRecDepth 20000 in
theorem gX5_make_Jx4a65c_size_8abf5 : GoodIn wsX5_make (wsV RX5 77 RJx4a65c yJx4a65c_size_8abf5 wsJx4a65c_size_8abf5) := goodIn_app (goodIn_of _ (by decide +kernel)) ggX5_make_Jx4a65c_size_8abf5
set_option maxRecDepth 20000 in
theorem ggX5_make_X0_init : GoodIn wsX5_make wsX0_init := goodIn_r _ [26, 27, 28, 29, 30, 31, 32, 33, 34, 35, 36, 96, 97, 98, 99, 100, 101, 102, 103] (by decide +kernel) (by decide +kernel)
set_option maxRecDepth 20000 in
theorem gX5_make_X0_init : GoodIn wsX5_make (wsX0_init) := ggX5_make_X0_init
set_option maxRecDepth 20000 in
theorem ggX5_make_Jx4a65c_add_9ea2d : GoodIn wsX5_make wsJx4a65c_add_9ea2d := goodIn_r _ [40, 41, 42, 43, 23, 44, 45, 46, 21, 47, 48, 49, 50, 51, 52, 53, 54, 55, 56, 57, 58, 59, 60, 61, 62, 63, 64, 65, 66, 67, 68, 69, 70, 71, 72, 73, 74, 75, 76, 77, 78, 79, 80, 81, 82, 83, 84, 85, 86, 87, 88, 89, 90, 104, 105, 106] (by decide +kernel) (by decide +kernel)
set_option maxRecDepth 20000 in
theorem gX5_make_Jx4a65c_add_9ea2d : GoodIn wsX5_make (wsV RX5 87 RJx4a65c yJx4a65c_add_9ea2d wsJx4a65c_add_9ea2d) := goodIn_app (goodIn_of _ (by decide +kernel)) ggX5_make_Jx4a65c_add_9ea2d
theorem dX5_make_0 : decode cX5_make 0 = .ok (.iload_n 1, 1) := by decide +kernel
theorem dX5_make_1 : decode cX5_make 1 = .ok (.bipush 100, 2) := by decide +kernel
theorem dX5_make_3 : decode cX5_make 3 = .ok (.if_icmp .lt 9, 3) := by decide +kernel
theorem dX5_make_6 : decode cX5_make 6 = .ok (.iload_n 1, 1) := by decide +kernel
theorem dX5_make_7 : decode cX5_make 7 = .ok (.ldc 69, 2) := by decide +kernel
theorem dX5_make_9 : decode cX5_make 9 = .ok (.if_icmp .le 13, 3) := by decide +kernel
theorem dX5_make_22 : decode cX5_make 22 = .ok (.iload_n 2, 1) := by decide +kernel
theorem dX5_make_23 : decode cX5_make 23 = .ok (.ifCond .lt 9, 3) := by decide +kernel
theorem dX5_make_26 : decode cX5_make 26 = .ok (.iload_n 2, 1) := by decide +kernel
theorem dX5_make_27 : decode cX5_make 27 = .ok (.ldc 72, 2) := by decide +kernel
theorem dX5_make_29 : decode cX5_make 29 = .ok (.if_icmp .le 13, 3) := by decide +kernel
theorem dX5_make_42 : decode cX5_make 42 = .ok (.iload_n 3, 1) := by decide +kernel
theorem dX5_make_43 : decode cX5_make 43 = .ok (.ifCond .lt 10, 3) := by decide +kernel
theorem dX5_make_46 : decode cX5_make 46 = .ok (.iload_n 3, 1) := by decide +kernel
theorem dX5_make_47 : decode cX5_make 47 = .ok (.sipush 1000, 3) := by decide +kernel
theorem dX5_make_50 : decode cX5_make 50 = .ok (.if_icmp .le 13, 3) := by decide +kernel
theorem dX5_make_63 : decode cX5_make 63 = .ok (.iload 4, 2) := by decide +kernel
theorem dX5_make_65 : decode cX5_make 65 = .ok (.invokestatic 58, 3) := by decide +kernel
theorem dX5_make_68 : decode cX5_make 68 = .ok (.aload_n 0, 1) := by decide +kernel
theorem dX5_make_69 : decode cX5_make 69 = .ok (.getfield 19, 3) := by decide +kernel
theorem dX5_make_72 : decode cX5_make 72 = .ok (.invokevirtual 77, 3) := by decide +kernel
theorem dX5_make_75 : decode cX5_make 75 = .ok (.bipush 10, 2) := by decide +kernel
theorem dX5_make_77 : decode cX5_make 77 = .ok (.if_icmp .lt 13, 3) := by decide +kernel
theorem dX5_make_90 : decode cX5_make 90 = .ok (.aload_n 0, 1) := by decide +kernel
theorem dX5_make_91 : decode cX5_make 91 = .ok (.getfield 19, 3) := by decide +kernel
theorem dX5_make_94 : decode cX5_make 94 = .ok (.new 82, 3) := by decide +kernel
theorem dX5_make_97 : decode cX5_make 97 = .ok (.dup, 1) := by decide +kernel
theorem dX5_make_98 : decode cX5_make 98 = .ok (.iload_n 1, 1) := by decide +kernel
theorem dX5_make_99 : decode cX5_make 99 = .ok (.iload_n 2, 1) := by decide +kernel
theorem dX5_make_100 : decode cX5_make 100 = .ok (.iload_n 3, 1) := by decide +kernel
theorem dX5_make_101 : decode cX5_make 101 = .ok (.iload 4, 2) := by decide +kernel
theorem dX5_make_103 : decode cX5_make 103 = .ok (.invokespecial 84, 3) := by decide +kernel
theorem dX5_make_106 : decode cX5_make 106 = .ok (.invokevirtual 87, 3) := by decide +kernel
theorem dX5_make_109 : decode cX5_make 109 = .ok (.pop, 1) := by decide +kernel
theorem dX5_make_110 : decode cX5_make 110 = .ok (.aload_n 0, 1) := by decide +kernel
theorem dX5_make_111 : decode cX5_make 111 = .ok (.getfield 19, 3) := by decide +kernel
theorem dX5_make_114 : decode cX5_make 114 = .ok (.invokevirtual 77, 3) := by decide +kernel
theorem dX5_make_117 : decode cX5_make 117 = .ok (.iconst 1, 1) := by decide +kernel
theorem dX5_make_118 : decode cX5_make 118 = .ok (.isub, 1) := by decide +kernel
theorem dX5_make_119 : decode cX5_make 119 = .ok (.ireturn, 1) := by decide +kernel
set_option maxRecDepth 20000 in
theorem ggX5_pay_X5_find : GoodIn wsX5_pay wsX5_find := goodIn_ca (goodIn_r _ [8, 9, 10, 11, 12, 13, 14, 15, 16, 17, 18, 19, 20, 21, 22, 23, 24, 25, 26, 27, 28, 29, 30, 31, 32, 33, 34, 35, 117, 118, 119, 120, 121, 122, 123, 124] (by decide +kernel) (by decide +kernel)) (goodIn_sub (fun _ h => List.mem_cons_of_mem _ (List.mem_append_left _ (List.mem_append_right _ h))) (by decide +kernel))
set_option maxRecDepth 20000 in
theorem gX5_pay_X5_find : GoodIn wsX5_pay (wsV RX5 91 RX5 yX5_find wsX5_find) := goodIn_app (goodIn_of _ (by decide +kernel)) ggX5_pay_X5_find
set_option maxRecDepth 20000 in
theorem ggX5_pay_X5_requireInForce : GoodIn wsX5_pay wsX5_requireInForce := goodIn_ca (goodIn_r _ [38, 39, 40, 41, 42, 43, 44, 45, 46, 125, 126, 127, 128, 129, 130, 131, 132] (by decide +kernel) (by decide +kernel)) (goodIn_sub (fun _ h => List.mem_cons_of_mem _ (List.mem_append_right _ h)) (by decide +kernel))
set_option maxRecDepth 20000 in
theorem gX5_pay_X5_requireInForce : GoodIn wsX5_pay (va_wsS RX5 95 yX5_requireInForce wsX5_requireInForce) := goodIn_app (goodIn_of _ (by decide +kernel)) ggX5_pay_X5_requireInForce
set_option maxRecDepth 20000 in
theorem ggX5_pay_X2_init : GoodIn wsX5_pay wsX2_init := goodIn_r _ [49, 50, 51, 52, 53, 54, 55, 56, 57, 116] (by decide +kernel) (by decide +kernel)
set_option maxRecDepth 20000 in
theorem gX5_pay_X2_init : GoodIn wsX5_pay (wsX2_init) := ggX5_pay_X2_init
set_option maxRecDepth 20000 in
theorem ggX5_pay_X5_giveOrder : GoodIn wsX5_pay wsX5_giveOrder := goodIn_r _ [61, 62, 13, 14, 15, 16, 17, 18, 63, 64, 65, 66, 67, 68, 35, 69, 70, 71, 72, 73, 74, 75, 76, 77, 78, 79, 80, 81, 82, 83, 84, 85, 86, 87, 88, 89, 90, 91, 92, 93, 94, 95, 96, 97, 98, 99, 100, 101, 102, 103, 104, 105, 106, 107, 108, 109, 110, 111, 112, 113, 114, 115, 117, 118, 119, 120, 121, 122, 123, 124] (by decide +kernel) (by decide +kernel)
set_option maxRecDepth 20000 in
theorem gX5_pay_X5_giveOrder : GoodIn wsX5_pay (wsV RX5 103 RX5 yX5_giveOrder wsX5_giveOrder) := goodIn_app (goodIn_of _ (by decide +kernel)) ggX5_pay_X5_giveOrder
theorem dX5_pay_0 : decode cX5_pay 0 = .ok (.aload_n 0, 1) := by decide +kernel
theorem dX5_pay_1 : decode cX5_pay 1 = .ok (.iload_n 1, 1) := by decide +kernel
theorem dX5_pay_2 : decode cX5_pay 2 = .ok (.invokevirtual 91, 3) := by decide +kernel
theorem dX5_pay_5 : decode cX5_pay 5 = .ok (.astore_n 2, 1) := by decide +kernel
theorem dX5_pay_6 : decode cX5_pay 6 = .ok (.aload_n 2, 1) := by decide +kernel
theorem dX5_pay_7 : decode cX5_pay 7 = .ok (.invokestatic 95, 3) := by decide +kernel
theorem dX5_pay_10 : decode cX5_pay 10 = .ok (.aload_n 0, 1) := by decide +kernel
theorem dX5_pay_11 : decode cX5_pay 11 = .ok (.new 99, 3) := by decide +kernel
theorem dX5_pay_14 : decode cX5_pay 14 = .ok (.dup, 1) := by decide +kernel
theorem dX5_pay_15 : decode cX5_pay 15 = .ok (.aload_n 2, 1) := by decide +kernel
theorem dX5_pay_16 : decode cX5_pay 16 = .ok (.invokespecial 101, 3) := by decide +kernel
theorem dX5_pay_19 : decode cX5_pay 19 = .ok (.invokevirtual 103, 3) := by decide +kernel
theorem dX5_pay_22 : decode cX5_pay 22 = .ok (.ireturn, 1) := by decide +kernel
set_option maxRecDepth 20000 in
theorem ggX5_change_X5_find : GoodIn wsX5_change wsX5_find := goodIn_ca (goodIn_r _ [10, 11, 12, 13, 14, 15, 16, 17, 18, 19, 20, 21, 22, 23, 24, 25, 26, 27, 28, 29, 30, 31, 32, 33, 34, 35, 36, 37, 131, 132, 133, 134, 135, 136, 137, 138] (by decide +kernel) (by decide +kernel)) (goodIn_sub (fun _ h => List.mem_cons_of_mem _ (List.mem_append_left _ (List.mem_append_right _ h))) (by decide +kernel))
set_option maxRecDepth 20000 in
theorem gX5_change_X5_find : GoodIn wsX5_change (wsV RX5 91 RX5 yX5_find wsX5_find) := goodIn_app (goodIn_of _ (by decide +kernel)) ggX5_change_X5_find
set_option maxRecDepth 20000 in
theorem ggX5_change_X5_requireFund : GoodIn wsX5_change wsX5_requireFund := goodIn_ca (goodIn_r _ [40, 1, 2, 41, 42, 9, 43] (by decide +kernel) (by decide +kernel)) (goodIn_sub (fun _ h => List.mem_cons_of_mem _ (List.mem_append_left _ (List.mem_append_left _ (List.mem_append_right _ h)))) (by decide +kernel))
set_option maxRecDepth 20000 in
theorem gX5_change_X5_requireFund : GoodIn wsX5_change (va_wsS RX5 58 yX5_requireFund wsX5_requireFund) := goodIn_app (goodIn_of _ (by decide +kernel)) ggX5_change_X5_requireFund
set_option maxRecDepth 20000 in
theorem ggX5_change_X5_requireInForce : GoodIn wsX5_change wsX5_requireInForce := goodIn_ca (goodIn_r _ [46, 47, 48, 49, 50, 51, 52, 53, 54, 139, 140, 141, 142, 143, 144, 145, 146] (by decide +kernel) (by decide +kernel)) (goodIn_sub (fun _ h => List.mem_cons_of_mem _ (List.mem_append_right _ h)) (by decide +kernel))
set_option maxRecDepth 20000 in
theorem gX5_change_X5_requireInForce : GoodIn wsX5_change (va_wsS RX5 95 yX5_requireInForce wsX5_requireInForce) := goodIn_app (goodIn_of _ (by decide +kernel)) ggX5_change_X5_requireInForce
set_option maxRecDepth 20000 in
theorem ggX5_change_X4_init : GoodIn wsX5_change wsX4_init := goodIn_r _ [57, 58, 59, 60, 61, 62, 63, 64, 65, 66, 67, 68, 127, 128, 129, 130] (by decide +kernel) (by decide +kernel)
set_option maxRecDepth 20000 in
theorem gX5_change_X4_init : GoodIn wsX5_change (wsX4_init) := ggX5_change_X4_init
set_option maxRecDepth 20000 in
theorem ggX5_change_X5_giveOrder : GoodIn wsX5_change wsX5_giveOrder := goodIn_r _ [72, 73, 15, 16, 17, 18, 19, 20, 74, 75, 76, 77, 78, 79, 37, 80, 81, 82, 83, 84, 85, 86, 87, 88, 89, 90, 91, 92, 93, 94, 95, 96, 97, 98, 99, 100, 101, 102, 103, 104, 105, 106, 107, 108, 109, 110, 111, 112, 113, 114, 115, 116, 117, 118, 119, 120, 121, 122, 123, 124, 125, 126, 131, 132, 133, 134, 135, 136, 137, 138] (by decide +kernel) (by decide +kernel)
set_option maxRecDepth 20000 in
theorem gX5_change_X5_giveOrder : GoodIn wsX5_change (wsV RX5 103 RX5 yX5_giveOrder wsX5_giveOrder) := goodIn_app (goodIn_of _ (by decide +kernel)) ggX5_change_X5_giveOrder
theorem dX5_change_0 : decode cX5_change 0 = .ok (.aload_n 0, 1) := by decide +kernel
theorem dX5_change_1 : decode cX5_change 1 = .ok (.iload_n 1, 1) := by decide +kernel
theorem dX5_change_2 : decode cX5_change 2 = .ok (.invokevirtual 91, 3) := by decide +kernel
theorem dX5_change_5 : decode cX5_change 5 = .ok (.astore 5, 2) := by decide +kernel
theorem dX5_change_7 : decode cX5_change 7 = .ok (.iload_n 2, 1) := by decide +kernel
theorem dX5_change_8 : decode cX5_change 8 = .ok (.invokestatic 58, 3) := by decide +kernel
theorem dX5_change_11 : decode cX5_change 11 = .ok (.iload_n 3, 1) := by decide +kernel
theorem dX5_change_12 : decode cX5_change 12 = .ok (.invokestatic 58, 3) := by decide +kernel
theorem dX5_change_15 : decode cX5_change 15 = .ok (.iload_n 2, 1) := by decide +kernel
theorem dX5_change_16 : decode cX5_change 16 = .ok (.iload_n 3, 1) := by decide +kernel
theorem dX5_change_17 : decode cX5_change 17 = .ok (.if_icmp .ne 13, 3) := by decide +kernel
theorem dX5_change_30 : decode cX5_change 30 = .ok (.iload 4, 2) := by decide +kernel
theorem dX5_change_32 : decode cX5_change 32 = .ok (.iconst 1, 1) := by decide +kernel
theorem dX5_change_33 : decode cX5_change 33 = .ok (.if_icmp .lt 10, 3) := by decide +kernel
theorem dX5_change_36 : decode cX5_change 36 = .ok (.iload 4, 2) := by decide +kernel
theorem dX5_change_38 : decode cX5_change 38 = .ok (.bipush 100, 2) := by decide +kernel
theorem dX5_change_40 : decode cX5_change 40 = .ok (.if_icmp .le 13, 3) := by decide +kernel
theorem dX5_change_53 : decode cX5_change 53 = .ok (.aload 5, 2) := by decide +kernel
theorem dX5_change_55 : decode cX5_change 55 = .ok (.invokestatic 95, 3) := by decide +kernel
theorem dX5_change_58 : decode cX5_change 58 = .ok (.aload_n 0, 1) := by decide +kernel
theorem dX5_change_59 : decode cX5_change 59 = .ok (.new 111, 3) := by decide +kernel
theorem dX5_change_62 : decode cX5_change 62 = .ok (.dup, 1) := by decide +kernel
theorem dX5_change_63 : decode cX5_change 63 = .ok (.aload 5, 2) := by decide +kernel
theorem dX5_change_65 : decode cX5_change 65 = .ok (.iload_n 2, 1) := by decide +kernel
theorem dX5_change_66 : decode cX5_change 66 = .ok (.iload_n 3, 1) := by decide +kernel
theorem dX5_change_67 : decode cX5_change 67 = .ok (.iload 4, 2) := by decide +kernel
theorem dX5_change_69 : decode cX5_change 69 = .ok (.invokespecial 113, 3) := by decide +kernel
theorem dX5_change_72 : decode cX5_change 72 = .ok (.invokevirtual 103, 3) := by decide +kernel
theorem dX5_change_75 : decode cX5_change 75 = .ok (.ireturn, 1) := by decide +kernel
set_option maxRecDepth 20000 in
theorem ggX5_backdate_X5_find : GoodIn wsX5_backdate wsX5_find := goodIn_ca (goodIn_r _ [11, 12, 13, 14, 15, 16, 17, 18, 19, 20, 21, 22, 23, 24, 25, 26, 27, 28, 29, 30, 31, 32, 33, 34, 35, 36, 37, 38, 104, 105, 106, 107, 108, 109, 110, 111] (by decide +kernel) (by decide +kernel)) (goodIn_sub (fun _ h => List.mem_cons_of_mem _ (List.mem_append_left _ (List.mem_append_left _ (List.mem_append_right _ h)))) (by decide +kernel))
set_option maxRecDepth 20000 in
theorem gX5_backdate_X5_find : GoodIn wsX5_backdate (wsV RX5 91 RX5 yX5_find wsX5_find) := goodIn_app (goodIn_of _ (by decide +kernel)) ggX5_backdate_X5_find
set_option maxRecDepth 20000 in
theorem ggX5_backdate_X5_requireDay : GoodIn wsX5_backdate wsX5_requireDay := goodIn_ca (goodIn_r _ [42, 43, 44, 1, 45, 46, 47, 48, 49, 50, 104, 105, 106, 107, 108, 112, 113] (by decide +kernel) (by decide +kernel)) (goodIn_sub (fun _ h => List.mem_cons_of_mem _ (List.mem_append_left _ (List.mem_append_right _ h))) (by decide +kernel))
set_option maxRecDepth 20000 in
theorem gX5_backdate_X5_requireDay : GoodIn wsX5_backdate (wsV RX5 62 RX5 yX5_requireDay wsX5_requireDay) := goodIn_app (goodIn_of _ (by decide +kernel)) ggX5_backdate_X5_requireDay
set_option maxRecDepth 20000 in
theorem ggX5_backdate_X5_requireInForce : GoodIn wsX5_backdate wsX5_requireInForce := goodIn_ca (goodIn_r _ [53, 54, 55, 56, 57, 58, 59, 60, 61, 114, 115, 116, 117, 118, 119, 120, 121] (by decide +kernel) (by decide +kernel)) (goodIn_sub (fun _ h => List.mem_cons_of_mem _ (List.mem_append_right _ h)) (by decide +kernel))
set_option maxRecDepth 20000 in
theorem gX5_backdate_X5_requireInForce : GoodIn wsX5_backdate (va_wsS RX5 95 yX5_requireInForce wsX5_requireInForce) := goodIn_app (goodIn_of _ (by decide +kernel)) ggX5_backdate_X5_requireInForce
set_option maxRecDepth 20000 in
theorem ggX5_backdate_X0_premiumFund : GoodIn wsX5_backdate wsX0_premiumFund := goodIn_r _ [65, 66, 114, 115, 116, 117, 118, 119, 120, 121] (by decide +kernel) (by decide +kernel)
set_option maxRecDepth 20000 in
theorem gX5_backdate_X0_premiumFund : GoodIn wsX5_backdate (wsV RX5 116 RX0 yX0_premiumFund wsX0_premiumFund) := goodIn_app (goodIn_of _ (by decide +kernel)) ggX5_backdate_X0_premiumFund
set_option maxRecDepth 20000 in
theorem ggX5_backdate_X0_premiumMoney : GoodIn wsX5_backdate wsX0_premiumMoney := goodIn_r _ [70, 71, 114, 115, 116, 117, 118, 119, 120, 121] (by decide +kernel) (by decide +kernel)
set_option maxRecDepth 20000 in
theorem gX5_backdate_X0_premiumMoney : GoodIn wsX5_backdate (wsV RX5 119 RX0 yX0_premiumMoney wsX0_premiumMoney) := goodIn_app (goodIn_of _ (by decide +kernel)) ggX5_backdate_X0_premiumMoney
set_option maxRecDepth 20000 in
theorem ggX5_backdate_X3_offerOn : GoodIn wsX5_backdate wsX3_offerOn := goodIn_r _ [75, 76, 77, 78, 48, 79, 80, 81, 10, 82, 112, 113] (by decide +kernel) (by decide +kernel)
set_option maxRecDepth 20000 in
theorem gX5_backdate_X3_offerOn : GoodIn wsX5_backdate (wsV RX5 65 RX3 yX3_offerOn wsX3_offerOn) := goodIn_app (goodIn_of _ (by decide +kernel)) ggX5_backdate_X3_offerOn
set_option maxRecDepth 20000 in
theorem ggX5_backdate_X5_unitsFor : GoodIn wsX5_backdate wsX5_unitsFor := goodIn_r _ [85, 86] (by decide +kernel) (by decide +kernel)
set_option maxRecDepth 20000 in
theorem gX5_backdate_X5_unitsFor : GoodIn wsX5_backdate (va_wsS RX5 122 yX5_unitsFor wsX5_unitsFor) := goodIn_app (goodIn_of _ (by decide +kernel)) ggX5_backdate_X5_unitsFor
set_option maxRecDepth 20000 in
theorem ggX5_backdate_X0_addUnits : GoodIn wsX5_backdate wsX0_addUnits := goodIn_r _ [90, 91, 92, 93, 94, 5, 95, 81, 10, 82, 114, 115, 116, 117, 118, 119, 120, 121] (by decide +kernel) (by decide +kernel)
set_option maxRecDepth 20000 in
theorem gX5_backdate_X0_addUnits : GoodIn wsX5_backdate (wsV RX5 126 RX0 yX0_addUnits wsX0_addUnits) := goodIn_app (goodIn_of _ (by decide +kernel)) ggX5_backdate_X0_addUnits
set_option maxRecDepth 20000 in
theorem ggX5_backdate_X3_offerNow : GoodIn wsX5_backdate wsX3_offerNow := goodIn_r _ [99, 50, 100, 73, 74, 48, 75, 76, 77, 78, 79, 80, 81, 10, 82, 112, 113] (by decide +kernel) (by decide +kernel)
set_option maxRecDepth 20000 in
theorem gX5_backdate_X3_offerNow : GoodIn wsX5_backdate (wsV RX5 130 RX3 yX3_offerNow wsX3_offerNow) := goodIn_app (goodIn_of _ (by decide +kernel)) ggX5_backdate_X3_offerNow
set_option maxRecDepth 20000 in
theorem ggX5_backdate_X5_moneyFor : GoodIn wsX5_backdate wsX5_moneyFor := goodIn_r _ [103, 86] (by decide +kernel) (by decide +kernel)
set_option maxRecDepth 20000 in
theorem gX5_backdate_X5_moneyFor : GoodIn wsX5_backdate (va_wsS RX5 133 yX5_moneyFor wsX5_moneyFor) := goodIn_app (goodIn_of _ (by decide +kernel)) ggX5_backdate_X5_moneyFor
theorem dX5_backdate_0 : decode cX5_backdate 0 = .ok (.aload_n 0, 1) := by decide +kernel
theorem dX5_backdate_1 : decode cX5_backdate 1 = .ok (.iload_n 1, 1) := by decide +kernel
theorem dX5_backdate_2 : decode cX5_backdate 2 = .ok (.invokevirtual 91, 3) := by decide +kernel
theorem dX5_backdate_5 : decode cX5_backdate 5 = .ok (.astore_n 3, 1) := by decide +kernel
theorem dX5_backdate_6 : decode cX5_backdate 6 = .ok (.aload_n 0, 1) := by decide +kernel
theorem dX5_backdate_7 : decode cX5_backdate 7 = .ok (.iload_n 2, 1) := by decide +kernel
theorem dX5_backdate_8 : decode cX5_backdate 8 = .ok (.invokevirtual 62, 3) := by decide +kernel
theorem dX5_backdate_11 : decode cX5_backdate 11 = .ok (.aload_n 3, 1) := by decide +kernel
theorem dX5_backdate_12 : decode cX5_backdate 12 = .ok (.invokestatic 95, 3) := by decide +kernel
theorem dX5_backdate_15 : decode cX5_backdate 15 = .ok (.aload_n 3, 1) := by decide +kernel
theorem dX5_backdate_16 : decode cX5_backdate 16 = .ok (.invokevirtual 116, 3) := by decide +kernel
theorem dX5_backdate_19 : decode cX5_backdate 19 = .ok (.istore 4, 2) := by decide +kernel
theorem dX5_backdate_21 : decode cX5_backdate 21 = .ok (.aload_n 3, 1) := by decide +kernel
theorem dX5_backdate_22 : decode cX5_backdate 22 = .ok (.invokevirtual 119, 3) := by decide +kernel
theorem dX5_backdate_25 : decode cX5_backdate 25 = .ok (.i2l, 1) := by decide +kernel
theorem dX5_backdate_26 : decode cX5_backdate 26 = .ok (.aload_n 0, 1) := by decide +kernel
theorem dX5_backdate_27 : decode cX5_backdate 27 = .ok (.getfield 10, 3) := by decide +kernel
theorem dX5_backdate_30 : decode cX5_backdate 30 = .ok (.iload 4, 2) := by decide +kernel
theorem dX5_backdate_32 : decode cX5_backdate 32 = .ok (.iload_n 2, 1) := by decide +kernel
theorem dX5_backdate_33 : decode cX5_backdate 33 = .ok (.invokevirtual 65, 3) := by decide +kernel
theorem dX5_backdate_36 : decode cX5_backdate 36 = .ok (.i2l, 1) := by decide +kernel
theorem dX5_backdate_37 : decode cX5_backdate 37 = .ok (.invokestatic 122, 3) := by decide +kernel
theorem dX5_backdate_40 : decode cX5_backdate 40 = .ok (.lstore 5, 2) := by decide +kernel
theorem dX5_backdate_42 : decode cX5_backdate 42 = .ok (.aload_n 3, 1) := by decide +kernel
theorem dX5_backdate_43 : decode cX5_backdate 43 = .ok (.iload 4, 2) := by decide +kernel
theorem dX5_backdate_45 : decode cX5_backdate 45 = .ok (.lload 5, 2) := by decide +kernel
theorem dX5_backdate_47 : decode cX5_backdate 47 = .ok (.invokevirtual 126, 3) := by decide +kernel
theorem dX5_backdate_50 : decode cX5_backdate 50 = .ok (.lload 5, 2) := by decide +kernel
theorem dX5_backdate_52 : decode cX5_backdate 52 = .ok (.aload_n 0, 1) := by decide +kernel
theorem dX5_backdate_53 : decode cX5_backdate 53 = .ok (.getfield 10, 3) := by decide +kernel
theorem dX5_backdate_56 : decode cX5_backdate 56 = .ok (.iload 4, 2) := by decide +kernel
theorem dX5_backdate_58 : decode cX5_backdate 58 = .ok (.invokevirtual 130, 3) := by decide +kernel
theorem dX5_backdate_61 : decode cX5_backdate 61 = .ok (.i2l, 1) := by decide +kernel
theorem dX5_backdate_62 : decode cX5_backdate 62 = .ok (.invokestatic 133, 3) := by decide +kernel
theorem dX5_backdate_65 : decode cX5_backdate 65 = .ok (.lstore 7, 2) := by decide +kernel
theorem dX5_backdate_67 : decode cX5_backdate 67 = .ok (.aload_n 0, 1) := by decide +kernel
theorem dX5_backdate_68 : decode cX5_backdate 68 = .ok (.dup, 1) := by decide +kernel
theorem dX5_backdate_69 : decode cX5_backdate 69 = .ok (.getfield 136, 3) := by decide +kernel
theorem dX5_backdate_72 : decode cX5_backdate 72 = .ok (.lconst 0, 1) := by decide +kernel
theorem dX5_backdate_73 : decode cX5_backdate 73 = .ok (.lload 7, 2) := by decide +kernel
theorem dX5_backdate_75 : decode cX5_backdate 75 = .ok (.aload_n 3, 1) := by decide +kernel
theorem dX5_backdate_76 : decode cX5_backdate 76 = .ok (.invokevirtual 119, 3) := by decide +kernel
theorem dX5_backdate_79 : decode cX5_backdate 79 = .ok (.i2l, 1) := by decide +kernel
theorem dX5_backdate_80 : decode cX5_backdate 80 = .ok (.lsub, 1) := by decide +kernel
theorem dX5_backdate_81 : decode cX5_backdate 81 = .ok (.invokestatic 140, 3) := by decide +kernel
theorem dX5_backdate_84 : decode cX5_backdate 84 = .ok (.ladd, 1) := by decide +kernel
theorem dX5_backdate_85 : decode cX5_backdate 85 = .ok (.putfield 136, 3) := by decide +kernel
theorem dX5_backdate_88 : decode cX5_backdate 88 = .ok (.lload 5, 2) := by decide +kernel
theorem dX5_backdate_90 : decode cX5_backdate 90 = .ok (.l2i, 1) := by decide +kernel
theorem dX5_backdate_91 : decode cX5_backdate 91 = .ok (.ireturn, 1) := by decide +kernel
set_option maxRecDepth 20000 in
theorem ggX5_contracts_Jx4a65c_size_8abf5 : GoodIn wsX5_contracts wsJx4a65c_size_8abf5 := goodIn_r _ [6, 7, 13, 14, 15] (by decide +kernel) (by decide +kernel)
set_option maxRecDepth 20000 in
theorem gX5_contracts_Jx4a65c_size_8abf5 : GoodIn wsX5_contracts (wsV RX5 77 RJx4a65c yJx4a65c_size_8abf5 wsJx4a65c_size_8abf5) := goodIn_app (goodIn_of _ (by decide +kernel)) ggX5_contracts_Jx4a65c_size_8abf5
theorem dX5_contracts_0 : decode cX5_contracts 0 = .ok (.aload_n 0, 1) := by decide +kernel
theorem dX5_contracts_1 : decode cX5_contracts 1 = .ok (.getfield 19, 3) := by decide +kernel
theorem dX5_contracts_4 : decode cX5_contracts 4 = .ok (.invokevirtual 77, 3) := by decide +kernel
theorem dX5_contracts_7 : decode cX5_contracts 7 = .ok (.ireturn, 1) := by decide +kernel
set_option maxRecDepth 20000 in
theorem ggX5_waiting_Jx4a65c_size_8abf5 : GoodIn wsX5_waiting wsJx4a65c_size_8abf5 := goodIn_r _ [6, 7, 13, 14, 15] (by decide +kernel) (by decide +kernel)
set_option maxRecDepth 20000 in
theorem gX5_waiting_Jx4a65c_size_8abf5 : GoodIn wsX5_waiting (wsV RX5 77 RJx4a65c yJx4a65c_size_8abf5 wsJx4a65c_size_8abf5) := goodIn_app (goodIn_of _ (by decide +kernel)) ggX5_waiting_Jx4a65c_size_8abf5
theorem dX5_waiting_0 : decode cX5_waiting 0 = .ok (.aload_n 0, 1) := by decide +kernel
theorem dX5_waiting_1 : decode cX5_waiting 1 = .ok (.getfield 23, 3) := by decide +kernel
theorem dX5_waiting_4 : decode cX5_waiting 4 = .ok (.invokevirtual 77, 3) := by decide +kernel
theorem dX5_waiting_7 : decode cX5_waiting 7 = .ok (.ireturn, 1) := by decide +kernel
set_option maxRecDepth 20000 in
theorem ggX5_isInForce_X5_find : GoodIn wsX5_isInForce wsX5_find := goodIn_ca (goodIn_r _ [5, 6, 7, 8, 9, 10, 11, 12, 13, 14, 15, 16, 17, 18, 19, 20, 21, 22, 23, 24, 25, 26, 27, 28, 29, 30, 31, 32, 39, 40, 41, 42, 43, 44, 45, 46] (by decide +kernel) (by decide +kernel)) (goodIn_sub (fun _ h => List.mem_cons_of_mem _ (List.mem_append_right _ h)) (by decide +kernel))
set_option maxRecDepth 20000 in
theorem gX5_isInForce_X5_find : GoodIn wsX5_isInForce (wsV RX5 91 RX5 yX5_find wsX5_find) := goodIn_app (goodIn_of _ (by decide +kernel)) ggX5_isInForce_X5_find
set_option maxRecDepth 20000 in
theorem ggX5_isInForce_X0_isAlive : GoodIn wsX5_isInForce wsX0_isAlive := goodIn_r _ [37, 38, 47, 48, 49, 50, 51, 52, 53, 54] (by decide +kernel) (by decide +kernel)
set_option maxRecDepth 20000 in
theorem gX5_isInForce_X0_isAlive : GoodIn wsX5_isInForce (wsV RX5 145 RX0 yX0_isAlive wsX0_isAlive) := goodIn_app (goodIn_of _ (by decide +kernel)) ggX5_isInForce_X0_isAlive
theorem dX5_isInForce_0 : decode cX5_isInForce 0 = .ok (.aload_n 0, 1) := by decide +kernel
theorem dX5_isInForce_1 : decode cX5_isInForce 1 = .ok (.iload_n 1, 1) := by decide +kernel
theorem dX5_isInForce_2 : decode cX5_isInForce 2 = .ok (.invokevirtual 91, 3) := by decide +kernel
theorem dX5_isInForce_5 : decode cX5_isInForce 5 = .ok (.invokevirtual 145, 3) := by decide +kernel
theorem dX5_isInForce_8 : decode cX5_isInForce 8 = .ok (.ireturn, 1) := by decide +kernel
set_option maxRecDepth 20000 in
theorem ggX5_units_X5_find : GoodIn wsX5_units wsX5_find := goodIn_ca (goodIn_r _ [5, 6, 7, 8, 9, 10, 11, 12, 13, 14, 15, 16, 17, 18, 19, 20, 21, 22, 23, 24, 25, 26, 27, 28, 29, 30, 31, 32, 47, 48, 49, 50, 51, 52, 53, 54] (by decide +kernel) (by decide +kernel)) (goodIn_sub (fun _ h => List.mem_cons_of_mem _ (List.mem_append_left _ (List.mem_append_right _ h))) (by decide +kernel))
set_option maxRecDepth 20000 in
theorem gX5_units_X5_find : GoodIn wsX5_units (wsV RX5 91 RX5 yX5_find wsX5_find) := goodIn_app (goodIn_of _ (by decide +kernel)) ggX5_units_X5_find
set_option maxRecDepth 20000 in
theorem ggX5_units_X5_requireFund : GoodIn wsX5_units wsX5_requireFund := goodIn_ca (goodIn_r _ [35, 36, 37, 38, 39, 4, 40] (by decide +kernel) (by decide +kernel)) (goodIn_sub (fun _ h => List.mem_cons_of_mem _ (List.mem_append_right _ h)) (by decide +kernel))
set_option maxRecDepth 20000 in
theorem gX5_units_X5_requireFund : GoodIn wsX5_units (va_wsS RX5 58 yX5_requireFund wsX5_requireFund) := goodIn_app (goodIn_of _ (by decide +kernel)) ggX5_units_X5_requireFund
set_option maxRecDepth 20000 in
theorem ggX5_units_X0_accumulatedIn : GoodIn wsX5_units wsX0_accumulatedIn := goodIn_r _ [45, 46, 39, 4, 40, 55, 56, 57, 58, 59, 60, 61, 62] (by decide +kernel) (by decide +kernel)
set_option maxRecDepth 20000 in
theorem gX5_units_X0_accumulatedIn : GoodIn wsX5_units (wsV RX5 149 RX0 yX0_accumulatedIn wsX0_accumulatedIn) := goodIn_app (goodIn_of _ (by decide +kernel)) ggX5_units_X0_accumulatedIn
theorem dX5_units_0 : decode cX5_units 0 = .ok (.aload_n 0, 1) := by decide +kernel
theorem dX5_units_1 : decode cX5_units 1 = .ok (.iload_n 1, 1) := by decide +kernel
theorem dX5_units_2 : decode cX5_units 2 = .ok (.invokevirtual 91, 3) := by decide +kernel
theorem dX5_units_5 : decode cX5_units 5 = .ok (.astore_n 3, 1) := by decide +kernel
theorem dX5_units_6 : decode cX5_units 6 = .ok (.iload_n 2, 1) := by decide +kernel
theorem dX5_units_7 : decode cX5_units 7 = .ok (.invokestatic 58, 3) := by decide +kernel
theorem dX5_units_10 : decode cX5_units 10 = .ok (.aload_n 3, 1) := by decide +kernel
theorem dX5_units_11 : decode cX5_units 11 = .ok (.iload_n 2, 1) := by decide +kernel
theorem dX5_units_12 : decode cX5_units 12 = .ok (.invokevirtual 149, 3) := by decide +kernel
theorem dX5_units_15 : decode cX5_units 15 = .ok (.lreturn, 1) := by decide +kernel
set_option maxRecDepth 20000 in
theorem ggX5_initial_X5_find : GoodIn wsX5_initial wsX5_find := goodIn_ca (goodIn_r _ [5, 6, 7, 8, 9, 10, 11, 12, 13, 14, 15, 16, 17, 18, 19, 20, 21, 22, 23, 24, 25, 26, 27, 28, 29, 30, 31, 32, 39, 40, 41, 42, 43, 44, 45, 46] (by decide +kernel) (by decide +kernel)) (goodIn_sub (fun _ h => List.mem_cons_of_mem _ (List.mem_append_right _ h)) (by decide +kernel))
set_option maxRecDepth 20000 in
theorem gX5_initial_X5_find : GoodIn wsX5_initial (wsV RX5 91 RX5 yX5_find wsX5_find) := goodIn_app (goodIn_of _ (by decide +kernel)) ggX5_initial_X5_find
set_option maxRecDepth 20000 in
theorem ggX5_initial_X0_initialLeft : GoodIn wsX5_initial wsX0_initialLeft := goodIn_r _ [37, 38, 47, 48, 49, 50, 51, 52, 53, 54] (by decide +kernel) (by decide +kernel)
set_option maxRecDepth 20000 in
theorem gX5_initial_X0_initialLeft : GoodIn wsX5_initial (wsV RX5 153 RX0 yX0_initialLeft wsX0_initialLeft) := goodIn_app (goodIn_of _ (by decide +kernel)) ggX5_initial_X0_initialLeft
theorem dX5_initial_0 : decode cX5_initial 0 = .ok (.aload_n 0, 1) := by decide +kernel
theorem dX5_initial_1 : decode cX5_initial 1 = .ok (.iload_n 1, 1) := by decide +kernel
theorem dX5_initial_2 : decode cX5_initial 2 = .ok (.invokevirtual 91, 3) := by decide +kernel
theorem dX5_initial_5 : decode cX5_initial 5 = .ok (.invokevirtual 153, 3) := by decide +kernel
theorem dX5_initial_8 : decode cX5_initial 8 = .ok (.lreturn, 1) := by decide +kernel
set_option maxRecDepth 20000 in
theorem ggX5_worth_X5_find : GoodIn wsX5_worth wsX5_find := goodIn_ca (goodIn_r _ [6, 7, 8, 9, 10, 11, 12, 13, 14, 15, 16, 17, 18, 19, 20, 21, 22, 23, 24, 25, 26, 27, 28, 29, 30, 31, 32, 33, 58, 59, 60, 61, 62, 63, 64, 65] (by decide +kernel) (by decide +kernel)) (goodIn_sub (fun _ h => List.mem_cons_of_mem _ (List.mem_append_right _ h)) (by decide +kernel))
set_option maxRecDepth 20000 in
theorem gX5_worth_X5_find : GoodIn wsX5_worth (wsV RX5 91 RX5 yX5_find wsX5_find) := goodIn_app (goodIn_of _ (by decide +kernel)) ggX5_worth_X5_find
set_option maxRecDepth 20000 in
theorem ggX5_worth_X0_worthAt : GoodIn wsX5_worth wsX0_worthAt := goodIn_r _ [38, 39, 40, 41, 42, 43, 44, 45, 46, 47, 48, 49, 50, 51, 52, 53, 5, 54, 55, 56, 57, 66, 67, 68, 69, 70, 71, 72, 73, 74, 75] (by decide +kernel) (by decide +kernel)
set_option maxRecDepth 20000 in
theorem gX5_worth_X0_worthAt : GoodIn wsX5_worth (wsV RX5 157 RX0 yX0_worthAt wsX0_worthAt) := goodIn_app (goodIn_of _ (by decide +kernel)) ggX5_worth_X0_worthAt
theorem dX5_worth_0 : decode cX5_worth 0 = .ok (.aload_n 0, 1) := by decide +kernel
theorem dX5_worth_1 : decode cX5_worth 1 = .ok (.iload_n 1, 1) := by decide +kernel
theorem dX5_worth_2 : decode cX5_worth 2 = .ok (.invokevirtual 91, 3) := by decide +kernel
theorem dX5_worth_5 : decode cX5_worth 5 = .ok (.aload_n 0, 1) := by decide +kernel
theorem dX5_worth_6 : decode cX5_worth 6 = .ok (.getfield 10, 3) := by decide +kernel
theorem dX5_worth_9 : decode cX5_worth 9 = .ok (.invokevirtual 157, 3) := by decide +kernel
theorem dX5_worth_12 : decode cX5_worth 12 = .ok (.lreturn, 1) := by decide +kernel
set_option maxRecDepth 20000 in
theorem ggX5_paid_X5_find : GoodIn wsX5_paid wsX5_find := goodIn_ca (goodIn_r _ [5, 6, 7, 8, 9, 10, 11, 12, 13, 14, 15, 16, 17, 18, 19, 20, 21, 22, 23, 24, 25, 26, 27, 28, 29, 30, 31, 32, 39, 40, 41, 42, 43, 44, 45, 46] (by decide +kernel) (by decide +kernel)) (goodIn_sub (fun _ h => List.mem_cons_of_mem _ (List.mem_append_right _ h)) (by decide +kernel))
set_option maxRecDepth 20000 in
theorem gX5_paid_X5_find : GoodIn wsX5_paid (wsV RX5 91 RX5 yX5_find wsX5_find) := goodIn_app (goodIn_of _ (by decide +kernel)) ggX5_paid_X5_find
set_option maxRecDepth 20000 in
theorem ggX5_paid_X0_premiumsMade : GoodIn wsX5_paid wsX0_premiumsMade := goodIn_r _ [37, 38, 47, 48, 49, 50, 51, 52, 53, 54] (by decide +kernel) (by decide +kernel)
set_option maxRecDepth 20000 in
theorem gX5_paid_X0_premiumsMade : GoodIn wsX5_paid (wsV RX5 161 RX0 yX0_premiumsMade wsX0_premiumsMade) := goodIn_app (goodIn_of _ (by decide +kernel)) ggX5_paid_X0_premiumsMade
theorem dX5_paid_0 : decode cX5_paid 0 = .ok (.aload_n 0, 1) := by decide +kernel
theorem dX5_paid_1 : decode cX5_paid 1 = .ok (.iload_n 1, 1) := by decide +kernel
theorem dX5_paid_2 : decode cX5_paid 2 = .ok (.invokevirtual 91, 3) := by decide +kernel
theorem dX5_paid_5 : decode cX5_paid 5 = .ok (.invokevirtual 161, 3) := by decide +kernel
theorem dX5_paid_8 : decode cX5_paid 8 = .ok (.ireturn, 1) := by decide +kernel
set_option maxRecDepth 20000 in
theorem ggX5_fundUnits_X5_requireFund : GoodIn wsX5_fundUnits wsX5_requireFund := goodIn_ca (goodIn_r _ [6, 7, 8, 9, 10, 5, 11] (by decide +kernel) (by decide +kernel)) (goodIn_sub (fun _ h => List.mem_cons_of_mem _ (List.mem_append_right _ h)) (by decide +kernel))
set_option maxRecDepth 20000 in
theorem gX5_fundUnits_X5_requireFund : GoodIn wsX5_fundUnits (va_wsS RX5 58 yX5_requireFund wsX5_requireFund) := goodIn_app (goodIn_of _ (by decide +kernel)) ggX5_fundUnits_X5_requireFund
set_option maxRecDepth 20000 in
theorem ggX5_fundUnits_Jx4a65c_size_8abf5 : GoodIn wsX5_fundUnits wsJx4a65c_size_8abf5 := goodIn_r _ [16, 17, 52, 53, 54] (by decide +kernel) (by decide +kernel)
set_option maxRecDepth 20000 in
theorem gX5_fundUnits_Jx4a65c_size_8abf5 : GoodIn wsX5_fundUnits (wsV RX5 77 RJx4a65c yJx4a65c_size_8abf5 wsJx4a65c_size_8abf5) := goodIn_app (goodIn_of _ (by decide +kernel)) ggX5_fundUnits_Jx4a65c_size_8abf5
set_option maxRecDepth 20000 in
theorem ggX5_fundUnits_Jx4a65c_get_915e3 : GoodIn wsX5_fundUnits wsJx4a65c_get_915e3 := goodIn_r _ [21, 17, 22, 23, 24, 25, 26, 27, 28, 29, 30, 31, 32, 15, 33, 34, 52, 53, 54] (by decide +kernel) (by decide +kernel)
set_option maxRecDepth 20000 in
theorem gX5_fundUnits_Jx4a65c_get_915e3 : GoodIn wsX5_fundUnits (wsV RX5 164 RJx4a65c yJx4a65c_get_915e3 wsJx4a65c_get_915e3) := goodIn_app (goodIn_of _ (by decide +kernel)) ggX5_fundUnits_Jx4a65c_get_915e3
set_option maxRecDepth 20000 in
theorem ggX5_fundUnits_X0_allUnitsIn : GoodIn wsX5_fundUnits wsX0_allUnitsIn := goodIn_r _ [39, 40, 41, 42, 43, 44, 38, 45, 46, 10, 5, 11, 55, 56, 57, 58, 59, 60, 61, 62] (by decide +kernel) (by decide +kernel)
set_option maxRecDepth 20000 in
theorem gX5_fundUnits_X0_allUnitsIn : GoodIn wsX5_fundUnits (wsV RX5 168 RX0 yX0_allUnitsIn wsX0_allUnitsIn) := goodIn_app (goodIn_of _ (by decide +kernel)) ggX5_fundUnits_X0_allUnitsIn
theorem dX5_fundUnits_0 : decode cX5_fundUnits 0 = .ok (.iload_n 1, 1) := by decide +kernel
theorem dX5_fundUnits_1 : decode cX5_fundUnits 1 = .ok (.invokestatic 58, 3) := by decide +kernel
theorem dX5_fundUnits_4 : decode cX5_fundUnits 4 = .ok (.lconst 0, 1) := by decide +kernel
theorem dX5_fundUnits_5 : decode cX5_fundUnits 5 = .ok (.lstore_n 2, 1) := by decide +kernel
theorem dX5_fundUnits_6 : decode cX5_fundUnits 6 = .ok (.iconst 0, 1) := by decide +kernel
theorem dX5_fundUnits_7 : decode cX5_fundUnits 7 = .ok (.istore 4, 2) := by decide +kernel
theorem dX5_fundUnits_9 : decode cX5_fundUnits 9 = .ok (.iload 4, 2) := by decide +kernel
theorem dX5_fundUnits_11 : decode cX5_fundUnits 11 = .ok (.aload_n 0, 1) := by decide +kernel
theorem dX5_fundUnits_12 : decode cX5_fundUnits 12 = .ok (.getfield 19, 3) := by decide +kernel
theorem dX5_fundUnits_15 : decode cX5_fundUnits 15 = .ok (.invokevirtual 77, 3) := by decide +kernel
theorem dX5_fundUnits_18 : decode cX5_fundUnits 18 = .ok (.if_icmp .ge 28, 3) := by decide +kernel
theorem dX5_fundUnits_21 : decode cX5_fundUnits 21 = .ok (.lload_n 2, 1) := by decide +kernel
theorem dX5_fundUnits_22 : decode cX5_fundUnits 22 = .ok (.aload_n 0, 1) := by decide +kernel
theorem dX5_fundUnits_23 : decode cX5_fundUnits 23 = .ok (.getfield 19, 3) := by decide +kernel
theorem dX5_fundUnits_26 : decode cX5_fundUnits 26 = .ok (.iload 4, 2) := by decide +kernel
theorem dX5_fundUnits_28 : decode cX5_fundUnits 28 = .ok (.invokevirtual 164, 3) := by decide +kernel
theorem dX5_fundUnits_31 : decode cX5_fundUnits 31 = .ok (.checkcast 82, 3) := by decide +kernel
theorem dX5_fundUnits_34 : decode cX5_fundUnits 34 = .ok (.iload_n 1, 1) := by decide +kernel
theorem dX5_fundUnits_35 : decode cX5_fundUnits 35 = .ok (.invokevirtual 168, 3) := by decide +kernel
theorem dX5_fundUnits_38 : decode cX5_fundUnits 38 = .ok (.ladd, 1) := by decide +kernel
theorem dX5_fundUnits_39 : decode cX5_fundUnits 39 = .ok (.lstore_n 2, 1) := by decide +kernel
theorem dX5_fundUnits_40 : decode cX5_fundUnits 40 = .ok (.iinc 4 1, 3) := by decide +kernel
theorem dX5_fundUnits_43 : decode cX5_fundUnits 43 = .ok (.goto (-34), 3) := by decide +kernel
theorem dX5_fundUnits_46 : decode cX5_fundUnits 46 = .ok (.lload_n 2, 1) := by decide +kernel
theorem dX5_fundUnits_47 : decode cX5_fundUnits 47 = .ok (.lreturn, 1) := by decide +kernel
theorem dX5_charged_0 : decode cX5_charged 0 = .ok (.aload_n 0, 1) := by decide +kernel
theorem dX5_charged_1 : decode cX5_charged 1 = .ok (.getfield 171, 3) := by decide +kernel
theorem dX5_charged_4 : decode cX5_charged 4 = .ok (.lreturn, 1) := by decide +kernel
theorem dX5_madeGood_0 : decode cX5_madeGood 0 = .ok (.aload_n 0, 1) := by decide +kernel
theorem dX5_madeGood_1 : decode cX5_madeGood 1 = .ok (.getfield 136, 3) := by decide +kernel
theorem dX5_madeGood_4 : decode cX5_madeGood 4 = .ok (.lreturn, 1) := by decide +kernel
theorem dX5_isFund_0 : decode cX5_isFund 0 = .ok (.iload_n 0, 1) := by decide +kernel
theorem dX5_isFund_1 : decode cX5_isFund 1 = .ok (.ifCond .lt 12, 3) := by decide +kernel
theorem dX5_isFund_4 : decode cX5_isFund 4 = .ok (.iload_n 0, 1) := by decide +kernel
theorem dX5_isFund_5 : decode cX5_isFund 5 = .ok (.iconst 3, 1) := by decide +kernel
theorem dX5_isFund_6 : decode cX5_isFund 6 = .ok (.if_icmp .ge 7, 3) := by decide +kernel
theorem dX5_isFund_9 : decode cX5_isFund 9 = .ok (.iconst 1, 1) := by decide +kernel
theorem dX5_isFund_10 : decode cX5_isFund 10 = .ok (.goto 4, 3) := by decide +kernel
theorem dX5_isFund_13 : decode cX5_isFund 13 = .ok (.iconst 0, 1) := by decide +kernel
theorem dX5_isFund_14 : decode cX5_isFund 14 = .ok (.ireturn, 1) := by decide +kernel
theorem dX5_isBid_0 : decode cX5_isBid 0 = .ok (.iload_n 0, 1) := by decide +kernel
theorem dX5_isBid_1 : decode cX5_isBid 1 = .ok (.iconst 1, 1) := by decide +kernel
theorem dX5_isBid_2 : decode cX5_isBid 2 = .ok (.if_icmp .lt 13, 3) := by decide +kernel
theorem dX5_isBid_5 : decode cX5_isBid 5 = .ok (.iload_n 0, 1) := by decide +kernel
theorem dX5_isBid_6 : decode cX5_isBid 6 = .ok (.ldc 69, 2) := by decide +kernel
theorem dX5_isBid_8 : decode cX5_isBid 8 = .ok (.if_icmp .gt 7, 3) := by decide +kernel
theorem dX5_isBid_11 : decode cX5_isBid 11 = .ok (.iconst 1, 1) := by decide +kernel
theorem dX5_isBid_12 : decode cX5_isBid 12 = .ok (.goto 4, 3) := by decide +kernel
theorem dX5_isBid_15 : decode cX5_isBid 15 = .ok (.iconst 0, 1) := by decide +kernel
theorem dX5_isBid_16 : decode cX5_isBid 16 = .ok (.ireturn, 1) := by decide +kernel
set_option maxRecDepth 20000 in
theorem ggX5_requireFund_X5_isFund : GoodIn wsX5_requireFund wsX5_isFund := goodIn_r _ [6] (by decide +kernel) (by decide +kernel)
set_option maxRecDepth 20000 in
theorem gX5_requireFund_X5_isFund : GoodIn wsX5_requireFund (va_wsS RX5 174 yX5_isFund wsX5_isFund) := goodIn_app (goodIn_of _ (by decide +kernel)) ggX5_requireFund_X5_isFund
theorem dX5_requireFund_0 : decode cX5_requireFund 0 = .ok (.iload_n 0, 1) := by decide +kernel
theorem dX5_requireFund_1 : decode cX5_requireFund 1 = .ok (.invokestatic 174, 3) := by decide +kernel
theorem dX5_requireFund_4 : decode cX5_requireFund 4 = .ok (.ifCond .ne 13, 3) := by decide +kernel
theorem dX5_requireFund_17 : decode cX5_requireFund 17 = .ok (.return_, 1) := by decide +kernel
set_option maxRecDepth 20000 in
theorem ggX5_requireDay_X3_latestDay : GoodIn wsX5_requireDay wsX3_latestDay := goodIn_r _ [8, 9, 15, 16] (by decide +kernel) (by decide +kernel)
set_option maxRecDepth 20000 in
theorem gX5_requireDay_X3_latestDay : GoodIn wsX5_requireDay (wsV RX5 37 RX3 yX3_latestDay wsX3_latestDay) := goodIn_app (goodIn_of _ (by decide +kernel)) ggX5_requireDay_X3_latestDay
theorem dX5_requireDay_0 : decode cX5_requireDay 0 = .ok (.iload_n 1, 1) := by decide +kernel
theorem dX5_requireDay_1 : decode cX5_requireDay 1 = .ok (.ifCond .lt 14, 3) := by decide +kernel
theorem dX5_requireDay_4 : decode cX5_requireDay 4 = .ok (.iload_n 1, 1) := by decide +kernel
theorem dX5_requireDay_5 : decode cX5_requireDay 5 = .ok (.aload_n 0, 1) := by decide +kernel
theorem dX5_requireDay_6 : decode cX5_requireDay 6 = .ok (.getfield 10, 3) := by decide +kernel
theorem dX5_requireDay_9 : decode cX5_requireDay 9 = .ok (.invokevirtual 37, 3) := by decide +kernel
theorem dX5_requireDay_12 : decode cX5_requireDay 12 = .ok (.if_icmp .le 13, 3) := by decide +kernel
theorem dX5_requireDay_25 : decode cX5_requireDay 25 = .ok (.return_, 1) := by decide +kernel
set_option maxRecDepth 20000 in
theorem ggX5_requireInForce_X0_isAlive : GoodIn wsX5_requireInForce wsX0_isAlive := goodIn_r _ [7, 8, 9, 10, 11, 12, 13, 14, 15, 16] (by decide +kernel) (by decide +kernel)
set_option maxRecDepth 20000 in
theorem gX5_requireInForce_X0_isAlive : GoodIn wsX5_requireInForce (wsV RX5 145 RX0 yX0_isAlive wsX0_isAlive) := goodIn_app (goodIn_of _ (by decide +kernel)) ggX5_requireInForce_X0_isAlive
theorem dX5_requireInForce_0 : decode cX5_requireInForce 0 = .ok (.aload_n 0, 1) := by decide +kernel
theorem dX5_requireInForce_1 : decode cX5_requireInForce 1 = .ok (.invokevirtual 145, 3) := by decide +kernel
theorem dX5_requireInForce_4 : decode cX5_requireInForce 4 = .ok (.ifCond .ne 13, 3) := by decide +kernel
theorem dX5_requireInForce_17 : decode cX5_requireInForce 17 = .ok (.return_, 1) := by decide +kernel
set_option maxRecDepth 20000 in
theorem ggX5_find_Jx4a65c_size_8abf5 : GoodIn wsX5_find wsJx4a65c_size_8abf5 := goodIn_r _ [9, 10, 33, 34, 35] (by decide +kernel) (by decide +kernel)
set_option maxRecDepth 20000 in
theorem gX5_find_Jx4a65c_size_8abf5 : GoodIn wsX5_find (wsV RX5 77 RJx4a65c yJx4a65c_size_8abf5 wsJx4a65c_size_8abf5) := goodIn_app (goodIn_of _ (by decide +kernel)) ggX5_find_Jx4a65c_size_8abf5
set_option maxRecDepth 20000 in
theorem ggX5_find_Jx4a65c_get_915e3 : GoodIn wsX5_find wsJx4a65c_get_915e3 := goodIn_r _ [14, 10, 15, 16, 17, 18, 19, 20, 21, 22, 23, 24, 25, 8, 26, 27, 33, 34, 35] (by decide +kernel) (by decide +kernel)
set_option maxRecDepth 20000 in
theorem gX5_find_Jx4a65c_get_915e3 : GoodIn wsX5_find (wsV RX5 164 RJx4a65c yJx4a65c_get_915e3 wsJx4a65c_get_915e3) := goodIn_app (goodIn_of _ (by decide +kernel)) ggX5_find_Jx4a65c_get_915e3
theorem dX5_find_0 : decode cX5_find 0 = .ok (.iload_n 1, 1) := by decide +kernel
theorem dX5_find_1 : decode cX5_find 1 = .ok (.ifCond .lt 14, 3) := by decide +kernel
theorem dX5_find_4 : decode cX5_find 4 = .ok (.iload_n 1, 1) := by decide +kernel
theorem dX5_find_5 : decode cX5_find 5 = .ok (.aload_n 0, 1) := by decide +kernel
theorem dX5_find_6 : decode cX5_find 6 = .ok (.getfield 19, 3) := by decide +kernel
theorem dX5_find_9 : decode cX5_find 9 = .ok (.invokevirtual 77, 3) := by decide +kernel
theorem dX5_find_12 : decode cX5_find 12 = .ok (.if_icmp .lt 13, 3) := by decide +kernel
theorem dX5_find_25 : decode cX5_find 25 = .ok (.aload_n 0, 1) := by decide +kernel
theorem dX5_find_26 : decode cX5_find 26 = .ok (.getfield 19, 3) := by decide +kernel
theorem dX5_find_29 : decode cX5_find 29 = .ok (.iload_n 1, 1) := by decide +kernel
theorem dX5_find_30 : decode cX5_find 30 = .ok (.invokevirtual 164, 3) := by decide +kernel
theorem dX5_find_33 : decode cX5_find 33 = .ok (.checkcast 82, 3) := by decide +kernel
theorem dX5_find_36 : decode cX5_find 36 = .ok (.areturn, 1) := by decide +kernel
set_option maxRecDepth 20000 in
theorem ggX5_giveOrder_Jx4a65c_size_8abf5 : GoodIn wsX5_giveOrder wsJx4a65c_size_8abf5 := goodIn_r _ [6, 7, 67, 68, 69] (by decide +kernel) (by decide +kernel)
set_option maxRecDepth 20000 in
theorem gX5_giveOrder_Jx4a65c_size_8abf5 : GoodIn wsX5_giveOrder (wsV RX5 77 RJx4a65c yJx4a65c_size_8abf5 wsJx4a65c_size_8abf5) := goodIn_app (goodIn_of _ (by decide +kernel)) ggX5_giveOrder_Jx4a65c_size_8abf5
set_option maxRecDepth 20000 in
theorem ggX5_giveOrder_Jx4a65c_add_9ea2d : GoodIn wsX5_giveOrder wsJx4a65c_add_9ea2d := goodIn_r _ [11, 12, 13, 14, 7, 15, 16, 17, 5, 18, 19, 20, 21, 22, 23, 24, 25, 26, 27, 28, 29, 30, 31, 32, 33, 34, 35, 36, 37, 38, 39, 40, 41, 42, 43, 44, 45, 46, 47, 48, 49, 50, 51, 52, 53, 54, 55, 56, 57, 58, 59, 60, 61, 67, 68, 69] (by decide +kernel) (by decide +kernel)
set_option maxRecDepth 20000 in
theorem gX5_giveOrder_Jx4a65c_add_9ea2d : GoodIn wsX5_giveOrder (wsV RX5 87 RJx4a65c yJx4a65c_add_9ea2d wsJx4a65c_add_9ea2d) := goodIn_app (goodIn_of _ (by decide +kernel)) ggX5_giveOrder_Jx4a65c_add_9ea2d
theorem dX5_giveOrder_0 : decode cX5_giveOrder 0 = .ok (.aload_n 0, 1) := by decide +kernel
theorem dX5_giveOrder_1 : decode cX5_giveOrder 1 = .ok (.getfield 23, 3) := by decide +kernel
theorem dX5_giveOrder_4 : decode cX5_giveOrder 4 = .ok (.invokevirtual 77, 3) := by decide +kernel
theorem dX5_giveOrder_7 : decode cX5_giveOrder 7 = .ok (.sipush 512, 3) := by decide +kernel
theorem dX5_giveOrder_10 : decode cX5_giveOrder 10 = .ok (.if_icmp .ge 12, 3) := by decide +kernel
theorem dX5_giveOrder_13 : decode cX5_giveOrder 13 = .ok (.aload_n 0, 1) := by decide +kernel
theorem dX5_giveOrder_14 : decode cX5_giveOrder 14 = .ok (.getfield 23, 3) := by decide +kernel
theorem dX5_giveOrder_17 : decode cX5_giveOrder 17 = .ok (.aload_n 1, 1) := by decide +kernel
theorem dX5_giveOrder_18 : decode cX5_giveOrder 18 = .ok (.invokevirtual 87, 3) := by decide +kernel
theorem dX5_giveOrder_21 : decode cX5_giveOrder 21 = .ok (.pop, 1) := by decide +kernel
theorem dX5_giveOrder_22 : decode cX5_giveOrder 22 = .ok (.aload_n 0, 1) := by decide +kernel
theorem dX5_giveOrder_23 : decode cX5_giveOrder 23 = .ok (.getfield 23, 3) := by decide +kernel
theorem dX5_giveOrder_26 : decode cX5_giveOrder 26 = .ok (.invokevirtual 77, 3) := by decide +kernel
theorem dX5_giveOrder_29 : decode cX5_giveOrder 29 = .ok (.ireturn, 1) := by decide +kernel
set_option maxRecDepth 20000 in
theorem ggX5_beginDay_X3_addDay : GoodIn wsX5_beginDay wsX3_addDay := goodIn_r _ [8, 9, 10, 155, 156] (by decide +kernel) (by decide +kernel)
set_option maxRecDepth 20000 in
theorem gX5_beginDay_X3_addDay : GoodIn wsX5_beginDay (wsV RX5 188 RX3 yX3_addDay wsX3_addDay) := goodIn_app (goodIn_of _ (by decide +kernel)) ggX5_beginDay_X3_addDay
set_option maxRecDepth 20000 in
theorem ggX5_beginDay_Jx4a65c_size_8abf5 : GoodIn wsX5_beginDay wsJx4a65c_size_8abf5 := goodIn_r _ [15, 16, 157, 158, 159] (by decide +kernel) (by decide +kernel)
set_option maxRecDepth 20000 in
theorem gX5_beginDay_Jx4a65c_size_8abf5 : GoodIn wsX5_beginDay (wsV RX5 77 RJx4a65c yJx4a65c_size_8abf5 wsJx4a65c_size_8abf5) := goodIn_app (goodIn_of _ (by decide +kernel)) ggX5_beginDay_Jx4a65c_size_8abf5
set_option maxRecDepth 20000 in
theorem ggX5_beginDay_Jx4a65c_get_915e3 : GoodIn wsX5_beginDay wsJx4a65c_get_915e3 := goodIn_r _ [20, 16, 21, 22, 23, 24, 25, 26, 27, 28, 29, 30, 31, 14, 32, 33, 157, 158, 159] (by decide +kernel) (by decide +kernel)
set_option maxRecDepth 20000 in
theorem gX5_beginDay_Jx4a65c_get_915e3 : GoodIn wsX5_beginDay (wsV RX5 164 RJx4a65c yJx4a65c_get_915e3 wsJx4a65c_get_915e3) := goodIn_app (goodIn_of _ (by decide +kernel)) ggX5_beginDay_Jx4a65c_get_915e3
set_option maxRecDepth 20000 in
theorem ggX5_beginDay_X2_carryOut : GoodIn wsX5_beginDay wsX2_carryOut := goodIn_r _ [39, 40, 41, 42, 43, 44, 45, 46, 47, 48, 49, 50, 51, 52, 7, 53, 9, 54, 55, 56, 57, 58, 59, 60, 61, 10, 62, 63, 64, 65, 66, 67, 68, 69, 70, 71, 72, 73, 74, 75, 76, 77, 160, 161, 162, 163, 164, 165, 166, 167, 168, 155, 156] (by decide +kernel) (by decide +kernel)
set_option maxRecDepth 20000 in
theorem gX5_beginDay_X2_carryOut_u194X2 : GoodIn wsX5_beginDay (va_wsU RX5 194 RX2 "UnitContracts$Order" ⟨"UnitContracts$Order", "carryOut", "(LUnitContracts$Prices;)V"⟩ yX2_carryOut wsX2_carryOut) := goodIn_app (goodIn_of _ (by decide +kernel)) ggX5_beginDay_X2_carryOut
set_option maxRecDepth 20000 in
theorem ggX5_beginDay_X4_carryOut : GoodIn wsX5_beginDay wsX4_carryOut := goodIn_r _ [81, 82, 83, 84, 85, 86, 87, 88, 44, 89, 72, 90, 62, 63, 64, 91, 92, 93, 7, 94, 9, 58, 59, 60, 61, 10, 95, 96, 67, 65, 66, 68, 69, 70, 71, 73, 74, 75, 76, 77, 169, 170, 171, 172, 161, 162, 163, 164, 165, 166, 167, 168, 155, 156] (by decide +kernel) (by decide +kernel)
set_option maxRecDepth 20000 in
theorem gX5_beginDay_X4_carryOut_u194X4 : GoodIn wsX5_beginDay (va_wsU RX5 194 RX4 "UnitContracts$Order" ⟨"UnitContracts$Order", "carryOut", "(LUnitContracts$Prices;)V"⟩ yX4_carryOut wsX4_carryOut) := goodIn_app (goodIn_of _ (by decide +kernel)) ggX5_beginDay_X4_carryOut
set_option maxRecDepth 20000 in
theorem ggX5_beginDay_Jx4a65c_clear_da8c8 : GoodIn wsX5_beginDay wsJx4a65c_clear_da8c8 := goodIn_r _ [100, 101, 102, 33, 16, 157, 158, 159] (by decide +kernel) (by decide +kernel)
set_option maxRecDepth 20000 in
theorem gX5_beginDay_Jx4a65c_clear_da8c8 : GoodIn wsX5_beginDay (wsV RX5 198 RJx4a65c yJx4a65c_clear_da8c8 wsJx4a65c_clear_da8c8) := goodIn_app (goodIn_of _ (by decide +kernel)) ggX5_beginDay_Jx4a65c_clear_da8c8
set_option maxRecDepth 20000 in
theorem ggX5_beginDay_X3_latestDay : GoodIn wsX5_beginDay wsX3_latestDay := goodIn_r _ [106, 9, 155, 156] (by decide +kernel) (by decide +kernel)
set_option maxRecDepth 20000 in
theorem gX5_beginDay_X3_latestDay : GoodIn wsX5_beginDay (wsV RX5 37 RX3 yX3_latestDay wsX3_latestDay) := goodIn_app (goodIn_of _ (by decide +kernel)) ggX5_beginDay_X3_latestDay
set_option maxRecDepth 20000 in
theorem ggX5_beginDay_X5_chargeAll : GoodIn wsX5_beginDay wsX5_chargeAll := goodIn_r _ [110, 111, 112, 1, 113, 11, 12, 13, 14, 15, 16, 17, 18, 19, 20, 21, 22, 23, 24, 25, 26, 27, 28, 29, 30, 31, 32, 33, 114, 115, 116, 44, 117, 118, 103, 104, 105, 7, 106, 9, 119, 120, 121, 122, 49, 123, 90, 47, 124, 125, 68, 69, 70, 71, 72, 73, 74, 75, 76, 77, 62, 63, 64, 126, 127, 128, 129, 130, 131, 132, 133, 134, 135, 136, 137, 138, 139, 140, 91, 92, 93, 94, 58, 59, 60, 61, 10, 95, 96, 67, 141, 142, 143, 144, 145, 146, 147, 148, 149, 150, 151, 152, 153, 154, 157, 158, 159, 161, 162, 163, 164, 165, 166, 167, 168, 155, 156] (by decide +kernel) (by decide +kernel)
set_option maxRecDepth 20000 in
theorem gX5_beginDay_X5_chargeAll : GoodIn wsX5_beginDay (wsV RX5 201 RX5 yX5_chargeAll wsX5_chargeAll) := goodIn_app (goodIn_of _ (by decide +kernel)) ggX5_beginDay_X5_chargeAll
theorem dX5_beginDay_0 : decode cX5_beginDay 0 = .ok (.aload_n 0, 1) := by decide +kernel
theorem dX5_beginDay_1 : decode cX5_beginDay 1 = .ok (.getfield 10, 3) := by decide +kernel
theorem dX5_beginDay_4 : decode cX5_beginDay 4 = .ok (.iload_n 1, 1) := by decide +kernel
theorem dX5_beginDay_5 : decode cX5_beginDay 5 = .ok (.iload_n 2, 1) := by decide +kernel
theorem dX5_beginDay_6 : decode cX5_beginDay 6 = .ok (.iload_n 3, 1) := by decide +kernel
theorem dX5_beginDay_7 : decode cX5_beginDay 7 = .ok (.invokevirtual 188, 3) := by decide +kernel
theorem dX5_beginDay_10 : decode cX5_beginDay 10 = .ok (.iconst 0, 1) := by decide +kernel
theorem dX5_beginDay_11 : decode cX5_beginDay 11 = .ok (.istore 4, 2) := by decide +kernel
theorem dX5_beginDay_13 : decode cX5_beginDay 13 = .ok (.iload 4, 2) := by decide +kernel
theorem dX5_beginDay_15 : decode cX5_beginDay 15 = .ok (.aload_n 0, 1) := by decide +kernel
theorem dX5_beginDay_16 : decode cX5_beginDay 16 = .ok (.getfield 23, 3) := by decide +kernel
theorem dX5_beginDay_19 : decode cX5_beginDay 19 = .ok (.invokevirtual 77, 3) := by decide +kernel
theorem dX5_beginDay_22 : decode cX5_beginDay 22 = .ok (.if_icmp .ge 28, 3) := by decide +kernel
theorem dX5_beginDay_25 : decode cX5_beginDay 25 = .ok (.aload_n 0, 1) := by decide +kernel
theorem dX5_beginDay_26 : decode cX5_beginDay 26 = .ok (.getfield 23, 3) := by decide +kernel
theorem dX5_beginDay_29 : decode cX5_beginDay 29 = .ok (.iload 4, 2) := by decide +kernel
theorem dX5_beginDay_31 : decode cX5_beginDay 31 = .ok (.invokevirtual 164, 3) := by decide +kernel
theorem dX5_beginDay_34 : decode cX5_beginDay 34 = .ok (.checkcast 192, 3) := by decide +kernel
theorem dX5_beginDay_37 : decode cX5_beginDay 37 = .ok (.aload_n 0, 1) := by decide +kernel
theorem dX5_beginDay_38 : decode cX5_beginDay 38 = .ok (.getfield 10, 3) := by decide +kernel
theorem dX5_beginDay_41 : decode cX5_beginDay 41 = .ok (.invokevirtual 194, 3) := by decide +kernel
theorem dX5_beginDay_44 : decode cX5_beginDay 44 = .ok (.iinc 4 1, 3) := by decide +kernel
theorem dX5_beginDay_47 : decode cX5_beginDay 47 = .ok (.goto (-34), 3) := by decide +kernel
theorem dX5_beginDay_50 : decode cX5_beginDay 50 = .ok (.aload_n 0, 1) := by decide +kernel
theorem dX5_beginDay_51 : decode cX5_beginDay 51 = .ok (.getfield 23, 3) := by decide +kernel
theorem dX5_beginDay_54 : decode cX5_beginDay 54 = .ok (.invokevirtual 198, 3) := by decide +kernel
theorem dX5_beginDay_57 : decode cX5_beginDay 57 = .ok (.aload_n 0, 1) := by decide +kernel
theorem dX5_beginDay_58 : decode cX5_beginDay 58 = .ok (.getfield 10, 3) := by decide +kernel
theorem dX5_beginDay_61 : decode cX5_beginDay 61 = .ok (.invokevirtual 37, 3) := by decide +kernel
theorem dX5_beginDay_64 : decode cX5_beginDay 64 = .ok (.bipush 30, 2) := by decide +kernel
theorem dX5_beginDay_66 : decode cX5_beginDay 66 = .ok (.irem, 1) := by decide +kernel
theorem dX5_beginDay_67 : decode cX5_beginDay 67 = .ok (.ifCond .ne 10, 3) := by decide +kernel
theorem dX5_beginDay_70 : decode cX5_beginDay 70 = .ok (.aload_n 0, 1) := by decide +kernel
theorem dX5_beginDay_71 : decode cX5_beginDay 71 = .ok (.invokevirtual 201, 3) := by decide +kernel
theorem dX5_beginDay_74 : decode cX5_beginDay 74 = .ok (.goto 4, 3) := by decide +kernel
theorem dX5_beginDay_77 : decode cX5_beginDay 77 = .ok (.iconst 0, 1) := by decide +kernel
theorem dX5_beginDay_78 : decode cX5_beginDay 78 = .ok (.ireturn, 1) := by decide +kernel
set_option maxRecDepth 20000 in
theorem ggX5_chargeAll_Jx4a65c_size_8abf5 : GoodIn wsX5_chargeAll wsJx4a65c_size_8abf5 := goodIn_r _ [9, 10, 104, 105, 106] (by decide +kernel) (by decide +kernel)
set_option maxRecDepth 20000 in
theorem gX5_chargeAll_Jx4a65c_size_8abf5 : GoodIn wsX5_chargeAll (wsV RX5 77 RJx4a65c yJx4a65c_size_8abf5 wsJx4a65c_size_8abf5) := goodIn_app (goodIn_of _ (by decide +kernel)) ggX5_chargeAll_Jx4a65c_size_8abf5
set_option maxRecDepth 20000 in
theorem ggX5_chargeAll_Jx4a65c_get_915e3 : GoodIn wsX5_chargeAll wsJx4a65c_get_915e3 := goodIn_r _ [14, 10, 15, 16, 17, 18, 19, 20, 21, 22, 23, 24, 25, 8, 26, 27, 104, 105, 106] (by decide +kernel) (by decide +kernel)
set_option maxRecDepth 20000 in
theorem gX5_chargeAll_Jx4a65c_get_915e3 : GoodIn wsX5_chargeAll (wsV RX5 164 RJx4a65c yJx4a65c_get_915e3 wsJx4a65c_get_915e3) := goodIn_app (goodIn_of _ (by decide +kernel)) ggX5_chargeAll_Jx4a65c_get_915e3
set_option maxRecDepth 20000 in
theorem ggX5_chargeAll_X0_isAlive : GoodIn wsX5_chargeAll wsX0_isAlive := goodIn_r _ [32, 33, 107, 108, 109, 110, 111, 112, 113, 114] (by decide +kernel) (by decide +kernel)
set_option maxRecDepth 20000 in
theorem gX5_chargeAll_X0_isAlive : GoodIn wsX5_chargeAll (wsV RX5 145 RX0 yX0_isAlive wsX0_isAlive) := goodIn_app (goodIn_of _ (by decide +kernel)) ggX5_chargeAll_X0_isAlive
set_option maxRecDepth 20000 in
theorem ggX5_chargeAll_X3_latestDay : GoodIn wsX5_chargeAll wsX3_latestDay := goodIn_r _ [38, 39, 115, 116] (by decide +kernel) (by decide +kernel)
set_option maxRecDepth 20000 in
theorem gX5_chargeAll_X3_latestDay : GoodIn wsX5_chargeAll (wsV RX5 37 RX3 yX3_latestDay wsX3_latestDay) := goodIn_app (goodIn_of _ (by decide +kernel)) ggX5_chargeAll_X3_latestDay
set_option maxRecDepth 20000 in
theorem ggX5_chargeAll_X0_ageInitial : GoodIn wsX5_chargeAll wsX0_ageInitial := goodIn_r _ [43, 44, 45, 46, 47, 48, 49, 50, 51, 52, 31, 53, 54, 55, 56, 57, 58, 59, 60, 61, 62, 107, 108, 109, 110, 111, 112, 113, 114] (by decide +kernel) (by decide +kernel)
set_option maxRecDepth 20000 in
theorem gX5_chargeAll_X0_ageInitial : GoodIn wsX5_chargeAll (wsV RX5 204 RX0 yX0_ageInitial wsX0_ageInitial) := goodIn_app (goodIn_of _ (by decide +kernel)) ggX5_chargeAll_X0_ageInitial
set_option maxRecDepth 20000 in
theorem ggX5_chargeAll_X0_takeCharge : GoodIn wsX5_chargeAll wsX0_takeCharge := goodIn_r _ [66, 67, 68, 69, 58, 70, 71, 72, 73, 74, 75, 76, 31, 77, 44, 47, 54, 78, 79, 80, 37, 81, 39, 82, 83, 84, 85, 86, 60, 61, 62, 87, 88, 89, 90, 91, 92, 93, 94, 56, 57, 59, 95, 96, 97, 98, 33, 107, 108, 109, 110, 111, 112, 113, 114, 115, 116] (by decide +kernel) (by decide +kernel)
set_option maxRecDepth 20000 in
theorem gX5_chargeAll_X0_takeCharge : GoodIn wsX5_chargeAll (wsV RX5 207 RX0 yX0_takeCharge wsX0_takeCharge) := goodIn_app (goodIn_of _ (by decide +kernel)) ggX5_chargeAll_X0_takeCharge
theorem dX5_chargeAll_0 : decode cX5_chargeAll 0 = .ok (.iconst 0, 1) := by decide +kernel
theorem dX5_chargeAll_1 : decode cX5_chargeAll 1 = .ok (.istore_n 1, 1) := by decide +kernel
theorem dX5_chargeAll_2 : decode cX5_chargeAll 2 = .ok (.iconst 0, 1) := by decide +kernel
theorem dX5_chargeAll_3 : decode cX5_chargeAll 3 = .ok (.istore_n 2, 1) := by decide +kernel
theorem dX5_chargeAll_4 : decode cX5_chargeAll 4 = .ok (.iload_n 2, 1) := by decide +kernel
theorem dX5_chargeAll_5 : decode cX5_chargeAll 5 = .ok (.aload_n 0, 1) := by decide +kernel
theorem dX5_chargeAll_6 : decode cX5_chargeAll 6 = .ok (.getfield 19, 3) := by decide +kernel
theorem dX5_chargeAll_9 : decode cX5_chargeAll 9 = .ok (.invokevirtual 77, 3) := by decide +kernel
theorem dX5_chargeAll_12 : decode cX5_chargeAll 12 = .ok (.if_icmp .ge 71, 3) := by decide +kernel
theorem dX5_chargeAll_15 : decode cX5_chargeAll 15 = .ok (.aload_n 0, 1) := by decide +kernel
theorem dX5_chargeAll_16 : decode cX5_chargeAll 16 = .ok (.getfield 19, 3) := by decide +kernel
theorem dX5_chargeAll_19 : decode cX5_chargeAll 19 = .ok (.iload_n 2, 1) := by decide +kernel
theorem dX5_chargeAll_20 : decode cX5_chargeAll 20 = .ok (.invokevirtual 164, 3) := by decide +kernel
theorem dX5_chargeAll_23 : decode cX5_chargeAll 23 = .ok (.checkcast 82, 3) := by decide +kernel
theorem dX5_chargeAll_26 : decode cX5_chargeAll 26 = .ok (.astore_n 3, 1) := by decide +kernel
theorem dX5_chargeAll_27 : decode cX5_chargeAll 27 = .ok (.aload_n 3, 1) := by decide +kernel
theorem dX5_chargeAll_28 : decode cX5_chargeAll 28 = .ok (.invokevirtual 145, 3) := by decide +kernel
theorem dX5_chargeAll_31 : decode cX5_chargeAll 31 = .ok (.ifCond .eq 46, 3) := by decide +kernel
theorem dX5_chargeAll_34 : decode cX5_chargeAll 34 = .ok (.aload_n 3, 1) := by decide +kernel
theorem dX5_chargeAll_35 : decode cX5_chargeAll 35 = .ok (.aload_n 0, 1) := by decide +kernel
theorem dX5_chargeAll_36 : decode cX5_chargeAll 36 = .ok (.getfield 10, 3) := by decide +kernel
theorem dX5_chargeAll_39 : decode cX5_chargeAll 39 = .ok (.invokevirtual 37, 3) := by decide +kernel
theorem dX5_chargeAll_42 : decode cX5_chargeAll 42 = .ok (.invokevirtual 204, 3) := by decide +kernel
theorem dX5_chargeAll_45 : decode cX5_chargeAll 45 = .ok (.aload_n 0, 1) := by decide +kernel
theorem dX5_chargeAll_46 : decode cX5_chargeAll 46 = .ok (.dup, 1) := by decide +kernel
theorem dX5_chargeAll_47 : decode cX5_chargeAll 47 = .ok (.getfield 171, 3) := by decide +kernel
theorem dX5_chargeAll_50 : decode cX5_chargeAll 50 = .ok (.aload_n 3, 1) := by decide +kernel
theorem dX5_chargeAll_51 : decode cX5_chargeAll 51 = .ok (.aload_n 0, 1) := by decide +kernel
theorem dX5_chargeAll_52 : decode cX5_chargeAll 52 = .ok (.getfield 10, 3) := by decide +kernel
theorem dX5_chargeAll_55 : decode cX5_chargeAll 55 = .ok (.invokevirtual 207, 3) := by decide +kernel
theorem dX5_chargeAll_58 : decode cX5_chargeAll 58 = .ok (.ladd, 1) := by decide +kernel
theorem dX5_chargeAll_59 : decode cX5_chargeAll 59 = .ok (.putfield 171, 3) := by decide +kernel
theorem dX5_chargeAll_62 : decode cX5_chargeAll 62 = .ok (.iload_n 1, 1) := by decide +kernel
theorem dX5_chargeAll_63 : decode cX5_chargeAll 63 = .ok (.aload_n 3, 1) := by decide +kernel
theorem dX5_chargeAll_64 : decode cX5_chargeAll 64 = .ok (.invokevirtual 145, 3) := by decide +kernel
theorem dX5_chargeAll_67 : decode cX5_chargeAll 67 = .ok (.ifCond .eq 7, 3) := by decide +kernel
theorem dX5_chargeAll_70 : decode cX5_chargeAll 70 = .ok (.iconst 0, 1) := by decide +kernel
theorem dX5_chargeAll_71 : decode cX5_chargeAll 71 = .ok (.goto 4, 3) := by decide +kernel
theorem dX5_chargeAll_74 : decode cX5_chargeAll 74 = .ok (.iconst 1, 1) := by decide +kernel
theorem dX5_chargeAll_75 : decode cX5_chargeAll 75 = .ok (.iadd, 1) := by decide +kernel
theorem dX5_chargeAll_76 : decode cX5_chargeAll 76 = .ok (.istore_n 1, 1) := by decide +kernel
theorem dX5_chargeAll_77 : decode cX5_chargeAll 77 = .ok (.iinc 2 1, 3) := by decide +kernel
theorem dX5_chargeAll_80 : decode cX5_chargeAll 80 = .ok (.goto (-76), 3) := by decide +kernel
theorem dX5_chargeAll_83 : decode cX5_chargeAll 83 = .ok (.iload_n 1, 1) := by decide +kernel
theorem dX5_chargeAll_84 : decode cX5_chargeAll 84 = .ok (.ireturn, 1) := by decide +kernel
theorem dX5_moneyFor_0 : decode cX5_moneyFor 0 = .ok (.lload_n 0, 1) := by decide +kernel
theorem dX5_moneyFor_1 : decode cX5_moneyFor 1 = .ok (.lload_n 2, 1) := by decide +kernel
theorem dX5_moneyFor_2 : decode cX5_moneyFor 2 = .ok (.lmul, 1) := by decide +kernel
theorem dX5_moneyFor_3 : decode cX5_moneyFor 3 = .ok (.ldc2_w 210, 3) := by decide +kernel
theorem dX5_moneyFor_6 : decode cX5_moneyFor 6 = .ok (.ldiv, 1) := by decide +kernel
theorem dX5_moneyFor_7 : decode cX5_moneyFor 7 = .ok (.lreturn, 1) := by decide +kernel
theorem dX5_unitsFor_0 : decode cX5_unitsFor 0 = .ok (.lload_n 2, 1) := by decide +kernel
theorem dX5_unitsFor_1 : decode cX5_unitsFor 1 = .ok (.lconst 1, 1) := by decide +kernel
theorem dX5_unitsFor_2 : decode cX5_unitsFor 2 = .ok (.lcmp, 1) := by decide +kernel
theorem dX5_unitsFor_3 : decode cX5_unitsFor 3 = .ok (.ifCond .ge 7, 3) := by decide +kernel
theorem dX5_unitsFor_6 : decode cX5_unitsFor 6 = .ok (.lconst 0, 1) := by decide +kernel
theorem dX5_unitsFor_7 : decode cX5_unitsFor 7 = .ok (.goto 10, 3) := by decide +kernel
theorem dX5_unitsFor_10 : decode cX5_unitsFor 10 = .ok (.lload_n 0, 1) := by decide +kernel
theorem dX5_unitsFor_11 : decode cX5_unitsFor 11 = .ok (.ldc2_w 210, 3) := by decide +kernel
theorem dX5_unitsFor_14 : decode cX5_unitsFor 14 = .ok (.lmul, 1) := by decide +kernel
theorem dX5_unitsFor_15 : decode cX5_unitsFor 15 = .ok (.lload_n 2, 1) := by decide +kernel
theorem dX5_unitsFor_16 : decode cX5_unitsFor 16 = .ok (.ldiv, 1) := by decide +kernel
theorem dX5_unitsFor_17 : decode cX5_unitsFor 17 = .ok (.lreturn, 1) := by decide +kernel
