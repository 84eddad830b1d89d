theorem dX0_restoreCell_84 : decode cX0_restoreCell 84 = .ok (.lload_n 3, 1) := by decide +kernel
theorem dX0_restoreCell_85 : decode cX0_restoreCell 85 = .ok (.invokevirtual 124, 3) := by decide +kernel
theorem dX0_restoreCell_88 : decode cX0_restoreCell 88 = .ok (.return_, 1) := by decide +kernel
set_option maxRecDepth 20000 in
theorem ggX0_writeWhereOther_X0_slot : GoodIn wsX0_writeWhereOther wsX0_slot := goodIn_r _ [5] (by decide +kernel) (by decide +kernel)
set_option maxRecDepth 20000 in
theorem gX0_writeWhereOther_X0_slot : GoodIn wsX0_writeWhereOther (va_wsS RX0 110 yX0_slot wsX0_slot) := goodIn_app (goodIn_of _ (by decide +kernel)) ggX0_writeWhereOther_X0_slot
set_option maxRecDepth 20000 in
theorem ggX0_writeWhereOther_X0_writeTurn : GoodIn wsX0_writeWhereOther wsX0_writeTurn := goodIn_r _ [9, 10, 1, 11, 12, 13, 4, 14, 15, 16, 17, 18, 19, 20, 2, 3, 5, 21, 22, 23, 24, 25, 26] (by decide +kernel) (by decide +kernel)
set_option maxRecDepth 20000 in
theorem gX0_writeWhereOther_X0_writeTurn : GoodIn wsX0_writeWhereOther (wsV RX0 44 RX0 yX0_writeTurn wsX0_writeTurn) := goodIn_app (goodIn_of _ (by decide +kernel)) ggX0_writeWhereOther_X0_writeTurn
theorem dX0_writeWhereOther_0 : decode cX0_writeWhereOther 0 = .ok (.iconst 0, 1) := by decide +kernel
theorem dX0_writeWhereOther_1 : decode cX0_writeWhereOther 1 = .ok (.istore 4, 2) := by decide +kernel
theorem dX0_writeWhereOther_3 : decode cX0_writeWhereOther 3 = .ok (.iload 4, 2) := by decide +kernel
theorem dX0_writeWhereOther_5 : decode cX0_writeWhereOther 5 = .ok (.iconst 4, 1) := by decide +kernel
theorem dX0_writeWhereOther_6 : decode cX0_writeWhereOther 6 = .ok (.if_icmp .ge 33, 3) := by decide +kernel
theorem dX0_writeWhereOther_9 : decode cX0_writeWhereOther 9 = .ok (.aload_n 0, 1) := by decide +kernel
theorem dX0_writeWhereOther_10 : decode cX0_writeWhereOther 10 = .ok (.getfield 9, 3) := by decide +kernel
theorem dX0_writeWhereOther_13 : decode cX0_writeWhereOther 13 = .ok (.iload 4, 2) := by decide +kernel
theorem dX0_writeWhereOther_15 : decode cX0_writeWhereOther 15 = .ok (.iload_n 1, 1) := by decide +kernel
theorem dX0_writeWhereOther_16 : decode cX0_writeWhereOther 16 = .ok (.invokestatic 110, 3) := by decide +kernel
theorem dX0_writeWhereOther_19 : decode cX0_writeWhereOther 19 = .ok (.laload, 1) := by decide +kernel
theorem dX0_writeWhereOther_20 : decode cX0_writeWhereOther 20 = .ok (.lload_n 2, 1) := by decide +kernel
theorem dX0_writeWhereOther_21 : decode cX0_writeWhereOther 21 = .ok (.lcmp, 1) := by decide +kernel
theorem dX0_writeWhereOther_22 : decode cX0_writeWhereOther 22 = .ok (.ifCond .eq 11, 3) := by decide +kernel
theorem dX0_writeWhereOther_25 : decode cX0_writeWhereOther 25 = .ok (.aload_n 0, 1) := by decide +kernel
theorem dX0_writeWhereOther_26 : decode cX0_writeWhereOther 26 = .ok (.iload 4, 2) := by decide +kernel
theorem dX0_writeWhereOther_28 : decode cX0_writeWhereOther 28 = .ok (.iload_n 1, 1) := by decide +kernel
theorem dX0_writeWhereOther_29 : decode cX0_writeWhereOther 29 = .ok (.lload_n 2, 1) := by decide +kernel
theorem dX0_writeWhereOther_30 : decode cX0_writeWhereOther 30 = .ok (.invokevirtual 44, 3) := by decide +kernel
theorem dX0_writeWhereOther_33 : decode cX0_writeWhereOther 33 = .ok (.iinc 4 1, 3) := by decide +kernel
theorem dX0_writeWhereOther_36 : decode cX0_writeWhereOther 36 = .ok (.goto (-33), 3) := by decide +kernel
theorem dX0_writeWhereOther_39 : decode cX0_writeWhereOther 39 = .ok (.return_, 1) := by decide +kernel
set_option maxRecDepth 20000 in
theorem ggX0_slipIsPending_X0_foundIn : GoodIn wsX0_slipIsPending wsX0_foundIn := goodIn_r _ [6, 7, 8, 9, 5, 10, 34, 35, 36, 37, 38, 39] (by decide +kernel) (by decide +kernel)
set_option maxRecDepth 20000 in
theorem gX0_slipIsPending_X0_foundIn : GoodIn wsX0_slipIsPending (wsV RX0 127 RX0 yX0_foundIn wsX0_foundIn) := goodIn_app (goodIn_of _ (by decide +kernel)) ggX0_slipIsPending_X0_foundIn
set_option maxRecDepth 20000 in
theorem ggX0_slipIsPending_X0_numberOf : GoodIn wsX0_slipIsPending wsX0_numberOf := goodIn_r _ [13, 14] (by decide +kernel) (by decide +kernel)
set_option maxRecDepth 20000 in
theorem gX0_slipIsPending_X0_numberOf : GoodIn wsX0_slipIsPending (va_wsS RX0 80 yX0_numberOf wsX0_numberOf) := goodIn_app (goodIn_of _ (by decide +kernel)) ggX0_slipIsPending_X0_numberOf
set_option maxRecDepth 20000 in
theorem ggX0_slipIsPending_X0_isValid : GoodIn wsX0_slipIsPending wsX0_isValid := goodIn_r _ [17, 18, 19, 20, 5, 21] (by decide +kernel) (by decide +kernel)
set_option maxRecDepth 20000 in
theorem gX0_slipIsPending_X0_isValid : GoodIn wsX0_slipIsPending (va_wsS RX0 60 yX0_isValid wsX0_isValid) := goodIn_app (goodIn_of _ (by decide +kernel)) ggX0_slipIsPending_X0_isValid
set_option maxRecDepth 20000 in
theorem ggX0_slipIsPending_X0_balanceOf : GoodIn wsX0_slipIsPending wsX0_balanceOf := goodIn_r _ [24] (by decide +kernel) (by decide +kernel)
set_option maxRecDepth 20000 in
theorem gX0_slipIsPending_X0_balanceOf : GoodIn wsX0_slipIsPending (va_wsS RX0 67 yX0_balanceOf wsX0_balanceOf) := goodIn_app (goodIn_of _ (by decide +kernel)) ggX0_slipIsPending_X0_balanceOf
set_option maxRecDepth 20000 in
theorem ggX0_slipIsPending_X0_fromOf : GoodIn wsX0_slipIsPending wsX0_fromOf := goodIn_r _ [27] (by decide +kernel) (by decide +kernel)
set_option maxRecDepth 20000 in
theorem gX0_slipIsPending_X0_fromOf : GoodIn wsX0_slipIsPending (va_wsS RX0 130 yX0_fromOf wsX0_fromOf) := goodIn_app (goodIn_of _ (by decide +kernel)) ggX0_slipIsPending_X0_fromOf
set_option maxRecDepth 20000 in
theorem ggX0_slipIsPending_X0_isAccount : GoodIn wsX0_slipIsPending wsX0_isAccount := goodIn_r _ [30] (by decide +kernel) (by decide +kernel)
set_option maxRecDepth 20000 in
theorem gX0_slipIsPending_X0_isAccount : GoodIn wsX0_slipIsPending (va_wsS RX0 29 yX0_isAccount wsX0_isAccount) := goodIn_app (goodIn_of _ (by decide +kernel)) ggX0_slipIsPending_X0_isAccount
set_option maxRecDepth 20000 in
theorem ggX0_slipIsPending_X0_toOf : GoodIn wsX0_slipIsPending wsX0_toOf := goodIn_r _ [33] (by decide +kernel) (by decide +kernel)
set_option maxRecDepth 20000 in
theorem gX0_slipIsPending_X0_toOf : GoodIn wsX0_slipIsPending (va_wsS RX0 134 yX0_toOf wsX0_toOf) := goodIn_app (goodIn_of _ (by decide +kernel)) ggX0_slipIsPending_X0_toOf
theorem dX0_slipIsPending_0 : decode cX0_slipIsPending 0 = .ok (.aload_n 0, 1) := by decide +kernel
theorem dX0_slipIsPending_1 : decode cX0_slipIsPending 1 = .ok (.bipush 16, 2) := by decide +kernel
theorem dX0_slipIsPending_3 : decode cX0_slipIsPending 3 = .ok (.invokevirtual 127, 3) := by decide +kernel
theorem dX0_slipIsPending_6 : decode cX0_slipIsPending 6 = .ok (.invokestatic 80, 3) := by decide +kernel
theorem dX0_slipIsPending_9 : decode cX0_slipIsPending 9 = .ok (.istore_n 1, 1) := by decide +kernel
theorem dX0_slipIsPending_10 : decode cX0_slipIsPending 10 = .ok (.bipush 16, 2) := by decide +kernel
theorem dX0_slipIsPending_12 : decode cX0_slipIsPending 12 = .ok (.istore_n 2, 1) := by decide +kernel
theorem dX0_slipIsPending_13 : decode cX0_slipIsPending 13 = .ok (.iload_n 2, 1) := by decide +kernel
theorem dX0_slipIsPending_14 : decode cX0_slipIsPending 14 = .ok (.bipush 19, 2) := by decide +kernel
theorem dX0_slipIsPending_16 : decode cX0_slipIsPending 16 = .ok (.if_icmp .gt 32, 3) := by decide +kernel
theorem dX0_slipIsPending_19 : decode cX0_slipIsPending 19 = .ok (.aload_n 0, 1) := by decide +kernel
theorem dX0_slipIsPending_20 : decode cX0_slipIsPending 20 = .ok (.iload_n 2, 1) := by decide +kernel
theorem dX0_slipIsPending_21 : decode cX0_slipIsPending 21 = .ok (.invokevirtual 127, 3) := by decide +kernel
theorem dX0_slipIsPending_24 : decode cX0_slipIsPending 24 = .ok (.lstore_n 3, 1) := by decide +kernel
theorem dX0_slipIsPending_25 : decode cX0_slipIsPending 25 = .ok (.lload_n 3, 1) := by decide +kernel
theorem dX0_slipIsPending_26 : decode cX0_slipIsPending 26 = .ok (.invokestatic 60, 3) := by decide +kernel
theorem dX0_slipIsPending_29 : decode cX0_slipIsPending 29 = .ok (.ifCond .eq 11, 3) := by decide +kernel
theorem dX0_slipIsPending_32 : decode cX0_slipIsPending 32 = .ok (.lload_n 3, 1) := by decide +kernel
theorem dX0_slipIsPending_33 : decode cX0_slipIsPending 33 = .ok (.invokestatic 80, 3) := by decide +kernel
theorem dX0_slipIsPending_36 : decode cX0_slipIsPending 36 = .ok (.iload_n 1, 1) := by decide +kernel
theorem dX0_slipIsPending_37 : decode cX0_slipIsPending 37 = .ok (.if_icmp .eq 5, 3) := by decide +kernel
theorem dX0_slipIsPending_40 : decode cX0_slipIsPending 40 = .ok (.iconst 0, 1) := by decide +kernel
theorem dX0_slipIsPending_41 : decode cX0_slipIsPending 41 = .ok (.ireturn, 1) := by decide +kernel
theorem dX0_slipIsPending_42 : decode cX0_slipIsPending 42 = .ok (.iinc 2 1, 3) := by decide +kernel
theorem dX0_slipIsPending_45 : decode cX0_slipIsPending 45 = .ok (.goto (-32), 3) := by decide +kernel
theorem dX0_slipIsPending_48 : decode cX0_slipIsPending 48 = .ok (.aload_n 0, 1) := by decide +kernel
theorem dX0_slipIsPending_49 : decode cX0_slipIsPending 49 = .ok (.bipush 19, 2) := by decide +kernel
theorem dX0_slipIsPending_51 : decode cX0_slipIsPending 51 = .ok (.invokevirtual 127, 3) := by decide +kernel
theorem dX0_slipIsPending_54 : decode cX0_slipIsPending 54 = .ok (.invokestatic 67, 3) := by decide +kernel
theorem dX0_slipIsPending_57 : decode cX0_slipIsPending 57 = .ok (.istore_n 2, 1) := by decide +kernel
theorem dX0_slipIsPending_58 : decode cX0_slipIsPending 58 = .ok (.iload_n 2, 1) := by decide +kernel
theorem dX0_slipIsPending_59 : decode cX0_slipIsPending 59 = .ok (.ldc 91, 2) := by decide +kernel
theorem dX0_slipIsPending_61 : decode cX0_slipIsPending 61 = .ok (.iand, 1) := by decide +kernel
theorem dX0_slipIsPending_62 : decode cX0_slipIsPending 62 = .ok (.ifCond .eq 27, 3) := by decide +kernel
theorem dX0_slipIsPending_65 : decode cX0_slipIsPending 65 = .ok (.iload_n 2, 1) := by decide +kernel
theorem dX0_slipIsPending_66 : decode cX0_slipIsPending 66 = .ok (.invokestatic 130, 3) := by decide +kernel
theorem dX0_slipIsPending_69 : decode cX0_slipIsPending 69 = .ok (.invokestatic 29, 3) := by decide +kernel
theorem dX0_slipIsPending_72 : decode cX0_slipIsPending 72 = .ok (.ifCond .eq 17, 3) := by decide +kernel
theorem dX0_slipIsPending_75 : decode cX0_slipIsPending 75 = .ok (.iload_n 2, 1) := by decide +kernel
theorem dX0_slipIsPending_76 : decode cX0_slipIsPending 76 = .ok (.invokestatic 134, 3) := by decide +kernel
theorem dX0_slipIsPending_79 : decode cX0_slipIsPending 79 = .ok (.invokestatic 29, 3) := by decide +kernel
theorem dX0_slipIsPending_82 : decode cX0_slipIsPending 82 = .ok (.ifCond .eq 7, 3) := by decide +kernel
theorem dX0_slipIsPending_85 : decode cX0_slipIsPending 85 = .ok (.iconst 1, 1) := by decide +kernel
theorem dX0_slipIsPending_86 : decode cX0_slipIsPending 86 = .ok (.goto 4, 3) := by decide +kernel
theorem dX0_slipIsPending_89 : decode cX0_slipIsPending 89 = .ok (.iconst 0, 1) := by decide +kernel
theorem dX0_slipIsPending_90 : decode cX0_slipIsPending 90 = .ok (.ireturn, 1) := by decide +kernel
set_option maxRecDepth 20000 in
theorem ggX0_finishTransfer_X0_foundIn : GoodIn wsX0_finishTransfer wsX0_foundIn := goodIn_r _ [7, 8, 9, 10, 6, 11, 58, 59, 60, 61, 62, 63] (by decide +kernel) (by decide +kernel)
set_option maxRecDepth 20000 in
theorem gX0_finishTransfer_X0_foundIn : GoodIn wsX0_finishTransfer (wsV RX0 127 RX0 yX0_foundIn wsX0_foundIn) := goodIn_app (goodIn_of _ (by decide +kernel)) ggX0_finishTransfer_X0_foundIn
set_option maxRecDepth 20000 in
theorem ggX0_finishTransfer_X0_balanceOf : GoodIn wsX0_finishTransfer wsX0_balanceOf := goodIn_r _ [14] (by decide +kernel) (by decide +kernel)
set_option maxRecDepth 20000 in
theorem gX0_finishTransfer_X0_balanceOf : GoodIn wsX0_finishTransfer (va_wsS RX0 67 yX0_balanceOf wsX0_balanceOf) := goodIn_app (goodIn_of _ (by decide +kernel)) ggX0_finishTransfer_X0_balanceOf
set_option maxRecDepth 20000 in
theorem ggX0_finishTransfer_X0_fromOf : GoodIn wsX0_finishTransfer wsX0_fromOf := goodIn_r _ [17] (by decide +kernel) (by decide +kernel)
set_option maxRecDepth 20000 in
theorem gX0_finishTransfer_X0_fromOf : GoodIn wsX0_finishTransfer (va_wsS RX0 130 yX0_fromOf wsX0_fromOf) := goodIn_app (goodIn_of _ (by decide +kernel)) ggX0_finishTransfer_X0_fromOf
set_option maxRecDepth 20000 in
theorem ggX0_finishTransfer_X0_finishAccount : GoodIn wsX0_finishTransfer wsX0_finishAccount := goodIn_r _ [21, 3, 4, 5, 6, 7, 8, 9, 10, 11, 22, 23, 24, 25, 26, 27, 28, 29, 30, 31, 32, 12, 13, 14, 33, 34, 35, 36, 37, 38, 39, 40, 41, 42, 43, 44, 45, 46, 47, 48, 49, 50, 51, 52, 53, 54, 58, 59, 60, 61, 62, 63] (by decide +kernel) (by decide +kernel)
set_option maxRecDepth 20000 in
theorem gX0_finishTransfer_X0_finishAccount : GoodIn wsX0_finishTransfer (wsV RX0 137 RX0 yX0_finishAccount wsX0_finishAccount) := goodIn_app (goodIn_of _ (by decide +kernel)) ggX0_finishTransfer_X0_finishAccount
set_option maxRecDepth 20000 in
theorem ggX0_finishTransfer_X0_toOf : GoodIn wsX0_finishTransfer wsX0_toOf := goodIn_r _ [57] (by decide +kernel) (by decide +kernel)
set_option maxRecDepth 20000 in
theorem gX0_finishTransfer_X0_toOf : GoodIn wsX0_finishTransfer (va_wsS RX0 134 yX0_toOf wsX0_toOf) := goodIn_app (goodIn_of _ (by decide +kernel)) ggX0_finishTransfer_X0_toOf
set_option maxRecDepth 20000 in
theorem ggX0_finishTransfer_X0_numberOf : GoodIn wsX0_finishTransfer wsX0_numberOf := goodIn_r _ [31, 32] (by decide +kernel) (by decide +kernel)
set_option maxRecDepth 20000 in
theorem gX0_finishTransfer_X0_numberOf : GoodIn wsX0_finishTransfer (va_wsS RX0 80 yX0_numberOf wsX0_numberOf) := goodIn_app (goodIn_of _ (by decide +kernel)) ggX0_finishTransfer_X0_numberOf
set_option maxRecDepth 20000 in
theorem ggX0_finishTransfer_X0_makeWord : GoodIn wsX0_finishTransfer wsX0_makeWord := goodIn_r _ [35, 26, 27, 6, 28] (by decide +kernel) (by decide +kernel)
set_option maxRecDepth 20000 in
theorem gX0_finishTransfer_X0_makeWord : GoodIn wsX0_finishTransfer (va_wsS RX0 25 yX0_makeWord wsX0_makeWord) := goodIn_app (goodIn_of _ (by decide +kernel)) ggX0_finishTransfer_X0_makeWord
set_option maxRecDepth 20000 in
theorem ggX0_finishTransfer_X0_put : GoodIn wsX0_finishTransfer wsX0_put := goodIn_r _ [39, 40, 41, 42, 6, 43, 44, 8, 45, 46, 47, 48, 49, 50, 51, 52, 53, 54, 9, 10, 11, 58, 59, 60, 61, 62, 63] (by decide +kernel) (by decide +kernel)
set_option maxRecDepth 20000 in
theorem gX0_finishTransfer_X0_put : GoodIn wsX0_finishTransfer (wsV RX0 40 RX0 yX0_put wsX0_put) := goodIn_app (goodIn_of _ (by decide +kernel)) ggX0_finishTransfer_X0_put
theorem dX0_finishTransfer_0 : decode cX0_finishTransfer 0 = .ok (.aload_n 0, 1) := by decide +kernel
theorem dX0_finishTransfer_1 : decode cX0_finishTransfer 1 = .ok (.bipush 19, 2) := by decide +kernel
theorem dX0_finishTransfer_3 : decode cX0_finishTransfer 3 = .ok (.invokevirtual 127, 3) := by decide +kernel
theorem dX0_finishTransfer_6 : decode cX0_finishTransfer 6 = .ok (.lstore_n 1, 1) := by decide +kernel
theorem dX0_finishTransfer_7 : decode cX0_finishTransfer 7 = .ok (.lload_n 1, 1) := by decide +kernel
theorem dX0_finishTransfer_8 : decode cX0_finishTransfer 8 = .ok (.invokestatic 67, 3) := by decide +kernel
theorem dX0_finishTransfer_11 : decode cX0_finishTransfer 11 = .ok (.istore_n 3, 1) := by decide +kernel
theorem dX0_finishTransfer_12 : decode cX0_finishTransfer 12 = .ok (.aload_n 0, 1) := by decide +kernel
theorem dX0_finishTransfer_13 : decode cX0_finishTransfer 13 = .ok (.bipush 16, 2) := by decide +kernel
theorem dX0_finishTransfer_15 : decode cX0_finishTransfer 15 = .ok (.invokevirtual 127, 3) := by decide +kernel
theorem dX0_finishTransfer_18 : decode cX0_finishTransfer 18 = .ok (.invokestatic 67, 3) := by decide +kernel
theorem dX0_finishTransfer_21 : decode cX0_finishTransfer 21 = .ok (.istore 4, 2) := by decide +kernel
theorem dX0_finishTransfer_23 : decode cX0_finishTransfer 23 = .ok (.aload_n 0, 1) := by decide +kernel
theorem dX0_finishTransfer_24 : decode cX0_finishTransfer 24 = .ok (.iload_n 3, 1) := by decide +kernel
theorem dX0_finishTransfer_25 : decode cX0_finishTransfer 25 = .ok (.invokestatic 130, 3) := by decide +kernel
theorem dX0_finishTransfer_28 : decode cX0_finishTransfer 28 = .ok (.iload 4, 2) := by decide +kernel
theorem dX0_finishTransfer_30 : decode cX0_finishTransfer 30 = .ok (.ineg, 1) := by decide +kernel
theorem dX0_finishTransfer_31 : decode cX0_finishTransfer 31 = .ok (.aload_n 0, 1) := by decide +kernel
theorem dX0_finishTransfer_32 : decode cX0_finishTransfer 32 = .ok (.bipush 17, 2) := by decide +kernel
theorem dX0_finishTransfer_34 : decode cX0_finishTransfer 34 = .ok (.invokevirtual 127, 3) := by decide +kernel
theorem dX0_finishTransfer_37 : decode cX0_finishTransfer 37 = .ok (.invokestatic 67, 3) := by decide +kernel
theorem dX0_finishTransfer_40 : decode cX0_finishTransfer 40 = .ok (.invokevirtual 137, 3) := by decide +kernel
theorem dX0_finishTransfer_43 : decode cX0_finishTransfer 43 = .ok (.aload_n 0, 1) := by decide +kernel
theorem dX0_finishTransfer_44 : decode cX0_finishTransfer 44 = .ok (.iload_n 3, 1) := by decide +kernel
theorem dX0_finishTransfer_45 : decode cX0_finishTransfer 45 = .ok (.invokestatic 134, 3) := by decide +kernel
theorem dX0_finishTransfer_48 : decode cX0_finishTransfer 48 = .ok (.iload 4, 2) := by decide +kernel
theorem dX0_finishTransfer_50 : decode cX0_finishTransfer 50 = .ok (.aload_n 0, 1) := by decide +kernel
theorem dX0_finishTransfer_51 : decode cX0_finishTransfer 51 = .ok (.bipush 18, 2) := by decide +kernel
theorem dX0_finishTransfer_53 : decode cX0_finishTransfer 53 = .ok (.invokevirtual 127, 3) := by decide +kernel
theorem dX0_finishTransfer_56 : decode cX0_finishTransfer 56 = .ok (.invokestatic 67, 3) := by decide +kernel
theorem dX0_finishTransfer_59 : decode cX0_finishTransfer 59 = .ok (.invokevirtual 137, 3) := by decide +kernel
theorem dX0_finishTransfer_62 : decode cX0_finishTransfer 62 = .ok (.aload_n 0, 1) := by decide +kernel
theorem dX0_finishTransfer_63 : decode cX0_finishTransfer 63 = .ok (.bipush 19, 2) := by decide +kernel
theorem dX0_finishTransfer_65 : decode cX0_finishTransfer 65 = .ok (.iload_n 3, 1) := by decide +kernel
theorem dX0_finishTransfer_66 : decode cX0_finishTransfer 66 = .ok (.ldc 91, 2) := by decide +kernel
theorem dX0_finishTransfer_68 : decode cX0_finishTransfer 68 = .ok (.isub, 1) := by decide +kernel
theorem dX0_finishTransfer_69 : decode cX0_finishTransfer 69 = .ok (.ldc 92, 2) := by decide +kernel
theorem dX0_finishTransfer_71 : decode cX0_finishTransfer 71 = .ok (.iadd, 1) := by decide +kernel
theorem dX0_finishTransfer_72 : decode cX0_finishTransfer 72 = .ok (.lload_n 1, 1) := by decide +kernel
theorem dX0_finishTransfer_73 : decode cX0_finishTransfer 73 = .ok (.invokestatic 80, 3) := by decide +kernel
theorem dX0_finishTransfer_76 : decode cX0_finishTransfer 76 = .ok (.invokestatic 25, 3) := by decide +kernel
theorem dX0_finishTransfer_79 : decode cX0_finishTransfer 79 = .ok (.invokevirtual 40, 3) := by decide +kernel
theorem dX0_finishTransfer_82 : decode cX0_finishTransfer 82 = .ok (.return_, 1) := by decide +kernel
set_option maxRecDepth 20000 in
theorem ggX0_finishAccount_X0_foundIn : GoodIn wsX0_finishAccount wsX0_foundIn := goodIn_r _ [5, 6, 7, 8, 4, 9, 46, 47, 48, 49, 50, 51] (by decide +kernel) (by decide +kernel)
set_option maxRecDepth 20000 in
theorem gX0_finishAccount_X0_foundIn : GoodIn wsX0_finishAccount (wsV RX0 127 RX0 yX0_foundIn wsX0_foundIn) := goodIn_app (goodIn_of _ (by decide +kernel)) ggX0_finishAccount_X0_foundIn
set_option maxRecDepth 20000 in
theorem ggX0_finishAccount_X0_isValid : GoodIn wsX0_finishAccount wsX0_isValid := goodIn_r _ [12, 13, 14, 15, 4, 16] (by decide +kernel) (by decide +kernel)
set_option maxRecDepth 20000 in
theorem gX0_finishAccount_X0_isValid : GoodIn wsX0_finishAccount (va_wsS RX0 60 yX0_isValid wsX0_isValid) := goodIn_app (goodIn_of _ (by decide +kernel)) ggX0_finishAccount_X0_isValid
set_option maxRecDepth 20000 in
theorem ggX0_finishAccount_X0_numberOf : GoodIn wsX0_finishAccount wsX0_numberOf := goodIn_r _ [19, 20] (by decide +kernel) (by decide +kernel)
set_option maxRecDepth 20000 in
theorem gX0_finishAccount_X0_numberOf : GoodIn wsX0_finishAccount (va_wsS RX0 80 yX0_numberOf wsX0_numberOf) := goodIn_app (goodIn_of _ (by decide +kernel)) ggX0_finishAccount_X0_numberOf
set_option maxRecDepth 20000 in
theorem ggX0_finishAccount_X0_balanceOf : GoodIn wsX0_finishAccount wsX0_balanceOf := goodIn_r _ [23] (by decide +kernel) (by decide +kernel)
set_option maxRecDepth 20000 in
theorem gX0_finishAccount_X0_balanceOf : GoodIn wsX0_finishAccount (va_wsS RX0 67 yX0_balanceOf wsX0_balanceOf) := goodIn_app (goodIn_of _ (by decide +kernel)) ggX0_finishAccount_X0_balanceOf
set_option maxRecDepth 20000 in
theorem ggX0_finishAccount_X0_makeWord : GoodIn wsX0_finishAccount wsX0_makeWord := goodIn_r _ [26, 14, 15, 4, 16] (by decide +kernel) (by decide +kernel)
set_option maxRecDepth 20000 in
theorem gX0_finishAccount_X0_makeWord : GoodIn wsX0_finishAccount (va_wsS RX0 25 yX0_makeWord wsX0_makeWord) := goodIn_app (goodIn_of _ (by decide +kernel)) ggX0_finishAccount_X0_makeWord
set_option maxRecDepth 20000 in
theorem ggX0_finishAccount_X0_put : GoodIn wsX0_finishAccount wsX0_put := goodIn_r _ [30, 31, 32, 33, 4, 34, 35, 6, 36, 37, 38, 39, 40, 41, 42, 43, 44, 45, 7, 8, 9, 46, 47, 48, 49, 50, 51] (by decide +kernel) (by decide +kernel)
set_option maxRecDepth 20000 in
theorem gX0_finishAccount_X0_put : GoodIn wsX0_finishAccount (wsV RX0 40 RX0 yX0_put wsX0_put) := goodIn_app (goodIn_of _ (by decide +kernel)) ggX0_finishAccount_X0_put
theorem dX0_finishAccount_0 : decode cX0_finishAccount 0 = .ok (.aload_n 0, 1) := by decide +kernel
theorem dX0_finishAccount_1 : decode cX0_finishAccount 1 = .ok (.iload_n 1, 1) := by decide +kernel
theorem dX0_finishAccount_2 : decode cX0_finishAccount 2 = .ok (.invokevirtual 127, 3) := by decide +kernel
theorem dX0_finishAccount_5 : decode cX0_finishAccount 5 = .ok (.lstore 4, 2) := by decide +kernel
theorem dX0_finishAccount_7 : decode cX0_finishAccount 7 = .ok (.lload 4, 2) := by decide +kernel
theorem dX0_finishAccount_9 : decode cX0_finishAccount 9 = .ok (.invokestatic 60, 3) := by decide +kernel
theorem dX0_finishAccount_12 : decode cX0_finishAccount 12 = .ok (.ifCond .eq 28, 3) := by decide +kernel
theorem dX0_finishAccount_15 : decode cX0_finishAccount 15 = .ok (.lload 4, 2) := by decide +kernel
theorem dX0_finishAccount_17 : decode cX0_finishAccount 17 = .ok (.invokestatic 80, 3) := by decide +kernel
theorem dX0_finishAccount_20 : decode cX0_finishAccount 20 = .ok (.iload_n 3, 1) := by decide +kernel
theorem dX0_finishAccount_21 : decode cX0_finishAccount 21 = .ok (.if_icmp .ge 19, 3) := by decide +kernel
theorem dX0_finishAccount_24 : decode cX0_finishAccount 24 = .ok (.aload_n 0, 1) := by decide +kernel
theorem dX0_finishAccount_25 : decode cX0_finishAccount 25 = .ok (.iload_n 1, 1) := by decide +kernel
theorem dX0_finishAccount_26 : decode cX0_finishAccount 26 = .ok (.lload 4, 2) := by decide +kernel
theorem dX0_finishAccount_28 : decode cX0_finishAccount 28 = .ok (.invokestatic 67, 3) := by decide +kernel
theorem dX0_finishAccount_31 : decode cX0_finishAccount 31 = .ok (.iload_n 2, 1) := by decide +kernel
theorem dX0_finishAccount_32 : decode cX0_finishAccount 32 = .ok (.iadd, 1) := by decide +kernel
theorem dX0_finishAccount_33 : decode cX0_finishAccount 33 = .ok (.iload_n 3, 1) := by decide +kernel
theorem dX0_finishAccount_34 : decode cX0_finishAccount 34 = .ok (.invokestatic 25, 3) := by decide +kernel
theorem dX0_finishAccount_37 : decode cX0_finishAccount 37 = .ok (.invokevirtual 40, 3) := by decide +kernel
theorem dX0_finishAccount_40 : decode cX0_finishAccount 40 = .ok (.return_, 1) := by decide +kernel
set_option maxRecDepth 20000 in
theorem ggX0_foundIn_X0_slot : GoodIn wsX0_foundIn wsX0_slot := goodIn_r _ [5] (by decide +kernel) (by decide +kernel)
set_option maxRecDepth 20000 in
theorem gX0_foundIn_X0_slot : GoodIn wsX0_foundIn (va_wsS RX0 110 yX0_slot wsX0_slot) := goodIn_app (goodIn_of _ (by decide +kernel)) ggX0_foundIn_X0_slot
theorem dX0_foundIn_0 : decode cX0_foundIn 0 = .ok (.aload_n 0, 1) := by decide +kernel
theorem dX0_foundIn_1 : decode cX0_foundIn 1 = .ok (.getfield 9, 3) := by decide +kernel
theorem dX0_foundIn_4 : decode cX0_foundIn 4 = .ok (.iconst 0, 1) := by decide +kernel
theorem dX0_foundIn_5 : decode cX0_foundIn 5 = .ok (.iload_n 1, 1) := by decide +kernel
theorem dX0_foundIn_6 : decode cX0_foundIn 6 = .ok (.invokestatic 110, 3) := by decide +kernel
theorem dX0_foundIn_9 : decode cX0_foundIn 9 = .ok (.laload, 1) := by decide +kernel
theorem dX0_foundIn_10 : decode cX0_foundIn 10 = .ok (.lreturn, 1) := by decide +kernel
theorem dX0_fromOf_0 : decode cX0_fromOf 0 = .ok (.iload_n 0, 1) := by decide +kernel
theorem dX0_fromOf_1 : decode cX0_fromOf 1 = .ok (.bipush 8, 2) := by decide +kernel
theorem dX0_fromOf_3 : decode cX0_fromOf 3 = .ok (.ishr, 1) := by decide +kernel
theorem dX0_fromOf_4 : decode cX0_fromOf 4 = .ok (.sipush 255, 3) := by decide +kernel
theorem dX0_fromOf_7 : decode cX0_fromOf 7 = .ok (.iand, 1) := by decide +kernel
theorem dX0_fromOf_8 : decode cX0_fromOf 8 = .ok (.ireturn, 1) := by decide +kernel
theorem dX0_toOf_0 : decode cX0_toOf 0 = .ok (.iload_n 0, 1) := by decide +kernel
theorem dX0_toOf_1 : decode cX0_toOf 1 = .ok (.sipush 255, 3) := by decide +kernel
theorem dX0_toOf_4 : decode cX0_toOf 4 = .ok (.iand, 1) := by decide +kernel
theorem dX0_toOf_5 : decode cX0_toOf 5 = .ok (.ireturn, 1) := by decide +kernel
set_option maxRecDepth 20000 in
theorem ggX0_look_X0_readTurn : GoodIn wsX0_look wsX0_readTurn := goodIn_r _ [5, 6, 7, 8, 9, 10, 4, 11, 12, 13, 14, 15, 16, 17, 18, 19, 20, 26, 27, 28, 29, 30, 31] (by decide +kernel) (by decide +kernel)
set_option maxRecDepth 20000 in
theorem gX0_look_X0_readTurn : GoodIn wsX0_look (wsV RX0 33 RX0 yX0_readTurn wsX0_readTurn) := goodIn_app (goodIn_of _ (by decide +kernel)) ggX0_look_X0_readTurn
set_option maxRecDepth 20000 in
theorem ggX0_look_X0_writeTurn : GoodIn wsX0_look wsX0_writeTurn := goodIn_r _ [24, 25, 7, 8, 9, 10, 4, 11, 12, 13, 14, 15, 16, 17, 18, 19, 20, 26, 27, 28, 29, 30, 31] (by decide +kernel) (by decide +kernel)
set_option maxRecDepth 20000 in
theorem gX0_look_X0_writeTurn : GoodIn wsX0_look (wsV RX0 44 RX0 yX0_writeTurn wsX0_writeTurn) := goodIn_app (goodIn_of _ (by decide +kernel)) ggX0_look_X0_writeTurn
theorem dX0_look_0 : decode cX0_look 0 = .ok (.aload_n 0, 1) := by decide +kernel
theorem dX0_look_1 : decode cX0_look 1 = .ok (.iconst 0, 1) := by decide +kernel
theorem dX0_look_2 : decode cX0_look 2 = .ok (.iload_n 1, 1) := by decide +kernel
theorem dX0_look_3 : decode cX0_look 3 = .ok (.invokevirtual 33, 3) := by decide +kernel
theorem dX0_look_6 : decode cX0_look 6 = .ok (.lstore_n 2, 1) := by decide +kernel
theorem dX0_look_7 : decode cX0_look 7 = .ok (.aload_n 0, 1) := by decide +kernel
theorem dX0_look_8 : decode cX0_look 8 = .ok (.iconst 0, 1) := by decide +kernel
theorem dX0_look_9 : decode cX0_look 9 = .ok (.iload_n 1, 1) := by decide +kernel
theorem dX0_look_10 : decode cX0_look 10 = .ok (.lload_n 2, 1) := by decide +kernel
theorem dX0_look_11 : decode cX0_look 11 = .ok (.invokevirtual 44, 3) := by decide +kernel
theorem dX0_look_14 : decode cX0_look 14 = .ok (.lload_n 2, 1) := by decide +kernel
theorem dX0_look_15 : decode cX0_look 15 = .ok (.lreturn, 1) := by decide +kernel
set_option maxRecDepth 20000 in
theorem ggX0_put_X0_writeTurn : GoodIn wsX0_put wsX0_writeTurn := goodIn_r _ [5, 6, 7, 8, 9, 10, 4, 11, 12, 13, 14, 15, 16, 17, 18, 19, 20, 21, 22, 23, 24, 25, 26] (by decide +kernel) (by decide +kernel)
set_option maxRecDepth 20000 in
theorem gX0_put_X0_writeTurn : GoodIn wsX0_put (wsV RX0 44 RX0 yX0_writeTurn wsX0_writeTurn) := goodIn_app (goodIn_of _ (by decide +kernel)) ggX0_put_X0_writeTurn
theorem dX0_put_0 : decode cX0_put 0 = .ok (.iconst 0, 1) := by decide +kernel
theorem dX0_put_1 : decode cX0_put 1 = .ok (.istore 4, 2) := by decide +kernel
theorem dX0_put_3 : decode cX0_put 3 = .ok (.iload 4, 2) := by decide +kernel
theorem dX0_put_5 : decode cX0_put 5 = .ok (.iconst 4, 1) := by decide +kernel
theorem dX0_put_6 : decode cX0_put 6 = .ok (.if_icmp .ge 17, 3) := by decide +kernel
theorem dX0_put_9 : decode cX0_put 9 = .ok (.aload_n 0, 1) := by decide +kernel
theorem dX0_put_10 : decode cX0_put 10 = .ok (.iload 4, 2) := by decide +kernel
theorem dX0_put_12 : decode cX0_put 12 = .ok (.iload_n 1, 1) := by decide +kernel
theorem dX0_put_13 : decode cX0_put 13 = .ok (.lload_n 2, 1) := by decide +kernel
theorem dX0_put_14 : decode cX0_put 14 = .ok (.invokevirtual 44, 3) := by decide +kernel
theorem dX0_put_17 : decode cX0_put 17 = .ok (.iinc 4 1, 3) := by decide +kernel
theorem dX0_put_20 : decode cX0_put 20 = .ok (.goto (-17), 3) := by decide +kernel
theorem dX0_put_23 : decode cX0_put 23 = .ok (.return_, 1) := by decide +kernel
set_option maxRecDepth 20000 in
theorem ggX0_readTurn_X0_takeTurn : GoodIn wsX0_readTurn wsX0_takeTurn := goodIn_r _ [7, 8, 9, 10, 11, 12, 6, 13, 17, 18, 19, 20, 21, 22] (by decide +kernel) (by decide +kernel)
set_option maxRecDepth 20000 in
theorem gX0_readTurn_X0_takeTurn : GoodIn wsX0_readTurn (wsV RX0 141 RX0 yX0_takeTurn wsX0_takeTurn) := goodIn_app (goodIn_of _ (by decide +kernel)) ggX0_readTurn_X0_takeTurn
set_option maxRecDepth 20000 in
theorem ggX0_readTurn_X0_slot : GoodIn wsX0_readTurn wsX0_slot := goodIn_r _ [16] (by decide +kernel) (by decide +kernel)
set_option maxRecDepth 20000 in
theorem gX0_readTurn_X0_slot : GoodIn wsX0_readTurn (va_wsS RX0 110 yX0_slot wsX0_slot) := goodIn_app (goodIn_of _ (by decide +kernel)) ggX0_readTurn_X0_slot
theorem dX0_readTurn_0 : decode cX0_readTurn 0 = .ok (.aload_n 0, 1) := by decide +kernel
theorem dX0_readTurn_1 : decode cX0_readTurn 1 = .ok (.invokevirtual 141, 3) := by decide +kernel
theorem dX0_readTurn_4 : decode cX0_readTurn 4 = .ok (.ifCond .ne 5, 3) := by decide +kernel
theorem dX0_readTurn_7 : decode cX0_readTurn 7 = .ok (.lconst 0, 1) := by decide +kernel
theorem dX0_readTurn_8 : decode cX0_readTurn 8 = .ok (.lreturn, 1) := by decide +kernel
theorem dX0_readTurn_9 : decode cX0_readTurn 9 = .ok (.aload_n 0, 1) := by decide +kernel
theorem dX0_readTurn_10 : decode cX0_readTurn 10 = .ok (.dup, 1) := by decide +kernel
theorem dX0_readTurn_11 : decode cX0_readTurn 11 = .ok (.getfield 114, 3) := by decide +kernel
theorem dX0_readTurn_14 : decode cX0_readTurn 14 = .ok (.iconst 1, 1) := by decide +kernel
theorem dX0_readTurn_15 : decode cX0_readTurn 15 = .ok (.iadd, 1) := by decide +kernel
theorem dX0_readTurn_16 : decode cX0_readTurn 16 = .ok (.putfield 114, 3) := by decide +kernel
theorem dX0_readTurn_19 : decode cX0_readTurn 19 = .ok (.iload_n 1, 1) := by decide +kernel
theorem dX0_readTurn_20 : decode cX0_readTurn 20 = .ok (.iload_n 2, 1) := by decide +kernel
theorem dX0_readTurn_21 : decode cX0_readTurn 21 = .ok (.invokestatic 110, 3) := by decide +kernel
theorem dX0_readTurn_24 : decode cX0_readTurn 24 = .ok (.istore_n 3, 1) := by decide +kernel
theorem dX0_readTurn_25 : decode cX0_readTurn 25 = .ok (.aload_n 0, 1) := by decide +kernel
theorem dX0_readTurn_26 : decode cX0_readTurn 26 = .ok (.getfield 9, 3) := by decide +kernel
theorem dX0_readTurn_29 : decode cX0_readTurn 29 = .ok (.iload_n 3, 1) := by decide +kernel
theorem dX0_readTurn_30 : decode cX0_readTurn 30 = .ok (.laload, 1) := by decide +kernel
theorem dX0_readTurn_31 : decode cX0_readTurn 31 = .ok (.lstore 4, 2) := by decide +kernel
theorem dX0_readTurn_33 : decode cX0_readTurn 33 = .ok (.aload_n 0, 1) := by decide +kernel
theorem dX0_readTurn_34 : decode cX0_readTurn 34 = .ok (.getfield 9, 3) := by decide +kernel
theorem dX0_readTurn_37 : decode cX0_readTurn 37 = .ok (.iload_n 3, 1) := by decide +kernel
theorem dX0_readTurn_38 : decode cX0_readTurn 38 = .ok (.lconst 0, 1) := by decide +kernel
theorem dX0_readTurn_39 : decode cX0_readTurn 39 = .ok (.lastore, 1) := by decide +kernel
theorem dX0_readTurn_40 : decode cX0_readTurn 40 = .ok (.lload 4, 2) := by decide +kernel
theorem dX0_readTurn_42 : decode cX0_readTurn 42 = .ok (.lreturn, 1) := by decide +kernel
set_option maxRecDepth 20000 in
theorem ggX0_writeTurn_X0_takeTurn : GoodIn wsX0_writeTurn wsX0_takeTurn := goodIn_r _ [7, 8, 9, 10, 11, 12, 6, 13, 17, 18, 19, 20, 21, 22] (by decide +kernel) (by decide +kernel)
set_option maxRecDepth 20000 in
theorem gX0_writeTurn_X0_takeTurn : GoodIn wsX0_writeTurn (wsV RX0 141 RX0 yX0_takeTurn wsX0_takeTurn) := goodIn_app (goodIn_of _ (by decide +kernel)) ggX0_writeTurn_X0_takeTurn
set_option maxRecDepth 20000 in
theorem ggX0_writeTurn_X0_slot : GoodIn wsX0_writeTurn wsX0_slot := goodIn_r _ [16] (by decide +kernel) (by decide +kernel)
set_option maxRecDepth 20000 in
theorem gX0_writeTurn_X0_slot : GoodIn wsX0_writeTurn (va_wsS RX0 110 yX0_slot wsX0_slot) := goodIn_app (goodIn_of _ (by decide +kernel)) ggX0_writeTurn_X0_slot
theorem dX0_writeTurn_0 : decode cX0_writeTurn 0 = .ok (.aload_n 0, 1) := by decide +kernel
theorem dX0_writeTurn_1 : decode cX0_writeTurn 1 = .ok (.invokevirtual 141, 3) := by decide +kernel
theorem dX0_writeTurn_4 : decode cX0_writeTurn 4 = .ok (.ifCond .eq 24, 3) := by decide +kernel
theorem dX0_writeTurn_7 : decode cX0_writeTurn 7 = .ok (.aload_n 0, 1) := by decide +kernel
theorem dX0_writeTurn_8 : decode cX0_writeTurn 8 = .ok (.dup, 1) := by decide +kernel
theorem dX0_writeTurn_9 : decode cX0_writeTurn 9 = .ok (.getfield 117, 3) := by decide +kernel
theorem dX0_writeTurn_12 : decode cX0_writeTurn 12 = .ok (.iconst 1, 1) := by decide +kernel
theorem dX0_writeTurn_13 : decode cX0_writeTurn 13 = .ok (.iadd, 1) := by decide +kernel
theorem dX0_writeTurn_14 : decode cX0_writeTurn 14 = .ok (.putfield 117, 3) := by decide +kernel
theorem dX0_writeTurn_17 : decode cX0_writeTurn 17 = .ok (.aload_n 0, 1) := by decide +kernel
theorem dX0_writeTurn_18 : decode cX0_writeTurn 18 = .ok (.getfield 9, 3) := by decide +kernel
theorem dX0_writeTurn_21 : decode cX0_writeTurn 21 = .ok (.iload_n 1, 1) := by decide +kernel
theorem dX0_writeTurn_22 : decode cX0_writeTurn 22 = .ok (.iload_n 2, 1) := by decide +kernel
theorem dX0_writeTurn_23 : decode cX0_writeTurn 23 = .ok (.invokestatic 110, 3) := by decide +kernel
theorem dX0_writeTurn_26 : decode cX0_writeTurn 26 = .ok (.lload_n 3, 1) := by decide +kernel
theorem dX0_writeTurn_27 : decode cX0_writeTurn 27 = .ok (.lastore, 1) := by decide +kernel
theorem dX0_writeTurn_28 : decode cX0_writeTurn 28 = .ok (.return_, 1) := by decide +kernel
set_option maxRecDepth 20000 in
theorem ggX0_takeTurn_X0_losePower : GoodIn wsX0_takeTurn wsX0_losePower := goodIn_r _ [7, 1, 2, 8, 9, 10, 11, 12, 13] (by decide +kernel) (by decide +kernel)
set_option maxRecDepth 20000 in
theorem gX0_takeTurn_X0_losePower : GoodIn wsX0_takeTurn (wsV RX0 93 RX0 yX0_losePower wsX0_losePower) := goodIn_app (goodIn_of _ (by decide +kernel)) ggX0_takeTurn_X0_losePower
theorem dX0_takeTurn_0 : decode cX0_takeTurn 0 = .ok (.aload_n 0, 1) := by decide +kernel
theorem dX0_takeTurn_1 : decode cX0_takeTurn 1 = .ok (.getfield 17, 3) := by decide +kernel
theorem dX0_takeTurn_4 : decode cX0_takeTurn 4 = .ok (.ifCond .ne 5, 3) := by decide +kernel
theorem dX0_takeTurn_7 : decode cX0_takeTurn 7 = .ok (.iconst 0, 1) := by decide +kernel
theorem dX0_takeTurn_8 : decode cX0_takeTurn 8 = .ok (.ireturn, 1) := by decide +kernel
theorem dX0_takeTurn_9 : decode cX0_takeTurn 9 = .ok (.aload_n 0, 1) := by decide +kernel
theorem dX0_takeTurn_10 : decode cX0_takeTurn 10 = .ok (.getfield 21, 3) := by decide +kernel
theorem dX0_takeTurn_13 : decode cX0_takeTurn 13 = .ok (.ifCond .ne 9, 3) := by decide +kernel
theorem dX0_takeTurn_16 : decode cX0_takeTurn 16 = .ok (.aload_n 0, 1) := by decide +kernel
theorem dX0_takeTurn_17 : decode cX0_takeTurn 17 = .ok (.invokevirtual 93, 3) := by decide +kernel
theorem dX0_takeTurn_20 : decode cX0_takeTurn 20 = .ok (.iconst 0, 1) := by decide +kernel
theorem dX0_takeTurn_21 : decode cX0_takeTurn 21 = .ok (.ireturn, 1) := by decide +kernel
theorem dX0_takeTurn_22 : decode cX0_takeTurn 22 = .ok (.aload_n 0, 1) := by decide +kernel
theorem dX0_takeTurn_23 : decode cX0_takeTurn 23 = .ok (.getfield 21, 3) := by decide +kernel
theorem dX0_takeTurn_26 : decode cX0_takeTurn 26 = .ok (.ifCond .le 13, 3) := by decide +kernel
theorem dX0_takeTurn_29 : decode cX0_takeTurn 29 = .ok (.aload_n 0, 1) := by decide +kernel
theorem dX0_takeTurn_30 : decode cX0_takeTurn 30 = .ok (.dup, 1) := by decide +kernel
theorem dX0_takeTurn_31 : decode cX0_takeTurn 31 = .ok (.getfield 21, 3) := by decide +kernel
theorem dX0_takeTurn_34 : decode cX0_takeTurn 34 = .ok (.iconst 1, 1) := by decide +kernel
theorem dX0_takeTurn_35 : decode cX0_takeTurn 35 = .ok (.isub, 1) := by decide +kernel
theorem dX0_takeTurn_36 : decode cX0_takeTurn 36 = .ok (.putfield 21, 3) := by decide +kernel
theorem dX0_takeTurn_39 : decode cX0_takeTurn 39 = .ok (.iconst 1, 1) := by decide +kernel
theorem dX0_takeTurn_40 : decode cX0_takeTurn 40 = .ok (.ireturn, 1) := by decide +kernel
theorem dX0_losePower_0 : decode cX0_losePower 0 = .ok (.aload_n 0, 1) := by decide +kernel
theorem dX0_losePower_1 : decode cX0_losePower 1 = .ok (.iconst 0, 1) := by decide +kernel
theorem dX0_losePower_2 : decode cX0_losePower 2 = .ok (.putfield 17, 3) := by decide +kernel
theorem dX0_losePower_5 : decode cX0_losePower 5 = .ok (.aload_n 0, 1) := by decide +kernel
theorem dX0_losePower_6 : decode cX0_losePower 6 = .ok (.iconst (-1), 1) := by decide +kernel
theorem dX0_losePower_7 : decode cX0_losePower 7 = .ok (.putfield 21, 3) := by decide +kernel
theorem dX0_losePower_10 : decode cX0_losePower 10 = .ok (.return_, 1) := by decide +kernel
theorem dX0_answerOf_0 : decode cX0_answerOf 0 = .ok (.aload_n 0, 1) := by decide +kernel
theorem dX0_answerOf_1 : decode cX0_answerOf 1 = .ok (.getfield 17, 3) := by decide +kernel
theorem dX0_answerOf_4 : decode cX0_answerOf 4 = .ok (.ifCond .ne 6, 3) := by decide +kernel
theorem dX0_answerOf_7 : decode cX0_answerOf 7 = .ok (.bipush (-2), 2) := by decide +kernel
theorem dX0_answerOf_9 : decode cX0_answerOf 9 = .ok (.ireturn, 1) := by decide +kernel
theorem dX0_answerOf_10 : decode cX0_answerOf 10 = .ok (.iload_n 1, 1) := by decide +kernel
theorem dX0_answerOf_11 : decode cX0_answerOf 11 = .ok (.ifCond .eq 7, 3) := by decide +kernel
theorem dX0_answerOf_14 : decode cX0_answerOf 14 = .ok (.iconst 1, 1) := by decide +kernel
theorem dX0_answerOf_15 : decode cX0_answerOf 15 = .ok (.goto 4, 3) := by decide +kernel
theorem dX0_answerOf_18 : decode cX0_answerOf 18 = .ok (.iconst (-1), 1) := by decide +kernel
theorem dX0_answerOf_19 : decode cX0_answerOf 19 = .ok (.ireturn, 1) := by decide +kernel
theorem dX0_slot_0 : decode cX0_slot 0 = .ok (.iload_n 0, 1) := by decide +kernel
theorem dX0_slot_1 : decode cX0_slot 1 = .ok (.bipush 20, 2) := by decide +kernel
theorem dX0_slot_3 : decode cX0_slot 3 = .ok (.imul, 1) := by decide +kernel
theorem dX0_slot_4 : decode cX0_slot 4 = .ok (.iload_n 1, 1) := by decide +kernel
theorem dX0_slot_5 : decode cX0_slot 5 = .ok (.iadd, 1) := by decide +kernel
theorem dX0_slot_6 : decode cX0_slot 6 = .ok (.ireturn, 1) := by decide +kernel
theorem dX0_isAccount_0 : decode cX0_isAccount 0 = .ok (.iload_n 0, 1) := by decide +kernel
theorem dX0_isAccount_1 : decode cX0_isAccount 1 = .ok (.ifCond .lt 13, 3) := by decide +kernel
theorem dX0_isAccount_4 : decode cX0_isAccount 4 = .ok (.iload_n 0, 1) := by decide +kernel
theorem dX0_isAccount_5 : decode cX0_isAccount 5 = .ok (.bipush 16, 2) := by decide +kernel
theorem dX0_isAccount_7 : decode cX0_isAccount 7 = .ok (.if_icmp .ge 7, 3) := by decide +kernel
theorem dX0_isAccount_10 : decode cX0_isAccount 10 = .ok (.iconst 1, 1) := by decide +kernel
theorem dX0_isAccount_11 : decode cX0_isAccount 11 = .ok (.goto 4, 3) := by decide +kernel
theorem dX0_isAccount_14 : decode cX0_isAccount 14 = .ok (.iconst 0, 1) := by decide +kernel
theorem dX0_isAccount_15 : decode cX0_isAccount 15 = .ok (.ireturn, 1) := by decide +kernel
theorem dX0_isCell_0 : decode cX0_isCell 0 = .ok (.iload_n 0, 1) := by decide +kernel
theorem dX0_isCell_1 : decode cX0_isCell 1 = .ok (.ifCond .lt 13, 3) := by decide +kernel
theorem dX0_isCell_4 : decode cX0_isCell 4 = .ok (.iload_n 0, 1) := by decide +kernel
theorem dX0_isCell_5 : decode cX0_isCell 5 = .ok (.bipush 20, 2) := by decide +kernel
theorem dX0_isCell_7 : decode cX0_isCell 7 = .ok (.if_icmp .ge 7, 3) := by decide +kernel
theorem dX0_isCell_10 : decode cX0_isCell 10 = .ok (.iconst 1, 1) := by decide +kernel
theorem dX0_isCell_11 : decode cX0_isCell 11 = .ok (.goto 4, 3) := by decide +kernel
theorem dX0_isCell_14 : decode cX0_isCell 14 = .ok (.iconst 0, 1) := by decide +kernel
theorem dX0_isCell_15 : decode cX0_isCell 15 = .ok (.ireturn, 1) := by decide +kernel
set_option maxRecDepth 20000 in
theorem ggX0_makeWord_X0_checkByte : GoodIn wsX0_makeWord wsX0_checkByte := goodIn_r _ [4] (by decide +kernel) (by decide +kernel)
set_option maxRecDepth 20000 in
theorem gX0_makeWord_X0_checkByte : GoodIn wsX0_makeWord (va_wsS RX0 144 yX0_checkByte wsX0_checkByte) := goodIn_app (goodIn_of _ (by decide +kernel)) ggX0_makeWord_X0_checkByte
theorem dX0_makeWord_0 : decode cX0_makeWord 0 = .ok (.iload_n 0, 1) := by decide +kernel
theorem dX0_makeWord_1 : decode cX0_makeWord 1 = .ok (.i2l, 1) := by decide +kernel
theorem dX0_makeWord_2 : decode cX0_makeWord 2 = .ok (.bipush 32, 2) := by decide +kernel
theorem dX0_makeWord_4 : decode cX0_makeWord 4 = .ok (.lshl, 1) := by decide +kernel
theorem dX0_makeWord_5 : decode cX0_makeWord 5 = .ok (.iload_n 1, 1) := by decide +kernel
theorem dX0_makeWord_6 : decode cX0_makeWord 6 = .ok (.i2l, 1) := by decide +kernel
theorem dX0_makeWord_7 : decode cX0_makeWord 7 = .ok (.bipush 8, 2) := by decide +kernel
theorem dX0_makeWord_9 : decode cX0_makeWord 9 = .ok (.lshl, 1) := by decide +kernel
theorem dX0_makeWord_10 : decode cX0_makeWord 10 = .ok (.lor, 1) := by decide +kernel
theorem dX0_makeWord_11 : decode cX0_makeWord 11 = .ok (.lstore_n 2, 1) := by decide +kernel
theorem dX0_makeWord_12 : decode cX0_makeWord 12 = .ok (.lload_n 2, 1) := by decide +kernel
theorem dX0_makeWord_13 : decode cX0_makeWord 13 = .ok (.lload_n 2, 1) := by decide +kernel
theorem dX0_makeWord_14 : decode cX0_makeWord 14 = .ok (.invokestatic 144, 3) := by decide +kernel
theorem dX0_makeWord_17 : decode cX0_makeWord 17 = .ok (.i2l, 1) := by decide +kernel
theorem dX0_makeWord_18 : decode cX0_makeWord 18 = .ok (.lor, 1) := by decide +kernel
theorem dX0_makeWord_19 : decode cX0_makeWord 19 = .ok (.lreturn, 1) := by decide +kernel
theorem dX0_checkByte_0 : decode cX0_checkByte 0 = .ok (.iconst 0, 1) := by decide +kernel
theorem dX0_checkByte_1 : decode cX0_checkByte 1 = .ok (.istore_n 2, 1) := by decide +kernel
theorem dX0_checkByte_2 : decode cX0_checkByte 2 = .ok (.bipush 8, 2) := by decide +kernel
theorem dX0_checkByte_4 : decode cX0_checkByte 4 = .ok (.istore_n 3, 1) := by decide +kernel
theorem dX0_checkByte_5 : decode cX0_checkByte 5 = .ok (.iload_n 3, 1) := by decide +kernel
theorem dX0_checkByte_6 : decode cX0_checkByte 6 = .ok (.bipush 64, 2) := by decide +kernel
theorem dX0_checkByte_8 : decode cX0_checkByte 8 = .ok (.if_icmp .ge 20, 3) := by decide +kernel
theorem dX0_checkByte_11 : decode cX0_checkByte 11 = .ok (.iload_n 2, 1) := by decide +kernel
theorem dX0_checkByte_12 : decode cX0_checkByte 12 = .ok (.lload_n 0, 1) := by decide +kernel
theorem dX0_checkByte_13 : decode cX0_checkByte 13 = .ok (.iload_n 3, 1) := by decide +kernel
theorem dX0_checkByte_14 : decode cX0_checkByte 14 = .ok (.lushr, 1) := by decide +kernel
theorem dX0_checkByte_15 : decode cX0_checkByte 15 = .ok (.l2i, 1) := by decide +kernel
theorem dX0_checkByte_16 : decode cX0_checkByte 16 = .ok (.sipush 255, 3) := by decide +kernel
theorem dX0_checkByte_19 : decode cX0_checkByte 19 = .ok (.iand, 1) := by decide +kernel
theorem dX0_checkByte_20 : decode cX0_checkByte 20 = .ok (.iadd, 1) := by decide +kernel
theorem dX0_checkByte_21 : decode cX0_checkByte 21 = .ok (.istore_n 2, 1) := by decide +kernel
theorem dX0_checkByte_22 : decode cX0_checkByte 22 = .ok (.iinc 3 8, 3) := by decide +kernel
theorem dX0_checkByte_25 : decode cX0_checkByte 25 = .ok (.goto (-20), 3) := by decide +kernel
theorem dX0_checkByte_28 : decode cX0_checkByte 28 = .ok (.iload_n 2, 1) := by decide +kernel
theorem dX0_checkByte_29 : decode cX0_checkByte 29 = .ok (.sipush 251, 3) := by decide +kernel
theorem dX0_checkByte_32 : decode cX0_checkByte 32 = .ok (.irem, 1) := by decide +kernel
theorem dX0_checkByte_33 : decode cX0_checkByte 33 = .ok (.iconst 1, 1) := by decide +kernel
theorem dX0_checkByte_34 : decode cX0_checkByte 34 = .ok (.iadd, 1) := by decide +kernel
theorem dX0_checkByte_35 : decode cX0_checkByte 35 = .ok (.ireturn, 1) := by decide +kernel
set_option maxRecDepth 20000 in
theorem ggX0_isValid_X0_checkByte : GoodIn wsX0_isValid wsX0_checkByte := goodIn_r _ [5] (by decide +kernel) (by decide +kernel)
set_option maxRecDepth 20000 in
theorem gX0_isValid_X0_checkByte : GoodIn wsX0_isValid (va_wsS RX0 144 yX0_checkByte wsX0_checkByte) := goodIn_app (goodIn_of _ (by decide +kernel)) ggX0_isValid_X0_checkByte
theorem dX0_isValid_0 : decode cX0_isValid 0 = .ok (.lload_n 0, 1) := by decide +kernel
theorem dX0_isValid_1 : decode cX0_isValid 1 = .ok (.ldc2_w 147, 3) := by decide +kernel
theorem dX0_isValid_4 : decode cX0_isValid 4 = .ok (.land, 1) := by decide +kernel
theorem dX0_isValid_5 : decode cX0_isValid 5 = .ok (.l2i, 1) := by decide +kernel
theorem dX0_isValid_6 : decode cX0_isValid 6 = .ok (.lload_n 0, 1) := by decide +kernel
theorem dX0_isValid_7 : decode cX0_isValid 7 = .ok (.invokestatic 144, 3) := by decide +kernel
theorem dX0_isValid_10 : decode cX0_isValid 10 = .ok (.if_icmp .ne 7, 3) := by decide +kernel
theorem dX0_isValid_13 : decode cX0_isValid 13 = .ok (.iconst 1, 1) := by decide +kernel
theorem dX0_isValid_14 : decode cX0_isValid 14 = .ok (.goto 4, 3) := by decide +kernel
theorem dX0_isValid_17 : decode cX0_isValid 17 = .ok (.iconst 0, 1) := by decide +kernel
theorem dX0_isValid_18 : decode cX0_isValid 18 = .ok (.ireturn, 1) := by decide +kernel
theorem dX0_balanceOf_0 : decode cX0_balanceOf 0 = .ok (.lload_n 0, 1) := by decide +kernel
theorem dX0_balanceOf_1 : decode cX0_balanceOf 1 = .ok (.bipush 32, 2) := by decide +kernel
theorem dX0_balanceOf_3 : decode cX0_balanceOf 3 = .ok (.lshr, 1) := by decide +kernel
theorem dX0_balanceOf_4 : decode cX0_balanceOf 4 = .ok (.l2i, 1) := by decide +kernel
theorem dX0_balanceOf_5 : decode cX0_balanceOf 5 = .ok (.ireturn, 1) := by decide +kernel
theorem dX0_numberOf_0 : decode cX0_numberOf 0 = .ok (.lload_n 0, 1) := by decide +kernel
theorem dX0_numberOf_1 : decode cX0_numberOf 1 = .ok (.bipush 8, 2) := by decide +kernel
theorem dX0_numberOf_3 : decode cX0_numberOf 3 = .ok (.lushr, 1) := by decide +kernel
theorem dX0_numberOf_4 : decode cX0_numberOf 4 = .ok (.l2i, 1) := by decide +kernel
theorem dX0_numberOf_5 : decode cX0_numberOf 5 = .ok (.ldc 149, 2) := by decide +kernel
theorem dX0_numberOf_7 : decode cX0_numberOf 7 = .ok (.iand, 1) := by decide +kernel
theorem dX0_numberOf_8 : decode cX0_numberOf 8 = .ok (.ireturn, 1) := by decide +kernel
set_option maxRecDepth 20000 in
theorem ggX0_isUnopened_X0_isValid : GoodIn wsX0_isUnopened wsX0_isValid := goodIn_r _ [4, 5, 6, 7, 3, 8] (by decide +kernel) (by decide +kernel)
set_option maxRecDepth 20000 in
theorem gX0_isUnopened_X0_isValid : GoodIn wsX0_isUnopened (va_wsS RX0 60 yX0_isValid wsX0_isValid) := goodIn_app (goodIn_of _ (by decide +kernel)) ggX0_isUnopened_X0_isValid
set_option maxRecDepth 20000 in
theorem ggX0_isUnopened_X0_numberOf : GoodIn wsX0_isUnopened wsX0_numberOf := goodIn_r _ [11, 12] (by decide +kernel) (by decide +kernel)
set_option maxRecDepth 20000 in
theorem gX0_isUnopened_X0_numberOf : GoodIn wsX0_isUnopened (va_wsS RX0 80 yX0_numberOf wsX0_numberOf) := goodIn_app (goodIn_of _ (by decide +kernel)) ggX0_isUnopened_X0_numberOf
theorem dX0_isUnopened_0 : decode cX0_isUnopened 0 = .ok (.lload_n 0, 1) := by decide +kernel
theorem dX0_isUnopened_1 : decode cX0_isUnopened 1 = .ok (.invokestatic 60, 3) := by decide +kernel
theorem dX0_isUnopened_4 : decode cX0_isUnopened 4 = .ok (.ifCond .eq 14, 3) := by decide +kernel
theorem dX0_isUnopened_7 : decode cX0_isUnopened 7 = .ok (.lload_n 0, 1) := by decide +kernel
theorem dX0_isUnopened_8 : decode cX0_isUnopened 8 = .ok (.invokestatic 80, 3) := by decide +kernel
theorem dX0_isUnopened_11 : decode cX0_isUnopened 11 = .ok (.ifCond .ne 7, 3) := by decide +kernel
theorem dX0_isUnopened_14 : decode cX0_isUnopened 14 = .ok (.iconst 1, 1) := by decide +kernel
theorem dX0_isUnopened_15 : decode cX0_isUnopened 15 = .ok (.goto 4, 3) := by decide +kernel
theorem dX0_isUnopened_18 : decode cX0_isUnopened 18 = .ok (.iconst 0, 1) := by decide +kernel
theorem dX0_isUnopened_19 : decode cX0_isUnopened 19 = .ok (.ireturn, 1) := by decide +kernel
set_option maxRecDepth 20000 in
theorem ggX0_isOpen_X0_isValid : GoodIn wsX0_isOpen wsX0_isValid := goodIn_r _ [4, 5, 6, 7, 3, 8] (by decide +kernel) (by decide +kernel)
set_option maxRecDepth 20000 in
theorem gX0_isOpen_X0_isValid : GoodIn wsX0_isOpen (va_wsS RX0 60 yX0_isValid wsX0_isValid) := goodIn_app (goodIn_of _ (by decide +kernel)) ggX0_isOpen_X0_isValid
set_option maxRecDepth 20000 in
theorem ggX0_isOpen_X0_numberOf : GoodIn wsX0_isOpen wsX0_numberOf := goodIn_r _ [11, 12] (by decide +kernel) (by decide +kernel)
set_option maxRecDepth 20000 in
theorem gX0_isOpen_X0_numberOf : GoodIn wsX0_isOpen (va_wsS RX0 80 yX0_numberOf wsX0_numberOf) := goodIn_app (goodIn_of _ (by decide +kernel)) ggX0_isOpen_X0_numberOf
theorem dX0_isOpen_0 : decode cX0_isOpen 0 = .ok (.lload_n 0, 1) := by decide +kernel
theorem dX0_isOpen_1 : decode cX0_isOpen 1 = .ok (.invokestatic 60, 3) := by decide +kernel
theorem dX0_isOpen_4 : decode cX0_isOpen 4 = .ok (.ifCond .eq 14, 3) := by decide +kernel
theorem dX0_isOpen_7 : decode cX0_isOpen 7 = .ok (.lload_n 0, 1) := by decide +kernel
theorem dX0_isOpen_8 : decode cX0_isOpen 8 = .ok (.invokestatic 80, 3) := by decide +kernel
theorem dX0_isOpen_11 : decode cX0_isOpen 11 = .ok (.ifCond .eq 7, 3) := by decide +kernel
theorem dX0_isOpen_14 : decode cX0_isOpen 14 = .ok (.iconst 1, 1) := by decide +kernel
theorem dX0_isOpen_15 : decode cX0_isOpen 15 = .ok (.goto 4, 3) := by decide +kernel
theorem dX0_isOpen_18 : decode cX0_isOpen 18 = .ok (.iconst 0, 1) := by decide +kernel
theorem dX0_isOpen_19 : decode cX0_isOpen 19 = .ok (.ireturn, 1) := by decide +kernel
set_option maxRecDepth 20000 in
theorem ggX0_hasNextNumber_X0_numberOf : GoodIn wsX0_hasNextNumber wsX0_numberOf := goodIn_r _ [5, 1] (by decide +kernel) (by decide +kernel)
set_option maxRecDepth 20000 in
theorem gX0_hasNextNumber_X0_numberOf : GoodIn wsX0_hasNextNumber (va_wsS RX0 80 yX0_numberOf wsX0_numberOf) := goodIn_app (goodIn_of _ (by decide +kernel)) ggX0_hasNextNumber_X0_numberOf
theorem dX0_hasNextNumber_0 : decode cX0_hasNextNumber 0 = .ok (.lload_n 0, 1) := by decide +kernel
theorem dX0_hasNextNumber_1 : decode cX0_hasNextNumber 1 = .ok (.invokestatic 80, 3) := by decide +kernel
theorem dX0_hasNextNumber_4 : decode cX0_hasNextNumber 4 = .ok (.ldc 149, 2) := by decide +kernel
theorem dX0_hasNextNumber_6 : decode cX0_hasNextNumber 6 = .ok (.if_icmp .ge 7, 3) := by decide +kernel
theorem dX0_hasNextNumber_9 : decode cX0_hasNextNumber 9 = .ok (.iconst 1, 1) := by decide +kernel
theorem dX0_hasNextNumber_10 : decode cX0_hasNextNumber 10 = .ok (.goto 4, 3) := by decide +kernel
theorem dX0_hasNextNumber_13 : decode cX0_hasNextNumber 13 = .ok (.iconst 0, 1) := by decide +kernel
theorem dX0_hasNextNumber_14 : decode cX0_hasNextNumber 14 = .ok (.ireturn, 1) := by decide +kernel
theorem dX0_isInt_0 : decode cX0_isInt 0 = .ok (.lload_n 0, 1) := by decide +kernel
theorem dX0_isInt_1 : decode cX0_isInt 1 = .ok (.lload_n 0, 1) := by decide +kernel
theorem dX0_isInt_2 : decode cX0_isInt 2 = .ok (.l2i, 1) := by decide +kernel
theorem dX0_isInt_3 : decode cX0_isInt 3 = .ok (.i2l, 1) := by decide +kernel
theorem dX0_isInt_4 : decode cX0_isInt 4 = .ok (.lcmp, 1) := by decide +kernel
theorem dX0_isInt_5 : decode cX0_isInt 5 = .ok (.ifCond .ne 7, 3) := by decide +kernel
theorem dX0_isInt_8 : decode cX0_isInt 8 = .ok (.iconst 1, 1) := by decide +kernel
theorem dX0_isInt_9 : decode cX0_isInt 9 = .ok (.goto 4, 3) := by decide +kernel
theorem dX0_isInt_12 : decode cX0_isInt 12 = .ok (.iconst 0, 1) := by decide +kernel
theorem dX0_isInt_13 : decode cX0_isInt 13 = .ok (.ireturn, 1) := by decide +kernel
set_option maxRecDepth 20000 in
theorem ggX0_canTake_X0_balanceOf : GoodIn wsX0_canTake wsX0_balanceOf := goodIn_r _ [4] (by decide +kernel) (by decide +kernel)
set_option maxRecDepth 20000 in
theorem gX0_canTake_X0_balanceOf : GoodIn wsX0_canTake (va_wsS RX0 67 yX0_balanceOf wsX0_balanceOf) := goodIn_app (goodIn_of _ (by decide +kernel)) ggX0_canTake_X0_balanceOf
set_option maxRecDepth 20000 in
theorem ggX0_canTake_X0_isOpen : GoodIn wsX0_canTake wsX0_isOpen := goodIn_r _ [7, 8, 9, 3, 10, 11, 12, 13, 14, 15, 16, 17, 18] (by decide +kernel) (by decide +kernel)
set_option maxRecDepth 20000 in
theorem gX0_canTake_X0_isOpen : GoodIn wsX0_canTake (va_wsS RX0 71 yX0_isOpen wsX0_isOpen) := goodIn_app (goodIn_of _ (by decide +kernel)) ggX0_canTake_X0_isOpen
set_option maxRecDepth 20000 in
theorem ggX0_canTake_X0_hasNextNumber : GoodIn wsX0_canTake wsX0_hasNextNumber := goodIn_r _ [21, 18, 15, 16, 3, 17] (by decide +kernel) (by decide +kernel)
set_option maxRecDepth 20000 in
theorem gX0_canTake_X0_hasNextNumber : GoodIn wsX0_canTake (va_wsS RX0 74 yX0_hasNextNumber wsX0_hasNextNumber) := goodIn_app (goodIn_of _ (by decide +kernel)) ggX0_canTake_X0_hasNextNumber
set_option maxRecDepth 20000 in
theorem ggX0_canTake_X0_isInt : GoodIn wsX0_canTake wsX0_isInt := goodIn_r _ [24] (by decide +kernel) (by decide +kernel)
set_option maxRecDepth 20000 in
theorem gX0_canTake_X0_isInt : GoodIn wsX0_canTake (va_wsS RX0 77 yX0_isInt wsX0_isInt) := goodIn_app (goodIn_of _ (by decide +kernel)) ggX0_canTake_X0_isInt
theorem dX0_canTake_0 : decode cX0_canTake 0 = .ok (.lload_n 0, 1) := by decide +kernel
theorem dX0_canTake_1 : decode cX0_canTake 1 = .ok (.invokestatic 67, 3) := by decide +kernel
theorem dX0_canTake_4 : decode cX0_canTake 4 = .ok (.i2l, 1) := by decide +kernel
theorem dX0_canTake_5 : decode cX0_canTake 5 = .ok (.lload_n 2, 1) := by decide +kernel
theorem dX0_canTake_6 : decode cX0_canTake 6 = .ok (.ladd, 1) := by decide +kernel
theorem dX0_canTake_7 : decode cX0_canTake 7 = .ok (.lstore 4, 2) := by decide +kernel
theorem dX0_canTake_9 : decode cX0_canTake 9 = .ok (.lload_n 0, 1) := by decide +kernel
theorem dX0_canTake_10 : decode cX0_canTake 10 = .ok (.invokestatic 71, 3) := by decide +kernel
theorem dX0_canTake_13 : decode cX0_canTake 13 = .ok (.ifCond .eq 29, 3) := by decide +kernel
theorem dX0_canTake_16 : decode cX0_canTake 16 = .ok (.lload_n 0, 1) := by decide +kernel
theorem dX0_canTake_17 : decode cX0_canTake 17 = .ok (.invokestatic 74, 3) := by decide +kernel
theorem dX0_canTake_20 : decode cX0_canTake 20 = .ok (.ifCond .eq 22, 3) := by decide +kernel
theorem dX0_canTake_23 : decode cX0_canTake 23 = .ok (.lload 4, 2) := by decide +kernel
theorem dX0_canTake_25 : decode cX0_canTake 25 = .ok (.invokestatic 77, 3) := by decide +kernel
theorem dX0_canTake_28 : decode cX0_canTake 28 = .ok (.ifCond .eq 14, 3) := by decide +kernel
theorem dX0_canTake_31 : decode cX0_canTake 31 = .ok (.lload 4, 2) := by decide +kernel
theorem dX0_canTake_33 : decode cX0_canTake 33 = .ok (.lconst 0, 1) := by decide +kernel
theorem dX0_canTake_34 : decode cX0_canTake 34 = .ok (.lcmp, 1) := by decide +kernel
theorem dX0_canTake_35 : decode cX0_canTake 35 = .ok (.ifCond .lt 7, 3) := by decide +kernel
theorem dX0_canTake_38 : decode cX0_canTake 38 = .ok (.iconst 1, 1) := by decide +kernel
theorem dX0_canTake_39 : decode cX0_canTake 39 = .ok (.goto 4, 3) := by decide +kernel
theorem dX0_canTake_42 : decode cX0_canTake 42 = .ok (.iconst 0, 1) := by decide +kernel
theorem dX0_canTake_43 : decode cX0_canTake 43 = .ok (.ireturn, 1) := by decide +kernel
set_option maxRecDepth 20000 in
theorem ggX0_nextWord_X0_balanceOf : GoodIn wsX0_nextWord wsX0_balanceOf := goodIn_r _ [4] (by decide +kernel) (by decide +kernel)
set_option maxRecDepth 20000 in
theorem gX0_nextWord_X0_balanceOf : GoodIn wsX0_nextWord (va_wsS RX0 67 yX0_balanceOf wsX0_balanceOf) := goodIn_app (goodIn_of _ (by decide +kernel)) ggX0_nextWord_X0_balanceOf
set_option maxRecDepth 20000 in
theorem ggX0_nextWord_X0_numberOf : GoodIn wsX0_nextWord wsX0_numberOf := goodIn_r _ [7, 8] (by decide +kernel) (by decide +kernel)
set_option maxRecDepth 20000 in
theorem gX0_nextWord_X0_numberOf : GoodIn wsX0_nextWord (va_wsS RX0 80 yX0_numberOf wsX0_numberOf) := goodIn_app (goodIn_of _ (by decide +kernel)) ggX0_nextWord_X0_numberOf
set_option maxRecDepth 20000 in
theorem ggX0_nextWord_X0_makeWord : GoodIn wsX0_nextWord wsX0_makeWord := goodIn_r _ [11, 12, 13, 3, 14] (by decide +kernel) (by decide +kernel)
set_option maxRecDepth 20000 in
theorem gX0_nextWord_X0_makeWord : GoodIn wsX0_nextWord (va_wsS RX0 25 yX0_makeWord wsX0_makeWord) := goodIn_app (goodIn_of _ (by decide +kernel)) ggX0_nextWord_X0_makeWord
theorem dX0_nextWord_0 : decode cX0_nextWord 0 = .ok (.lload_n 0, 1) := by decide +kernel
theorem dX0_nextWord_1 : decode cX0_nextWord 1 = .ok (.invokestatic 67, 3) := by decide +kernel
theorem dX0_nextWord_4 : decode cX0_nextWord 4 = .ok (.iload_n 2, 1) := by decide +kernel
theorem dX0_nextWord_5 : decode cX0_nextWord 5 = .ok (.iadd, 1) := by decide +kernel
theorem dX0_nextWord_6 : decode cX0_nextWord 6 = .ok (.lload_n 0, 1) := by decide +kernel
theorem dX0_nextWord_7 : decode cX0_nextWord 7 = .ok (.invokestatic 80, 3) := by decide +kernel
theorem dX0_nextWord_10 : decode cX0_nextWord 10 = .ok (.iconst 1, 1) := by decide +kernel
theorem dX0_nextWord_11 : decode cX0_nextWord 11 = .ok (.iadd, 1) := by decide +kernel
theorem dX0_nextWord_12 : decode cX0_nextWord 12 = .ok (.invokestatic 25, 3) := by decide +kernel
theorem dX0_nextWord_15 : decode cX0_nextWord 15 = .ok (.lreturn, 1) := by decide +kernel
set_option maxRecDepth 20000 in
theorem ggX0_betterOf_X0_isValid : GoodIn wsX0_betterOf wsX0_isValid := goodIn_r _ [4, 5, 6, 7, 3, 8] (by decide +kernel) (by decide +kernel)
set_option maxRecDepth 20000 in
theorem gX0_betterOf_X0_isValid : GoodIn wsX0_betterOf (va_wsS RX0 60 yX0_isValid wsX0_isValid) := goodIn_app (goodIn_of _ (by decide +kernel)) ggX0_betterOf_X0_isValid
set_option maxRecDepth 20000 in
theorem ggX0_betterOf_X0_numberOf : GoodIn wsX0_betterOf wsX0_numberOf := goodIn_r _ [11, 12] (by decide +kernel) (by decide +kernel)
set_option maxRecDepth 20000 in
theorem gX0_betterOf_X0_numberOf : GoodIn wsX0_betterOf (va_wsS RX0 80 yX0_numberOf wsX0_numberOf) := goodIn_app (goodIn_of _ (by decide +kernel)) ggX0_betterOf_X0_numberOf
set_option maxRecDepth 20000 in
theorem ggX0_betterOf_X0_balanceOf : GoodIn wsX0_betterOf wsX0_balanceOf := goodIn_r _ [15] (by decide +kernel) (by decide +kernel)
set_option maxRecDepth 20000 in
theorem gX0_betterOf_X0_balanceOf : GoodIn wsX0_betterOf (va_wsS RX0 67 yX0_balanceOf wsX0_balanceOf) := goodIn_app (goodIn_of _ (by decide +kernel)) ggX0_betterOf_X0_balanceOf
theorem dX0_betterOf_0 : decode cX0_betterOf 0 = .ok (.lload_n 2, 1) := by decide +kernel
theorem dX0_betterOf_1 : decode cX0_betterOf 1 = .ok (.invokestatic 60, 3) := by decide +kernel
theorem dX0_betterOf_4 : decode cX0_betterOf 4 = .ok (.ifCond .ne 5, 3) := by decide +kernel
theorem dX0_betterOf_7 : decode cX0_betterOf 7 = .ok (.lload_n 0, 1) := by decide +kernel
theorem dX0_betterOf_8 : decode cX0_betterOf 8 = .ok (.lreturn, 1) := by decide +kernel
theorem dX0_betterOf_9 : decode cX0_betterOf 9 = .ok (.lload_n 0, 1) := by decide +kernel
theorem dX0_betterOf_10 : decode cX0_betterOf 10 = .ok (.invokestatic 60, 3) := by decide +kernel
theorem dX0_betterOf_13 : decode cX0_betterOf 13 = .ok (.ifCond .ne 5, 3) := by decide +kernel
theorem dX0_betterOf_16 : decode cX0_betterOf 16 = .ok (.lload_n 2, 1) := by decide +kernel
theorem dX0_betterOf_17 : decode cX0_betterOf 17 = .ok (.lreturn, 1) := by decide +kernel
theorem dX0_betterOf_18 : decode cX0_betterOf 18 = .ok (.lload_n 2, 1) := by decide +kernel
theorem dX0_betterOf_19 : decode cX0_betterOf 19 = .ok (.invokestatic 80, 3) := by decide +kernel
theorem dX0_betterOf_22 : decode cX0_betterOf 22 = .ok (.lload_n 0, 1) := by decide +kernel
theorem dX0_betterOf_23 : decode cX0_betterOf 23 = .ok (.invokestatic 80, 3) := by decide +kernel
theorem dX0_betterOf_26 : decode cX0_betterOf 26 = .ok (.if_icmp .eq 20, 3) := by decide +kernel
theorem dX0_betterOf_29 : decode cX0_betterOf 29 = .ok (.lload_n 2, 1) := by decide +kernel
theorem dX0_betterOf_30 : decode cX0_betterOf 30 = .ok (.invokestatic 80, 3) := by decide +kernel
theorem dX0_betterOf_33 : decode cX0_betterOf 33 = .ok (.lload_n 0, 1) := by decide +kernel
theorem dX0_betterOf_34 : decode cX0_betterOf 34 = .ok (.invokestatic 80, 3) := by decide +kernel
theorem dX0_betterOf_37 : decode cX0_betterOf 37 = .ok (.if_icmp .le 7, 3) := by decide +kernel
theorem dX0_betterOf_40 : decode cX0_betterOf 40 = .ok (.lload_n 2, 1) := by decide +kernel
theorem dX0_betterOf_41 : decode cX0_betterOf 41 = .ok (.goto 4, 3) := by decide +kernel
theorem dX0_betterOf_44 : decode cX0_betterOf 44 = .ok (.lload_n 0, 1) := by decide +kernel
theorem dX0_betterOf_45 : decode cX0_betterOf 45 = .ok (.lreturn, 1) := by decide +kernel
theorem dX0_betterOf_46 : decode cX0_betterOf 46 = .ok (.lload_n 2, 1) := by decide +kernel
theorem dX0_betterOf_47 : decode cX0_betterOf 47 = .ok (.invokestatic 67, 3) := by decide +kernel
theorem dX0_betterOf_50 : decode cX0_betterOf 50 = .ok (.lload_n 0, 1) := by decide +kernel
theorem dX0_betterOf_51 : decode cX0_betterOf 51 = .ok (.invokestatic 67, 3) := by decide +kernel
theorem dX0_betterOf_54 : decode cX0_betterOf 54 = .ok (.if_icmp .le 7, 3) := by decide +kernel
theorem dX0_betterOf_57 : decode cX0_betterOf 57 = .ok (.lload_n 2, 1) := by decide +kernel
theorem dX0_betterOf_58 : decode cX0_betterOf 58 = .ok (.goto 4, 3) := by decide +kernel
theorem dX0_betterOf_61 : decode cX0_betterOf 61 = .ok (.lload_n 0, 1) := by decide +kernel
theorem dX0_betterOf_62 : decode cX0_betterOf 62 = .ok (.lreturn, 1) := by decide +kernel
