set_option maxRecDepth 20000 in
theorem ggX0_init_X0_makeWord : GoodIn wsX0_init wsX0_makeWord := goodIn_r _ [13, 14, 15, 12, 16] (by decide +kernel) (by decide +kernel)
set_option maxRecDepth 20000 in
theorem gX0_init_X0_makeWord : GoodIn wsX0_init (va_wsS RX0 25 yX0_makeWord wsX0_makeWord) := goodIn_app (goodIn_of _ (by decide +kernel)) ggX0_init_X0_makeWord
theorem dX0_init_0 : decode cX0_init 0 = .ok (.aload_n 0, 1) := by decide +kernel
theorem dX0_init_1 : decode cX0_init 1 = .ok (.invokespecial 1, 3) := by decide +kernel
theorem dX0_init_4 : decode cX0_init 4 = .ok (.aload_n 0, 1) := by decide +kernel
theorem dX0_init_5 : decode cX0_init 5 = .ok (.bipush 80, 2) := by decide +kernel
theorem dX0_init_7 : decode cX0_init 7 = .ok (.newarray .long, 2) := by decide +kernel
theorem dX0_init_9 : decode cX0_init 9 = .ok (.putfield 9, 3) := by decide +kernel
theorem dX0_init_12 : decode cX0_init 12 = .ok (.aload_n 0, 1) := by decide +kernel
theorem dX0_init_13 : decode cX0_init 13 = .ok (.bipush 20, 2) := by decide +kernel
theorem dX0_init_15 : decode cX0_init 15 = .ok (.newarray .int, 2) := by decide +kernel
theorem dX0_init_17 : decode cX0_init 17 = .ok (.putfield 13, 3) := by decide +kernel
theorem dX0_init_20 : decode cX0_init 20 = .ok (.aload_n 0, 1) := by decide +kernel
theorem dX0_init_21 : decode cX0_init 21 = .ok (.iconst 1, 1) := by decide +kernel
theorem dX0_init_22 : decode cX0_init 22 = .ok (.putfield 17, 3) := by decide +kernel
theorem dX0_init_25 : decode cX0_init 25 = .ok (.aload_n 0, 1) := by decide +kernel
theorem dX0_init_26 : decode cX0_init 26 = .ok (.iconst (-1), 1) := by decide +kernel
theorem dX0_init_27 : decode cX0_init 27 = .ok (.putfield 21, 3) := by decide +kernel
theorem dX0_init_30 : decode cX0_init 30 = .ok (.iconst 0, 1) := by decide +kernel
theorem dX0_init_31 : decode cX0_init 31 = .ok (.iconst 0, 1) := by decide +kernel
theorem dX0_init_32 : decode cX0_init 32 = .ok (.invokestatic 25, 3) := by decide +kernel
theorem dX0_init_35 : decode cX0_init 35 = .ok (.lstore_n 1, 1) := by decide +kernel
theorem dX0_init_36 : decode cX0_init 36 = .ok (.iconst 0, 1) := by decide +kernel
theorem dX0_init_37 : decode cX0_init 37 = .ok (.istore_n 3, 1) := by decide +kernel
theorem dX0_init_38 : decode cX0_init 38 = .ok (.iload_n 3, 1) := by decide +kernel
theorem dX0_init_39 : decode cX0_init 39 = .ok (.aload_n 0, 1) := by decide +kernel
theorem dX0_init_40 : decode cX0_init 40 = .ok (.getfield 9, 3) := by decide +kernel
theorem dX0_init_43 : decode cX0_init 43 = .ok (.arraylength, 1) := by decide +kernel
theorem dX0_init_44 : decode cX0_init 44 = .ok (.if_icmp .ge 16, 3) := by decide +kernel
theorem dX0_init_47 : decode cX0_init 47 = .ok (.aload_n 0, 1) := by decide +kernel
theorem dX0_init_48 : decode cX0_init 48 = .ok (.getfield 9, 3) := by decide +kernel
theorem dX0_init_51 : decode cX0_init 51 = .ok (.iload_n 3, 1) := by decide +kernel
theorem dX0_init_52 : decode cX0_init 52 = .ok (.lload_n 1, 1) := by decide +kernel
theorem dX0_init_53 : decode cX0_init 53 = .ok (.lastore, 1) := by decide +kernel
theorem dX0_init_54 : decode cX0_init 54 = .ok (.iinc 3 1, 3) := by decide +kernel
theorem dX0_init_57 : decode cX0_init 57 = .ok (.goto (-19), 3) := by decide +kernel
theorem dX0_init_60 : decode cX0_init 60 = .ok (.return_, 1) := by decide +kernel
set_option maxRecDepth 20000 in
theorem ggX0_open_X0_isAccount : GoodIn wsX0_open wsX0_isAccount := goodIn_r _ [4] (by decide +kernel) (by decide +kernel)
set_option maxRecDepth 20000 in
theorem gX0_open_X0_isAccount : GoodIn wsX0_open (va_wsS RX0 29 yX0_isAccount wsX0_isAccount) := goodIn_app (goodIn_of _ (by decide +kernel)) ggX0_open_X0_isAccount
set_option maxRecDepth 20000 in
theorem ggX0_open_X0_readTurn : GoodIn wsX0_open wsX0_readTurn := goodIn_r _ [8, 9, 10, 11, 12, 13, 3, 14, 15, 16, 17, 18, 19, 20, 21, 22, 23, 54, 55, 56, 57, 58, 59] (by decide +kernel) (by decide +kernel)
set_option maxRecDepth 20000 in
theorem gX0_open_X0_readTurn : GoodIn wsX0_open (wsV RX0 33 RX0 yX0_readTurn wsX0_readTurn) := goodIn_app (goodIn_of _ (by decide +kernel)) ggX0_open_X0_readTurn
set_option maxRecDepth 20000 in
theorem ggX0_open_X0_isUnopened : GoodIn wsX0_open wsX0_isUnopened := goodIn_r _ [26, 27, 28, 3, 29, 30, 31, 32, 33, 34, 35, 36, 37] (by decide +kernel) (by decide +kernel)
set_option maxRecDepth 20000 in
theorem gX0_open_X0_isUnopened : GoodIn wsX0_open (va_wsS RX0 36 yX0_isUnopened wsX0_isUnopened) := goodIn_app (goodIn_of _ (by decide +kernel)) ggX0_open_X0_isUnopened
set_option maxRecDepth 20000 in
theorem ggX0_open_X0_makeWord : GoodIn wsX0_open wsX0_makeWord := goodIn_r _ [40, 31, 32, 3, 33] (by decide +kernel) (by decide +kernel)
set_option maxRecDepth 20000 in
theorem gX0_open_X0_makeWord : GoodIn wsX0_open (va_wsS RX0 25 yX0_makeWord wsX0_makeWord) := goodIn_app (goodIn_of _ (by decide +kernel)) ggX0_open_X0_makeWord
set_option maxRecDepth 20000 in
theorem ggX0_open_X0_put : GoodIn wsX0_open wsX0_put := goodIn_r _ [44, 45, 46, 47, 3, 48, 49, 10, 11, 12, 13, 14, 15, 16, 17, 18, 19, 20, 21, 22, 23, 54, 55, 56, 57, 58, 59] (by decide +kernel) (by decide +kernel)
set_option maxRecDepth 20000 in
theorem gX0_open_X0_put : GoodIn wsX0_open (wsV RX0 40 RX0 yX0_put wsX0_put) := goodIn_app (goodIn_of _ (by decide +kernel)) ggX0_open_X0_put
set_option maxRecDepth 20000 in
theorem ggX0_open_X0_writeTurn : GoodIn wsX0_open wsX0_writeTurn := goodIn_r _ [48, 49, 10, 11, 12, 13, 3, 14, 15, 16, 17, 18, 19, 20, 21, 22, 23, 54, 55, 56, 57, 58, 59] (by decide +kernel) (by decide +kernel)
set_option maxRecDepth 20000 in
theorem gX0_open_X0_writeTurn : GoodIn wsX0_open (wsV RX0 44 RX0 yX0_writeTurn wsX0_writeTurn) := goodIn_app (goodIn_of _ (by decide +kernel)) ggX0_open_X0_writeTurn
set_option maxRecDepth 20000 in
theorem ggX0_open_X0_answerOf : GoodIn wsX0_open wsX0_answerOf := goodIn_r _ [53, 15, 54, 55, 56, 57, 58, 59] (by decide +kernel) (by decide +kernel)
set_option maxRecDepth 20000 in
theorem gX0_open_X0_answerOf : GoodIn wsX0_open (wsV RX0 48 RX0 yX0_answerOf wsX0_answerOf) := goodIn_app (goodIn_of _ (by decide +kernel)) ggX0_open_X0_answerOf
theorem dX0_open_0 : decode cX0_open 0 = .ok (.iload_n 1, 1) := by decide +kernel
theorem dX0_open_1 : decode cX0_open 1 = .ok (.invokestatic 29, 3) := by decide +kernel
theorem dX0_open_4 : decode cX0_open 4 = .ok (.ifCond .ne 5, 3) := by decide +kernel
theorem dX0_open_7 : decode cX0_open 7 = .ok (.iconst (-1), 1) := by decide +kernel
theorem dX0_open_8 : decode cX0_open 8 = .ok (.ireturn, 1) := by decide +kernel
theorem dX0_open_9 : decode cX0_open 9 = .ok (.aload_n 0, 1) := by decide +kernel
theorem dX0_open_10 : decode cX0_open 10 = .ok (.iconst 0, 1) := by decide +kernel
theorem dX0_open_11 : decode cX0_open 11 = .ok (.iload_n 1, 1) := by decide +kernel
theorem dX0_open_12 : decode cX0_open 12 = .ok (.invokevirtual 33, 3) := by decide +kernel
theorem dX0_open_15 : decode cX0_open 15 = .ok (.lstore_n 3, 1) := by decide +kernel
theorem dX0_open_16 : decode cX0_open 16 = .ok (.lload_n 3, 1) := by decide +kernel
theorem dX0_open_17 : decode cX0_open 17 = .ok (.invokestatic 36, 3) := by decide +kernel
theorem dX0_open_20 : decode cX0_open 20 = .ok (.istore 5, 2) := by decide +kernel
theorem dX0_open_22 : decode cX0_open 22 = .ok (.iload 5, 2) := by decide +kernel
theorem dX0_open_24 : decode cX0_open 24 = .ok (.ifCond .eq 16, 3) := by decide +kernel
theorem dX0_open_27 : decode cX0_open 27 = .ok (.aload_n 0, 1) := by decide +kernel
theorem dX0_open_28 : decode cX0_open 28 = .ok (.iload_n 1, 1) := by decide +kernel
theorem dX0_open_29 : decode cX0_open 29 = .ok (.iload_n 2, 1) := by decide +kernel
theorem dX0_open_30 : decode cX0_open 30 = .ok (.iconst 1, 1) := by decide +kernel
theorem dX0_open_31 : decode cX0_open 31 = .ok (.invokestatic 25, 3) := by decide +kernel
theorem dX0_open_34 : decode cX0_open 34 = .ok (.invokevirtual 40, 3) := by decide +kernel
theorem dX0_open_37 : decode cX0_open 37 = .ok (.goto 10, 3) := by decide +kernel
theorem dX0_open_40 : decode cX0_open 40 = .ok (.aload_n 0, 1) := by decide +kernel
theorem dX0_open_41 : decode cX0_open 41 = .ok (.iconst 0, 1) := by decide +kernel
theorem dX0_open_42 : decode cX0_open 42 = .ok (.iload_n 1, 1) := by decide +kernel
theorem dX0_open_43 : decode cX0_open 43 = .ok (.lload_n 3, 1) := by decide +kernel
theorem dX0_open_44 : decode cX0_open 44 = .ok (.invokevirtual 44, 3) := by decide +kernel
theorem dX0_open_47 : decode cX0_open 47 = .ok (.aload_n 0, 1) := by decide +kernel
theorem dX0_open_48 : decode cX0_open 48 = .ok (.iload 5, 2) := by decide +kernel
theorem dX0_open_50 : decode cX0_open 50 = .ok (.invokevirtual 48, 3) := by decide +kernel
theorem dX0_open_53 : decode cX0_open 53 = .ok (.ireturn, 1) := by decide +kernel
set_option maxRecDepth 20000 in
theorem ggX0_balance_X0_isAccount : GoodIn wsX0_balance wsX0_isAccount := goodIn_r _ [9] (by decide +kernel) (by decide +kernel)
set_option maxRecDepth 20000 in
theorem gX0_balance_X0_isAccount : GoodIn wsX0_balance (va_wsS RX0 29 yX0_isAccount wsX0_isAccount) := goodIn_app (goodIn_of _ (by decide +kernel)) ggX0_balance_X0_isAccount
set_option maxRecDepth 20000 in
theorem ggX0_balance_X0_look : GoodIn wsX0_balance wsX0_look := goodIn_r _ [13, 14, 15, 16, 8, 17, 18, 19, 20, 21, 22, 23, 2, 24, 25, 26, 27, 28, 29, 30, 31, 32, 33, 34, 35, 36, 54, 55, 56, 57, 58, 59] (by decide +kernel) (by decide +kernel)
set_option maxRecDepth 20000 in
theorem gX0_balance_X0_look : GoodIn wsX0_balance (wsV RX0 54 RX0 yX0_look wsX0_look) := goodIn_app (goodIn_of _ (by decide +kernel)) ggX0_balance_X0_look
set_option maxRecDepth 20000 in
theorem ggX0_balance_X0_isValid : GoodIn wsX0_balance wsX0_isValid := goodIn_r _ [39, 40, 41, 42, 8, 43] (by decide +kernel) (by decide +kernel)
set_option maxRecDepth 20000 in
theorem gX0_balance_X0_isValid : GoodIn wsX0_balance (va_wsS RX0 60 yX0_isValid wsX0_isValid) := goodIn_app (goodIn_of _ (by decide +kernel)) ggX0_balance_X0_isValid
set_option maxRecDepth 20000 in
theorem ggX0_balance_X0_isUnopened : GoodIn wsX0_balance wsX0_isUnopened := goodIn_r _ [46, 37, 38, 8, 39, 40, 41, 42, 43, 47, 48, 49, 50] (by decide +kernel) (by decide +kernel)
set_option maxRecDepth 20000 in
theorem gX0_balance_X0_isUnopened : GoodIn wsX0_balance (va_wsS RX0 36 yX0_isUnopened wsX0_isUnopened) := goodIn_app (goodIn_of _ (by decide +kernel)) ggX0_balance_X0_isUnopened
set_option maxRecDepth 20000 in
theorem ggX0_balance_X0_balanceOf : GoodIn wsX0_balance wsX0_balanceOf := goodIn_r _ [53] (by decide +kernel) (by decide +kernel)
set_option maxRecDepth 20000 in
theorem gX0_balance_X0_balanceOf : GoodIn wsX0_balance (va_wsS RX0 67 yX0_balanceOf wsX0_balanceOf) := goodIn_app (goodIn_of _ (by decide +kernel)) ggX0_balance_X0_balanceOf
theorem dX0_balance_0 : decode cX0_balance 0 = .ok (.iload_n 1, 1) := by decide +kernel
theorem dX0_balance_1 : decode cX0_balance 1 = .ok (.invokestatic 29, 3) := by decide +kernel
theorem dX0_balance_4 : decode cX0_balance 4 = .ok (.ifCond .ne 7, 3) := by decide +kernel
theorem dX0_balance_7 : decode cX0_balance 7 = .ok (.ldc2_w 52, 3) := by decide +kernel
theorem dX0_balance_10 : decode cX0_balance 10 = .ok (.lreturn, 1) := by decide +kernel
theorem dX0_balance_11 : decode cX0_balance 11 = .ok (.aload_n 0, 1) := by decide +kernel
theorem dX0_balance_12 : decode cX0_balance 12 = .ok (.iload_n 1, 1) := by decide +kernel
theorem dX0_balance_13 : decode cX0_balance 13 = .ok (.invokevirtual 54, 3) := by decide +kernel
theorem dX0_balance_16 : decode cX0_balance 16 = .ok (.lstore_n 2, 1) := by decide +kernel
theorem dX0_balance_17 : decode cX0_balance 17 = .ok (.aload_n 0, 1) := by decide +kernel
theorem dX0_balance_18 : decode cX0_balance 18 = .ok (.getfield 17, 3) := by decide +kernel
theorem dX0_balance_21 : decode cX0_balance 21 = .ok (.ifCond .ne 7, 3) := by decide +kernel
theorem dX0_balance_24 : decode cX0_balance 24 = .ok (.ldc2_w 58, 3) := by decide +kernel
theorem dX0_balance_27 : decode cX0_balance 27 = .ok (.lreturn, 1) := by decide +kernel
theorem dX0_balance_28 : decode cX0_balance 28 = .ok (.lload_n 2, 1) := by decide +kernel
theorem dX0_balance_29 : decode cX0_balance 29 = .ok (.invokestatic 60, 3) := by decide +kernel
theorem dX0_balance_32 : decode cX0_balance 32 = .ok (.ifCond .ne 7, 3) := by decide +kernel
theorem dX0_balance_35 : decode cX0_balance 35 = .ok (.ldc2_w 63, 3) := by decide +kernel
theorem dX0_balance_38 : decode cX0_balance 38 = .ok (.lreturn, 1) := by decide +kernel
theorem dX0_balance_39 : decode cX0_balance 39 = .ok (.lload_n 2, 1) := by decide +kernel
theorem dX0_balance_40 : decode cX0_balance 40 = .ok (.invokestatic 36, 3) := by decide +kernel
theorem dX0_balance_43 : decode cX0_balance 43 = .ok (.ifCond .eq 9, 3) := by decide +kernel
theorem dX0_balance_46 : decode cX0_balance 46 = .ok (.ldc2_w 65, 3) := by decide +kernel
theorem dX0_balance_49 : decode cX0_balance 49 = .ok (.goto 8, 3) := by decide +kernel
theorem dX0_balance_52 : decode cX0_balance 52 = .ok (.lload_n 2, 1) := by decide +kernel
theorem dX0_balance_53 : decode cX0_balance 53 = .ok (.invokestatic 67, 3) := by decide +kernel
theorem dX0_balance_56 : decode cX0_balance 56 = .ok (.i2l, 1) := by decide +kernel
theorem dX0_balance_57 : decode cX0_balance 57 = .ok (.lreturn, 1) := by decide +kernel
set_option maxRecDepth 20000 in
theorem ggX0_post_X0_isAccount : GoodIn wsX0_post wsX0_isAccount := goodIn_r _ [4] (by decide +kernel) (by decide +kernel)
set_option maxRecDepth 20000 in
theorem gX0_post_X0_isAccount : GoodIn wsX0_post (va_wsS RX0 29 yX0_isAccount wsX0_isAccount) := goodIn_app (goodIn_of _ (by decide +kernel)) ggX0_post_X0_isAccount
set_option maxRecDepth 20000 in
theorem ggX0_post_X0_readTurn : GoodIn wsX0_post wsX0_readTurn := goodIn_r _ [8, 9, 10, 11, 12, 13, 3, 14, 15, 16, 17, 18, 19, 20, 21, 22, 23, 63, 64, 65, 66, 67, 68] (by decide +kernel) (by decide +kernel)
set_option maxRecDepth 20000 in
theorem gX0_post_X0_readTurn : GoodIn wsX0_post (wsV RX0 33 RX0 yX0_readTurn wsX0_readTurn) := goodIn_app (goodIn_of _ (by decide +kernel)) ggX0_post_X0_readTurn
set_option maxRecDepth 20000 in
theorem ggX0_post_X0_balanceOf : GoodIn wsX0_post wsX0_balanceOf := goodIn_r _ [26] (by decide +kernel) (by decide +kernel)
set_option maxRecDepth 20000 in
theorem gX0_post_X0_balanceOf : GoodIn wsX0_post (va_wsS RX0 67 yX0_balanceOf wsX0_balanceOf) := goodIn_app (goodIn_of _ (by decide +kernel)) ggX0_post_X0_balanceOf
set_option maxRecDepth 20000 in
theorem ggX0_post_X0_isOpen : GoodIn wsX0_post wsX0_isOpen := goodIn_r _ [29, 30, 31, 3, 32, 33, 34, 35, 36, 37, 38, 39, 40] (by decide +kernel) (by decide +kernel)
set_option maxRecDepth 20000 in
theorem gX0_post_X0_isOpen : GoodIn wsX0_post (va_wsS RX0 71 yX0_isOpen wsX0_isOpen) := goodIn_app (goodIn_of _ (by decide +kernel)) ggX0_post_X0_isOpen
set_option maxRecDepth 20000 in
theorem ggX0_post_X0_hasNextNumber : GoodIn wsX0_post wsX0_hasNextNumber := goodIn_r _ [43, 40, 37, 38, 3, 39] (by decide +kernel) (by decide +kernel)
set_option maxRecDepth 20000 in
theorem gX0_post_X0_hasNextNumber : GoodIn wsX0_post (va_wsS RX0 74 yX0_hasNextNumber wsX0_hasNextNumber) := goodIn_app (goodIn_of _ (by decide +kernel)) ggX0_post_X0_hasNextNumber
set_option maxRecDepth 20000 in
theorem ggX0_post_X0_isInt : GoodIn wsX0_post wsX0_isInt := goodIn_r _ [46] (by decide +kernel) (by decide +kernel)
set_option maxRecDepth 20000 in
theorem gX0_post_X0_isInt : GoodIn wsX0_post (va_wsS RX0 77 yX0_isInt wsX0_isInt) := goodIn_app (goodIn_of _ (by decide +kernel)) ggX0_post_X0_isInt
set_option maxRecDepth 20000 in
theorem ggX0_post_X0_numberOf : GoodIn wsX0_post wsX0_numberOf := goodIn_r _ [39, 40] (by decide +kernel) (by decide +kernel)
set_option maxRecDepth 20000 in
theorem gX0_post_X0_numberOf : GoodIn wsX0_post (va_wsS RX0 80 yX0_numberOf wsX0_numberOf) := goodIn_app (goodIn_of _ (by decide +kernel)) ggX0_post_X0_numberOf
set_option maxRecDepth 20000 in
theorem ggX0_post_X0_makeWord : GoodIn wsX0_post wsX0_makeWord := goodIn_r _ [49, 34, 35, 3, 36] (by decide +kernel) (by decide +kernel)
set_option maxRecDepth 20000 in
theorem gX0_post_X0_makeWord : GoodIn wsX0_post (va_wsS RX0 25 yX0_makeWord wsX0_makeWord) := goodIn_app (goodIn_of _ (by decide +kernel)) ggX0_post_X0_makeWord
set_option maxRecDepth 20000 in
theorem ggX0_post_X0_put : GoodIn wsX0_post wsX0_put := goodIn_r _ [53, 54, 55, 56, 3, 57, 58, 10, 11, 12, 13, 14, 15, 16, 17, 18, 19, 20, 21, 22, 23, 63, 64, 65, 66, 67, 68] (by decide +kernel) (by decide +kernel)
set_option maxRecDepth 20000 in
theorem gX0_post_X0_put : GoodIn wsX0_post (wsV RX0 40 RX0 yX0_put wsX0_put) := goodIn_app (goodIn_of _ (by decide +kernel)) ggX0_post_X0_put
set_option maxRecDepth 20000 in
theorem ggX0_post_X0_writeTurn : GoodIn wsX0_post wsX0_writeTurn := goodIn_r _ [57, 58, 10, 11, 12, 13, 3, 14, 15, 16, 17, 18, 19, 20, 21, 22, 23, 63, 64, 65, 66, 67, 68] (by decide +kernel) (by decide +kernel)
set_option maxRecDepth 20000 in
theorem gX0_post_X0_writeTurn : GoodIn wsX0_post (wsV RX0 44 RX0 yX0_writeTurn wsX0_writeTurn) := goodIn_app (goodIn_of _ (by decide +kernel)) ggX0_post_X0_writeTurn
set_option maxRecDepth 20000 in
theorem ggX0_post_X0_answerOf : GoodIn wsX0_post wsX0_answerOf := goodIn_r _ [62, 15, 63, 64, 65, 66, 67, 68] (by decide +kernel) (by decide +kernel)
set_option maxRecDepth 20000 in
theorem gX0_post_X0_answerOf : GoodIn wsX0_post (wsV RX0 48 RX0 yX0_answerOf wsX0_answerOf) := goodIn_app (goodIn_of _ (by decide +kernel)) ggX0_post_X0_answerOf
theorem dX0_post_0 : decode cX0_post 0 = .ok (.iload_n 1, 1) := by decide +kernel
theorem dX0_post_1 : decode cX0_post 1 = .ok (.invokestatic 29, 3) := by decide +kernel
theorem dX0_post_4 : decode cX0_post 4 = .ok (.ifCond .ne 5, 3) := by decide +kernel
theorem dX0_post_7 : decode cX0_post 7 = .ok (.iconst (-1), 1) := by decide +kernel
theorem dX0_post_8 : decode cX0_post 8 = .ok (.ireturn, 1) := by decide +kernel
theorem dX0_post_9 : decode cX0_post 9 = .ok (.aload_n 0, 1) := by decide +kernel
theorem dX0_post_10 : decode cX0_post 10 = .ok (.iconst 0, 1) := by decide +kernel
theorem dX0_post_11 : decode cX0_post 11 = .ok (.iload_n 1, 1) := by decide +kernel
theorem dX0_post_12 : decode cX0_post 12 = .ok (.invokevirtual 33, 3) := by decide +kernel
theorem dX0_post_15 : decode cX0_post 15 = .ok (.lstore_n 3, 1) := by decide +kernel
theorem dX0_post_16 : decode cX0_post 16 = .ok (.lload_n 3, 1) := by decide +kernel
theorem dX0_post_17 : decode cX0_post 17 = .ok (.invokestatic 67, 3) := by decide +kernel
theorem dX0_post_20 : decode cX0_post 20 = .ok (.i2l, 1) := by decide +kernel
theorem dX0_post_21 : decode cX0_post 21 = .ok (.iload_n 2, 1) := by decide +kernel
theorem dX0_post_22 : decode cX0_post 22 = .ok (.i2l, 1) := by decide +kernel
theorem dX0_post_23 : decode cX0_post 23 = .ok (.ladd, 1) := by decide +kernel
theorem dX0_post_24 : decode cX0_post 24 = .ok (.lstore 5, 2) := by decide +kernel
theorem dX0_post_26 : decode cX0_post 26 = .ok (.lload_n 3, 1) := by decide +kernel
theorem dX0_post_27 : decode cX0_post 27 = .ok (.invokestatic 71, 3) := by decide +kernel
theorem dX0_post_30 : decode cX0_post 30 = .ok (.ifCond .eq 22, 3) := by decide +kernel
theorem dX0_post_33 : decode cX0_post 33 = .ok (.lload_n 3, 1) := by decide +kernel
theorem dX0_post_34 : decode cX0_post 34 = .ok (.invokestatic 74, 3) := by decide +kernel
theorem dX0_post_37 : decode cX0_post 37 = .ok (.ifCond .eq 15, 3) := by decide +kernel
theorem dX0_post_40 : decode cX0_post 40 = .ok (.lload 5, 2) := by decide +kernel
theorem dX0_post_42 : decode cX0_post 42 = .ok (.invokestatic 77, 3) := by decide +kernel
theorem dX0_post_45 : decode cX0_post 45 = .ok (.ifCond .eq 7, 3) := by decide +kernel
theorem dX0_post_48 : decode cX0_post 48 = .ok (.iconst 1, 1) := by decide +kernel
theorem dX0_post_49 : decode cX0_post 49 = .ok (.goto 4, 3) := by decide +kernel
theorem dX0_post_52 : decode cX0_post 52 = .ok (.iconst 0, 1) := by decide +kernel
theorem dX0_post_53 : decode cX0_post 53 = .ok (.istore 7, 2) := by decide +kernel
theorem dX0_post_55 : decode cX0_post 55 = .ok (.iload 7, 2) := by decide +kernel
theorem dX0_post_57 : decode cX0_post 57 = .ok (.ifCond .eq 23, 3) := by decide +kernel
theorem dX0_post_60 : decode cX0_post 60 = .ok (.aload_n 0, 1) := by decide +kernel
theorem dX0_post_61 : decode cX0_post 61 = .ok (.iload_n 1, 1) := by decide +kernel
theorem dX0_post_62 : decode cX0_post 62 = .ok (.lload 5, 2) := by decide +kernel
theorem dX0_post_64 : decode cX0_post 64 = .ok (.l2i, 1) := by decide +kernel
theorem dX0_post_65 : decode cX0_post 65 = .ok (.lload_n 3, 1) := by decide +kernel
theorem dX0_post_66 : decode cX0_post 66 = .ok (.invokestatic 80, 3) := by decide +kernel
theorem dX0_post_69 : decode cX0_post 69 = .ok (.iconst 1, 1) := by decide +kernel
theorem dX0_post_70 : decode cX0_post 70 = .ok (.iadd, 1) := by decide +kernel
theorem dX0_post_71 : decode cX0_post 71 = .ok (.invokestatic 25, 3) := by decide +kernel
theorem dX0_post_74 : decode cX0_post 74 = .ok (.invokevirtual 40, 3) := by decide +kernel
theorem dX0_post_77 : decode cX0_post 77 = .ok (.goto 10, 3) := by decide +kernel
theorem dX0_post_80 : decode cX0_post 80 = .ok (.aload_n 0, 1) := by decide +kernel
theorem dX0_post_81 : decode cX0_post 81 = .ok (.iconst 0, 1) := by decide +kernel
theorem dX0_post_82 : decode cX0_post 82 = .ok (.iload_n 1, 1) := by decide +kernel
theorem dX0_post_83 : decode cX0_post 83 = .ok (.lload_n 3, 1) := by decide +kernel
theorem dX0_post_84 : decode cX0_post 84 = .ok (.invokevirtual 44, 3) := by decide +kernel
theorem dX0_post_87 : decode cX0_post 87 = .ok (.aload_n 0, 1) := by decide +kernel
theorem dX0_post_88 : decode cX0_post 88 = .ok (.iload 7, 2) := by decide +kernel
theorem dX0_post_90 : decode cX0_post 90 = .ok (.invokevirtual 48, 3) := by decide +kernel
theorem dX0_post_93 : decode cX0_post 93 = .ok (.ireturn, 1) := by decide +kernel
set_option maxRecDepth 20000 in
theorem ggX0_transfer_X0_isAccount : GoodIn wsX0_transfer wsX0_isAccount := goodIn_r _ [6] (by decide +kernel) (by decide +kernel)
set_option maxRecDepth 20000 in
theorem gX0_transfer_X0_isAccount : GoodIn wsX0_transfer (va_wsS RX0 29 yX0_isAccount wsX0_isAccount) := goodIn_app (goodIn_of _ (by decide +kernel)) ggX0_transfer_X0_isAccount
set_option maxRecDepth 20000 in
theorem ggX0_transfer_X0_look : GoodIn wsX0_transfer wsX0_look := goodIn_r _ [10, 11, 12, 13, 5, 14, 15, 16, 17, 18, 19, 20, 21, 22, 23, 24, 25, 26, 27, 28, 29, 30, 31, 32, 33, 34, 75, 76, 77, 78, 79, 80] (by decide +kernel) (by decide +kernel)
set_option maxRecDepth 20000 in
theorem gX0_transfer_X0_look : GoodIn wsX0_transfer (wsV RX0 54 RX0 yX0_look wsX0_look) := goodIn_app (goodIn_of _ (by decide +kernel)) ggX0_transfer_X0_look
set_option maxRecDepth 20000 in
theorem ggX0_transfer_X0_canTake : GoodIn wsX0_transfer wsX0_canTake := goodIn_r _ [37, 38, 39, 5, 40, 41, 42, 43, 44, 45, 46, 47, 48, 49, 50, 51, 52, 53, 54, 55, 56, 57, 58, 59, 60] (by decide +kernel) (by decide +kernel)
set_option maxRecDepth 20000 in
theorem gX0_transfer_X0_canTake : GoodIn wsX0_transfer (va_wsS RX0 83 yX0_canTake wsX0_canTake) := goodIn_app (goodIn_of _ (by decide +kernel)) ggX0_transfer_X0_canTake
set_option maxRecDepth 20000 in
theorem ggX0_transfer_X0_isValid : GoodIn wsX0_transfer wsX0_isValid := goodIn_r _ [46, 47, 48, 49, 5, 50] (by decide +kernel) (by decide +kernel)
set_option maxRecDepth 20000 in
theorem gX0_transfer_X0_isValid : GoodIn wsX0_transfer (va_wsS RX0 60 yX0_isValid wsX0_isValid) := goodIn_app (goodIn_of _ (by decide +kernel)) ggX0_transfer_X0_isValid
set_option maxRecDepth 20000 in
theorem ggX0_transfer_X0_hasNextNumber : GoodIn wsX0_transfer wsX0_hasNextNumber := goodIn_r _ [57, 54, 51, 52, 5, 53] (by decide +kernel) (by decide +kernel)
set_option maxRecDepth 20000 in
theorem gX0_transfer_X0_hasNextNumber : GoodIn wsX0_transfer (va_wsS RX0 74 yX0_hasNextNumber wsX0_hasNextNumber) := goodIn_app (goodIn_of _ (by decide +kernel)) ggX0_transfer_X0_hasNextNumber
set_option maxRecDepth 20000 in
theorem ggX0_transfer_X0_nextWord : GoodIn wsX0_transfer wsX0_nextWord := goodIn_r _ [63, 38, 39, 5, 40, 51, 52, 53, 54, 64, 65, 66, 48, 49, 50] (by decide +kernel) (by decide +kernel)
set_option maxRecDepth 20000 in
theorem gX0_transfer_X0_nextWord : GoodIn wsX0_transfer (va_wsS RX0 87 yX0_nextWord wsX0_nextWord) := goodIn_app (goodIn_of _ (by decide +kernel)) ggX0_transfer_X0_nextWord
set_option maxRecDepth 20000 in
theorem ggX0_transfer_X0_numberOf : GoodIn wsX0_transfer wsX0_numberOf := goodIn_r _ [53, 54] (by decide +kernel) (by decide +kernel)
set_option maxRecDepth 20000 in
theorem gX0_transfer_X0_numberOf : GoodIn wsX0_transfer (va_wsS RX0 80 yX0_numberOf wsX0_numberOf) := goodIn_app (goodIn_of _ (by decide +kernel)) ggX0_transfer_X0_numberOf
set_option maxRecDepth 20000 in
theorem ggX0_transfer_X0_makeWord : GoodIn wsX0_transfer wsX0_makeWord := goodIn_r _ [66, 48, 49, 5, 50] (by decide +kernel) (by decide +kernel)
set_option maxRecDepth 20000 in
theorem gX0_transfer_X0_makeWord : GoodIn wsX0_transfer (va_wsS RX0 25 yX0_makeWord wsX0_makeWord) := goodIn_app (goodIn_of _ (by decide +kernel)) ggX0_transfer_X0_makeWord
set_option maxRecDepth 20000 in
theorem ggX0_transfer_X0_put : GoodIn wsX0_transfer wsX0_put := goodIn_r _ [70, 30, 31, 32, 5, 33, 34, 16, 17, 18, 19, 20, 21, 22, 23, 24, 25, 26, 27, 28, 29, 75, 76, 77, 78, 79, 80] (by decide +kernel) (by decide +kernel)
set_option maxRecDepth 20000 in
theorem gX0_transfer_X0_put : GoodIn wsX0_transfer (wsV RX0 40 RX0 yX0_put wsX0_put) := goodIn_app (goodIn_of _ (by decide +kernel)) ggX0_transfer_X0_put
set_option maxRecDepth 20000 in
theorem ggX0_transfer_X0_answerOf : GoodIn wsX0_transfer wsX0_answerOf := goodIn_r _ [74, 21, 75, 76, 77, 78, 79, 80] (by decide +kernel) (by decide +kernel)
set_option maxRecDepth 20000 in
theorem gX0_transfer_X0_answerOf : GoodIn wsX0_transfer (wsV RX0 48 RX0 yX0_answerOf wsX0_answerOf) := goodIn_app (goodIn_of _ (by decide +kernel)) ggX0_transfer_X0_answerOf
theorem dX0_transfer_0 : decode cX0_transfer 0 = .ok (.iload_n 1, 1) := by decide +kernel
theorem dX0_transfer_1 : decode cX0_transfer 1 = .ok (.invokestatic 29, 3) := by decide +kernel
theorem dX0_transfer_4 : decode cX0_transfer 4 = .ok (.ifCond .eq 19, 3) := by decide +kernel
theorem dX0_transfer_7 : decode cX0_transfer 7 = .ok (.iload_n 2, 1) := by decide +kernel
theorem dX0_transfer_8 : decode cX0_transfer 8 = .ok (.invokestatic 29, 3) := by decide +kernel
theorem dX0_transfer_11 : decode cX0_transfer 11 = .ok (.ifCond .eq 12, 3) := by decide +kernel
theorem dX0_transfer_14 : decode cX0_transfer 14 = .ok (.iload_n 1, 1) := by decide +kernel
theorem dX0_transfer_15 : decode cX0_transfer 15 = .ok (.iload_n 2, 1) := by decide +kernel
theorem dX0_transfer_16 : decode cX0_transfer 16 = .ok (.if_icmp .eq 7, 3) := by decide +kernel
theorem dX0_transfer_19 : decode cX0_transfer 19 = .ok (.iload_n 3, 1) := by decide +kernel
theorem dX0_transfer_20 : decode cX0_transfer 20 = .ok (.ifCond .ge 5, 3) := by decide +kernel
theorem dX0_transfer_23 : decode cX0_transfer 23 = .ok (.iconst (-1), 1) := by decide +kernel
theorem dX0_transfer_24 : decode cX0_transfer 24 = .ok (.ireturn, 1) := by decide +kernel
theorem dX0_transfer_25 : decode cX0_transfer 25 = .ok (.aload_n 0, 1) := by decide +kernel
theorem dX0_transfer_26 : decode cX0_transfer 26 = .ok (.iload_n 1, 1) := by decide +kernel
theorem dX0_transfer_27 : decode cX0_transfer 27 = .ok (.invokevirtual 54, 3) := by decide +kernel
theorem dX0_transfer_30 : decode cX0_transfer 30 = .ok (.lstore 4, 2) := by decide +kernel
theorem dX0_transfer_32 : decode cX0_transfer 32 = .ok (.aload_n 0, 1) := by decide +kernel
theorem dX0_transfer_33 : decode cX0_transfer 33 = .ok (.iload_n 2, 1) := by decide +kernel
theorem dX0_transfer_34 : decode cX0_transfer 34 = .ok (.invokevirtual 54, 3) := by decide +kernel
theorem dX0_transfer_37 : decode cX0_transfer 37 = .ok (.lstore 6, 2) := by decide +kernel
theorem dX0_transfer_39 : decode cX0_transfer 39 = .ok (.aload_n 0, 1) := by decide +kernel
theorem dX0_transfer_40 : decode cX0_transfer 40 = .ok (.bipush 16, 2) := by decide +kernel
theorem dX0_transfer_42 : decode cX0_transfer 42 = .ok (.invokevirtual 54, 3) := by decide +kernel
theorem dX0_transfer_45 : decode cX0_transfer 45 = .ok (.lstore 8, 2) := by decide +kernel
theorem dX0_transfer_47 : decode cX0_transfer 47 = .ok (.lload 4, 2) := by decide +kernel
theorem dX0_transfer_49 : decode cX0_transfer 49 = .ok (.iload_n 3, 1) := by decide +kernel
theorem dX0_transfer_50 : decode cX0_transfer 50 = .ok (.i2l, 1) := by decide +kernel
theorem dX0_transfer_51 : decode cX0_transfer 51 = .ok (.lneg, 1) := by decide +kernel
theorem dX0_transfer_52 : decode cX0_transfer 52 = .ok (.invokestatic 83, 3) := by decide +kernel
theorem dX0_transfer_55 : decode cX0_transfer 55 = .ok (.ifCond .eq 33, 3) := by decide +kernel
theorem dX0_transfer_58 : decode cX0_transfer 58 = .ok (.lload 6, 2) := by decide +kernel
theorem dX0_transfer_60 : decode cX0_transfer 60 = .ok (.iload_n 3, 1) := by decide +kernel
theorem dX0_transfer_61 : decode cX0_transfer 61 = .ok (.i2l, 1) := by decide +kernel
theorem dX0_transfer_62 : decode cX0_transfer 62 = .ok (.invokestatic 83, 3) := by decide +kernel
theorem dX0_transfer_65 : decode cX0_transfer 65 = .ok (.ifCond .eq 23, 3) := by decide +kernel
theorem dX0_transfer_68 : decode cX0_transfer 68 = .ok (.lload 8, 2) := by decide +kernel
theorem dX0_transfer_70 : decode cX0_transfer 70 = .ok (.invokestatic 60, 3) := by decide +kernel
theorem dX0_transfer_73 : decode cX0_transfer 73 = .ok (.ifCond .eq 15, 3) := by decide +kernel
theorem dX0_transfer_76 : decode cX0_transfer 76 = .ok (.lload 8, 2) := by decide +kernel
theorem dX0_transfer_78 : decode cX0_transfer 78 = .ok (.invokestatic 74, 3) := by decide +kernel
theorem dX0_transfer_81 : decode cX0_transfer 81 = .ok (.ifCond .eq 7, 3) := by decide +kernel
theorem dX0_transfer_84 : decode cX0_transfer 84 = .ok (.iconst 1, 1) := by decide +kernel
theorem dX0_transfer_85 : decode cX0_transfer 85 = .ok (.goto 4, 3) := by decide +kernel
theorem dX0_transfer_88 : decode cX0_transfer 88 = .ok (.iconst 0, 1) := by decide +kernel
theorem dX0_transfer_89 : decode cX0_transfer 89 = .ok (.istore 10, 2) := by decide +kernel
theorem dX0_transfer_91 : decode cX0_transfer 91 = .ok (.iload 10, 2) := by decide +kernel
theorem dX0_transfer_93 : decode cX0_transfer 93 = .ok (.ifCond .eq 128, 3) := by decide +kernel
theorem dX0_transfer_96 : decode cX0_transfer 96 = .ok (.lload 4, 2) := by decide +kernel
theorem dX0_transfer_98 : decode cX0_transfer 98 = .ok (.iload_n 3, 1) := by decide +kernel
theorem dX0_transfer_99 : decode cX0_transfer 99 = .ok (.ineg, 1) := by decide +kernel
theorem dX0_transfer_100 : decode cX0_transfer 100 = .ok (.invokestatic 87, 3) := by decide +kernel
theorem dX0_transfer_103 : decode cX0_transfer 103 = .ok (.lstore 11, 2) := by decide +kernel
theorem dX0_transfer_105 : decode cX0_transfer 105 = .ok (.lload 6, 2) := by decide +kernel
theorem dX0_transfer_107 : decode cX0_transfer 107 = .ok (.iload_n 3, 1) := by decide +kernel
theorem dX0_transfer_108 : decode cX0_transfer 108 = .ok (.invokestatic 87, 3) := by decide +kernel
theorem dX0_transfer_111 : decode cX0_transfer 111 = .ok (.lstore 13, 2) := by decide +kernel
theorem dX0_transfer_113 : decode cX0_transfer 113 = .ok (.lload 8, 2) := by decide +kernel
theorem dX0_transfer_115 : decode cX0_transfer 115 = .ok (.invokestatic 80, 3) := by decide +kernel
theorem dX0_transfer_118 : decode cX0_transfer 118 = .ok (.iconst 1, 1) := by decide +kernel
theorem dX0_transfer_119 : decode cX0_transfer 119 = .ok (.iadd, 1) := by decide +kernel
theorem dX0_transfer_120 : decode cX0_transfer 120 = .ok (.istore 15, 2) := by decide +kernel
theorem dX0_transfer_122 : decode cX0_transfer 122 = .ok (.iload_n 1, 1) := by decide +kernel
theorem dX0_transfer_123 : decode cX0_transfer 123 = .ok (.sipush 256, 3) := by decide +kernel
theorem dX0_transfer_126 : decode cX0_transfer 126 = .ok (.imul, 1) := by decide +kernel
theorem dX0_transfer_127 : decode cX0_transfer 127 = .ok (.iload_n 2, 1) := by decide +kernel
theorem dX0_transfer_128 : decode cX0_transfer 128 = .ok (.iadd, 1) := by decide +kernel
theorem dX0_transfer_129 : decode cX0_transfer 129 = .ok (.istore 16, 2) := by decide +kernel
theorem dX0_transfer_131 : decode cX0_transfer 131 = .ok (.aload_n 0, 1) := by decide +kernel
theorem dX0_transfer_132 : decode cX0_transfer 132 = .ok (.bipush 16, 2) := by decide +kernel
theorem dX0_transfer_134 : decode cX0_transfer 134 = .ok (.iload_n 3, 1) := by decide +kernel
theorem dX0_transfer_135 : decode cX0_transfer 135 = .ok (.iload 15, 2) := by decide +kernel
theorem dX0_transfer_137 : decode cX0_transfer 137 = .ok (.invokestatic 25, 3) := by decide +kernel
theorem dX0_transfer_140 : decode cX0_transfer 140 = .ok (.invokevirtual 40, 3) := by decide +kernel
theorem dX0_transfer_143 : decode cX0_transfer 143 = .ok (.aload_n 0, 1) := by decide +kernel
theorem dX0_transfer_144 : decode cX0_transfer 144 = .ok (.bipush 17, 2) := by decide +kernel
theorem dX0_transfer_146 : decode cX0_transfer 146 = .ok (.lload 11, 2) := by decide +kernel
theorem dX0_transfer_148 : decode cX0_transfer 148 = .ok (.invokestatic 80, 3) := by decide +kernel
theorem dX0_transfer_151 : decode cX0_transfer 151 = .ok (.iload 15, 2) := by decide +kernel
theorem dX0_transfer_153 : decode cX0_transfer 153 = .ok (.invokestatic 25, 3) := by decide +kernel
theorem dX0_transfer_156 : decode cX0_transfer 156 = .ok (.invokevirtual 40, 3) := by decide +kernel
theorem dX0_transfer_159 : decode cX0_transfer 159 = .ok (.aload_n 0, 1) := by decide +kernel
theorem dX0_transfer_160 : decode cX0_transfer 160 = .ok (.bipush 18, 2) := by decide +kernel
theorem dX0_transfer_162 : decode cX0_transfer 162 = .ok (.lload 13, 2) := by decide +kernel
theorem dX0_transfer_164 : decode cX0_transfer 164 = .ok (.invokestatic 80, 3) := by decide +kernel
theorem dX0_transfer_167 : decode cX0_transfer 167 = .ok (.iload 15, 2) := by decide +kernel
theorem dX0_transfer_169 : decode cX0_transfer 169 = .ok (.invokestatic 25, 3) := by decide +kernel
theorem dX0_transfer_172 : decode cX0_transfer 172 = .ok (.invokevirtual 40, 3) := by decide +kernel
theorem dX0_transfer_175 : decode cX0_transfer 175 = .ok (.aload_n 0, 1) := by decide +kernel
theorem dX0_transfer_176 : decode cX0_transfer 176 = .ok (.bipush 19, 2) := by decide +kernel
theorem dX0_transfer_178 : decode cX0_transfer 178 = .ok (.iload 16, 2) := by decide +kernel
theorem dX0_transfer_180 : decode cX0_transfer 180 = .ok (.ldc 91, 2) := by decide +kernel
theorem dX0_transfer_182 : decode cX0_transfer 182 = .ok (.iadd, 1) := by decide +kernel
theorem dX0_transfer_183 : decode cX0_transfer 183 = .ok (.iload 15, 2) := by decide +kernel
theorem dX0_transfer_185 : decode cX0_transfer 185 = .ok (.invokestatic 25, 3) := by decide +kernel
theorem dX0_transfer_188 : decode cX0_transfer 188 = .ok (.invokevirtual 40, 3) := by decide +kernel
theorem dX0_transfer_191 : decode cX0_transfer 191 = .ok (.aload_n 0, 1) := by decide +kernel
theorem dX0_transfer_192 : decode cX0_transfer 192 = .ok (.iload_n 1, 1) := by decide +kernel
theorem dX0_transfer_193 : decode cX0_transfer 193 = .ok (.lload 11, 2) := by decide +kernel
theorem dX0_transfer_195 : decode cX0_transfer 195 = .ok (.invokevirtual 40, 3) := by decide +kernel
theorem dX0_transfer_198 : decode cX0_transfer 198 = .ok (.aload_n 0, 1) := by decide +kernel
theorem dX0_transfer_199 : decode cX0_transfer 199 = .ok (.iload_n 2, 1) := by decide +kernel
theorem dX0_transfer_200 : decode cX0_transfer 200 = .ok (.lload 13, 2) := by decide +kernel
theorem dX0_transfer_202 : decode cX0_transfer 202 = .ok (.invokevirtual 40, 3) := by decide +kernel
theorem dX0_transfer_205 : decode cX0_transfer 205 = .ok (.aload_n 0, 1) := by decide +kernel
theorem dX0_transfer_206 : decode cX0_transfer 206 = .ok (.bipush 19, 2) := by decide +kernel
theorem dX0_transfer_208 : decode cX0_transfer 208 = .ok (.iload 16, 2) := by decide +kernel
theorem dX0_transfer_210 : decode cX0_transfer 210 = .ok (.ldc 92, 2) := by decide +kernel
theorem dX0_transfer_212 : decode cX0_transfer 212 = .ok (.iadd, 1) := by decide +kernel
theorem dX0_transfer_213 : decode cX0_transfer 213 = .ok (.iload 15, 2) := by decide +kernel
theorem dX0_transfer_215 : decode cX0_transfer 215 = .ok (.invokestatic 25, 3) := by decide +kernel
theorem dX0_transfer_218 : decode cX0_transfer 218 = .ok (.invokevirtual 40, 3) := by decide +kernel
theorem dX0_transfer_221 : decode cX0_transfer 221 = .ok (.aload_n 0, 1) := by decide +kernel
theorem dX0_transfer_222 : decode cX0_transfer 222 = .ok (.iload 10, 2) := by decide +kernel
theorem dX0_transfer_224 : decode cX0_transfer 224 = .ok (.invokevirtual 48, 3) := by decide +kernel
theorem dX0_transfer_227 : decode cX0_transfer 227 = .ok (.ireturn, 1) := by decide +kernel
set_option maxRecDepth 20000 in
theorem ggX0_total_X0_look : GoodIn wsX0_total wsX0_look := goodIn_r _ [7, 8, 9, 10, 6, 11, 12, 13, 14, 15, 16, 17, 1, 18, 19, 20, 21, 22, 23, 24, 25, 26, 27, 28, 29, 30, 48, 49, 50, 51, 52, 53] (by decide +kernel) (by decide +kernel)
set_option maxRecDepth 20000 in
theorem gX0_total_X0_look : GoodIn wsX0_total (wsV RX0 54 RX0 yX0_look wsX0_look) := goodIn_app (goodIn_of _ (by decide +kernel)) ggX0_total_X0_look
set_option maxRecDepth 20000 in
theorem ggX0_total_X0_isOpen : GoodIn wsX0_total wsX0_isOpen := goodIn_r _ [33, 34, 35, 6, 36, 37, 38, 39, 40, 41, 42, 43, 44] (by decide +kernel) (by decide +kernel)
set_option maxRecDepth 20000 in
theorem gX0_total_X0_isOpen : GoodIn wsX0_total (va_wsS RX0 71 yX0_isOpen wsX0_isOpen) := goodIn_app (goodIn_of _ (by decide +kernel)) ggX0_total_X0_isOpen
set_option maxRecDepth 20000 in
theorem ggX0_total_X0_balanceOf : GoodIn wsX0_total wsX0_balanceOf := goodIn_r _ [47] (by decide +kernel) (by decide +kernel)
set_option maxRecDepth 20000 in
theorem gX0_total_X0_balanceOf : GoodIn wsX0_total (va_wsS RX0 67 yX0_balanceOf wsX0_balanceOf) := goodIn_app (goodIn_of _ (by decide +kernel)) ggX0_total_X0_balanceOf
theorem dX0_total_0 : decode cX0_total 0 = .ok (.lconst 0, 1) := by decide +kernel
theorem dX0_total_1 : decode cX0_total 1 = .ok (.lstore_n 1, 1) := by decide +kernel
theorem dX0_total_2 : decode cX0_total 2 = .ok (.iconst 0, 1) := by decide +kernel
theorem dX0_total_3 : decode cX0_total 3 = .ok (.istore_n 3, 1) := by decide +kernel
theorem dX0_total_4 : decode cX0_total 4 = .ok (.iload_n 3, 1) := by decide +kernel
theorem dX0_total_5 : decode cX0_total 5 = .ok (.bipush 16, 2) := by decide +kernel
theorem dX0_total_7 : decode cX0_total 7 = .ok (.if_icmp .ge 33, 3) := by decide +kernel
theorem dX0_total_10 : decode cX0_total 10 = .ok (.aload_n 0, 1) := by decide +kernel
theorem dX0_total_11 : decode cX0_total 11 = .ok (.iload_n 3, 1) := by decide +kernel
theorem dX0_total_12 : decode cX0_total 12 = .ok (.invokevirtual 54, 3) := by decide +kernel
theorem dX0_total_15 : decode cX0_total 15 = .ok (.lstore 4, 2) := by decide +kernel
theorem dX0_total_17 : decode cX0_total 17 = .ok (.lload 4, 2) := by decide +kernel
theorem dX0_total_19 : decode cX0_total 19 = .ok (.invokestatic 71, 3) := by decide +kernel
theorem dX0_total_22 : decode cX0_total 22 = .ok (.ifCond .eq 12, 3) := by decide +kernel
theorem dX0_total_25 : decode cX0_total 25 = .ok (.lload_n 1, 1) := by decide +kernel
theorem dX0_total_26 : decode cX0_total 26 = .ok (.lload 4, 2) := by decide +kernel
theorem dX0_total_28 : decode cX0_total 28 = .ok (.invokestatic 67, 3) := by decide +kernel
theorem dX0_total_31 : decode cX0_total 31 = .ok (.i2l, 1) := by decide +kernel
theorem dX0_total_32 : decode cX0_total 32 = .ok (.ladd, 1) := by decide +kernel
theorem dX0_total_33 : decode cX0_total 33 = .ok (.lstore_n 1, 1) := by decide +kernel
theorem dX0_total_34 : decode cX0_total 34 = .ok (.iinc 3 1, 3) := by decide +kernel
theorem dX0_total_37 : decode cX0_total 37 = .ok (.goto (-33), 3) := by decide +kernel
theorem dX0_total_40 : decode cX0_total 40 = .ok (.aload_n 0, 1) := by decide +kernel
theorem dX0_total_41 : decode cX0_total 41 = .ok (.getfield 17, 3) := by decide +kernel
theorem dX0_total_44 : decode cX0_total 44 = .ok (.ifCond .eq 7, 3) := by decide +kernel
theorem dX0_total_47 : decode cX0_total 47 = .ok (.lload_n 1, 1) := by decide +kernel
theorem dX0_total_48 : decode cX0_total 48 = .ok (.goto 6, 3) := by decide +kernel
theorem dX0_total_51 : decode cX0_total 51 = .ok (.ldc2_w 58, 3) := by decide +kernel
theorem dX0_total_54 : decode cX0_total 54 = .ok (.lreturn, 1) := by decide +kernel
set_option maxRecDepth 20000 in
theorem ggX0_number_X0_isAccount : GoodIn wsX0_number wsX0_isAccount := goodIn_r _ [5] (by decide +kernel) (by decide +kernel)
set_option maxRecDepth 20000 in
theorem gX0_number_X0_isAccount : GoodIn wsX0_number (va_wsS RX0 29 yX0_isAccount wsX0_isAccount) := goodIn_app (goodIn_of _ (by decide +kernel)) ggX0_number_X0_isAccount
set_option maxRecDepth 20000 in
theorem ggX0_number_X0_look : GoodIn wsX0_number wsX0_look := goodIn_r _ [9, 10, 11, 12, 4, 13, 14, 15, 16, 17, 18, 19, 1, 20, 21, 22, 23, 24, 25, 26, 27, 28, 29, 30, 31, 32, 44, 45, 46, 47, 48, 49] (by decide +kernel) (by decide +kernel)
set_option maxRecDepth 20000 in
theorem gX0_number_X0_look : GoodIn wsX0_number (wsV RX0 54 RX0 yX0_look wsX0_look) := goodIn_app (goodIn_of _ (by decide +kernel)) ggX0_number_X0_look
set_option maxRecDepth 20000 in
theorem ggX0_number_X0_isValid : GoodIn wsX0_number wsX0_isValid := goodIn_r _ [35, 36, 37, 38, 4, 39] (by decide +kernel) (by decide +kernel)
set_option maxRecDepth 20000 in
theorem gX0_number_X0_isValid : GoodIn wsX0_number (va_wsS RX0 60 yX0_isValid wsX0_isValid) := goodIn_app (goodIn_of _ (by decide +kernel)) ggX0_number_X0_isValid
set_option maxRecDepth 20000 in
theorem ggX0_number_X0_numberOf : GoodIn wsX0_number wsX0_numberOf := goodIn_r _ [42, 43] (by decide +kernel) (by decide +kernel)
set_option maxRecDepth 20000 in
theorem gX0_number_X0_numberOf : GoodIn wsX0_number (va_wsS RX0 80 yX0_numberOf wsX0_numberOf) := goodIn_app (goodIn_of _ (by decide +kernel)) ggX0_number_X0_numberOf
theorem dX0_number_0 : decode cX0_number 0 = .ok (.iload_n 1, 1) := by decide +kernel
theorem dX0_number_1 : decode cX0_number 1 = .ok (.invokestatic 29, 3) := by decide +kernel
theorem dX0_number_4 : decode cX0_number 4 = .ok (.ifCond .ne 5, 3) := by decide +kernel
theorem dX0_number_7 : decode cX0_number 7 = .ok (.iconst (-1), 1) := by decide +kernel
theorem dX0_number_8 : decode cX0_number 8 = .ok (.ireturn, 1) := by decide +kernel
theorem dX0_number_9 : decode cX0_number 9 = .ok (.aload_n 0, 1) := by decide +kernel
theorem dX0_number_10 : decode cX0_number 10 = .ok (.iload_n 1, 1) := by decide +kernel
theorem dX0_number_11 : decode cX0_number 11 = .ok (.invokevirtual 54, 3) := by decide +kernel
theorem dX0_number_14 : decode cX0_number 14 = .ok (.lstore_n 2, 1) := by decide +kernel
theorem dX0_number_15 : decode cX0_number 15 = .ok (.aload_n 0, 1) := by decide +kernel
theorem dX0_number_16 : decode cX0_number 16 = .ok (.getfield 17, 3) := by decide +kernel
theorem dX0_number_19 : decode cX0_number 19 = .ok (.ifCond .ne 6, 3) := by decide +kernel
theorem dX0_number_22 : decode cX0_number 22 = .ok (.bipush (-2), 2) := by decide +kernel
theorem dX0_number_24 : decode cX0_number 24 = .ok (.ireturn, 1) := by decide +kernel
theorem dX0_number_25 : decode cX0_number 25 = .ok (.lload_n 2, 1) := by decide +kernel
theorem dX0_number_26 : decode cX0_number 26 = .ok (.invokestatic 60, 3) := by decide +kernel
theorem dX0_number_29 : decode cX0_number 29 = .ok (.ifCond .eq 10, 3) := by decide +kernel
theorem dX0_number_32 : decode cX0_number 32 = .ok (.lload_n 2, 1) := by decide +kernel
theorem dX0_number_33 : decode cX0_number 33 = .ok (.invokestatic 80, 3) := by decide +kernel
theorem dX0_number_36 : decode cX0_number 36 = .ok (.goto 4, 3) := by decide +kernel
theorem dX0_number_39 : decode cX0_number 39 = .ok (.iconst (-1), 1) := by decide +kernel
theorem dX0_number_40 : decode cX0_number 40 = .ok (.ireturn, 1) := by decide +kernel
theorem dX0_failAfter_0 : decode cX0_failAfter 0 = .ok (.iload_n 1, 1) := by decide +kernel
theorem dX0_failAfter_1 : decode cX0_failAfter 1 = .ok (.ifCond .ge 5, 3) := by decide +kernel
theorem dX0_failAfter_4 : decode cX0_failAfter 4 = .ok (.iconst 0, 1) := by decide +kernel
theorem dX0_failAfter_5 : decode cX0_failAfter 5 = .ok (.ireturn, 1) := by decide +kernel
theorem dX0_failAfter_6 : decode cX0_failAfter 6 = .ok (.aload_n 0, 1) := by decide +kernel
theorem dX0_failAfter_7 : decode cX0_failAfter 7 = .ok (.iload_n 1, 1) := by decide +kernel
theorem dX0_failAfter_8 : decode cX0_failAfter 8 = .ok (.putfield 21, 3) := by decide +kernel
theorem dX0_failAfter_11 : decode cX0_failAfter 11 = .ok (.iconst 1, 1) := by decide +kernel
theorem dX0_failAfter_12 : decode cX0_failAfter 12 = .ok (.ireturn, 1) := by decide +kernel
set_option maxRecDepth 20000 in
theorem ggX0_fail_X0_losePower : GoodIn wsX0_fail wsX0_losePower := goodIn_r _ [6, 1, 7, 8, 9, 10, 11, 12, 13] (by decide +kernel) (by decide +kernel)
set_option maxRecDepth 20000 in
theorem gX0_fail_X0_losePower : GoodIn wsX0_fail (wsV RX0 93 RX0 yX0_losePower wsX0_losePower) := goodIn_app (goodIn_of _ (by decide +kernel)) ggX0_fail_X0_losePower
theorem dX0_fail_0 : decode cX0_fail 0 = .ok (.aload_n 0, 1) := by decide +kernel
theorem dX0_fail_1 : decode cX0_fail 1 = .ok (.getfield 17, 3) := by decide +kernel
theorem dX0_fail_4 : decode cX0_fail 4 = .ok (.ifCond .ne 5, 3) := by decide +kernel
theorem dX0_fail_7 : decode cX0_fail 7 = .ok (.iconst 0, 1) := by decide +kernel
theorem dX0_fail_8 : decode cX0_fail 8 = .ok (.ireturn, 1) := by decide +kernel
theorem dX0_fail_9 : decode cX0_fail 9 = .ok (.aload_n 0, 1) := by decide +kernel
theorem dX0_fail_10 : decode cX0_fail 10 = .ok (.invokevirtual 93, 3) := by decide +kernel
theorem dX0_fail_13 : decode cX0_fail 13 = .ok (.iconst 1, 1) := by decide +kernel
theorem dX0_fail_14 : decode cX0_fail 14 = .ok (.ireturn, 1) := by decide +kernel
set_option maxRecDepth 20000 in
theorem ggX0_mount_X0_restoreCell : GoodIn wsX0_mount wsX0_restoreCell := goodIn_r _ [6, 1, 7, 8, 9, 10, 5, 11, 12, 13, 14, 15, 16, 17, 18, 19, 20, 21, 22, 23, 24, 25, 26, 27, 28, 29, 30, 31, 32, 33, 34, 35, 36, 37, 38, 39, 40, 41, 42, 43, 44, 45, 46, 47, 48, 49, 50, 51, 90, 91, 92, 93, 94, 95] (by decide +kernel) (by decide +kernel)
set_option maxRecDepth 20000 in
theorem gX0_mount_X0_restoreCell : GoodIn wsX0_mount (wsV RX0 96 RX0 yX0_restoreCell wsX0_restoreCell) := goodIn_app (goodIn_of _ (by decide +kernel)) ggX0_mount_X0_restoreCell
set_option maxRecDepth 20000 in
theorem ggX0_mount_X0_slipIsPending : GoodIn wsX0_mount wsX0_slipIsPending := goodIn_r _ [55, 56, 57, 58, 59, 5, 60, 13, 23, 24, 25, 36, 37, 38, 39, 29, 30, 31, 32, 33, 34, 35, 40, 41, 42, 61, 62, 63, 64, 65, 66, 67, 68, 69, 90, 91, 92, 93, 94, 95] (by decide +kernel) (by decide +kernel)
set_option maxRecDepth 20000 in
theorem gX0_mount_X0_slipIsPending : GoodIn wsX0_mount (wsV RX0 100 RX0 yX0_slipIsPending wsX0_slipIsPending) := goodIn_app (goodIn_of _ (by decide +kernel)) ggX0_mount_X0_slipIsPending
set_option maxRecDepth 20000 in
theorem ggX0_mount_X0_finishTransfer : GoodIn wsX0_mount wsX0_finishTransfer := goodIn_r _ [73, 56, 74, 57, 58, 59, 5, 60, 13, 23, 24, 25, 40, 41, 42, 61, 62, 63, 75, 76, 77, 78, 29, 30, 31, 32, 33, 34, 35, 36, 37, 38, 39, 79, 80, 81, 82, 83, 84, 85, 43, 44, 45, 46, 47, 14, 15, 16, 17, 1, 18, 19, 20, 21, 22, 67, 68, 69, 90, 91, 92, 93, 94, 95] (by decide +kernel) (by decide +kernel)
set_option maxRecDepth 20000 in
theorem gX0_mount_X0_finishTransfer : GoodIn wsX0_mount (wsV RX0 104 RX0 yX0_finishTransfer wsX0_finishTransfer) := goodIn_app (goodIn_of _ (by decide +kernel)) ggX0_mount_X0_finishTransfer
set_option maxRecDepth 20000 in
theorem ggX0_mount_X0_answerOf : GoodIn wsX0_mount wsX0_answerOf := goodIn_r _ [89, 1, 90, 91, 92, 93, 94, 95] (by decide +kernel) (by decide +kernel)
set_option maxRecDepth 20000 in
theorem gX0_mount_X0_answerOf : GoodIn wsX0_mount (wsV RX0 48 RX0 yX0_answerOf wsX0_answerOf) := goodIn_app (goodIn_of _ (by decide +kernel)) ggX0_mount_X0_answerOf
theorem dX0_mount_0 : decode cX0_mount 0 = .ok (.aload_n 0, 1) := by decide +kernel
theorem dX0_mount_1 : decode cX0_mount 1 = .ok (.iconst 1, 1) := by decide +kernel
theorem dX0_mount_2 : decode cX0_mount 2 = .ok (.putfield 17, 3) := by decide +kernel
theorem dX0_mount_5 : decode cX0_mount 5 = .ok (.iconst 0, 1) := by decide +kernel
theorem dX0_mount_6 : decode cX0_mount 6 = .ok (.istore_n 1, 1) := by decide +kernel
theorem dX0_mount_7 : decode cX0_mount 7 = .ok (.iload_n 1, 1) := by decide +kernel
theorem dX0_mount_8 : decode cX0_mount 8 = .ok (.bipush 20, 2) := by decide +kernel
theorem dX0_mount_10 : decode cX0_mount 10 = .ok (.if_icmp .ge 14, 3) := by decide +kernel
theorem dX0_mount_13 : decode cX0_mount 13 = .ok (.aload_n 0, 1) := by decide +kernel
theorem dX0_mount_14 : decode cX0_mount 14 = .ok (.iload_n 1, 1) := by decide +kernel
theorem dX0_mount_15 : decode cX0_mount 15 = .ok (.invokevirtual 96, 3) := by decide +kernel
theorem dX0_mount_18 : decode cX0_mount 18 = .ok (.iinc 1 1, 3) := by decide +kernel
theorem dX0_mount_21 : decode cX0_mount 21 = .ok (.goto (-14), 3) := by decide +kernel
theorem dX0_mount_24 : decode cX0_mount 24 = .ok (.aload_n 0, 1) := by decide +kernel
theorem dX0_mount_25 : decode cX0_mount 25 = .ok (.getfield 17, 3) := by decide +kernel
theorem dX0_mount_28 : decode cX0_mount 28 = .ok (.ifCond .eq 14, 3) := by decide +kernel
theorem dX0_mount_31 : decode cX0_mount 31 = .ok (.aload_n 0, 1) := by decide +kernel
theorem dX0_mount_32 : decode cX0_mount 32 = .ok (.invokevirtual 100, 3) := by decide +kernel
theorem dX0_mount_35 : decode cX0_mount 35 = .ok (.ifCond .eq 7, 3) := by decide +kernel
theorem dX0_mount_38 : decode cX0_mount 38 = .ok (.aload_n 0, 1) := by decide +kernel
theorem dX0_mount_39 : decode cX0_mount 39 = .ok (.invokevirtual 104, 3) := by decide +kernel
theorem dX0_mount_42 : decode cX0_mount 42 = .ok (.aload_n 0, 1) := by decide +kernel
theorem dX0_mount_43 : decode cX0_mount 43 = .ok (.iconst 1, 1) := by decide +kernel
theorem dX0_mount_44 : decode cX0_mount 44 = .ok (.invokevirtual 48, 3) := by decide +kernel
theorem dX0_mount_47 : decode cX0_mount 47 = .ok (.ireturn, 1) := by decide +kernel
theorem dX0_on_0 : decode cX0_on 0 = .ok (.aload_n 0, 1) := by decide +kernel
theorem dX0_on_1 : decode cX0_on 1 = .ok (.getfield 17, 3) := by decide +kernel
theorem dX0_on_4 : decode cX0_on 4 = .ok (.ireturn, 1) := by decide +kernel
set_option maxRecDepth 20000 in
theorem ggX0_lost_X0_isCell : GoodIn wsX0_lost wsX0_isCell := goodIn_r _ [5] (by decide +kernel) (by decide +kernel)
set_option maxRecDepth 20000 in
theorem gX0_lost_X0_isCell : GoodIn wsX0_lost (va_wsS RX0 107 yX0_isCell wsX0_isCell) := goodIn_app (goodIn_of _ (by decide +kernel)) ggX0_lost_X0_isCell
theorem dX0_lost_0 : decode cX0_lost 0 = .ok (.iload_n 1, 1) := by decide +kernel
theorem dX0_lost_1 : decode cX0_lost 1 = .ok (.invokestatic 107, 3) := by decide +kernel
theorem dX0_lost_4 : decode cX0_lost 4 = .ok (.ifCond .eq 12, 3) := by decide +kernel
theorem dX0_lost_7 : decode cX0_lost 7 = .ok (.aload_n 0, 1) := by decide +kernel
theorem dX0_lost_8 : decode cX0_lost 8 = .ok (.getfield 13, 3) := by decide +kernel
theorem dX0_lost_11 : decode cX0_lost 11 = .ok (.iload_n 1, 1) := by decide +kernel
theorem dX0_lost_12 : decode cX0_lost 12 = .ok (.iaload, 1) := by decide +kernel
theorem dX0_lost_13 : decode cX0_lost 13 = .ok (.goto 4, 3) := by decide +kernel
theorem dX0_lost_16 : decode cX0_lost 16 = .ok (.iconst 0, 1) := by decide +kernel
theorem dX0_lost_17 : decode cX0_lost 17 = .ok (.ireturn, 1) := by decide +kernel
set_option maxRecDepth 20000 in
theorem ggX0_word_X0_isCell : GoodIn wsX0_word wsX0_isCell := goodIn_r _ [5] (by decide +kernel) (by decide +kernel)
set_option maxRecDepth 20000 in
theorem gX0_word_X0_isCell : GoodIn wsX0_word (va_wsS RX0 107 yX0_isCell wsX0_isCell) := goodIn_app (goodIn_of _ (by decide +kernel)) ggX0_word_X0_isCell
set_option maxRecDepth 20000 in
theorem ggX0_word_X0_slot : GoodIn wsX0_word wsX0_slot := goodIn_r _ [8] (by decide +kernel) (by decide +kernel)
set_option maxRecDepth 20000 in
theorem gX0_word_X0_slot : GoodIn wsX0_word (va_wsS RX0 110 yX0_slot wsX0_slot) := goodIn_app (goodIn_of _ (by decide +kernel)) ggX0_word_X0_slot
theorem dX0_word_0 : decode cX0_word 0 = .ok (.iload_n 1, 1) := by decide +kernel
theorem dX0_word_1 : decode cX0_word 1 = .ok (.ifCond .lt 15, 3) := by decide +kernel
theorem dX0_word_4 : decode cX0_word 4 = .ok (.iload_n 1, 1) := by decide +kernel
theorem dX0_word_5 : decode cX0_word 5 = .ok (.iconst 4, 1) := by decide +kernel
theorem dX0_word_6 : decode cX0_word 6 = .ok (.if_icmp .ge 10, 3) := by decide +kernel
theorem dX0_word_9 : decode cX0_word 9 = .ok (.iload_n 2, 1) := by decide +kernel
theorem dX0_word_10 : decode cX0_word 10 = .ok (.invokestatic 107, 3) := by decide +kernel
theorem dX0_word_13 : decode cX0_word 13 = .ok (.ifCond .ne 5, 3) := by decide +kernel
theorem dX0_word_16 : decode cX0_word 16 = .ok (.lconst 0, 1) := by decide +kernel
theorem dX0_word_17 : decode cX0_word 17 = .ok (.lreturn, 1) := by decide +kernel
theorem dX0_word_18 : decode cX0_word 18 = .ok (.aload_n 0, 1) := by decide +kernel
theorem dX0_word_19 : decode cX0_word 19 = .ok (.getfield 9, 3) := by decide +kernel
theorem dX0_word_22 : decode cX0_word 22 = .ok (.iload_n 1, 1) := by decide +kernel
theorem dX0_word_23 : decode cX0_word 23 = .ok (.iload_n 2, 1) := by decide +kernel
theorem dX0_word_24 : decode cX0_word 24 = .ok (.invokestatic 110, 3) := by decide +kernel
theorem dX0_word_27 : decode cX0_word 27 = .ok (.laload, 1) := by decide +kernel
theorem dX0_word_28 : decode cX0_word 28 = .ok (.lreturn, 1) := by decide +kernel
theorem dX0_done_0 : decode cX0_done 0 = .ok (.iload_n 1, 1) := by decide +kernel
theorem dX0_done_1 : decode cX0_done 1 = .ok (.ifCond .ne 8, 3) := by decide +kernel
theorem dX0_done_4 : decode cX0_done 4 = .ok (.aload_n 0, 1) := by decide +kernel
theorem dX0_done_5 : decode cX0_done 5 = .ok (.getfield 114, 3) := by decide +kernel
theorem dX0_done_8 : decode cX0_done 8 = .ok (.ireturn, 1) := by decide +kernel
theorem dX0_done_9 : decode cX0_done 9 = .ok (.iload_n 1, 1) := by decide +kernel
theorem dX0_done_10 : decode cX0_done 10 = .ok (.iconst 1, 1) := by decide +kernel
theorem dX0_done_11 : decode cX0_done 11 = .ok (.if_icmp .ne 10, 3) := by decide +kernel
theorem dX0_done_14 : decode cX0_done 14 = .ok (.aload_n 0, 1) := by decide +kernel
theorem dX0_done_15 : decode cX0_done 15 = .ok (.getfield 117, 3) := by decide +kernel
theorem dX0_done_18 : decode cX0_done 18 = .ok (.goto 4, 3) := by decide +kernel
theorem dX0_done_21 : decode cX0_done 21 = .ok (.iconst (-1), 1) := by decide +kernel
theorem dX0_done_22 : decode cX0_done 22 = .ok (.ireturn, 1) := by decide +kernel
set_option maxRecDepth 20000 in
theorem ggX0_restoreCell_X0_readTurn : GoodIn wsX0_restoreCell wsX0_readTurn := goodIn_r _ [7, 8, 9, 10, 11, 12, 6, 13, 1, 14, 15, 16, 17, 18, 19, 20, 21, 48, 49, 50, 51, 52, 53] (by decide +kernel) (by decide +kernel)
set_option maxRecDepth 20000 in
theorem gX0_restoreCell_X0_readTurn : GoodIn wsX0_restoreCell (wsV RX0 33 RX0 yX0_readTurn wsX0_readTurn) := goodIn_app (goodIn_of _ (by decide +kernel)) ggX0_restoreCell_X0_readTurn
set_option maxRecDepth 20000 in
theorem ggX0_restoreCell_X0_betterOf : GoodIn wsX0_restoreCell wsX0_betterOf := goodIn_r _ [24, 25, 26, 6, 27, 28, 29, 30, 31, 32, 33, 34, 35, 36, 37, 38] (by decide +kernel) (by decide +kernel)
set_option maxRecDepth 20000 in
theorem gX0_restoreCell_X0_betterOf : GoodIn wsX0_restoreCell (va_wsS RX0 120 yX0_betterOf wsX0_betterOf) := goodIn_app (goodIn_of _ (by decide +kernel)) ggX0_restoreCell_X0_betterOf
set_option maxRecDepth 20000 in
theorem ggX0_restoreCell_X0_isValid : GoodIn wsX0_restoreCell wsX0_isValid := goodIn_r _ [27, 28, 29, 30, 6, 31] (by decide +kernel) (by decide +kernel)
set_option maxRecDepth 20000 in
theorem gX0_restoreCell_X0_isValid : GoodIn wsX0_restoreCell (va_wsS RX0 60 yX0_isValid wsX0_isValid) := goodIn_app (goodIn_of _ (by decide +kernel)) ggX0_restoreCell_X0_isValid
set_option maxRecDepth 20000 in
theorem ggX0_restoreCell_X0_writeTurn : GoodIn wsX0_restoreCell wsX0_writeTurn := goodIn_r _ [42, 43, 9, 10, 11, 12, 6, 13, 1, 14, 15, 16, 17, 18, 19, 20, 21, 48, 49, 50, 51, 52, 53] (by decide +kernel) (by decide +kernel)
set_option maxRecDepth 20000 in
theorem gX0_restoreCell_X0_writeTurn : GoodIn wsX0_restoreCell (wsV RX0 44 RX0 yX0_writeTurn wsX0_writeTurn) := goodIn_app (goodIn_of _ (by decide +kernel)) ggX0_restoreCell_X0_writeTurn
set_option maxRecDepth 20000 in
theorem ggX0_restoreCell_X0_writeWhereOther : GoodIn wsX0_restoreCell wsX0_writeWhereOther := goodIn_r _ [47, 9, 19, 20, 6, 21, 39, 40, 41, 42, 43, 10, 11, 12, 13, 1, 14, 15, 16, 17, 18, 48, 49, 50, 51, 52, 53] (by decide +kernel) (by decide +kernel)
set_option maxRecDepth 20000 in
theorem gX0_restoreCell_X0_writeWhereOther : GoodIn wsX0_restoreCell (wsV RX0 124 RX0 yX0_writeWhereOther wsX0_writeWhereOther) := goodIn_app (goodIn_of _ (by decide +kernel)) ggX0_restoreCell_X0_writeWhereOther
theorem dX0_restoreCell_0 : decode cX0_restoreCell 0 = .ok (.iconst 0, 1) := by decide +kernel
theorem dX0_restoreCell_1 : decode cX0_restoreCell 1 = .ok (.istore_n 2, 1) := by decide +kernel
theorem dX0_restoreCell_2 : decode cX0_restoreCell 2 = .ok (.lconst 0, 1) := by decide +kernel
theorem dX0_restoreCell_3 : decode cX0_restoreCell 3 = .ok (.lstore_n 3, 1) := by decide +kernel
theorem dX0_restoreCell_4 : decode cX0_restoreCell 4 = .ok (.iconst 0, 1) := by decide +kernel
theorem dX0_restoreCell_5 : decode cX0_restoreCell 5 = .ok (.istore 5, 2) := by decide +kernel
theorem dX0_restoreCell_7 : decode cX0_restoreCell 7 = .ok (.iload 5, 2) := by decide +kernel
theorem dX0_restoreCell_9 : decode cX0_restoreCell 9 = .ok (.iconst 4, 1) := by decide +kernel
theorem dX0_restoreCell_10 : decode cX0_restoreCell 10 = .ok (.if_icmp .ge 65, 3) := by decide +kernel
theorem dX0_restoreCell_13 : decode cX0_restoreCell 13 = .ok (.aload_n 0, 1) := by decide +kernel
theorem dX0_restoreCell_14 : decode cX0_restoreCell 14 = .ok (.iload 5, 2) := by decide +kernel
theorem dX0_restoreCell_16 : decode cX0_restoreCell 16 = .ok (.iload_n 1, 1) := by decide +kernel
theorem dX0_restoreCell_17 : decode cX0_restoreCell 17 = .ok (.invokevirtual 33, 3) := by decide +kernel
theorem dX0_restoreCell_20 : decode cX0_restoreCell 20 = .ok (.lstore 6, 2) := by decide +kernel
theorem dX0_restoreCell_22 : decode cX0_restoreCell 22 = .ok (.lload_n 3, 1) := by decide +kernel
theorem dX0_restoreCell_23 : decode cX0_restoreCell 23 = .ok (.lload 6, 2) := by decide +kernel
theorem dX0_restoreCell_25 : decode cX0_restoreCell 25 = .ok (.invokestatic 120, 3) := by decide +kernel
theorem dX0_restoreCell_28 : decode cX0_restoreCell 28 = .ok (.lstore_n 3, 1) := by decide +kernel
theorem dX0_restoreCell_29 : decode cX0_restoreCell 29 = .ok (.lload 6, 2) := by decide +kernel
theorem dX0_restoreCell_31 : decode cX0_restoreCell 31 = .ok (.invokestatic 60, 3) := by decide +kernel
theorem dX0_restoreCell_34 : decode cX0_restoreCell 34 = .ok (.ifCond .ne 6, 3) := by decide +kernel
theorem dX0_restoreCell_37 : decode cX0_restoreCell 37 = .ok (.iinc 2 1, 3) := by decide +kernel
theorem dX0_restoreCell_40 : decode cX0_restoreCell 40 = .ok (.iload 5, 2) := by decide +kernel
theorem dX0_restoreCell_42 : decode cX0_restoreCell 42 = .ok (.iconst 3, 1) := by decide +kernel
theorem dX0_restoreCell_43 : decode cX0_restoreCell 43 = .ok (.if_icmp .ne 17, 3) := by decide +kernel
theorem dX0_restoreCell_46 : decode cX0_restoreCell 46 = .ok (.aload_n 0, 1) := by decide +kernel
theorem dX0_restoreCell_47 : decode cX0_restoreCell 47 = .ok (.getfield 17, 3) := by decide +kernel
theorem dX0_restoreCell_50 : decode cX0_restoreCell 50 = .ok (.ifCond .eq 10, 3) := by decide +kernel
theorem dX0_restoreCell_53 : decode cX0_restoreCell 53 = .ok (.aload_n 0, 1) := by decide +kernel
theorem dX0_restoreCell_54 : decode cX0_restoreCell 54 = .ok (.getfield 13, 3) := by decide +kernel
theorem dX0_restoreCell_57 : decode cX0_restoreCell 57 = .ok (.iload_n 1, 1) := by decide +kernel
theorem dX0_restoreCell_58 : decode cX0_restoreCell 58 = .ok (.iload_n 2, 1) := by decide +kernel
theorem dX0_restoreCell_59 : decode cX0_restoreCell 59 = .ok (.iastore, 1) := by decide +kernel
theorem dX0_restoreCell_60 : decode cX0_restoreCell 60 = .ok (.aload_n 0, 1) := by decide +kernel
theorem dX0_restoreCell_61 : decode cX0_restoreCell 61 = .ok (.iload 5, 2) := by decide +kernel
theorem dX0_restoreCell_63 : decode cX0_restoreCell 63 = .ok (.iload_n 1, 1) := by decide +kernel
theorem dX0_restoreCell_64 : decode cX0_restoreCell 64 = .ok (.lload 6, 2) := by decide +kernel
theorem dX0_restoreCell_66 : decode cX0_restoreCell 66 = .ok (.invokevirtual 44, 3) := by decide +kernel
theorem dX0_restoreCell_69 : decode cX0_restoreCell 69 = .ok (.iinc 5 1, 3) := by decide +kernel
theorem dX0_restoreCell_72 : decode cX0_restoreCell 72 = .ok (.goto (-65), 3) := by decide +kernel
theorem dX0_restoreCell_75 : decode cX0_restoreCell 75 = .ok (.lload_n 3, 1) := by decide +kernel
theorem dX0_restoreCell_76 : decode cX0_restoreCell 76 = .ok (.invokestatic 60, 3) := by decide +kernel
theorem dX0_restoreCell_79 : decode cX0_restoreCell 79 = .ok (.ifCond .eq 9, 3) := by decide +kernel
theorem dX0_restoreCell_82 : decode cX0_restoreCell 82 = .ok (.aload_n 0, 1) := by decide +kernel
theorem dX0_restoreCell_83 : decode cX0_restoreCell 83 = .ok (.iload_n 1, 1) := by decide +kernel
