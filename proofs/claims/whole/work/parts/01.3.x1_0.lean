set_option maxRecDepth 20000 in
theorem ggX1_init_X1_wordOf : GoodIn wsX1_init wsX1_wordOf := goodIn_r _ [17, 18, 19, 16, 20, 21, 22] (by decide +kernel) (by decide +kernel)
set_option maxRecDepth 20000 in
theorem gX1_init_X1_wordOf : GoodIn wsX1_init (va_wsS RX1 37 yX1_wordOf wsX1_wordOf) := goodIn_app (goodIn_of _ (by decide +kernel)) ggX1_init_X1_wordOf
theorem dX1_init_0 : decode cX1_init 0 = .ok (.aload_n 0, 1) := by decide +kernel
theorem dX1_init_1 : decode cX1_init 1 = .ok (.invokespecial 1, 3) := by decide +kernel
theorem dX1_init_4 : decode cX1_init 4 = .ok (.aload_n 0, 1) := by decide +kernel
theorem dX1_init_5 : decode cX1_init 5 = .ok (.bipush 80, 2) := by decide +kernel
theorem dX1_init_7 : decode cX1_init 7 = .ok (.newarray .long, 2) := by decide +kernel
theorem dX1_init_9 : decode cX1_init 9 = .ok (.putfield 7, 3) := by decide +kernel
theorem dX1_init_12 : decode cX1_init 12 = .ok (.aload_n 0, 1) := by decide +kernel
theorem dX1_init_13 : decode cX1_init 13 = .ok (.bipush 20, 2) := by decide +kernel
theorem dX1_init_15 : decode cX1_init 15 = .ok (.newarray .int, 2) := by decide +kernel
theorem dX1_init_17 : decode cX1_init 17 = .ok (.putfield 13, 3) := by decide +kernel
theorem dX1_init_20 : decode cX1_init 20 = .ok (.aload_n 0, 1) := by decide +kernel
theorem dX1_init_21 : decode cX1_init 21 = .ok (.iconst 1, 1) := by decide +kernel
theorem dX1_init_22 : decode cX1_init 22 = .ok (.putfield 17, 3) := by decide +kernel
theorem dX1_init_25 : decode cX1_init 25 = .ok (.aload_n 0, 1) := by decide +kernel
theorem dX1_init_26 : decode cX1_init 26 = .ok (.iconst (-1), 1) := by decide +kernel
theorem dX1_init_27 : decode cX1_init 27 = .ok (.putfield 21, 3) := by decide +kernel
theorem dX1_init_30 : decode cX1_init 30 = .ok (.aload_n 0, 1) := by decide +kernel
theorem dX1_init_31 : decode cX1_init 31 = .ok (.sipush 256, 3) := by decide +kernel
theorem dX1_init_34 : decode cX1_init 34 = .ok (.newarray .int, 2) := by decide +kernel
theorem dX1_init_36 : decode cX1_init 36 = .ok (.putfield 25, 3) := by decide +kernel
theorem dX1_init_39 : decode cX1_init 39 = .ok (.aload_n 0, 1) := by decide +kernel
theorem dX1_init_40 : decode cX1_init 40 = .ok (.sipush 256, 3) := by decide +kernel
theorem dX1_init_43 : decode cX1_init 43 = .ok (.newarray .int, 2) := by decide +kernel
theorem dX1_init_45 : decode cX1_init 45 = .ok (.putfield 28, 3) := by decide +kernel
theorem dX1_init_48 : decode cX1_init 48 = .ok (.aload_n 0, 1) := by decide +kernel
theorem dX1_init_49 : decode cX1_init 49 = .ok (.sipush 256, 3) := by decide +kernel
theorem dX1_init_52 : decode cX1_init 52 = .ok (.newarray .long, 2) := by decide +kernel
theorem dX1_init_54 : decode cX1_init 54 = .ok (.putfield 31, 3) := by decide +kernel
theorem dX1_init_57 : decode cX1_init 57 = .ok (.aload_n 0, 1) := by decide +kernel
theorem dX1_init_58 : decode cX1_init 58 = .ok (.bipush 20, 2) := by decide +kernel
theorem dX1_init_60 : decode cX1_init 60 = .ok (.newarray .long, 2) := by decide +kernel
theorem dX1_init_62 : decode cX1_init 62 = .ok (.putfield 34, 3) := by decide +kernel
theorem dX1_init_65 : decode cX1_init 65 = .ok (.iconst 0, 1) := by decide +kernel
theorem dX1_init_66 : decode cX1_init 66 = .ok (.istore_n 1, 1) := by decide +kernel
theorem dX1_init_67 : decode cX1_init 67 = .ok (.iload_n 1, 1) := by decide +kernel
theorem dX1_init_68 : decode cX1_init 68 = .ok (.bipush 80, 2) := by decide +kernel
theorem dX1_init_70 : decode cX1_init 70 = .ok (.if_icmp .ge 20, 3) := by decide +kernel
theorem dX1_init_73 : decode cX1_init 73 = .ok (.aload_n 0, 1) := by decide +kernel
theorem dX1_init_74 : decode cX1_init 74 = .ok (.getfield 7, 3) := by decide +kernel
theorem dX1_init_77 : decode cX1_init 77 = .ok (.iload_n 1, 1) := by decide +kernel
theorem dX1_init_78 : decode cX1_init 78 = .ok (.iconst 0, 1) := by decide +kernel
theorem dX1_init_79 : decode cX1_init 79 = .ok (.iconst 0, 1) := by decide +kernel
theorem dX1_init_80 : decode cX1_init 80 = .ok (.invokestatic 37, 3) := by decide +kernel
theorem dX1_init_83 : decode cX1_init 83 = .ok (.lastore, 1) := by decide +kernel
theorem dX1_init_84 : decode cX1_init 84 = .ok (.iinc 1 1, 3) := by decide +kernel
theorem dX1_init_87 : decode cX1_init 87 = .ok (.goto (-20), 3) := by decide +kernel
theorem dX1_init_90 : decode cX1_init 90 = .ok (.return_, 1) := by decide +kernel
theorem dX1_seal_0 : decode cX1_seal 0 = .ok (.lconst 0, 1) := by decide +kernel
theorem dX1_seal_1 : decode cX1_seal 1 = .ok (.lstore_n 2, 1) := by decide +kernel
theorem dX1_seal_2 : decode cX1_seal 2 = .ok (.iconst 1, 1) := by decide +kernel
theorem dX1_seal_3 : decode cX1_seal 3 = .ok (.istore 4, 2) := by decide +kernel
theorem dX1_seal_5 : decode cX1_seal 5 = .ok (.iload 4, 2) := by decide +kernel
theorem dX1_seal_7 : decode cX1_seal 7 = .ok (.bipush 8, 2) := by decide +kernel
theorem dX1_seal_9 : decode cX1_seal 9 = .ok (.if_icmp .ge 23, 3) := by decide +kernel
theorem dX1_seal_12 : decode cX1_seal 12 = .ok (.lload_n 2, 1) := by decide +kernel
theorem dX1_seal_13 : decode cX1_seal 13 = .ok (.lload_n 0, 1) := by decide +kernel
theorem dX1_seal_14 : decode cX1_seal 14 = .ok (.bipush 8, 2) := by decide +kernel
theorem dX1_seal_16 : decode cX1_seal 16 = .ok (.iload 4, 2) := by decide +kernel
theorem dX1_seal_18 : decode cX1_seal 18 = .ok (.imul, 1) := by decide +kernel
theorem dX1_seal_19 : decode cX1_seal 19 = .ok (.lshr, 1) := by decide +kernel
theorem dX1_seal_20 : decode cX1_seal 20 = .ok (.ldc2_w 41, 3) := by decide +kernel
theorem dX1_seal_23 : decode cX1_seal 23 = .ok (.land, 1) := by decide +kernel
theorem dX1_seal_24 : decode cX1_seal 24 = .ok (.ladd, 1) := by decide +kernel
theorem dX1_seal_25 : decode cX1_seal 25 = .ok (.lstore_n 2, 1) := by decide +kernel
theorem dX1_seal_26 : decode cX1_seal 26 = .ok (.iinc 4 1, 3) := by decide +kernel
theorem dX1_seal_29 : decode cX1_seal 29 = .ok (.goto (-24), 3) := by decide +kernel
theorem dX1_seal_32 : decode cX1_seal 32 = .ok (.lload_n 2, 1) := by decide +kernel
theorem dX1_seal_33 : decode cX1_seal 33 = .ok (.ldc2_w 43, 3) := by decide +kernel
theorem dX1_seal_36 : decode cX1_seal 36 = .ok (.lrem, 1) := by decide +kernel
theorem dX1_seal_37 : decode cX1_seal 37 = .ok (.lconst 1, 1) := by decide +kernel
theorem dX1_seal_38 : decode cX1_seal 38 = .ok (.ladd, 1) := by decide +kernel
theorem dX1_seal_39 : decode cX1_seal 39 = .ok (.lreturn, 1) := by decide +kernel
set_option maxRecDepth 20000 in
theorem ggX1_isValid_X1_seal : GoodIn wsX1_isValid wsX1_seal := goodIn_r _ [5, 1, 6] (by decide +kernel) (by decide +kernel)
set_option maxRecDepth 20000 in
theorem gX1_isValid_X1_seal : GoodIn wsX1_isValid (va_wsS RX1 45 yX1_seal wsX1_seal) := goodIn_app (goodIn_of _ (by decide +kernel)) ggX1_isValid_X1_seal
theorem dX1_isValid_0 : decode cX1_isValid 0 = .ok (.lload_n 0, 1) := by decide +kernel
theorem dX1_isValid_1 : decode cX1_isValid 1 = .ok (.ldc2_w 41, 3) := by decide +kernel
theorem dX1_isValid_4 : decode cX1_isValid 4 = .ok (.land, 1) := by decide +kernel
theorem dX1_isValid_5 : decode cX1_isValid 5 = .ok (.lload_n 0, 1) := by decide +kernel
theorem dX1_isValid_6 : decode cX1_isValid 6 = .ok (.invokestatic 45, 3) := by decide +kernel
theorem dX1_isValid_9 : decode cX1_isValid 9 = .ok (.lcmp, 1) := by decide +kernel
theorem dX1_isValid_10 : decode cX1_isValid 10 = .ok (.ifCond .ne 7, 3) := by decide +kernel
theorem dX1_isValid_13 : decode cX1_isValid 13 = .ok (.iconst 1, 1) := by decide +kernel
theorem dX1_isValid_14 : decode cX1_isValid 14 = .ok (.goto 4, 3) := by decide +kernel
theorem dX1_isValid_17 : decode cX1_isValid 17 = .ok (.iconst 0, 1) := by decide +kernel
theorem dX1_isValid_18 : decode cX1_isValid 18 = .ok (.ireturn, 1) := by decide +kernel
theorem dX1_balanceOf_0 : decode cX1_balanceOf 0 = .ok (.lload_n 0, 1) := by decide +kernel
theorem dX1_balanceOf_1 : decode cX1_balanceOf 1 = .ok (.bipush 32, 2) := by decide +kernel
theorem dX1_balanceOf_3 : decode cX1_balanceOf 3 = .ok (.lshr, 1) := by decide +kernel
theorem dX1_balanceOf_4 : decode cX1_balanceOf 4 = .ok (.l2i, 1) := by decide +kernel
theorem dX1_balanceOf_5 : decode cX1_balanceOf 5 = .ok (.ireturn, 1) := by decide +kernel
theorem dX1_numberOf_0 : decode cX1_numberOf 0 = .ok (.lload_n 0, 1) := by decide +kernel
theorem dX1_numberOf_1 : decode cX1_numberOf 1 = .ok (.bipush 8, 2) := by decide +kernel
theorem dX1_numberOf_3 : decode cX1_numberOf 3 = .ok (.lshr, 1) := by decide +kernel
theorem dX1_numberOf_4 : decode cX1_numberOf 4 = .ok (.ldc2_w 49, 3) := by decide +kernel
theorem dX1_numberOf_7 : decode cX1_numberOf 7 = .ok (.land, 1) := by decide +kernel
theorem dX1_numberOf_8 : decode cX1_numberOf 8 = .ok (.l2i, 1) := by decide +kernel
theorem dX1_numberOf_9 : decode cX1_numberOf 9 = .ok (.ireturn, 1) := by decide +kernel
set_option maxRecDepth 20000 in
theorem ggX1_wordOf_X1_seal : GoodIn wsX1_wordOf wsX1_seal := goodIn_r _ [4, 5, 6] (by decide +kernel) (by decide +kernel)
set_option maxRecDepth 20000 in
theorem gX1_wordOf_X1_seal : GoodIn wsX1_wordOf (va_wsS RX1 45 yX1_seal wsX1_seal) := goodIn_app (goodIn_of _ (by decide +kernel)) ggX1_wordOf_X1_seal
theorem dX1_wordOf_0 : decode cX1_wordOf 0 = .ok (.iload_n 0, 1) := by decide +kernel
theorem dX1_wordOf_1 : decode cX1_wordOf 1 = .ok (.i2l, 1) := by decide +kernel
theorem dX1_wordOf_2 : decode cX1_wordOf 2 = .ok (.bipush 32, 2) := by decide +kernel
theorem dX1_wordOf_4 : decode cX1_wordOf 4 = .ok (.lshl, 1) := by decide +kernel
theorem dX1_wordOf_5 : decode cX1_wordOf 5 = .ok (.iload_n 1, 1) := by decide +kernel
theorem dX1_wordOf_6 : decode cX1_wordOf 6 = .ok (.i2l, 1) := by decide +kernel
theorem dX1_wordOf_7 : decode cX1_wordOf 7 = .ok (.bipush 8, 2) := by decide +kernel
theorem dX1_wordOf_9 : decode cX1_wordOf 9 = .ok (.lshl, 1) := by decide +kernel
theorem dX1_wordOf_10 : decode cX1_wordOf 10 = .ok (.lor, 1) := by decide +kernel
theorem dX1_wordOf_11 : decode cX1_wordOf 11 = .ok (.lstore_n 2, 1) := by decide +kernel
theorem dX1_wordOf_12 : decode cX1_wordOf 12 = .ok (.lload_n 2, 1) := by decide +kernel
theorem dX1_wordOf_13 : decode cX1_wordOf 13 = .ok (.lload_n 2, 1) := by decide +kernel
theorem dX1_wordOf_14 : decode cX1_wordOf 14 = .ok (.invokestatic 45, 3) := by decide +kernel
theorem dX1_wordOf_17 : decode cX1_wordOf 17 = .ok (.lor, 1) := by decide +kernel
theorem dX1_wordOf_18 : decode cX1_wordOf 18 = .ok (.lreturn, 1) := by decide +kernel
set_option maxRecDepth 20000 in
theorem ggX1_isOpen_X1_isValid : GoodIn wsX1_isOpen wsX1_isValid := goodIn_r _ [4, 5, 6, 7, 3, 8, 9] (by decide +kernel) (by decide +kernel)
set_option maxRecDepth 20000 in
theorem gX1_isOpen_X1_isValid : GoodIn wsX1_isOpen (va_wsS RX1 51 yX1_isValid wsX1_isValid) := goodIn_app (goodIn_of _ (by decide +kernel)) ggX1_isOpen_X1_isValid
set_option maxRecDepth 20000 in
theorem ggX1_isOpen_X1_numberOf : GoodIn wsX1_isOpen wsX1_numberOf := goodIn_r _ [12, 13] (by decide +kernel) (by decide +kernel)
set_option maxRecDepth 20000 in
theorem gX1_isOpen_X1_numberOf : GoodIn wsX1_isOpen (va_wsS RX1 55 yX1_numberOf wsX1_numberOf) := goodIn_app (goodIn_of _ (by decide +kernel)) ggX1_isOpen_X1_numberOf
theorem dX1_isOpen_0 : decode cX1_isOpen 0 = .ok (.lload_n 0, 1) := by decide +kernel
theorem dX1_isOpen_1 : decode cX1_isOpen 1 = .ok (.invokestatic 51, 3) := by decide +kernel
theorem dX1_isOpen_4 : decode cX1_isOpen 4 = .ok (.ifCond .eq 14, 3) := by decide +kernel
theorem dX1_isOpen_7 : decode cX1_isOpen 7 = .ok (.lload_n 0, 1) := by decide +kernel
theorem dX1_isOpen_8 : decode cX1_isOpen 8 = .ok (.invokestatic 55, 3) := by decide +kernel
theorem dX1_isOpen_11 : decode cX1_isOpen 11 = .ok (.ifCond .le 7, 3) := by decide +kernel
theorem dX1_isOpen_14 : decode cX1_isOpen 14 = .ok (.iconst 1, 1) := by decide +kernel
theorem dX1_isOpen_15 : decode cX1_isOpen 15 = .ok (.goto 4, 3) := by decide +kernel
theorem dX1_isOpen_18 : decode cX1_isOpen 18 = .ok (.iconst 0, 1) := by decide +kernel
theorem dX1_isOpen_19 : decode cX1_isOpen 19 = .ok (.ireturn, 1) := by decide +kernel
theorem dX1_isInt_0 : decode cX1_isInt 0 = .ok (.lload_n 0, 1) := by decide +kernel
theorem dX1_isInt_1 : decode cX1_isInt 1 = .ok (.ldc2_w 59, 3) := by decide +kernel
theorem dX1_isInt_4 : decode cX1_isInt 4 = .ok (.lcmp, 1) := by decide +kernel
theorem dX1_isInt_5 : decode cX1_isInt 5 = .ok (.ifCond .lt 15, 3) := by decide +kernel
theorem dX1_isInt_8 : decode cX1_isInt 8 = .ok (.lload_n 0, 1) := by decide +kernel
theorem dX1_isInt_9 : decode cX1_isInt 9 = .ok (.ldc2_w 61, 3) := by decide +kernel
theorem dX1_isInt_12 : decode cX1_isInt 12 = .ok (.lcmp, 1) := by decide +kernel
theorem dX1_isInt_13 : decode cX1_isInt 13 = .ok (.ifCond .gt 7, 3) := by decide +kernel
theorem dX1_isInt_16 : decode cX1_isInt 16 = .ok (.iconst 1, 1) := by decide +kernel
theorem dX1_isInt_17 : decode cX1_isInt 17 = .ok (.goto 4, 3) := by decide +kernel
theorem dX1_isInt_20 : decode cX1_isInt 20 = .ok (.iconst 0, 1) := by decide +kernel
theorem dX1_isInt_21 : decode cX1_isInt 21 = .ok (.ireturn, 1) := by decide +kernel
theorem dX1_isAccount_0 : decode cX1_isAccount 0 = .ok (.iload_n 0, 1) := by decide +kernel
theorem dX1_isAccount_1 : decode cX1_isAccount 1 = .ok (.ifCond .lt 13, 3) := by decide +kernel
theorem dX1_isAccount_4 : decode cX1_isAccount 4 = .ok (.iload_n 0, 1) := by decide +kernel
theorem dX1_isAccount_5 : decode cX1_isAccount 5 = .ok (.bipush 16, 2) := by decide +kernel
theorem dX1_isAccount_7 : decode cX1_isAccount 7 = .ok (.if_icmp .ge 7, 3) := by decide +kernel
theorem dX1_isAccount_10 : decode cX1_isAccount 10 = .ok (.iconst 1, 1) := by decide +kernel
theorem dX1_isAccount_11 : decode cX1_isAccount 11 = .ok (.goto 4, 3) := by decide +kernel
theorem dX1_isAccount_14 : decode cX1_isAccount 14 = .ok (.iconst 0, 1) := by decide +kernel
theorem dX1_isAccount_15 : decode cX1_isAccount 15 = .ok (.ireturn, 1) := by decide +kernel
theorem dX1_turn_0 : decode cX1_turn 0 = .ok (.aload_n 0, 1) := by decide +kernel
theorem dX1_turn_1 : decode cX1_turn 1 = .ok (.getfield 25, 3) := by decide +kernel
theorem dX1_turn_4 : decode cX1_turn 4 = .ok (.aload_n 0, 1) := by decide +kernel
theorem dX1_turn_5 : decode cX1_turn 5 = .ok (.getfield 63, 3) := by decide +kernel
theorem dX1_turn_8 : decode cX1_turn 8 = .ok (.iload_n 1, 1) := by decide +kernel
theorem dX1_turn_9 : decode cX1_turn 9 = .ok (.iastore, 1) := by decide +kernel
theorem dX1_turn_10 : decode cX1_turn 10 = .ok (.aload_n 0, 1) := by decide +kernel
theorem dX1_turn_11 : decode cX1_turn 11 = .ok (.getfield 28, 3) := by decide +kernel
theorem dX1_turn_14 : decode cX1_turn 14 = .ok (.aload_n 0, 1) := by decide +kernel
theorem dX1_turn_15 : decode cX1_turn 15 = .ok (.getfield 63, 3) := by decide +kernel
theorem dX1_turn_18 : decode cX1_turn 18 = .ok (.bipush 20, 2) := by decide +kernel
theorem dX1_turn_20 : decode cX1_turn 20 = .ok (.iload_n 2, 1) := by decide +kernel
theorem dX1_turn_21 : decode cX1_turn 21 = .ok (.imul, 1) := by decide +kernel
theorem dX1_turn_22 : decode cX1_turn 22 = .ok (.iload_n 3, 1) := by decide +kernel
theorem dX1_turn_23 : decode cX1_turn 23 = .ok (.iadd, 1) := by decide +kernel
theorem dX1_turn_24 : decode cX1_turn 24 = .ok (.iastore, 1) := by decide +kernel
theorem dX1_turn_25 : decode cX1_turn 25 = .ok (.aload_n 0, 1) := by decide +kernel
theorem dX1_turn_26 : decode cX1_turn 26 = .ok (.getfield 31, 3) := by decide +kernel
theorem dX1_turn_29 : decode cX1_turn 29 = .ok (.aload_n 0, 1) := by decide +kernel
theorem dX1_turn_30 : decode cX1_turn 30 = .ok (.getfield 63, 3) := by decide +kernel
theorem dX1_turn_33 : decode cX1_turn 33 = .ok (.lload 4, 2) := by decide +kernel
theorem dX1_turn_35 : decode cX1_turn 35 = .ok (.lastore, 1) := by decide +kernel
theorem dX1_turn_36 : decode cX1_turn 36 = .ok (.aload_n 0, 1) := by decide +kernel
theorem dX1_turn_37 : decode cX1_turn 37 = .ok (.dup, 1) := by decide +kernel
theorem dX1_turn_38 : decode cX1_turn 38 = .ok (.getfield 63, 3) := by decide +kernel
theorem dX1_turn_41 : decode cX1_turn 41 = .ok (.iconst 1, 1) := by decide +kernel
theorem dX1_turn_42 : decode cX1_turn 42 = .ok (.iadd, 1) := by decide +kernel
theorem dX1_turn_43 : decode cX1_turn 43 = .ok (.putfield 63, 3) := by decide +kernel
theorem dX1_turn_46 : decode cX1_turn 46 = .ok (.return_, 1) := by decide +kernel
set_option maxRecDepth 20000 in
theorem ggX1_look_X1_turn : GoodIn wsX1_look wsX1_turn := goodIn_r _ [6, 7, 8, 9, 10, 11, 12, 13, 14, 15, 16, 17, 18, 19, 20, 21] (by decide +kernel) (by decide +kernel)
set_option maxRecDepth 20000 in
theorem gX1_look_X1_turn : GoodIn wsX1_look (wsV RX1 66 RX1 yX1_turn wsX1_turn) := goodIn_app (goodIn_of _ (by decide +kernel)) ggX1_look_X1_turn
theorem dX1_look_0 : decode cX1_look 0 = .ok (.aload_n 0, 1) := by decide +kernel
theorem dX1_look_1 : decode cX1_look 1 = .ok (.iconst 0, 1) := by decide +kernel
theorem dX1_look_2 : decode cX1_look 2 = .ok (.iconst 0, 1) := by decide +kernel
theorem dX1_look_3 : decode cX1_look 3 = .ok (.iload_n 1, 1) := by decide +kernel
theorem dX1_look_4 : decode cX1_look 4 = .ok (.lconst 0, 1) := by decide +kernel
theorem dX1_look_5 : decode cX1_look 5 = .ok (.invokevirtual 66, 3) := by decide +kernel
theorem dX1_look_8 : decode cX1_look 8 = .ok (.aload_n 0, 1) := by decide +kernel
theorem dX1_look_9 : decode cX1_look 9 = .ok (.iconst 1, 1) := by decide +kernel
theorem dX1_look_10 : decode cX1_look 10 = .ok (.iconst 0, 1) := by decide +kernel
theorem dX1_look_11 : decode cX1_look 11 = .ok (.iload_n 1, 1) := by decide +kernel
theorem dX1_look_12 : decode cX1_look 12 = .ok (.aload_n 0, 1) := by decide +kernel
theorem dX1_look_13 : decode cX1_look 13 = .ok (.getfield 7, 3) := by decide +kernel
theorem dX1_look_16 : decode cX1_look 16 = .ok (.iload_n 1, 1) := by decide +kernel
theorem dX1_look_17 : decode cX1_look 17 = .ok (.laload, 1) := by decide +kernel
theorem dX1_look_18 : decode cX1_look 18 = .ok (.invokevirtual 66, 3) := by decide +kernel
theorem dX1_look_21 : decode cX1_look 21 = .ok (.return_, 1) := by decide +kernel
set_option maxRecDepth 20000 in
theorem ggX1_putAll_X1_turn : GoodIn wsX1_putAll wsX1_turn := goodIn_r _ [5, 6, 7, 8, 9, 10, 11, 12, 13, 14, 15, 16, 17, 18, 19, 20] (by decide +kernel) (by decide +kernel)
set_option maxRecDepth 20000 in
theorem gX1_putAll_X1_turn : GoodIn wsX1_putAll (wsV RX1 66 RX1 yX1_turn wsX1_turn) := goodIn_app (goodIn_of _ (by decide +kernel)) ggX1_putAll_X1_turn
theorem dX1_putAll_0 : decode cX1_putAll 0 = .ok (.iconst 0, 1) := by decide +kernel
theorem dX1_putAll_1 : decode cX1_putAll 1 = .ok (.istore 4, 2) := by decide +kernel
theorem dX1_putAll_3 : decode cX1_putAll 3 = .ok (.iload 4, 2) := by decide +kernel
theorem dX1_putAll_5 : decode cX1_putAll 5 = .ok (.iconst 4, 1) := by decide +kernel
theorem dX1_putAll_6 : decode cX1_putAll 6 = .ok (.if_icmp .ge 18, 3) := by decide +kernel
theorem dX1_putAll_9 : decode cX1_putAll 9 = .ok (.aload_n 0, 1) := by decide +kernel
theorem dX1_putAll_10 : decode cX1_putAll 10 = .ok (.iconst 1, 1) := by decide +kernel
theorem dX1_putAll_11 : decode cX1_putAll 11 = .ok (.iload 4, 2) := by decide +kernel
theorem dX1_putAll_13 : decode cX1_putAll 13 = .ok (.iload_n 1, 1) := by decide +kernel
theorem dX1_putAll_14 : decode cX1_putAll 14 = .ok (.lload_n 2, 1) := by decide +kernel
theorem dX1_putAll_15 : decode cX1_putAll 15 = .ok (.invokevirtual 66, 3) := by decide +kernel
theorem dX1_putAll_18 : decode cX1_putAll 18 = .ok (.iinc 4 1, 3) := by decide +kernel
theorem dX1_putAll_21 : decode cX1_putAll 21 = .ok (.goto (-18), 3) := by decide +kernel
theorem dX1_putAll_24 : decode cX1_putAll 24 = .ok (.return_, 1) := by decide +kernel
theorem dX1_works_0 : decode cX1_works 0 = .ok (.iconst 0, 1) := by decide +kernel
theorem dX1_works_1 : decode cX1_works 1 = .ok (.istore_n 1, 1) := by decide +kernel
theorem dX1_works_2 : decode cX1_works 2 = .ok (.iload_n 1, 1) := by decide +kernel
theorem dX1_works_3 : decode cX1_works 3 = .ok (.aload_n 0, 1) := by decide +kernel
theorem dX1_works_4 : decode cX1_works 4 = .ok (.getfield 63, 3) := by decide +kernel
theorem dX1_works_7 : decode cX1_works 7 = .ok (.if_icmp .ge 163, 3) := by decide +kernel
theorem dX1_works_10 : decode cX1_works 10 = .ok (.aload_n 0, 1) := by decide +kernel
theorem dX1_works_11 : decode cX1_works 11 = .ok (.getfield 17, 3) := by decide +kernel
theorem dX1_works_14 : decode cX1_works 14 = .ok (.ifCond .eq 20, 3) := by decide +kernel
theorem dX1_works_17 : decode cX1_works 17 = .ok (.aload_n 0, 1) := by decide +kernel
theorem dX1_works_18 : decode cX1_works 18 = .ok (.getfield 21, 3) := by decide +kernel
theorem dX1_works_21 : decode cX1_works 21 = .ok (.ifCond .ne 13, 3) := by decide +kernel
theorem dX1_works_24 : decode cX1_works 24 = .ok (.aload_n 0, 1) := by decide +kernel
theorem dX1_works_25 : decode cX1_works 25 = .ok (.iconst 0, 1) := by decide +kernel
theorem dX1_works_26 : decode cX1_works 26 = .ok (.putfield 17, 3) := by decide +kernel
theorem dX1_works_29 : decode cX1_works 29 = .ok (.aload_n 0, 1) := by decide +kernel
theorem dX1_works_30 : decode cX1_works 30 = .ok (.iconst (-1), 1) := by decide +kernel
theorem dX1_works_31 : decode cX1_works 31 = .ok (.putfield 21, 3) := by decide +kernel
theorem dX1_works_34 : decode cX1_works 34 = .ok (.aload_n 0, 1) := by decide +kernel
theorem dX1_works_35 : decode cX1_works 35 = .ok (.getfield 17, 3) := by decide +kernel
theorem dX1_works_38 : decode cX1_works 38 = .ok (.ifCond .ne 5, 3) := by decide +kernel
theorem dX1_works_41 : decode cX1_works 41 = .ok (.iconst 0, 1) := by decide +kernel
theorem dX1_works_42 : decode cX1_works 42 = .ok (.ireturn, 1) := by decide +kernel
theorem dX1_works_43 : decode cX1_works 43 = .ok (.aload_n 0, 1) := by decide +kernel
theorem dX1_works_44 : decode cX1_works 44 = .ok (.getfield 21, 3) := by decide +kernel
theorem dX1_works_47 : decode cX1_works 47 = .ok (.ifCond .le 13, 3) := by decide +kernel
theorem dX1_works_50 : decode cX1_works 50 = .ok (.aload_n 0, 1) := by decide +kernel
theorem dX1_works_51 : decode cX1_works 51 = .ok (.dup, 1) := by decide +kernel
theorem dX1_works_52 : decode cX1_works 52 = .ok (.getfield 21, 3) := by decide +kernel
theorem dX1_works_55 : decode cX1_works 55 = .ok (.iconst 1, 1) := by decide +kernel
theorem dX1_works_56 : decode cX1_works 56 = .ok (.isub, 1) := by decide +kernel
theorem dX1_works_57 : decode cX1_works 57 = .ok (.putfield 21, 3) := by decide +kernel
theorem dX1_works_60 : decode cX1_works 60 = .ok (.aload_n 0, 1) := by decide +kernel
theorem dX1_works_61 : decode cX1_works 61 = .ok (.getfield 25, 3) := by decide +kernel
theorem dX1_works_64 : decode cX1_works 64 = .ok (.iload_n 1, 1) := by decide +kernel
theorem dX1_works_65 : decode cX1_works 65 = .ok (.iaload, 1) := by decide +kernel
theorem dX1_works_66 : decode cX1_works 66 = .ok (.ifCond .ne 28, 3) := by decide +kernel
theorem dX1_works_69 : decode cX1_works 69 = .ok (.aload_n 0, 1) := by decide +kernel
theorem dX1_works_70 : decode cX1_works 70 = .ok (.dup, 1) := by decide +kernel
theorem dX1_works_71 : decode cX1_works 71 = .ok (.getfield 70, 3) := by decide +kernel
theorem dX1_works_74 : decode cX1_works 74 = .ok (.iconst 1, 1) := by decide +kernel
theorem dX1_works_75 : decode cX1_works 75 = .ok (.iadd, 1) := by decide +kernel
theorem dX1_works_76 : decode cX1_works 76 = .ok (.putfield 70, 3) := by decide +kernel
theorem dX1_works_79 : decode cX1_works 79 = .ok (.aload_n 0, 1) := by decide +kernel
theorem dX1_works_80 : decode cX1_works 80 = .ok (.getfield 7, 3) := by decide +kernel
theorem dX1_works_83 : decode cX1_works 83 = .ok (.aload_n 0, 1) := by decide +kernel
theorem dX1_works_84 : decode cX1_works 84 = .ok (.getfield 28, 3) := by decide +kernel
theorem dX1_works_87 : decode cX1_works 87 = .ok (.iload_n 1, 1) := by decide +kernel
theorem dX1_works_88 : decode cX1_works 88 = .ok (.iaload, 1) := by decide +kernel
theorem dX1_works_89 : decode cX1_works 89 = .ok (.lconst 0, 1) := by decide +kernel
theorem dX1_works_90 : decode cX1_works 90 = .ok (.lastore, 1) := by decide +kernel
theorem dX1_works_91 : decode cX1_works 91 = .ok (.goto 30, 3) := by decide +kernel
theorem dX1_works_94 : decode cX1_works 94 = .ok (.aload_n 0, 1) := by decide +kernel
theorem dX1_works_95 : decode cX1_works 95 = .ok (.dup, 1) := by decide +kernel
theorem dX1_works_96 : decode cX1_works 96 = .ok (.getfield 73, 3) := by decide +kernel
theorem dX1_works_99 : decode cX1_works 99 = .ok (.iconst 1, 1) := by decide +kernel
theorem dX1_works_100 : decode cX1_works 100 = .ok (.iadd, 1) := by decide +kernel
theorem dX1_works_101 : decode cX1_works 101 = .ok (.putfield 73, 3) := by decide +kernel
theorem dX1_works_104 : decode cX1_works 104 = .ok (.aload_n 0, 1) := by decide +kernel
theorem dX1_works_105 : decode cX1_works 105 = .ok (.getfield 7, 3) := by decide +kernel
theorem dX1_works_108 : decode cX1_works 108 = .ok (.aload_n 0, 1) := by decide +kernel
theorem dX1_works_109 : decode cX1_works 109 = .ok (.getfield 28, 3) := by decide +kernel
theorem dX1_works_112 : decode cX1_works 112 = .ok (.iload_n 1, 1) := by decide +kernel
theorem dX1_works_113 : decode cX1_works 113 = .ok (.iaload, 1) := by decide +kernel
theorem dX1_works_114 : decode cX1_works 114 = .ok (.aload_n 0, 1) := by decide +kernel
theorem dX1_works_115 : decode cX1_works 115 = .ok (.getfield 31, 3) := by decide +kernel
theorem dX1_works_118 : decode cX1_works 118 = .ok (.iload_n 1, 1) := by decide +kernel
theorem dX1_works_119 : decode cX1_works 119 = .ok (.laload, 1) := by decide +kernel
theorem dX1_works_120 : decode cX1_works 120 = .ok (.lastore, 1) := by decide +kernel
theorem dX1_works_121 : decode cX1_works 121 = .ok (.aload_n 0, 1) := by decide +kernel
theorem dX1_works_122 : decode cX1_works 122 = .ok (.getfield 25, 3) := by decide +kernel
theorem dX1_works_125 : decode cX1_works 125 = .ok (.iload_n 1, 1) := by decide +kernel
theorem dX1_works_126 : decode cX1_works 126 = .ok (.iaload, 1) := by decide +kernel
theorem dX1_works_127 : decode cX1_works 127 = .ok (.ifCond .ne 37, 3) := by decide +kernel
theorem dX1_works_130 : decode cX1_works 130 = .ok (.aload_n 0, 1) := by decide +kernel
theorem dX1_works_131 : decode cX1_works 131 = .ok (.getfield 31, 3) := by decide +kernel
theorem dX1_works_134 : decode cX1_works 134 = .ok (.iload_n 1, 1) := by decide +kernel
theorem dX1_works_135 : decode cX1_works 135 = .ok (.laload, 1) := by decide +kernel
theorem dX1_works_136 : decode cX1_works 136 = .ok (.lconst 0, 1) := by decide +kernel
theorem dX1_works_137 : decode cX1_works 137 = .ok (.lcmp, 1) := by decide +kernel
theorem dX1_works_138 : decode cX1_works 138 = .ok (.ifCond .le 26, 3) := by decide +kernel
theorem dX1_works_141 : decode cX1_works 141 = .ok (.aload_n 0, 1) := by decide +kernel
theorem dX1_works_142 : decode cX1_works 142 = .ok (.getfield 13, 3) := by decide +kernel
theorem dX1_works_145 : decode cX1_works 145 = .ok (.aload_n 0, 1) := by decide +kernel
theorem dX1_works_146 : decode cX1_works 146 = .ok (.getfield 28, 3) := by decide +kernel
theorem dX1_works_149 : decode cX1_works 149 = .ok (.iload_n 1, 1) := by decide +kernel
theorem dX1_works_150 : decode cX1_works 150 = .ok (.iaload, 1) := by decide +kernel
theorem dX1_works_151 : decode cX1_works 151 = .ok (.bipush 20, 2) := by decide +kernel
theorem dX1_works_153 : decode cX1_works 153 = .ok (.irem, 1) := by decide +kernel
theorem dX1_works_154 : decode cX1_works 154 = .ok (.aload_n 0, 1) := by decide +kernel
theorem dX1_works_155 : decode cX1_works 155 = .ok (.getfield 31, 3) := by decide +kernel
theorem dX1_works_158 : decode cX1_works 158 = .ok (.iload_n 1, 1) := by decide +kernel
theorem dX1_works_159 : decode cX1_works 159 = .ok (.laload, 1) := by decide +kernel
theorem dX1_works_160 : decode cX1_works 160 = .ok (.l2i, 1) := by decide +kernel
theorem dX1_works_161 : decode cX1_works 161 = .ok (.iconst 1, 1) := by decide +kernel
theorem dX1_works_162 : decode cX1_works 162 = .ok (.isub, 1) := by decide +kernel
theorem dX1_works_163 : decode cX1_works 163 = .ok (.iastore, 1) := by decide +kernel
theorem dX1_works_164 : decode cX1_works 164 = .ok (.iinc 1 1, 3) := by decide +kernel
theorem dX1_works_167 : decode cX1_works 167 = .ok (.goto (-165), 3) := by decide +kernel
theorem dX1_works_170 : decode cX1_works 170 = .ok (.iconst 1, 1) := by decide +kernel
theorem dX1_works_171 : decode cX1_works 171 = .ok (.ireturn, 1) := by decide +kernel
set_option maxRecDepth 20000 in
theorem ggX1_open_X1_isAccount : GoodIn wsX1_open wsX1_isAccount := goodIn_r _ [6] (by decide +kernel) (by decide +kernel)
set_option maxRecDepth 20000 in
theorem gX1_open_X1_isAccount : GoodIn wsX1_open (va_wsS RX1 76 yX1_isAccount wsX1_isAccount) := goodIn_app (goodIn_of _ (by decide +kernel)) ggX1_open_X1_isAccount
set_option maxRecDepth 20000 in
theorem ggX1_open_X1_isValid : GoodIn wsX1_open wsX1_isValid := goodIn_r _ [9, 10, 11, 12, 5, 13, 14] (by decide +kernel) (by decide +kernel)
set_option maxRecDepth 20000 in
theorem gX1_open_X1_isValid : GoodIn wsX1_open (va_wsS RX1 51 yX1_isValid wsX1_isValid) := goodIn_app (goodIn_of _ (by decide +kernel)) ggX1_open_X1_isValid
set_option maxRecDepth 20000 in
theorem ggX1_open_X1_numberOf : GoodIn wsX1_open wsX1_numberOf := goodIn_r _ [17, 18] (by decide +kernel) (by decide +kernel)
set_option maxRecDepth 20000 in
theorem gX1_open_X1_numberOf : GoodIn wsX1_open (va_wsS RX1 55 yX1_numberOf wsX1_numberOf) := goodIn_app (goodIn_of _ (by decide +kernel)) ggX1_open_X1_numberOf
set_option maxRecDepth 20000 in
theorem ggX1_open_X1_turn : GoodIn wsX1_open wsX1_turn := goodIn_r _ [22, 23, 2, 24, 25, 42, 43, 44, 45, 46, 47, 48, 49, 50, 51, 52] (by decide +kernel) (by decide +kernel)
set_option maxRecDepth 20000 in
theorem gX1_open_X1_turn : GoodIn wsX1_open (wsV RX1 66 RX1 yX1_turn wsX1_turn) := goodIn_app (goodIn_of _ (by decide +kernel)) ggX1_open_X1_turn
set_option maxRecDepth 20000 in
theorem ggX1_open_X1_wordOf : GoodIn wsX1_open wsX1_wordOf := goodIn_r _ [28, 11, 12, 5, 13, 10, 14] (by decide +kernel) (by decide +kernel)
set_option maxRecDepth 20000 in
theorem gX1_open_X1_wordOf : GoodIn wsX1_open (va_wsS RX1 37 yX1_wordOf wsX1_wordOf) := goodIn_app (goodIn_of _ (by decide +kernel)) ggX1_open_X1_wordOf
set_option maxRecDepth 20000 in
theorem ggX1_open_X1_putAll : GoodIn wsX1_open wsX1_putAll := goodIn_r _ [32, 19, 20, 21, 5, 22, 23, 2, 24, 25, 42, 43, 44, 45, 46, 47, 48, 49, 50, 51, 52] (by decide +kernel) (by decide +kernel)
set_option maxRecDepth 20000 in
theorem gX1_open_X1_putAll : GoodIn wsX1_open (wsV RX1 80 RX1 yX1_putAll wsX1_putAll) := goodIn_app (goodIn_of _ (by decide +kernel)) ggX1_open_X1_putAll
set_option maxRecDepth 20000 in
theorem ggX1_open_X1_works : GoodIn wsX1_open wsX1_works := goodIn_r _ [36, 2, 37, 38, 23, 39, 1, 24, 40, 25, 41, 42, 43, 44, 45, 46, 47, 48, 49, 50, 51, 52] (by decide +kernel) (by decide +kernel)
set_option maxRecDepth 20000 in
theorem gX1_open_X1_works : GoodIn wsX1_open (wsV RX1 84 RX1 yX1_works wsX1_works) := goodIn_app (goodIn_of _ (by decide +kernel)) ggX1_open_X1_works
theorem dX1_open_0 : decode cX1_open 0 = .ok (.iload_n 1, 1) := by decide +kernel
theorem dX1_open_1 : decode cX1_open 1 = .ok (.invokestatic 76, 3) := by decide +kernel
theorem dX1_open_4 : decode cX1_open 4 = .ok (.ifCond .ne 5, 3) := by decide +kernel
theorem dX1_open_7 : decode cX1_open 7 = .ok (.iconst (-1), 1) := by decide +kernel
theorem dX1_open_8 : decode cX1_open 8 = .ok (.ireturn, 1) := by decide +kernel
theorem dX1_open_9 : decode cX1_open 9 = .ok (.aload_n 0, 1) := by decide +kernel
theorem dX1_open_10 : decode cX1_open 10 = .ok (.getfield 7, 3) := by decide +kernel
theorem dX1_open_13 : decode cX1_open 13 = .ok (.iload_n 1, 1) := by decide +kernel
theorem dX1_open_14 : decode cX1_open 14 = .ok (.laload, 1) := by decide +kernel
theorem dX1_open_15 : decode cX1_open 15 = .ok (.lstore_n 3, 1) := by decide +kernel
theorem dX1_open_16 : decode cX1_open 16 = .ok (.lload_n 3, 1) := by decide +kernel
theorem dX1_open_17 : decode cX1_open 17 = .ok (.invokestatic 51, 3) := by decide +kernel
theorem dX1_open_20 : decode cX1_open 20 = .ok (.ifCond .eq 14, 3) := by decide +kernel
theorem dX1_open_23 : decode cX1_open 23 = .ok (.lload_n 3, 1) := by decide +kernel
theorem dX1_open_24 : decode cX1_open 24 = .ok (.invokestatic 55, 3) := by decide +kernel
theorem dX1_open_27 : decode cX1_open 27 = .ok (.ifCond .ne 7, 3) := by decide +kernel
theorem dX1_open_30 : decode cX1_open 30 = .ok (.iconst 1, 1) := by decide +kernel
theorem dX1_open_31 : decode cX1_open 31 = .ok (.goto 4, 3) := by decide +kernel
theorem dX1_open_34 : decode cX1_open 34 = .ok (.iconst 0, 1) := by decide +kernel
theorem dX1_open_35 : decode cX1_open 35 = .ok (.istore 5, 2) := by decide +kernel
theorem dX1_open_37 : decode cX1_open 37 = .ok (.aload_n 0, 1) := by decide +kernel
theorem dX1_open_38 : decode cX1_open 38 = .ok (.iconst 0, 1) := by decide +kernel
theorem dX1_open_39 : decode cX1_open 39 = .ok (.putfield 63, 3) := by decide +kernel
theorem dX1_open_42 : decode cX1_open 42 = .ok (.aload_n 0, 1) := by decide +kernel
theorem dX1_open_43 : decode cX1_open 43 = .ok (.iconst 0, 1) := by decide +kernel
theorem dX1_open_44 : decode cX1_open 44 = .ok (.iconst 0, 1) := by decide +kernel
theorem dX1_open_45 : decode cX1_open 45 = .ok (.iload_n 1, 1) := by decide +kernel
theorem dX1_open_46 : decode cX1_open 46 = .ok (.lconst 0, 1) := by decide +kernel
theorem dX1_open_47 : decode cX1_open 47 = .ok (.invokevirtual 66, 3) := by decide +kernel
theorem dX1_open_50 : decode cX1_open 50 = .ok (.iload 5, 2) := by decide +kernel
theorem dX1_open_52 : decode cX1_open 52 = .ok (.ifCond .eq 16, 3) := by decide +kernel
theorem dX1_open_55 : decode cX1_open 55 = .ok (.aload_n 0, 1) := by decide +kernel
theorem dX1_open_56 : decode cX1_open 56 = .ok (.iload_n 1, 1) := by decide +kernel
theorem dX1_open_57 : decode cX1_open 57 = .ok (.iload_n 2, 1) := by decide +kernel
theorem dX1_open_58 : decode cX1_open 58 = .ok (.iconst 1, 1) := by decide +kernel
theorem dX1_open_59 : decode cX1_open 59 = .ok (.invokestatic 37, 3) := by decide +kernel
theorem dX1_open_62 : decode cX1_open 62 = .ok (.invokevirtual 80, 3) := by decide +kernel
theorem dX1_open_65 : decode cX1_open 65 = .ok (.goto 11, 3) := by decide +kernel
theorem dX1_open_68 : decode cX1_open 68 = .ok (.aload_n 0, 1) := by decide +kernel
theorem dX1_open_69 : decode cX1_open 69 = .ok (.iconst 1, 1) := by decide +kernel
theorem dX1_open_70 : decode cX1_open 70 = .ok (.iconst 0, 1) := by decide +kernel
theorem dX1_open_71 : decode cX1_open 71 = .ok (.iload_n 1, 1) := by decide +kernel
theorem dX1_open_72 : decode cX1_open 72 = .ok (.lload_n 3, 1) := by decide +kernel
theorem dX1_open_73 : decode cX1_open 73 = .ok (.invokevirtual 66, 3) := by decide +kernel
theorem dX1_open_76 : decode cX1_open 76 = .ok (.aload_n 0, 1) := by decide +kernel
theorem dX1_open_77 : decode cX1_open 77 = .ok (.invokevirtual 84, 3) := by decide +kernel
theorem dX1_open_80 : decode cX1_open 80 = .ok (.ifCond .ne 8, 3) := by decide +kernel
theorem dX1_open_83 : decode cX1_open 83 = .ok (.bipush (-2), 2) := by decide +kernel
theorem dX1_open_85 : decode cX1_open 85 = .ok (.goto 13, 3) := by decide +kernel
theorem dX1_open_88 : decode cX1_open 88 = .ok (.iload 5, 2) := by decide +kernel
theorem dX1_open_90 : decode cX1_open 90 = .ok (.ifCond .eq 7, 3) := by decide +kernel
theorem dX1_open_93 : decode cX1_open 93 = .ok (.iconst 1, 1) := by decide +kernel
theorem dX1_open_94 : decode cX1_open 94 = .ok (.goto 4, 3) := by decide +kernel
theorem dX1_open_97 : decode cX1_open 97 = .ok (.iconst (-1), 1) := by decide +kernel
theorem dX1_open_98 : decode cX1_open 98 = .ok (.ireturn, 1) := by decide +kernel
set_option maxRecDepth 20000 in
theorem ggX1_balance_X1_isAccount : GoodIn wsX1_balance wsX1_isAccount := goodIn_r _ [10] (by decide +kernel) (by decide +kernel)
set_option maxRecDepth 20000 in
theorem gX1_balance_X1_isAccount : GoodIn wsX1_balance (va_wsS RX1 76 yX1_isAccount wsX1_isAccount) := goodIn_app (goodIn_of _ (by decide +kernel)) ggX1_balance_X1_isAccount
set_option maxRecDepth 20000 in
theorem ggX1_balance_X1_look : GoodIn wsX1_balance wsX1_look := goodIn_r _ [14, 2, 15, 16, 17, 9, 18, 19, 3, 20, 21, 46, 47, 48, 49, 50, 51, 52, 53, 54, 55, 56] (by decide +kernel) (by decide +kernel)
set_option maxRecDepth 20000 in
theorem gX1_balance_X1_look : GoodIn wsX1_balance (wsV RX1 90 RX1 yX1_look wsX1_look) := goodIn_app (goodIn_of _ (by decide +kernel)) ggX1_balance_X1_look
set_option maxRecDepth 20000 in
theorem ggX1_balance_X1_works : GoodIn wsX1_balance wsX1_works := goodIn_r _ [25, 3, 26, 27, 19, 28, 2, 20, 29, 21, 30, 46, 47, 48, 49, 50, 51, 52, 53, 54, 55, 56] (by decide +kernel) (by decide +kernel)
set_option maxRecDepth 20000 in
theorem gX1_balance_X1_works : GoodIn wsX1_balance (wsV RX1 84 RX1 yX1_works wsX1_works) := goodIn_app (goodIn_of _ (by decide +kernel)) ggX1_balance_X1_works
set_option maxRecDepth 20000 in
theorem ggX1_balance_X1_isValid : GoodIn wsX1_balance wsX1_isValid := goodIn_r _ [33, 34, 35, 36, 9, 37, 38] (by decide +kernel) (by decide +kernel)
set_option maxRecDepth 20000 in
theorem gX1_balance_X1_isValid : GoodIn wsX1_balance (va_wsS RX1 51 yX1_isValid wsX1_isValid) := goodIn_app (goodIn_of _ (by decide +kernel)) ggX1_balance_X1_isValid
set_option maxRecDepth 20000 in
theorem ggX1_balance_X1_numberOf : GoodIn wsX1_balance wsX1_numberOf := goodIn_r _ [41, 42] (by decide +kernel) (by decide +kernel)
set_option maxRecDepth 20000 in
theorem gX1_balance_X1_numberOf : GoodIn wsX1_balance (va_wsS RX1 55 yX1_numberOf wsX1_numberOf) := goodIn_app (goodIn_of _ (by decide +kernel)) ggX1_balance_X1_numberOf
set_option maxRecDepth 20000 in
theorem ggX1_balance_X1_balanceOf : GoodIn wsX1_balance wsX1_balanceOf := goodIn_r _ [45] (by decide +kernel) (by decide +kernel)
set_option maxRecDepth 20000 in
theorem gX1_balance_X1_balanceOf : GoodIn wsX1_balance (va_wsS RX1 100 yX1_balanceOf wsX1_balanceOf) := goodIn_app (goodIn_of _ (by decide +kernel)) ggX1_balance_X1_balanceOf
theorem dX1_balance_0 : decode cX1_balance 0 = .ok (.iload_n 1, 1) := by decide +kernel
theorem dX1_balance_1 : decode cX1_balance 1 = .ok (.invokestatic 76, 3) := by decide +kernel
theorem dX1_balance_4 : decode cX1_balance 4 = .ok (.ifCond .ne 7, 3) := by decide +kernel
theorem dX1_balance_7 : decode cX1_balance 7 = .ok (.ldc2_w 88, 3) := by decide +kernel
theorem dX1_balance_10 : decode cX1_balance 10 = .ok (.lreturn, 1) := by decide +kernel
theorem dX1_balance_11 : decode cX1_balance 11 = .ok (.aload_n 0, 1) := by decide +kernel
theorem dX1_balance_12 : decode cX1_balance 12 = .ok (.getfield 7, 3) := by decide +kernel
theorem dX1_balance_15 : decode cX1_balance 15 = .ok (.iload_n 1, 1) := by decide +kernel
theorem dX1_balance_16 : decode cX1_balance 16 = .ok (.laload, 1) := by decide +kernel
theorem dX1_balance_17 : decode cX1_balance 17 = .ok (.lstore_n 2, 1) := by decide +kernel
theorem dX1_balance_18 : decode cX1_balance 18 = .ok (.aload_n 0, 1) := by decide +kernel
theorem dX1_balance_19 : decode cX1_balance 19 = .ok (.iconst 0, 1) := by decide +kernel
theorem dX1_balance_20 : decode cX1_balance 20 = .ok (.putfield 63, 3) := by decide +kernel
theorem dX1_balance_23 : decode cX1_balance 23 = .ok (.aload_n 0, 1) := by decide +kernel
theorem dX1_balance_24 : decode cX1_balance 24 = .ok (.iload_n 1, 1) := by decide +kernel
theorem dX1_balance_25 : decode cX1_balance 25 = .ok (.invokevirtual 90, 3) := by decide +kernel
theorem dX1_balance_28 : decode cX1_balance 28 = .ok (.aload_n 0, 1) := by decide +kernel
theorem dX1_balance_29 : decode cX1_balance 29 = .ok (.invokevirtual 84, 3) := by decide +kernel
theorem dX1_balance_32 : decode cX1_balance 32 = .ok (.ifCond .ne 7, 3) := by decide +kernel
theorem dX1_balance_35 : decode cX1_balance 35 = .ok (.ldc2_w 94, 3) := by decide +kernel
theorem dX1_balance_38 : decode cX1_balance 38 = .ok (.lreturn, 1) := by decide +kernel
theorem dX1_balance_39 : decode cX1_balance 39 = .ok (.lload_n 2, 1) := by decide +kernel
theorem dX1_balance_40 : decode cX1_balance 40 = .ok (.invokestatic 51, 3) := by decide +kernel
theorem dX1_balance_43 : decode cX1_balance 43 = .ok (.ifCond .ne 9, 3) := by decide +kernel
theorem dX1_balance_46 : decode cX1_balance 46 = .ok (.ldc2_w 96, 3) := by decide +kernel
theorem dX1_balance_49 : decode cX1_balance 49 = .ok (.goto 21, 3) := by decide +kernel
theorem dX1_balance_52 : decode cX1_balance 52 = .ok (.lload_n 2, 1) := by decide +kernel
theorem dX1_balance_53 : decode cX1_balance 53 = .ok (.invokestatic 55, 3) := by decide +kernel
theorem dX1_balance_56 : decode cX1_balance 56 = .ok (.ifCond .ne 9, 3) := by decide +kernel
theorem dX1_balance_59 : decode cX1_balance 59 = .ok (.ldc2_w 98, 3) := by decide +kernel
theorem dX1_balance_62 : decode cX1_balance 62 = .ok (.goto 8, 3) := by decide +kernel
theorem dX1_balance_65 : decode cX1_balance 65 = .ok (.lload_n 2, 1) := by decide +kernel
theorem dX1_balance_66 : decode cX1_balance 66 = .ok (.invokestatic 100, 3) := by decide +kernel
theorem dX1_balance_69 : decode cX1_balance 69 = .ok (.i2l, 1) := by decide +kernel
theorem dX1_balance_70 : decode cX1_balance 70 = .ok (.lreturn, 1) := by decide +kernel
set_option maxRecDepth 20000 in
theorem ggX1_post_X1_isAccount : GoodIn wsX1_post wsX1_isAccount := goodIn_r _ [7] (by decide +kernel) (by decide +kernel)
set_option maxRecDepth 20000 in
theorem gX1_post_X1_isAccount : GoodIn wsX1_post (va_wsS RX1 76 yX1_isAccount wsX1_isAccount) := goodIn_app (goodIn_of _ (by decide +kernel)) ggX1_post_X1_isAccount
set_option maxRecDepth 20000 in
theorem ggX1_post_X1_balanceOf : GoodIn wsX1_post wsX1_balanceOf := goodIn_r _ [10] (by decide +kernel) (by decide +kernel)
set_option maxRecDepth 20000 in
theorem gX1_post_X1_balanceOf : GoodIn wsX1_post (va_wsS RX1 100 yX1_balanceOf wsX1_balanceOf) := goodIn_app (goodIn_of _ (by decide +kernel)) ggX1_post_X1_balanceOf
set_option maxRecDepth 20000 in
theorem ggX1_post_X1_isOpen : GoodIn wsX1_post wsX1_isOpen := goodIn_r _ [13, 14, 15, 6, 16, 17, 18, 19, 20, 21, 22, 23, 24, 25] (by decide +kernel) (by decide +kernel)
set_option maxRecDepth 20000 in
theorem gX1_post_X1_isOpen : GoodIn wsX1_post (va_wsS RX1 103 yX1_isOpen wsX1_isOpen) := goodIn_app (goodIn_of _ (by decide +kernel)) ggX1_post_X1_isOpen
set_option maxRecDepth 20000 in
theorem ggX1_post_X1_numberOf : GoodIn wsX1_post wsX1_numberOf := goodIn_r _ [24, 25] (by decide +kernel) (by decide +kernel)
set_option maxRecDepth 20000 in
theorem gX1_post_X1_numberOf : GoodIn wsX1_post (va_wsS RX1 55 yX1_numberOf wsX1_numberOf) := goodIn_app (goodIn_of _ (by decide +kernel)) ggX1_post_X1_numberOf
set_option maxRecDepth 20000 in
theorem ggX1_post_X1_isInt : GoodIn wsX1_post wsX1_isInt := goodIn_r _ [28, 29, 30] (by decide +kernel) (by decide +kernel)
set_option maxRecDepth 20000 in
theorem gX1_post_X1_isInt : GoodIn wsX1_post (va_wsS RX1 107 yX1_isInt wsX1_isInt) := goodIn_app (goodIn_of _ (by decide +kernel)) ggX1_post_X1_isInt
set_option maxRecDepth 20000 in
theorem ggX1_post_X1_turn : GoodIn wsX1_post wsX1_turn := goodIn_r _ [34, 35, 3, 36, 37, 54, 55, 56, 57, 58, 59, 60, 61, 62, 63, 64] (by decide +kernel) (by decide +kernel)
set_option maxRecDepth 20000 in
theorem gX1_post_X1_turn : GoodIn wsX1_post (wsV RX1 66 RX1 yX1_turn wsX1_turn) := goodIn_app (goodIn_of _ (by decide +kernel)) ggX1_post_X1_turn
set_option maxRecDepth 20000 in
theorem ggX1_post_X1_wordOf : GoodIn wsX1_post wsX1_wordOf := goodIn_r _ [40, 18, 19, 6, 20, 17, 21] (by decide +kernel) (by decide +kernel)
set_option maxRecDepth 20000 in
theorem gX1_post_X1_wordOf : GoodIn wsX1_post (va_wsS RX1 37 yX1_wordOf wsX1_wordOf) := goodIn_app (goodIn_of _ (by decide +kernel)) ggX1_post_X1_wordOf
set_option maxRecDepth 20000 in
theorem ggX1_post_X1_putAll : GoodIn wsX1_post wsX1_putAll := goodIn_r _ [44, 31, 32, 33, 6, 34, 35, 3, 36, 37, 54, 55, 56, 57, 58, 59, 60, 61, 62, 63, 64] (by decide +kernel) (by decide +kernel)
set_option maxRecDepth 20000 in
theorem gX1_post_X1_putAll : GoodIn wsX1_post (wsV RX1 80 RX1 yX1_putAll wsX1_putAll) := goodIn_app (goodIn_of _ (by decide +kernel)) ggX1_post_X1_putAll
set_option maxRecDepth 20000 in
theorem ggX1_post_X1_works : GoodIn wsX1_post wsX1_works := goodIn_r _ [48, 3, 49, 50, 35, 51, 1, 36, 52, 37, 53, 54, 55, 56, 57, 58, 59, 60, 61, 62, 63, 64] (by decide +kernel) (by decide +kernel)
set_option maxRecDepth 20000 in
theorem gX1_post_X1_works : GoodIn wsX1_post (wsV RX1 84 RX1 yX1_works wsX1_works) := goodIn_app (goodIn_of _ (by decide +kernel)) ggX1_post_X1_works
theorem dX1_post_0 : decode cX1_post 0 = .ok (.iload_n 1, 1) := by decide +kernel
theorem dX1_post_1 : decode cX1_post 1 = .ok (.invokestatic 76, 3) := by decide +kernel
theorem dX1_post_4 : decode cX1_post 4 = .ok (.ifCond .ne 5, 3) := by decide +kernel
theorem dX1_post_7 : decode cX1_post 7 = .ok (.iconst (-1), 1) := by decide +kernel
theorem dX1_post_8 : decode cX1_post 8 = .ok (.ireturn, 1) := by decide +kernel
theorem dX1_post_9 : decode cX1_post 9 = .ok (.aload_n 0, 1) := by decide +kernel
theorem dX1_post_10 : decode cX1_post 10 = .ok (.getfield 7, 3) := by decide +kernel
theorem dX1_post_13 : decode cX1_post 13 = .ok (.iload_n 1, 1) := by decide +kernel
theorem dX1_post_14 : decode cX1_post 14 = .ok (.laload, 1) := by decide +kernel
theorem dX1_post_15 : decode cX1_post 15 = .ok (.lstore_n 3, 1) := by decide +kernel
theorem dX1_post_16 : decode cX1_post 16 = .ok (.lload_n 3, 1) := by decide +kernel
theorem dX1_post_17 : decode cX1_post 17 = .ok (.invokestatic 100, 3) := by decide +kernel
theorem dX1_post_20 : decode cX1_post 20 = .ok (.i2l, 1) := by decide +kernel
theorem dX1_post_21 : decode cX1_post 21 = .ok (.iload_n 2, 1) := by decide +kernel
theorem dX1_post_22 : decode cX1_post 22 = .ok (.i2l, 1) := by decide +kernel
theorem dX1_post_23 : decode cX1_post 23 = .ok (.ladd, 1) := by decide +kernel
theorem dX1_post_24 : decode cX1_post 24 = .ok (.lstore 5, 2) := by decide +kernel
theorem dX1_post_26 : decode cX1_post 26 = .ok (.lload_n 3, 1) := by decide +kernel
theorem dX1_post_27 : decode cX1_post 27 = .ok (.invokestatic 103, 3) := by decide +kernel
theorem dX1_post_30 : decode cX1_post 30 = .ok (.ifCond .eq 24, 3) := by decide +kernel
theorem dX1_post_33 : decode cX1_post 33 = .ok (.lload_n 3, 1) := by decide +kernel
theorem dX1_post_34 : decode cX1_post 34 = .ok (.invokestatic 55, 3) := by decide +kernel
theorem dX1_post_37 : decode cX1_post 37 = .ok (.ldc 106, 2) := by decide +kernel
theorem dX1_post_39 : decode cX1_post 39 = .ok (.if_icmp .ge 15, 3) := by decide +kernel
theorem dX1_post_42 : decode cX1_post 42 = .ok (.lload 5, 2) := by decide +kernel
theorem dX1_post_44 : decode cX1_post 44 = .ok (.invokestatic 107, 3) := by decide +kernel
theorem dX1_post_47 : decode cX1_post 47 = .ok (.ifCond .eq 7, 3) := by decide +kernel
theorem dX1_post_50 : decode cX1_post 50 = .ok (.iconst 1, 1) := by decide +kernel
theorem dX1_post_51 : decode cX1_post 51 = .ok (.goto 4, 3) := by decide +kernel
theorem dX1_post_54 : decode cX1_post 54 = .ok (.iconst 0, 1) := by decide +kernel
theorem dX1_post_55 : decode cX1_post 55 = .ok (.istore 7, 2) := by decide +kernel
theorem dX1_post_57 : decode cX1_post 57 = .ok (.aload_n 0, 1) := by decide +kernel
theorem dX1_post_58 : decode cX1_post 58 = .ok (.iconst 0, 1) := by decide +kernel
theorem dX1_post_59 : decode cX1_post 59 = .ok (.putfield 63, 3) := by decide +kernel
theorem dX1_post_62 : decode cX1_post 62 = .ok (.aload_n 0, 1) := by decide +kernel
theorem dX1_post_63 : decode cX1_post 63 = .ok (.iconst 0, 1) := by decide +kernel
theorem dX1_post_64 : decode cX1_post 64 = .ok (.iconst 0, 1) := by decide +kernel
theorem dX1_post_65 : decode cX1_post 65 = .ok (.iload_n 1, 1) := by decide +kernel
theorem dX1_post_66 : decode cX1_post 66 = .ok (.lconst 0, 1) := by decide +kernel
theorem dX1_post_67 : decode cX1_post 67 = .ok (.invokevirtual 66, 3) := by decide +kernel
theorem dX1_post_70 : decode cX1_post 70 = .ok (.iload 7, 2) := by decide +kernel
theorem dX1_post_72 : decode cX1_post 72 = .ok (.ifCond .eq 23, 3) := by decide +kernel
theorem dX1_post_75 : decode cX1_post 75 = .ok (.aload_n 0, 1) := by decide +kernel
theorem dX1_post_76 : decode cX1_post 76 = .ok (.iload_n 1, 1) := by decide +kernel
theorem dX1_post_77 : decode cX1_post 77 = .ok (.lload 5, 2) := by decide +kernel
theorem dX1_post_79 : decode cX1_post 79 = .ok (.l2i, 1) := by decide +kernel
theorem dX1_post_80 : decode cX1_post 80 = .ok (.lload_n 3, 1) := by decide +kernel
theorem dX1_post_81 : decode cX1_post 81 = .ok (.invokestatic 55, 3) := by decide +kernel
theorem dX1_post_84 : decode cX1_post 84 = .ok (.iconst 1, 1) := by decide +kernel
theorem dX1_post_85 : decode cX1_post 85 = .ok (.iadd, 1) := by decide +kernel
theorem dX1_post_86 : decode cX1_post 86 = .ok (.invokestatic 37, 3) := by decide +kernel
theorem dX1_post_89 : decode cX1_post 89 = .ok (.invokevirtual 80, 3) := by decide +kernel
theorem dX1_post_92 : decode cX1_post 92 = .ok (.goto 11, 3) := by decide +kernel
theorem dX1_post_95 : decode cX1_post 95 = .ok (.aload_n 0, 1) := by decide +kernel
theorem dX1_post_96 : decode cX1_post 96 = .ok (.iconst 1, 1) := by decide +kernel
theorem dX1_post_97 : decode cX1_post 97 = .ok (.iconst 0, 1) := by decide +kernel
theorem dX1_post_98 : decode cX1_post 98 = .ok (.iload_n 1, 1) := by decide +kernel
theorem dX1_post_99 : decode cX1_post 99 = .ok (.lload_n 3, 1) := by decide +kernel
theorem dX1_post_100 : decode cX1_post 100 = .ok (.invokevirtual 66, 3) := by decide +kernel
theorem dX1_post_103 : decode cX1_post 103 = .ok (.aload_n 0, 1) := by decide +kernel
theorem dX1_post_104 : decode cX1_post 104 = .ok (.invokevirtual 84, 3) := by decide +kernel
theorem dX1_post_107 : decode cX1_post 107 = .ok (.ifCond .ne 8, 3) := by decide +kernel
theorem dX1_post_110 : decode cX1_post 110 = .ok (.bipush (-2), 2) := by decide +kernel
theorem dX1_post_112 : decode cX1_post 112 = .ok (.goto 13, 3) := by decide +kernel
theorem dX1_post_115 : decode cX1_post 115 = .ok (.iload 7, 2) := by decide +kernel
theorem dX1_post_117 : decode cX1_post 117 = .ok (.ifCond .eq 7, 3) := by decide +kernel
theorem dX1_post_120 : decode cX1_post 120 = .ok (.iconst 1, 1) := by decide +kernel
theorem dX1_post_121 : decode cX1_post 121 = .ok (.goto 4, 3) := by decide +kernel
theorem dX1_post_124 : decode cX1_post 124 = .ok (.iconst (-1), 1) := by decide +kernel
theorem dX1_post_125 : decode cX1_post 125 = .ok (.ireturn, 1) := by decide +kernel
set_option maxRecDepth 20000 in
theorem ggX1_canBe_X1_isOpen : GoodIn wsX1_canBe wsX1_isOpen := goodIn_r _ [5, 6, 7, 4, 8, 9, 10, 11, 12, 13, 14, 15, 16, 17] (by decide +kernel) (by decide +kernel)
set_option maxRecDepth 20000 in
theorem gX1_canBe_X1_isOpen : GoodIn wsX1_canBe (va_wsS RX1 103 yX1_isOpen wsX1_isOpen) := goodIn_app (goodIn_of _ (by decide +kernel)) ggX1_canBe_X1_isOpen
set_option maxRecDepth 20000 in
theorem ggX1_canBe_X1_numberOf : GoodIn wsX1_canBe wsX1_numberOf := goodIn_r _ [16, 17] (by decide +kernel) (by decide +kernel)
set_option maxRecDepth 20000 in
theorem gX1_canBe_X1_numberOf : GoodIn wsX1_canBe (va_wsS RX1 55 yX1_numberOf wsX1_numberOf) := goodIn_app (goodIn_of _ (by decide +kernel)) ggX1_canBe_X1_numberOf
set_option maxRecDepth 20000 in
theorem ggX1_canBe_X1_isInt : GoodIn wsX1_canBe wsX1_isInt := goodIn_r _ [20, 21, 22] (by decide +kernel) (by decide +kernel)
set_option maxRecDepth 20000 in
theorem gX1_canBe_X1_isInt : GoodIn wsX1_canBe (va_wsS RX1 107 yX1_isInt wsX1_isInt) := goodIn_app (goodIn_of _ (by decide +kernel)) ggX1_canBe_X1_isInt
theorem dX1_canBe_0 : decode cX1_canBe 0 = .ok (.lload_n 0, 1) := by decide +kernel
theorem dX1_canBe_1 : decode cX1_canBe 1 = .ok (.invokestatic 103, 3) := by decide +kernel
theorem dX1_canBe_4 : decode cX1_canBe 4 = .ok (.ifCond .eq 29, 3) := by decide +kernel
theorem dX1_canBe_7 : decode cX1_canBe 7 = .ok (.lload_n 0, 1) := by decide +kernel
theorem dX1_canBe_8 : decode cX1_canBe 8 = .ok (.invokestatic 55, 3) := by decide +kernel
theorem dX1_canBe_11 : decode cX1_canBe 11 = .ok (.ldc 106, 2) := by decide +kernel
theorem dX1_canBe_13 : decode cX1_canBe 13 = .ok (.if_icmp .ge 20, 3) := by decide +kernel
theorem dX1_canBe_16 : decode cX1_canBe 16 = .ok (.lload_n 2, 1) := by decide +kernel
theorem dX1_canBe_17 : decode cX1_canBe 17 = .ok (.lconst 0, 1) := by decide +kernel
theorem dX1_canBe_18 : decode cX1_canBe 18 = .ok (.lcmp, 1) := by decide +kernel
theorem dX1_canBe_19 : decode cX1_canBe 19 = .ok (.ifCond .lt 14, 3) := by decide +kernel
theorem dX1_canBe_22 : decode cX1_canBe 22 = .ok (.lload_n 2, 1) := by decide +kernel
theorem dX1_canBe_23 : decode cX1_canBe 23 = .ok (.invokestatic 107, 3) := by decide +kernel
theorem dX1_canBe_26 : decode cX1_canBe 26 = .ok (.ifCond .eq 7, 3) := by decide +kernel
theorem dX1_canBe_29 : decode cX1_canBe 29 = .ok (.iconst 1, 1) := by decide +kernel
theorem dX1_canBe_30 : decode cX1_canBe 30 = .ok (.goto 4, 3) := by decide +kernel
theorem dX1_canBe_33 : decode cX1_canBe 33 = .ok (.iconst 0, 1) := by decide +kernel
theorem dX1_canBe_34 : decode cX1_canBe 34 = .ok (.ireturn, 1) := by decide +kernel
set_option maxRecDepth 20000 in
theorem ggX1_transfer_X1_isAccount : GoodIn wsX1_transfer wsX1_isAccount := goodIn_r _ [9] (by decide +kernel) (by decide +kernel)
set_option maxRecDepth 20000 in
theorem gX1_transfer_X1_isAccount : GoodIn wsX1_transfer (va_wsS RX1 76 yX1_isAccount wsX1_isAccount) := goodIn_app (goodIn_of _ (by decide +kernel)) ggX1_transfer_X1_isAccount
set_option maxRecDepth 20000 in
theorem ggX1_transfer_X1_balanceOf : GoodIn wsX1_transfer wsX1_balanceOf := goodIn_r _ [12] (by decide +kernel) (by decide +kernel)
set_option maxRecDepth 20000 in
theorem gX1_transfer_X1_balanceOf : GoodIn wsX1_transfer (va_wsS RX1 100 yX1_balanceOf wsX1_balanceOf) := goodIn_app (goodIn_of _ (by decide +kernel)) ggX1_transfer_X1_balanceOf
set_option maxRecDepth 20000 in
theorem ggX1_transfer_X1_canBe : GoodIn wsX1_transfer wsX1_canBe := goodIn_r _ [15, 2, 16, 17, 8, 18, 19, 20, 21, 22, 23, 24, 25, 26, 27, 28, 29, 30, 31, 32, 33, 34, 35] (by decide +kernel) (by decide +kernel)
set_option maxRecDepth 20000 in
theorem gX1_transfer_X1_canBe : GoodIn wsX1_transfer (va_wsS RX1 110 yX1_canBe wsX1_canBe) := goodIn_app (goodIn_of _ (by decide +kernel)) ggX1_transfer_X1_canBe
set_option maxRecDepth 20000 in
theorem ggX1_transfer_X1_isValid : GoodIn wsX1_transfer wsX1_isValid := goodIn_r _ [21, 22, 23, 24, 8, 25, 26] (by decide +kernel) (by decide +kernel)
set_option maxRecDepth 20000 in
theorem gX1_transfer_X1_isValid : GoodIn wsX1_transfer (va_wsS RX1 51 yX1_isValid wsX1_isValid) := goodIn_app (goodIn_of _ (by decide +kernel)) ggX1_transfer_X1_isValid
set_option maxRecDepth 20000 in
theorem ggX1_transfer_X1_numberOf : GoodIn wsX1_transfer wsX1_numberOf := goodIn_r _ [29, 30] (by decide +kernel) (by decide +kernel)
set_option maxRecDepth 20000 in
theorem gX1_transfer_X1_numberOf : GoodIn wsX1_transfer (va_wsS RX1 55 yX1_numberOf wsX1_numberOf) := goodIn_app (goodIn_of _ (by decide +kernel)) ggX1_transfer_X1_numberOf
set_option maxRecDepth 20000 in
theorem ggX1_transfer_X1_look : GoodIn wsX1_transfer wsX1_look := goodIn_r _ [39, 1, 40, 41, 42, 8, 43, 44, 3, 45, 46, 63, 64, 65, 66, 67, 68, 69, 70, 71, 72, 73] (by decide +kernel) (by decide +kernel)
set_option maxRecDepth 20000 in
theorem gX1_transfer_X1_look : GoodIn wsX1_transfer (wsV RX1 90 RX1 yX1_look wsX1_look) := goodIn_app (goodIn_of _ (by decide +kernel)) ggX1_transfer_X1_look
set_option maxRecDepth 20000 in
theorem ggX1_transfer_X1_wordOf : GoodIn wsX1_transfer wsX1_wordOf := goodIn_r _ [49, 23, 24, 8, 25, 22, 26] (by decide +kernel) (by decide +kernel)
set_option maxRecDepth 20000 in
theorem gX1_transfer_X1_wordOf : GoodIn wsX1_transfer (va_wsS RX1 37 yX1_wordOf wsX1_wordOf) := goodIn_app (goodIn_of _ (by decide +kernel)) ggX1_transfer_X1_wordOf
set_option maxRecDepth 20000 in
theorem ggX1_transfer_X1_putAll : GoodIn wsX1_transfer wsX1_putAll := goodIn_r _ [53, 40, 41, 42, 8, 43, 44, 3, 45, 46, 63, 64, 65, 66, 67, 68, 69, 70, 71, 72, 73] (by decide +kernel) (by decide +kernel)
set_option maxRecDepth 20000 in
theorem gX1_transfer_X1_putAll : GoodIn wsX1_transfer (wsV RX1 80 RX1 yX1_putAll wsX1_putAll) := goodIn_app (goodIn_of _ (by decide +kernel)) ggX1_transfer_X1_putAll
set_option maxRecDepth 20000 in
theorem ggX1_transfer_X1_works : GoodIn wsX1_transfer wsX1_works := goodIn_r _ [57, 3, 58, 59, 44, 60, 1, 45, 61, 46, 62, 63, 64, 65, 66, 67, 68, 69, 70, 71, 72, 73] (by decide +kernel) (by decide +kernel)
set_option maxRecDepth 20000 in
theorem gX1_transfer_X1_works : GoodIn wsX1_transfer (wsV RX1 84 RX1 yX1_works wsX1_works) := goodIn_app (goodIn_of _ (by decide +kernel)) ggX1_transfer_X1_works
theorem dX1_transfer_0 : decode cX1_transfer 0 = .ok (.iload_n 1, 1) := by decide +kernel
theorem dX1_transfer_1 : decode cX1_transfer 1 = .ok (.invokestatic 76, 3) := by decide +kernel
theorem dX1_transfer_4 : decode cX1_transfer 4 = .ok (.ifCond .eq 19, 3) := by decide +kernel
theorem dX1_transfer_7 : decode cX1_transfer 7 = .ok (.iload_n 2, 1) := by decide +kernel
theorem dX1_transfer_8 : decode cX1_transfer 8 = .ok (.invokestatic 76, 3) := by decide +kernel
theorem dX1_transfer_11 : decode cX1_transfer 11 = .ok (.ifCond .eq 12, 3) := by decide +kernel
theorem dX1_transfer_14 : decode cX1_transfer 14 = .ok (.iload_n 1, 1) := by decide +kernel
theorem dX1_transfer_15 : decode cX1_transfer 15 = .ok (.iload_n 2, 1) := by decide +kernel
theorem dX1_transfer_16 : decode cX1_transfer 16 = .ok (.if_icmp .eq 7, 3) := by decide +kernel
theorem dX1_transfer_19 : decode cX1_transfer 19 = .ok (.iload_n 3, 1) := by decide +kernel
theorem dX1_transfer_20 : decode cX1_transfer 20 = .ok (.ifCond .ge 5, 3) := by decide +kernel
theorem dX1_transfer_23 : decode cX1_transfer 23 = .ok (.iconst (-1), 1) := by decide +kernel
theorem dX1_transfer_24 : decode cX1_transfer 24 = .ok (.ireturn, 1) := by decide +kernel
theorem dX1_transfer_25 : decode cX1_transfer 25 = .ok (.aload_n 0, 1) := by decide +kernel
theorem dX1_transfer_26 : decode cX1_transfer 26 = .ok (.getfield 7, 3) := by decide +kernel
theorem dX1_transfer_29 : decode cX1_transfer 29 = .ok (.iload_n 1, 1) := by decide +kernel
theorem dX1_transfer_30 : decode cX1_transfer 30 = .ok (.laload, 1) := by decide +kernel
theorem dX1_transfer_31 : decode cX1_transfer 31 = .ok (.lstore 4, 2) := by decide +kernel
theorem dX1_transfer_33 : decode cX1_transfer 33 = .ok (.aload_n 0, 1) := by decide +kernel
theorem dX1_transfer_34 : decode cX1_transfer 34 = .ok (.getfield 7, 3) := by decide +kernel
theorem dX1_transfer_37 : decode cX1_transfer 37 = .ok (.iload_n 2, 1) := by decide +kernel
theorem dX1_transfer_38 : decode cX1_transfer 38 = .ok (.laload, 1) := by decide +kernel
theorem dX1_transfer_39 : decode cX1_transfer 39 = .ok (.lstore 6, 2) := by decide +kernel
theorem dX1_transfer_41 : decode cX1_transfer 41 = .ok (.aload_n 0, 1) := by decide +kernel
theorem dX1_transfer_42 : decode cX1_transfer 42 = .ok (.getfield 7, 3) := by decide +kernel
theorem dX1_transfer_45 : decode cX1_transfer 45 = .ok (.bipush 16, 2) := by decide +kernel
theorem dX1_transfer_47 : decode cX1_transfer 47 = .ok (.laload, 1) := by decide +kernel
theorem dX1_transfer_48 : decode cX1_transfer 48 = .ok (.lstore 8, 2) := by decide +kernel
theorem dX1_transfer_50 : decode cX1_transfer 50 = .ok (.lload 4, 2) := by decide +kernel
theorem dX1_transfer_52 : decode cX1_transfer 52 = .ok (.invokestatic 100, 3) := by decide +kernel
theorem dX1_transfer_55 : decode cX1_transfer 55 = .ok (.i2l, 1) := by decide +kernel
theorem dX1_transfer_56 : decode cX1_transfer 56 = .ok (.iload_n 3, 1) := by decide +kernel
theorem dX1_transfer_57 : decode cX1_transfer 57 = .ok (.i2l, 1) := by decide +kernel
theorem dX1_transfer_58 : decode cX1_transfer 58 = .ok (.lsub, 1) := by decide +kernel
theorem dX1_transfer_59 : decode cX1_transfer 59 = .ok (.lstore 10, 2) := by decide +kernel
theorem dX1_transfer_61 : decode cX1_transfer 61 = .ok (.lload 6, 2) := by decide +kernel
theorem dX1_transfer_63 : decode cX1_transfer 63 = .ok (.invokestatic 100, 3) := by decide +kernel
theorem dX1_transfer_66 : decode cX1_transfer 66 = .ok (.i2l, 1) := by decide +kernel
theorem dX1_transfer_67 : decode cX1_transfer 67 = .ok (.iload_n 3, 1) := by decide +kernel
theorem dX1_transfer_68 : decode cX1_transfer 68 = .ok (.i2l, 1) := by decide +kernel
theorem dX1_transfer_69 : decode cX1_transfer 69 = .ok (.ladd, 1) := by decide +kernel
theorem dX1_transfer_70 : decode cX1_transfer 70 = .ok (.lstore 12, 2) := by decide +kernel
theorem dX1_transfer_72 : decode cX1_transfer 72 = .ok (.lload 4, 2) := by decide +kernel
theorem dX1_transfer_74 : decode cX1_transfer 74 = .ok (.lload 10, 2) := by decide +kernel
theorem dX1_transfer_76 : decode cX1_transfer 76 = .ok (.invokestatic 110, 3) := by decide +kernel
theorem dX1_transfer_79 : decode cX1_transfer 79 = .ok (.ifCond .eq 35, 3) := by decide +kernel
theorem dX1_transfer_82 : decode cX1_transfer 82 = .ok (.lload 6, 2) := by decide +kernel
