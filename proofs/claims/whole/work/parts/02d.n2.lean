theorem dX2_init_0 : decode cX2_init 0 = .ok (.aload_n 0, 1) := by decide +kernel
theorem dX2_init_1 : decode cX2_init 1 = .ok (.invokespecial 3, 3) := by decide +kernel
theorem dX2_init_4 : decode cX2_init 4 = .ok (.aload_n 0, 1) := by decide +kernel
theorem dX2_init_5 : decode cX2_init 5 = .ok (.bipush 80, 2) := by decide +kernel
theorem dX2_init_7 : decode cX2_init 7 = .ok (.newarray .int, 2) := by decide +kernel
theorem dX2_init_9 : decode cX2_init 9 = .ok (.putfield 9, 3) := by decide +kernel
theorem dX2_init_12 : decode cX2_init 12 = .ok (.return_, 1) := by decide +kernel
set_option maxRecDepth 20000 in
theorem ggX2_append_X2_charactersIn : GoodIn wsX2_append wsX2_charactersIn := goodIn_r _ [7, 3] (by decide +kernel) (by decide +kernel)
set_option maxRecDepth 20000 in
theorem gX2_append_X2_charactersIn : GoodIn wsX2_append (va_wsS RX2 15 yX2_charactersIn wsX2_charactersIn) := goodIn_app (goodIn_of _ (by decide +kernel)) ggX2_append_X2_charactersIn
theorem dX2_append_0 : decode cX2_append 0 = .ok (.lload_n 1, 1) := by decide +kernel
theorem dX2_append_1 : decode cX2_append 1 = .ok (.invokestatic 15, 3) := by decide +kernel
theorem dX2_append_4 : decode cX2_append 4 = .ok (.istore_n 3, 1) := by decide +kernel
theorem dX2_append_5 : decode cX2_append 5 = .ok (.iload_n 3, 1) := by decide +kernel
theorem dX2_append_6 : decode cX2_append 6 = .ok (.ifCond .ge 5, 3) := by decide +kernel
theorem dX2_append_9 : decode cX2_append 9 = .ok (.iload_n 3, 1) := by decide +kernel
theorem dX2_append_10 : decode cX2_append 10 = .ok (.ireturn, 1) := by decide +kernel
theorem dX2_append_11 : decode cX2_append 11 = .ok (.aload_n 0, 1) := by decide +kernel
theorem dX2_append_12 : decode cX2_append 12 = .ok (.getfield 19, 3) := by decide +kernel
theorem dX2_append_15 : decode cX2_append 15 = .ok (.iload_n 3, 1) := by decide +kernel
theorem dX2_append_16 : decode cX2_append 16 = .ok (.iadd, 1) := by decide +kernel
theorem dX2_append_17 : decode cX2_append 17 = .ok (.bipush 80, 2) := by decide +kernel
theorem dX2_append_19 : decode cX2_append 19 = .ok (.if_icmp .le 6, 3) := by decide +kernel
theorem dX2_append_22 : decode cX2_append 22 = .ok (.bipush (-4), 2) := by decide +kernel
theorem dX2_append_24 : decode cX2_append 24 = .ok (.ireturn, 1) := by decide +kernel
theorem dX2_append_25 : decode cX2_append 25 = .ok (.iconst 0, 1) := by decide +kernel
theorem dX2_append_26 : decode cX2_append 26 = .ok (.istore 4, 2) := by decide +kernel
theorem dX2_append_28 : decode cX2_append 28 = .ok (.iload 4, 2) := by decide +kernel
theorem dX2_append_30 : decode cX2_append 30 = .ok (.iload_n 3, 1) := by decide +kernel
theorem dX2_append_31 : decode cX2_append 31 = .ok (.if_icmp .ge 37, 3) := by decide +kernel
theorem dX2_append_34 : decode cX2_append 34 = .ok (.aload_n 0, 1) := by decide +kernel
theorem dX2_append_35 : decode cX2_append 35 = .ok (.getfield 9, 3) := by decide +kernel
theorem dX2_append_38 : decode cX2_append 38 = .ok (.aload_n 0, 1) := by decide +kernel
theorem dX2_append_39 : decode cX2_append 39 = .ok (.getfield 19, 3) := by decide +kernel
theorem dX2_append_42 : decode cX2_append 42 = .ok (.iload_n 3, 1) := by decide +kernel
theorem dX2_append_43 : decode cX2_append 43 = .ok (.iadd, 1) := by decide +kernel
theorem dX2_append_44 : decode cX2_append 44 = .ok (.iconst 1, 1) := by decide +kernel
theorem dX2_append_45 : decode cX2_append 45 = .ok (.isub, 1) := by decide +kernel
theorem dX2_append_46 : decode cX2_append 46 = .ok (.iload 4, 2) := by decide +kernel
theorem dX2_append_48 : decode cX2_append 48 = .ok (.isub, 1) := by decide +kernel
theorem dX2_append_49 : decode cX2_append 49 = .ok (.lload_n 1, 1) := by decide +kernel
theorem dX2_append_50 : decode cX2_append 50 = .ok (.bipush 8, 2) := by decide +kernel
theorem dX2_append_52 : decode cX2_append 52 = .ok (.iload 4, 2) := by decide +kernel
theorem dX2_append_54 : decode cX2_append 54 = .ok (.imul, 1) := by decide +kernel
theorem dX2_append_55 : decode cX2_append 55 = .ok (.lushr, 1) := by decide +kernel
theorem dX2_append_56 : decode cX2_append 56 = .ok (.ldc2_w 23, 3) := by decide +kernel
theorem dX2_append_59 : decode cX2_append 59 = .ok (.land, 1) := by decide +kernel
theorem dX2_append_60 : decode cX2_append 60 = .ok (.l2i, 1) := by decide +kernel
theorem dX2_append_61 : decode cX2_append 61 = .ok (.iastore, 1) := by decide +kernel
theorem dX2_append_62 : decode cX2_append 62 = .ok (.iinc 4 1, 3) := by decide +kernel
theorem dX2_append_65 : decode cX2_append 65 = .ok (.goto (-37), 3) := by decide +kernel
theorem dX2_append_68 : decode cX2_append 68 = .ok (.aload_n 0, 1) := by decide +kernel
theorem dX2_append_69 : decode cX2_append 69 = .ok (.dup, 1) := by decide +kernel
theorem dX2_append_70 : decode cX2_append 70 = .ok (.getfield 19, 3) := by decide +kernel
theorem dX2_append_73 : decode cX2_append 73 = .ok (.iload_n 3, 1) := by decide +kernel
theorem dX2_append_74 : decode cX2_append 74 = .ok (.iadd, 1) := by decide +kernel
theorem dX2_append_75 : decode cX2_append 75 = .ok (.putfield 19, 3) := by decide +kernel
theorem dX2_append_78 : decode cX2_append 78 = .ok (.aload_n 0, 1) := by decide +kernel
theorem dX2_append_79 : decode cX2_append 79 = .ok (.getfield 19, 3) := by decide +kernel
theorem dX2_append_82 : decode cX2_append 82 = .ok (.ireturn, 1) := by decide +kernel
theorem dX2_clear_0 : decode cX2_clear 0 = .ok (.aload_n 0, 1) := by decide +kernel
theorem dX2_clear_1 : decode cX2_clear 1 = .ok (.getfield 19, 3) := by decide +kernel
theorem dX2_clear_4 : decode cX2_clear 4 = .ok (.istore_n 1, 1) := by decide +kernel
theorem dX2_clear_5 : decode cX2_clear 5 = .ok (.aload_n 0, 1) := by decide +kernel
theorem dX2_clear_6 : decode cX2_clear 6 = .ok (.iconst 0, 1) := by decide +kernel
theorem dX2_clear_7 : decode cX2_clear 7 = .ok (.putfield 19, 3) := by decide +kernel
theorem dX2_clear_10 : decode cX2_clear 10 = .ok (.iload_n 1, 1) := by decide +kernel
theorem dX2_clear_11 : decode cX2_clear 11 = .ok (.ireturn, 1) := by decide +kernel
set_option maxRecDepth 20000 in
theorem ggX2_firstFault_X2_placeAfter : GoodIn wsX2_firstFault wsX2_placeAfter := goodIn_r _ [6, 7, 8, 5, 9, 10, 11, 12, 13, 14, 15, 16, 17, 18] (by decide +kernel) (by decide +kernel)
set_option maxRecDepth 20000 in
theorem gX2_firstFault_X2_placeAfter : GoodIn wsX2_firstFault (va_wsS RX2 25 yX2_placeAfter wsX2_placeAfter) := goodIn_app (goodIn_of _ (by decide +kernel)) ggX2_firstFault_X2_placeAfter
theorem dX2_firstFault_0 : decode cX2_firstFault 0 = .ok (.iconst 0, 1) := by decide +kernel
theorem dX2_firstFault_1 : decode cX2_firstFault 1 = .ok (.istore_n 1, 1) := by decide +kernel
theorem dX2_firstFault_2 : decode cX2_firstFault 2 = .ok (.iconst 0, 1) := by decide +kernel
theorem dX2_firstFault_3 : decode cX2_firstFault 3 = .ok (.istore_n 2, 1) := by decide +kernel
theorem dX2_firstFault_4 : decode cX2_firstFault 4 = .ok (.iload_n 2, 1) := by decide +kernel
theorem dX2_firstFault_5 : decode cX2_firstFault 5 = .ok (.aload_n 0, 1) := by decide +kernel
theorem dX2_firstFault_6 : decode cX2_firstFault 6 = .ok (.getfield 19, 3) := by decide +kernel
theorem dX2_firstFault_9 : decode cX2_firstFault 9 = .ok (.if_icmp .ge 28, 3) := by decide +kernel
theorem dX2_firstFault_12 : decode cX2_firstFault 12 = .ok (.iload_n 1, 1) := by decide +kernel
theorem dX2_firstFault_13 : decode cX2_firstFault 13 = .ok (.aload_n 0, 1) := by decide +kernel
theorem dX2_firstFault_14 : decode cX2_firstFault 14 = .ok (.getfield 9, 3) := by decide +kernel
theorem dX2_firstFault_17 : decode cX2_firstFault 17 = .ok (.iload_n 2, 1) := by decide +kernel
theorem dX2_firstFault_18 : decode cX2_firstFault 18 = .ok (.iaload, 1) := by decide +kernel
theorem dX2_firstFault_19 : decode cX2_firstFault 19 = .ok (.invokestatic 25, 3) := by decide +kernel
theorem dX2_firstFault_22 : decode cX2_firstFault 22 = .ok (.istore_n 1, 1) := by decide +kernel
theorem dX2_firstFault_23 : decode cX2_firstFault 23 = .ok (.iload_n 1, 1) := by decide +kernel
theorem dX2_firstFault_24 : decode cX2_firstFault 24 = .ok (.bipush 7, 2) := by decide +kernel
theorem dX2_firstFault_26 : decode cX2_firstFault 26 = .ok (.if_icmp .ne 5, 3) := by decide +kernel
theorem dX2_firstFault_29 : decode cX2_firstFault 29 = .ok (.iload_n 2, 1) := by decide +kernel
theorem dX2_firstFault_30 : decode cX2_firstFault 30 = .ok (.ireturn, 1) := by decide +kernel
theorem dX2_firstFault_31 : decode cX2_firstFault 31 = .ok (.iinc 2 1, 3) := by decide +kernel
theorem dX2_firstFault_34 : decode cX2_firstFault 34 = .ok (.goto (-30), 3) := by decide +kernel
theorem dX2_firstFault_37 : decode cX2_firstFault 37 = .ok (.iload_n 1, 1) := by decide +kernel
theorem dX2_firstFault_38 : decode cX2_firstFault 38 = .ok (.iconst 1, 1) := by decide +kernel
theorem dX2_firstFault_39 : decode cX2_firstFault 39 = .ok (.if_icmp .eq 13, 3) := by decide +kernel
theorem dX2_firstFault_42 : decode cX2_firstFault 42 = .ok (.iload_n 1, 1) := by decide +kernel
theorem dX2_firstFault_43 : decode cX2_firstFault 43 = .ok (.iconst 3, 1) := by decide +kernel
theorem dX2_firstFault_44 : decode cX2_firstFault 44 = .ok (.if_icmp .eq 8, 3) := by decide +kernel
theorem dX2_firstFault_47 : decode cX2_firstFault 47 = .ok (.iload_n 1, 1) := by decide +kernel
theorem dX2_firstFault_48 : decode cX2_firstFault 48 = .ok (.iconst 4, 1) := by decide +kernel
theorem dX2_firstFault_49 : decode cX2_firstFault 49 = .ok (.if_icmp .ne 7, 3) := by decide +kernel
theorem dX2_firstFault_52 : decode cX2_firstFault 52 = .ok (.iconst 1, 1) := by decide +kernel
theorem dX2_firstFault_53 : decode cX2_firstFault 53 = .ok (.goto 4, 3) := by decide +kernel
theorem dX2_firstFault_56 : decode cX2_firstFault 56 = .ok (.iconst 0, 1) := by decide +kernel
theorem dX2_firstFault_57 : decode cX2_firstFault 57 = .ok (.istore_n 2, 1) := by decide +kernel
theorem dX2_firstFault_58 : decode cX2_firstFault 58 = .ok (.iload_n 2, 1) := by decide +kernel
theorem dX2_firstFault_59 : decode cX2_firstFault 59 = .ok (.ifCond .eq 8, 3) := by decide +kernel
theorem dX2_firstFault_62 : decode cX2_firstFault 62 = .ok (.bipush (-6), 2) := by decide +kernel
theorem dX2_firstFault_64 : decode cX2_firstFault 64 = .ok (.goto 7, 3) := by decide +kernel
theorem dX2_firstFault_67 : decode cX2_firstFault 67 = .ok (.aload_n 0, 1) := by decide +kernel
theorem dX2_firstFault_68 : decode cX2_firstFault 68 = .ok (.getfield 19, 3) := by decide +kernel
theorem dX2_firstFault_71 : decode cX2_firstFault 71 = .ok (.ireturn, 1) := by decide +kernel
theorem dX2_signAt_0 : decode cX2_signAt 0 = .ok (.iload_n 1, 1) := by decide +kernel
theorem dX2_signAt_1 : decode cX2_signAt 1 = .ok (.ifCond .lt 20, 3) := by decide +kernel
theorem dX2_signAt_4 : decode cX2_signAt 4 = .ok (.iload_n 1, 1) := by decide +kernel
theorem dX2_signAt_5 : decode cX2_signAt 5 = .ok (.aload_n 0, 1) := by decide +kernel
theorem dX2_signAt_6 : decode cX2_signAt 6 = .ok (.getfield 19, 3) := by decide +kernel
theorem dX2_signAt_9 : decode cX2_signAt 9 = .ok (.if_icmp .ge 12, 3) := by decide +kernel
theorem dX2_signAt_12 : decode cX2_signAt 12 = .ok (.aload_n 0, 1) := by decide +kernel
theorem dX2_signAt_13 : decode cX2_signAt 13 = .ok (.getfield 9, 3) := by decide +kernel
theorem dX2_signAt_16 : decode cX2_signAt 16 = .ok (.iload_n 1, 1) := by decide +kernel
theorem dX2_signAt_17 : decode cX2_signAt 17 = .ok (.iaload, 1) := by decide +kernel
theorem dX2_signAt_18 : decode cX2_signAt 18 = .ok (.goto 4, 3) := by decide +kernel
theorem dX2_signAt_21 : decode cX2_signAt 21 = .ok (.iconst 0, 1) := by decide +kernel
theorem dX2_signAt_22 : decode cX2_signAt 22 = .ok (.ireturn, 1) := by decide +kernel
set_option maxRecDepth 20000 in
theorem ggX2_isDigitAt_X2_signAt : GoodIn wsX2_isDigitAt wsX2_signAt := goodIn_r _ [5, 6, 7, 11, 12] (by decide +kernel) (by decide +kernel)
set_option maxRecDepth 20000 in
theorem gX2_isDigitAt_X2_signAt : GoodIn wsX2_isDigitAt (wsV RX2 29 RX2 yX2_signAt wsX2_signAt) := goodIn_app (goodIn_of _ (by decide +kernel)) ggX2_isDigitAt_X2_signAt
set_option maxRecDepth 20000 in
theorem ggX2_isDigitAt_X2_isDigit : GoodIn wsX2_isDigitAt wsX2_isDigit := goodIn_r _ [10] (by decide +kernel) (by decide +kernel)
set_option maxRecDepth 20000 in
theorem gX2_isDigitAt_X2_isDigit : GoodIn wsX2_isDigitAt (va_wsS RX2 33 yX2_isDigit wsX2_isDigit) := goodIn_app (goodIn_of _ (by decide +kernel)) ggX2_isDigitAt_X2_isDigit
theorem dX2_isDigitAt_0 : decode cX2_isDigitAt 0 = .ok (.aload_n 0, 1) := by decide +kernel
theorem dX2_isDigitAt_1 : decode cX2_isDigitAt 1 = .ok (.iload_n 1, 1) := by decide +kernel
theorem dX2_isDigitAt_2 : decode cX2_isDigitAt 2 = .ok (.invokevirtual 29, 3) := by decide +kernel
theorem dX2_isDigitAt_5 : decode cX2_isDigitAt 5 = .ok (.invokestatic 33, 3) := by decide +kernel
theorem dX2_isDigitAt_8 : decode cX2_isDigitAt 8 = .ok (.ireturn, 1) := by decide +kernel
set_option maxRecDepth 20000 in
theorem ggX2_digitAt_X2_signAt : GoodIn wsX2_digitAt wsX2_signAt := goodIn_r _ [5, 6, 7, 8, 9] (by decide +kernel) (by decide +kernel)
set_option maxRecDepth 20000 in
theorem gX2_digitAt_X2_signAt : GoodIn wsX2_digitAt (wsV RX2 29 RX2 yX2_signAt wsX2_signAt) := goodIn_app (goodIn_of _ (by decide +kernel)) ggX2_digitAt_X2_signAt
theorem dX2_digitAt_0 : decode cX2_digitAt 0 = .ok (.aload_n 0, 1) := by decide +kernel
theorem dX2_digitAt_1 : decode cX2_digitAt 1 = .ok (.iload_n 1, 1) := by decide +kernel
theorem dX2_digitAt_2 : decode cX2_digitAt 2 = .ok (.invokevirtual 29, 3) := by decide +kernel
theorem dX2_digitAt_5 : decode cX2_digitAt 5 = .ok (.bipush 48, 2) := by decide +kernel
theorem dX2_digitAt_7 : decode cX2_digitAt 7 = .ok (.isub, 1) := by decide +kernel
theorem dX2_digitAt_8 : decode cX2_digitAt 8 = .ok (.ireturn, 1) := by decide +kernel
set_option maxRecDepth 20000 in
theorem ggX2_numberAt_X2_isDigitAt : GoodIn wsX2_numberAt wsX2_isDigitAt := goodIn_r _ [5, 6, 7, 8, 4, 9, 10, 11, 12, 13, 14, 19, 20] (by decide +kernel) (by decide +kernel)
set_option maxRecDepth 20000 in
theorem gX2_numberAt_X2_isDigitAt : GoodIn wsX2_numberAt (wsV RX2 37 RX2 yX2_isDigitAt wsX2_isDigitAt) := goodIn_app (goodIn_of _ (by decide +kernel)) ggX2_numberAt_X2_isDigitAt
set_option maxRecDepth 20000 in
theorem ggX2_numberAt_X2_digitAt : GoodIn wsX2_numberAt wsX2_digitAt := goodIn_r _ [18, 6, 7, 8, 4, 9, 10, 11, 19, 20] (by decide +kernel) (by decide +kernel)
set_option maxRecDepth 20000 in
theorem gX2_numberAt_X2_digitAt : GoodIn wsX2_numberAt (wsV RX2 40 RX2 yX2_digitAt wsX2_digitAt) := goodIn_app (goodIn_of _ (by decide +kernel)) ggX2_numberAt_X2_digitAt
theorem dX2_numberAt_0 : decode cX2_numberAt 0 = .ok (.iconst 0, 1) := by decide +kernel
theorem dX2_numberAt_1 : decode cX2_numberAt 1 = .ok (.istore_n 2, 1) := by decide +kernel
theorem dX2_numberAt_2 : decode cX2_numberAt 2 = .ok (.iload_n 1, 1) := by decide +kernel
theorem dX2_numberAt_3 : decode cX2_numberAt 3 = .ok (.istore_n 3, 1) := by decide +kernel
theorem dX2_numberAt_4 : decode cX2_numberAt 4 = .ok (.aload_n 0, 1) := by decide +kernel
theorem dX2_numberAt_5 : decode cX2_numberAt 5 = .ok (.iload_n 3, 1) := by decide +kernel
theorem dX2_numberAt_6 : decode cX2_numberAt 6 = .ok (.invokevirtual 37, 3) := by decide +kernel
theorem dX2_numberAt_9 : decode cX2_numberAt 9 = .ok (.ifCond .eq 27, 3) := by decide +kernel
theorem dX2_numberAt_12 : decode cX2_numberAt 12 = .ok (.iload_n 3, 1) := by decide +kernel
theorem dX2_numberAt_13 : decode cX2_numberAt 13 = .ok (.iload_n 1, 1) := by decide +kernel
theorem dX2_numberAt_14 : decode cX2_numberAt 14 = .ok (.iconst 2, 1) := by decide +kernel
theorem dX2_numberAt_15 : decode cX2_numberAt 15 = .ok (.iadd, 1) := by decide +kernel
theorem dX2_numberAt_16 : decode cX2_numberAt 16 = .ok (.if_icmp .ge 20, 3) := by decide +kernel
theorem dX2_numberAt_19 : decode cX2_numberAt 19 = .ok (.iload_n 2, 1) := by decide +kernel
theorem dX2_numberAt_20 : decode cX2_numberAt 20 = .ok (.bipush 10, 2) := by decide +kernel
theorem dX2_numberAt_22 : decode cX2_numberAt 22 = .ok (.imul, 1) := by decide +kernel
theorem dX2_numberAt_23 : decode cX2_numberAt 23 = .ok (.aload_n 0, 1) := by decide +kernel
theorem dX2_numberAt_24 : decode cX2_numberAt 24 = .ok (.iload_n 3, 1) := by decide +kernel
theorem dX2_numberAt_25 : decode cX2_numberAt 25 = .ok (.invokevirtual 40, 3) := by decide +kernel
theorem dX2_numberAt_28 : decode cX2_numberAt 28 = .ok (.iadd, 1) := by decide +kernel
theorem dX2_numberAt_29 : decode cX2_numberAt 29 = .ok (.istore_n 2, 1) := by decide +kernel
theorem dX2_numberAt_30 : decode cX2_numberAt 30 = .ok (.iinc 3 1, 3) := by decide +kernel
theorem dX2_numberAt_33 : decode cX2_numberAt 33 = .ok (.goto (-29), 3) := by decide +kernel
theorem dX2_numberAt_36 : decode cX2_numberAt 36 = .ok (.iload_n 2, 1) := by decide +kernel
theorem dX2_numberAt_37 : decode cX2_numberAt 37 = .ok (.ireturn, 1) := by decide +kernel
set_option maxRecDepth 20000 in
theorem ggX2_ordersAt_X2_signAt : GoodIn wsX2_ordersAt wsX2_signAt := goodIn_r _ [5, 6, 7, 23, 24] (by decide +kernel) (by decide +kernel)
set_option maxRecDepth 20000 in
theorem gX2_ordersAt_X2_signAt : GoodIn wsX2_ordersAt (wsV RX2 29 RX2 yX2_signAt wsX2_signAt) := goodIn_app (goodIn_of _ (by decide +kernel)) ggX2_ordersAt_X2_signAt
set_option maxRecDepth 20000 in
theorem ggX2_ordersAt_X2_isDigitAt : GoodIn wsX2_ordersAt wsX2_isDigitAt := goodIn_r _ [11, 1, 2, 3, 4, 5, 6, 7, 12, 13, 14, 23, 24] (by decide +kernel) (by decide +kernel)
set_option maxRecDepth 20000 in
theorem gX2_ordersAt_X2_isDigitAt : GoodIn wsX2_ordersAt (wsV RX2 37 RX2 yX2_isDigitAt wsX2_isDigitAt) := goodIn_app (goodIn_of _ (by decide +kernel)) ggX2_ordersAt_X2_isDigitAt
set_option maxRecDepth 20000 in
theorem ggX2_ordersAt_X2_numberAt : GoodIn wsX2_ordersAt wsX2_numberAt := goodIn_r _ [18, 8, 9, 10, 4, 11, 1, 2, 3, 5, 6, 7, 12, 13, 14, 19, 20, 21, 22, 23, 24] (by decide +kernel) (by decide +kernel)
set_option maxRecDepth 20000 in
theorem gX2_ordersAt_X2_numberAt : GoodIn wsX2_ordersAt (wsV RX2 43 RX2 yX2_numberAt wsX2_numberAt) := goodIn_app (goodIn_of _ (by decide +kernel)) ggX2_ordersAt_X2_numberAt
theorem dX2_ordersAt_0 : decode cX2_ordersAt 0 = .ok (.iload_n 1, 1) := by decide +kernel
theorem dX2_ordersAt_1 : decode cX2_ordersAt 1 = .ok (.ifCond .le 17, 3) := by decide +kernel
theorem dX2_ordersAt_4 : decode cX2_ordersAt 4 = .ok (.aload_n 0, 1) := by decide +kernel
theorem dX2_ordersAt_5 : decode cX2_ordersAt 5 = .ok (.iload_n 1, 1) := by decide +kernel
theorem dX2_ordersAt_6 : decode cX2_ordersAt 6 = .ok (.iconst 1, 1) := by decide +kernel
theorem dX2_ordersAt_7 : decode cX2_ordersAt 7 = .ok (.isub, 1) := by decide +kernel
theorem dX2_ordersAt_8 : decode cX2_ordersAt 8 = .ok (.invokevirtual 29, 3) := by decide +kernel
theorem dX2_ordersAt_11 : decode cX2_ordersAt 11 = .ok (.bipush 59, 2) := by decide +kernel
theorem dX2_ordersAt_13 : decode cX2_ordersAt 13 = .ok (.if_icmp .eq 5, 3) := by decide +kernel
theorem dX2_ordersAt_16 : decode cX2_ordersAt 16 = .ok (.iconst 0, 1) := by decide +kernel
theorem dX2_ordersAt_17 : decode cX2_ordersAt 17 = .ok (.ireturn, 1) := by decide +kernel
theorem dX2_ordersAt_18 : decode cX2_ordersAt 18 = .ok (.aload_n 0, 1) := by decide +kernel
theorem dX2_ordersAt_19 : decode cX2_ordersAt 19 = .ok (.iload_n 1, 1) := by decide +kernel
theorem dX2_ordersAt_20 : decode cX2_ordersAt 20 = .ok (.invokevirtual 29, 3) := by decide +kernel
theorem dX2_ordersAt_23 : decode cX2_ordersAt 23 = .ok (.bipush 99, 2) := by decide +kernel
theorem dX2_ordersAt_25 : decode cX2_ordersAt 25 = .ok (.if_icmp .ne 23, 3) := by decide +kernel
theorem dX2_ordersAt_28 : decode cX2_ordersAt 28 = .ok (.aload_n 0, 1) := by decide +kernel
theorem dX2_ordersAt_29 : decode cX2_ordersAt 29 = .ok (.iload_n 1, 1) := by decide +kernel
theorem dX2_ordersAt_30 : decode cX2_ordersAt 30 = .ok (.iconst 1, 1) := by decide +kernel
theorem dX2_ordersAt_31 : decode cX2_ordersAt 31 = .ok (.iadd, 1) := by decide +kernel
theorem dX2_ordersAt_32 : decode cX2_ordersAt 32 = .ok (.invokevirtual 37, 3) := by decide +kernel
theorem dX2_ordersAt_35 : decode cX2_ordersAt 35 = .ok (.ifCond .eq 13, 3) := by decide +kernel
theorem dX2_ordersAt_38 : decode cX2_ordersAt 38 = .ok (.aload_n 0, 1) := by decide +kernel
theorem dX2_ordersAt_39 : decode cX2_ordersAt 39 = .ok (.iload_n 1, 1) := by decide +kernel
theorem dX2_ordersAt_40 : decode cX2_ordersAt 40 = .ok (.iconst 1, 1) := by decide +kernel
theorem dX2_ordersAt_41 : decode cX2_ordersAt 41 = .ok (.iadd, 1) := by decide +kernel
theorem dX2_ordersAt_42 : decode cX2_ordersAt 42 = .ok (.invokevirtual 43, 3) := by decide +kernel
theorem dX2_ordersAt_45 : decode cX2_ordersAt 45 = .ok (.goto 4, 3) := by decide +kernel
theorem dX2_ordersAt_48 : decode cX2_ordersAt 48 = .ok (.iconst 1, 1) := by decide +kernel
theorem dX2_ordersAt_49 : decode cX2_ordersAt 49 = .ok (.ireturn, 1) := by decide +kernel
theorem dX2_charactersIn_0 : decode cX2_charactersIn 0 = .ok (.lload_n 0, 1) := by decide +kernel
theorem dX2_charactersIn_1 : decode cX2_charactersIn 1 = .ok (.lstore_n 2, 1) := by decide +kernel
theorem dX2_charactersIn_2 : decode cX2_charactersIn 2 = .ok (.iconst 0, 1) := by decide +kernel
theorem dX2_charactersIn_3 : decode cX2_charactersIn 3 = .ok (.istore 4, 2) := by decide +kernel
theorem dX2_charactersIn_5 : decode cX2_charactersIn 5 = .ok (.lload_n 2, 1) := by decide +kernel
theorem dX2_charactersIn_6 : decode cX2_charactersIn 6 = .ok (.lconst 0, 1) := by decide +kernel
theorem dX2_charactersIn_7 : decode cX2_charactersIn 7 = .ok (.lcmp, 1) := by decide +kernel
theorem dX2_charactersIn_8 : decode cX2_charactersIn 8 = .ok (.ifCond .eq 46, 3) := by decide +kernel
theorem dX2_charactersIn_11 : decode cX2_charactersIn 11 = .ok (.iload 4, 2) := by decide +kernel
theorem dX2_charactersIn_13 : decode cX2_charactersIn 13 = .ok (.bipush 8, 2) := by decide +kernel
theorem dX2_charactersIn_15 : decode cX2_charactersIn 15 = .ok (.if_icmp .ge 39, 3) := by decide +kernel
theorem dX2_charactersIn_18 : decode cX2_charactersIn 18 = .ok (.lload_n 2, 1) := by decide +kernel
theorem dX2_charactersIn_19 : decode cX2_charactersIn 19 = .ok (.ldc2_w 23, 3) := by decide +kernel
theorem dX2_charactersIn_22 : decode cX2_charactersIn 22 = .ok (.land, 1) := by decide +kernel
theorem dX2_charactersIn_23 : decode cX2_charactersIn 23 = .ok (.l2i, 1) := by decide +kernel
theorem dX2_charactersIn_24 : decode cX2_charactersIn 24 = .ok (.istore 5, 2) := by decide +kernel
theorem dX2_charactersIn_26 : decode cX2_charactersIn 26 = .ok (.iload 5, 2) := by decide +kernel
theorem dX2_charactersIn_28 : decode cX2_charactersIn 28 = .ok (.bipush 33, 2) := by decide +kernel
theorem dX2_charactersIn_30 : decode cX2_charactersIn 30 = .ok (.if_icmp .lt 10, 3) := by decide +kernel
theorem dX2_charactersIn_33 : decode cX2_charactersIn 33 = .ok (.iload 5, 2) := by decide +kernel
theorem dX2_charactersIn_35 : decode cX2_charactersIn 35 = .ok (.bipush 126, 2) := by decide +kernel
theorem dX2_charactersIn_37 : decode cX2_charactersIn 37 = .ok (.if_icmp .le 6, 3) := by decide +kernel
theorem dX2_charactersIn_40 : decode cX2_charactersIn 40 = .ok (.bipush (-2), 2) := by decide +kernel
theorem dX2_charactersIn_42 : decode cX2_charactersIn 42 = .ok (.ireturn, 1) := by decide +kernel
theorem dX2_charactersIn_43 : decode cX2_charactersIn 43 = .ok (.lload_n 2, 1) := by decide +kernel
theorem dX2_charactersIn_44 : decode cX2_charactersIn 44 = .ok (.bipush 8, 2) := by decide +kernel
theorem dX2_charactersIn_46 : decode cX2_charactersIn 46 = .ok (.lushr, 1) := by decide +kernel
theorem dX2_charactersIn_47 : decode cX2_charactersIn 47 = .ok (.lstore_n 2, 1) := by decide +kernel
theorem dX2_charactersIn_48 : decode cX2_charactersIn 48 = .ok (.iinc 4 1, 3) := by decide +kernel
theorem dX2_charactersIn_51 : decode cX2_charactersIn 51 = .ok (.goto (-46), 3) := by decide +kernel
theorem dX2_charactersIn_54 : decode cX2_charactersIn 54 = .ok (.iload 4, 2) := by decide +kernel
theorem dX2_charactersIn_56 : decode cX2_charactersIn 56 = .ok (.ifCond .ne 8, 3) := by decide +kernel
theorem dX2_charactersIn_59 : decode cX2_charactersIn 59 = .ok (.bipush (-2), 2) := by decide +kernel
theorem dX2_charactersIn_61 : decode cX2_charactersIn 61 = .ok (.goto 5, 3) := by decide +kernel
theorem dX2_charactersIn_64 : decode cX2_charactersIn 64 = .ok (.iload 4, 2) := by decide +kernel
theorem dX2_charactersIn_66 : decode cX2_charactersIn 66 = .ok (.ireturn, 1) := by decide +kernel
theorem dX2_isDigit_0 : decode cX2_isDigit 0 = .ok (.iload_n 0, 1) := by decide +kernel
theorem dX2_isDigit_1 : decode cX2_isDigit 1 = .ok (.bipush 48, 2) := by decide +kernel
theorem dX2_isDigit_3 : decode cX2_isDigit 3 = .ok (.if_icmp .lt 13, 3) := by decide +kernel
theorem dX2_isDigit_6 : decode cX2_isDigit 6 = .ok (.iload_n 0, 1) := by decide +kernel
theorem dX2_isDigit_7 : decode cX2_isDigit 7 = .ok (.bipush 57, 2) := by decide +kernel
theorem dX2_isDigit_9 : decode cX2_isDigit 9 = .ok (.if_icmp .gt 7, 3) := by decide +kernel
theorem dX2_isDigit_12 : decode cX2_isDigit 12 = .ok (.iconst 1, 1) := by decide +kernel
theorem dX2_isDigit_13 : decode cX2_isDigit 13 = .ok (.goto 4, 3) := by decide +kernel
theorem dX2_isDigit_16 : decode cX2_isDigit 16 = .ok (.iconst 0, 1) := by decide +kernel
theorem dX2_isDigit_17 : decode cX2_isDigit 17 = .ok (.ireturn, 1) := by decide +kernel
set_option maxRecDepth 20000 in
theorem ggX2_placeAfter_X2_afterLetter : GoodIn wsX2_placeAfter wsX2_afterLetter := goodIn_r _ [4] (by decide +kernel) (by decide +kernel)
set_option maxRecDepth 20000 in
theorem gX2_placeAfter_X2_afterLetter : GoodIn wsX2_placeAfter (va_wsS RX2 46 yX2_afterLetter wsX2_afterLetter) := goodIn_app (goodIn_of _ (by decide +kernel)) ggX2_placeAfter_X2_afterLetter
set_option maxRecDepth 20000 in
theorem ggX2_placeAfter_X2_isDigit : GoodIn wsX2_placeAfter wsX2_isDigit := goodIn_r _ [7] (by decide +kernel) (by decide +kernel)
set_option maxRecDepth 20000 in
theorem gX2_placeAfter_X2_isDigit : GoodIn wsX2_placeAfter (va_wsS RX2 33 yX2_isDigit wsX2_isDigit) := goodIn_app (goodIn_of _ (by decide +kernel)) ggX2_placeAfter_X2_isDigit
set_option maxRecDepth 20000 in
theorem ggX2_placeAfter_X2_afterFirstDigit : GoodIn wsX2_placeAfter wsX2_afterFirstDigit := goodIn_r _ [10, 5, 6, 3, 7] (by decide +kernel) (by decide +kernel)
set_option maxRecDepth 20000 in
theorem gX2_placeAfter_X2_afterFirstDigit : GoodIn wsX2_placeAfter (va_wsS RX2 49 yX2_afterFirstDigit wsX2_afterFirstDigit) := goodIn_app (goodIn_of _ (by decide +kernel)) ggX2_placeAfter_X2_afterFirstDigit
set_option maxRecDepth 20000 in
theorem ggX2_placeAfter_X2_afterOrder : GoodIn wsX2_placeAfter wsX2_afterOrder := goodIn_r _ [13] (by decide +kernel) (by decide +kernel)
set_option maxRecDepth 20000 in
theorem gX2_placeAfter_X2_afterOrder : GoodIn wsX2_placeAfter (va_wsS RX2 52 yX2_afterOrder wsX2_afterOrder) := goodIn_app (goodIn_of _ (by decide +kernel)) ggX2_placeAfter_X2_afterOrder
theorem dX2_placeAfter_0 : decode cX2_placeAfter 0 = .ok (.iload_n 0, 1) := by decide +kernel
theorem dX2_placeAfter_1 : decode cX2_placeAfter 1 = .ok (.tableswitch 121 0 6 #[43, 48, 67, 72, 88, 93, 108], 43) := by decide +kernel
theorem dX2_placeAfter_44 : decode cX2_placeAfter 44 = .ok (.iload_n 1, 1) := by decide +kernel
theorem dX2_placeAfter_45 : decode cX2_placeAfter 45 = .ok (.invokestatic 46, 3) := by decide +kernel
theorem dX2_placeAfter_48 : decode cX2_placeAfter 48 = .ok (.ireturn, 1) := by decide +kernel
theorem dX2_placeAfter_49 : decode cX2_placeAfter 49 = .ok (.iload_n 1, 1) := by decide +kernel
theorem dX2_placeAfter_50 : decode cX2_placeAfter 50 = .ok (.invokestatic 33, 3) := by decide +kernel
theorem dX2_placeAfter_53 : decode cX2_placeAfter 53 = .ok (.ifCond .eq 10, 3) := by decide +kernel
theorem dX2_placeAfter_56 : decode cX2_placeAfter 56 = .ok (.iload_n 1, 1) := by decide +kernel
theorem dX2_placeAfter_57 : decode cX2_placeAfter 57 = .ok (.invokestatic 49, 3) := by decide +kernel
theorem dX2_placeAfter_60 : decode cX2_placeAfter 60 = .ok (.goto 7, 3) := by decide +kernel
theorem dX2_placeAfter_63 : decode cX2_placeAfter 63 = .ok (.iload_n 1, 1) := by decide +kernel
theorem dX2_placeAfter_64 : decode cX2_placeAfter 64 = .ok (.invokestatic 52, 3) := by decide +kernel
theorem dX2_placeAfter_67 : decode cX2_placeAfter 67 = .ok (.ireturn, 1) := by decide +kernel
theorem dX2_placeAfter_68 : decode cX2_placeAfter 68 = .ok (.iload_n 1, 1) := by decide +kernel
theorem dX2_placeAfter_69 : decode cX2_placeAfter 69 = .ok (.invokestatic 49, 3) := by decide +kernel
theorem dX2_placeAfter_72 : decode cX2_placeAfter 72 = .ok (.ireturn, 1) := by decide +kernel
theorem dX2_placeAfter_73 : decode cX2_placeAfter 73 = .ok (.iload_n 1, 1) := by decide +kernel
theorem dX2_placeAfter_74 : decode cX2_placeAfter 74 = .ok (.invokestatic 33, 3) := by decide +kernel
theorem dX2_placeAfter_77 : decode cX2_placeAfter 77 = .ok (.ifCond .eq 7, 3) := by decide +kernel
theorem dX2_placeAfter_80 : decode cX2_placeAfter 80 = .ok (.iconst 4, 1) := by decide +kernel
theorem dX2_placeAfter_81 : decode cX2_placeAfter 81 = .ok (.goto 7, 3) := by decide +kernel
theorem dX2_placeAfter_84 : decode cX2_placeAfter 84 = .ok (.iload_n 1, 1) := by decide +kernel
theorem dX2_placeAfter_85 : decode cX2_placeAfter 85 = .ok (.invokestatic 52, 3) := by decide +kernel
theorem dX2_placeAfter_88 : decode cX2_placeAfter 88 = .ok (.ireturn, 1) := by decide +kernel
theorem dX2_placeAfter_89 : decode cX2_placeAfter 89 = .ok (.iload_n 1, 1) := by decide +kernel
theorem dX2_placeAfter_90 : decode cX2_placeAfter 90 = .ok (.invokestatic 52, 3) := by decide +kernel
theorem dX2_placeAfter_93 : decode cX2_placeAfter 93 = .ok (.ireturn, 1) := by decide +kernel
theorem dX2_placeAfter_94 : decode cX2_placeAfter 94 = .ok (.iload_n 1, 1) := by decide +kernel
theorem dX2_placeAfter_95 : decode cX2_placeAfter 95 = .ok (.invokestatic 33, 3) := by decide +kernel
theorem dX2_placeAfter_98 : decode cX2_placeAfter 98 = .ok (.ifCond .eq 8, 3) := by decide +kernel
theorem dX2_placeAfter_101 : decode cX2_placeAfter 101 = .ok (.bipush 6, 2) := by decide +kernel
theorem dX2_placeAfter_103 : decode cX2_placeAfter 103 = .ok (.goto 5, 3) := by decide +kernel
theorem dX2_placeAfter_106 : decode cX2_placeAfter 106 = .ok (.bipush 7, 2) := by decide +kernel
theorem dX2_placeAfter_108 : decode cX2_placeAfter 108 = .ok (.ireturn, 1) := by decide +kernel
theorem dX2_placeAfter_109 : decode cX2_placeAfter 109 = .ok (.iload_n 1, 1) := by decide +kernel
theorem dX2_placeAfter_110 : decode cX2_placeAfter 110 = .ok (.bipush 61, 2) := by decide +kernel
theorem dX2_placeAfter_112 : decode cX2_placeAfter 112 = .ok (.if_icmp .ne 7, 3) := by decide +kernel
theorem dX2_placeAfter_115 : decode cX2_placeAfter 115 = .ok (.iconst 2, 1) := by decide +kernel
theorem dX2_placeAfter_116 : decode cX2_placeAfter 116 = .ok (.goto 5, 3) := by decide +kernel
theorem dX2_placeAfter_119 : decode cX2_placeAfter 119 = .ok (.bipush 7, 2) := by decide +kernel
theorem dX2_placeAfter_121 : decode cX2_placeAfter 121 = .ok (.ireturn, 1) := by decide +kernel
theorem dX2_placeAfter_122 : decode cX2_placeAfter 122 = .ok (.bipush 7, 2) := by decide +kernel
theorem dX2_placeAfter_124 : decode cX2_placeAfter 124 = .ok (.ireturn, 1) := by decide +kernel
theorem dX2_afterLetter_0 : decode cX2_afterLetter 0 = .ok (.iload_n 0, 1) := by decide +kernel
theorem dX2_afterLetter_1 : decode cX2_afterLetter 1 = .ok (.lookupswitch 59 #[(99, 51), (100, 55), (114, 57), (116, 53), (119, 57)], 51) := by decide +kernel
theorem dX2_afterLetter_52 : decode cX2_afterLetter 52 = .ok (.iconst 1, 1) := by decide +kernel
theorem dX2_afterLetter_53 : decode cX2_afterLetter 53 = .ok (.ireturn, 1) := by decide +kernel
theorem dX2_afterLetter_54 : decode cX2_afterLetter 54 = .ok (.iconst 2, 1) := by decide +kernel
theorem dX2_afterLetter_55 : decode cX2_afterLetter 55 = .ok (.ireturn, 1) := by decide +kernel
theorem dX2_afterLetter_56 : decode cX2_afterLetter 56 = .ok (.iconst 5, 1) := by decide +kernel
theorem dX2_afterLetter_57 : decode cX2_afterLetter 57 = .ok (.ireturn, 1) := by decide +kernel
theorem dX2_afterLetter_58 : decode cX2_afterLetter 58 = .ok (.iconst 4, 1) := by decide +kernel
theorem dX2_afterLetter_59 : decode cX2_afterLetter 59 = .ok (.ireturn, 1) := by decide +kernel
theorem dX2_afterLetter_60 : decode cX2_afterLetter 60 = .ok (.bipush 7, 2) := by decide +kernel
theorem dX2_afterLetter_62 : decode cX2_afterLetter 62 = .ok (.ireturn, 1) := by decide +kernel
set_option maxRecDepth 20000 in
theorem ggX2_afterFirstDigit_X2_isDigit : GoodIn wsX2_afterFirstDigit wsX2_isDigit := goodIn_r _ [4] (by decide +kernel) (by decide +kernel)
set_option maxRecDepth 20000 in
theorem gX2_afterFirstDigit_X2_isDigit : GoodIn wsX2_afterFirstDigit (va_wsS RX2 33 yX2_isDigit wsX2_isDigit) := goodIn_app (goodIn_of _ (by decide +kernel)) ggX2_afterFirstDigit_X2_isDigit
theorem dX2_afterFirstDigit_0 : decode cX2_afterFirstDigit 0 = .ok (.iload_n 0, 1) := by decide +kernel
theorem dX2_afterFirstDigit_1 : decode cX2_afterFirstDigit 1 = .ok (.invokestatic 33, 3) := by decide +kernel
theorem dX2_afterFirstDigit_4 : decode cX2_afterFirstDigit 4 = .ok (.ifCond .ne 6, 3) := by decide +kernel
theorem dX2_afterFirstDigit_7 : decode cX2_afterFirstDigit 7 = .ok (.bipush 7, 2) := by decide +kernel
theorem dX2_afterFirstDigit_9 : decode cX2_afterFirstDigit 9 = .ok (.ireturn, 1) := by decide +kernel
theorem dX2_afterFirstDigit_10 : decode cX2_afterFirstDigit 10 = .ok (.iload_n 0, 1) := by decide +kernel
theorem dX2_afterFirstDigit_11 : decode cX2_afterFirstDigit 11 = .ok (.bipush 48, 2) := by decide +kernel
theorem dX2_afterFirstDigit_13 : decode cX2_afterFirstDigit 13 = .ok (.if_icmp .ne 7, 3) := by decide +kernel
theorem dX2_afterFirstDigit_16 : decode cX2_afterFirstDigit 16 = .ok (.iconst 4, 1) := by decide +kernel
theorem dX2_afterFirstDigit_17 : decode cX2_afterFirstDigit 17 = .ok (.goto 4, 3) := by decide +kernel
theorem dX2_afterFirstDigit_20 : decode cX2_afterFirstDigit 20 = .ok (.iconst 3, 1) := by decide +kernel
theorem dX2_afterFirstDigit_21 : decode cX2_afterFirstDigit 21 = .ok (.ireturn, 1) := by decide +kernel
theorem dX2_afterOrder_0 : decode cX2_afterOrder 0 = .ok (.iload_n 0, 1) := by decide +kernel
theorem dX2_afterOrder_1 : decode cX2_afterOrder 1 = .ok (.bipush 59, 2) := by decide +kernel
theorem dX2_afterOrder_3 : decode cX2_afterOrder 3 = .ok (.if_icmp .ne 7, 3) := by decide +kernel
theorem dX2_afterOrder_6 : decode cX2_afterOrder 6 = .ok (.iconst 0, 1) := by decide +kernel
theorem dX2_afterOrder_7 : decode cX2_afterOrder 7 = .ok (.goto 5, 3) := by decide +kernel
theorem dX2_afterOrder_10 : decode cX2_afterOrder 10 = .ok (.bipush 7, 2) := by decide +kernel
theorem dX2_afterOrder_12 : decode cX2_afterOrder 12 = .ok (.ireturn, 1) := by decide +kernel
