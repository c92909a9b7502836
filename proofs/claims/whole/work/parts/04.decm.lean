theorem dX6_init_0 : decode cX6_init 0 = .ok (.aload_n 0, 1) := by decide +kernel
theorem dX6_init_1 : decode cX6_init 1 = .ok (.invokespecial 1, 3) := by decide +kernel
theorem dX6_init_4 : decode cX6_init 4 = .ok (.aload_n 0, 1) := by decide +kernel
theorem dX6_init_5 : decode cX6_init 5 = .ok (.ldc 7, 2) := by decide +kernel
theorem dX6_init_7 : decode cX6_init 7 = .ok (.newarray .long, 2) := by decide +kernel
theorem dX6_init_9 : decode cX6_init 9 = .ok (.putfield 8, 3) := by decide +kernel
theorem dX6_init_12 : decode cX6_init 12 = .ok (.aload_n 0, 1) := by decide +kernel
theorem dX6_init_13 : decode cX6_init 13 = .ok (.sipush 400, 3) := by decide +kernel
theorem dX6_init_16 : decode cX6_init 16 = .ok (.newarray .int, 2) := by decide +kernel
theorem dX6_init_18 : decode cX6_init 18 = .ok (.putfield 14, 3) := by decide +kernel
theorem dX6_init_21 : decode cX6_init 21 = .ok (.aload_n 0, 1) := by decide +kernel
theorem dX6_init_22 : decode cX6_init 22 = .ok (.sipush 320, 3) := by decide +kernel
theorem dX6_init_25 : decode cX6_init 25 = .ok (.newarray .int, 2) := by decide +kernel
theorem dX6_init_27 : decode cX6_init 27 = .ok (.putfield 18, 3) := by decide +kernel
theorem dX6_init_30 : decode cX6_init 30 = .ok (.return_, 1) := by decide +kernel
theorem dX6_isPlace_0 : decode cX6_isPlace 0 = .ok (.iload_n 0, 1) := by decide +kernel
theorem dX6_isPlace_1 : decode cX6_isPlace 1 = .ok (.ifCond .lt 14, 3) := by decide +kernel
theorem dX6_isPlace_4 : decode cX6_isPlace 4 = .ok (.iload_n 0, 1) := by decide +kernel
theorem dX6_isPlace_5 : decode cX6_isPlace 5 = .ok (.sipush 400, 3) := by decide +kernel
theorem dX6_isPlace_8 : decode cX6_isPlace 8 = .ok (.if_icmp .ge 7, 3) := by decide +kernel
theorem dX6_isPlace_11 : decode cX6_isPlace 11 = .ok (.iconst 1, 1) := by decide +kernel
theorem dX6_isPlace_12 : decode cX6_isPlace 12 = .ok (.goto 4, 3) := by decide +kernel
theorem dX6_isPlace_15 : decode cX6_isPlace 15 = .ok (.iconst 0, 1) := by decide +kernel
theorem dX6_isPlace_16 : decode cX6_isPlace 16 = .ok (.ireturn, 1) := by decide +kernel
set_option maxRecDepth 20000 in
theorem ggX6_in_X6_isPlace : GoodIn wsX6_in wsX6_isPlace := goodIn_r _ [5] (by decide +kernel) (by decide +kernel)
set_option maxRecDepth 20000 in
theorem gX6_in_X6_isPlace : GoodIn wsX6_in (va_wsS RX6 21 yX6_isPlace wsX6_isPlace) := goodIn_app (goodIn_of _ (by decide +kernel)) ggX6_in_X6_isPlace
theorem dX6_in_0 : decode cX6_in 0 = .ok (.iload_n 1, 1) := by decide +kernel
theorem dX6_in_1 : decode cX6_in 1 = .ok (.invokestatic 21, 3) := by decide +kernel
theorem dX6_in_4 : decode cX6_in 4 = .ok (.ifCond .eq 14, 3) := by decide +kernel
theorem dX6_in_7 : decode cX6_in 7 = .ok (.aload_n 0, 1) := by decide +kernel
theorem dX6_in_8 : decode cX6_in 8 = .ok (.getfield 14, 3) := by decide +kernel
theorem dX6_in_11 : decode cX6_in 11 = .ok (.iload_n 1, 1) := by decide +kernel
theorem dX6_in_12 : decode cX6_in 12 = .ok (.iaload, 1) := by decide +kernel
theorem dX6_in_13 : decode cX6_in 13 = .ok (.iconst 1, 1) := by decide +kernel
theorem dX6_in_14 : decode cX6_in 14 = .ok (.isub, 1) := by decide +kernel
theorem dX6_in_15 : decode cX6_in 15 = .ok (.goto 4, 3) := by decide +kernel
theorem dX6_in_18 : decode cX6_in 18 = .ok (.iconst (-1), 1) := by decide +kernel
theorem dX6_in_19 : decode cX6_in 19 = .ok (.ireturn, 1) := by decide +kernel
theorem dX6_kind_0 : decode cX6_kind 0 = .ok (.aload_n 0, 1) := by decide +kernel
theorem dX6_kind_1 : decode cX6_kind 1 = .ok (.getfield 8, 3) := by decide +kernel
theorem dX6_kind_4 : decode cX6_kind 4 = .ok (.iload_n 1, 1) := by decide +kernel
theorem dX6_kind_5 : decode cX6_kind 5 = .ok (.laload, 1) := by decide +kernel
theorem dX6_kind_6 : decode cX6_kind 6 = .ok (.bipush 32, 2) := by decide +kernel
theorem dX6_kind_8 : decode cX6_kind 8 = .ok (.lshr, 1) := by decide +kernel
theorem dX6_kind_9 : decode cX6_kind 9 = .ok (.l2i, 1) := by decide +kernel
theorem dX6_kind_10 : decode cX6_kind 10 = .ok (.ireturn, 1) := by decide +kernel
theorem dX6_low_0 : decode cX6_low 0 = .ok (.aload_n 0, 1) := by decide +kernel
theorem dX6_low_1 : decode cX6_low 1 = .ok (.getfield 8, 3) := by decide +kernel
theorem dX6_low_4 : decode cX6_low 4 = .ok (.iload_n 1, 1) := by decide +kernel
theorem dX6_low_5 : decode cX6_low 5 = .ok (.laload, 1) := by decide +kernel
theorem dX6_low_6 : decode cX6_low 6 = .ok (.l2i, 1) := by decide +kernel
theorem dX6_low_7 : decode cX6_low 7 = .ok (.ireturn, 1) := by decide +kernel
set_option maxRecDepth 20000 in
theorem ggX6_isThing_X6_kind : GoodIn wsX6_isThing wsX6_kind := goodIn_r _ [5, 6, 7, 8, 9, 10, 11, 12, 13, 14, 15, 16] (by decide +kernel) (by decide +kernel)
set_option maxRecDepth 20000 in
theorem gX6_isThing_X6_kind : GoodIn wsX6_isThing (wsV RX6 25 RX6 yX6_kind wsX6_kind) := goodIn_app (goodIn_of _ (by decide +kernel)) ggX6_isThing_X6_kind
theorem dX6_isThing_0 : decode cX6_isThing 0 = .ok (.aload_n 0, 1) := by decide +kernel
theorem dX6_isThing_1 : decode cX6_isThing 1 = .ok (.iload_n 1, 1) := by decide +kernel
theorem dX6_isThing_2 : decode cX6_isThing 2 = .ok (.invokevirtual 25, 3) := by decide +kernel
theorem dX6_isThing_5 : decode cX6_isThing 5 = .ok (.bipush 7, 2) := by decide +kernel
theorem dX6_isThing_7 : decode cX6_isThing 7 = .ok (.if_icmp .lt 7, 3) := by decide +kernel
theorem dX6_isThing_10 : decode cX6_isThing 10 = .ok (.iconst 1, 1) := by decide +kernel
theorem dX6_isThing_11 : decode cX6_isThing 11 = .ok (.goto 4, 3) := by decide +kernel
theorem dX6_isThing_14 : decode cX6_isThing 14 = .ok (.iconst 0, 1) := by decide +kernel
theorem dX6_isThing_15 : decode cX6_isThing 15 = .ok (.ireturn, 1) := by decide +kernel
set_option maxRecDepth 20000 in
theorem ggX6_isOfObjects_X6_kind : GoodIn wsX6_isOfObjects wsX6_kind := goodIn_r _ [5, 6, 7, 8, 9, 10, 11, 12, 13, 14, 15, 16] (by decide +kernel) (by decide +kernel)
set_option maxRecDepth 20000 in
theorem gX6_isOfObjects_X6_kind : GoodIn wsX6_isOfObjects (wsV RX6 25 RX6 yX6_kind wsX6_kind) := goodIn_app (goodIn_of _ (by decide +kernel)) ggX6_isOfObjects_X6_kind
theorem dX6_isOfObjects_0 : decode cX6_isOfObjects 0 = .ok (.aload_n 0, 1) := by decide +kernel
theorem dX6_isOfObjects_1 : decode cX6_isOfObjects 1 = .ok (.iload_n 1, 1) := by decide +kernel
theorem dX6_isOfObjects_2 : decode cX6_isOfObjects 2 = .ok (.invokevirtual 25, 3) := by decide +kernel
theorem dX6_isOfObjects_5 : decode cX6_isOfObjects 5 = .ok (.iconst 4, 1) := by decide +kernel
theorem dX6_isOfObjects_6 : decode cX6_isOfObjects 6 = .ok (.if_icmp .lt 17, 3) := by decide +kernel
theorem dX6_isOfObjects_9 : decode cX6_isOfObjects 9 = .ok (.aload_n 0, 1) := by decide +kernel
theorem dX6_isOfObjects_10 : decode cX6_isOfObjects 10 = .ok (.iload_n 1, 1) := by decide +kernel
theorem dX6_isOfObjects_11 : decode cX6_isOfObjects 11 = .ok (.invokevirtual 25, 3) := by decide +kernel
theorem dX6_isOfObjects_14 : decode cX6_isOfObjects 14 = .ok (.bipush 6, 2) := by decide +kernel
theorem dX6_isOfObjects_16 : decode cX6_isOfObjects 16 = .ok (.if_icmp .gt 7, 3) := by decide +kernel
theorem dX6_isOfObjects_19 : decode cX6_isOfObjects 19 = .ok (.iconst 1, 1) := by decide +kernel
theorem dX6_isOfObjects_20 : decode cX6_isOfObjects 20 = .ok (.goto 4, 3) := by decide +kernel
theorem dX6_isOfObjects_23 : decode cX6_isOfObjects 23 = .ok (.iconst 0, 1) := by decide +kernel
theorem dX6_isOfObjects_24 : decode cX6_isOfObjects 24 = .ok (.ireturn, 1) := by decide +kernel
set_option maxRecDepth 20000 in
theorem ggX6_isElement_X6_low : GoodIn wsX6_isElement wsX6_low := goodIn_r _ [5, 6, 7, 8, 9, 10, 11, 12, 13, 14, 15, 16] (by decide +kernel) (by decide +kernel)
set_option maxRecDepth 20000 in
theorem gX6_isElement_X6_low : GoodIn wsX6_isElement (wsV RX6 29 RX6 yX6_low wsX6_low) := goodIn_app (goodIn_of _ (by decide +kernel)) ggX6_isElement_X6_low
theorem dX6_isElement_0 : decode cX6_isElement 0 = .ok (.iload_n 2, 1) := by decide +kernel
theorem dX6_isElement_1 : decode cX6_isElement 1 = .ok (.ifCond .lt 16, 3) := by decide +kernel
theorem dX6_isElement_4 : decode cX6_isElement 4 = .ok (.iload_n 2, 1) := by decide +kernel
theorem dX6_isElement_5 : decode cX6_isElement 5 = .ok (.aload_n 0, 1) := by decide +kernel
theorem dX6_isElement_6 : decode cX6_isElement 6 = .ok (.iload_n 1, 1) := by decide +kernel
theorem dX6_isElement_7 : decode cX6_isElement 7 = .ok (.invokevirtual 29, 3) := by decide +kernel
theorem dX6_isElement_10 : decode cX6_isElement 10 = .ok (.if_icmp .ge 7, 3) := by decide +kernel
theorem dX6_isElement_13 : decode cX6_isElement 13 = .ok (.iconst 1, 1) := by decide +kernel
theorem dX6_isElement_14 : decode cX6_isElement 14 = .ok (.goto 4, 3) := by decide +kernel
theorem dX6_isElement_17 : decode cX6_isElement 17 = .ok (.iconst 0, 1) := by decide +kernel
theorem dX6_isElement_18 : decode cX6_isElement 18 = .ok (.ireturn, 1) := by decide +kernel
theorem dX6_object_0 : decode cX6_object 0 = .ok (.aload_n 0, 1) := by decide +kernel
theorem dX6_object_1 : decode cX6_object 1 = .ok (.getfield 8, 3) := by decide +kernel
theorem dX6_object_4 : decode cX6_object 4 = .ok (.iload_n 1, 1) := by decide +kernel
theorem dX6_object_5 : decode cX6_object 5 = .ok (.iconst 1, 1) := by decide +kernel
theorem dX6_object_6 : decode cX6_object 6 = .ok (.iadd, 1) := by decide +kernel
theorem dX6_object_7 : decode cX6_object 7 = .ok (.iload_n 2, 1) := by decide +kernel
theorem dX6_object_8 : decode cX6_object 8 = .ok (.iadd, 1) := by decide +kernel
theorem dX6_object_9 : decode cX6_object 9 = .ok (.laload, 1) := by decide +kernel
theorem dX6_object_10 : decode cX6_object 10 = .ok (.l2i, 1) := by decide +kernel
theorem dX6_object_11 : decode cX6_object 11 = .ok (.iconst 1, 1) := by decide +kernel
theorem dX6_object_12 : decode cX6_object 12 = .ok (.isub, 1) := by decide +kernel
theorem dX6_object_13 : decode cX6_object 13 = .ok (.ireturn, 1) := by decide +kernel
theorem dX6_lowestEmpty_0 : decode cX6_lowestEmpty 0 = .ok (.iconst 0, 1) := by decide +kernel
theorem dX6_lowestEmpty_1 : decode cX6_lowestEmpty 1 = .ok (.istore_n 1, 1) := by decide +kernel
theorem dX6_lowestEmpty_2 : decode cX6_lowestEmpty 2 = .ok (.iload_n 1, 1) := by decide +kernel
theorem dX6_lowestEmpty_3 : decode cX6_lowestEmpty 3 = .ok (.sipush 400, 3) := by decide +kernel
theorem dX6_lowestEmpty_6 : decode cX6_lowestEmpty 6 = .ok (.if_icmp .ge 18, 3) := by decide +kernel
theorem dX6_lowestEmpty_9 : decode cX6_lowestEmpty 9 = .ok (.aload_n 0, 1) := by decide +kernel
theorem dX6_lowestEmpty_10 : decode cX6_lowestEmpty 10 = .ok (.getfield 14, 3) := by decide +kernel
theorem dX6_lowestEmpty_13 : decode cX6_lowestEmpty 13 = .ok (.iload_n 1, 1) := by decide +kernel
theorem dX6_lowestEmpty_14 : decode cX6_lowestEmpty 14 = .ok (.iaload, 1) := by decide +kernel
theorem dX6_lowestEmpty_15 : decode cX6_lowestEmpty 15 = .ok (.ifCond .le 9, 3) := by decide +kernel
theorem dX6_lowestEmpty_18 : decode cX6_lowestEmpty 18 = .ok (.iinc 1 1, 3) := by decide +kernel
theorem dX6_lowestEmpty_21 : decode cX6_lowestEmpty 21 = .ok (.goto (-19), 3) := by decide +kernel
theorem dX6_lowestEmpty_24 : decode cX6_lowestEmpty 24 = .ok (.iload_n 1, 1) := by decide +kernel
theorem dX6_lowestEmpty_25 : decode cX6_lowestEmpty 25 = .ok (.sipush 400, 3) := by decide +kernel
theorem dX6_lowestEmpty_28 : decode cX6_lowestEmpty 28 = .ok (.if_icmp .ge 7, 3) := by decide +kernel
theorem dX6_lowestEmpty_31 : decode cX6_lowestEmpty 31 = .ok (.iload_n 1, 1) := by decide +kernel
theorem dX6_lowestEmpty_32 : decode cX6_lowestEmpty 32 = .ok (.goto 4, 3) := by decide +kernel
theorem dX6_lowestEmpty_35 : decode cX6_lowestEmpty 35 = .ok (.iconst (-1), 1) := by decide +kernel
theorem dX6_lowestEmpty_36 : decode cX6_lowestEmpty 36 = .ok (.ireturn, 1) := by decide +kernel
theorem dX6_stand_0 : decode cX6_stand 0 = .ok (.aload_n 0, 1) := by decide +kernel
theorem dX6_stand_1 : decode cX6_stand 1 = .ok (.getfield 8, 3) := by decide +kernel
theorem dX6_stand_4 : decode cX6_stand 4 = .ok (.aload_n 0, 1) := by decide +kernel
theorem dX6_stand_5 : decode cX6_stand 5 = .ok (.getfield 32, 3) := by decide +kernel
theorem dX6_stand_8 : decode cX6_stand 8 = .ok (.iload_n 2, 1) := by decide +kernel
theorem dX6_stand_9 : decode cX6_stand 9 = .ok (.i2l, 1) := by decide +kernel
theorem dX6_stand_10 : decode cX6_stand 10 = .ok (.bipush 32, 2) := by decide +kernel
theorem dX6_stand_12 : decode cX6_stand 12 = .ok (.lshl, 1) := by decide +kernel
theorem dX6_stand_13 : decode cX6_stand 13 = .ok (.iload_n 3, 1) := by decide +kernel
theorem dX6_stand_14 : decode cX6_stand 14 = .ok (.i2l, 1) := by decide +kernel
theorem dX6_stand_15 : decode cX6_stand 15 = .ok (.ldc2_w 36, 3) := by decide +kernel
theorem dX6_stand_18 : decode cX6_stand 18 = .ok (.land, 1) := by decide +kernel
theorem dX6_stand_19 : decode cX6_stand 19 = .ok (.lor, 1) := by decide +kernel
theorem dX6_stand_20 : decode cX6_stand 20 = .ok (.lastore, 1) := by decide +kernel
theorem dX6_stand_21 : decode cX6_stand 21 = .ok (.aload_n 0, 1) := by decide +kernel
theorem dX6_stand_22 : decode cX6_stand 22 = .ok (.getfield 14, 3) := by decide +kernel
theorem dX6_stand_25 : decode cX6_stand 25 = .ok (.iload_n 1, 1) := by decide +kernel
theorem dX6_stand_26 : decode cX6_stand 26 = .ok (.aload_n 0, 1) := by decide +kernel
theorem dX6_stand_27 : decode cX6_stand 27 = .ok (.getfield 32, 3) := by decide +kernel
theorem dX6_stand_30 : decode cX6_stand 30 = .ok (.iconst 1, 1) := by decide +kernel
theorem dX6_stand_31 : decode cX6_stand 31 = .ok (.iadd, 1) := by decide +kernel
theorem dX6_stand_32 : decode cX6_stand 32 = .ok (.iastore, 1) := by decide +kernel
theorem dX6_stand_33 : decode cX6_stand 33 = .ok (.aload_n 0, 1) := by decide +kernel
theorem dX6_stand_34 : decode cX6_stand 34 = .ok (.dup, 1) := by decide +kernel
theorem dX6_stand_35 : decode cX6_stand 35 = .ok (.getfield 32, 3) := by decide +kernel
theorem dX6_stand_38 : decode cX6_stand 38 = .ok (.iconst 1, 1) := by decide +kernel
theorem dX6_stand_39 : decode cX6_stand 39 = .ok (.iadd, 1) := by decide +kernel
theorem dX6_stand_40 : decode cX6_stand 40 = .ok (.putfield 32, 3) := by decide +kernel
theorem dX6_stand_43 : decode cX6_stand 43 = .ok (.iload_n 1, 1) := by decide +kernel
theorem dX6_stand_44 : decode cX6_stand 44 = .ok (.ireturn, 1) := by decide +kernel
set_option maxRecDepth 20000 in
theorem ggX6_row_X6_lowestEmpty : GoodIn wsX6_row wsX6_lowestEmpty := goodIn_r _ [7, 8, 15, 16, 17, 18, 19, 20, 21, 22, 23, 24] (by decide +kernel) (by decide +kernel)
set_option maxRecDepth 20000 in
theorem gX6_row_X6_lowestEmpty : GoodIn wsX6_row (wsV RX6 38 RX6 yX6_lowestEmpty wsX6_lowestEmpty) := goodIn_app (goodIn_of _ (by decide +kernel)) ggX6_row_X6_lowestEmpty
set_option maxRecDepth 20000 in
theorem ggX6_row_X6_stand : GoodIn wsX6_row wsX6_stand := goodIn_r _ [12, 13, 2, 14, 8, 15, 16, 17, 18, 19, 20, 21, 22, 23, 24] (by decide +kernel) (by decide +kernel)
set_option maxRecDepth 20000 in
theorem gX6_row_X6_stand : GoodIn wsX6_row (wsV RX6 42 RX6 yX6_stand wsX6_stand) := goodIn_app (goodIn_of _ (by decide +kernel)) ggX6_row_X6_stand
theorem dX6_row_0 : decode cX6_row 0 = .ok (.iload_n 1, 1) := by decide +kernel
theorem dX6_row_1 : decode cX6_row 1 = .ok (.ifCond .lt 9, 3) := by decide +kernel
theorem dX6_row_4 : decode cX6_row 4 = .ok (.iload_n 1, 1) := by decide +kernel
theorem dX6_row_5 : decode cX6_row 5 = .ok (.bipush 6, 2) := by decide +kernel
theorem dX6_row_7 : decode cX6_row 7 = .ok (.if_icmp .le 5, 3) := by decide +kernel
theorem dX6_row_10 : decode cX6_row 10 = .ok (.iconst (-1), 1) := by decide +kernel
theorem dX6_row_11 : decode cX6_row 11 = .ok (.ireturn, 1) := by decide +kernel
theorem dX6_row_12 : decode cX6_row 12 = .ok (.aload_n 0, 1) := by decide +kernel
theorem dX6_row_13 : decode cX6_row 13 = .ok (.invokevirtual 38, 3) := by decide +kernel
theorem dX6_row_16 : decode cX6_row 16 = .ok (.istore_n 3, 1) := by decide +kernel
theorem dX6_row_17 : decode cX6_row 17 = .ok (.iload_n 2, 1) := by decide +kernel
theorem dX6_row_18 : decode cX6_row 18 = .ok (.sipush 2000, 3) := by decide +kernel
theorem dX6_row_21 : decode cX6_row 21 = .ok (.if_icmp .gt 18, 3) := by decide +kernel
theorem dX6_row_24 : decode cX6_row 24 = .ok (.iload_n 3, 1) := by decide +kernel
theorem dX6_row_25 : decode cX6_row 25 = .ok (.ifCond .lt 14, 3) := by decide +kernel
theorem dX6_row_28 : decode cX6_row 28 = .ok (.iload_n 2, 1) := by decide +kernel
theorem dX6_row_29 : decode cX6_row 29 = .ok (.ldc 7, 2) := by decide +kernel
theorem dX6_row_31 : decode cX6_row 31 = .ok (.aload_n 0, 1) := by decide +kernel
theorem dX6_row_32 : decode cX6_row 32 = .ok (.getfield 32, 3) := by decide +kernel
theorem dX6_row_35 : decode cX6_row 35 = .ok (.isub, 1) := by decide +kernel
theorem dX6_row_36 : decode cX6_row 36 = .ok (.if_icmp .lt 6, 3) := by decide +kernel
theorem dX6_row_39 : decode cX6_row 39 = .ok (.bipush (-2), 2) := by decide +kernel
theorem dX6_row_41 : decode cX6_row 41 = .ok (.ireturn, 1) := by decide +kernel
theorem dX6_row_42 : decode cX6_row 42 = .ok (.iload_n 2, 1) := by decide +kernel
theorem dX6_row_43 : decode cX6_row 43 = .ok (.ifCond .ge 6, 3) := by decide +kernel
theorem dX6_row_46 : decode cX6_row 46 = .ok (.bipush (-3), 2) := by decide +kernel
theorem dX6_row_48 : decode cX6_row 48 = .ok (.ireturn, 1) := by decide +kernel
theorem dX6_row_49 : decode cX6_row 49 = .ok (.aload_n 0, 1) := by decide +kernel
theorem dX6_row_50 : decode cX6_row 50 = .ok (.iload_n 3, 1) := by decide +kernel
theorem dX6_row_51 : decode cX6_row 51 = .ok (.iload_n 1, 1) := by decide +kernel
theorem dX6_row_52 : decode cX6_row 52 = .ok (.iload_n 2, 1) := by decide +kernel
theorem dX6_row_53 : decode cX6_row 53 = .ok (.invokevirtual 42, 3) := by decide +kernel
theorem dX6_row_56 : decode cX6_row 56 = .ok (.pop, 1) := by decide +kernel
theorem dX6_row_57 : decode cX6_row 57 = .ok (.aload_n 0, 1) := by decide +kernel
theorem dX6_row_58 : decode cX6_row 58 = .ok (.dup, 1) := by decide +kernel
theorem dX6_row_59 : decode cX6_row 59 = .ok (.getfield 32, 3) := by decide +kernel
theorem dX6_row_62 : decode cX6_row 62 = .ok (.iload_n 2, 1) := by decide +kernel
theorem dX6_row_63 : decode cX6_row 63 = .ok (.iadd, 1) := by decide +kernel
theorem dX6_row_64 : decode cX6_row 64 = .ok (.putfield 32, 3) := by decide +kernel
theorem dX6_row_67 : decode cX6_row 67 = .ok (.iload_n 3, 1) := by decide +kernel
theorem dX6_row_68 : decode cX6_row 68 = .ok (.ireturn, 1) := by decide +kernel
set_option maxRecDepth 20000 in
theorem ggX6_thing_X6_lowestEmpty : GoodIn wsX6_thing wsX6_lowestEmpty := goodIn_r _ [7, 8, 15, 16, 17, 18, 19, 20, 21, 22, 23, 24] (by decide +kernel) (by decide +kernel)
set_option maxRecDepth 20000 in
theorem gX6_thing_X6_lowestEmpty : GoodIn wsX6_thing (wsV RX6 38 RX6 yX6_lowestEmpty wsX6_lowestEmpty) := goodIn_app (goodIn_of _ (by decide +kernel)) ggX6_thing_X6_lowestEmpty
set_option maxRecDepth 20000 in
theorem ggX6_thing_X6_stand : GoodIn wsX6_thing wsX6_stand := goodIn_r _ [12, 13, 1, 14, 8, 15, 16, 17, 18, 19, 20, 21, 22, 23, 24] (by decide +kernel) (by decide +kernel)
set_option maxRecDepth 20000 in
theorem gX6_thing_X6_stand : GoodIn wsX6_thing (wsV RX6 42 RX6 yX6_stand wsX6_stand) := goodIn_app (goodIn_of _ (by decide +kernel)) ggX6_thing_X6_stand
theorem dX6_thing_0 : decode cX6_thing 0 = .ok (.aload_n 0, 1) := by decide +kernel
theorem dX6_thing_1 : decode cX6_thing 1 = .ok (.invokevirtual 38, 3) := by decide +kernel
theorem dX6_thing_4 : decode cX6_thing 4 = .ok (.istore_n 3, 1) := by decide +kernel
theorem dX6_thing_5 : decode cX6_thing 5 = .ok (.iload_n 3, 1) := by decide +kernel
theorem dX6_thing_6 : decode cX6_thing 6 = .ok (.ifCond .lt 12, 3) := by decide +kernel
theorem dX6_thing_9 : decode cX6_thing 9 = .ok (.aload_n 0, 1) := by decide +kernel
theorem dX6_thing_10 : decode cX6_thing 10 = .ok (.getfield 32, 3) := by decide +kernel
theorem dX6_thing_13 : decode cX6_thing 13 = .ok (.ldc 7, 2) := by decide +kernel
theorem dX6_thing_15 : decode cX6_thing 15 = .ok (.if_icmp .ne 6, 3) := by decide +kernel
theorem dX6_thing_18 : decode cX6_thing 18 = .ok (.bipush (-2), 2) := by decide +kernel
theorem dX6_thing_20 : decode cX6_thing 20 = .ok (.ireturn, 1) := by decide +kernel
theorem dX6_thing_21 : decode cX6_thing 21 = .ok (.aload_n 0, 1) := by decide +kernel
theorem dX6_thing_22 : decode cX6_thing 22 = .ok (.iload_n 3, 1) := by decide +kernel
theorem dX6_thing_23 : decode cX6_thing 23 = .ok (.iload_n 1, 1) := by decide +kernel
theorem dX6_thing_24 : decode cX6_thing 24 = .ok (.iload_n 2, 1) := by decide +kernel
theorem dX6_thing_25 : decode cX6_thing 25 = .ok (.invokevirtual 42, 3) := by decide +kernel
theorem dX6_thing_28 : decode cX6_thing 28 = .ok (.ireturn, 1) := by decide +kernel
set_option maxRecDepth 20000 in
theorem ggX6_mark_X6_thing : GoodIn wsX6_mark wsX6_thing := goodIn_r _ [5, 6, 7, 8, 9, 10, 4, 11, 12, 13, 14, 15, 16, 17, 18, 19, 20, 21, 22, 23, 24, 25, 26, 27, 28] (by decide +kernel) (by decide +kernel)
set_option maxRecDepth 20000 in
theorem gX6_mark_X6_thing : GoodIn wsX6_mark (wsV RX6 46 RX6 yX6_thing wsX6_thing) := goodIn_app (goodIn_of _ (by decide +kernel)) ggX6_mark_X6_thing
theorem dX6_mark_0 : decode cX6_mark 0 = .ok (.aload_n 0, 1) := by decide +kernel
theorem dX6_mark_1 : decode cX6_mark 1 = .ok (.bipush 7, 2) := by decide +kernel
theorem dX6_mark_3 : decode cX6_mark 3 = .ok (.iload_n 1, 1) := by decide +kernel
theorem dX6_mark_4 : decode cX6_mark 4 = .ok (.invokevirtual 46, 3) := by decide +kernel
theorem dX6_mark_7 : decode cX6_mark 7 = .ok (.ireturn, 1) := by decide +kernel
set_option maxRecDepth 20000 in
theorem ggX6_seal_X6_thing : GoodIn wsX6_seal wsX6_thing := goodIn_r _ [5, 6, 7, 8, 9, 10, 4, 11, 12, 13, 14, 15, 16, 17, 18, 19, 20, 21, 22, 23, 24, 25, 26, 27, 28] (by decide +kernel) (by decide +kernel)
set_option maxRecDepth 20000 in
theorem gX6_seal_X6_thing : GoodIn wsX6_seal (wsV RX6 46 RX6 yX6_thing wsX6_thing) := goodIn_app (goodIn_of _ (by decide +kernel)) ggX6_seal_X6_thing
theorem dX6_seal_0 : decode cX6_seal 0 = .ok (.aload_n 0, 1) := by decide +kernel
theorem dX6_seal_1 : decode cX6_seal 1 = .ok (.bipush 8, 2) := by decide +kernel
theorem dX6_seal_3 : decode cX6_seal 3 = .ok (.iload_n 1, 1) := by decide +kernel
theorem dX6_seal_4 : decode cX6_seal 4 = .ok (.invokevirtual 46, 3) := by decide +kernel
theorem dX6_seal_7 : decode cX6_seal 7 = .ok (.ireturn, 1) := by decide +kernel
set_option maxRecDepth 20000 in
theorem ggX6_kindOf_X6_in : GoodIn wsX6_kindOf wsX6_in := goodIn_r _ [5, 6, 7, 8, 4, 9, 15, 16, 17, 18, 19, 20, 21, 22, 23, 24] (by decide +kernel) (by decide +kernel)
set_option maxRecDepth 20000 in
theorem gX6_kindOf_X6_in : GoodIn wsX6_kindOf (wsV RX6 50 RX6 yX6_in wsX6_in) := goodIn_app (goodIn_of _ (by decide +kernel)) ggX6_kindOf_X6_in
set_option maxRecDepth 20000 in
theorem ggX6_kindOf_X6_kind : GoodIn wsX6_kindOf wsX6_kind := goodIn_r _ [13, 14, 15, 16, 17, 18, 19, 20, 21, 22, 23, 24] (by decide +kernel) (by decide +kernel)
set_option maxRecDepth 20000 in
theorem gX6_kindOf_X6_kind : GoodIn wsX6_kindOf (wsV RX6 25 RX6 yX6_kind wsX6_kind) := goodIn_app (goodIn_of _ (by decide +kernel)) ggX6_kindOf_X6_kind
theorem dX6_kindOf_0 : decode cX6_kindOf 0 = .ok (.aload_n 0, 1) := by decide +kernel
theorem dX6_kindOf_1 : decode cX6_kindOf 1 = .ok (.iload_n 1, 1) := by decide +kernel
theorem dX6_kindOf_2 : decode cX6_kindOf 2 = .ok (.invokevirtual 50, 3) := by decide +kernel
theorem dX6_kindOf_5 : decode cX6_kindOf 5 = .ok (.ifCond .ge 7, 3) := by decide +kernel
theorem dX6_kindOf_8 : decode cX6_kindOf 8 = .ok (.iconst (-1), 1) := by decide +kernel
theorem dX6_kindOf_9 : decode cX6_kindOf 9 = .ok (.goto 12, 3) := by decide +kernel
theorem dX6_kindOf_12 : decode cX6_kindOf 12 = .ok (.aload_n 0, 1) := by decide +kernel
theorem dX6_kindOf_13 : decode cX6_kindOf 13 = .ok (.aload_n 0, 1) := by decide +kernel
theorem dX6_kindOf_14 : decode cX6_kindOf 14 = .ok (.iload_n 1, 1) := by decide +kernel
theorem dX6_kindOf_15 : decode cX6_kindOf 15 = .ok (.invokevirtual 50, 3) := by decide +kernel
theorem dX6_kindOf_18 : decode cX6_kindOf 18 = .ok (.invokevirtual 25, 3) := by decide +kernel
theorem dX6_kindOf_21 : decode cX6_kindOf 21 = .ok (.ireturn, 1) := by decide +kernel
set_option maxRecDepth 20000 in
theorem ggX6_length_X6_in : GoodIn wsX6_length wsX6_in := goodIn_r _ [5, 6, 7, 8, 4, 9, 23, 24, 25, 26, 27, 28, 29, 30, 31, 32] (by decide +kernel) (by decide +kernel)
set_option maxRecDepth 20000 in
theorem gX6_length_X6_in : GoodIn wsX6_length (wsV RX6 50 RX6 yX6_in wsX6_in) := goodIn_app (goodIn_of _ (by decide +kernel)) ggX6_length_X6_in
set_option maxRecDepth 20000 in
theorem ggX6_length_X6_isThing : GoodIn wsX6_length wsX6_isThing := goodIn_r _ [13, 14, 15, 16, 4, 17, 18, 23, 24, 25, 26, 27, 28, 29, 30, 31, 32] (by decide +kernel) (by decide +kernel)
set_option maxRecDepth 20000 in
theorem gX6_length_X6_isThing : GoodIn wsX6_length (wsV RX6 53 RX6 yX6_isThing wsX6_isThing) := goodIn_app (goodIn_of _ (by decide +kernel)) ggX6_length_X6_isThing
set_option maxRecDepth 20000 in
theorem ggX6_length_X6_low : GoodIn wsX6_length wsX6_low := goodIn_r _ [22, 18, 23, 24, 25, 26, 27, 28, 29, 30, 31, 32] (by decide +kernel) (by decide +kernel)
set_option maxRecDepth 20000 in
theorem gX6_length_X6_low : GoodIn wsX6_length (wsV RX6 29 RX6 yX6_low wsX6_low) := goodIn_app (goodIn_of _ (by decide +kernel)) ggX6_length_X6_low
theorem dX6_length_0 : decode cX6_length 0 = .ok (.aload_n 0, 1) := by decide +kernel
theorem dX6_length_1 : decode cX6_length 1 = .ok (.iload_n 1, 1) := by decide +kernel
theorem dX6_length_2 : decode cX6_length 2 = .ok (.invokevirtual 50, 3) := by decide +kernel
theorem dX6_length_5 : decode cX6_length 5 = .ok (.istore_n 2, 1) := by decide +kernel
theorem dX6_length_6 : decode cX6_length 6 = .ok (.iload_n 2, 1) := by decide +kernel
theorem dX6_length_7 : decode cX6_length 7 = .ok (.ifCond .ge 5, 3) := by decide +kernel
theorem dX6_length_10 : decode cX6_length 10 = .ok (.iconst (-1), 1) := by decide +kernel
theorem dX6_length_11 : decode cX6_length 11 = .ok (.ireturn, 1) := by decide +kernel
theorem dX6_length_12 : decode cX6_length 12 = .ok (.aload_n 0, 1) := by decide +kernel
theorem dX6_length_13 : decode cX6_length 13 = .ok (.iload_n 2, 1) := by decide +kernel
theorem dX6_length_14 : decode cX6_length 14 = .ok (.invokevirtual 53, 3) := by decide +kernel
theorem dX6_length_17 : decode cX6_length 17 = .ok (.ifCond .eq 8, 3) := by decide +kernel
theorem dX6_length_20 : decode cX6_length 20 = .ok (.bipush (-2), 2) := by decide +kernel
theorem dX6_length_22 : decode cX6_length 22 = .ok (.goto 8, 3) := by decide +kernel
theorem dX6_length_25 : decode cX6_length 25 = .ok (.aload_n 0, 1) := by decide +kernel
theorem dX6_length_26 : decode cX6_length 26 = .ok (.iload_n 2, 1) := by decide +kernel
theorem dX6_length_27 : decode cX6_length 27 = .ok (.invokevirtual 29, 3) := by decide +kernel
theorem dX6_length_30 : decode cX6_length 30 = .ok (.ireturn, 1) := by decide +kernel
theorem dX6_rounded_0 : decode cX6_rounded 0 = .ok (.lload_n 0, 1) := by decide +kernel
theorem dX6_rounded_1 : decode cX6_rounded 1 = .ok (.ldc2_w 56, 3) := by decide +kernel
theorem dX6_rounded_4 : decode cX6_rounded 4 = .ok (.lcmp, 1) := by decide +kernel
theorem dX6_rounded_5 : decode cX6_rounded 5 = .ok (.ifCond .le 11, 3) := by decide +kernel
theorem dX6_rounded_8 : decode cX6_rounded 8 = .ok (.lload_n 0, 1) := by decide +kernel
theorem dX6_rounded_9 : decode cX6_rounded 9 = .ok (.ldc2_w 58, 3) := by decide +kernel
theorem dX6_rounded_12 : decode cX6_rounded 12 = .ok (.lcmp, 1) := by decide +kernel
theorem dX6_rounded_13 : decode cX6_rounded 13 = .ok (.ifCond .lt 11, 3) := by decide +kernel
theorem dX6_rounded_16 : decode cX6_rounded 16 = .ok (.lload_n 0, 1) := by decide +kernel
theorem dX6_rounded_17 : decode cX6_rounded 17 = .ok (.ldc2_w 60, 3) := by decide +kernel
theorem dX6_rounded_20 : decode cX6_rounded 20 = .ok (.lcmp, 1) := by decide +kernel
theorem dX6_rounded_21 : decode cX6_rounded 21 = .ok (.ifCond .ne 5, 3) := by decide +kernel
theorem dX6_rounded_24 : decode cX6_rounded 24 = .ok (.lload_n 0, 1) := by decide +kernel
theorem dX6_rounded_25 : decode cX6_rounded 25 = .ok (.lreturn, 1) := by decide +kernel
theorem dX6_rounded_26 : decode cX6_rounded 26 = .ok (.lload_n 0, 1) := by decide +kernel
theorem dX6_rounded_27 : decode cX6_rounded 27 = .ok (.lconst 0, 1) := by decide +kernel
theorem dX6_rounded_28 : decode cX6_rounded 28 = .ok (.lcmp, 1) := by decide +kernel
theorem dX6_rounded_29 : decode cX6_rounded 29 = .ok (.ifCond .ge 8, 3) := by decide +kernel
theorem dX6_rounded_32 : decode cX6_rounded 32 = .ok (.lload_n 0, 1) := by decide +kernel
theorem dX6_rounded_33 : decode cX6_rounded 33 = .ok (.lneg, 1) := by decide +kernel
theorem dX6_rounded_34 : decode cX6_rounded 34 = .ok (.goto 4, 3) := by decide +kernel
theorem dX6_rounded_37 : decode cX6_rounded 37 = .ok (.lload_n 0, 1) := by decide +kernel
theorem dX6_rounded_38 : decode cX6_rounded 38 = .ok (.lstore_n 2, 1) := by decide +kernel
theorem dX6_rounded_39 : decode cX6_rounded 39 = .ok (.iconst 0, 1) := by decide +kernel
theorem dX6_rounded_40 : decode cX6_rounded 40 = .ok (.istore 4, 2) := by decide +kernel
theorem dX6_rounded_42 : decode cX6_rounded 42 = .ok (.lload_n 2, 1) := by decide +kernel
theorem dX6_rounded_43 : decode cX6_rounded 43 = .ok (.iload 4, 2) := by decide +kernel
theorem dX6_rounded_45 : decode cX6_rounded 45 = .ok (.lshr, 1) := by decide +kernel
theorem dX6_rounded_46 : decode cX6_rounded 46 = .ok (.ldc2_w 62, 3) := by decide +kernel
theorem dX6_rounded_49 : decode cX6_rounded 49 = .ok (.lcmp, 1) := by decide +kernel
theorem dX6_rounded_50 : decode cX6_rounded 50 = .ok (.ifCond .le 9, 3) := by decide +kernel
theorem dX6_rounded_53 : decode cX6_rounded 53 = .ok (.iinc 4 1, 3) := by decide +kernel
theorem dX6_rounded_56 : decode cX6_rounded 56 = .ok (.goto (-14), 3) := by decide +kernel
theorem dX6_rounded_59 : decode cX6_rounded 59 = .ok (.lload_n 2, 1) := by decide +kernel
theorem dX6_rounded_60 : decode cX6_rounded 60 = .ok (.lconst 1, 1) := by decide +kernel
theorem dX6_rounded_61 : decode cX6_rounded 61 = .ok (.iload 4, 2) := by decide +kernel
theorem dX6_rounded_63 : decode cX6_rounded 63 = .ok (.lshl, 1) := by decide +kernel
theorem dX6_rounded_64 : decode cX6_rounded 64 = .ok (.lconst 1, 1) := by decide +kernel
theorem dX6_rounded_65 : decode cX6_rounded 65 = .ok (.lsub, 1) := by decide +kernel
theorem dX6_rounded_66 : decode cX6_rounded 66 = .ok (.land, 1) := by decide +kernel
theorem dX6_rounded_67 : decode cX6_rounded 67 = .ok (.lstore 5, 2) := by decide +kernel
theorem dX6_rounded_69 : decode cX6_rounded 69 = .ok (.lconst 1, 1) := by decide +kernel
theorem dX6_rounded_70 : decode cX6_rounded 70 = .ok (.iload 4, 2) := by decide +kernel
theorem dX6_rounded_72 : decode cX6_rounded 72 = .ok (.iconst 1, 1) := by decide +kernel
theorem dX6_rounded_73 : decode cX6_rounded 73 = .ok (.isub, 1) := by decide +kernel
theorem dX6_rounded_74 : decode cX6_rounded 74 = .ok (.lshl, 1) := by decide +kernel
theorem dX6_rounded_75 : decode cX6_rounded 75 = .ok (.lstore 7, 2) := by decide +kernel
theorem dX6_rounded_77 : decode cX6_rounded 77 = .ok (.lload_n 2, 1) := by decide +kernel
theorem dX6_rounded_78 : decode cX6_rounded 78 = .ok (.iload 4, 2) := by decide +kernel
theorem dX6_rounded_80 : decode cX6_rounded 80 = .ok (.lshr, 1) := by decide +kernel
theorem dX6_rounded_81 : decode cX6_rounded 81 = .ok (.lstore 9, 2) := by decide +kernel
theorem dX6_rounded_83 : decode cX6_rounded 83 = .ok (.lload 5, 2) := by decide +kernel
theorem dX6_rounded_85 : decode cX6_rounded 85 = .ok (.lload 7, 2) := by decide +kernel
theorem dX6_rounded_87 : decode cX6_rounded 87 = .ok (.lcmp, 1) := by decide +kernel
theorem dX6_rounded_88 : decode cX6_rounded 88 = .ok (.ifCond .gt 20, 3) := by decide +kernel
theorem dX6_rounded_91 : decode cX6_rounded 91 = .ok (.lload 5, 2) := by decide +kernel
theorem dX6_rounded_93 : decode cX6_rounded 93 = .ok (.lload 7, 2) := by decide +kernel
theorem dX6_rounded_95 : decode cX6_rounded 95 = .ok (.lcmp, 1) := by decide +kernel
theorem dX6_rounded_96 : decode cX6_rounded 96 = .ok (.ifCond .ne 18, 3) := by decide +kernel
theorem dX6_rounded_99 : decode cX6_rounded 99 = .ok (.lload 9, 2) := by decide +kernel
theorem dX6_rounded_101 : decode cX6_rounded 101 = .ok (.lconst 1, 1) := by decide +kernel
theorem dX6_rounded_102 : decode cX6_rounded 102 = .ok (.land, 1) := by decide +kernel
theorem dX6_rounded_103 : decode cX6_rounded 103 = .ok (.lconst 1, 1) := by decide +kernel
theorem dX6_rounded_104 : decode cX6_rounded 104 = .ok (.lcmp, 1) := by decide +kernel
theorem dX6_rounded_105 : decode cX6_rounded 105 = .ok (.ifCond .ne 9, 3) := by decide +kernel
theorem dX6_rounded_108 : decode cX6_rounded 108 = .ok (.lload 9, 2) := by decide +kernel
theorem dX6_rounded_110 : decode cX6_rounded 110 = .ok (.lconst 1, 1) := by decide +kernel
theorem dX6_rounded_111 : decode cX6_rounded 111 = .ok (.ladd, 1) := by decide +kernel
theorem dX6_rounded_112 : decode cX6_rounded 112 = .ok (.lstore 9, 2) := by decide +kernel
theorem dX6_rounded_114 : decode cX6_rounded 114 = .ok (.lload 9, 2) := by decide +kernel
theorem dX6_rounded_116 : decode cX6_rounded 116 = .ok (.iload 4, 2) := by decide +kernel
theorem dX6_rounded_118 : decode cX6_rounded 118 = .ok (.lshl, 1) := by decide +kernel
theorem dX6_rounded_119 : decode cX6_rounded 119 = .ok (.lstore 11, 2) := by decide +kernel
theorem dX6_rounded_121 : decode cX6_rounded 121 = .ok (.lload_n 0, 1) := by decide +kernel
theorem dX6_rounded_122 : decode cX6_rounded 122 = .ok (.lconst 0, 1) := by decide +kernel
theorem dX6_rounded_123 : decode cX6_rounded 123 = .ok (.lcmp, 1) := by decide +kernel
theorem dX6_rounded_124 : decode cX6_rounded 124 = .ok (.ifCond .ge 7, 3) := by decide +kernel
theorem dX6_rounded_127 : decode cX6_rounded 127 = .ok (.lload 11, 2) := by decide +kernel
theorem dX6_rounded_129 : decode cX6_rounded 129 = .ok (.lneg, 1) := by decide +kernel
theorem dX6_rounded_130 : decode cX6_rounded 130 = .ok (.lreturn, 1) := by decide +kernel
theorem dX6_rounded_131 : decode cX6_rounded 131 = .ok (.lload 11, 2) := by decide +kernel
theorem dX6_rounded_133 : decode cX6_rounded 133 = .ok (.lconst 0, 1) := by decide +kernel
theorem dX6_rounded_134 : decode cX6_rounded 134 = .ok (.lcmp, 1) := by decide +kernel
theorem dX6_rounded_135 : decode cX6_rounded 135 = .ok (.ifCond .ge 9, 3) := by decide +kernel
theorem dX6_rounded_138 : decode cX6_rounded 138 = .ok (.ldc2_w 64, 3) := by decide +kernel
theorem dX6_rounded_141 : decode cX6_rounded 141 = .ok (.goto 5, 3) := by decide +kernel
theorem dX6_rounded_144 : decode cX6_rounded 144 = .ok (.lload 11, 2) := by decide +kernel
theorem dX6_rounded_146 : decode cX6_rounded 146 = .ok (.lreturn, 1) := by decide +kernel
set_option maxRecDepth 20000 in
theorem ggX6_fitted_X6_rounded : GoodIn wsX6_fitted wsX6_rounded := goodIn_r _ [4, 5, 6, 7, 8, 9] (by decide +kernel) (by decide +kernel)
set_option maxRecDepth 20000 in
theorem gX6_fitted_X6_rounded : GoodIn wsX6_fitted (va_wsS RX6 66 yX6_rounded wsX6_rounded) := goodIn_app (goodIn_of _ (by decide +kernel)) ggX6_fitted_X6_rounded
theorem dX6_fitted_0 : decode cX6_fitted 0 = .ok (.iload_n 0, 1) := by decide +kernel
theorem dX6_fitted_1 : decode cX6_fitted 1 = .ok (.tableswitch 38 0 2 #[27, 31, 33], 27) := by decide +kernel
theorem dX6_fitted_28 : decode cX6_fitted 28 = .ok (.lload_n 1, 1) := by decide +kernel
theorem dX6_fitted_29 : decode cX6_fitted 29 = .ok (.l2i, 1) := by decide +kernel
theorem dX6_fitted_30 : decode cX6_fitted 30 = .ok (.i2l, 1) := by decide +kernel
theorem dX6_fitted_31 : decode cX6_fitted 31 = .ok (.lreturn, 1) := by decide +kernel
theorem dX6_fitted_32 : decode cX6_fitted 32 = .ok (.lload_n 1, 1) := by decide +kernel
theorem dX6_fitted_33 : decode cX6_fitted 33 = .ok (.lreturn, 1) := by decide +kernel
theorem dX6_fitted_34 : decode cX6_fitted 34 = .ok (.lload_n 1, 1) := by decide +kernel
theorem dX6_fitted_35 : decode cX6_fitted 35 = .ok (.l2i, 1) := by decide +kernel
theorem dX6_fitted_36 : decode cX6_fitted 36 = .ok (.i2b, 1) := by decide +kernel
theorem dX6_fitted_37 : decode cX6_fitted 37 = .ok (.i2l, 1) := by decide +kernel
theorem dX6_fitted_38 : decode cX6_fitted 38 = .ok (.lreturn, 1) := by decide +kernel
theorem dX6_fitted_39 : decode cX6_fitted 39 = .ok (.lload_n 1, 1) := by decide +kernel
theorem dX6_fitted_40 : decode cX6_fitted 40 = .ok (.invokestatic 66, 3) := by decide +kernel
theorem dX6_fitted_43 : decode cX6_fitted 43 = .ok (.lreturn, 1) := by decide +kernel
set_option maxRecDepth 20000 in
theorem ggX6_set_X6_in : GoodIn wsX6_set wsX6_in := goodIn_r _ [6, 7, 8, 9, 5, 10, 42, 43, 44, 45, 46, 47, 48, 49, 50, 51] (by decide +kernel) (by decide +kernel)
set_option maxRecDepth 20000 in
theorem gX6_set_X6_in : GoodIn wsX6_set (wsV RX6 50 RX6 yX6_in wsX6_in) := goodIn_app (goodIn_of _ (by decide +kernel)) ggX6_set_X6_in
set_option maxRecDepth 20000 in
theorem ggX6_set_X6_isThing : GoodIn wsX6_set wsX6_isThing := goodIn_r _ [14, 15, 16, 17, 5, 18, 1, 42, 43, 44, 45, 46, 47, 48, 49, 50, 51] (by decide +kernel) (by decide +kernel)
set_option maxRecDepth 20000 in
theorem gX6_set_X6_isThing : GoodIn wsX6_set (wsV RX6 53 RX6 yX6_isThing wsX6_isThing) := goodIn_app (goodIn_of _ (by decide +kernel)) ggX6_set_X6_isThing
set_option maxRecDepth 20000 in
theorem ggX6_set_X6_isOfObjects : GoodIn wsX6_set wsX6_isOfObjects := goodIn_r _ [22, 15, 16, 17, 5, 18, 1, 42, 43, 44, 45, 46, 47, 48, 49, 50, 51] (by decide +kernel) (by decide +kernel)
set_option maxRecDepth 20000 in
theorem gX6_set_X6_isOfObjects : GoodIn wsX6_set (wsV RX6 70 RX6 yX6_isOfObjects wsX6_isOfObjects) := goodIn_app (goodIn_of _ (by decide +kernel)) ggX6_set_X6_isOfObjects
set_option maxRecDepth 20000 in
theorem ggX6_set_X6_isElement : GoodIn wsX6_set wsX6_isElement := goodIn_r _ [26, 27, 28, 29, 5, 30, 1, 42, 43, 44, 45, 46, 47, 48, 49, 50, 51] (by decide +kernel) (by decide +kernel)
set_option maxRecDepth 20000 in
theorem gX6_set_X6_isElement : GoodIn wsX6_set (wsV RX6 73 RX6 yX6_isElement wsX6_isElement) := goodIn_app (goodIn_of _ (by decide +kernel)) ggX6_set_X6_isElement
set_option maxRecDepth 20000 in
theorem ggX6_set_X6_kind : GoodIn wsX6_set wsX6_kind := goodIn_r _ [18, 1, 42, 43, 44, 45, 46, 47, 48, 49, 50, 51] (by decide +kernel) (by decide +kernel)
set_option maxRecDepth 20000 in
theorem gX6_set_X6_kind : GoodIn wsX6_set (wsV RX6 25 RX6 yX6_kind wsX6_kind) := goodIn_app (goodIn_of _ (by decide +kernel)) ggX6_set_X6_kind
set_option maxRecDepth 20000 in
theorem ggX6_set_X6_fitted : GoodIn wsX6_set wsX6_fitted := goodIn_r _ [33, 34, 35, 5, 36, 37, 38, 39, 40, 41] (by decide +kernel) (by decide +kernel)
set_option maxRecDepth 20000 in
theorem gX6_set_X6_fitted : GoodIn wsX6_set (va_wsS RX6 77 yX6_fitted wsX6_fitted) := goodIn_app (goodIn_of _ (by decide +kernel)) ggX6_set_X6_fitted
theorem dX6_set_0 : decode cX6_set 0 = .ok (.aload_n 0, 1) := by decide +kernel
theorem dX6_set_1 : decode cX6_set 1 = .ok (.iload_n 1, 1) := by decide +kernel
theorem dX6_set_2 : decode cX6_set 2 = .ok (.invokevirtual 50, 3) := by decide +kernel
theorem dX6_set_5 : decode cX6_set 5 = .ok (.istore 5, 2) := by decide +kernel
theorem dX6_set_7 : decode cX6_set 7 = .ok (.iload 5, 2) := by decide +kernel
theorem dX6_set_9 : decode cX6_set 9 = .ok (.ifCond .ge 5, 3) := by decide +kernel
theorem dX6_set_12 : decode cX6_set 12 = .ok (.iconst 1, 1) := by decide +kernel
theorem dX6_set_13 : decode cX6_set 13 = .ok (.ireturn, 1) := by decide +kernel
theorem dX6_set_14 : decode cX6_set 14 = .ok (.aload_n 0, 1) := by decide +kernel
theorem dX6_set_15 : decode cX6_set 15 = .ok (.iload 5, 2) := by decide +kernel
theorem dX6_set_17 : decode cX6_set 17 = .ok (.invokevirtual 53, 3) := by decide +kernel
theorem dX6_set_20 : decode cX6_set 20 = .ok (.ifCond .eq 5, 3) := by decide +kernel
theorem dX6_set_23 : decode cX6_set 23 = .ok (.iconst 2, 1) := by decide +kernel
theorem dX6_set_24 : decode cX6_set 24 = .ok (.ireturn, 1) := by decide +kernel
theorem dX6_set_25 : decode cX6_set 25 = .ok (.aload_n 0, 1) := by decide +kernel
theorem dX6_set_26 : decode cX6_set 26 = .ok (.iload 5, 2) := by decide +kernel
theorem dX6_set_28 : decode cX6_set 28 = .ok (.invokevirtual 70, 3) := by decide +kernel
theorem dX6_set_31 : decode cX6_set 31 = .ok (.ifCond .eq 5, 3) := by decide +kernel
theorem dX6_set_34 : decode cX6_set 34 = .ok (.iconst 3, 1) := by decide +kernel
theorem dX6_set_35 : decode cX6_set 35 = .ok (.ireturn, 1) := by decide +kernel
theorem dX6_set_36 : decode cX6_set 36 = .ok (.aload_n 0, 1) := by decide +kernel
theorem dX6_set_37 : decode cX6_set 37 = .ok (.iload 5, 2) := by decide +kernel
theorem dX6_set_39 : decode cX6_set 39 = .ok (.iload_n 2, 1) := by decide +kernel
theorem dX6_set_40 : decode cX6_set 40 = .ok (.invokevirtual 73, 3) := by decide +kernel
theorem dX6_set_43 : decode cX6_set 43 = .ok (.ifCond .ne 5, 3) := by decide +kernel
theorem dX6_set_46 : decode cX6_set 46 = .ok (.iconst 4, 1) := by decide +kernel
theorem dX6_set_47 : decode cX6_set 47 = .ok (.ireturn, 1) := by decide +kernel
theorem dX6_set_48 : decode cX6_set 48 = .ok (.aload_n 0, 1) := by decide +kernel
theorem dX6_set_49 : decode cX6_set 49 = .ok (.getfield 8, 3) := by decide +kernel
theorem dX6_set_52 : decode cX6_set 52 = .ok (.iload 5, 2) := by decide +kernel
theorem dX6_set_54 : decode cX6_set 54 = .ok (.iconst 1, 1) := by decide +kernel
theorem dX6_set_55 : decode cX6_set 55 = .ok (.iadd, 1) := by decide +kernel
theorem dX6_set_56 : decode cX6_set 56 = .ok (.iload_n 2, 1) := by decide +kernel
theorem dX6_set_57 : decode cX6_set 57 = .ok (.iadd, 1) := by decide +kernel
theorem dX6_set_58 : decode cX6_set 58 = .ok (.aload_n 0, 1) := by decide +kernel
theorem dX6_set_59 : decode cX6_set 59 = .ok (.iload 5, 2) := by decide +kernel
theorem dX6_set_61 : decode cX6_set 61 = .ok (.invokevirtual 25, 3) := by decide +kernel
theorem dX6_set_64 : decode cX6_set 64 = .ok (.lload_n 3, 1) := by decide +kernel
theorem dX6_set_65 : decode cX6_set 65 = .ok (.invokestatic 77, 3) := by decide +kernel
theorem dX6_set_68 : decode cX6_set 68 = .ok (.lastore, 1) := by decide +kernel
theorem dX6_set_69 : decode cX6_set 69 = .ok (.iconst 0, 1) := by decide +kernel
theorem dX6_set_70 : decode cX6_set 70 = .ok (.ireturn, 1) := by decide +kernel
set_option maxRecDepth 20000 in
theorem ggX6_fits_X6_kind : GoodIn wsX6_fits wsX6_kind := goodIn_r _ [5, 6, 7, 8, 9, 10, 11, 12, 13, 14, 15, 16] (by decide +kernel) (by decide +kernel)
set_option maxRecDepth 20000 in
theorem gX6_fits_X6_kind : GoodIn wsX6_fits (wsV RX6 25 RX6 yX6_kind wsX6_kind) := goodIn_app (goodIn_of _ (by decide +kernel)) ggX6_fits_X6_kind
theorem dX6_fits_0 : decode cX6_fits 0 = .ok (.iload_n 1, 1) := by decide +kernel
theorem dX6_fits_1 : decode cX6_fits 1 = .ok (.ifCond .ge 5, 3) := by decide +kernel
theorem dX6_fits_4 : decode cX6_fits 4 = .ok (.iconst 1, 1) := by decide +kernel
theorem dX6_fits_5 : decode cX6_fits 5 = .ok (.ireturn, 1) := by decide +kernel
theorem dX6_fits_6 : decode cX6_fits 6 = .ok (.aload_n 0, 1) := by decide +kernel
theorem dX6_fits_7 : decode cX6_fits 7 = .ok (.iload_n 1, 1) := by decide +kernel
theorem dX6_fits_8 : decode cX6_fits 8 = .ok (.invokevirtual 25, 3) := by decide +kernel
theorem dX6_fits_11 : decode cX6_fits 11 = .ok (.istore_n 3, 1) := by decide +kernel
theorem dX6_fits_12 : decode cX6_fits 12 = .ok (.iload_n 2, 1) := by decide +kernel
theorem dX6_fits_13 : decode cX6_fits 13 = .ok (.iconst 4, 1) := by decide +kernel
theorem dX6_fits_14 : decode cX6_fits 14 = .ok (.if_icmp .ne 15, 3) := by decide +kernel
theorem dX6_fits_17 : decode cX6_fits 17 = .ok (.iload_n 3, 1) := by decide +kernel
theorem dX6_fits_18 : decode cX6_fits 18 = .ok (.ifCond .ne 7, 3) := by decide +kernel
theorem dX6_fits_21 : decode cX6_fits 21 = .ok (.iconst 1, 1) := by decide +kernel
theorem dX6_fits_22 : decode cX6_fits 22 = .ok (.goto 37, 3) := by decide +kernel
theorem dX6_fits_25 : decode cX6_fits 25 = .ok (.iconst 0, 1) := by decide +kernel
theorem dX6_fits_26 : decode cX6_fits 26 = .ok (.goto 33, 3) := by decide +kernel
theorem dX6_fits_29 : decode cX6_fits 29 = .ok (.iload_n 2, 1) := by decide +kernel
theorem dX6_fits_30 : decode cX6_fits 30 = .ok (.iconst 5, 1) := by decide +kernel
theorem dX6_fits_31 : decode cX6_fits 31 = .ok (.if_icmp .ne 17, 3) := by decide +kernel
theorem dX6_fits_34 : decode cX6_fits 34 = .ok (.iload_n 3, 1) := by decide +kernel
theorem dX6_fits_35 : decode cX6_fits 35 = .ok (.bipush 7, 2) := by decide +kernel
theorem dX6_fits_37 : decode cX6_fits 37 = .ok (.if_icmp .lt 7, 3) := by decide +kernel
theorem dX6_fits_40 : decode cX6_fits 40 = .ok (.iconst 1, 1) := by decide +kernel
theorem dX6_fits_41 : decode cX6_fits 41 = .ok (.goto 18, 3) := by decide +kernel
theorem dX6_fits_44 : decode cX6_fits 44 = .ok (.iconst 0, 1) := by decide +kernel
theorem dX6_fits_45 : decode cX6_fits 45 = .ok (.goto 14, 3) := by decide +kernel
theorem dX6_fits_48 : decode cX6_fits 48 = .ok (.iload_n 3, 1) := by decide +kernel
theorem dX6_fits_49 : decode cX6_fits 49 = .ok (.bipush 8, 2) := by decide +kernel
theorem dX6_fits_51 : decode cX6_fits 51 = .ok (.if_icmp .ne 7, 3) := by decide +kernel
theorem dX6_fits_54 : decode cX6_fits 54 = .ok (.iconst 1, 1) := by decide +kernel
theorem dX6_fits_55 : decode cX6_fits 55 = .ok (.goto 4, 3) := by decide +kernel
theorem dX6_fits_58 : decode cX6_fits 58 = .ok (.iconst 0, 1) := by decide +kernel
theorem dX6_fits_59 : decode cX6_fits 59 = .ok (.ireturn, 1) := by decide +kernel
set_option maxRecDepth 20000 in
theorem ggX6_setThing_X6_in : GoodIn wsX6_setThing wsX6_in := goodIn_r _ [6, 7, 8, 9, 5, 10, 35, 36, 37, 38, 39, 40, 41, 42, 43, 44] (by decide +kernel) (by decide +kernel)
set_option maxRecDepth 20000 in
theorem gX6_setThing_X6_in : GoodIn wsX6_setThing (wsV RX6 50 RX6 yX6_in wsX6_in) := goodIn_app (goodIn_of _ (by decide +kernel)) ggX6_setThing_X6_in
set_option maxRecDepth 20000 in
theorem ggX6_setThing_X6_isThing : GoodIn wsX6_setThing wsX6_isThing := goodIn_r _ [14, 15, 16, 17, 5, 18, 1, 35, 36, 37, 38, 39, 40, 41, 42, 43, 44] (by decide +kernel) (by decide +kernel)
set_option maxRecDepth 20000 in
theorem gX6_setThing_X6_isThing : GoodIn wsX6_setThing (wsV RX6 53 RX6 yX6_isThing wsX6_isThing) := goodIn_app (goodIn_of _ (by decide +kernel)) ggX6_setThing_X6_isThing
set_option maxRecDepth 20000 in
theorem ggX6_setThing_X6_isOfObjects : GoodIn wsX6_setThing wsX6_isOfObjects := goodIn_r _ [22, 15, 16, 17, 5, 18, 1, 35, 36, 37, 38, 39, 40, 41, 42, 43, 44] (by decide +kernel) (by decide +kernel)
set_option maxRecDepth 20000 in
theorem gX6_setThing_X6_isOfObjects : GoodIn wsX6_setThing (wsV RX6 70 RX6 yX6_isOfObjects wsX6_isOfObjects) := goodIn_app (goodIn_of _ (by decide +kernel)) ggX6_setThing_X6_isOfObjects
set_option maxRecDepth 20000 in
theorem ggX6_setThing_X6_isElement : GoodIn wsX6_setThing wsX6_isElement := goodIn_r _ [26, 27, 28, 29, 5, 30, 1, 35, 36, 37, 38, 39, 40, 41, 42, 43, 44] (by decide +kernel) (by decide +kernel)
set_option maxRecDepth 20000 in
theorem gX6_setThing_X6_isElement : GoodIn wsX6_setThing (wsV RX6 73 RX6 yX6_isElement wsX6_isElement) := goodIn_app (goodIn_of _ (by decide +kernel)) ggX6_setThing_X6_isElement
set_option maxRecDepth 20000 in
theorem ggX6_setThing_X6_kind : GoodIn wsX6_setThing wsX6_kind := goodIn_r _ [18, 1, 35, 36, 37, 38, 39, 40, 41, 42, 43, 44] (by decide +kernel) (by decide +kernel)
set_option maxRecDepth 20000 in
theorem gX6_setThing_X6_kind : GoodIn wsX6_setThing (wsV RX6 25 RX6 yX6_kind wsX6_kind) := goodIn_app (goodIn_of _ (by decide +kernel)) ggX6_setThing_X6_kind
set_option maxRecDepth 20000 in
theorem ggX6_setThing_X6_fits : GoodIn wsX6_setThing wsX6_fits := goodIn_r _ [34, 15, 16, 17, 5, 18, 1, 35, 36, 37, 38, 39, 40, 41, 42, 43, 44] (by decide +kernel) (by decide +kernel)
set_option maxRecDepth 20000 in
theorem gX6_setThing_X6_fits : GoodIn wsX6_setThing (wsV RX6 81 RX6 yX6_fits wsX6_fits) := goodIn_app (goodIn_of _ (by decide +kernel)) ggX6_setThing_X6_fits
theorem dX6_setThing_0 : decode cX6_setThing 0 = .ok (.aload_n 0, 1) := by decide +kernel
theorem dX6_setThing_1 : decode cX6_setThing 1 = .ok (.iload_n 1, 1) := by decide +kernel
theorem dX6_setThing_2 : decode cX6_setThing 2 = .ok (.invokevirtual 50, 3) := by decide +kernel
theorem dX6_setThing_5 : decode cX6_setThing 5 = .ok (.istore 4, 2) := by decide +kernel
theorem dX6_setThing_7 : decode cX6_setThing 7 = .ok (.aload_n 0, 1) := by decide +kernel
theorem dX6_setThing_8 : decode cX6_setThing 8 = .ok (.iload_n 3, 1) := by decide +kernel
theorem dX6_setThing_9 : decode cX6_setThing 9 = .ok (.invokevirtual 50, 3) := by decide +kernel
theorem dX6_setThing_12 : decode cX6_setThing 12 = .ok (.istore 5, 2) := by decide +kernel
theorem dX6_setThing_14 : decode cX6_setThing 14 = .ok (.iload 4, 2) := by decide +kernel
theorem dX6_setThing_16 : decode cX6_setThing 16 = .ok (.ifCond .lt 13, 3) := by decide +kernel
theorem dX6_setThing_19 : decode cX6_setThing 19 = .ok (.iload 5, 2) := by decide +kernel
theorem dX6_setThing_21 : decode cX6_setThing 21 = .ok (.ifCond .ge 10, 3) := by decide +kernel
theorem dX6_setThing_24 : decode cX6_setThing 24 = .ok (.iload_n 3, 1) := by decide +kernel
theorem dX6_setThing_25 : decode cX6_setThing 25 = .ok (.iconst (-1), 1) := by decide +kernel
theorem dX6_setThing_26 : decode cX6_setThing 26 = .ok (.if_icmp .eq 5, 3) := by decide +kernel
theorem dX6_setThing_29 : decode cX6_setThing 29 = .ok (.iconst 1, 1) := by decide +kernel
theorem dX6_setThing_30 : decode cX6_setThing 30 = .ok (.ireturn, 1) := by decide +kernel
theorem dX6_setThing_31 : decode cX6_setThing 31 = .ok (.aload_n 0, 1) := by decide +kernel
theorem dX6_setThing_32 : decode cX6_setThing 32 = .ok (.iload 4, 2) := by decide +kernel
theorem dX6_setThing_34 : decode cX6_setThing 34 = .ok (.invokevirtual 53, 3) := by decide +kernel
theorem dX6_setThing_37 : decode cX6_setThing 37 = .ok (.ifCond .eq 5, 3) := by decide +kernel
theorem dX6_setThing_40 : decode cX6_setThing 40 = .ok (.iconst 2, 1) := by decide +kernel
theorem dX6_setThing_41 : decode cX6_setThing 41 = .ok (.ireturn, 1) := by decide +kernel
theorem dX6_setThing_42 : decode cX6_setThing 42 = .ok (.aload_n 0, 1) := by decide +kernel
theorem dX6_setThing_43 : decode cX6_setThing 43 = .ok (.iload 4, 2) := by decide +kernel
theorem dX6_setThing_45 : decode cX6_setThing 45 = .ok (.invokevirtual 70, 3) := by decide +kernel
theorem dX6_setThing_48 : decode cX6_setThing 48 = .ok (.ifCond .ne 5, 3) := by decide +kernel
theorem dX6_setThing_51 : decode cX6_setThing 51 = .ok (.iconst 3, 1) := by decide +kernel
theorem dX6_setThing_52 : decode cX6_setThing 52 = .ok (.ireturn, 1) := by decide +kernel
theorem dX6_setThing_53 : decode cX6_setThing 53 = .ok (.aload_n 0, 1) := by decide +kernel
theorem dX6_setThing_54 : decode cX6_setThing 54 = .ok (.iload 4, 2) := by decide +kernel
theorem dX6_setThing_56 : decode cX6_setThing 56 = .ok (.iload_n 2, 1) := by decide +kernel
theorem dX6_setThing_57 : decode cX6_setThing 57 = .ok (.invokevirtual 73, 3) := by decide +kernel
theorem dX6_setThing_60 : decode cX6_setThing 60 = .ok (.ifCond .ne 5, 3) := by decide +kernel
theorem dX6_setThing_63 : decode cX6_setThing 63 = .ok (.iconst 4, 1) := by decide +kernel
theorem dX6_setThing_64 : decode cX6_setThing 64 = .ok (.ireturn, 1) := by decide +kernel
theorem dX6_setThing_65 : decode cX6_setThing 65 = .ok (.aload_n 0, 1) := by decide +kernel
theorem dX6_setThing_66 : decode cX6_setThing 66 = .ok (.iload 5, 2) := by decide +kernel
theorem dX6_setThing_68 : decode cX6_setThing 68 = .ok (.aload_n 0, 1) := by decide +kernel
theorem dX6_setThing_69 : decode cX6_setThing 69 = .ok (.iload 4, 2) := by decide +kernel
theorem dX6_setThing_71 : decode cX6_setThing 71 = .ok (.invokevirtual 25, 3) := by decide +kernel
theorem dX6_setThing_74 : decode cX6_setThing 74 = .ok (.invokevirtual 81, 3) := by decide +kernel
theorem dX6_setThing_77 : decode cX6_setThing 77 = .ok (.ifCond .ne 5, 3) := by decide +kernel
theorem dX6_setThing_80 : decode cX6_setThing 80 = .ok (.iconst 5, 1) := by decide +kernel
theorem dX6_setThing_81 : decode cX6_setThing 81 = .ok (.ireturn, 1) := by decide +kernel
theorem dX6_setThing_82 : decode cX6_setThing 82 = .ok (.aload_n 0, 1) := by decide +kernel
theorem dX6_setThing_83 : decode cX6_setThing 83 = .ok (.getfield 8, 3) := by decide +kernel
theorem dX6_setThing_86 : decode cX6_setThing 86 = .ok (.iload 4, 2) := by decide +kernel
theorem dX6_setThing_88 : decode cX6_setThing 88 = .ok (.iconst 1, 1) := by decide +kernel
theorem dX6_setThing_89 : decode cX6_setThing 89 = .ok (.iadd, 1) := by decide +kernel
theorem dX6_setThing_90 : decode cX6_setThing 90 = .ok (.iload_n 2, 1) := by decide +kernel
theorem dX6_setThing_91 : decode cX6_setThing 91 = .ok (.iadd, 1) := by decide +kernel
theorem dX6_setThing_92 : decode cX6_setThing 92 = .ok (.iload 5, 2) := by decide +kernel
theorem dX6_setThing_94 : decode cX6_setThing 94 = .ok (.i2l, 1) := by decide +kernel
theorem dX6_setThing_95 : decode cX6_setThing 95 = .ok (.lconst 1, 1) := by decide +kernel
theorem dX6_setThing_96 : decode cX6_setThing 96 = .ok (.ladd, 1) := by decide +kernel
theorem dX6_setThing_97 : decode cX6_setThing 97 = .ok (.lastore, 1) := by decide +kernel
theorem dX6_setThing_98 : decode cX6_setThing 98 = .ok (.iconst 0, 1) := by decide +kernel
theorem dX6_setThing_99 : decode cX6_setThing 99 = .ok (.ireturn, 1) := by decide +kernel
set_option maxRecDepth 20000 in
theorem ggX6_told_X6_isOfObjects : GoodIn wsX6_told wsX6_isOfObjects := goodIn_r _ [7, 8, 9, 10, 6, 11, 1, 20, 21, 22, 23, 24, 25, 26, 27, 28, 29] (by decide +kernel) (by decide +kernel)
set_option maxRecDepth 20000 in
theorem gX6_told_X6_isOfObjects : GoodIn wsX6_told (wsV RX6 70 RX6 yX6_isOfObjects wsX6_isOfObjects) := goodIn_app (goodIn_of _ (by decide +kernel)) ggX6_told_X6_isOfObjects
set_option maxRecDepth 20000 in
theorem ggX6_told_X6_object : GoodIn wsX6_told wsX6_object := goodIn_r _ [15, 1, 20, 21, 22, 23, 24, 25, 26, 27, 28, 29] (by decide +kernel) (by decide +kernel)
set_option maxRecDepth 20000 in
theorem gX6_told_X6_object : GoodIn wsX6_told (wsV RX6 84 RX6 yX6_object wsX6_object) := goodIn_app (goodIn_of _ (by decide +kernel)) ggX6_told_X6_object
set_option maxRecDepth 20000 in
theorem ggX6_told_X6_kind : GoodIn wsX6_told wsX6_kind := goodIn_r _ [11, 1, 20, 21, 22, 23, 24, 25, 26, 27, 28, 29] (by decide +kernel) (by decide +kernel)
set_option maxRecDepth 20000 in
theorem gX6_told_X6_kind : GoodIn wsX6_told (wsV RX6 25 RX6 yX6_kind wsX6_kind) := goodIn_app (goodIn_of _ (by decide +kernel)) ggX6_told_X6_kind
set_option maxRecDepth 20000 in
theorem ggX6_told_X6_low : GoodIn wsX6_told wsX6_low := goodIn_r _ [19, 1, 20, 21, 22, 23, 24, 25, 26, 27, 28, 29] (by decide +kernel) (by decide +kernel)
set_option maxRecDepth 20000 in
theorem gX6_told_X6_low : GoodIn wsX6_told (wsV RX6 29 RX6 yX6_low wsX6_low) := goodIn_app (goodIn_of _ (by decide +kernel)) ggX6_told_X6_low
theorem dX6_told_0 : decode cX6_told 0 = .ok (.aload_n 0, 1) := by decide +kernel
theorem dX6_told_1 : decode cX6_told 1 = .ok (.iload_n 1, 1) := by decide +kernel
theorem dX6_told_2 : decode cX6_told 2 = .ok (.invokevirtual 70, 3) := by decide +kernel
theorem dX6_told_5 : decode cX6_told 5 = .ok (.ifCond .ne 14, 3) := by decide +kernel
theorem dX6_told_8 : decode cX6_told 8 = .ok (.aload_n 0, 1) := by decide +kernel
theorem dX6_told_9 : decode cX6_told 9 = .ok (.getfield 8, 3) := by decide +kernel
theorem dX6_told_12 : decode cX6_told 12 = .ok (.iload_n 1, 1) := by decide +kernel
theorem dX6_told_13 : decode cX6_told 13 = .ok (.iconst 1, 1) := by decide +kernel
theorem dX6_told_14 : decode cX6_told 14 = .ok (.iadd, 1) := by decide +kernel
theorem dX6_told_15 : decode cX6_told 15 = .ok (.iload_n 2, 1) := by decide +kernel
theorem dX6_told_16 : decode cX6_told 16 = .ok (.iadd, 1) := by decide +kernel
theorem dX6_told_17 : decode cX6_told 17 = .ok (.laload, 1) := by decide +kernel
theorem dX6_told_18 : decode cX6_told 18 = .ok (.lreturn, 1) := by decide +kernel
theorem dX6_told_19 : decode cX6_told 19 = .ok (.aload_n 0, 1) := by decide +kernel
theorem dX6_told_20 : decode cX6_told 20 = .ok (.iload_n 1, 1) := by decide +kernel
theorem dX6_told_21 : decode cX6_told 21 = .ok (.iload_n 2, 1) := by decide +kernel
theorem dX6_told_22 : decode cX6_told 22 = .ok (.invokevirtual 84, 3) := by decide +kernel
theorem dX6_told_25 : decode cX6_told 25 = .ok (.istore_n 3, 1) := by decide +kernel
theorem dX6_told_26 : decode cX6_told 26 = .ok (.iload_n 3, 1) := by decide +kernel
theorem dX6_told_27 : decode cX6_told 27 = .ok (.ifCond .ge 7, 3) := by decide +kernel
theorem dX6_told_30 : decode cX6_told 30 = .ok (.ldc2_w 87, 3) := by decide +kernel
theorem dX6_told_33 : decode cX6_told 33 = .ok (.lreturn, 1) := by decide +kernel
theorem dX6_told_34 : decode cX6_told 34 = .ok (.aload_n 0, 1) := by decide +kernel
theorem dX6_told_35 : decode cX6_told 35 = .ok (.iload_n 3, 1) := by decide +kernel
theorem dX6_told_36 : decode cX6_told 36 = .ok (.invokevirtual 25, 3) := by decide +kernel
theorem dX6_told_39 : decode cX6_told 39 = .ok (.ifCond .ne 12, 3) := by decide +kernel
theorem dX6_told_42 : decode cX6_told 42 = .ok (.aload_n 0, 1) := by decide +kernel
theorem dX6_told_43 : decode cX6_told 43 = .ok (.iload_n 3, 1) := by decide +kernel
theorem dX6_told_44 : decode cX6_told 44 = .ok (.invokevirtual 29, 3) := by decide +kernel
theorem dX6_told_47 : decode cX6_told 47 = .ok (.i2l, 1) := by decide +kernel
theorem dX6_told_48 : decode cX6_told 48 = .ok (.goto 9, 3) := by decide +kernel
theorem dX6_told_51 : decode cX6_told 51 = .ok (.aload_n 0, 1) := by decide +kernel
theorem dX6_told_52 : decode cX6_told 52 = .ok (.getfield 8, 3) := by decide +kernel
theorem dX6_told_55 : decode cX6_told 55 = .ok (.iload_n 3, 1) := by decide +kernel
theorem dX6_told_56 : decode cX6_told 56 = .ok (.laload, 1) := by decide +kernel
theorem dX6_told_57 : decode cX6_told 57 = .ok (.lreturn, 1) := by decide +kernel
set_option maxRecDepth 20000 in
theorem ggX6_refusal_X6_isThing : GoodIn wsX6_refusal wsX6_isThing := goodIn_r _ [5, 6, 7, 8, 4, 9, 10, 19, 20, 21, 22, 23, 24, 25, 26, 27, 28] (by decide +kernel) (by decide +kernel)
set_option maxRecDepth 20000 in
theorem gX6_refusal_X6_isThing : GoodIn wsX6_refusal (wsV RX6 53 RX6 yX6_isThing wsX6_isThing) := goodIn_app (goodIn_of _ (by decide +kernel)) ggX6_refusal_X6_isThing
set_option maxRecDepth 20000 in
theorem ggX6_refusal_X6_isElement : GoodIn wsX6_refusal wsX6_isElement := goodIn_r _ [14, 15, 16, 17, 4, 18, 10, 19, 20, 21, 22, 23, 24, 25, 26, 27, 28] (by decide +kernel) (by decide +kernel)
set_option maxRecDepth 20000 in
theorem gX6_refusal_X6_isElement : GoodIn wsX6_refusal (wsV RX6 73 RX6 yX6_isElement wsX6_isElement) := goodIn_app (goodIn_of _ (by decide +kernel)) ggX6_refusal_X6_isElement
theorem dX6_refusal_0 : decode cX6_refusal 0 = .ok (.iload_n 1, 1) := by decide +kernel
theorem dX6_refusal_1 : decode cX6_refusal 1 = .ok (.ifCond .ge 7, 3) := by decide +kernel
theorem dX6_refusal_4 : decode cX6_refusal 4 = .ok (.iconst 1, 1) := by decide +kernel
theorem dX6_refusal_5 : decode cX6_refusal 5 = .ok (.goto 29, 3) := by decide +kernel
theorem dX6_refusal_8 : decode cX6_refusal 8 = .ok (.aload_n 0, 1) := by decide +kernel
theorem dX6_refusal_9 : decode cX6_refusal 9 = .ok (.iload_n 1, 1) := by decide +kernel
theorem dX6_refusal_10 : decode cX6_refusal 10 = .ok (.invokevirtual 53, 3) := by decide +kernel
theorem dX6_refusal_13 : decode cX6_refusal 13 = .ok (.ifCond .eq 7, 3) := by decide +kernel
theorem dX6_refusal_16 : decode cX6_refusal 16 = .ok (.iconst 2, 1) := by decide +kernel
theorem dX6_refusal_17 : decode cX6_refusal 17 = .ok (.goto 17, 3) := by decide +kernel
theorem dX6_refusal_20 : decode cX6_refusal 20 = .ok (.aload_n 0, 1) := by decide +kernel
theorem dX6_refusal_21 : decode cX6_refusal 21 = .ok (.iload_n 1, 1) := by decide +kernel
theorem dX6_refusal_22 : decode cX6_refusal 22 = .ok (.iload_n 2, 1) := by decide +kernel
theorem dX6_refusal_23 : decode cX6_refusal 23 = .ok (.invokevirtual 73, 3) := by decide +kernel
theorem dX6_refusal_26 : decode cX6_refusal 26 = .ok (.ifCond .ne 7, 3) := by decide +kernel
theorem dX6_refusal_29 : decode cX6_refusal 29 = .ok (.iconst 4, 1) := by decide +kernel
theorem dX6_refusal_30 : decode cX6_refusal 30 = .ok (.goto 4, 3) := by decide +kernel
theorem dX6_refusal_33 : decode cX6_refusal 33 = .ok (.iconst 0, 1) := by decide +kernel
theorem dX6_refusal_34 : decode cX6_refusal 34 = .ok (.ireturn, 1) := by decide +kernel
set_option maxRecDepth 20000 in
theorem ggX6_get_X6_in : GoodIn wsX6_get wsX6_in := goodIn_r _ [6, 7, 8, 9, 5, 10, 45, 46, 47, 48, 49, 50, 51, 52, 53, 54] (by decide +kernel) (by decide +kernel)
set_option maxRecDepth 20000 in
theorem gX6_get_X6_in : GoodIn wsX6_get (wsV RX6 50 RX6 yX6_in wsX6_in) := goodIn_app (goodIn_of _ (by decide +kernel)) ggX6_get_X6_in
set_option maxRecDepth 20000 in
theorem ggX6_get_X6_refusal : GoodIn wsX6_get wsX6_refusal := goodIn_r _ [14, 15, 16, 17, 5, 18, 19, 20, 21, 22, 23, 24, 25, 26, 27, 28, 29, 30, 31, 45, 46, 47, 48, 49, 50, 51, 52, 53, 54] (by decide +kernel) (by decide +kernel)
set_option maxRecDepth 20000 in
theorem gX6_get_X6_refusal : GoodIn wsX6_get (wsV RX6 89 RX6 yX6_refusal wsX6_refusal) := goodIn_app (goodIn_of _ (by decide +kernel)) ggX6_get_X6_refusal
set_option maxRecDepth 20000 in
theorem ggX6_get_X6_told : GoodIn wsX6_get wsX6_told := goodIn_r _ [35, 23, 36, 37, 38, 39, 5, 40, 19, 20, 21, 22, 41, 42, 43, 44, 28, 29, 30, 31, 45, 46, 47, 48, 49, 50, 51, 52, 53, 54] (by decide +kernel) (by decide +kernel)
set_option maxRecDepth 20000 in
theorem gX6_get_X6_told : GoodIn wsX6_get (wsV RX6 95 RX6 yX6_told wsX6_told) := goodIn_app (goodIn_of _ (by decide +kernel)) ggX6_get_X6_told
theorem dX6_get_0 : decode cX6_get 0 = .ok (.aload_n 0, 1) := by decide +kernel
theorem dX6_get_1 : decode cX6_get 1 = .ok (.iload_n 1, 1) := by decide +kernel
theorem dX6_get_2 : decode cX6_get 2 = .ok (.invokevirtual 50, 3) := by decide +kernel
theorem dX6_get_5 : decode cX6_get 5 = .ok (.istore_n 3, 1) := by decide +kernel
theorem dX6_get_6 : decode cX6_get 6 = .ok (.aload_n 0, 1) := by decide +kernel
theorem dX6_get_7 : decode cX6_get 7 = .ok (.aload_n 0, 1) := by decide +kernel
theorem dX6_get_8 : decode cX6_get 8 = .ok (.iload_n 3, 1) := by decide +kernel
theorem dX6_get_9 : decode cX6_get 9 = .ok (.iload_n 2, 1) := by decide +kernel
theorem dX6_get_10 : decode cX6_get 10 = .ok (.invokevirtual 89, 3) := by decide +kernel
theorem dX6_get_13 : decode cX6_get 13 = .ok (.putfield 92, 3) := by decide +kernel
theorem dX6_get_16 : decode cX6_get 16 = .ok (.aload_n 0, 1) := by decide +kernel
theorem dX6_get_17 : decode cX6_get 17 = .ok (.getfield 92, 3) := by decide +kernel
theorem dX6_get_20 : decode cX6_get 20 = .ok (.ifCond .le 7, 3) := by decide +kernel
theorem dX6_get_23 : decode cX6_get 23 = .ok (.lconst 0, 1) := by decide +kernel
theorem dX6_get_24 : decode cX6_get 24 = .ok (.goto 9, 3) := by decide +kernel
theorem dX6_get_27 : decode cX6_get 27 = .ok (.aload_n 0, 1) := by decide +kernel
theorem dX6_get_28 : decode cX6_get 28 = .ok (.iload_n 3, 1) := by decide +kernel
theorem dX6_get_29 : decode cX6_get 29 = .ok (.iload_n 2, 1) := by decide +kernel
theorem dX6_get_30 : decode cX6_get 30 = .ok (.invokevirtual 95, 3) := by decide +kernel
theorem dX6_get_33 : decode cX6_get 33 = .ok (.lreturn, 1) := by decide +kernel
set_option maxRecDepth 20000 in
theorem ggX6_deep_X6_in : GoodIn wsX6_deep wsX6_in := goodIn_r _ [7, 8, 9, 10, 6, 11, 32, 33, 34, 35, 36, 37, 38, 39, 40, 41] (by decide +kernel) (by decide +kernel)
set_option maxRecDepth 20000 in
theorem gX6_deep_X6_in : GoodIn wsX6_deep (wsV RX6 50 RX6 yX6_in wsX6_in) := goodIn_app (goodIn_of _ (by decide +kernel)) ggX6_deep_X6_in
set_option maxRecDepth 20000 in
theorem ggX6_deep_X6_isThing : GoodIn wsX6_deep wsX6_isThing := goodIn_r _ [15, 16, 17, 18, 6, 19, 2, 32, 33, 34, 35, 36, 37, 38, 39, 40, 41] (by decide +kernel) (by decide +kernel)
set_option maxRecDepth 20000 in
theorem gX6_deep_X6_isThing : GoodIn wsX6_deep (wsV RX6 53 RX6 yX6_isThing wsX6_isThing) := goodIn_app (goodIn_of _ (by decide +kernel)) ggX6_deep_X6_isThing
set_option maxRecDepth 20000 in
theorem ggX6_deep_X6_kind : GoodIn wsX6_deep wsX6_kind := goodIn_r _ [19, 2, 32, 33, 34, 35, 36, 37, 38, 39, 40, 41] (by decide +kernel) (by decide +kernel)
set_option maxRecDepth 20000 in
theorem gX6_deep_X6_kind : GoodIn wsX6_deep (wsV RX6 25 RX6 yX6_kind wsX6_kind) := goodIn_app (goodIn_of _ (by decide +kernel)) ggX6_deep_X6_kind
set_option maxRecDepth 20000 in
theorem ggX6_deep_X6_isElement : GoodIn wsX6_deep wsX6_isElement := goodIn_r _ [23, 24, 25, 26, 6, 27, 2, 32, 33, 34, 35, 36, 37, 38, 39, 40, 41] (by decide +kernel) (by decide +kernel)
set_option maxRecDepth 20000 in
theorem gX6_deep_X6_isElement : GoodIn wsX6_deep (wsV RX6 73 RX6 yX6_isElement wsX6_isElement) := goodIn_app (goodIn_of _ (by decide +kernel)) ggX6_deep_X6_isElement
set_option maxRecDepth 20000 in
theorem ggX6_deep_X6_object : GoodIn wsX6_deep wsX6_object := goodIn_r _ [31, 2, 32, 33, 34, 35, 36, 37, 38, 39, 40, 41] (by decide +kernel) (by decide +kernel)
set_option maxRecDepth 20000 in
theorem gX6_deep_X6_object : GoodIn wsX6_deep (wsV RX6 84 RX6 yX6_object wsX6_object) := goodIn_app (goodIn_of _ (by decide +kernel)) ggX6_deep_X6_object
theorem dX6_deep_0 : decode cX6_deep 0 = .ok (.aload_n 0, 1) := by decide +kernel
theorem dX6_deep_1 : decode cX6_deep 1 = .ok (.iload_n 1, 1) := by decide +kernel
theorem dX6_deep_2 : decode cX6_deep 2 = .ok (.invokevirtual 50, 3) := by decide +kernel
theorem dX6_deep_5 : decode cX6_deep 5 = .ok (.istore 4, 2) := by decide +kernel
theorem dX6_deep_7 : decode cX6_deep 7 = .ok (.aload_n 0, 1) := by decide +kernel
theorem dX6_deep_8 : decode cX6_deep 8 = .ok (.iload 4, 2) := by decide +kernel
theorem dX6_deep_10 : decode cX6_deep 10 = .ok (.ifCond .ge 7, 3) := by decide +kernel
theorem dX6_deep_13 : decode cX6_deep 13 = .ok (.iconst 1, 1) := by decide +kernel
theorem dX6_deep_14 : decode cX6_deep 14 = .ok (.goto 45, 3) := by decide +kernel
theorem dX6_deep_17 : decode cX6_deep 17 = .ok (.aload_n 0, 1) := by decide +kernel
theorem dX6_deep_18 : decode cX6_deep 18 = .ok (.iload 4, 2) := by decide +kernel
theorem dX6_deep_20 : decode cX6_deep 20 = .ok (.invokevirtual 53, 3) := by decide +kernel
theorem dX6_deep_23 : decode cX6_deep 23 = .ok (.ifCond .eq 7, 3) := by decide +kernel
theorem dX6_deep_26 : decode cX6_deep 26 = .ok (.iconst 2, 1) := by decide +kernel
theorem dX6_deep_27 : decode cX6_deep 27 = .ok (.goto 32, 3) := by decide +kernel
theorem dX6_deep_30 : decode cX6_deep 30 = .ok (.aload_n 0, 1) := by decide +kernel
theorem dX6_deep_31 : decode cX6_deep 31 = .ok (.iload 4, 2) := by decide +kernel
theorem dX6_deep_33 : decode cX6_deep 33 = .ok (.invokevirtual 25, 3) := by decide +kernel
theorem dX6_deep_36 : decode cX6_deep 36 = .ok (.iconst 4, 1) := by decide +kernel
theorem dX6_deep_37 : decode cX6_deep 37 = .ok (.if_icmp .eq 7, 3) := by decide +kernel
theorem dX6_deep_40 : decode cX6_deep 40 = .ok (.iconst 3, 1) := by decide +kernel
theorem dX6_deep_41 : decode cX6_deep 41 = .ok (.goto 18, 3) := by decide +kernel
theorem dX6_deep_44 : decode cX6_deep 44 = .ok (.aload_n 0, 1) := by decide +kernel
theorem dX6_deep_45 : decode cX6_deep 45 = .ok (.iload 4, 2) := by decide +kernel
theorem dX6_deep_47 : decode cX6_deep 47 = .ok (.iload_n 2, 1) := by decide +kernel
theorem dX6_deep_48 : decode cX6_deep 48 = .ok (.invokevirtual 73, 3) := by decide +kernel
theorem dX6_deep_51 : decode cX6_deep 51 = .ok (.ifCond .ne 7, 3) := by decide +kernel
theorem dX6_deep_54 : decode cX6_deep 54 = .ok (.iconst 4, 1) := by decide +kernel
theorem dX6_deep_55 : decode cX6_deep 55 = .ok (.goto 4, 3) := by decide +kernel
theorem dX6_deep_58 : decode cX6_deep 58 = .ok (.iconst 0, 1) := by decide +kernel
theorem dX6_deep_59 : decode cX6_deep 59 = .ok (.putfield 92, 3) := by decide +kernel
theorem dX6_deep_62 : decode cX6_deep 62 = .ok (.aload_n 0, 1) := by decide +kernel
theorem dX6_deep_63 : decode cX6_deep 63 = .ok (.getfield 92, 3) := by decide +kernel
theorem dX6_deep_66 : decode cX6_deep 66 = .ok (.ifCond .le 5, 3) := by decide +kernel
theorem dX6_deep_69 : decode cX6_deep 69 = .ok (.lconst 0, 1) := by decide +kernel
theorem dX6_deep_70 : decode cX6_deep 70 = .ok (.lreturn, 1) := by decide +kernel
theorem dX6_deep_71 : decode cX6_deep 71 = .ok (.aload_n 0, 1) := by decide +kernel
theorem dX6_deep_72 : decode cX6_deep 72 = .ok (.iload 4, 2) := by decide +kernel
theorem dX6_deep_74 : decode cX6_deep 74 = .ok (.iload_n 2, 1) := by decide +kernel
theorem dX6_deep_75 : decode cX6_deep 75 = .ok (.invokevirtual 84, 3) := by decide +kernel
theorem dX6_deep_78 : decode cX6_deep 78 = .ok (.istore 5, 2) := by decide +kernel
theorem dX6_deep_80 : decode cX6_deep 80 = .ok (.aload_n 0, 1) := by decide +kernel
theorem dX6_deep_81 : decode cX6_deep 81 = .ok (.iload 5, 2) := by decide +kernel
theorem dX6_deep_83 : decode cX6_deep 83 = .ok (.ifCond .ge 7, 3) := by decide +kernel
theorem dX6_deep_86 : decode cX6_deep 86 = .ok (.iconst 5, 1) := by decide +kernel
theorem dX6_deep_87 : decode cX6_deep 87 = .ok (.goto 19, 3) := by decide +kernel
theorem dX6_deep_90 : decode cX6_deep 90 = .ok (.aload_n 0, 1) := by decide +kernel
theorem dX6_deep_91 : decode cX6_deep 91 = .ok (.iload 5, 2) := by decide +kernel
theorem dX6_deep_93 : decode cX6_deep 93 = .ok (.iload_n 3, 1) := by decide +kernel
theorem dX6_deep_94 : decode cX6_deep 94 = .ok (.invokevirtual 73, 3) := by decide +kernel
theorem dX6_deep_97 : decode cX6_deep 97 = .ok (.ifCond .ne 8, 3) := by decide +kernel
theorem dX6_deep_100 : decode cX6_deep 100 = .ok (.bipush 6, 2) := by decide +kernel
theorem dX6_deep_102 : decode cX6_deep 102 = .ok (.goto 4, 3) := by decide +kernel
theorem dX6_deep_105 : decode cX6_deep 105 = .ok (.iconst 0, 1) := by decide +kernel
theorem dX6_deep_106 : decode cX6_deep 106 = .ok (.putfield 92, 3) := by decide +kernel
theorem dX6_deep_109 : decode cX6_deep 109 = .ok (.aload_n 0, 1) := by decide +kernel
theorem dX6_deep_110 : decode cX6_deep 110 = .ok (.getfield 92, 3) := by decide +kernel
theorem dX6_deep_113 : decode cX6_deep 113 = .ok (.ifCond .le 7, 3) := by decide +kernel
theorem dX6_deep_116 : decode cX6_deep 116 = .ok (.lconst 0, 1) := by decide +kernel
theorem dX6_deep_117 : decode cX6_deep 117 = .ok (.goto 14, 3) := by decide +kernel
theorem dX6_deep_120 : decode cX6_deep 120 = .ok (.aload_n 0, 1) := by decide +kernel
theorem dX6_deep_121 : decode cX6_deep 121 = .ok (.getfield 8, 3) := by decide +kernel
theorem dX6_deep_124 : decode cX6_deep 124 = .ok (.iload 5, 2) := by decide +kernel
theorem dX6_deep_126 : decode cX6_deep 126 = .ok (.iconst 1, 1) := by decide +kernel
theorem dX6_deep_127 : decode cX6_deep 127 = .ok (.iadd, 1) := by decide +kernel
theorem dX6_deep_128 : decode cX6_deep 128 = .ok (.iload_n 3, 1) := by decide +kernel
theorem dX6_deep_129 : decode cX6_deep 129 = .ok (.iadd, 1) := by decide +kernel
theorem dX6_deep_130 : decode cX6_deep 130 = .ok (.laload, 1) := by decide +kernel
theorem dX6_deep_131 : decode cX6_deep 131 = .ok (.lreturn, 1) := by decide +kernel
theorem dX6_why_0 : decode cX6_why 0 = .ok (.aload_n 0, 1) := by decide +kernel
theorem dX6_why_1 : decode cX6_why 1 = .ok (.getfield 92, 3) := by decide +kernel
theorem dX6_why_4 : decode cX6_why 4 = .ok (.ireturn, 1) := by decide +kernel
set_option maxRecDepth 20000 in
theorem ggX6_lift_X6_in : GoodIn wsX6_lift wsX6_in := goodIn_r _ [6, 1, 7, 8, 5, 9, 39, 40, 41, 42, 43, 44, 45, 46, 47, 48] (by decide +kernel) (by decide +kernel)
set_option maxRecDepth 20000 in
theorem gX6_lift_X6_in : GoodIn wsX6_lift (wsV RX6 50 RX6 yX6_in wsX6_in) := goodIn_app (goodIn_of _ (by decide +kernel)) ggX6_lift_X6_in
set_option maxRecDepth 20000 in
theorem ggX6_lift_X6_isThing : GoodIn wsX6_lift wsX6_isThing := goodIn_r _ [13, 14, 15, 16, 5, 17, 18, 39, 40, 41, 42, 43, 44, 45, 46, 47, 48] (by decide +kernel) (by decide +kernel)
set_option maxRecDepth 20000 in
theorem gX6_lift_X6_isThing : GoodIn wsX6_lift (wsV RX6 53 RX6 yX6_isThing wsX6_isThing) := goodIn_app (goodIn_of _ (by decide +kernel)) ggX6_lift_X6_isThing
set_option maxRecDepth 20000 in
theorem ggX6_lift_X6_isOfObjects : GoodIn wsX6_lift wsX6_isOfObjects := goodIn_r _ [22, 14, 15, 16, 5, 17, 18, 39, 40, 41, 42, 43, 44, 45, 46, 47, 48] (by decide +kernel) (by decide +kernel)
set_option maxRecDepth 20000 in
theorem gX6_lift_X6_isOfObjects : GoodIn wsX6_lift (wsV RX6 70 RX6 yX6_isOfObjects wsX6_isOfObjects) := goodIn_app (goodIn_of _ (by decide +kernel)) ggX6_lift_X6_isOfObjects
set_option maxRecDepth 20000 in
theorem ggX6_lift_X6_isElement : GoodIn wsX6_lift wsX6_isElement := goodIn_r _ [26, 27, 28, 29, 5, 30, 18, 39, 40, 41, 42, 43, 44, 45, 46, 47, 48] (by decide +kernel) (by decide +kernel)
set_option maxRecDepth 20000 in
theorem gX6_lift_X6_isElement : GoodIn wsX6_lift (wsV RX6 73 RX6 yX6_isElement wsX6_isElement) := goodIn_app (goodIn_of _ (by decide +kernel)) ggX6_lift_X6_isElement
set_option maxRecDepth 20000 in
theorem ggX6_lift_X6_object : GoodIn wsX6_lift wsX6_object := goodIn_r _ [34, 18, 39, 40, 41, 42, 43, 44, 45, 46, 47, 48] (by decide +kernel) (by decide +kernel)
set_option maxRecDepth 20000 in
theorem gX6_lift_X6_object : GoodIn wsX6_lift (wsV RX6 84 RX6 yX6_object wsX6_object) := goodIn_app (goodIn_of _ (by decide +kernel)) ggX6_lift_X6_object
set_option maxRecDepth 20000 in
theorem ggX6_lift_X6_lowestEmpty : GoodIn wsX6_lift wsX6_lowestEmpty := goodIn_r _ [38, 1, 39, 40, 41, 42, 43, 44, 45, 46, 47, 48] (by decide +kernel) (by decide +kernel)
set_option maxRecDepth 20000 in
theorem gX6_lift_X6_lowestEmpty : GoodIn wsX6_lift (wsV RX6 38 RX6 yX6_lowestEmpty wsX6_lowestEmpty) := goodIn_app (goodIn_of _ (by decide +kernel)) ggX6_lift_X6_lowestEmpty
theorem dX6_lift_0 : decode cX6_lift 0 = .ok (.aload_n 0, 1) := by decide +kernel
theorem dX6_lift_1 : decode cX6_lift 1 = .ok (.iload_n 1, 1) := by decide +kernel
theorem dX6_lift_2 : decode cX6_lift 2 = .ok (.invokevirtual 50, 3) := by decide +kernel
theorem dX6_lift_5 : decode cX6_lift 5 = .ok (.istore_n 3, 1) := by decide +kernel
theorem dX6_lift_6 : decode cX6_lift 6 = .ok (.iload_n 3, 1) := by decide +kernel
theorem dX6_lift_7 : decode cX6_lift 7 = .ok (.ifCond .ge 5, 3) := by decide +kernel
theorem dX6_lift_10 : decode cX6_lift 10 = .ok (.iconst (-1), 1) := by decide +kernel
theorem dX6_lift_11 : decode cX6_lift 11 = .ok (.ireturn, 1) := by decide +kernel
theorem dX6_lift_12 : decode cX6_lift 12 = .ok (.aload_n 0, 1) := by decide +kernel
theorem dX6_lift_13 : decode cX6_lift 13 = .ok (.iload_n 3, 1) := by decide +kernel
theorem dX6_lift_14 : decode cX6_lift 14 = .ok (.invokevirtual 53, 3) := by decide +kernel
theorem dX6_lift_17 : decode cX6_lift 17 = .ok (.ifCond .eq 6, 3) := by decide +kernel
theorem dX6_lift_20 : decode cX6_lift 20 = .ok (.bipush (-2), 2) := by decide +kernel
theorem dX6_lift_22 : decode cX6_lift 22 = .ok (.ireturn, 1) := by decide +kernel
theorem dX6_lift_23 : decode cX6_lift 23 = .ok (.aload_n 0, 1) := by decide +kernel
theorem dX6_lift_24 : decode cX6_lift 24 = .ok (.iload_n 3, 1) := by decide +kernel
theorem dX6_lift_25 : decode cX6_lift 25 = .ok (.invokevirtual 70, 3) := by decide +kernel
theorem dX6_lift_28 : decode cX6_lift 28 = .ok (.ifCond .ne 6, 3) := by decide +kernel
theorem dX6_lift_31 : decode cX6_lift 31 = .ok (.bipush (-3), 2) := by decide +kernel
theorem dX6_lift_33 : decode cX6_lift 33 = .ok (.ireturn, 1) := by decide +kernel
theorem dX6_lift_34 : decode cX6_lift 34 = .ok (.aload_n 0, 1) := by decide +kernel
theorem dX6_lift_35 : decode cX6_lift 35 = .ok (.iload_n 3, 1) := by decide +kernel
theorem dX6_lift_36 : decode cX6_lift 36 = .ok (.iload_n 2, 1) := by decide +kernel
theorem dX6_lift_37 : decode cX6_lift 37 = .ok (.invokevirtual 73, 3) := by decide +kernel
theorem dX6_lift_40 : decode cX6_lift 40 = .ok (.ifCond .ne 6, 3) := by decide +kernel
theorem dX6_lift_43 : decode cX6_lift 43 = .ok (.bipush (-4), 2) := by decide +kernel
theorem dX6_lift_45 : decode cX6_lift 45 = .ok (.ireturn, 1) := by decide +kernel
theorem dX6_lift_46 : decode cX6_lift 46 = .ok (.aload_n 0, 1) := by decide +kernel
theorem dX6_lift_47 : decode cX6_lift 47 = .ok (.iload_n 3, 1) := by decide +kernel
theorem dX6_lift_48 : decode cX6_lift 48 = .ok (.iload_n 2, 1) := by decide +kernel
theorem dX6_lift_49 : decode cX6_lift 49 = .ok (.invokevirtual 84, 3) := by decide +kernel
theorem dX6_lift_52 : decode cX6_lift 52 = .ok (.istore 4, 2) := by decide +kernel
theorem dX6_lift_54 : decode cX6_lift 54 = .ok (.iload 4, 2) := by decide +kernel
theorem dX6_lift_56 : decode cX6_lift 56 = .ok (.ifCond .ge 6, 3) := by decide +kernel
theorem dX6_lift_59 : decode cX6_lift 59 = .ok (.bipush (-5), 2) := by decide +kernel
theorem dX6_lift_61 : decode cX6_lift 61 = .ok (.ireturn, 1) := by decide +kernel
theorem dX6_lift_62 : decode cX6_lift 62 = .ok (.aload_n 0, 1) := by decide +kernel
theorem dX6_lift_63 : decode cX6_lift 63 = .ok (.invokevirtual 38, 3) := by decide +kernel
theorem dX6_lift_66 : decode cX6_lift 66 = .ok (.istore 5, 2) := by decide +kernel
theorem dX6_lift_68 : decode cX6_lift 68 = .ok (.iload 5, 2) := by decide +kernel
theorem dX6_lift_70 : decode cX6_lift 70 = .ok (.ifCond .ge 6, 3) := by decide +kernel
theorem dX6_lift_73 : decode cX6_lift 73 = .ok (.bipush (-6), 2) := by decide +kernel
theorem dX6_lift_75 : decode cX6_lift 75 = .ok (.ireturn, 1) := by decide +kernel
theorem dX6_lift_76 : decode cX6_lift 76 = .ok (.aload_n 0, 1) := by decide +kernel
theorem dX6_lift_77 : decode cX6_lift 77 = .ok (.getfield 14, 3) := by decide +kernel
theorem dX6_lift_80 : decode cX6_lift 80 = .ok (.iload 5, 2) := by decide +kernel
theorem dX6_lift_82 : decode cX6_lift 82 = .ok (.iload 4, 2) := by decide +kernel
theorem dX6_lift_84 : decode cX6_lift 84 = .ok (.iconst 1, 1) := by decide +kernel
theorem dX6_lift_85 : decode cX6_lift 85 = .ok (.iadd, 1) := by decide +kernel
theorem dX6_lift_86 : decode cX6_lift 86 = .ok (.iastore, 1) := by decide +kernel
theorem dX6_lift_87 : decode cX6_lift 87 = .ok (.iload 5, 2) := by decide +kernel
theorem dX6_lift_89 : decode cX6_lift 89 = .ok (.ireturn, 1) := by decide +kernel
set_option maxRecDepth 20000 in
theorem ggX6_bars_X6_isThing : GoodIn wsX6_bars wsX6_isThing := goodIn_r _ [5, 6, 7, 8, 4, 9, 10, 19, 20, 21, 22, 23, 24, 25, 26, 27, 28] (by decide +kernel) (by decide +kernel)
set_option maxRecDepth 20000 in
theorem gX6_bars_X6_isThing : GoodIn wsX6_bars (wsV RX6 53 RX6 yX6_isThing wsX6_isThing) := goodIn_app (goodIn_of _ (by decide +kernel)) ggX6_bars_X6_isThing
set_option maxRecDepth 20000 in
theorem ggX6_bars_X6_isOfObjects : GoodIn wsX6_bars wsX6_isOfObjects := goodIn_r _ [14, 6, 7, 8, 4, 9, 10, 19, 20, 21, 22, 23, 24, 25, 26, 27, 28] (by decide +kernel) (by decide +kernel)
set_option maxRecDepth 20000 in
theorem gX6_bars_X6_isOfObjects : GoodIn wsX6_bars (wsV RX6 70 RX6 yX6_isOfObjects wsX6_isOfObjects) := goodIn_app (goodIn_of _ (by decide +kernel)) ggX6_bars_X6_isOfObjects
set_option maxRecDepth 20000 in
theorem ggX6_bars_X6_kind : GoodIn wsX6_bars wsX6_kind := goodIn_r _ [9, 10, 19, 20, 21, 22, 23, 24, 25, 26, 27, 28] (by decide +kernel) (by decide +kernel)
set_option maxRecDepth 20000 in
theorem gX6_bars_X6_kind : GoodIn wsX6_bars (wsV RX6 25 RX6 yX6_kind wsX6_kind) := goodIn_app (goodIn_of _ (by decide +kernel)) ggX6_bars_X6_kind
set_option maxRecDepth 20000 in
theorem ggX6_bars_X6_low : GoodIn wsX6_bars wsX6_low := goodIn_r _ [18, 10, 19, 20, 21, 22, 23, 24, 25, 26, 27, 28] (by decide +kernel) (by decide +kernel)
set_option maxRecDepth 20000 in
theorem gX6_bars_X6_low : GoodIn wsX6_bars (wsV RX6 29 RX6 yX6_low wsX6_low) := goodIn_app (goodIn_of _ (by decide +kernel)) ggX6_bars_X6_low
theorem dX6_bars_0 : decode cX6_bars 0 = .ok (.iload_n 1, 1) := by decide +kernel
theorem dX6_bars_1 : decode cX6_bars 1 = .ok (.ifCond .lt 7, 3) := by decide +kernel
theorem dX6_bars_4 : decode cX6_bars 4 = .ok (.iload_n 3, 1) := by decide +kernel
theorem dX6_bars_5 : decode cX6_bars 5 = .ok (.ifCond .ge 5, 3) := by decide +kernel
theorem dX6_bars_8 : decode cX6_bars 8 = .ok (.iconst 1, 1) := by decide +kernel
theorem dX6_bars_9 : decode cX6_bars 9 = .ok (.ireturn, 1) := by decide +kernel
theorem dX6_bars_10 : decode cX6_bars 10 = .ok (.aload_n 0, 1) := by decide +kernel
theorem dX6_bars_11 : decode cX6_bars 11 = .ok (.iload_n 1, 1) := by decide +kernel
theorem dX6_bars_12 : decode cX6_bars 12 = .ok (.invokevirtual 53, 3) := by decide +kernel
theorem dX6_bars_15 : decode cX6_bars 15 = .ok (.ifCond .ne 11, 3) := by decide +kernel
theorem dX6_bars_18 : decode cX6_bars 18 = .ok (.aload_n 0, 1) := by decide +kernel
theorem dX6_bars_19 : decode cX6_bars 19 = .ok (.iload_n 3, 1) := by decide +kernel
theorem dX6_bars_20 : decode cX6_bars 20 = .ok (.invokevirtual 53, 3) := by decide +kernel
theorem dX6_bars_23 : decode cX6_bars 23 = .ok (.ifCond .eq 5, 3) := by decide +kernel
theorem dX6_bars_26 : decode cX6_bars 26 = .ok (.iconst 2, 1) := by decide +kernel
theorem dX6_bars_27 : decode cX6_bars 27 = .ok (.ireturn, 1) := by decide +kernel
theorem dX6_bars_28 : decode cX6_bars 28 = .ok (.aload_n 0, 1) := by decide +kernel
theorem dX6_bars_29 : decode cX6_bars 29 = .ok (.iload_n 1, 1) := by decide +kernel
theorem dX6_bars_30 : decode cX6_bars 30 = .ok (.invokevirtual 70, 3) := by decide +kernel
theorem dX6_bars_33 : decode cX6_bars 33 = .ok (.aload_n 0, 1) := by decide +kernel
theorem dX6_bars_34 : decode cX6_bars 34 = .ok (.iload_n 3, 1) := by decide +kernel
theorem dX6_bars_35 : decode cX6_bars 35 = .ok (.invokevirtual 70, 3) := by decide +kernel
theorem dX6_bars_38 : decode cX6_bars 38 = .ok (.if_icmp .ne 24, 3) := by decide +kernel
theorem dX6_bars_41 : decode cX6_bars 41 = .ok (.aload_n 0, 1) := by decide +kernel
theorem dX6_bars_42 : decode cX6_bars 42 = .ok (.iload_n 1, 1) := by decide +kernel
theorem dX6_bars_43 : decode cX6_bars 43 = .ok (.invokevirtual 70, 3) := by decide +kernel
theorem dX6_bars_46 : decode cX6_bars 46 = .ok (.ifCond .ne 18, 3) := by decide +kernel
theorem dX6_bars_49 : decode cX6_bars 49 = .ok (.aload_n 0, 1) := by decide +kernel
theorem dX6_bars_50 : decode cX6_bars 50 = .ok (.iload_n 1, 1) := by decide +kernel
theorem dX6_bars_51 : decode cX6_bars 51 = .ok (.invokevirtual 25, 3) := by decide +kernel
theorem dX6_bars_54 : decode cX6_bars 54 = .ok (.aload_n 0, 1) := by decide +kernel
theorem dX6_bars_55 : decode cX6_bars 55 = .ok (.iload_n 3, 1) := by decide +kernel
theorem dX6_bars_56 : decode cX6_bars 56 = .ok (.invokevirtual 25, 3) := by decide +kernel
theorem dX6_bars_59 : decode cX6_bars 59 = .ok (.if_icmp .eq 5, 3) := by decide +kernel
theorem dX6_bars_62 : decode cX6_bars 62 = .ok (.iconst 3, 1) := by decide +kernel
theorem dX6_bars_63 : decode cX6_bars 63 = .ok (.ireturn, 1) := by decide +kernel
theorem dX6_bars_64 : decode cX6_bars 64 = .ok (.iload_n 2, 1) := by decide +kernel
theorem dX6_bars_65 : decode cX6_bars 65 = .ok (.ifCond .lt 13, 3) := by decide +kernel
theorem dX6_bars_68 : decode cX6_bars 68 = .ok (.iload 4, 2) := by decide +kernel
theorem dX6_bars_70 : decode cX6_bars 70 = .ok (.ifCond .lt 8, 3) := by decide +kernel
theorem dX6_bars_73 : decode cX6_bars 73 = .ok (.iload 5, 2) := by decide +kernel
theorem dX6_bars_75 : decode cX6_bars 75 = .ok (.ifCond .ge 7, 3) := by decide +kernel
theorem dX6_bars_78 : decode cX6_bars 78 = .ok (.iconst 1, 1) := by decide +kernel
theorem dX6_bars_79 : decode cX6_bars 79 = .ok (.goto 4, 3) := by decide +kernel
theorem dX6_bars_82 : decode cX6_bars 82 = .ok (.iconst 0, 1) := by decide +kernel
theorem dX6_bars_83 : decode cX6_bars 83 = .ok (.istore 6, 2) := by decide +kernel
theorem dX6_bars_85 : decode cX6_bars 85 = .ok (.iload 6, 2) := by decide +kernel
theorem dX6_bars_87 : decode cX6_bars 87 = .ok (.ifCond .ne 36, 3) := by decide +kernel
theorem dX6_bars_90 : decode cX6_bars 90 = .ok (.iload_n 2, 1) := by decide +kernel
theorem dX6_bars_91 : decode cX6_bars 91 = .ok (.i2l, 1) := by decide +kernel
theorem dX6_bars_92 : decode cX6_bars 92 = .ok (.iload 5, 2) := by decide +kernel
theorem dX6_bars_94 : decode cX6_bars 94 = .ok (.i2l, 1) := by decide +kernel
theorem dX6_bars_95 : decode cX6_bars 95 = .ok (.ladd, 1) := by decide +kernel
theorem dX6_bars_96 : decode cX6_bars 96 = .ok (.aload_n 0, 1) := by decide +kernel
theorem dX6_bars_97 : decode cX6_bars 97 = .ok (.iload_n 1, 1) := by decide +kernel
theorem dX6_bars_98 : decode cX6_bars 98 = .ok (.invokevirtual 29, 3) := by decide +kernel
theorem dX6_bars_101 : decode cX6_bars 101 = .ok (.i2l, 1) := by decide +kernel
theorem dX6_bars_102 : decode cX6_bars 102 = .ok (.lcmp, 1) := by decide +kernel
theorem dX6_bars_103 : decode cX6_bars 103 = .ok (.ifCond .gt 20, 3) := by decide +kernel
theorem dX6_bars_106 : decode cX6_bars 106 = .ok (.iload 4, 2) := by decide +kernel
theorem dX6_bars_108 : decode cX6_bars 108 = .ok (.i2l, 1) := by decide +kernel
theorem dX6_bars_109 : decode cX6_bars 109 = .ok (.iload 5, 2) := by decide +kernel
theorem dX6_bars_111 : decode cX6_bars 111 = .ok (.i2l, 1) := by decide +kernel
theorem dX6_bars_112 : decode cX6_bars 112 = .ok (.ladd, 1) := by decide +kernel
theorem dX6_bars_113 : decode cX6_bars 113 = .ok (.aload_n 0, 1) := by decide +kernel
theorem dX6_bars_114 : decode cX6_bars 114 = .ok (.iload_n 3, 1) := by decide +kernel
theorem dX6_bars_115 : decode cX6_bars 115 = .ok (.invokevirtual 29, 3) := by decide +kernel
theorem dX6_bars_118 : decode cX6_bars 118 = .ok (.i2l, 1) := by decide +kernel
theorem dX6_bars_119 : decode cX6_bars 119 = .ok (.lcmp, 1) := by decide +kernel
theorem dX6_bars_120 : decode cX6_bars 120 = .ok (.ifCond .le 7, 3) := by decide +kernel
theorem dX6_bars_123 : decode cX6_bars 123 = .ok (.iconst 4, 1) := by decide +kernel
theorem dX6_bars_124 : decode cX6_bars 124 = .ok (.goto 4, 3) := by decide +kernel
theorem dX6_bars_127 : decode cX6_bars 127 = .ok (.iconst 0, 1) := by decide +kernel
theorem dX6_bars_128 : decode cX6_bars 128 = .ok (.ireturn, 1) := by decide +kernel
set_option maxRecDepth 20000 in
theorem ggX6_move_X6_in : GoodIn wsX6_move wsX6_in := goodIn_r _ [10, 11, 12, 13, 9, 14, 43, 44, 45, 46, 47, 48, 49, 50, 51, 52] (by decide +kernel) (by decide +kernel)
set_option maxRecDepth 20000 in
theorem gX6_move_X6_in : GoodIn wsX6_move (wsV RX6 50 RX6 yX6_in wsX6_in) := goodIn_app (goodIn_of _ (by decide +kernel)) ggX6_move_X6_in
set_option maxRecDepth 20000 in
theorem ggX6_move_X6_bars : GoodIn wsX6_move wsX6_bars := goodIn_r _ [18, 19, 20, 21, 9, 22, 23, 24, 25, 26, 3, 27, 28, 29, 30, 31, 32, 33, 34, 43, 44, 45, 46, 47, 48, 49, 50, 51, 52] (by decide +kernel) (by decide +kernel)
set_option maxRecDepth 20000 in
theorem gX6_move_X6_bars : GoodIn wsX6_move (wsV RX6 102 RX6 yX6_bars wsX6_bars) := goodIn_app (goodIn_of _ (by decide +kernel)) ggX6_move_X6_bars
set_option maxRecDepth 20000 in
theorem ggX6_move_X6_isOfObjects : GoodIn wsX6_move wsX6_isOfObjects := goodIn_r _ [30, 23, 24, 25, 9, 26, 3, 43, 44, 45, 46, 47, 48, 49, 50, 51, 52] (by decide +kernel) (by decide +kernel)
set_option maxRecDepth 20000 in
theorem gX6_move_X6_isOfObjects : GoodIn wsX6_move (wsV RX6 70 RX6 yX6_isOfObjects wsX6_isOfObjects) := goodIn_app (goodIn_of _ (by decide +kernel)) ggX6_move_X6_isOfObjects
set_option maxRecDepth 20000 in
theorem ggX6_move_X6_object : GoodIn wsX6_move wsX6_object := goodIn_r _ [38, 3, 43, 44, 45, 46, 47, 48, 49, 50, 51, 52] (by decide +kernel) (by decide +kernel)
set_option maxRecDepth 20000 in
theorem gX6_move_X6_object : GoodIn wsX6_move (wsV RX6 84 RX6 yX6_object wsX6_object) := goodIn_app (goodIn_of _ (by decide +kernel)) ggX6_move_X6_object
set_option maxRecDepth 20000 in
theorem ggX6_move_X6_kind : GoodIn wsX6_move wsX6_kind := goodIn_r _ [26, 3, 43, 44, 45, 46, 47, 48, 49, 50, 51, 52] (by decide +kernel) (by decide +kernel)
set_option maxRecDepth 20000 in
theorem gX6_move_X6_kind : GoodIn wsX6_move (wsV RX6 25 RX6 yX6_kind wsX6_kind) := goodIn_app (goodIn_of _ (by decide +kernel)) ggX6_move_X6_kind
set_option maxRecDepth 20000 in
theorem ggX6_move_X6_fits : GoodIn wsX6_move wsX6_fits := goodIn_r _ [42, 23, 24, 25, 9, 26, 3, 43, 44, 45, 46, 47, 48, 49, 50, 51, 52] (by decide +kernel) (by decide +kernel)
set_option maxRecDepth 20000 in
theorem gX6_move_X6_fits : GoodIn wsX6_move (wsV RX6 81 RX6 yX6_fits wsX6_fits) := goodIn_app (goodIn_of _ (by decide +kernel)) ggX6_move_X6_fits
theorem dX6_move_0 : decode cX6_move 0 = .ok (.aload_n 0, 1) := by decide +kernel
theorem dX6_move_1 : decode cX6_move 1 = .ok (.iload_n 1, 1) := by decide +kernel
theorem dX6_move_2 : decode cX6_move 2 = .ok (.invokevirtual 50, 3) := by decide +kernel
theorem dX6_move_5 : decode cX6_move 5 = .ok (.istore 6, 2) := by decide +kernel
theorem dX6_move_7 : decode cX6_move 7 = .ok (.aload_n 0, 1) := by decide +kernel
theorem dX6_move_8 : decode cX6_move 8 = .ok (.iload_n 3, 1) := by decide +kernel
theorem dX6_move_9 : decode cX6_move 9 = .ok (.invokevirtual 50, 3) := by decide +kernel
theorem dX6_move_12 : decode cX6_move 12 = .ok (.istore 7, 2) := by decide +kernel
theorem dX6_move_14 : decode cX6_move 14 = .ok (.aload_n 0, 1) := by decide +kernel
theorem dX6_move_15 : decode cX6_move 15 = .ok (.iconst 0, 1) := by decide +kernel
theorem dX6_move_16 : decode cX6_move 16 = .ok (.putfield 99, 3) := by decide +kernel
theorem dX6_move_19 : decode cX6_move 19 = .ok (.aload_n 0, 1) := by decide +kernel
theorem dX6_move_20 : decode cX6_move 20 = .ok (.aload_n 0, 1) := by decide +kernel
theorem dX6_move_21 : decode cX6_move 21 = .ok (.iload 6, 2) := by decide +kernel
theorem dX6_move_23 : decode cX6_move 23 = .ok (.iload_n 2, 1) := by decide +kernel
theorem dX6_move_24 : decode cX6_move 24 = .ok (.iload 7, 2) := by decide +kernel
theorem dX6_move_26 : decode cX6_move 26 = .ok (.iload 4, 2) := by decide +kernel
theorem dX6_move_28 : decode cX6_move 28 = .ok (.iload 5, 2) := by decide +kernel
theorem dX6_move_30 : decode cX6_move 30 = .ok (.invokevirtual 102, 3) := by decide +kernel
theorem dX6_move_33 : decode cX6_move 33 = .ok (.putfield 106, 3) := by decide +kernel
theorem dX6_move_36 : decode cX6_move 36 = .ok (.aload_n 0, 1) := by decide +kernel
theorem dX6_move_37 : decode cX6_move 37 = .ok (.getfield 106, 3) := by decide +kernel
theorem dX6_move_40 : decode cX6_move 40 = .ok (.ifCond .ne 157, 3) := by decide +kernel
theorem dX6_move_43 : decode cX6_move 43 = .ok (.iconst 0, 1) := by decide +kernel
theorem dX6_move_44 : decode cX6_move 44 = .ok (.istore 8, 2) := by decide +kernel
theorem dX6_move_46 : decode cX6_move 46 = .ok (.iload 8, 2) := by decide +kernel
theorem dX6_move_48 : decode cX6_move 48 = .ok (.iload 5, 2) := by decide +kernel
theorem dX6_move_50 : decode cX6_move 50 = .ok (.if_icmp .ge 41, 3) := by decide +kernel
theorem dX6_move_53 : decode cX6_move 53 = .ok (.aload_n 0, 1) := by decide +kernel
theorem dX6_move_54 : decode cX6_move 54 = .ok (.iload 7, 2) := by decide +kernel
theorem dX6_move_56 : decode cX6_move 56 = .ok (.invokevirtual 70, 3) := by decide +kernel
theorem dX6_move_59 : decode cX6_move 59 = .ok (.ifCond .eq 26, 3) := by decide +kernel
theorem dX6_move_62 : decode cX6_move 62 = .ok (.aload_n 0, 1) := by decide +kernel
theorem dX6_move_63 : decode cX6_move 63 = .ok (.aload_n 0, 1) := by decide +kernel
theorem dX6_move_64 : decode cX6_move 64 = .ok (.iload 6, 2) := by decide +kernel
theorem dX6_move_66 : decode cX6_move 66 = .ok (.iload_n 2, 1) := by decide +kernel
theorem dX6_move_67 : decode cX6_move 67 = .ok (.iload 8, 2) := by decide +kernel
theorem dX6_move_69 : decode cX6_move 69 = .ok (.iadd, 1) := by decide +kernel
theorem dX6_move_70 : decode cX6_move 70 = .ok (.invokevirtual 84, 3) := by decide +kernel
theorem dX6_move_73 : decode cX6_move 73 = .ok (.aload_n 0, 1) := by decide +kernel
theorem dX6_move_74 : decode cX6_move 74 = .ok (.iload 7, 2) := by decide +kernel
theorem dX6_move_76 : decode cX6_move 76 = .ok (.invokevirtual 25, 3) := by decide +kernel
theorem dX6_move_79 : decode cX6_move 79 = .ok (.invokevirtual 81, 3) := by decide +kernel
theorem dX6_move_82 : decode cX6_move 82 = .ok (.ifCond .eq 9, 3) := by decide +kernel
theorem dX6_move_85 : decode cX6_move 85 = .ok (.iinc 8 1, 3) := by decide +kernel
theorem dX6_move_88 : decode cX6_move 88 = .ok (.goto (-42), 3) := by decide +kernel
theorem dX6_move_91 : decode cX6_move 91 = .ok (.iload 6, 2) := by decide +kernel
theorem dX6_move_93 : decode cX6_move 93 = .ok (.iload 7, 2) := by decide +kernel
theorem dX6_move_95 : decode cX6_move 95 = .ok (.if_icmp .ne 13, 3) := by decide +kernel
theorem dX6_move_98 : decode cX6_move 98 = .ok (.iload_n 2, 1) := by decide +kernel
theorem dX6_move_99 : decode cX6_move 99 = .ok (.iload 4, 2) := by decide +kernel
theorem dX6_move_101 : decode cX6_move 101 = .ok (.if_icmp .ge 7, 3) := by decide +kernel
theorem dX6_move_104 : decode cX6_move 104 = .ok (.iconst 1, 1) := by decide +kernel
theorem dX6_move_105 : decode cX6_move 105 = .ok (.goto 4, 3) := by decide +kernel
theorem dX6_move_108 : decode cX6_move 108 = .ok (.iconst 0, 1) := by decide +kernel
theorem dX6_move_109 : decode cX6_move 109 = .ok (.istore 9, 2) := by decide +kernel
theorem dX6_move_111 : decode cX6_move 111 = .ok (.iconst 0, 1) := by decide +kernel
theorem dX6_move_112 : decode cX6_move 112 = .ok (.istore 10, 2) := by decide +kernel
theorem dX6_move_114 : decode cX6_move 114 = .ok (.iload 10, 2) := by decide +kernel
theorem dX6_move_116 : decode cX6_move 116 = .ok (.iload 8, 2) := by decide +kernel
theorem dX6_move_118 : decode cX6_move 118 = .ok (.if_icmp .ge 57, 3) := by decide +kernel
theorem dX6_move_121 : decode cX6_move 121 = .ok (.iload 9, 2) := by decide +kernel
theorem dX6_move_123 : decode cX6_move 123 = .ok (.ifCond .eq 13, 3) := by decide +kernel
theorem dX6_move_126 : decode cX6_move 126 = .ok (.iload 8, 2) := by decide +kernel
theorem dX6_move_128 : decode cX6_move 128 = .ok (.iconst 1, 1) := by decide +kernel
theorem dX6_move_129 : decode cX6_move 129 = .ok (.isub, 1) := by decide +kernel
theorem dX6_move_130 : decode cX6_move 130 = .ok (.iload 10, 2) := by decide +kernel
theorem dX6_move_132 : decode cX6_move 132 = .ok (.isub, 1) := by decide +kernel
theorem dX6_move_133 : decode cX6_move 133 = .ok (.goto 5, 3) := by decide +kernel
theorem dX6_move_136 : decode cX6_move 136 = .ok (.iload 10, 2) := by decide +kernel
theorem dX6_move_138 : decode cX6_move 138 = .ok (.istore 11, 2) := by decide +kernel
theorem dX6_move_140 : decode cX6_move 140 = .ok (.aload_n 0, 1) := by decide +kernel
theorem dX6_move_141 : decode cX6_move 141 = .ok (.getfield 8, 3) := by decide +kernel
theorem dX6_move_144 : decode cX6_move 144 = .ok (.iload 7, 2) := by decide +kernel
theorem dX6_move_146 : decode cX6_move 146 = .ok (.iconst 1, 1) := by decide +kernel
theorem dX6_move_147 : decode cX6_move 147 = .ok (.iadd, 1) := by decide +kernel
theorem dX6_move_148 : decode cX6_move 148 = .ok (.iload 4, 2) := by decide +kernel
theorem dX6_move_150 : decode cX6_move 150 = .ok (.iadd, 1) := by decide +kernel
theorem dX6_move_151 : decode cX6_move 151 = .ok (.iload 11, 2) := by decide +kernel
theorem dX6_move_153 : decode cX6_move 153 = .ok (.iadd, 1) := by decide +kernel
theorem dX6_move_154 : decode cX6_move 154 = .ok (.aload_n 0, 1) := by decide +kernel
theorem dX6_move_155 : decode cX6_move 155 = .ok (.getfield 8, 3) := by decide +kernel
theorem dX6_move_158 : decode cX6_move 158 = .ok (.iload 6, 2) := by decide +kernel
theorem dX6_move_160 : decode cX6_move 160 = .ok (.iconst 1, 1) := by decide +kernel
theorem dX6_move_161 : decode cX6_move 161 = .ok (.iadd, 1) := by decide +kernel
theorem dX6_move_162 : decode cX6_move 162 = .ok (.iload_n 2, 1) := by decide +kernel
theorem dX6_move_163 : decode cX6_move 163 = .ok (.iadd, 1) := by decide +kernel
theorem dX6_move_164 : decode cX6_move 164 = .ok (.iload 11, 2) := by decide +kernel
theorem dX6_move_166 : decode cX6_move 166 = .ok (.iadd, 1) := by decide +kernel
theorem dX6_move_167 : decode cX6_move 167 = .ok (.laload, 1) := by decide +kernel
theorem dX6_move_168 : decode cX6_move 168 = .ok (.lastore, 1) := by decide +kernel
theorem dX6_move_169 : decode cX6_move 169 = .ok (.iinc 10 1, 3) := by decide +kernel
theorem dX6_move_172 : decode cX6_move 172 = .ok (.goto (-58), 3) := by decide +kernel
theorem dX6_move_175 : decode cX6_move 175 = .ok (.aload_n 0, 1) := by decide +kernel
theorem dX6_move_176 : decode cX6_move 176 = .ok (.iload 8, 2) := by decide +kernel
theorem dX6_move_178 : decode cX6_move 178 = .ok (.putfield 99, 3) := by decide +kernel
theorem dX6_move_181 : decode cX6_move 181 = .ok (.aload_n 0, 1) := by decide +kernel
theorem dX6_move_182 : decode cX6_move 182 = .ok (.iload 8, 2) := by decide +kernel
theorem dX6_move_184 : decode cX6_move 184 = .ok (.iload 5, 2) := by decide +kernel
theorem dX6_move_186 : decode cX6_move 186 = .ok (.if_icmp .ge 7, 3) := by decide +kernel
theorem dX6_move_189 : decode cX6_move 189 = .ok (.iconst 5, 1) := by decide +kernel
theorem dX6_move_190 : decode cX6_move 190 = .ok (.goto 4, 3) := by decide +kernel
theorem dX6_move_193 : decode cX6_move 193 = .ok (.iconst 0, 1) := by decide +kernel
theorem dX6_move_194 : decode cX6_move 194 = .ok (.putfield 106, 3) := by decide +kernel
theorem dX6_move_197 : decode cX6_move 197 = .ok (.aload_n 0, 1) := by decide +kernel
theorem dX6_move_198 : decode cX6_move 198 = .ok (.getfield 106, 3) := by decide +kernel
theorem dX6_move_201 : decode cX6_move 201 = .ok (.ifCond .ne 16, 3) := by decide +kernel
theorem dX6_move_204 : decode cX6_move 204 = .ok (.aload_n 0, 1) := by decide +kernel
theorem dX6_move_205 : decode cX6_move 205 = .ok (.dup, 1) := by decide +kernel
theorem dX6_move_206 : decode cX6_move 206 = .ok (.getfield 109, 3) := by decide +kernel
theorem dX6_move_209 : decode cX6_move 209 = .ok (.iconst 1, 1) := by decide +kernel
theorem dX6_move_210 : decode cX6_move 210 = .ok (.iadd, 1) := by decide +kernel
theorem dX6_move_211 : decode cX6_move 211 = .ok (.putfield 109, 3) := by decide +kernel
theorem dX6_move_214 : decode cX6_move 214 = .ok (.goto 13, 3) := by decide +kernel
theorem dX6_move_217 : decode cX6_move 217 = .ok (.aload_n 0, 1) := by decide +kernel
theorem dX6_move_218 : decode cX6_move 218 = .ok (.dup, 1) := by decide +kernel
theorem dX6_move_219 : decode cX6_move 219 = .ok (.getfield 112, 3) := by decide +kernel
theorem dX6_move_222 : decode cX6_move 222 = .ok (.iconst 1, 1) := by decide +kernel
theorem dX6_move_223 : decode cX6_move 223 = .ok (.iadd, 1) := by decide +kernel
theorem dX6_move_224 : decode cX6_move 224 = .ok (.putfield 112, 3) := by decide +kernel
theorem dX6_move_227 : decode cX6_move 227 = .ok (.aload_n 0, 1) := by decide +kernel
theorem dX6_move_228 : decode cX6_move 228 = .ok (.getfield 106, 3) := by decide +kernel
theorem dX6_move_231 : decode cX6_move 231 = .ok (.ireturn, 1) := by decide +kernel
theorem dX6_moved_0 : decode cX6_moved 0 = .ok (.aload_n 0, 1) := by decide +kernel
theorem dX6_moved_1 : decode cX6_moved 1 = .ok (.getfield 99, 3) := by decide +kernel
theorem dX6_moved_4 : decode cX6_moved 4 = .ok (.ireturn, 1) := by decide +kernel
theorem dX6_plan_0 : decode cX6_plan 0 = .ok (.aload_n 0, 1) := by decide +kernel
theorem dX6_plan_1 : decode cX6_plan 1 = .ok (.getfield 115, 3) := by decide +kernel
theorem dX6_plan_4 : decode cX6_plan 4 = .ok (.bipush 64, 2) := by decide +kernel
theorem dX6_plan_6 : decode cX6_plan 6 = .ok (.if_icmp .ne 5, 3) := by decide +kernel
theorem dX6_plan_9 : decode cX6_plan 9 = .ok (.iconst (-1), 1) := by decide +kernel
theorem dX6_plan_10 : decode cX6_plan 10 = .ok (.ireturn, 1) := by decide +kernel
theorem dX6_plan_11 : decode cX6_plan 11 = .ok (.aload_n 0, 1) := by decide +kernel
theorem dX6_plan_12 : decode cX6_plan 12 = .ok (.getfield 18, 3) := by decide +kernel
theorem dX6_plan_15 : decode cX6_plan 15 = .ok (.iconst 5, 1) := by decide +kernel
theorem dX6_plan_16 : decode cX6_plan 16 = .ok (.aload_n 0, 1) := by decide +kernel
theorem dX6_plan_17 : decode cX6_plan 17 = .ok (.getfield 115, 3) := by decide +kernel
theorem dX6_plan_20 : decode cX6_plan 20 = .ok (.imul, 1) := by decide +kernel
theorem dX6_plan_21 : decode cX6_plan 21 = .ok (.iload_n 1, 1) := by decide +kernel
theorem dX6_plan_22 : decode cX6_plan 22 = .ok (.iastore, 1) := by decide +kernel
theorem dX6_plan_23 : decode cX6_plan 23 = .ok (.aload_n 0, 1) := by decide +kernel
theorem dX6_plan_24 : decode cX6_plan 24 = .ok (.getfield 18, 3) := by decide +kernel
theorem dX6_plan_27 : decode cX6_plan 27 = .ok (.iconst 5, 1) := by decide +kernel
theorem dX6_plan_28 : decode cX6_plan 28 = .ok (.aload_n 0, 1) := by decide +kernel
theorem dX6_plan_29 : decode cX6_plan 29 = .ok (.getfield 115, 3) := by decide +kernel
theorem dX6_plan_32 : decode cX6_plan 32 = .ok (.imul, 1) := by decide +kernel
theorem dX6_plan_33 : decode cX6_plan 33 = .ok (.iconst 1, 1) := by decide +kernel
theorem dX6_plan_34 : decode cX6_plan 34 = .ok (.iadd, 1) := by decide +kernel
theorem dX6_plan_35 : decode cX6_plan 35 = .ok (.iload_n 2, 1) := by decide +kernel
theorem dX6_plan_36 : decode cX6_plan 36 = .ok (.iastore, 1) := by decide +kernel
theorem dX6_plan_37 : decode cX6_plan 37 = .ok (.aload_n 0, 1) := by decide +kernel
theorem dX6_plan_38 : decode cX6_plan 38 = .ok (.getfield 18, 3) := by decide +kernel
theorem dX6_plan_41 : decode cX6_plan 41 = .ok (.iconst 5, 1) := by decide +kernel
theorem dX6_plan_42 : decode cX6_plan 42 = .ok (.aload_n 0, 1) := by decide +kernel
theorem dX6_plan_43 : decode cX6_plan 43 = .ok (.getfield 115, 3) := by decide +kernel
theorem dX6_plan_46 : decode cX6_plan 46 = .ok (.imul, 1) := by decide +kernel
theorem dX6_plan_47 : decode cX6_plan 47 = .ok (.iconst 2, 1) := by decide +kernel
theorem dX6_plan_48 : decode cX6_plan 48 = .ok (.iadd, 1) := by decide +kernel
theorem dX6_plan_49 : decode cX6_plan 49 = .ok (.iload_n 3, 1) := by decide +kernel
theorem dX6_plan_50 : decode cX6_plan 50 = .ok (.iastore, 1) := by decide +kernel
theorem dX6_plan_51 : decode cX6_plan 51 = .ok (.aload_n 0, 1) := by decide +kernel
theorem dX6_plan_52 : decode cX6_plan 52 = .ok (.getfield 18, 3) := by decide +kernel
theorem dX6_plan_55 : decode cX6_plan 55 = .ok (.iconst 5, 1) := by decide +kernel
theorem dX6_plan_56 : decode cX6_plan 56 = .ok (.aload_n 0, 1) := by decide +kernel
theorem dX6_plan_57 : decode cX6_plan 57 = .ok (.getfield 115, 3) := by decide +kernel
theorem dX6_plan_60 : decode cX6_plan 60 = .ok (.imul, 1) := by decide +kernel
theorem dX6_plan_61 : decode cX6_plan 61 = .ok (.iconst 3, 1) := by decide +kernel
theorem dX6_plan_62 : decode cX6_plan 62 = .ok (.iadd, 1) := by decide +kernel
theorem dX6_plan_63 : decode cX6_plan 63 = .ok (.iload 4, 2) := by decide +kernel
theorem dX6_plan_65 : decode cX6_plan 65 = .ok (.iastore, 1) := by decide +kernel
theorem dX6_plan_66 : decode cX6_plan 66 = .ok (.aload_n 0, 1) := by decide +kernel
theorem dX6_plan_67 : decode cX6_plan 67 = .ok (.getfield 18, 3) := by decide +kernel
theorem dX6_plan_70 : decode cX6_plan 70 = .ok (.iconst 5, 1) := by decide +kernel
theorem dX6_plan_71 : decode cX6_plan 71 = .ok (.aload_n 0, 1) := by decide +kernel
theorem dX6_plan_72 : decode cX6_plan 72 = .ok (.getfield 115, 3) := by decide +kernel
theorem dX6_plan_75 : decode cX6_plan 75 = .ok (.imul, 1) := by decide +kernel
theorem dX6_plan_76 : decode cX6_plan 76 = .ok (.iconst 4, 1) := by decide +kernel
theorem dX6_plan_77 : decode cX6_plan 77 = .ok (.iadd, 1) := by decide +kernel
theorem dX6_plan_78 : decode cX6_plan 78 = .ok (.iload 5, 2) := by decide +kernel
theorem dX6_plan_80 : decode cX6_plan 80 = .ok (.iastore, 1) := by decide +kernel
theorem dX6_plan_81 : decode cX6_plan 81 = .ok (.aload_n 0, 1) := by decide +kernel
theorem dX6_plan_82 : decode cX6_plan 82 = .ok (.dup, 1) := by decide +kernel
theorem dX6_plan_83 : decode cX6_plan 83 = .ok (.getfield 115, 3) := by decide +kernel
theorem dX6_plan_86 : decode cX6_plan 86 = .ok (.iconst 1, 1) := by decide +kernel
theorem dX6_plan_87 : decode cX6_plan 87 = .ok (.iadd, 1) := by decide +kernel
theorem dX6_plan_88 : decode cX6_plan 88 = .ok (.putfield 115, 3) := by decide +kernel
theorem dX6_plan_91 : decode cX6_plan 91 = .ok (.aload_n 0, 1) := by decide +kernel
theorem dX6_plan_92 : decode cX6_plan 92 = .ok (.getfield 115, 3) := by decide +kernel
theorem dX6_plan_95 : decode cX6_plan 95 = .ok (.ireturn, 1) := by decide +kernel
set_option maxRecDepth 20000 in
theorem ggX6_run_X6_move : GoodIn wsX6_run wsX6_move := goodIn_r _ [7, 8, 9, 10, 11, 12, 13, 14, 15, 6, 16, 17, 18, 19, 20, 21, 22, 23, 24, 25, 26, 27, 28, 29, 30, 31, 32, 33, 34, 35, 36, 37, 38, 39, 40, 41, 42, 43, 44, 45, 46, 47, 48, 49, 50, 51, 52, 53, 54, 55, 56, 57, 58] (by decide +kernel) (by decide +kernel)
set_option maxRecDepth 20000 in
theorem gX6_run_X6_move : GoodIn wsX6_run (wsV RX6 118 RX6 yX6_move wsX6_move) := goodIn_app (goodIn_of _ (by decide +kernel)) ggX6_run_X6_move
theorem dX6_run_0 : decode cX6_run 0 = .ok (.iconst 0, 1) := by decide +kernel
theorem dX6_run_1 : decode cX6_run 1 = .ok (.istore_n 1, 1) := by decide +kernel
theorem dX6_run_2 : decode cX6_run 2 = .ok (.iconst 1, 1) := by decide +kernel
theorem dX6_run_3 : decode cX6_run 3 = .ok (.istore_n 2, 1) := by decide +kernel
theorem dX6_run_4 : decode cX6_run 4 = .ok (.iconst 0, 1) := by decide +kernel
theorem dX6_run_5 : decode cX6_run 5 = .ok (.istore_n 3, 1) := by decide +kernel
theorem dX6_run_6 : decode cX6_run 6 = .ok (.iload_n 3, 1) := by decide +kernel
theorem dX6_run_7 : decode cX6_run 7 = .ok (.aload_n 0, 1) := by decide +kernel
theorem dX6_run_8 : decode cX6_run 8 = .ok (.getfield 115, 3) := by decide +kernel
theorem dX6_run_11 : decode cX6_run 11 = .ok (.if_icmp .ge 81, 3) := by decide +kernel
theorem dX6_run_14 : decode cX6_run 14 = .ok (.iload_n 2, 1) := by decide +kernel
theorem dX6_run_15 : decode cX6_run 15 = .ok (.ifCond .eq 77, 3) := by decide +kernel
theorem dX6_run_18 : decode cX6_run 18 = .ok (.iconst 5, 1) := by decide +kernel
theorem dX6_run_19 : decode cX6_run 19 = .ok (.iload_n 3, 1) := by decide +kernel
theorem dX6_run_20 : decode cX6_run 20 = .ok (.imul, 1) := by decide +kernel
theorem dX6_run_21 : decode cX6_run 21 = .ok (.istore 4, 2) := by decide +kernel
theorem dX6_run_23 : decode cX6_run 23 = .ok (.aload_n 0, 1) := by decide +kernel
theorem dX6_run_24 : decode cX6_run 24 = .ok (.aload_n 0, 1) := by decide +kernel
theorem dX6_run_25 : decode cX6_run 25 = .ok (.getfield 18, 3) := by decide +kernel
theorem dX6_run_28 : decode cX6_run 28 = .ok (.iload 4, 2) := by decide +kernel
theorem dX6_run_30 : decode cX6_run 30 = .ok (.iaload, 1) := by decide +kernel
theorem dX6_run_31 : decode cX6_run 31 = .ok (.aload_n 0, 1) := by decide +kernel
theorem dX6_run_32 : decode cX6_run 32 = .ok (.getfield 18, 3) := by decide +kernel
theorem dX6_run_35 : decode cX6_run 35 = .ok (.iload 4, 2) := by decide +kernel
theorem dX6_run_37 : decode cX6_run 37 = .ok (.iconst 1, 1) := by decide +kernel
theorem dX6_run_38 : decode cX6_run 38 = .ok (.iadd, 1) := by decide +kernel
theorem dX6_run_39 : decode cX6_run 39 = .ok (.iaload, 1) := by decide +kernel
theorem dX6_run_40 : decode cX6_run 40 = .ok (.aload_n 0, 1) := by decide +kernel
theorem dX6_run_41 : decode cX6_run 41 = .ok (.getfield 18, 3) := by decide +kernel
theorem dX6_run_44 : decode cX6_run 44 = .ok (.iload 4, 2) := by decide +kernel
theorem dX6_run_46 : decode cX6_run 46 = .ok (.iconst 2, 1) := by decide +kernel
theorem dX6_run_47 : decode cX6_run 47 = .ok (.iadd, 1) := by decide +kernel
theorem dX6_run_48 : decode cX6_run 48 = .ok (.iaload, 1) := by decide +kernel
theorem dX6_run_49 : decode cX6_run 49 = .ok (.aload_n 0, 1) := by decide +kernel
theorem dX6_run_50 : decode cX6_run 50 = .ok (.getfield 18, 3) := by decide +kernel
theorem dX6_run_53 : decode cX6_run 53 = .ok (.iload 4, 2) := by decide +kernel
theorem dX6_run_55 : decode cX6_run 55 = .ok (.iconst 3, 1) := by decide +kernel
theorem dX6_run_56 : decode cX6_run 56 = .ok (.iadd, 1) := by decide +kernel
theorem dX6_run_57 : decode cX6_run 57 = .ok (.iaload, 1) := by decide +kernel
theorem dX6_run_58 : decode cX6_run 58 = .ok (.aload_n 0, 1) := by decide +kernel
theorem dX6_run_59 : decode cX6_run 59 = .ok (.getfield 18, 3) := by decide +kernel
theorem dX6_run_62 : decode cX6_run 62 = .ok (.iload 4, 2) := by decide +kernel
theorem dX6_run_64 : decode cX6_run 64 = .ok (.iconst 4, 1) := by decide +kernel
theorem dX6_run_65 : decode cX6_run 65 = .ok (.iadd, 1) := by decide +kernel
theorem dX6_run_66 : decode cX6_run 66 = .ok (.iaload, 1) := by decide +kernel
theorem dX6_run_67 : decode cX6_run 67 = .ok (.invokevirtual 118, 3) := by decide +kernel
theorem dX6_run_70 : decode cX6_run 70 = .ok (.ifCond .ne 7, 3) := by decide +kernel
theorem dX6_run_73 : decode cX6_run 73 = .ok (.iconst 1, 1) := by decide +kernel
theorem dX6_run_74 : decode cX6_run 74 = .ok (.goto 4, 3) := by decide +kernel
theorem dX6_run_77 : decode cX6_run 77 = .ok (.iconst 0, 1) := by decide +kernel
theorem dX6_run_78 : decode cX6_run 78 = .ok (.istore_n 2, 1) := by decide +kernel
theorem dX6_run_79 : decode cX6_run 79 = .ok (.iload_n 2, 1) := by decide +kernel
theorem dX6_run_80 : decode cX6_run 80 = .ok (.ifCond .eq 6, 3) := by decide +kernel
theorem dX6_run_83 : decode cX6_run 83 = .ok (.iinc 1 1, 3) := by decide +kernel
theorem dX6_run_86 : decode cX6_run 86 = .ok (.iinc 3 1, 3) := by decide +kernel
theorem dX6_run_89 : decode cX6_run 89 = .ok (.goto (-83), 3) := by decide +kernel
theorem dX6_run_92 : decode cX6_run 92 = .ok (.aload_n 0, 1) := by decide +kernel
theorem dX6_run_93 : decode cX6_run 93 = .ok (.iconst 0, 1) := by decide +kernel
theorem dX6_run_94 : decode cX6_run 94 = .ok (.putfield 115, 3) := by decide +kernel
theorem dX6_run_97 : decode cX6_run 97 = .ok (.iload_n 1, 1) := by decide +kernel
theorem dX6_run_98 : decode cX6_run 98 = .ok (.ireturn, 1) := by decide +kernel
theorem dX6_ended_0 : decode cX6_ended 0 = .ok (.aload_n 0, 1) := by decide +kernel
theorem dX6_ended_1 : decode cX6_ended 1 = .ok (.getfield 106, 3) := by decide +kernel
theorem dX6_ended_4 : decode cX6_ended 4 = .ok (.ireturn, 1) := by decide +kernel
set_option maxRecDepth 20000 in
theorem ggX6_clear_X6_in : GoodIn wsX6_clear wsX6_in := goodIn_r _ [6, 1, 7, 8, 5, 9, 10, 11, 12, 13, 14, 15, 16, 17, 18, 19] (by decide +kernel) (by decide +kernel)
set_option maxRecDepth 20000 in
theorem gX6_clear_X6_in : GoodIn wsX6_clear (wsV RX6 50 RX6 yX6_in wsX6_in) := goodIn_app (goodIn_of _ (by decide +kernel)) ggX6_clear_X6_in
theorem dX6_clear_0 : decode cX6_clear 0 = .ok (.aload_n 0, 1) := by decide +kernel
theorem dX6_clear_1 : decode cX6_clear 1 = .ok (.iload_n 1, 1) := by decide +kernel
theorem dX6_clear_2 : decode cX6_clear 2 = .ok (.invokevirtual 50, 3) := by decide +kernel
theorem dX6_clear_5 : decode cX6_clear 5 = .ok (.ifCond .ge 5, 3) := by decide +kernel
theorem dX6_clear_8 : decode cX6_clear 8 = .ok (.iconst 0, 1) := by decide +kernel
theorem dX6_clear_9 : decode cX6_clear 9 = .ok (.ireturn, 1) := by decide +kernel
theorem dX6_clear_10 : decode cX6_clear 10 = .ok (.aload_n 0, 1) := by decide +kernel
theorem dX6_clear_11 : decode cX6_clear 11 = .ok (.getfield 14, 3) := by decide +kernel
theorem dX6_clear_14 : decode cX6_clear 14 = .ok (.iload_n 1, 1) := by decide +kernel
theorem dX6_clear_15 : decode cX6_clear 15 = .ok (.iconst 0, 1) := by decide +kernel
theorem dX6_clear_16 : decode cX6_clear 16 = .ok (.iastore, 1) := by decide +kernel
theorem dX6_clear_17 : decode cX6_clear 17 = .ok (.iconst 1, 1) := by decide +kernel
theorem dX6_clear_18 : decode cX6_clear 18 = .ok (.ireturn, 1) := by decide +kernel
set_option maxRecDepth 20000 in
theorem ggX6_same_X6_in : GoodIn wsX6_same wsX6_in := goodIn_r _ [5, 6, 7, 8, 4, 9, 10, 11, 12, 13, 14, 15, 16, 17, 18, 19] (by decide +kernel) (by decide +kernel)
set_option maxRecDepth 20000 in
theorem gX6_same_X6_in : GoodIn wsX6_same (wsV RX6 50 RX6 yX6_in wsX6_in) := goodIn_app (goodIn_of _ (by decide +kernel)) ggX6_same_X6_in
theorem dX6_same_0 : decode cX6_same 0 = .ok (.aload_n 0, 1) := by decide +kernel
theorem dX6_same_1 : decode cX6_same 1 = .ok (.iload_n 1, 1) := by decide +kernel
theorem dX6_same_2 : decode cX6_same 2 = .ok (.invokevirtual 50, 3) := by decide +kernel
theorem dX6_same_5 : decode cX6_same 5 = .ok (.ifCond .lt 11, 3) := by decide +kernel
theorem dX6_same_8 : decode cX6_same 8 = .ok (.aload_n 0, 1) := by decide +kernel
theorem dX6_same_9 : decode cX6_same 9 = .ok (.iload_n 2, 1) := by decide +kernel
theorem dX6_same_10 : decode cX6_same 10 = .ok (.invokevirtual 50, 3) := by decide +kernel
theorem dX6_same_13 : decode cX6_same 13 = .ok (.ifCond .ge 5, 3) := by decide +kernel
theorem dX6_same_16 : decode cX6_same 16 = .ok (.iconst (-1), 1) := by decide +kernel
theorem dX6_same_17 : decode cX6_same 17 = .ok (.ireturn, 1) := by decide +kernel
theorem dX6_same_18 : decode cX6_same 18 = .ok (.aload_n 0, 1) := by decide +kernel
theorem dX6_same_19 : decode cX6_same 19 = .ok (.iload_n 1, 1) := by decide +kernel
theorem dX6_same_20 : decode cX6_same 20 = .ok (.invokevirtual 50, 3) := by decide +kernel
theorem dX6_same_23 : decode cX6_same 23 = .ok (.aload_n 0, 1) := by decide +kernel
theorem dX6_same_24 : decode cX6_same 24 = .ok (.iload_n 2, 1) := by decide +kernel
theorem dX6_same_25 : decode cX6_same 25 = .ok (.invokevirtual 50, 3) := by decide +kernel
theorem dX6_same_28 : decode cX6_same 28 = .ok (.if_icmp .ne 7, 3) := by decide +kernel
theorem dX6_same_31 : decode cX6_same 31 = .ok (.iconst 1, 1) := by decide +kernel
theorem dX6_same_32 : decode cX6_same 32 = .ok (.goto 4, 3) := by decide +kernel
theorem dX6_same_35 : decode cX6_same 35 = .ok (.iconst 0, 1) := by decide +kernel
theorem dX6_same_36 : decode cX6_same 36 = .ok (.ireturn, 1) := by decide +kernel
set_option maxRecDepth 20000 in
theorem ggX6_summed_X6_kind : GoodIn wsX6_summed wsX6_kind := goodIn_r _ [7, 2, 12, 13, 14, 15, 16, 17, 18, 19, 20, 21] (by decide +kernel) (by decide +kernel)
set_option maxRecDepth 20000 in
theorem gX6_summed_X6_kind : GoodIn wsX6_summed (wsV RX6 25 RX6 yX6_kind wsX6_kind) := goodIn_app (goodIn_of _ (by decide +kernel)) ggX6_summed_X6_kind
set_option maxRecDepth 20000 in
theorem ggX6_summed_X6_low : GoodIn wsX6_summed wsX6_low := goodIn_r _ [11, 2, 12, 13, 14, 15, 16, 17, 18, 19, 20, 21] (by decide +kernel) (by decide +kernel)
set_option maxRecDepth 20000 in
theorem gX6_summed_X6_low : GoodIn wsX6_summed (wsV RX6 29 RX6 yX6_low wsX6_low) := goodIn_app (goodIn_of _ (by decide +kernel)) ggX6_summed_X6_low
theorem dX6_summed_0 : decode cX6_summed 0 = .ok (.aload_n 0, 1) := by decide +kernel
theorem dX6_summed_1 : decode cX6_summed 1 = .ok (.iload_n 1, 1) := by decide +kernel
theorem dX6_summed_2 : decode cX6_summed 2 = .ok (.invokevirtual 25, 3) := by decide +kernel
theorem dX6_summed_5 : decode cX6_summed 5 = .ok (.i2l, 1) := by decide +kernel
theorem dX6_summed_6 : decode cX6_summed 6 = .ok (.lconst 1, 1) := by decide +kernel
theorem dX6_summed_7 : decode cX6_summed 7 = .ok (.ladd, 1) := by decide +kernel
theorem dX6_summed_8 : decode cX6_summed 8 = .ok (.lstore_n 2, 1) := by decide +kernel
theorem dX6_summed_9 : decode cX6_summed 9 = .ok (.iconst 0, 1) := by decide +kernel
theorem dX6_summed_10 : decode cX6_summed 10 = .ok (.istore 4, 2) := by decide +kernel
theorem dX6_summed_12 : decode cX6_summed 12 = .ok (.iload 4, 2) := by decide +kernel
theorem dX6_summed_14 : decode cX6_summed 14 = .ok (.aload_n 0, 1) := by decide +kernel
theorem dX6_summed_15 : decode cX6_summed 15 = .ok (.iload_n 1, 1) := by decide +kernel
theorem dX6_summed_16 : decode cX6_summed 16 = .ok (.invokevirtual 29, 3) := by decide +kernel
theorem dX6_summed_19 : decode cX6_summed 19 = .ok (.if_icmp .ge 27, 3) := by decide +kernel
theorem dX6_summed_22 : decode cX6_summed 22 = .ok (.ldc2_w 121, 3) := by decide +kernel
theorem dX6_summed_25 : decode cX6_summed 25 = .ok (.lload_n 2, 1) := by decide +kernel
theorem dX6_summed_26 : decode cX6_summed 26 = .ok (.lmul, 1) := by decide +kernel
theorem dX6_summed_27 : decode cX6_summed 27 = .ok (.aload_n 0, 1) := by decide +kernel
theorem dX6_summed_28 : decode cX6_summed 28 = .ok (.getfield 8, 3) := by decide +kernel
theorem dX6_summed_31 : decode cX6_summed 31 = .ok (.iload_n 1, 1) := by decide +kernel
theorem dX6_summed_32 : decode cX6_summed 32 = .ok (.iconst 1, 1) := by decide +kernel
theorem dX6_summed_33 : decode cX6_summed 33 = .ok (.iadd, 1) := by decide +kernel
theorem dX6_summed_34 : decode cX6_summed 34 = .ok (.iload 4, 2) := by decide +kernel
theorem dX6_summed_36 : decode cX6_summed 36 = .ok (.iadd, 1) := by decide +kernel
theorem dX6_summed_37 : decode cX6_summed 37 = .ok (.laload, 1) := by decide +kernel
theorem dX6_summed_38 : decode cX6_summed 38 = .ok (.ladd, 1) := by decide +kernel
theorem dX6_summed_39 : decode cX6_summed 39 = .ok (.lstore_n 2, 1) := by decide +kernel
theorem dX6_summed_40 : decode cX6_summed 40 = .ok (.iinc 4 1, 3) := by decide +kernel
theorem dX6_summed_43 : decode cX6_summed 43 = .ok (.goto (-31), 3) := by decide +kernel
theorem dX6_summed_46 : decode cX6_summed 46 = .ok (.lload_n 2, 1) := by decide +kernel
theorem dX6_summed_47 : decode cX6_summed 47 = .ok (.lreturn, 1) := by decide +kernel
set_option maxRecDepth 20000 in
theorem ggX6_share_X6_kind : GoodIn wsX6_share wsX6_kind := goodIn_r _ [6, 1, 16, 17, 18, 19, 20, 21, 22, 23, 24, 25] (by decide +kernel) (by decide +kernel)
set_option maxRecDepth 20000 in
theorem gX6_share_X6_kind : GoodIn wsX6_share (wsV RX6 25 RX6 yX6_kind wsX6_kind) := goodIn_app (goodIn_of _ (by decide +kernel)) ggX6_share_X6_kind
set_option maxRecDepth 20000 in
theorem ggX6_share_X6_summed : GoodIn wsX6_share wsX6_summed := goodIn_r _ [10, 11, 1, 2, 3, 4, 5, 6, 12, 13, 14, 15, 16, 17, 18, 19, 20, 21, 22, 23, 24, 25] (by decide +kernel) (by decide +kernel)
set_option maxRecDepth 20000 in
theorem gX6_share_X6_summed : GoodIn wsX6_share (wsV RX6 123 RX6 yX6_summed wsX6_summed) := goodIn_app (goodIn_of _ (by decide +kernel)) ggX6_share_X6_summed
theorem dX6_share_0 : decode cX6_share 0 = .ok (.iload_n 1, 1) := by decide +kernel
theorem dX6_share_1 : decode cX6_share 1 = .ok (.ifCond .ge 5, 3) := by decide +kernel
theorem dX6_share_4 : decode cX6_share 4 = .ok (.lconst 0, 1) := by decide +kernel
theorem dX6_share_5 : decode cX6_share 5 = .ok (.lreturn, 1) := by decide +kernel
theorem dX6_share_6 : decode cX6_share 6 = .ok (.aload_n 0, 1) := by decide +kernel
theorem dX6_share_7 : decode cX6_share 7 = .ok (.iload_n 1, 1) := by decide +kernel
theorem dX6_share_8 : decode cX6_share 8 = .ok (.invokevirtual 25, 3) := by decide +kernel
theorem dX6_share_11 : decode cX6_share 11 = .ok (.ifCond .ne 11, 3) := by decide +kernel
theorem dX6_share_14 : decode cX6_share 14 = .ok (.aload_n 0, 1) := by decide +kernel
theorem dX6_share_15 : decode cX6_share 15 = .ok (.iload_n 1, 1) := by decide +kernel
theorem dX6_share_16 : decode cX6_share 16 = .ok (.invokevirtual 123, 3) := by decide +kernel
theorem dX6_share_19 : decode cX6_share 19 = .ok (.goto 9, 3) := by decide +kernel
theorem dX6_share_22 : decode cX6_share 22 = .ok (.aload_n 0, 1) := by decide +kernel
theorem dX6_share_23 : decode cX6_share 23 = .ok (.getfield 8, 3) := by decide +kernel
theorem dX6_share_26 : decode cX6_share 26 = .ok (.iload_n 1, 1) := by decide +kernel
theorem dX6_share_27 : decode cX6_share 27 = .ok (.laload, 1) := by decide +kernel
theorem dX6_share_28 : decode cX6_share 28 = .ok (.lreturn, 1) := by decide +kernel
set_option maxRecDepth 20000 in
theorem ggX6_digest_X6_in : GoodIn wsX6_digest wsX6_in := goodIn_r _ [6, 7, 8, 9, 5, 10, 40, 41, 42, 43, 44, 45, 46, 47, 48, 49] (by decide +kernel) (by decide +kernel)
set_option maxRecDepth 20000 in
theorem gX6_digest_X6_in : GoodIn wsX6_digest (wsV RX6 50 RX6 yX6_in wsX6_in) := goodIn_app (goodIn_of _ (by decide +kernel)) ggX6_digest_X6_in
set_option maxRecDepth 20000 in
theorem ggX6_digest_X6_isThing : GoodIn wsX6_digest wsX6_isThing := goodIn_r _ [14, 15, 16, 17, 5, 18, 19, 40, 41, 42, 43, 44, 45, 46, 47, 48, 49] (by decide +kernel) (by decide +kernel)
set_option maxRecDepth 20000 in
theorem gX6_digest_X6_isThing : GoodIn wsX6_digest (wsV RX6 53 RX6 yX6_isThing wsX6_isThing) := goodIn_app (goodIn_of _ (by decide +kernel)) ggX6_digest_X6_isThing
set_option maxRecDepth 20000 in
theorem ggX6_digest_X6_kind : GoodIn wsX6_digest wsX6_kind := goodIn_r _ [18, 19, 40, 41, 42, 43, 44, 45, 46, 47, 48, 49] (by decide +kernel) (by decide +kernel)
set_option maxRecDepth 20000 in
theorem gX6_digest_X6_kind : GoodIn wsX6_digest (wsV RX6 25 RX6 yX6_kind wsX6_kind) := goodIn_app (goodIn_of _ (by decide +kernel)) ggX6_digest_X6_kind
set_option maxRecDepth 20000 in
theorem ggX6_digest_X6_low : GoodIn wsX6_digest wsX6_low := goodIn_r _ [23, 19, 40, 41, 42, 43, 44, 45, 46, 47, 48, 49] (by decide +kernel) (by decide +kernel)
set_option maxRecDepth 20000 in
theorem gX6_digest_X6_low : GoodIn wsX6_digest (wsV RX6 29 RX6 yX6_low wsX6_low) := goodIn_app (goodIn_of _ (by decide +kernel)) ggX6_digest_X6_low
set_option maxRecDepth 20000 in
theorem ggX6_digest_X6_isOfObjects : GoodIn wsX6_digest wsX6_isOfObjects := goodIn_r _ [27, 15, 16, 17, 5, 18, 19, 40, 41, 42, 43, 44, 45, 46, 47, 48, 49] (by decide +kernel) (by decide +kernel)
set_option maxRecDepth 20000 in
theorem gX6_digest_X6_isOfObjects : GoodIn wsX6_digest (wsV RX6 70 RX6 yX6_isOfObjects wsX6_isOfObjects) := goodIn_app (goodIn_of _ (by decide +kernel)) ggX6_digest_X6_isOfObjects
set_option maxRecDepth 20000 in
theorem ggX6_digest_X6_summed : GoodIn wsX6_digest wsX6_summed := goodIn_r _ [31, 1, 19, 15, 16, 17, 5, 18, 20, 21, 22, 23, 40, 41, 42, 43, 44, 45, 46, 47, 48, 49] (by decide +kernel) (by decide +kernel)
set_option maxRecDepth 20000 in
theorem gX6_digest_X6_summed : GoodIn wsX6_digest (wsV RX6 123 RX6 yX6_summed wsX6_summed) := goodIn_app (goodIn_of _ (by decide +kernel)) ggX6_digest_X6_summed
set_option maxRecDepth 20000 in
theorem ggX6_digest_X6_object : GoodIn wsX6_digest wsX6_object := goodIn_r _ [35, 19, 40, 41, 42, 43, 44, 45, 46, 47, 48, 49] (by decide +kernel) (by decide +kernel)
set_option maxRecDepth 20000 in
theorem gX6_digest_X6_object : GoodIn wsX6_digest (wsV RX6 84 RX6 yX6_object wsX6_object) := goodIn_app (goodIn_of _ (by decide +kernel)) ggX6_digest_X6_object
set_option maxRecDepth 20000 in
theorem ggX6_digest_X6_share : GoodIn wsX6_digest wsX6_share := goodIn_r _ [39, 19, 15, 16, 17, 5, 18, 28, 29, 30, 31, 1, 20, 21, 22, 23, 40, 41, 42, 43, 44, 45, 46, 47, 48, 49] (by decide +kernel) (by decide +kernel)
set_option maxRecDepth 20000 in
theorem gX6_digest_X6_share : GoodIn wsX6_digest (wsV RX6 127 RX6 yX6_share wsX6_share) := goodIn_app (goodIn_of _ (by decide +kernel)) ggX6_digest_X6_share
theorem dX6_digest_0 : decode cX6_digest 0 = .ok (.aload_n 0, 1) := by decide +kernel
theorem dX6_digest_1 : decode cX6_digest 1 = .ok (.iload_n 1, 1) := by decide +kernel
theorem dX6_digest_2 : decode cX6_digest 2 = .ok (.invokevirtual 50, 3) := by decide +kernel
theorem dX6_digest_5 : decode cX6_digest 5 = .ok (.istore_n 2, 1) := by decide +kernel
theorem dX6_digest_6 : decode cX6_digest 6 = .ok (.iload_n 2, 1) := by decide +kernel
theorem dX6_digest_7 : decode cX6_digest 7 = .ok (.ifCond .ge 5, 3) := by decide +kernel
theorem dX6_digest_10 : decode cX6_digest 10 = .ok (.lconst 0, 1) := by decide +kernel
theorem dX6_digest_11 : decode cX6_digest 11 = .ok (.lreturn, 1) := by decide +kernel
theorem dX6_digest_12 : decode cX6_digest 12 = .ok (.aload_n 0, 1) := by decide +kernel
theorem dX6_digest_13 : decode cX6_digest 13 = .ok (.iload_n 2, 1) := by decide +kernel
theorem dX6_digest_14 : decode cX6_digest 14 = .ok (.invokevirtual 53, 3) := by decide +kernel
theorem dX6_digest_17 : decode cX6_digest 17 = .ok (.ifCond .eq 23, 3) := by decide +kernel
theorem dX6_digest_20 : decode cX6_digest 20 = .ok (.ldc2_w 121, 3) := by decide +kernel
theorem dX6_digest_23 : decode cX6_digest 23 = .ok (.aload_n 0, 1) := by decide +kernel
theorem dX6_digest_24 : decode cX6_digest 24 = .ok (.iload_n 2, 1) := by decide +kernel
theorem dX6_digest_25 : decode cX6_digest 25 = .ok (.invokevirtual 25, 3) := by decide +kernel
theorem dX6_digest_28 : decode cX6_digest 28 = .ok (.i2l, 1) := by decide +kernel
theorem dX6_digest_29 : decode cX6_digest 29 = .ok (.lconst 1, 1) := by decide +kernel
theorem dX6_digest_30 : decode cX6_digest 30 = .ok (.ladd, 1) := by decide +kernel
theorem dX6_digest_31 : decode cX6_digest 31 = .ok (.lmul, 1) := by decide +kernel
theorem dX6_digest_32 : decode cX6_digest 32 = .ok (.aload_n 0, 1) := by decide +kernel
theorem dX6_digest_33 : decode cX6_digest 33 = .ok (.iload_n 2, 1) := by decide +kernel
theorem dX6_digest_34 : decode cX6_digest 34 = .ok (.invokevirtual 29, 3) := by decide +kernel
theorem dX6_digest_37 : decode cX6_digest 37 = .ok (.i2l, 1) := by decide +kernel
theorem dX6_digest_38 : decode cX6_digest 38 = .ok (.ladd, 1) := by decide +kernel
theorem dX6_digest_39 : decode cX6_digest 39 = .ok (.lreturn, 1) := by decide +kernel
theorem dX6_digest_40 : decode cX6_digest 40 = .ok (.aload_n 0, 1) := by decide +kernel
theorem dX6_digest_41 : decode cX6_digest 41 = .ok (.iload_n 2, 1) := by decide +kernel
theorem dX6_digest_42 : decode cX6_digest 42 = .ok (.invokevirtual 70, 3) := by decide +kernel
theorem dX6_digest_45 : decode cX6_digest 45 = .ok (.ifCond .ne 9, 3) := by decide +kernel
theorem dX6_digest_48 : decode cX6_digest 48 = .ok (.aload_n 0, 1) := by decide +kernel
theorem dX6_digest_49 : decode cX6_digest 49 = .ok (.iload_n 2, 1) := by decide +kernel
theorem dX6_digest_50 : decode cX6_digest 50 = .ok (.invokevirtual 123, 3) := by decide +kernel
theorem dX6_digest_53 : decode cX6_digest 53 = .ok (.lreturn, 1) := by decide +kernel
theorem dX6_digest_54 : decode cX6_digest 54 = .ok (.aload_n 0, 1) := by decide +kernel
theorem dX6_digest_55 : decode cX6_digest 55 = .ok (.iload_n 2, 1) := by decide +kernel
theorem dX6_digest_56 : decode cX6_digest 56 = .ok (.invokevirtual 25, 3) := by decide +kernel
theorem dX6_digest_59 : decode cX6_digest 59 = .ok (.i2l, 1) := by decide +kernel
theorem dX6_digest_60 : decode cX6_digest 60 = .ok (.lconst 1, 1) := by decide +kernel
theorem dX6_digest_61 : decode cX6_digest 61 = .ok (.ladd, 1) := by decide +kernel
theorem dX6_digest_62 : decode cX6_digest 62 = .ok (.lstore_n 3, 1) := by decide +kernel
theorem dX6_digest_63 : decode cX6_digest 63 = .ok (.iconst 0, 1) := by decide +kernel
theorem dX6_digest_64 : decode cX6_digest 64 = .ok (.istore 5, 2) := by decide +kernel
theorem dX6_digest_66 : decode cX6_digest 66 = .ok (.iload 5, 2) := by decide +kernel
theorem dX6_digest_68 : decode cX6_digest 68 = .ok (.aload_n 0, 1) := by decide +kernel
theorem dX6_digest_69 : decode cX6_digest 69 = .ok (.iload_n 2, 1) := by decide +kernel
theorem dX6_digest_70 : decode cX6_digest 70 = .ok (.invokevirtual 29, 3) := by decide +kernel
theorem dX6_digest_73 : decode cX6_digest 73 = .ok (.if_icmp .ge 31, 3) := by decide +kernel
theorem dX6_digest_76 : decode cX6_digest 76 = .ok (.aload_n 0, 1) := by decide +kernel
theorem dX6_digest_77 : decode cX6_digest 77 = .ok (.iload_n 2, 1) := by decide +kernel
theorem dX6_digest_78 : decode cX6_digest 78 = .ok (.iload 5, 2) := by decide +kernel
theorem dX6_digest_80 : decode cX6_digest 80 = .ok (.invokevirtual 84, 3) := by decide +kernel
theorem dX6_digest_83 : decode cX6_digest 83 = .ok (.istore 6, 2) := by decide +kernel
theorem dX6_digest_85 : decode cX6_digest 85 = .ok (.ldc2_w 121, 3) := by decide +kernel
theorem dX6_digest_88 : decode cX6_digest 88 = .ok (.lload_n 3, 1) := by decide +kernel
theorem dX6_digest_89 : decode cX6_digest 89 = .ok (.lmul, 1) := by decide +kernel
theorem dX6_digest_90 : decode cX6_digest 90 = .ok (.aload_n 0, 1) := by decide +kernel
theorem dX6_digest_91 : decode cX6_digest 91 = .ok (.iload 6, 2) := by decide +kernel
theorem dX6_digest_93 : decode cX6_digest 93 = .ok (.invokevirtual 127, 3) := by decide +kernel
theorem dX6_digest_96 : decode cX6_digest 96 = .ok (.ladd, 1) := by decide +kernel
theorem dX6_digest_97 : decode cX6_digest 97 = .ok (.lstore_n 3, 1) := by decide +kernel
theorem dX6_digest_98 : decode cX6_digest 98 = .ok (.iinc 5 1, 3) := by decide +kernel
theorem dX6_digest_101 : decode cX6_digest 101 = .ok (.goto (-35), 3) := by decide +kernel
theorem dX6_digest_104 : decode cX6_digest 104 = .ok (.lload_n 3, 1) := by decide +kernel
theorem dX6_digest_105 : decode cX6_digest 105 = .ok (.lreturn, 1) := by decide +kernel
theorem dX6_count_0 : decode cX6_count 0 = .ok (.iconst 0, 1) := by decide +kernel
theorem dX6_count_1 : decode cX6_count 1 = .ok (.istore_n 2, 1) := by decide +kernel
theorem dX6_count_2 : decode cX6_count 2 = .ok (.iconst 0, 1) := by decide +kernel
theorem dX6_count_3 : decode cX6_count 3 = .ok (.istore_n 3, 1) := by decide +kernel
theorem dX6_count_4 : decode cX6_count 4 = .ok (.iload_n 3, 1) := by decide +kernel
theorem dX6_count_5 : decode cX6_count 5 = .ok (.sipush 400, 3) := by decide +kernel
theorem dX6_count_8 : decode cX6_count 8 = .ok (.if_icmp .ge 26, 3) := by decide +kernel
theorem dX6_count_11 : decode cX6_count 11 = .ok (.aload_n 0, 1) := by decide +kernel
theorem dX6_count_12 : decode cX6_count 12 = .ok (.getfield 14, 3) := by decide +kernel
theorem dX6_count_15 : decode cX6_count 15 = .ok (.iload_n 3, 1) := by decide +kernel
theorem dX6_count_16 : decode cX6_count 16 = .ok (.iaload, 1) := by decide +kernel
theorem dX6_count_17 : decode cX6_count 17 = .ok (.ifCond .le 9, 3) := by decide +kernel
theorem dX6_count_20 : decode cX6_count 20 = .ok (.iload_n 2, 1) := by decide +kernel
theorem dX6_count_21 : decode cX6_count 21 = .ok (.iconst 1, 1) := by decide +kernel
theorem dX6_count_22 : decode cX6_count 22 = .ok (.iadd, 1) := by decide +kernel
theorem dX6_count_23 : decode cX6_count 23 = .ok (.goto 4, 3) := by decide +kernel
theorem dX6_count_26 : decode cX6_count 26 = .ok (.iload_n 2, 1) := by decide +kernel
theorem dX6_count_27 : decode cX6_count 27 = .ok (.istore_n 2, 1) := by decide +kernel
theorem dX6_count_28 : decode cX6_count 28 = .ok (.iinc 3 1, 3) := by decide +kernel
theorem dX6_count_31 : decode cX6_count 31 = .ok (.goto (-27), 3) := by decide +kernel
theorem dX6_count_34 : decode cX6_count 34 = .ok (.iload_n 1, 1) := by decide +kernel
theorem dX6_count_35 : decode cX6_count 35 = .ok (.tableswitch 58 0 4 #[33, 35, 43, 48, 53], 33) := by decide +kernel
theorem dX6_count_68 : decode cX6_count 68 = .ok (.iload_n 2, 1) := by decide +kernel
theorem dX6_count_69 : decode cX6_count 69 = .ok (.ireturn, 1) := by decide +kernel
theorem dX6_count_70 : decode cX6_count 70 = .ok (.ldc 7, 2) := by decide +kernel
theorem dX6_count_72 : decode cX6_count 72 = .ok (.aload_n 0, 1) := by decide +kernel
theorem dX6_count_73 : decode cX6_count 73 = .ok (.getfield 32, 3) := by decide +kernel
theorem dX6_count_76 : decode cX6_count 76 = .ok (.isub, 1) := by decide +kernel
theorem dX6_count_77 : decode cX6_count 77 = .ok (.ireturn, 1) := by decide +kernel
theorem dX6_count_78 : decode cX6_count 78 = .ok (.aload_n 0, 1) := by decide +kernel
theorem dX6_count_79 : decode cX6_count 79 = .ok (.getfield 115, 3) := by decide +kernel
theorem dX6_count_82 : decode cX6_count 82 = .ok (.ireturn, 1) := by decide +kernel
theorem dX6_count_83 : decode cX6_count 83 = .ok (.aload_n 0, 1) := by decide +kernel
theorem dX6_count_84 : decode cX6_count 84 = .ok (.getfield 109, 3) := by decide +kernel
theorem dX6_count_87 : decode cX6_count 87 = .ok (.ireturn, 1) := by decide +kernel
theorem dX6_count_88 : decode cX6_count 88 = .ok (.aload_n 0, 1) := by decide +kernel
theorem dX6_count_89 : decode cX6_count 89 = .ok (.getfield 112, 3) := by decide +kernel
theorem dX6_count_92 : decode cX6_count 92 = .ok (.ireturn, 1) := by decide +kernel
theorem dX6_count_93 : decode cX6_count 93 = .ok (.iconst (-1), 1) := by decide +kernel
theorem dX6_count_94 : decode cX6_count 94 = .ok (.ireturn, 1) := by decide +kernel
