abbrev vwCl : List vw_C := [(RX1, TX1, 5), (RX2, TX2, 3), (RX4, TX4, 2), (RX5, TX5, 9), (RX6, TX6, 10)]
theorem dX0_init_0 : decode cX0_init 0 = .ok (.aload_n 0, 1) := by decide +kernel
theorem dX0_init_1 : decode cX0_init 1 = .ok (.invokespecial 1, 3) := by decide +kernel
theorem dX0_init_4 : decode cX0_init 4 = .ok (.aload_n 0, 1) := by decide +kernel
theorem dX0_init_5 : decode cX0_init 5 = .ok (.iload_n 1, 1) := by decide +kernel
theorem dX0_init_6 : decode cX0_init 6 = .ok (.putfield 7, 3) := by decide +kernel
theorem dX0_init_9 : decode cX0_init 9 = .ok (.return_, 1) := by decide +kernel
set_option maxRecDepth 20000 in
theorem ggX1_init_X3_init : GoodIn wsX1_init wsX3_init := goodIn_r _ [6, 7, 8, 9, 10, 11, 12, 13, 14, 15, 16, 17, 18, 19, 20, 21, 22, 23, 24, 25] (by decide +kernel) (by decide +kernel)
set_option maxRecDepth 20000 in
theorem gX1_init_X3_init : GoodIn wsX1_init (wsX3_init) := ggX1_init_X3_init
theorem dX1_init_0 : decode cX1_init 0 = .ok (.aload_n 0, 1) := by decide +kernel
theorem dX1_init_1 : decode cX1_init 1 = .ok (.iload_n 1, 1) := by decide +kernel
theorem dX1_init_2 : decode cX1_init 2 = .ok (.iload_n 2, 1) := by decide +kernel
theorem dX1_init_3 : decode cX1_init 3 = .ok (.invokespecial 3, 3) := by decide +kernel
theorem dX1_init_6 : decode cX1_init 6 = .ok (.aload_n 0, 1) := by decide +kernel
theorem dX1_init_7 : decode cX1_init 7 = .ok (.iload_n 2, 1) := by decide +kernel
theorem dX1_init_8 : decode cX1_init 8 = .ok (.newarray .long, 2) := by decide +kernel
theorem dX1_init_10 : decode cX1_init 10 = .ok (.putfield 9, 3) := by decide +kernel
theorem dX1_init_13 : decode cX1_init 13 = .ok (.return_, 1) := by decide +kernel
theorem dX1_numberAt_0 : decode cX1_numberAt 0 = .ok (.aload_n 0, 1) := by decide +kernel
theorem dX1_numberAt_1 : decode cX1_numberAt 1 = .ok (.getfield 9, 3) := by decide +kernel
theorem dX1_numberAt_4 : decode cX1_numberAt 4 = .ok (.iload_n 1, 1) := by decide +kernel
theorem dX1_numberAt_5 : decode cX1_numberAt 5 = .ok (.laload, 1) := by decide +kernel
theorem dX1_numberAt_6 : decode cX1_numberAt 6 = .ok (.lreturn, 1) := by decide +kernel
set_option maxRecDepth 20000 in
theorem ggX1_put_X1_narrowed : GoodIn wsX1_put wsX1_narrowed := goodIn_r _ [7, 8, 9, 10, 11, 12, 13, 14, 15, 16, 17, 18, 19] (by decide +kernel) (by decide +kernel)
set_option maxRecDepth 20000 in
theorem gX1_put_X1_narrowed : GoodIn wsX1_put (wsV RX1 15 RX1 yX1_narrowed wsX1_narrowed) := goodIn_app (goodIn_of _ (by decide +kernel)) ggX1_put_X1_narrowed
theorem dX1_put_0 : decode cX1_put 0 = .ok (.aload_n 0, 1) := by decide +kernel
theorem dX1_put_1 : decode cX1_put 1 = .ok (.getfield 9, 3) := by decide +kernel
theorem dX1_put_4 : decode cX1_put 4 = .ok (.iload_n 1, 1) := by decide +kernel
theorem dX1_put_5 : decode cX1_put 5 = .ok (.aload_n 0, 1) := by decide +kernel
theorem dX1_put_6 : decode cX1_put 6 = .ok (.lload_n 2, 1) := by decide +kernel
theorem dX1_put_7 : decode cX1_put 7 = .ok (.invokevirtual 15, 3) := by decide +kernel
theorem dX1_put_10 : decode cX1_put 10 = .ok (.lastore, 1) := by decide +kernel
theorem dX1_put_11 : decode cX1_put 11 = .ok (.aload_n 0, 1) := by decide +kernel
theorem dX1_put_12 : decode cX1_put 12 = .ok (.iconst 0, 1) := by decide +kernel
theorem dX1_put_13 : decode cX1_put 13 = .ok (.putfield 19, 3) := by decide +kernel
theorem dX1_put_16 : decode cX1_put 16 = .ok (.return_, 1) := by decide +kernel
theorem dX1_takeSpan_0 : decode cX1_takeSpan 0 = .ok (.aload_n 2, 1) := by decide +kernel
theorem dX1_takeSpan_1 : decode cX1_takeSpan 1 = .ok (.getfield 9, 3) := by decide +kernel
theorem dX1_takeSpan_4 : decode cX1_takeSpan 4 = .ok (.iload_n 3, 1) := by decide +kernel
theorem dX1_takeSpan_5 : decode cX1_takeSpan 5 = .ok (.aload_n 0, 1) := by decide +kernel
theorem dX1_takeSpan_6 : decode cX1_takeSpan 6 = .ok (.getfield 9, 3) := by decide +kernel
theorem dX1_takeSpan_9 : decode cX1_takeSpan 9 = .ok (.iload_n 1, 1) := by decide +kernel
theorem dX1_takeSpan_10 : decode cX1_takeSpan 10 = .ok (.iload 4, 2) := by decide +kernel
theorem dX1_takeSpan_12 : decode cX1_takeSpan 12 = .ok (.invokestatic 23, 3) := by decide +kernel
theorem dX1_takeSpan_15 : decode cX1_takeSpan 15 = .ok (.aload_n 0, 1) := by decide +kernel
theorem dX1_takeSpan_16 : decode cX1_takeSpan 16 = .ok (.iconst 0, 1) := by decide +kernel
theorem dX1_takeSpan_17 : decode cX1_takeSpan 17 = .ok (.putfield 19, 3) := by decide +kernel
theorem dX1_takeSpan_20 : decode cX1_takeSpan 20 = .ok (.return_, 1) := by decide +kernel
theorem dX1_digestOfNumbers_0 : decode cX1_digestOfNumbers 0 = .ok (.aload_n 0, 1) := by decide +kernel
theorem dX1_digestOfNumbers_1 : decode cX1_digestOfNumbers 1 = .ok (.getfield 19, 3) := by decide +kernel
theorem dX1_digestOfNumbers_4 : decode cX1_digestOfNumbers 4 = .ok (.ifCond .ne 61, 3) := by decide +kernel
theorem dX1_digestOfNumbers_7 : decode cX1_digestOfNumbers 7 = .ok (.aload_n 0, 1) := by decide +kernel
theorem dX1_digestOfNumbers_8 : decode cX1_digestOfNumbers 8 = .ok (.getfield 29, 3) := by decide +kernel
theorem dX1_digestOfNumbers_11 : decode cX1_digestOfNumbers 11 = .ok (.iconst 1, 1) := by decide +kernel
theorem dX1_digestOfNumbers_12 : decode cX1_digestOfNumbers 12 = .ok (.iadd, 1) := by decide +kernel
theorem dX1_digestOfNumbers_13 : decode cX1_digestOfNumbers 13 = .ok (.i2l, 1) := by decide +kernel
theorem dX1_digestOfNumbers_14 : decode cX1_digestOfNumbers 14 = .ok (.lstore_n 1, 1) := by decide +kernel
theorem dX1_digestOfNumbers_15 : decode cX1_digestOfNumbers 15 = .ok (.aload_n 0, 1) := by decide +kernel
theorem dX1_digestOfNumbers_16 : decode cX1_digestOfNumbers 16 = .ok (.getfield 9, 3) := by decide +kernel
theorem dX1_digestOfNumbers_19 : decode cX1_digestOfNumbers 19 = .ok (.astore_n 3, 1) := by decide +kernel
theorem dX1_digestOfNumbers_20 : decode cX1_digestOfNumbers 20 = .ok (.aload_n 3, 1) := by decide +kernel
theorem dX1_digestOfNumbers_21 : decode cX1_digestOfNumbers 21 = .ok (.arraylength, 1) := by decide +kernel
theorem dX1_digestOfNumbers_22 : decode cX1_digestOfNumbers 22 = .ok (.istore 4, 2) := by decide +kernel
theorem dX1_digestOfNumbers_24 : decode cX1_digestOfNumbers 24 = .ok (.iconst 0, 1) := by decide +kernel
theorem dX1_digestOfNumbers_25 : decode cX1_digestOfNumbers 25 = .ok (.istore 5, 2) := by decide +kernel
theorem dX1_digestOfNumbers_27 : decode cX1_digestOfNumbers 27 = .ok (.iload 5, 2) := by decide +kernel
theorem dX1_digestOfNumbers_29 : decode cX1_digestOfNumbers 29 = .ok (.iload 4, 2) := by decide +kernel
theorem dX1_digestOfNumbers_31 : decode cX1_digestOfNumbers 31 = .ok (.if_icmp .ge 24, 3) := by decide +kernel
theorem dX1_digestOfNumbers_34 : decode cX1_digestOfNumbers 34 = .ok (.aload_n 3, 1) := by decide +kernel
theorem dX1_digestOfNumbers_35 : decode cX1_digestOfNumbers 35 = .ok (.iload 5, 2) := by decide +kernel
theorem dX1_digestOfNumbers_37 : decode cX1_digestOfNumbers 37 = .ok (.laload, 1) := by decide +kernel
theorem dX1_digestOfNumbers_38 : decode cX1_digestOfNumbers 38 = .ok (.lstore 6, 2) := by decide +kernel
theorem dX1_digestOfNumbers_40 : decode cX1_digestOfNumbers 40 = .ok (.ldc2_w 33, 3) := by decide +kernel
theorem dX1_digestOfNumbers_43 : decode cX1_digestOfNumbers 43 = .ok (.lload_n 1, 1) := by decide +kernel
theorem dX1_digestOfNumbers_44 : decode cX1_digestOfNumbers 44 = .ok (.lmul, 1) := by decide +kernel
theorem dX1_digestOfNumbers_45 : decode cX1_digestOfNumbers 45 = .ok (.lload 6, 2) := by decide +kernel
theorem dX1_digestOfNumbers_47 : decode cX1_digestOfNumbers 47 = .ok (.ladd, 1) := by decide +kernel
theorem dX1_digestOfNumbers_48 : decode cX1_digestOfNumbers 48 = .ok (.lstore_n 1, 1) := by decide +kernel
theorem dX1_digestOfNumbers_49 : decode cX1_digestOfNumbers 49 = .ok (.iinc 5 1, 3) := by decide +kernel
theorem dX1_digestOfNumbers_52 : decode cX1_digestOfNumbers 52 = .ok (.goto (-25), 3) := by decide +kernel
theorem dX1_digestOfNumbers_55 : decode cX1_digestOfNumbers 55 = .ok (.aload_n 0, 1) := by decide +kernel
theorem dX1_digestOfNumbers_56 : decode cX1_digestOfNumbers 56 = .ok (.lload_n 1, 1) := by decide +kernel
theorem dX1_digestOfNumbers_57 : decode cX1_digestOfNumbers 57 = .ok (.putfield 35, 3) := by decide +kernel
theorem dX1_digestOfNumbers_60 : decode cX1_digestOfNumbers 60 = .ok (.aload_n 0, 1) := by decide +kernel
theorem dX1_digestOfNumbers_61 : decode cX1_digestOfNumbers 61 = .ok (.iconst 1, 1) := by decide +kernel
theorem dX1_digestOfNumbers_62 : decode cX1_digestOfNumbers 62 = .ok (.putfield 19, 3) := by decide +kernel
theorem dX1_digestOfNumbers_65 : decode cX1_digestOfNumbers 65 = .ok (.aload_n 0, 1) := by decide +kernel
theorem dX1_digestOfNumbers_66 : decode cX1_digestOfNumbers 66 = .ok (.getfield 35, 3) := by decide +kernel
theorem dX1_digestOfNumbers_69 : decode cX1_digestOfNumbers 69 = .ok (.lreturn, 1) := by decide +kernel
theorem dX1_narrowed_0 : decode cX1_narrowed 0 = .ok (.aload_n 0, 1) := by decide +kernel
theorem dX1_narrowed_1 : decode cX1_narrowed 1 = .ok (.getfield 29, 3) := by decide +kernel
theorem dX1_narrowed_4 : decode cX1_narrowed 4 = .ok (.tableswitch 45 0 3 #[32, 45, 36, 41], 32) := by decide +kernel
theorem dX1_narrowed_36 : decode cX1_narrowed 36 = .ok (.lload_n 1, 1) := by decide +kernel
theorem dX1_narrowed_37 : decode cX1_narrowed 37 = .ok (.l2i, 1) := by decide +kernel
theorem dX1_narrowed_38 : decode cX1_narrowed 38 = .ok (.i2l, 1) := by decide +kernel
theorem dX1_narrowed_39 : decode cX1_narrowed 39 = .ok (.lreturn, 1) := by decide +kernel
theorem dX1_narrowed_40 : decode cX1_narrowed 40 = .ok (.lload_n 1, 1) := by decide +kernel
theorem dX1_narrowed_41 : decode cX1_narrowed 41 = .ok (.l2i, 1) := by decide +kernel
theorem dX1_narrowed_42 : decode cX1_narrowed 42 = .ok (.i2b, 1) := by decide +kernel
theorem dX1_narrowed_43 : decode cX1_narrowed 43 = .ok (.i2l, 1) := by decide +kernel
theorem dX1_narrowed_44 : decode cX1_narrowed 44 = .ok (.lreturn, 1) := by decide +kernel
theorem dX1_narrowed_45 : decode cX1_narrowed 45 = .ok (.lload_n 1, 1) := by decide +kernel
theorem dX1_narrowed_46 : decode cX1_narrowed 46 = .ok (.l2d, 1) := by decide +kernel
theorem dX1_narrowed_47 : decode cX1_narrowed 47 = .ok (.d2l, 1) := by decide +kernel
theorem dX1_narrowed_48 : decode cX1_narrowed 48 = .ok (.lreturn, 1) := by decide +kernel
theorem dX1_narrowed_49 : decode cX1_narrowed 49 = .ok (.lload_n 1, 1) := by decide +kernel
theorem dX1_narrowed_50 : decode cX1_narrowed 50 = .ok (.lreturn, 1) := by decide +kernel
set_option maxRecDepth 20000 in
theorem ggX2_init_X3_init : GoodIn wsX2_init wsX3_init := goodIn_r _ [6, 7, 8, 9, 10, 11, 12, 13, 14, 15, 19, 20, 21, 22, 23, 16, 17, 18, 24, 25] (by decide +kernel) (by decide +kernel)
set_option maxRecDepth 20000 in
theorem gX2_init_X3_init : GoodIn wsX2_init (wsX3_init) := ggX2_init_X3_init
theorem dX2_init_0 : decode cX2_init 0 = .ok (.aload_n 0, 1) := by decide +kernel
theorem dX2_init_1 : decode cX2_init 1 = .ok (.iload_n 1, 1) := by decide +kernel
theorem dX2_init_2 : decode cX2_init 2 = .ok (.iload_n 2, 1) := by decide +kernel
theorem dX2_init_3 : decode cX2_init 3 = .ok (.invokespecial 3, 3) := by decide +kernel
theorem dX2_init_6 : decode cX2_init 6 = .ok (.aload_n 0, 1) := by decide +kernel
theorem dX2_init_7 : decode cX2_init 7 = .ok (.iload_n 2, 1) := by decide +kernel
theorem dX2_init_8 : decode cX2_init 8 = .ok (.anewarray 9, 3) := by decide +kernel
theorem dX2_init_11 : decode cX2_init 11 = .ok (.putfield 11, 3) := by decide +kernel
theorem dX2_init_14 : decode cX2_init 14 = .ok (.return_, 1) := by decide +kernel
theorem dX2_objectAt_0 : decode cX2_objectAt 0 = .ok (.aload_n 0, 1) := by decide +kernel
theorem dX2_objectAt_1 : decode cX2_objectAt 1 = .ok (.getfield 11, 3) := by decide +kernel
theorem dX2_objectAt_4 : decode cX2_objectAt 4 = .ok (.iload_n 1, 1) := by decide +kernel
theorem dX2_objectAt_5 : decode cX2_objectAt 5 = .ok (.aaload, 1) := by decide +kernel
theorem dX2_objectAt_6 : decode cX2_objectAt 6 = .ok (.areturn, 1) := by decide +kernel
theorem dX2_putObject_0 : decode cX2_putObject 0 = .ok (.aload_n 0, 1) := by decide +kernel
theorem dX2_putObject_1 : decode cX2_putObject 1 = .ok (.getfield 11, 3) := by decide +kernel
theorem dX2_putObject_4 : decode cX2_putObject 4 = .ok (.iload_n 1, 1) := by decide +kernel
theorem dX2_putObject_5 : decode cX2_putObject 5 = .ok (.aload_n 2, 1) := by decide +kernel
theorem dX2_putObject_6 : decode cX2_putObject 6 = .ok (.aastore, 1) := by decide +kernel
theorem dX2_putObject_7 : decode cX2_putObject 7 = .ok (.return_, 1) := by decide +kernel
theorem dX2_isFitFor_0 : decode cX2_isFitFor 0 = .ok (.aload_n 1, 1) := by decide +kernel
theorem dX2_isFitFor_1 : decode cX2_isFitFor 1 = .ok (.ifnonnull 5, 3) := by decide +kernel
theorem dX2_isFitFor_4 : decode cX2_isFitFor 4 = .ok (.iconst 1, 1) := by decide +kernel
theorem dX2_isFitFor_5 : decode cX2_isFitFor 5 = .ok (.ireturn, 1) := by decide +kernel
theorem dX2_isFitFor_6 : decode cX2_isFitFor 6 = .ok (.aload_n 0, 1) := by decide +kernel
theorem dX2_isFitFor_7 : decode cX2_isFitFor 7 = .ok (.getfield 17, 3) := by decide +kernel
theorem dX2_isFitFor_10 : decode cX2_isFitFor 10 = .ok (.lookupswitch 63 #[(4, 26), (5, 39)], 26) := by decide +kernel
theorem dX2_isFitFor_36 : decode cX2_isFitFor 36 = .ok (.aload_n 1, 1) := by decide +kernel
theorem dX2_isFitFor_37 : decode cX2_isFitFor 37 = .ok (.getfield 21, 3) := by decide +kernel
theorem dX2_isFitFor_40 : decode cX2_isFitFor 40 = .ok (.ifCond .ne 7, 3) := by decide +kernel
theorem dX2_isFitFor_43 : decode cX2_isFitFor 43 = .ok (.iconst 1, 1) := by decide +kernel
theorem dX2_isFitFor_44 : decode cX2_isFitFor 44 = .ok (.goto 4, 3) := by decide +kernel
theorem dX2_isFitFor_47 : decode cX2_isFitFor 47 = .ok (.iconst 0, 1) := by decide +kernel
theorem dX2_isFitFor_48 : decode cX2_isFitFor 48 = .ok (.ireturn, 1) := by decide +kernel
theorem dX2_isFitFor_49 : decode cX2_isFitFor 49 = .ok (.aload_n 1, 1) := by decide +kernel
theorem dX2_isFitFor_50 : decode cX2_isFitFor 50 = .ok (.getfield 21, 3) := by decide +kernel
theorem dX2_isFitFor_53 : decode cX2_isFitFor 53 = .ok (.bipush 7, 2) := by decide +kernel
theorem dX2_isFitFor_55 : decode cX2_isFitFor 55 = .ok (.if_icmp .eq 12, 3) := by decide +kernel
theorem dX2_isFitFor_58 : decode cX2_isFitFor 58 = .ok (.aload_n 1, 1) := by decide +kernel
theorem dX2_isFitFor_59 : decode cX2_isFitFor 59 = .ok (.getfield 21, 3) := by decide +kernel
theorem dX2_isFitFor_62 : decode cX2_isFitFor 62 = .ok (.bipush 8, 2) := by decide +kernel
theorem dX2_isFitFor_64 : decode cX2_isFitFor 64 = .ok (.if_icmp .ne 7, 3) := by decide +kernel
theorem dX2_isFitFor_67 : decode cX2_isFitFor 67 = .ok (.iconst 1, 1) := by decide +kernel
theorem dX2_isFitFor_68 : decode cX2_isFitFor 68 = .ok (.goto 4, 3) := by decide +kernel
theorem dX2_isFitFor_71 : decode cX2_isFitFor 71 = .ok (.iconst 0, 1) := by decide +kernel
theorem dX2_isFitFor_72 : decode cX2_isFitFor 72 = .ok (.ireturn, 1) := by decide +kernel
theorem dX2_isFitFor_73 : decode cX2_isFitFor 73 = .ok (.aload_n 1, 1) := by decide +kernel
theorem dX2_isFitFor_74 : decode cX2_isFitFor 74 = .ok (.getfield 21, 3) := by decide +kernel
theorem dX2_isFitFor_77 : decode cX2_isFitFor 77 = .ok (.bipush 8, 2) := by decide +kernel
theorem dX2_isFitFor_79 : decode cX2_isFitFor 79 = .ok (.if_icmp .ne 7, 3) := by decide +kernel
theorem dX2_isFitFor_82 : decode cX2_isFitFor 82 = .ok (.iconst 1, 1) := by decide +kernel
theorem dX2_isFitFor_83 : decode cX2_isFitFor 83 = .ok (.goto 4, 3) := by decide +kernel
theorem dX2_isFitFor_86 : decode cX2_isFitFor 86 = .ok (.iconst 0, 1) := by decide +kernel
theorem dX2_isFitFor_87 : decode cX2_isFitFor 87 = .ok (.ireturn, 1) := by decide +kernel
set_option maxRecDepth 20000 in
theorem ggX2_takeFittingSpan_X2_isFitFor : GoodIn wsX2_takeFittingSpan wsX2_isFitFor := goodIn_r _ [10, 11, 12, 13, 17, 18, 19, 20, 21, 14, 15, 16, 22, 23] (by decide +kernel) (by decide +kernel)
set_option maxRecDepth 20000 in
theorem gX2_takeFittingSpan_X2_isFitFor : GoodIn wsX2_takeFittingSpan (wsV RX2 22 RX2 yX2_isFitFor wsX2_isFitFor) := goodIn_app (goodIn_of _ (by decide +kernel)) ggX2_takeFittingSpan_X2_isFitFor
theorem dX2_takeFittingSpan_0 : decode cX2_takeFittingSpan 0 = .ok (.iconst 0, 1) := by decide +kernel
theorem dX2_takeFittingSpan_1 : decode cX2_takeFittingSpan 1 = .ok (.istore 5, 2) := by decide +kernel
theorem dX2_takeFittingSpan_3 : decode cX2_takeFittingSpan 3 = .ok (.iload 5, 2) := by decide +kernel
theorem dX2_takeFittingSpan_5 : decode cX2_takeFittingSpan 5 = .ok (.iload 4, 2) := by decide +kernel
theorem dX2_takeFittingSpan_7 : decode cX2_takeFittingSpan 7 = .ok (.if_icmp .ge 25, 3) := by decide +kernel
theorem dX2_takeFittingSpan_10 : decode cX2_takeFittingSpan 10 = .ok (.aload_n 0, 1) := by decide +kernel
theorem dX2_takeFittingSpan_11 : decode cX2_takeFittingSpan 11 = .ok (.aload_n 2, 1) := by decide +kernel
theorem dX2_takeFittingSpan_12 : decode cX2_takeFittingSpan 12 = .ok (.getfield 11, 3) := by decide +kernel
theorem dX2_takeFittingSpan_15 : decode cX2_takeFittingSpan 15 = .ok (.iload_n 3, 1) := by decide +kernel
theorem dX2_takeFittingSpan_16 : decode cX2_takeFittingSpan 16 = .ok (.iload 5, 2) := by decide +kernel
theorem dX2_takeFittingSpan_18 : decode cX2_takeFittingSpan 18 = .ok (.iadd, 1) := by decide +kernel
theorem dX2_takeFittingSpan_19 : decode cX2_takeFittingSpan 19 = .ok (.aaload, 1) := by decide +kernel
theorem dX2_takeFittingSpan_20 : decode cX2_takeFittingSpan 20 = .ok (.invokevirtual 22, 3) := by decide +kernel
theorem dX2_takeFittingSpan_23 : decode cX2_takeFittingSpan 23 = .ok (.ifCond .eq 9, 3) := by decide +kernel
theorem dX2_takeFittingSpan_26 : decode cX2_takeFittingSpan 26 = .ok (.iinc 5 1, 3) := by decide +kernel
theorem dX2_takeFittingSpan_29 : decode cX2_takeFittingSpan 29 = .ok (.goto (-26), 3) := by decide +kernel
theorem dX2_takeFittingSpan_32 : decode cX2_takeFittingSpan 32 = .ok (.aload_n 2, 1) := by decide +kernel
theorem dX2_takeFittingSpan_33 : decode cX2_takeFittingSpan 33 = .ok (.getfield 11, 3) := by decide +kernel
theorem dX2_takeFittingSpan_36 : decode cX2_takeFittingSpan 36 = .ok (.iload_n 3, 1) := by decide +kernel
theorem dX2_takeFittingSpan_37 : decode cX2_takeFittingSpan 37 = .ok (.aload_n 0, 1) := by decide +kernel
theorem dX2_takeFittingSpan_38 : decode cX2_takeFittingSpan 38 = .ok (.getfield 11, 3) := by decide +kernel
theorem dX2_takeFittingSpan_41 : decode cX2_takeFittingSpan 41 = .ok (.iload_n 1, 1) := by decide +kernel
theorem dX2_takeFittingSpan_42 : decode cX2_takeFittingSpan 42 = .ok (.iload 5, 2) := by decide +kernel
theorem dX2_takeFittingSpan_44 : decode cX2_takeFittingSpan 44 = .ok (.invokestatic 26, 3) := by decide +kernel
theorem dX2_takeFittingSpan_47 : decode cX2_takeFittingSpan 47 = .ok (.iload 5, 2) := by decide +kernel
theorem dX2_takeFittingSpan_49 : decode cX2_takeFittingSpan 49 = .ok (.ireturn, 1) := by decide +kernel
set_option maxRecDepth 20000 in
theorem ggX2_digestOfObjects_X2_digestedAs : GoodIn wsX2_digestOfObjects wsX2_digestedAs := goodIn_r _ [8, 9, 10, 11, 12, 13, 14, 15, 16, 17, 18, 19, 20, 21, 22, 23, 24, 25, 26, 27, 28, 29, 30, 31, 32, 33, 34, 35, 36, 37, 38, 39, 40, 41, 42] (by decide +kernel) (by decide +kernel)
set_option maxRecDepth 20000 in
theorem gX2_digestOfObjects_X2_digestedAs : GoodIn wsX2_digestOfObjects (va_wsS RX2 34 yX2_digestedAs wsX2_digestedAs) := goodIn_app (goodIn_of _ (by decide +kernel)) ggX2_digestOfObjects_X2_digestedAs
theorem dX2_digestOfObjects_0 : decode cX2_digestOfObjects 0 = .ok (.aload_n 0, 1) := by decide +kernel
theorem dX2_digestOfObjects_1 : decode cX2_digestOfObjects 1 = .ok (.getfield 17, 3) := by decide +kernel
theorem dX2_digestOfObjects_4 : decode cX2_digestOfObjects 4 = .ok (.iconst 1, 1) := by decide +kernel
theorem dX2_digestOfObjects_5 : decode cX2_digestOfObjects 5 = .ok (.iadd, 1) := by decide +kernel
theorem dX2_digestOfObjects_6 : decode cX2_digestOfObjects 6 = .ok (.i2l, 1) := by decide +kernel
theorem dX2_digestOfObjects_7 : decode cX2_digestOfObjects 7 = .ok (.lstore_n 1, 1) := by decide +kernel
theorem dX2_digestOfObjects_8 : decode cX2_digestOfObjects 8 = .ok (.aload_n 0, 1) := by decide +kernel
theorem dX2_digestOfObjects_9 : decode cX2_digestOfObjects 9 = .ok (.getfield 11, 3) := by decide +kernel
theorem dX2_digestOfObjects_12 : decode cX2_digestOfObjects 12 = .ok (.astore_n 3, 1) := by decide +kernel
theorem dX2_digestOfObjects_13 : decode cX2_digestOfObjects 13 = .ok (.aload_n 3, 1) := by decide +kernel
theorem dX2_digestOfObjects_14 : decode cX2_digestOfObjects 14 = .ok (.arraylength, 1) := by decide +kernel
theorem dX2_digestOfObjects_15 : decode cX2_digestOfObjects 15 = .ok (.istore 4, 2) := by decide +kernel
theorem dX2_digestOfObjects_17 : decode cX2_digestOfObjects 17 = .ok (.iconst 0, 1) := by decide +kernel
theorem dX2_digestOfObjects_18 : decode cX2_digestOfObjects 18 = .ok (.istore 5, 2) := by decide +kernel
theorem dX2_digestOfObjects_20 : decode cX2_digestOfObjects 20 = .ok (.iload 5, 2) := by decide +kernel
theorem dX2_digestOfObjects_22 : decode cX2_digestOfObjects 22 = .ok (.iload 4, 2) := by decide +kernel
theorem dX2_digestOfObjects_24 : decode cX2_digestOfObjects 24 = .ok (.if_icmp .ge 27, 3) := by decide +kernel
theorem dX2_digestOfObjects_27 : decode cX2_digestOfObjects 27 = .ok (.aload_n 3, 1) := by decide +kernel
theorem dX2_digestOfObjects_28 : decode cX2_digestOfObjects 28 = .ok (.iload 5, 2) := by decide +kernel
theorem dX2_digestOfObjects_30 : decode cX2_digestOfObjects 30 = .ok (.aaload, 1) := by decide +kernel
theorem dX2_digestOfObjects_31 : decode cX2_digestOfObjects 31 = .ok (.astore 6, 2) := by decide +kernel
theorem dX2_digestOfObjects_33 : decode cX2_digestOfObjects 33 = .ok (.ldc2_w 32, 3) := by decide +kernel
theorem dX2_digestOfObjects_36 : decode cX2_digestOfObjects 36 = .ok (.lload_n 1, 1) := by decide +kernel
theorem dX2_digestOfObjects_37 : decode cX2_digestOfObjects 37 = .ok (.lmul, 1) := by decide +kernel
theorem dX2_digestOfObjects_38 : decode cX2_digestOfObjects 38 = .ok (.aload 6, 2) := by decide +kernel
theorem dX2_digestOfObjects_40 : decode cX2_digestOfObjects 40 = .ok (.invokestatic 34, 3) := by decide +kernel
theorem dX2_digestOfObjects_43 : decode cX2_digestOfObjects 43 = .ok (.ladd, 1) := by decide +kernel
theorem dX2_digestOfObjects_44 : decode cX2_digestOfObjects 44 = .ok (.lstore_n 1, 1) := by decide +kernel
theorem dX2_digestOfObjects_45 : decode cX2_digestOfObjects 45 = .ok (.iinc 5 1, 3) := by decide +kernel
theorem dX2_digestOfObjects_48 : decode cX2_digestOfObjects 48 = .ok (.goto (-28), 3) := by decide +kernel
theorem dX2_digestOfObjects_51 : decode cX2_digestOfObjects 51 = .ok (.lload_n 1, 1) := by decide +kernel
theorem dX2_digestOfObjects_52 : decode cX2_digestOfObjects 52 = .ok (.lreturn, 1) := by decide +kernel
set_option maxRecDepth 20000 in
theorem ggX2_digestedAs_X1_digestOfNumbers : GoodIn wsX2_digestedAs wsX1_digestOfNumbers := goodIn_r _ [6, 7, 8, 9, 10, 11, 12, 25, 26, 27, 28, 29, 30, 31, 32, 33, 34] (by decide +kernel) (by decide +kernel)
set_option maxRecDepth 20000 in
theorem gX2_digestedAs_X1_digestOfNumbers : GoodIn wsX2_digestedAs (wsV RX2 40 RX1 yX1_digestOfNumbers wsX1_digestOfNumbers) := goodIn_app (goodIn_of _ (by decide +kernel)) ggX2_digestedAs_X1_digestOfNumbers
set_option maxRecDepth 20000 in
theorem ggX2_digestedAs_X5_toldAs : GoodIn wsX2_digestedAs wsX5_toldAs := goodIn_r _ [15, 16, 17, 18, 19, 20, 21, 22, 23, 24, 25, 26, 27, 28, 29, 30, 31, 32, 33, 34] (by decide +kernel) (by decide +kernel)
set_option maxRecDepth 20000 in
theorem gX2_digestedAs_X5_toldAs_n44 : GoodIn wsX2_digestedAs (wsX5_toldAs) := ggX2_digestedAs_X5_toldAs
theorem dX2_digestedAs_0 : decode cX2_digestedAs 0 = .ok (.aload_n 0, 1) := by decide +kernel
theorem dX2_digestedAs_1 : decode cX2_digestedAs 1 = .ok (.ifnonnull 5, 3) := by decide +kernel
theorem dX2_digestedAs_4 : decode cX2_digestedAs 4 = .ok (.lconst 0, 1) := by decide +kernel
theorem dX2_digestedAs_5 : decode cX2_digestedAs 5 = .ok (.lreturn, 1) := by decide +kernel
theorem dX2_digestedAs_6 : decode cX2_digestedAs 6 = .ok (.aload_n 0, 1) := by decide +kernel
theorem dX2_digestedAs_7 : decode cX2_digestedAs 7 = .ok (.instanceof 38, 3) := by decide +kernel
theorem dX2_digestedAs_10 : decode cX2_digestedAs 10 = .ok (.ifCond .eq 13, 3) := by decide +kernel
theorem dX2_digestedAs_13 : decode cX2_digestedAs 13 = .ok (.aload_n 0, 1) := by decide +kernel
theorem dX2_digestedAs_14 : decode cX2_digestedAs 14 = .ok (.checkcast 38, 3) := by decide +kernel
theorem dX2_digestedAs_17 : decode cX2_digestedAs 17 = .ok (.astore_n 1, 1) := by decide +kernel
theorem dX2_digestedAs_18 : decode cX2_digestedAs 18 = .ok (.aload_n 1, 1) := by decide +kernel
theorem dX2_digestedAs_19 : decode cX2_digestedAs 19 = .ok (.invokevirtual 40, 3) := by decide +kernel
theorem dX2_digestedAs_22 : decode cX2_digestedAs 22 = .ok (.lreturn, 1) := by decide +kernel
theorem dX2_digestedAs_23 : decode cX2_digestedAs 23 = .ok (.aload_n 0, 1) := by decide +kernel
theorem dX2_digestedAs_24 : decode cX2_digestedAs 24 = .ok (.invokestatic 44, 3) := by decide +kernel
theorem dX2_digestedAs_27 : decode cX2_digestedAs 27 = .ok (.lreturn, 1) := by decide +kernel
set_option maxRecDepth 20000 in
theorem ggX3_init_X0_init : GoodIn wsX3_init wsX0_init := goodIn_r _ [5, 6, 7, 8, 9, 10, 11, 12, 13, 14, 15, 16, 17, 18, 19] (by decide +kernel) (by decide +kernel)
set_option maxRecDepth 20000 in
theorem gX3_init_X0_init : GoodIn wsX3_init (wsX0_init) := ggX3_init_X0_init
theorem dX3_init_0 : decode cX3_init 0 = .ok (.aload_n 0, 1) := by decide +kernel
theorem dX3_init_1 : decode cX3_init 1 = .ok (.iload_n 1, 1) := by decide +kernel
theorem dX3_init_2 : decode cX3_init 2 = .ok (.invokespecial 1, 3) := by decide +kernel
theorem dX3_init_5 : decode cX3_init 5 = .ok (.aload_n 0, 1) := by decide +kernel
theorem dX3_init_6 : decode cX3_init 6 = .ok (.iload_n 2, 1) := by decide +kernel
theorem dX3_init_7 : decode cX3_init 7 = .ok (.putfield 7, 3) := by decide +kernel
theorem dX3_init_10 : decode cX3_init 10 = .ok (.return_, 1) := by decide +kernel
theorem dX3_hasElement_0 : decode cX3_hasElement 0 = .ok (.iload_n 1, 1) := by decide +kernel
theorem dX3_hasElement_1 : decode cX3_hasElement 1 = .ok (.ifCond .lt 15, 3) := by decide +kernel
theorem dX3_hasElement_4 : decode cX3_hasElement 4 = .ok (.iload_n 1, 1) := by decide +kernel
theorem dX3_hasElement_5 : decode cX3_hasElement 5 = .ok (.aload_n 0, 1) := by decide +kernel
theorem dX3_hasElement_6 : decode cX3_hasElement 6 = .ok (.getfield 7, 3) := by decide +kernel
theorem dX3_hasElement_9 : decode cX3_hasElement 9 = .ok (.if_icmp .ge 7, 3) := by decide +kernel
theorem dX3_hasElement_12 : decode cX3_hasElement 12 = .ok (.iconst 1, 1) := by decide +kernel
theorem dX3_hasElement_13 : decode cX3_hasElement 13 = .ok (.goto 4, 3) := by decide +kernel
theorem dX3_hasElement_16 : decode cX3_hasElement 16 = .ok (.iconst 0, 1) := by decide +kernel
theorem dX3_hasElement_17 : decode cX3_hasElement 17 = .ok (.ireturn, 1) := by decide +kernel
theorem dX3_hasSpan_0 : decode cX3_hasSpan 0 = .ok (.iload_n 1, 1) := by decide +kernel
theorem dX3_hasSpan_1 : decode cX3_hasSpan 1 = .ok (.ifCond .lt 25, 3) := by decide +kernel
theorem dX3_hasSpan_4 : decode cX3_hasSpan 4 = .ok (.iload_n 2, 1) := by decide +kernel
theorem dX3_hasSpan_5 : decode cX3_hasSpan 5 = .ok (.ifCond .lt 21, 3) := by decide +kernel
theorem dX3_hasSpan_8 : decode cX3_hasSpan 8 = .ok (.iload_n 1, 1) := by decide +kernel
theorem dX3_hasSpan_9 : decode cX3_hasSpan 9 = .ok (.i2l, 1) := by decide +kernel
theorem dX3_hasSpan_10 : decode cX3_hasSpan 10 = .ok (.iload_n 2, 1) := by decide +kernel
theorem dX3_hasSpan_11 : decode cX3_hasSpan 11 = .ok (.i2l, 1) := by decide +kernel
theorem dX3_hasSpan_12 : decode cX3_hasSpan 12 = .ok (.ladd, 1) := by decide +kernel
theorem dX3_hasSpan_13 : decode cX3_hasSpan 13 = .ok (.aload_n 0, 1) := by decide +kernel
theorem dX3_hasSpan_14 : decode cX3_hasSpan 14 = .ok (.getfield 7, 3) := by decide +kernel
theorem dX3_hasSpan_17 : decode cX3_hasSpan 17 = .ok (.i2l, 1) := by decide +kernel
theorem dX3_hasSpan_18 : decode cX3_hasSpan 18 = .ok (.lcmp, 1) := by decide +kernel
theorem dX3_hasSpan_19 : decode cX3_hasSpan 19 = .ok (.ifCond .gt 7, 3) := by decide +kernel
theorem dX3_hasSpan_22 : decode cX3_hasSpan 22 = .ok (.iconst 1, 1) := by decide +kernel
theorem dX3_hasSpan_23 : decode cX3_hasSpan 23 = .ok (.goto 4, 3) := by decide +kernel
theorem dX3_hasSpan_26 : decode cX3_hasSpan 26 = .ok (.iconst 0, 1) := by decide +kernel
theorem dX3_hasSpan_27 : decode cX3_hasSpan 27 = .ok (.ireturn, 1) := by decide +kernel
set_option maxRecDepth 20000 in
theorem ggX4_init_X0_init : GoodIn wsX4_init wsX0_init := goodIn_r _ [5, 6, 7, 8, 9, 12, 13, 14, 15, 16, 17, 18, 19, 10, 11] (by decide +kernel) (by decide +kernel)
set_option maxRecDepth 20000 in
theorem gX4_init_X0_init : GoodIn wsX4_init (wsX0_init) := ggX4_init_X0_init
theorem dX4_init_0 : decode cX4_init 0 = .ok (.aload_n 0, 1) := by decide +kernel
theorem dX4_init_1 : decode cX4_init 1 = .ok (.iload_n 1, 1) := by decide +kernel
theorem dX4_init_2 : decode cX4_init 2 = .ok (.invokespecial 1, 3) := by decide +kernel
theorem dX4_init_5 : decode cX4_init 5 = .ok (.aload_n 0, 1) := by decide +kernel
theorem dX4_init_6 : decode cX4_init 6 = .ok (.iload_n 2, 1) := by decide +kernel
theorem dX4_init_7 : decode cX4_init 7 = .ok (.putfield 7, 3) := by decide +kernel
theorem dX4_init_10 : decode cX4_init 10 = .ok (.return_, 1) := by decide +kernel
theorem dX5_init_0 : decode cX5_init 0 = .ok (.aload_n 0, 1) := by decide +kernel
theorem dX5_init_1 : decode cX5_init 1 = .ok (.invokespecial 1, 3) := by decide +kernel
theorem dX5_init_4 : decode cX5_init 4 = .ok (.aload_n 0, 1) := by decide +kernel
theorem dX5_init_5 : decode cX5_init 5 = .ok (.sipush 400, 3) := by decide +kernel
theorem dX5_init_8 : decode cX5_init 8 = .ok (.anewarray 9, 3) := by decide +kernel
theorem dX5_init_11 : decode cX5_init 11 = .ok (.putfield 11, 3) := by decide +kernel
theorem dX5_init_14 : decode cX5_init 14 = .ok (.aload_n 0, 1) := by decide +kernel
theorem dX5_init_15 : decode cX5_init 15 = .ok (.sipush 320, 3) := by decide +kernel
theorem dX5_init_18 : decode cX5_init 18 = .ok (.newarray .int, 2) := by decide +kernel
theorem dX5_init_20 : decode cX5_init 20 = .ok (.putfield 15, 3) := by decide +kernel
theorem dX5_init_23 : decode cX5_init 23 = .ok (.aload_n 0, 1) := by decide +kernel
theorem dX5_init_24 : decode cX5_init 24 = .ok (.iconst 0, 1) := by decide +kernel
theorem dX5_init_25 : decode cX5_init 25 = .ok (.putfield 19, 3) := by decide +kernel
theorem dX5_init_28 : decode cX5_init 28 = .ok (.aload_n 0, 1) := by decide +kernel
theorem dX5_init_29 : decode cX5_init 29 = .ok (.ldc 23, 2) := by decide +kernel
theorem dX5_init_31 : decode cX5_init 31 = .ok (.putfield 24, 3) := by decide +kernel
theorem dX5_init_34 : decode cX5_init 34 = .ok (.aload_n 0, 1) := by decide +kernel
theorem dX5_init_35 : decode cX5_init 35 = .ok (.iconst 0, 1) := by decide +kernel
theorem dX5_init_36 : decode cX5_init 36 = .ok (.putfield 27, 3) := by decide +kernel
theorem dX5_init_39 : decode cX5_init 39 = .ok (.aload_n 0, 1) := by decide +kernel
theorem dX5_init_40 : decode cX5_init 40 = .ok (.iconst 0, 1) := by decide +kernel
theorem dX5_init_41 : decode cX5_init 41 = .ok (.putfield 30, 3) := by decide +kernel
theorem dX5_init_44 : decode cX5_init 44 = .ok (.aload_n 0, 1) := by decide +kernel
theorem dX5_init_45 : decode cX5_init 45 = .ok (.iconst 0, 1) := by decide +kernel
theorem dX5_init_46 : decode cX5_init 46 = .ok (.putfield 33, 3) := by decide +kernel
theorem dX5_init_49 : decode cX5_init 49 = .ok (.aload_n 0, 1) := by decide +kernel
theorem dX5_init_50 : decode cX5_init 50 = .ok (.iconst 0, 1) := by decide +kernel
theorem dX5_init_51 : decode cX5_init 51 = .ok (.putfield 36, 3) := by decide +kernel
theorem dX5_init_54 : decode cX5_init 54 = .ok (.aload_n 0, 1) := by decide +kernel
theorem dX5_init_55 : decode cX5_init 55 = .ok (.iconst 0, 1) := by decide +kernel
theorem dX5_init_56 : decode cX5_init 56 = .ok (.putfield 39, 3) := by decide +kernel
theorem dX5_init_59 : decode cX5_init 59 = .ok (.return_, 1) := by decide +kernel
set_option maxRecDepth 20000 in
theorem ggX5_row_X5_lowestEmptyPlace : GoodIn wsX5_row wsX5_lowestEmptyPlace := goodIn_r _ [13, 2, 38, 39, 40, 41, 42, 43, 44, 45, 46] (by decide +kernel) (by decide +kernel)
set_option maxRecDepth 20000 in
theorem gX5_row_X5_lowestEmptyPlace : GoodIn wsX5_row (wsV RX5 42 RX5 yX5_lowestEmptyPlace wsX5_lowestEmptyPlace) := goodIn_app (goodIn_of _ (by decide +kernel)) ggX5_row_X5_lowestEmptyPlace
set_option maxRecDepth 20000 in
theorem ggX5_row_X1_init : GoodIn wsX5_row wsX1_init := goodIn_r _ [16, 17, 18, 19, 20, 21, 22, 23, 24, 25, 26, 27, 28, 29, 30, 31, 47, 48, 49, 50, 51, 52, 53, 54, 55, 56] (by decide +kernel) (by decide +kernel)
set_option maxRecDepth 20000 in
theorem gX5_row_X1_init : GoodIn wsX5_row (wsX1_init) := ggX5_row_X1_init
set_option maxRecDepth 20000 in
theorem ggX5_row_X2_init : GoodIn wsX5_row wsX2_init := goodIn_r _ [34, 35, 36, 37, 20, 21, 22, 23, 24, 25, 26, 27, 28, 29, 30, 31, 52, 53, 54, 47, 48, 49, 50, 51, 55, 56] (by decide +kernel) (by decide +kernel)
set_option maxRecDepth 20000 in
theorem gX5_row_X2_init : GoodIn wsX5_row (wsX2_init) := ggX5_row_X2_init
theorem dX5_row_0 : decode cX5_row 0 = .ok (.iload_n 1, 1) := by decide +kernel
theorem dX5_row_1 : decode cX5_row 1 = .ok (.ifCond .lt 9, 3) := by decide +kernel
theorem dX5_row_4 : decode cX5_row 4 = .ok (.iload_n 1, 1) := by decide +kernel
theorem dX5_row_5 : decode cX5_row 5 = .ok (.bipush 6, 2) := by decide +kernel
theorem dX5_row_7 : decode cX5_row 7 = .ok (.if_icmp .le 5, 3) := by decide +kernel
theorem dX5_row_10 : decode cX5_row 10 = .ok (.iconst (-1), 1) := by decide +kernel
theorem dX5_row_11 : decode cX5_row 11 = .ok (.ireturn, 1) := by decide +kernel
theorem dX5_row_12 : decode cX5_row 12 = .ok (.aload_n 0, 1) := by decide +kernel
theorem dX5_row_13 : decode cX5_row 13 = .ok (.invokevirtual 42, 3) := by decide +kernel
theorem dX5_row_16 : decode cX5_row 16 = .ok (.istore_n 3, 1) := by decide +kernel
theorem dX5_row_17 : decode cX5_row 17 = .ok (.iload_n 2, 1) := by decide +kernel
theorem dX5_row_18 : decode cX5_row 18 = .ok (.sipush 2000, 3) := by decide +kernel
theorem dX5_row_21 : decode cX5_row 21 = .ok (.if_icmp .gt 18, 3) := by decide +kernel
theorem dX5_row_24 : decode cX5_row 24 = .ok (.iload_n 3, 1) := by decide +kernel
theorem dX5_row_25 : decode cX5_row 25 = .ok (.iconst (-1), 1) := by decide +kernel
theorem dX5_row_26 : decode cX5_row 26 = .ok (.if_icmp .eq 13, 3) := by decide +kernel
theorem dX5_row_29 : decode cX5_row 29 = .ok (.aload_n 0, 1) := by decide +kernel
theorem dX5_row_30 : decode cX5_row 30 = .ok (.getfield 24, 3) := by decide +kernel
theorem dX5_row_33 : decode cX5_row 33 = .ok (.iload_n 2, 1) := by decide +kernel
theorem dX5_row_34 : decode cX5_row 34 = .ok (.iconst 1, 1) := by decide +kernel
theorem dX5_row_35 : decode cX5_row 35 = .ok (.iadd, 1) := by decide +kernel
theorem dX5_row_36 : decode cX5_row 36 = .ok (.if_icmp .ge 6, 3) := by decide +kernel
theorem dX5_row_39 : decode cX5_row 39 = .ok (.bipush (-2), 2) := by decide +kernel
theorem dX5_row_41 : decode cX5_row 41 = .ok (.ireturn, 1) := by decide +kernel
theorem dX5_row_42 : decode cX5_row 42 = .ok (.iload_n 2, 1) := by decide +kernel
theorem dX5_row_43 : decode cX5_row 43 = .ok (.ifCond .ge 6, 3) := by decide +kernel
theorem dX5_row_46 : decode cX5_row 46 = .ok (.bipush (-3), 2) := by decide +kernel
theorem dX5_row_48 : decode cX5_row 48 = .ok (.ireturn, 1) := by decide +kernel
theorem dX5_row_49 : decode cX5_row 49 = .ok (.aload_n 0, 1) := by decide +kernel
theorem dX5_row_50 : decode cX5_row 50 = .ok (.dup, 1) := by decide +kernel
theorem dX5_row_51 : decode cX5_row 51 = .ok (.getfield 24, 3) := by decide +kernel
theorem dX5_row_54 : decode cX5_row 54 = .ok (.iload_n 2, 1) := by decide +kernel
theorem dX5_row_55 : decode cX5_row 55 = .ok (.iconst 1, 1) := by decide +kernel
theorem dX5_row_56 : decode cX5_row 56 = .ok (.iadd, 1) := by decide +kernel
theorem dX5_row_57 : decode cX5_row 57 = .ok (.isub, 1) := by decide +kernel
theorem dX5_row_58 : decode cX5_row 58 = .ok (.putfield 24, 3) := by decide +kernel
theorem dX5_row_61 : decode cX5_row 61 = .ok (.aload_n 0, 1) := by decide +kernel
theorem dX5_row_62 : decode cX5_row 62 = .ok (.getfield 11, 3) := by decide +kernel
theorem dX5_row_65 : decode cX5_row 65 = .ok (.iload_n 3, 1) := by decide +kernel
theorem dX5_row_66 : decode cX5_row 66 = .ok (.iload_n 1, 1) := by decide +kernel
theorem dX5_row_67 : decode cX5_row 67 = .ok (.iconst 3, 1) := by decide +kernel
theorem dX5_row_68 : decode cX5_row 68 = .ok (.if_icmp .gt 15, 3) := by decide +kernel
theorem dX5_row_71 : decode cX5_row 71 = .ok (.new 46, 3) := by decide +kernel
theorem dX5_row_74 : decode cX5_row 74 = .ok (.dup, 1) := by decide +kernel
theorem dX5_row_75 : decode cX5_row 75 = .ok (.iload_n 1, 1) := by decide +kernel
theorem dX5_row_76 : decode cX5_row 76 = .ok (.iload_n 2, 1) := by decide +kernel
theorem dX5_row_77 : decode cX5_row 77 = .ok (.invokespecial 48, 3) := by decide +kernel
theorem dX5_row_80 : decode cX5_row 80 = .ok (.goto 12, 3) := by decide +kernel
theorem dX5_row_83 : decode cX5_row 83 = .ok (.new 51, 3) := by decide +kernel
theorem dX5_row_86 : decode cX5_row 86 = .ok (.dup, 1) := by decide +kernel
theorem dX5_row_87 : decode cX5_row 87 = .ok (.iload_n 1, 1) := by decide +kernel
theorem dX5_row_88 : decode cX5_row 88 = .ok (.iload_n 2, 1) := by decide +kernel
theorem dX5_row_89 : decode cX5_row 89 = .ok (.invokespecial 53, 3) := by decide +kernel
theorem dX5_row_92 : decode cX5_row 92 = .ok (.aastore, 1) := by decide +kernel
theorem dX5_row_93 : decode cX5_row 93 = .ok (.iload_n 3, 1) := by decide +kernel
theorem dX5_row_94 : decode cX5_row 94 = .ok (.ireturn, 1) := by decide +kernel
set_option maxRecDepth 20000 in
theorem ggX5_mark_X5_newThing : GoodIn wsX5_mark wsX5_newThing := goodIn_r _ [5, 6, 7, 8, 9, 10, 11, 12, 13, 4, 14, 15, 16, 17, 18, 19, 20, 21, 22, 23, 24, 25, 26, 27, 28, 29, 30, 31, 32, 33, 34, 35, 36, 37, 38, 39, 40, 41, 42, 43, 44, 45] (by decide +kernel) (by decide +kernel)
set_option maxRecDepth 20000 in
theorem gX5_mark_X5_newThing : GoodIn wsX5_mark (wsV RX5 54 RX5 yX5_newThing wsX5_newThing) := goodIn_app (goodIn_of _ (by decide +kernel)) ggX5_mark_X5_newThing
theorem dX5_mark_0 : decode cX5_mark 0 = .ok (.aload_n 0, 1) := by decide +kernel
theorem dX5_mark_1 : decode cX5_mark 1 = .ok (.bipush 7, 2) := by decide +kernel
theorem dX5_mark_3 : decode cX5_mark 3 = .ok (.iload_n 1, 1) := by decide +kernel
theorem dX5_mark_4 : decode cX5_mark 4 = .ok (.invokevirtual 54, 3) := by decide +kernel
theorem dX5_mark_7 : decode cX5_mark 7 = .ok (.ireturn, 1) := by decide +kernel
set_option maxRecDepth 20000 in
theorem ggX5_seal_X5_newThing : GoodIn wsX5_seal wsX5_newThing := goodIn_r _ [5, 6, 7, 8, 9, 10, 11, 12, 13, 4, 14, 15, 16, 17, 18, 19, 20, 21, 22, 23, 24, 25, 26, 27, 28, 29, 30, 31, 32, 33, 34, 35, 36, 37, 38, 39, 40, 41, 42, 43, 44, 45] (by decide +kernel) (by decide +kernel)
set_option maxRecDepth 20000 in
theorem gX5_seal_X5_newThing : GoodIn wsX5_seal (wsV RX5 54 RX5 yX5_newThing wsX5_newThing) := goodIn_app (goodIn_of _ (by decide +kernel)) ggX5_seal_X5_newThing
theorem dX5_seal_0 : decode cX5_seal 0 = .ok (.aload_n 0, 1) := by decide +kernel
theorem dX5_seal_1 : decode cX5_seal 1 = .ok (.bipush 8, 2) := by decide +kernel
theorem dX5_seal_3 : decode cX5_seal 3 = .ok (.iload_n 1, 1) := by decide +kernel
theorem dX5_seal_4 : decode cX5_seal 4 = .ok (.invokevirtual 54, 3) := by decide +kernel
theorem dX5_seal_7 : decode cX5_seal 7 = .ok (.ireturn, 1) := by decide +kernel
set_option maxRecDepth 20000 in
theorem ggX5_kindOf_X5_itemAt : GoodIn wsX5_kindOf wsX5_itemAt := goodIn_r _ [6, 7, 18, 19, 20, 21, 22, 23, 24, 25, 26] (by decide +kernel) (by decide +kernel)
set_option maxRecDepth 20000 in
theorem gX5_kindOf_X5_itemAt : GoodIn wsX5_kindOf (wsV RX5 58 RX5 yX5_itemAt wsX5_itemAt) := goodIn_app (goodIn_of _ (by decide +kernel)) ggX5_kindOf_X5_itemAt
theorem dX5_kindOf_0 : decode cX5_kindOf 0 = .ok (.aload_n 0, 1) := by decide +kernel
theorem dX5_kindOf_1 : decode cX5_kindOf 1 = .ok (.iload_n 1, 1) := by decide +kernel
theorem dX5_kindOf_2 : decode cX5_kindOf 2 = .ok (.invokevirtual 58, 3) := by decide +kernel
theorem dX5_kindOf_5 : decode cX5_kindOf 5 = .ok (.astore_n 2, 1) := by decide +kernel
theorem dX5_kindOf_6 : decode cX5_kindOf 6 = .ok (.aload_n 2, 1) := by decide +kernel
theorem dX5_kindOf_7 : decode cX5_kindOf 7 = .ok (.ifnonnull 7, 3) := by decide +kernel
theorem dX5_kindOf_10 : decode cX5_kindOf 10 = .ok (.iconst (-1), 1) := by decide +kernel
theorem dX5_kindOf_11 : decode cX5_kindOf 11 = .ok (.goto 7, 3) := by decide +kernel
theorem dX5_kindOf_14 : decode cX5_kindOf 14 = .ok (.aload_n 2, 1) := by decide +kernel
theorem dX5_kindOf_15 : decode cX5_kindOf 15 = .ok (.getfield 62, 3) := by decide +kernel
theorem dX5_kindOf_18 : decode cX5_kindOf 18 = .ok (.ireturn, 1) := by decide +kernel
set_option maxRecDepth 20000 in
theorem ggX5_length_X5_itemAt : GoodIn wsX5_length wsX5_itemAt := goodIn_r _ [7, 8, 17, 18, 19, 20, 21, 22, 23, 24, 25] (by decide +kernel) (by decide +kernel)
set_option maxRecDepth 20000 in
theorem gX5_length_X5_itemAt : GoodIn wsX5_length (wsV RX5 58 RX5 yX5_itemAt wsX5_itemAt) := goodIn_app (goodIn_of _ (by decide +kernel)) ggX5_length_X5_itemAt
theorem dX5_length_0 : decode cX5_length 0 = .ok (.aload_n 0, 1) := by decide +kernel
theorem dX5_length_1 : decode cX5_length 1 = .ok (.iload_n 1, 1) := by decide +kernel
theorem dX5_length_2 : decode cX5_length 2 = .ok (.invokevirtual 58, 3) := by decide +kernel
theorem dX5_length_5 : decode cX5_length 5 = .ok (.astore_n 2, 1) := by decide +kernel
theorem dX5_length_6 : decode cX5_length 6 = .ok (.aload_n 2, 1) := by decide +kernel
theorem dX5_length_7 : decode cX5_length 7 = .ok (.ifnonnull 5, 3) := by decide +kernel
theorem dX5_length_10 : decode cX5_length 10 = .ok (.iconst (-1), 1) := by decide +kernel
theorem dX5_length_11 : decode cX5_length 11 = .ok (.ireturn, 1) := by decide +kernel
theorem dX5_length_12 : decode cX5_length 12 = .ok (.aload_n 2, 1) := by decide +kernel
theorem dX5_length_13 : decode cX5_length 13 = .ok (.instanceof 65, 3) := by decide +kernel
theorem dX5_length_16 : decode cX5_length 16 = .ok (.ifCond .eq 15, 3) := by decide +kernel
theorem dX5_length_19 : decode cX5_length 19 = .ok (.aload_n 2, 1) := by decide +kernel
theorem dX5_length_20 : decode cX5_length 20 = .ok (.checkcast 65, 3) := by decide +kernel
theorem dX5_length_23 : decode cX5_length 23 = .ok (.astore_n 3, 1) := by decide +kernel
theorem dX5_length_24 : decode cX5_length 24 = .ok (.aload_n 3, 1) := by decide +kernel
theorem dX5_length_25 : decode cX5_length 25 = .ok (.getfield 67, 3) := by decide +kernel
theorem dX5_length_28 : decode cX5_length 28 = .ok (.goto 5, 3) := by decide +kernel
theorem dX5_length_31 : decode cX5_length 31 = .ok (.bipush (-2), 2) := by decide +kernel
theorem dX5_length_33 : decode cX5_length 33 = .ok (.ireturn, 1) := by decide +kernel
set_option maxRecDepth 20000 in
theorem ggX5_set_X5_itemAt : GoodIn wsX5_set wsX5_itemAt := goodIn_r _ [6, 7, 35, 36, 37, 38, 39, 40, 41, 42, 43] (by decide +kernel) (by decide +kernel)
set_option maxRecDepth 20000 in
theorem gX5_set_X5_itemAt : GoodIn wsX5_set (wsV RX5 58 RX5 yX5_itemAt wsX5_itemAt) := goodIn_app (goodIn_of _ (by decide +kernel)) ggX5_set_X5_itemAt
set_option maxRecDepth 20000 in
theorem ggX5_set_X5_refusalAt : GoodIn wsX5_set wsX5_refusalAt := goodIn_r _ [10, 11, 12, 13, 14, 15, 16, 17, 18, 19, 20, 21, 44, 45, 46, 47, 48, 49, 50, 51, 52, 53] (by decide +kernel) (by decide +kernel)
set_option maxRecDepth 20000 in
theorem gX5_set_X5_refusalAt : GoodIn wsX5_set (va_wsS RX5 70 yX5_refusalAt wsX5_refusalAt) := goodIn_app (goodIn_of _ (by decide +kernel)) ggX5_set_X5_refusalAt
set_option maxRecDepth 20000 in
theorem ggX5_set_X1_put : GoodIn wsX5_set wsX1_put := goodIn_r _ [26, 27, 28, 29, 30, 31, 25, 32, 33, 34, 44, 45, 46, 47, 48, 49, 50, 51, 52, 53] (by decide +kernel) (by decide +kernel)
set_option maxRecDepth 20000 in
theorem gX5_set_X1_put : GoodIn wsX5_set (wsV RX5 74 RX1 yX1_put wsX1_put) := goodIn_app (goodIn_of _ (by decide +kernel)) ggX5_set_X1_put
theorem dX5_set_0 : decode cX5_set 0 = .ok (.aload_n 0, 1) := by decide +kernel
theorem dX5_set_1 : decode cX5_set 1 = .ok (.iload_n 1, 1) := by decide +kernel
theorem dX5_set_2 : decode cX5_set 2 = .ok (.invokevirtual 58, 3) := by decide +kernel
theorem dX5_set_5 : decode cX5_set 5 = .ok (.astore 5, 2) := by decide +kernel
theorem dX5_set_7 : decode cX5_set 7 = .ok (.aload 5, 2) := by decide +kernel
theorem dX5_set_9 : decode cX5_set 9 = .ok (.iload_n 2, 1) := by decide +kernel
theorem dX5_set_10 : decode cX5_set 10 = .ok (.iconst 0, 1) := by decide +kernel
theorem dX5_set_11 : decode cX5_set 11 = .ok (.iconst 3, 1) := by decide +kernel
theorem dX5_set_12 : decode cX5_set 12 = .ok (.invokestatic 70, 3) := by decide +kernel
theorem dX5_set_15 : decode cX5_set 15 = .ok (.istore 6, 2) := by decide +kernel
theorem dX5_set_17 : decode cX5_set 17 = .ok (.iload 6, 2) := by decide +kernel
theorem dX5_set_19 : decode cX5_set 19 = .ok (.ifCond .ne 25, 3) := by decide +kernel
theorem dX5_set_22 : decode cX5_set 22 = .ok (.aload 5, 2) := by decide +kernel
theorem dX5_set_24 : decode cX5_set 24 = .ok (.instanceof 46, 3) := by decide +kernel
theorem dX5_set_27 : decode cX5_set 27 = .ok (.ifCond .eq 17, 3) := by decide +kernel
theorem dX5_set_30 : decode cX5_set 30 = .ok (.aload 5, 2) := by decide +kernel
theorem dX5_set_32 : decode cX5_set 32 = .ok (.checkcast 46, 3) := by decide +kernel
theorem dX5_set_35 : decode cX5_set 35 = .ok (.astore 7, 2) := by decide +kernel
theorem dX5_set_37 : decode cX5_set 37 = .ok (.aload 7, 2) := by decide +kernel
theorem dX5_set_39 : decode cX5_set 39 = .ok (.iload_n 2, 1) := by decide +kernel
theorem dX5_set_40 : decode cX5_set 40 = .ok (.lload_n 3, 1) := by decide +kernel
theorem dX5_set_41 : decode cX5_set 41 = .ok (.invokevirtual 74, 3) := by decide +kernel
theorem dX5_set_44 : decode cX5_set 44 = .ok (.iload 6, 2) := by decide +kernel
theorem dX5_set_46 : decode cX5_set 46 = .ok (.ireturn, 1) := by decide +kernel
set_option maxRecDepth 20000 in
theorem ggX5_setThing_X5_itemAt : GoodIn wsX5_setThing wsX5_itemAt := goodIn_r _ [6, 7, 35, 36, 37, 38, 39, 40, 41, 42, 43] (by decide +kernel) (by decide +kernel)
set_option maxRecDepth 20000 in
theorem gX5_setThing_X5_itemAt : GoodIn wsX5_setThing (wsV RX5 58 RX5 yX5_itemAt wsX5_itemAt) := goodIn_app (goodIn_of _ (by decide +kernel)) ggX5_setThing_X5_itemAt
set_option maxRecDepth 20000 in
theorem ggX5_setThing_X5_refusalAt : GoodIn wsX5_setThing wsX5_refusalAt := goodIn_r _ [10, 11, 12, 13, 14, 15, 16, 17, 18, 19, 20, 21, 44, 45, 46, 47, 48, 49, 50, 51, 52, 53] (by decide +kernel) (by decide +kernel)
set_option maxRecDepth 20000 in
theorem gX5_setThing_X5_refusalAt : GoodIn wsX5_setThing (va_wsS RX5 70 yX5_refusalAt wsX5_refusalAt) := goodIn_app (goodIn_of _ (by decide +kernel)) ggX5_setThing_X5_refusalAt
set_option maxRecDepth 20000 in
theorem ggX5_setThing_X2_isFitFor : GoodIn wsX5_setThing wsX2_isFitFor := goodIn_r _ [26, 27, 28, 29, 44, 45, 46, 47, 48, 49, 50, 51, 52, 53] (by decide +kernel) (by decide +kernel)
set_option maxRecDepth 20000 in
theorem gX5_setThing_X2_isFitFor : GoodIn wsX5_setThing (wsV RX5 78 RX2 yX2_isFitFor wsX2_isFitFor) := goodIn_app (goodIn_of _ (by decide +kernel)) ggX5_setThing_X2_isFitFor
set_option maxRecDepth 20000 in
theorem ggX5_setThing_X2_putObject : GoodIn wsX5_setThing wsX2_putObject := goodIn_r _ [33, 34, 49, 50, 51] (by decide +kernel) (by decide +kernel)
set_option maxRecDepth 20000 in
theorem gX5_setThing_X2_putObject : GoodIn wsX5_setThing (wsV RX5 82 RX2 yX2_putObject wsX2_putObject) := goodIn_app (goodIn_of _ (by decide +kernel)) ggX5_setThing_X2_putObject
theorem dX5_setThing_0 : decode cX5_setThing 0 = .ok (.aload_n 0, 1) := by decide +kernel
theorem dX5_setThing_1 : decode cX5_setThing 1 = .ok (.iload_n 1, 1) := by decide +kernel
theorem dX5_setThing_2 : decode cX5_setThing 2 = .ok (.invokevirtual 58, 3) := by decide +kernel
theorem dX5_setThing_5 : decode cX5_setThing 5 = .ok (.astore 4, 2) := by decide +kernel
theorem dX5_setThing_7 : decode cX5_setThing 7 = .ok (.aload_n 0, 1) := by decide +kernel
theorem dX5_setThing_8 : decode cX5_setThing 8 = .ok (.iload_n 3, 1) := by decide +kernel
theorem dX5_setThing_9 : decode cX5_setThing 9 = .ok (.invokevirtual 58, 3) := by decide +kernel
theorem dX5_setThing_12 : decode cX5_setThing 12 = .ok (.astore 5, 2) := by decide +kernel
theorem dX5_setThing_14 : decode cX5_setThing 14 = .ok (.aload 5, 2) := by decide +kernel
theorem dX5_setThing_16 : decode cX5_setThing 16 = .ok (.ifnonnull 10, 3) := by decide +kernel
theorem dX5_setThing_19 : decode cX5_setThing 19 = .ok (.iload_n 3, 1) := by decide +kernel
theorem dX5_setThing_20 : decode cX5_setThing 20 = .ok (.iconst (-1), 1) := by decide +kernel
theorem dX5_setThing_21 : decode cX5_setThing 21 = .ok (.if_icmp .eq 5, 3) := by decide +kernel
theorem dX5_setThing_24 : decode cX5_setThing 24 = .ok (.iconst 1, 1) := by decide +kernel
theorem dX5_setThing_25 : decode cX5_setThing 25 = .ok (.ireturn, 1) := by decide +kernel
theorem dX5_setThing_26 : decode cX5_setThing 26 = .ok (.aload 4, 2) := by decide +kernel
theorem dX5_setThing_28 : decode cX5_setThing 28 = .ok (.iload_n 2, 1) := by decide +kernel
theorem dX5_setThing_29 : decode cX5_setThing 29 = .ok (.iconst 4, 1) := by decide +kernel
theorem dX5_setThing_30 : decode cX5_setThing 30 = .ok (.bipush 6, 2) := by decide +kernel
theorem dX5_setThing_32 : decode cX5_setThing 32 = .ok (.invokestatic 70, 3) := by decide +kernel
theorem dX5_setThing_35 : decode cX5_setThing 35 = .ok (.istore 6, 2) := by decide +kernel
theorem dX5_setThing_37 : decode cX5_setThing 37 = .ok (.iload 6, 2) := by decide +kernel
theorem dX5_setThing_39 : decode cX5_setThing 39 = .ok (.ifCond .ne 38, 3) := by decide +kernel
theorem dX5_setThing_42 : decode cX5_setThing 42 = .ok (.aload 4, 2) := by decide +kernel
theorem dX5_setThing_44 : decode cX5_setThing 44 = .ok (.instanceof 51, 3) := by decide +kernel
theorem dX5_setThing_47 : decode cX5_setThing 47 = .ok (.ifCond .eq 30, 3) := by decide +kernel
theorem dX5_setThing_50 : decode cX5_setThing 50 = .ok (.aload 4, 2) := by decide +kernel
theorem dX5_setThing_52 : decode cX5_setThing 52 = .ok (.checkcast 51, 3) := by decide +kernel
theorem dX5_setThing_55 : decode cX5_setThing 55 = .ok (.astore 7, 2) := by decide +kernel
theorem dX5_setThing_57 : decode cX5_setThing 57 = .ok (.aload 7, 2) := by decide +kernel
theorem dX5_setThing_59 : decode cX5_setThing 59 = .ok (.aload 5, 2) := by decide +kernel
theorem dX5_setThing_61 : decode cX5_setThing 61 = .ok (.invokevirtual 78, 3) := by decide +kernel
theorem dX5_setThing_64 : decode cX5_setThing 64 = .ok (.ifCond .ne 5, 3) := by decide +kernel
theorem dX5_setThing_67 : decode cX5_setThing 67 = .ok (.iconst 5, 1) := by decide +kernel
theorem dX5_setThing_68 : decode cX5_setThing 68 = .ok (.ireturn, 1) := by decide +kernel
theorem dX5_setThing_69 : decode cX5_setThing 69 = .ok (.aload 7, 2) := by decide +kernel
theorem dX5_setThing_71 : decode cX5_setThing 71 = .ok (.iload_n 2, 1) := by decide +kernel
theorem dX5_setThing_72 : decode cX5_setThing 72 = .ok (.aload 5, 2) := by decide +kernel
theorem dX5_setThing_74 : decode cX5_setThing 74 = .ok (.invokevirtual 82, 3) := by decide +kernel
theorem dX5_setThing_77 : decode cX5_setThing 77 = .ok (.iload 6, 2) := by decide +kernel
theorem dX5_setThing_79 : decode cX5_setThing 79 = .ok (.ireturn, 1) := by decide +kernel
set_option maxRecDepth 20000 in
theorem ggX5_get_X5_itemAt : GoodIn wsX5_get wsX5_itemAt := goodIn_r _ [8, 9, 47, 48, 49, 50, 51, 52, 53, 54, 55] (by decide +kernel) (by decide +kernel)
set_option maxRecDepth 20000 in
theorem gX5_get_X5_itemAt : GoodIn wsX5_get (wsV RX5 58 RX5 yX5_itemAt wsX5_itemAt) := goodIn_app (goodIn_of _ (by decide +kernel)) ggX5_get_X5_itemAt
set_option maxRecDepth 20000 in
theorem ggX5_get_X5_refusalAt : GoodIn wsX5_get wsX5_refusalAt := goodIn_r _ [12, 13, 14, 15, 16, 17, 18, 19, 20, 21, 22, 23, 56, 57, 58, 59, 60, 61, 62, 63, 64, 65] (by decide +kernel) (by decide +kernel)
set_option maxRecDepth 20000 in
theorem gX5_get_X5_refusalAt : GoodIn wsX5_get (va_wsS RX5 70 yX5_refusalAt wsX5_refusalAt) := goodIn_app (goodIn_of _ (by decide +kernel)) ggX5_get_X5_refusalAt
set_option maxRecDepth 20000 in
theorem ggX5_get_X1_numberAt : GoodIn wsX5_get wsX1_numberAt := goodIn_r _ [28, 29, 56, 57, 58, 59, 60] (by decide +kernel) (by decide +kernel)
set_option maxRecDepth 20000 in
theorem gX5_get_X1_numberAt : GoodIn wsX5_get (wsV RX5 86 RX1 yX1_numberAt wsX1_numberAt) := goodIn_app (goodIn_of _ (by decide +kernel)) ggX5_get_X1_numberAt
set_option maxRecDepth 20000 in
theorem ggX5_get_X2_objectAt : GoodIn wsX5_get wsX2_objectAt := goodIn_r _ [34, 35, 61, 62, 63] (by decide +kernel) (by decide +kernel)
set_option maxRecDepth 20000 in
theorem gX5_get_X2_objectAt : GoodIn wsX5_get (wsV RX5 90 RX2 yX2_objectAt wsX2_objectAt) := goodIn_app (goodIn_of _ (by decide +kernel)) ggX5_get_X2_objectAt
set_option maxRecDepth 20000 in
theorem ggX5_get_X5_toldAs : GoodIn wsX5_get wsX5_toldAs := goodIn_r _ [38, 39, 40, 41, 42, 43, 44, 13, 45, 46, 56, 57, 58, 59, 60, 61, 62, 63, 64, 65] (by decide +kernel) (by decide +kernel)
set_option maxRecDepth 20000 in
theorem gX5_get_X5_toldAs : GoodIn wsX5_get (va_wsS RX5 93 yX5_toldAs wsX5_toldAs) := goodIn_app (goodIn_of _ (by decide +kernel)) ggX5_get_X5_toldAs
theorem dX5_get_0 : decode cX5_get 0 = .ok (.aload_n 0, 1) := by decide +kernel
theorem dX5_get_1 : decode cX5_get 1 = .ok (.iload_n 1, 1) := by decide +kernel
theorem dX5_get_2 : decode cX5_get 2 = .ok (.invokevirtual 58, 3) := by decide +kernel
theorem dX5_get_5 : decode cX5_get 5 = .ok (.astore_n 3, 1) := by decide +kernel
theorem dX5_get_6 : decode cX5_get 6 = .ok (.aload_n 0, 1) := by decide +kernel
theorem dX5_get_7 : decode cX5_get 7 = .ok (.aload_n 3, 1) := by decide +kernel
theorem dX5_get_8 : decode cX5_get 8 = .ok (.iload_n 2, 1) := by decide +kernel
theorem dX5_get_9 : decode cX5_get 9 = .ok (.iconst 0, 1) := by decide +kernel
theorem dX5_get_10 : decode cX5_get 10 = .ok (.bipush 6, 2) := by decide +kernel
theorem dX5_get_12 : decode cX5_get 12 = .ok (.invokestatic 70, 3) := by decide +kernel
theorem dX5_get_15 : decode cX5_get 15 = .ok (.putfield 27, 3) := by decide +kernel
theorem dX5_get_18 : decode cX5_get 18 = .ok (.aload_n 0, 1) := by decide +kernel
theorem dX5_get_19 : decode cX5_get 19 = .ok (.getfield 27, 3) := by decide +kernel
theorem dX5_get_22 : decode cX5_get 22 = .ok (.ifCond .ne 23, 3) := by decide +kernel
theorem dX5_get_25 : decode cX5_get 25 = .ok (.aload_n 3, 1) := by decide +kernel
theorem dX5_get_26 : decode cX5_get 26 = .ok (.instanceof 46, 3) := by decide +kernel
theorem dX5_get_29 : decode cX5_get 29 = .ok (.ifCond .eq 16, 3) := by decide +kernel
theorem dX5_get_32 : decode cX5_get 32 = .ok (.aload_n 3, 1) := by decide +kernel
theorem dX5_get_33 : decode cX5_get 33 = .ok (.checkcast 46, 3) := by decide +kernel
theorem dX5_get_36 : decode cX5_get 36 = .ok (.astore 4, 2) := by decide +kernel
theorem dX5_get_38 : decode cX5_get 38 = .ok (.aload 4, 2) := by decide +kernel
theorem dX5_get_40 : decode cX5_get 40 = .ok (.iload_n 2, 1) := by decide +kernel
theorem dX5_get_41 : decode cX5_get 41 = .ok (.invokevirtual 86, 3) := by decide +kernel
theorem dX5_get_44 : decode cX5_get 44 = .ok (.lreturn, 1) := by decide +kernel
theorem dX5_get_45 : decode cX5_get 45 = .ok (.aload_n 0, 1) := by decide +kernel
theorem dX5_get_46 : decode cX5_get 46 = .ok (.getfield 27, 3) := by decide +kernel
theorem dX5_get_49 : decode cX5_get 49 = .ok (.ifCond .ne 26, 3) := by decide +kernel
theorem dX5_get_52 : decode cX5_get 52 = .ok (.aload_n 3, 1) := by decide +kernel
theorem dX5_get_53 : decode cX5_get 53 = .ok (.instanceof 51, 3) := by decide +kernel
theorem dX5_get_56 : decode cX5_get 56 = .ok (.ifCond .eq 19, 3) := by decide +kernel
theorem dX5_get_59 : decode cX5_get 59 = .ok (.aload_n 3, 1) := by decide +kernel
theorem dX5_get_60 : decode cX5_get 60 = .ok (.checkcast 51, 3) := by decide +kernel
theorem dX5_get_63 : decode cX5_get 63 = .ok (.astore 4, 2) := by decide +kernel
theorem dX5_get_65 : decode cX5_get 65 = .ok (.aload 4, 2) := by decide +kernel
theorem dX5_get_67 : decode cX5_get 67 = .ok (.iload_n 2, 1) := by decide +kernel
theorem dX5_get_68 : decode cX5_get 68 = .ok (.invokevirtual 90, 3) := by decide +kernel
theorem dX5_get_71 : decode cX5_get 71 = .ok (.invokestatic 93, 3) := by decide +kernel
theorem dX5_get_74 : decode cX5_get 74 = .ok (.lreturn, 1) := by decide +kernel
theorem dX5_get_75 : decode cX5_get 75 = .ok (.lconst 0, 1) := by decide +kernel
theorem dX5_get_76 : decode cX5_get 76 = .ok (.lreturn, 1) := by decide +kernel
set_option maxRecDepth 20000 in
theorem ggX5_deep_X5_itemAt : GoodIn wsX5_deep wsX5_itemAt := goodIn_r _ [7, 8, 43, 44, 45, 46, 47, 48, 49, 50, 51] (by decide +kernel) (by decide +kernel)
set_option maxRecDepth 20000 in
theorem gX5_deep_X5_itemAt : GoodIn wsX5_deep (wsV RX5 58 RX5 yX5_itemAt wsX5_itemAt) := goodIn_app (goodIn_of _ (by decide +kernel)) ggX5_deep_X5_itemAt
set_option maxRecDepth 20000 in
theorem ggX5_deep_X5_refusalAt : GoodIn wsX5_deep wsX5_refusalAt := goodIn_r _ [11, 12, 13, 14, 15, 16, 17, 18, 19, 20, 21, 22, 52, 53, 54, 55, 56, 57, 58, 59, 60, 61] (by decide +kernel) (by decide +kernel)
set_option maxRecDepth 20000 in
theorem gX5_deep_X5_refusalAt : GoodIn wsX5_deep (va_wsS RX5 70 yX5_refusalAt wsX5_refusalAt) := goodIn_app (goodIn_of _ (by decide +kernel)) ggX5_deep_X5_refusalAt
set_option maxRecDepth 20000 in
theorem ggX5_deep_X2_objectAt : GoodIn wsX5_deep wsX2_objectAt := goodIn_r _ [27, 28, 57, 58, 59] (by decide +kernel) (by decide +kernel)
set_option maxRecDepth 20000 in
theorem gX5_deep_X2_objectAt : GoodIn wsX5_deep (wsV RX5 90 RX2 yX2_objectAt wsX2_objectAt) := goodIn_app (goodIn_of _ (by decide +kernel)) ggX5_deep_X2_objectAt
set_option maxRecDepth 20000 in
theorem ggX5_deep_X5_innerNumber : GoodIn wsX5_deep wsX5_innerNumber := goodIn_r _ [32, 33, 1, 34, 35, 36, 18, 19, 20, 21, 37, 38, 39, 40, 41, 42, 43, 44, 45, 46, 47, 48, 49, 50, 51, 52, 53, 54, 55, 56, 57, 58, 59] (by decide +kernel) (by decide +kernel)
set_option maxRecDepth 20000 in
theorem gX5_deep_X5_innerNumber : GoodIn wsX5_deep (wsV RX5 97 RX5 yX5_innerNumber wsX5_innerNumber) := goodIn_app (goodIn_of _ (by decide +kernel)) ggX5_deep_X5_innerNumber
theorem dX5_deep_0 : decode cX5_deep 0 = .ok (.aload_n 0, 1) := by decide +kernel
theorem dX5_deep_1 : decode cX5_deep 1 = .ok (.iload_n 1, 1) := by decide +kernel
theorem dX5_deep_2 : decode cX5_deep 2 = .ok (.invokevirtual 58, 3) := by decide +kernel
theorem dX5_deep_5 : decode cX5_deep 5 = .ok (.astore 4, 2) := by decide +kernel
theorem dX5_deep_7 : decode cX5_deep 7 = .ok (.aload_n 0, 1) := by decide +kernel
theorem dX5_deep_8 : decode cX5_deep 8 = .ok (.aload 4, 2) := by decide +kernel
theorem dX5_deep_10 : decode cX5_deep 10 = .ok (.iload_n 2, 1) := by decide +kernel
theorem dX5_deep_11 : decode cX5_deep 11 = .ok (.iconst 4, 1) := by decide +kernel
theorem dX5_deep_12 : decode cX5_deep 12 = .ok (.iconst 4, 1) := by decide +kernel
theorem dX5_deep_13 : decode cX5_deep 13 = .ok (.invokestatic 70, 3) := by decide +kernel
theorem dX5_deep_16 : decode cX5_deep 16 = .ok (.putfield 27, 3) := by decide +kernel
theorem dX5_deep_19 : decode cX5_deep 19 = .ok (.aload_n 0, 1) := by decide +kernel
theorem dX5_deep_20 : decode cX5_deep 20 = .ok (.getfield 27, 3) := by decide +kernel
theorem dX5_deep_23 : decode cX5_deep 23 = .ok (.ifCond .ne 30, 3) := by decide +kernel
theorem dX5_deep_26 : decode cX5_deep 26 = .ok (.aload 4, 2) := by decide +kernel
theorem dX5_deep_28 : decode cX5_deep 28 = .ok (.instanceof 51, 3) := by decide +kernel
theorem dX5_deep_31 : decode cX5_deep 31 = .ok (.ifCond .eq 22, 3) := by decide +kernel
theorem dX5_deep_34 : decode cX5_deep 34 = .ok (.aload 4, 2) := by decide +kernel
theorem dX5_deep_36 : decode cX5_deep 36 = .ok (.checkcast 51, 3) := by decide +kernel
theorem dX5_deep_39 : decode cX5_deep 39 = .ok (.astore 5, 2) := by decide +kernel
theorem dX5_deep_41 : decode cX5_deep 41 = .ok (.aload_n 0, 1) := by decide +kernel
theorem dX5_deep_42 : decode cX5_deep 42 = .ok (.aload 5, 2) := by decide +kernel
theorem dX5_deep_44 : decode cX5_deep 44 = .ok (.iload_n 2, 1) := by decide +kernel
theorem dX5_deep_45 : decode cX5_deep 45 = .ok (.invokevirtual 90, 3) := by decide +kernel
theorem dX5_deep_48 : decode cX5_deep 48 = .ok (.iload_n 3, 1) := by decide +kernel
theorem dX5_deep_49 : decode cX5_deep 49 = .ok (.invokevirtual 97, 3) := by decide +kernel
theorem dX5_deep_52 : decode cX5_deep 52 = .ok (.lreturn, 1) := by decide +kernel
theorem dX5_deep_53 : decode cX5_deep 53 = .ok (.lconst 0, 1) := by decide +kernel
theorem dX5_deep_54 : decode cX5_deep 54 = .ok (.lreturn, 1) := by decide +kernel
theorem dX5_why_0 : decode cX5_why 0 = .ok (.aload_n 0, 1) := by decide +kernel
theorem dX5_why_1 : decode cX5_why 1 = .ok (.getfield 27, 3) := by decide +kernel
theorem dX5_why_4 : decode cX5_why 4 = .ok (.ireturn, 1) := by decide +kernel
set_option maxRecDepth 20000 in
theorem ggX5_lift_X5_itemAt : GoodIn wsX5_lift wsX5_itemAt := goodIn_r _ [6, 7, 36, 37, 38, 39, 40, 41, 42, 43, 44] (by decide +kernel) (by decide +kernel)
set_option maxRecDepth 20000 in
theorem gX5_lift_X5_itemAt : GoodIn wsX5_lift (wsV RX5 58 RX5 yX5_itemAt wsX5_itemAt) := goodIn_app (goodIn_of _ (by decide +kernel)) ggX5_lift_X5_itemAt
set_option maxRecDepth 20000 in
theorem ggX5_lift_X5_refusalAt : GoodIn wsX5_lift wsX5_refusalAt := goodIn_r _ [10, 11, 12, 13, 14, 15, 16, 17, 18, 19, 20, 21, 45, 46, 47, 48, 49, 50, 51, 52, 53, 54] (by decide +kernel) (by decide +kernel)
set_option maxRecDepth 20000 in
theorem gX5_lift_X5_refusalAt : GoodIn wsX5_lift (va_wsS RX5 70 yX5_refusalAt wsX5_refusalAt) := goodIn_app (goodIn_of _ (by decide +kernel)) ggX5_lift_X5_refusalAt
set_option maxRecDepth 20000 in
theorem ggX5_lift_X2_objectAt : GoodIn wsX5_lift wsX2_objectAt := goodIn_r _ [26, 27, 50, 51, 52] (by decide +kernel) (by decide +kernel)
set_option maxRecDepth 20000 in
theorem gX5_lift_X2_objectAt : GoodIn wsX5_lift (wsV RX5 90 RX2 yX2_objectAt wsX2_objectAt) := goodIn_app (goodIn_of _ (by decide +kernel)) ggX5_lift_X2_objectAt
set_option maxRecDepth 20000 in
theorem ggX5_lift_X5_standLifted : GoodIn wsX5_lift wsX5_standLifted := goodIn_r _ [31, 7, 32, 33, 34, 5, 35, 36, 37, 38, 39, 40, 41, 42, 43, 44] (by decide +kernel) (by decide +kernel)
set_option maxRecDepth 20000 in
theorem gX5_lift_X5_standLifted : GoodIn wsX5_lift (wsV RX5 101 RX5 yX5_standLifted wsX5_standLifted) := goodIn_app (goodIn_of _ (by decide +kernel)) ggX5_lift_X5_standLifted
theorem dX5_lift_0 : decode cX5_lift 0 = .ok (.aload_n 0, 1) := by decide +kernel
theorem dX5_lift_1 : decode cX5_lift 1 = .ok (.iload_n 1, 1) := by decide +kernel
theorem dX5_lift_2 : decode cX5_lift 2 = .ok (.invokevirtual 58, 3) := by decide +kernel
theorem dX5_lift_5 : decode cX5_lift 5 = .ok (.astore_n 3, 1) := by decide +kernel
theorem dX5_lift_6 : decode cX5_lift 6 = .ok (.aload_n 3, 1) := by decide +kernel
theorem dX5_lift_7 : decode cX5_lift 7 = .ok (.iload_n 2, 1) := by decide +kernel
theorem dX5_lift_8 : decode cX5_lift 8 = .ok (.iconst 4, 1) := by decide +kernel
theorem dX5_lift_9 : decode cX5_lift 9 = .ok (.bipush 6, 2) := by decide +kernel
theorem dX5_lift_11 : decode cX5_lift 11 = .ok (.invokestatic 70, 3) := by decide +kernel
theorem dX5_lift_14 : decode cX5_lift 14 = .ok (.istore 4, 2) := by decide +kernel
theorem dX5_lift_16 : decode cX5_lift 16 = .ok (.iload 4, 2) := by decide +kernel
theorem dX5_lift_18 : decode cX5_lift 18 = .ok (.ifCond .ne 27, 3) := by decide +kernel
theorem dX5_lift_21 : decode cX5_lift 21 = .ok (.aload_n 3, 1) := by decide +kernel
theorem dX5_lift_22 : decode cX5_lift 22 = .ok (.instanceof 51, 3) := by decide +kernel
theorem dX5_lift_25 : decode cX5_lift 25 = .ok (.ifCond .eq 20, 3) := by decide +kernel
theorem dX5_lift_28 : decode cX5_lift 28 = .ok (.aload_n 3, 1) := by decide +kernel
theorem dX5_lift_29 : decode cX5_lift 29 = .ok (.checkcast 51, 3) := by decide +kernel
theorem dX5_lift_32 : decode cX5_lift 32 = .ok (.astore 5, 2) := by decide +kernel
theorem dX5_lift_34 : decode cX5_lift 34 = .ok (.aload_n 0, 1) := by decide +kernel
theorem dX5_lift_35 : decode cX5_lift 35 = .ok (.aload 5, 2) := by decide +kernel
theorem dX5_lift_37 : decode cX5_lift 37 = .ok (.iload_n 2, 1) := by decide +kernel
theorem dX5_lift_38 : decode cX5_lift 38 = .ok (.invokevirtual 90, 3) := by decide +kernel
theorem dX5_lift_41 : decode cX5_lift 41 = .ok (.invokevirtual 101, 3) := by decide +kernel
theorem dX5_lift_44 : decode cX5_lift 44 = .ok (.ireturn, 1) := by decide +kernel
theorem dX5_lift_45 : decode cX5_lift 45 = .ok (.iload 4, 2) := by decide +kernel
theorem dX5_lift_47 : decode cX5_lift 47 = .ok (.ineg, 1) := by decide +kernel
theorem dX5_lift_48 : decode cX5_lift 48 = .ok (.ireturn, 1) := by decide +kernel
set_option maxRecDepth 20000 in
theorem ggX5_move_X5_doMove : GoodIn wsX5_move wsX5_doMove := goodIn_r _ [5, 6, 7, 8, 9, 10, 11, 12, 13, 4, 14, 15, 16, 17, 18, 19, 20, 21, 22, 23, 24, 25, 26, 27, 28, 29, 30, 31, 32, 33, 34, 35, 36, 37, 38, 39, 40, 41, 42, 43, 44, 45, 46, 47, 48, 49, 50, 51, 52, 53, 54, 55, 56, 57, 58, 59, 60, 61, 62, 63, 64, 65, 66, 67, 68, 69, 70, 71, 72, 73, 74, 75, 76, 77, 78] (by decide +kernel) (by decide +kernel)
set_option maxRecDepth 20000 in
theorem gX5_move_X5_doMove : GoodIn wsX5_move (wsV RX5 105 RX5 yX5_doMove wsX5_doMove) := goodIn_app (goodIn_of _ (by decide +kernel)) ggX5_move_X5_doMove
theorem dX5_move_0 : decode cX5_move 0 = .ok (.aload_n 0, 1) := by decide +kernel
theorem dX5_move_1 : decode cX5_move 1 = .ok (.iload_n 1, 1) := by decide +kernel
theorem dX5_move_2 : decode cX5_move 2 = .ok (.iload_n 2, 1) := by decide +kernel
theorem dX5_move_3 : decode cX5_move 3 = .ok (.iload_n 3, 1) := by decide +kernel
theorem dX5_move_4 : decode cX5_move 4 = .ok (.iload 4, 2) := by decide +kernel
theorem dX5_move_6 : decode cX5_move 6 = .ok (.iload 5, 2) := by decide +kernel
theorem dX5_move_8 : decode cX5_move 8 = .ok (.invokevirtual 105, 3) := by decide +kernel
theorem dX5_move_11 : decode cX5_move 11 = .ok (.ireturn, 1) := by decide +kernel
theorem dX5_moved_0 : decode cX5_moved 0 = .ok (.aload_n 0, 1) := by decide +kernel
theorem dX5_moved_1 : decode cX5_moved 1 = .ok (.getfield 30, 3) := by decide +kernel
theorem dX5_moved_4 : decode cX5_moved 4 = .ok (.ireturn, 1) := by decide +kernel
theorem dX5_plan_0 : decode cX5_plan 0 = .ok (.aload_n 0, 1) := by decide +kernel
theorem dX5_plan_1 : decode cX5_plan 1 = .ok (.getfield 19, 3) := by decide +kernel
theorem dX5_plan_4 : decode cX5_plan 4 = .ok (.bipush 64, 2) := by decide +kernel
theorem dX5_plan_6 : decode cX5_plan 6 = .ok (.if_icmp .lt 5, 3) := by decide +kernel
theorem dX5_plan_9 : decode cX5_plan 9 = .ok (.iconst (-1), 1) := by decide +kernel
theorem dX5_plan_10 : decode cX5_plan 10 = .ok (.ireturn, 1) := by decide +kernel
theorem dX5_plan_11 : decode cX5_plan 11 = .ok (.aload_n 0, 1) := by decide +kernel
theorem dX5_plan_12 : decode cX5_plan 12 = .ok (.getfield 19, 3) := by decide +kernel
theorem dX5_plan_15 : decode cX5_plan 15 = .ok (.iconst 5, 1) := by decide +kernel
theorem dX5_plan_16 : decode cX5_plan 16 = .ok (.imul, 1) := by decide +kernel
theorem dX5_plan_17 : decode cX5_plan 17 = .ok (.istore 6, 2) := by decide +kernel
theorem dX5_plan_19 : decode cX5_plan 19 = .ok (.aload_n 0, 1) := by decide +kernel
theorem dX5_plan_20 : decode cX5_plan 20 = .ok (.getfield 15, 3) := by decide +kernel
theorem dX5_plan_23 : decode cX5_plan 23 = .ok (.iload 6, 2) := by decide +kernel
theorem dX5_plan_25 : decode cX5_plan 25 = .ok (.iload_n 1, 1) := by decide +kernel
theorem dX5_plan_26 : decode cX5_plan 26 = .ok (.iastore, 1) := by decide +kernel
theorem dX5_plan_27 : decode cX5_plan 27 = .ok (.aload_n 0, 1) := by decide +kernel
theorem dX5_plan_28 : decode cX5_plan 28 = .ok (.getfield 15, 3) := by decide +kernel
theorem dX5_plan_31 : decode cX5_plan 31 = .ok (.iload 6, 2) := by decide +kernel
theorem dX5_plan_33 : decode cX5_plan 33 = .ok (.iconst 1, 1) := by decide +kernel
theorem dX5_plan_34 : decode cX5_plan 34 = .ok (.iadd, 1) := by decide +kernel
theorem dX5_plan_35 : decode cX5_plan 35 = .ok (.iload_n 2, 1) := by decide +kernel
theorem dX5_plan_36 : decode cX5_plan 36 = .ok (.iastore, 1) := by decide +kernel
theorem dX5_plan_37 : decode cX5_plan 37 = .ok (.aload_n 0, 1) := by decide +kernel
theorem dX5_plan_38 : decode cX5_plan 38 = .ok (.getfield 15, 3) := by decide +kernel
theorem dX5_plan_41 : decode cX5_plan 41 = .ok (.iload 6, 2) := by decide +kernel
theorem dX5_plan_43 : decode cX5_plan 43 = .ok (.iconst 2, 1) := by decide +kernel
theorem dX5_plan_44 : decode cX5_plan 44 = .ok (.iadd, 1) := by decide +kernel
theorem dX5_plan_45 : decode cX5_plan 45 = .ok (.iload_n 3, 1) := by decide +kernel
theorem dX5_plan_46 : decode cX5_plan 46 = .ok (.iastore, 1) := by decide +kernel
theorem dX5_plan_47 : decode cX5_plan 47 = .ok (.aload_n 0, 1) := by decide +kernel
theorem dX5_plan_48 : decode cX5_plan 48 = .ok (.getfield 15, 3) := by decide +kernel
theorem dX5_plan_51 : decode cX5_plan 51 = .ok (.iload 6, 2) := by decide +kernel
theorem dX5_plan_53 : decode cX5_plan 53 = .ok (.iconst 3, 1) := by decide +kernel
theorem dX5_plan_54 : decode cX5_plan 54 = .ok (.iadd, 1) := by decide +kernel
theorem dX5_plan_55 : decode cX5_plan 55 = .ok (.iload 4, 2) := by decide +kernel
theorem dX5_plan_57 : decode cX5_plan 57 = .ok (.iastore, 1) := by decide +kernel
theorem dX5_plan_58 : decode cX5_plan 58 = .ok (.aload_n 0, 1) := by decide +kernel
theorem dX5_plan_59 : decode cX5_plan 59 = .ok (.getfield 15, 3) := by decide +kernel
theorem dX5_plan_62 : decode cX5_plan 62 = .ok (.iload 6, 2) := by decide +kernel
theorem dX5_plan_64 : decode cX5_plan 64 = .ok (.iconst 4, 1) := by decide +kernel
theorem dX5_plan_65 : decode cX5_plan 65 = .ok (.iadd, 1) := by decide +kernel
theorem dX5_plan_66 : decode cX5_plan 66 = .ok (.iload 5, 2) := by decide +kernel
theorem dX5_plan_68 : decode cX5_plan 68 = .ok (.iastore, 1) := by decide +kernel
theorem dX5_plan_69 : decode cX5_plan 69 = .ok (.aload_n 0, 1) := by decide +kernel
theorem dX5_plan_70 : decode cX5_plan 70 = .ok (.dup, 1) := by decide +kernel
theorem dX5_plan_71 : decode cX5_plan 71 = .ok (.getfield 19, 3) := by decide +kernel
theorem dX5_plan_74 : decode cX5_plan 74 = .ok (.iconst 1, 1) := by decide +kernel
theorem dX5_plan_75 : decode cX5_plan 75 = .ok (.iadd, 1) := by decide +kernel
theorem dX5_plan_76 : decode cX5_plan 76 = .ok (.putfield 19, 3) := by decide +kernel
theorem dX5_plan_79 : decode cX5_plan 79 = .ok (.aload_n 0, 1) := by decide +kernel
theorem dX5_plan_80 : decode cX5_plan 80 = .ok (.getfield 19, 3) := by decide +kernel
theorem dX5_plan_83 : decode cX5_plan 83 = .ok (.ireturn, 1) := by decide +kernel
set_option maxRecDepth 20000 in
theorem ggX5_run_X5_doPlanned : GoodIn wsX5_run wsX5_doPlanned := goodIn_r _ [6, 7, 8, 9, 10, 5, 11, 12, 13, 14, 15, 16, 17, 18, 19, 20, 21, 22, 23, 24, 25, 26, 27, 28, 29, 30, 31, 32, 33, 34, 35, 36, 37, 38, 39, 40, 41, 42, 43, 44, 45, 46, 47, 48, 49, 50, 51, 52, 53, 54, 55, 56, 57, 58, 59, 60, 61, 62, 63, 64, 65, 66, 67, 68, 69, 70, 71, 72, 73, 74, 75, 76, 77, 78, 79, 80, 81, 82, 83, 84] (by decide +kernel) (by decide +kernel)
set_option maxRecDepth 20000 in
theorem gX5_run_X5_doPlanned : GoodIn wsX5_run (wsV RX5 109 RX5 yX5_doPlanned wsX5_doPlanned) := goodIn_app (goodIn_of _ (by decide +kernel)) ggX5_run_X5_doPlanned
theorem dX5_run_0 : decode cX5_run 0 = .ok (.iconst 0, 1) := by decide +kernel
theorem dX5_run_1 : decode cX5_run 1 = .ok (.istore_n 1, 1) := by decide +kernel
theorem dX5_run_2 : decode cX5_run 2 = .ok (.iload_n 1, 1) := by decide +kernel
theorem dX5_run_3 : decode cX5_run 3 = .ok (.aload_n 0, 1) := by decide +kernel
theorem dX5_run_4 : decode cX5_run 4 = .ok (.getfield 19, 3) := by decide +kernel
theorem dX5_run_7 : decode cX5_run 7 = .ok (.if_icmp .ge 17, 3) := by decide +kernel
theorem dX5_run_10 : decode cX5_run 10 = .ok (.aload_n 0, 1) := by decide +kernel
theorem dX5_run_11 : decode cX5_run 11 = .ok (.iload_n 1, 1) := by decide +kernel
theorem dX5_run_12 : decode cX5_run 12 = .ok (.invokevirtual 109, 3) := by decide +kernel
theorem dX5_run_15 : decode cX5_run 15 = .ok (.ifCond .ne 9, 3) := by decide +kernel
theorem dX5_run_18 : decode cX5_run 18 = .ok (.iinc 1 1, 3) := by decide +kernel
theorem dX5_run_21 : decode cX5_run 21 = .ok (.goto (-19), 3) := by decide +kernel
theorem dX5_run_24 : decode cX5_run 24 = .ok (.aload_n 0, 1) := by decide +kernel
theorem dX5_run_25 : decode cX5_run 25 = .ok (.iconst 0, 1) := by decide +kernel
theorem dX5_run_26 : decode cX5_run 26 = .ok (.putfield 19, 3) := by decide +kernel
theorem dX5_run_29 : decode cX5_run 29 = .ok (.iload_n 1, 1) := by decide +kernel
theorem dX5_run_30 : decode cX5_run 30 = .ok (.ireturn, 1) := by decide +kernel
theorem dX5_ended_0 : decode cX5_ended 0 = .ok (.aload_n 0, 1) := by decide +kernel
theorem dX5_ended_1 : decode cX5_ended 1 = .ok (.getfield 33, 3) := by decide +kernel
theorem dX5_ended_4 : decode cX5_ended 4 = .ok (.ireturn, 1) := by decide +kernel
set_option maxRecDepth 20000 in
theorem ggX5_clear_X5_itemAt : GoodIn wsX5_clear wsX5_itemAt := goodIn_r _ [6, 1, 7, 8, 9, 10, 11, 12, 13, 14, 15] (by decide +kernel) (by decide +kernel)
set_option maxRecDepth 20000 in
theorem gX5_clear_X5_itemAt : GoodIn wsX5_clear (wsV RX5 58 RX5 yX5_itemAt wsX5_itemAt) := goodIn_app (goodIn_of _ (by decide +kernel)) ggX5_clear_X5_itemAt
theorem dX5_clear_0 : decode cX5_clear 0 = .ok (.aload_n 0, 1) := by decide +kernel
theorem dX5_clear_1 : decode cX5_clear 1 = .ok (.iload_n 1, 1) := by decide +kernel
theorem dX5_clear_2 : decode cX5_clear 2 = .ok (.invokevirtual 58, 3) := by decide +kernel
theorem dX5_clear_5 : decode cX5_clear 5 = .ok (.ifnonnull 5, 3) := by decide +kernel
theorem dX5_clear_8 : decode cX5_clear 8 = .ok (.iconst 0, 1) := by decide +kernel
theorem dX5_clear_9 : decode cX5_clear 9 = .ok (.ireturn, 1) := by decide +kernel
theorem dX5_clear_10 : decode cX5_clear 10 = .ok (.aload_n 0, 1) := by decide +kernel
theorem dX5_clear_11 : decode cX5_clear 11 = .ok (.getfield 11, 3) := by decide +kernel
theorem dX5_clear_14 : decode cX5_clear 14 = .ok (.iload_n 1, 1) := by decide +kernel
theorem dX5_clear_15 : decode cX5_clear 15 = .ok (.aconst_null, 1) := by decide +kernel
theorem dX5_clear_16 : decode cX5_clear 16 = .ok (.aastore, 1) := by decide +kernel
theorem dX5_clear_17 : decode cX5_clear 17 = .ok (.iconst 1, 1) := by decide +kernel
theorem dX5_clear_18 : decode cX5_clear 18 = .ok (.ireturn, 1) := by decide +kernel
set_option maxRecDepth 20000 in
theorem ggX5_same_X5_itemAt : GoodIn wsX5_same wsX5_itemAt := goodIn_r _ [5, 6, 7, 8, 9, 10, 11, 12, 13, 14, 15] (by decide +kernel) (by decide +kernel)
set_option maxRecDepth 20000 in
theorem gX5_same_X5_itemAt : GoodIn wsX5_same (wsV RX5 58 RX5 yX5_itemAt wsX5_itemAt) := goodIn_app (goodIn_of _ (by decide +kernel)) ggX5_same_X5_itemAt
theorem dX5_same_0 : decode cX5_same 0 = .ok (.aload_n 0, 1) := by decide +kernel
theorem dX5_same_1 : decode cX5_same 1 = .ok (.iload_n 1, 1) := by decide +kernel
theorem dX5_same_2 : decode cX5_same 2 = .ok (.invokevirtual 58, 3) := by decide +kernel
theorem dX5_same_5 : decode cX5_same 5 = .ok (.astore_n 3, 1) := by decide +kernel
theorem dX5_same_6 : decode cX5_same 6 = .ok (.aload_n 0, 1) := by decide +kernel
theorem dX5_same_7 : decode cX5_same 7 = .ok (.iload_n 2, 1) := by decide +kernel
theorem dX5_same_8 : decode cX5_same 8 = .ok (.invokevirtual 58, 3) := by decide +kernel
theorem dX5_same_11 : decode cX5_same 11 = .ok (.astore 4, 2) := by decide +kernel
theorem dX5_same_13 : decode cX5_same 13 = .ok (.aload_n 3, 1) := by decide +kernel
theorem dX5_same_14 : decode cX5_same 14 = .ok (.ifnull 8, 3) := by decide +kernel
theorem dX5_same_17 : decode cX5_same 17 = .ok (.aload 4, 2) := by decide +kernel
theorem dX5_same_19 : decode cX5_same 19 = .ok (.ifnonnull 5, 3) := by decide +kernel
theorem dX5_same_22 : decode cX5_same 22 = .ok (.iconst (-1), 1) := by decide +kernel
theorem dX5_same_23 : decode cX5_same 23 = .ok (.ireturn, 1) := by decide +kernel
theorem dX5_same_24 : decode cX5_same 24 = .ok (.aload_n 3, 1) := by decide +kernel
theorem dX5_same_25 : decode cX5_same 25 = .ok (.aload 4, 2) := by decide +kernel
theorem dX5_same_27 : decode cX5_same 27 = .ok (.if_acmp .ne 7, 3) := by decide +kernel
theorem dX5_same_30 : decode cX5_same 30 = .ok (.iconst 1, 1) := by decide +kernel
theorem dX5_same_31 : decode cX5_same 31 = .ok (.goto 4, 3) := by decide +kernel
theorem dX5_same_34 : decode cX5_same 34 = .ok (.iconst 0, 1) := by decide +kernel
theorem dX5_same_35 : decode cX5_same 35 = .ok (.ireturn, 1) := by decide +kernel
set_option maxRecDepth 20000 in
theorem ggX5_digest_X5_itemAt : GoodIn wsX5_digest wsX5_itemAt := goodIn_r _ [12, 13, 56, 57, 58, 59, 60, 61, 62, 63, 64] (by decide +kernel) (by decide +kernel)
set_option maxRecDepth 20000 in
theorem gX5_digest_X5_itemAt : GoodIn wsX5_digest (wsV RX5 58 RX5 yX5_itemAt wsX5_itemAt) := goodIn_app (goodIn_of _ (by decide +kernel)) ggX5_digest_X5_itemAt
set_option maxRecDepth 20000 in
theorem ggX5_digest_X1_digestOfNumbers : GoodIn wsX5_digest wsX1_digestOfNumbers := goodIn_r _ [18, 19, 20, 21, 22, 23, 24, 46, 47, 48, 49, 50, 51, 52, 53, 54, 55] (by decide +kernel) (by decide +kernel)
set_option maxRecDepth 20000 in
theorem gX5_digest_X1_digestOfNumbers : GoodIn wsX5_digest (wsV RX5 113 RX1 yX1_digestOfNumbers wsX1_digestOfNumbers) := goodIn_app (goodIn_of _ (by decide +kernel)) ggX5_digest_X1_digestOfNumbers
set_option maxRecDepth 20000 in
theorem ggX5_digest_X2_digestOfObjects : GoodIn wsX5_digest wsX2_digestOfObjects := goodIn_r _ [29, 30, 31, 32, 33, 34, 35, 28, 36, 37, 38, 15, 16, 17, 18, 19, 20, 21, 22, 23, 24, 39, 11, 40, 3, 5, 6, 41, 7, 42, 43, 44, 45, 46, 47, 48, 49, 50, 51, 52, 53, 54, 55] (by decide +kernel) (by decide +kernel)
set_option maxRecDepth 20000 in
theorem gX5_digest_X2_digestOfObjects : GoodIn wsX5_digest (wsV RX5 117 RX2 yX2_digestOfObjects wsX2_digestOfObjects) := goodIn_app (goodIn_of _ (by decide +kernel)) ggX5_digest_X2_digestOfObjects
theorem dX5_digest_0 : decode cX5_digest 0 = .ok (.aload_n 0, 1) := by decide +kernel
theorem dX5_digest_1 : decode cX5_digest 1 = .ok (.iload_n 1, 1) := by decide +kernel
theorem dX5_digest_2 : decode cX5_digest 2 = .ok (.invokevirtual 58, 3) := by decide +kernel
theorem dX5_digest_5 : decode cX5_digest 5 = .ok (.astore_n 2, 1) := by decide +kernel
theorem dX5_digest_6 : decode cX5_digest 6 = .ok (.aload_n 2, 1) := by decide +kernel
theorem dX5_digest_7 : decode cX5_digest 7 = .ok (.instanceof 46, 3) := by decide +kernel
theorem dX5_digest_10 : decode cX5_digest 10 = .ok (.ifCond .eq 13, 3) := by decide +kernel
theorem dX5_digest_13 : decode cX5_digest 13 = .ok (.aload_n 2, 1) := by decide +kernel
theorem dX5_digest_14 : decode cX5_digest 14 = .ok (.checkcast 46, 3) := by decide +kernel
theorem dX5_digest_17 : decode cX5_digest 17 = .ok (.astore_n 3, 1) := by decide +kernel
theorem dX5_digest_18 : decode cX5_digest 18 = .ok (.aload_n 3, 1) := by decide +kernel
theorem dX5_digest_19 : decode cX5_digest 19 = .ok (.invokevirtual 113, 3) := by decide +kernel
theorem dX5_digest_22 : decode cX5_digest 22 = .ok (.lreturn, 1) := by decide +kernel
theorem dX5_digest_23 : decode cX5_digest 23 = .ok (.aload_n 2, 1) := by decide +kernel
theorem dX5_digest_24 : decode cX5_digest 24 = .ok (.instanceof 51, 3) := by decide +kernel
theorem dX5_digest_27 : decode cX5_digest 27 = .ok (.ifCond .eq 13, 3) := by decide +kernel
theorem dX5_digest_30 : decode cX5_digest 30 = .ok (.aload_n 2, 1) := by decide +kernel
theorem dX5_digest_31 : decode cX5_digest 31 = .ok (.checkcast 51, 3) := by decide +kernel
theorem dX5_digest_34 : decode cX5_digest 34 = .ok (.astore_n 3, 1) := by decide +kernel
theorem dX5_digest_35 : decode cX5_digest 35 = .ok (.aload_n 3, 1) := by decide +kernel
theorem dX5_digest_36 : decode cX5_digest 36 = .ok (.invokevirtual 117, 3) := by decide +kernel
theorem dX5_digest_39 : decode cX5_digest 39 = .ok (.lreturn, 1) := by decide +kernel
theorem dX5_digest_40 : decode cX5_digest 40 = .ok (.aload_n 2, 1) := by decide +kernel
theorem dX5_digest_41 : decode cX5_digest 41 = .ok (.instanceof 120, 3) := by decide +kernel
theorem dX5_digest_44 : decode cX5_digest 44 = .ok (.ifCond .eq 26, 3) := by decide +kernel
theorem dX5_digest_47 : decode cX5_digest 47 = .ok (.aload_n 2, 1) := by decide +kernel
theorem dX5_digest_48 : decode cX5_digest 48 = .ok (.checkcast 120, 3) := by decide +kernel
theorem dX5_digest_51 : decode cX5_digest 51 = .ok (.astore_n 3, 1) := by decide +kernel
theorem dX5_digest_52 : decode cX5_digest 52 = .ok (.ldc2_w 122, 3) := by decide +kernel
theorem dX5_digest_55 : decode cX5_digest 55 = .ok (.aload_n 3, 1) := by decide +kernel
theorem dX5_digest_56 : decode cX5_digest 56 = .ok (.getfield 124, 3) := by decide +kernel
theorem dX5_digest_59 : decode cX5_digest 59 = .ok (.iconst 1, 1) := by decide +kernel
theorem dX5_digest_60 : decode cX5_digest 60 = .ok (.iadd, 1) := by decide +kernel
theorem dX5_digest_61 : decode cX5_digest 61 = .ok (.i2l, 1) := by decide +kernel
theorem dX5_digest_62 : decode cX5_digest 62 = .ok (.lmul, 1) := by decide +kernel
theorem dX5_digest_63 : decode cX5_digest 63 = .ok (.aload_n 3, 1) := by decide +kernel
theorem dX5_digest_64 : decode cX5_digest 64 = .ok (.getfield 125, 3) := by decide +kernel
theorem dX5_digest_67 : decode cX5_digest 67 = .ok (.i2l, 1) := by decide +kernel
theorem dX5_digest_68 : decode cX5_digest 68 = .ok (.ladd, 1) := by decide +kernel
theorem dX5_digest_69 : decode cX5_digest 69 = .ok (.lreturn, 1) := by decide +kernel
theorem dX5_digest_70 : decode cX5_digest 70 = .ok (.lconst 0, 1) := by decide +kernel
theorem dX5_digest_71 : decode cX5_digest 71 = .ok (.lreturn, 1) := by decide +kernel
set_option maxRecDepth 20000 in
theorem ggX5_count_X5_takenPlaces : GoodIn wsX5_count wsX5_takenPlaces := goodIn_r _ [9, 10, 11, 12, 13, 14, 15, 16, 17, 18, 19] (by decide +kernel) (by decide +kernel)
set_option maxRecDepth 20000 in
theorem gX5_count_X5_takenPlaces : GoodIn wsX5_count (wsV RX5 128 RX5 yX5_takenPlaces wsX5_takenPlaces) := goodIn_app (goodIn_of _ (by decide +kernel)) ggX5_count_X5_takenPlaces
theorem dX5_count_0 : decode cX5_count 0 = .ok (.iload_n 1, 1) := by decide +kernel
theorem dX5_count_1 : decode cX5_count 1 = .ok (.tableswitch 60 0 4 #[35, 40, 45, 50, 55], 35) := by decide +kernel
theorem dX5_count_36 : decode cX5_count 36 = .ok (.aload_n 0, 1) := by decide +kernel
theorem dX5_count_37 : decode cX5_count 37 = .ok (.invokevirtual 128, 3) := by decide +kernel
theorem dX5_count_40 : decode cX5_count 40 = .ok (.ireturn, 1) := by decide +kernel
theorem dX5_count_41 : decode cX5_count 41 = .ok (.aload_n 0, 1) := by decide +kernel
theorem dX5_count_42 : decode cX5_count 42 = .ok (.getfield 24, 3) := by decide +kernel
theorem dX5_count_45 : decode cX5_count 45 = .ok (.ireturn, 1) := by decide +kernel
theorem dX5_count_46 : decode cX5_count 46 = .ok (.aload_n 0, 1) := by decide +kernel
theorem dX5_count_47 : decode cX5_count 47 = .ok (.getfield 19, 3) := by decide +kernel
theorem dX5_count_50 : decode cX5_count 50 = .ok (.ireturn, 1) := by decide +kernel
theorem dX5_count_51 : decode cX5_count 51 = .ok (.aload_n 0, 1) := by decide +kernel
theorem dX5_count_52 : decode cX5_count 52 = .ok (.getfield 36, 3) := by decide +kernel
theorem dX5_count_55 : decode cX5_count 55 = .ok (.ireturn, 1) := by decide +kernel
theorem dX5_count_56 : decode cX5_count 56 = .ok (.aload_n 0, 1) := by decide +kernel
theorem dX5_count_57 : decode cX5_count 57 = .ok (.getfield 39, 3) := by decide +kernel
theorem dX5_count_60 : decode cX5_count 60 = .ok (.ireturn, 1) := by decide +kernel
theorem dX5_count_61 : decode cX5_count 61 = .ok (.iconst (-1), 1) := by decide +kernel
theorem dX5_count_62 : decode cX5_count 62 = .ok (.ireturn, 1) := by decide +kernel
theorem dX5_itemAt_0 : decode cX5_itemAt 0 = .ok (.iload_n 1, 1) := by decide +kernel
theorem dX5_itemAt_1 : decode cX5_itemAt 1 = .ok (.ifCond .lt 19, 3) := by decide +kernel
theorem dX5_itemAt_4 : decode cX5_itemAt 4 = .ok (.iload_n 1, 1) := by decide +kernel
theorem dX5_itemAt_5 : decode cX5_itemAt 5 = .ok (.sipush 400, 3) := by decide +kernel
theorem dX5_itemAt_8 : decode cX5_itemAt 8 = .ok (.if_icmp .ge 12, 3) := by decide +kernel
theorem dX5_itemAt_11 : decode cX5_itemAt 11 = .ok (.aload_n 0, 1) := by decide +kernel
theorem dX5_itemAt_12 : decode cX5_itemAt 12 = .ok (.getfield 11, 3) := by decide +kernel
theorem dX5_itemAt_15 : decode cX5_itemAt 15 = .ok (.iload_n 1, 1) := by decide +kernel
theorem dX5_itemAt_16 : decode cX5_itemAt 16 = .ok (.aaload, 1) := by decide +kernel
theorem dX5_itemAt_17 : decode cX5_itemAt 17 = .ok (.goto 4, 3) := by decide +kernel
theorem dX5_itemAt_20 : decode cX5_itemAt 20 = .ok (.aconst_null, 1) := by decide +kernel
theorem dX5_itemAt_21 : decode cX5_itemAt 21 = .ok (.areturn, 1) := by decide +kernel
theorem dX5_lowestEmptyPlace_0 : decode cX5_lowestEmptyPlace 0 = .ok (.iconst 0, 1) := by decide +kernel
theorem dX5_lowestEmptyPlace_1 : decode cX5_lowestEmptyPlace 1 = .ok (.istore_n 1, 1) := by decide +kernel
theorem dX5_lowestEmptyPlace_2 : decode cX5_lowestEmptyPlace 2 = .ok (.iload_n 1, 1) := by decide +kernel
theorem dX5_lowestEmptyPlace_3 : decode cX5_lowestEmptyPlace 3 = .ok (.sipush 400, 3) := by decide +kernel
theorem dX5_lowestEmptyPlace_6 : decode cX5_lowestEmptyPlace 6 = .ok (.if_icmp .ge 20, 3) := by decide +kernel
theorem dX5_lowestEmptyPlace_9 : decode cX5_lowestEmptyPlace 9 = .ok (.aload_n 0, 1) := by decide +kernel
theorem dX5_lowestEmptyPlace_10 : decode cX5_lowestEmptyPlace 10 = .ok (.getfield 11, 3) := by decide +kernel
theorem dX5_lowestEmptyPlace_13 : decode cX5_lowestEmptyPlace 13 = .ok (.iload_n 1, 1) := by decide +kernel
theorem dX5_lowestEmptyPlace_14 : decode cX5_lowestEmptyPlace 14 = .ok (.aaload, 1) := by decide +kernel
theorem dX5_lowestEmptyPlace_15 : decode cX5_lowestEmptyPlace 15 = .ok (.ifnonnull 5, 3) := by decide +kernel
theorem dX5_lowestEmptyPlace_18 : decode cX5_lowestEmptyPlace 18 = .ok (.iload_n 1, 1) := by decide +kernel
theorem dX5_lowestEmptyPlace_19 : decode cX5_lowestEmptyPlace 19 = .ok (.ireturn, 1) := by decide +kernel
theorem dX5_lowestEmptyPlace_20 : decode cX5_lowestEmptyPlace 20 = .ok (.iinc 1 1, 3) := by decide +kernel
theorem dX5_lowestEmptyPlace_23 : decode cX5_lowestEmptyPlace 23 = .ok (.goto (-21), 3) := by decide +kernel
theorem dX5_lowestEmptyPlace_26 : decode cX5_lowestEmptyPlace 26 = .ok (.iconst (-1), 1) := by decide +kernel
theorem dX5_lowestEmptyPlace_27 : decode cX5_lowestEmptyPlace 27 = .ok (.ireturn, 1) := by decide +kernel
theorem dX5_takenPlaces_0 : decode cX5_takenPlaces 0 = .ok (.iconst 0, 1) := by decide +kernel
theorem dX5_takenPlaces_1 : decode cX5_takenPlaces 1 = .ok (.istore_n 1, 1) := by decide +kernel
theorem dX5_takenPlaces_2 : decode cX5_takenPlaces 2 = .ok (.aload_n 0, 1) := by decide +kernel
theorem dX5_takenPlaces_3 : decode cX5_takenPlaces 3 = .ok (.getfield 11, 3) := by decide +kernel
theorem dX5_takenPlaces_6 : decode cX5_takenPlaces 6 = .ok (.astore_n 2, 1) := by decide +kernel
theorem dX5_takenPlaces_7 : decode cX5_takenPlaces 7 = .ok (.aload_n 2, 1) := by decide +kernel
theorem dX5_takenPlaces_8 : decode cX5_takenPlaces 8 = .ok (.arraylength, 1) := by decide +kernel
theorem dX5_takenPlaces_9 : decode cX5_takenPlaces 9 = .ok (.istore_n 3, 1) := by decide +kernel
theorem dX5_takenPlaces_10 : decode cX5_takenPlaces 10 = .ok (.iconst 0, 1) := by decide +kernel
theorem dX5_takenPlaces_11 : decode cX5_takenPlaces 11 = .ok (.istore 4, 2) := by decide +kernel
theorem dX5_takenPlaces_13 : decode cX5_takenPlaces 13 = .ok (.iload 4, 2) := by decide +kernel
theorem dX5_takenPlaces_15 : decode cX5_takenPlaces 15 = .ok (.iload_n 3, 1) := by decide +kernel
theorem dX5_takenPlaces_16 : decode cX5_takenPlaces 16 = .ok (.if_icmp .ge 23, 3) := by decide +kernel
theorem dX5_takenPlaces_19 : decode cX5_takenPlaces 19 = .ok (.aload_n 2, 1) := by decide +kernel
theorem dX5_takenPlaces_20 : decode cX5_takenPlaces 20 = .ok (.iload 4, 2) := by decide +kernel
theorem dX5_takenPlaces_22 : decode cX5_takenPlaces 22 = .ok (.aaload, 1) := by decide +kernel
theorem dX5_takenPlaces_23 : decode cX5_takenPlaces 23 = .ok (.astore 5, 2) := by decide +kernel
theorem dX5_takenPlaces_25 : decode cX5_takenPlaces 25 = .ok (.aload 5, 2) := by decide +kernel
theorem dX5_takenPlaces_27 : decode cX5_takenPlaces 27 = .ok (.ifnull 6, 3) := by decide +kernel
theorem dX5_takenPlaces_30 : decode cX5_takenPlaces 30 = .ok (.iinc 1 1, 3) := by decide +kernel
theorem dX5_takenPlaces_33 : decode cX5_takenPlaces 33 = .ok (.iinc 4 1, 3) := by decide +kernel
theorem dX5_takenPlaces_36 : decode cX5_takenPlaces 36 = .ok (.goto (-23), 3) := by decide +kernel
theorem dX5_takenPlaces_39 : decode cX5_takenPlaces 39 = .ok (.iload_n 1, 1) := by decide +kernel
theorem dX5_takenPlaces_40 : decode cX5_takenPlaces 40 = .ok (.ireturn, 1) := by decide +kernel
set_option maxRecDepth 20000 in
theorem ggX5_newThing_X5_lowestEmptyPlace : GoodIn wsX5_newThing wsX5_lowestEmptyPlace := goodIn_r _ [10, 2, 23, 24, 25, 26, 27, 28, 29, 30, 31] (by decide +kernel) (by decide +kernel)
set_option maxRecDepth 20000 in
theorem gX5_newThing_X5_lowestEmptyPlace : GoodIn wsX5_newThing (wsV RX5 42 RX5 yX5_lowestEmptyPlace wsX5_lowestEmptyPlace) := goodIn_app (goodIn_of _ (by decide +kernel)) ggX5_newThing_X5_lowestEmptyPlace
set_option maxRecDepth 20000 in
theorem ggX5_newThing_X4_init : GoodIn wsX5_newThing wsX4_init := goodIn_r _ [13, 14, 15, 16, 17, 18, 19, 20, 21, 22, 32, 33, 34, 35, 36, 37, 38, 39, 40, 41] (by decide +kernel) (by decide +kernel)
set_option maxRecDepth 20000 in
theorem gX5_newThing_X4_init : GoodIn wsX5_newThing (wsX4_init) := ggX5_newThing_X4_init
theorem dX5_newThing_0 : decode cX5_newThing 0 = .ok (.aload_n 0, 1) := by decide +kernel
theorem dX5_newThing_1 : decode cX5_newThing 1 = .ok (.invokevirtual 42, 3) := by decide +kernel
theorem dX5_newThing_4 : decode cX5_newThing 4 = .ok (.istore_n 3, 1) := by decide +kernel
theorem dX5_newThing_5 : decode cX5_newThing 5 = .ok (.iload_n 3, 1) := by decide +kernel
theorem dX5_newThing_6 : decode cX5_newThing 6 = .ok (.iconst (-1), 1) := by decide +kernel
theorem dX5_newThing_7 : decode cX5_newThing 7 = .ok (.if_icmp .eq 11, 3) := by decide +kernel
theorem dX5_newThing_10 : decode cX5_newThing 10 = .ok (.aload_n 0, 1) := by decide +kernel
theorem dX5_newThing_11 : decode cX5_newThing 11 = .ok (.getfield 24, 3) := by decide +kernel
theorem dX5_newThing_14 : decode cX5_newThing 14 = .ok (.iconst 1, 1) := by decide +kernel
theorem dX5_newThing_15 : decode cX5_newThing 15 = .ok (.if_icmp .ge 6, 3) := by decide +kernel
theorem dX5_newThing_18 : decode cX5_newThing 18 = .ok (.bipush (-2), 2) := by decide +kernel
theorem dX5_newThing_20 : decode cX5_newThing 20 = .ok (.ireturn, 1) := by decide +kernel
theorem dX5_newThing_21 : decode cX5_newThing 21 = .ok (.aload_n 0, 1) := by decide +kernel
theorem dX5_newThing_22 : decode cX5_newThing 22 = .ok (.dup, 1) := by decide +kernel
theorem dX5_newThing_23 : decode cX5_newThing 23 = .ok (.getfield 24, 3) := by decide +kernel
theorem dX5_newThing_26 : decode cX5_newThing 26 = .ok (.iconst 1, 1) := by decide +kernel
theorem dX5_newThing_27 : decode cX5_newThing 27 = .ok (.isub, 1) := by decide +kernel
theorem dX5_newThing_28 : decode cX5_newThing 28 = .ok (.putfield 24, 3) := by decide +kernel
theorem dX5_newThing_31 : decode cX5_newThing 31 = .ok (.aload_n 0, 1) := by decide +kernel
theorem dX5_newThing_32 : decode cX5_newThing 32 = .ok (.getfield 11, 3) := by decide +kernel
theorem dX5_newThing_35 : decode cX5_newThing 35 = .ok (.iload_n 3, 1) := by decide +kernel
theorem dX5_newThing_36 : decode cX5_newThing 36 = .ok (.new 120, 3) := by decide +kernel
theorem dX5_newThing_39 : decode cX5_newThing 39 = .ok (.dup, 1) := by decide +kernel
theorem dX5_newThing_40 : decode cX5_newThing 40 = .ok (.iload_n 1, 1) := by decide +kernel
theorem dX5_newThing_41 : decode cX5_newThing 41 = .ok (.iload_n 2, 1) := by decide +kernel
theorem dX5_newThing_42 : decode cX5_newThing 42 = .ok (.invokespecial 131, 3) := by decide +kernel
theorem dX5_newThing_45 : decode cX5_newThing 45 = .ok (.aastore, 1) := by decide +kernel
theorem dX5_newThing_46 : decode cX5_newThing 46 = .ok (.iload_n 3, 1) := by decide +kernel
theorem dX5_newThing_47 : decode cX5_newThing 47 = .ok (.ireturn, 1) := by decide +kernel
set_option maxRecDepth 20000 in
theorem ggX5_refusalAt_X3_hasElement : GoodIn wsX5_refusalAt wsX3_hasElement := goodIn_r _ [9, 10, 12, 13, 14, 15, 16, 17, 18, 19] (by decide +kernel) (by decide +kernel)
set_option maxRecDepth 20000 in
theorem gX5_refusalAt_X3_hasElement_u133X1 : GoodIn wsX5_refusalAt (va_wsU RX5 133 RX1 "SpanMover$Row" ⟨"SpanMover$Row", "hasElement", "(I)Z"⟩ yX3_hasElement wsX3_hasElement) := goodIn_app (goodIn_of _ (by decide +kernel)) ggX5_refusalAt_X3_hasElement
set_option maxRecDepth 20000 in
theorem gX5_refusalAt_X3_hasElement_u133X2 : GoodIn wsX5_refusalAt (va_wsU RX5 133 RX2 "SpanMover$Row" ⟨"SpanMover$Row", "hasElement", "(I)Z"⟩ yX3_hasElement wsX3_hasElement) := goodIn_app (goodIn_of _ (by decide +kernel)) ggX5_refusalAt_X3_hasElement
theorem dX5_refusalAt_0 : decode cX5_refusalAt 0 = .ok (.aload_n 0, 1) := by decide +kernel
theorem dX5_refusalAt_1 : decode cX5_refusalAt 1 = .ok (.ifnonnull 5, 3) := by decide +kernel
theorem dX5_refusalAt_4 : decode cX5_refusalAt 4 = .ok (.iconst 1, 1) := by decide +kernel
theorem dX5_refusalAt_5 : decode cX5_refusalAt 5 = .ok (.ireturn, 1) := by decide +kernel
theorem dX5_refusalAt_6 : decode cX5_refusalAt 6 = .ok (.aload_n 0, 1) := by decide +kernel
theorem dX5_refusalAt_7 : decode cX5_refusalAt 7 = .ok (.instanceof 65, 3) := by decide +kernel
theorem dX5_refusalAt_10 : decode cX5_refusalAt 10 = .ok (.ifCond .eq 12, 3) := by decide +kernel
theorem dX5_refusalAt_13 : decode cX5_refusalAt 13 = .ok (.aload_n 0, 1) := by decide +kernel
theorem dX5_refusalAt_14 : decode cX5_refusalAt 14 = .ok (.checkcast 65, 3) := by decide +kernel
theorem dX5_refusalAt_17 : decode cX5_refusalAt 17 = .ok (.astore 4, 2) := by decide +kernel
theorem dX5_refusalAt_19 : decode cX5_refusalAt 19 = .ok (.goto 5, 3) := by decide +kernel
theorem dX5_refusalAt_22 : decode cX5_refusalAt 22 = .ok (.iconst 2, 1) := by decide +kernel
theorem dX5_refusalAt_23 : decode cX5_refusalAt 23 = .ok (.ireturn, 1) := by decide +kernel
theorem dX5_refusalAt_24 : decode cX5_refusalAt 24 = .ok (.aload 4, 2) := by decide +kernel
theorem dX5_refusalAt_26 : decode cX5_refusalAt 26 = .ok (.getfield 132, 3) := by decide +kernel
theorem dX5_refusalAt_29 : decode cX5_refusalAt 29 = .ok (.iload_n 2, 1) := by decide +kernel
theorem dX5_refusalAt_30 : decode cX5_refusalAt 30 = .ok (.if_icmp .lt 12, 3) := by decide +kernel
theorem dX5_refusalAt_33 : decode cX5_refusalAt 33 = .ok (.aload 4, 2) := by decide +kernel
theorem dX5_refusalAt_35 : decode cX5_refusalAt 35 = .ok (.getfield 132, 3) := by decide +kernel
theorem dX5_refusalAt_38 : decode cX5_refusalAt 38 = .ok (.iload_n 3, 1) := by decide +kernel
theorem dX5_refusalAt_39 : decode cX5_refusalAt 39 = .ok (.if_icmp .le 5, 3) := by decide +kernel
theorem dX5_refusalAt_42 : decode cX5_refusalAt 42 = .ok (.iconst 3, 1) := by decide +kernel
theorem dX5_refusalAt_43 : decode cX5_refusalAt 43 = .ok (.ireturn, 1) := by decide +kernel
theorem dX5_refusalAt_44 : decode cX5_refusalAt 44 = .ok (.aload 4, 2) := by decide +kernel
theorem dX5_refusalAt_46 : decode cX5_refusalAt 46 = .ok (.iload_n 1, 1) := by decide +kernel
theorem dX5_refusalAt_47 : decode cX5_refusalAt 47 = .ok (.invokevirtual 133, 3) := by decide +kernel
theorem dX5_refusalAt_50 : decode cX5_refusalAt 50 = .ok (.ifCond .eq 7, 3) := by decide +kernel
theorem dX5_refusalAt_53 : decode cX5_refusalAt 53 = .ok (.iconst 0, 1) := by decide +kernel
theorem dX5_refusalAt_54 : decode cX5_refusalAt 54 = .ok (.goto 4, 3) := by decide +kernel
theorem dX5_refusalAt_57 : decode cX5_refusalAt 57 = .ok (.iconst 4, 1) := by decide +kernel
theorem dX5_refusalAt_58 : decode cX5_refusalAt 58 = .ok (.ireturn, 1) := by decide +kernel
theorem dX5_toldAs_0 : decode cX5_toldAs 0 = .ok (.aload_n 0, 1) := by decide +kernel
theorem dX5_toldAs_1 : decode cX5_toldAs 1 = .ok (.instanceof 120, 3) := by decide +kernel
theorem dX5_toldAs_4 : decode cX5_toldAs 4 = .ok (.ifCond .eq 28, 3) := by decide +kernel
theorem dX5_toldAs_7 : decode cX5_toldAs 7 = .ok (.aload_n 0, 1) := by decide +kernel
theorem dX5_toldAs_8 : decode cX5_toldAs 8 = .ok (.checkcast 120, 3) := by decide +kernel
theorem dX5_toldAs_11 : decode cX5_toldAs 11 = .ok (.astore_n 1, 1) := by decide +kernel
theorem dX5_toldAs_12 : decode cX5_toldAs 12 = .ok (.aload_n 1, 1) := by decide +kernel
theorem dX5_toldAs_13 : decode cX5_toldAs 13 = .ok (.getfield 124, 3) := by decide +kernel
theorem dX5_toldAs_16 : decode cX5_toldAs 16 = .ok (.i2l, 1) := by decide +kernel
theorem dX5_toldAs_17 : decode cX5_toldAs 17 = .ok (.ldc2_w 137, 3) := by decide +kernel
theorem dX5_toldAs_20 : decode cX5_toldAs 20 = .ok (.lmul, 1) := by decide +kernel
theorem dX5_toldAs_21 : decode cX5_toldAs 21 = .ok (.aload_n 1, 1) := by decide +kernel
theorem dX5_toldAs_22 : decode cX5_toldAs 22 = .ok (.getfield 125, 3) := by decide +kernel
theorem dX5_toldAs_25 : decode cX5_toldAs 25 = .ok (.i2l, 1) := by decide +kernel
theorem dX5_toldAs_26 : decode cX5_toldAs 26 = .ok (.ldc2_w 139, 3) := by decide +kernel
theorem dX5_toldAs_29 : decode cX5_toldAs 29 = .ok (.land, 1) := by decide +kernel
theorem dX5_toldAs_30 : decode cX5_toldAs 30 = .ok (.ladd, 1) := by decide +kernel
theorem dX5_toldAs_31 : decode cX5_toldAs 31 = .ok (.lreturn, 1) := by decide +kernel
theorem dX5_toldAs_32 : decode cX5_toldAs 32 = .ok (.aload_n 0, 1) := by decide +kernel
theorem dX5_toldAs_33 : decode cX5_toldAs 33 = .ok (.instanceof 65, 3) := by decide +kernel
theorem dX5_toldAs_36 : decode cX5_toldAs 36 = .ok (.ifCond .eq 14, 3) := by decide +kernel
theorem dX5_toldAs_39 : decode cX5_toldAs 39 = .ok (.aload_n 0, 1) := by decide +kernel
theorem dX5_toldAs_40 : decode cX5_toldAs 40 = .ok (.checkcast 65, 3) := by decide +kernel
theorem dX5_toldAs_43 : decode cX5_toldAs 43 = .ok (.astore_n 1, 1) := by decide +kernel
theorem dX5_toldAs_44 : decode cX5_toldAs 44 = .ok (.aload_n 1, 1) := by decide +kernel
theorem dX5_toldAs_45 : decode cX5_toldAs 45 = .ok (.getfield 67, 3) := by decide +kernel
theorem dX5_toldAs_48 : decode cX5_toldAs 48 = .ok (.i2l, 1) := by decide +kernel
theorem dX5_toldAs_49 : decode cX5_toldAs 49 = .ok (.lreturn, 1) := by decide +kernel
theorem dX5_toldAs_50 : decode cX5_toldAs 50 = .ok (.ldc2_w 141, 3) := by decide +kernel
theorem dX5_toldAs_53 : decode cX5_toldAs 53 = .ok (.lreturn, 1) := by decide +kernel
set_option maxRecDepth 20000 in
theorem ggX5_innerNumber_X3_hasElement : GoodIn wsX5_innerNumber wsX3_hasElement := goodIn_r _ [8, 9, 25, 26, 27, 28, 29, 30, 31, 32] (by decide +kernel) (by decide +kernel)
set_option maxRecDepth 20000 in
theorem gX5_innerNumber_X3_hasElement_u143X1 : GoodIn wsX5_innerNumber (va_wsU RX5 143 RX1 "SpanMover$Row" ⟨"SpanMover$NumberRow", "hasElement", "(I)Z"⟩ yX3_hasElement wsX3_hasElement) := goodIn_app (goodIn_of _ (by decide +kernel)) ggX5_innerNumber_X3_hasElement
set_option maxRecDepth 20000 in
theorem ggX5_innerNumber_X1_numberAt : GoodIn wsX5_innerNumber wsX1_numberAt := goodIn_r _ [14, 15, 25, 26, 27, 28, 29] (by decide +kernel) (by decide +kernel)
set_option maxRecDepth 20000 in
theorem gX5_innerNumber_X1_numberAt : GoodIn wsX5_innerNumber (wsV RX5 86 RX1 yX1_numberAt wsX1_numberAt) := goodIn_app (goodIn_of _ (by decide +kernel)) ggX5_innerNumber_X1_numberAt
theorem dX5_innerNumber_0 : decode cX5_innerNumber 0 = .ok (.aload_n 1, 1) := by decide +kernel
theorem dX5_innerNumber_1 : decode cX5_innerNumber 1 = .ok (.instanceof 46, 3) := by decide +kernel
theorem dX5_innerNumber_4 : decode cX5_innerNumber 4 = .ok (.ifCond .eq 11, 3) := by decide +kernel
theorem dX5_innerNumber_7 : decode cX5_innerNumber 7 = .ok (.aload_n 1, 1) := by decide +kernel
theorem dX5_innerNumber_8 : decode cX5_innerNumber 8 = .ok (.checkcast 46, 3) := by decide +kernel
theorem dX5_innerNumber_11 : decode cX5_innerNumber 11 = .ok (.astore_n 3, 1) := by decide +kernel
theorem dX5_innerNumber_12 : decode cX5_innerNumber 12 = .ok (.goto 10, 3) := by decide +kernel
theorem dX5_innerNumber_15 : decode cX5_innerNumber 15 = .ok (.aload_n 0, 1) := by decide +kernel
theorem dX5_innerNumber_16 : decode cX5_innerNumber 16 = .ok (.iconst 5, 1) := by decide +kernel
theorem dX5_innerNumber_17 : decode cX5_innerNumber 17 = .ok (.putfield 27, 3) := by decide +kernel
theorem dX5_innerNumber_20 : decode cX5_innerNumber 20 = .ok (.lconst 0, 1) := by decide +kernel
theorem dX5_innerNumber_21 : decode cX5_innerNumber 21 = .ok (.lreturn, 1) := by decide +kernel
theorem dX5_innerNumber_22 : decode cX5_innerNumber 22 = .ok (.aload_n 3, 1) := by decide +kernel
theorem dX5_innerNumber_23 : decode cX5_innerNumber 23 = .ok (.iload_n 2, 1) := by decide +kernel
theorem dX5_innerNumber_24 : decode cX5_innerNumber 24 = .ok (.invokevirtual 143, 3) := by decide +kernel
theorem dX5_innerNumber_27 : decode cX5_innerNumber 27 = .ok (.ifCond .ne 11, 3) := by decide +kernel
theorem dX5_innerNumber_30 : decode cX5_innerNumber 30 = .ok (.aload_n 0, 1) := by decide +kernel
theorem dX5_innerNumber_31 : decode cX5_innerNumber 31 = .ok (.bipush 6, 2) := by decide +kernel
theorem dX5_innerNumber_33 : decode cX5_innerNumber 33 = .ok (.putfield 27, 3) := by decide +kernel
theorem dX5_innerNumber_36 : decode cX5_innerNumber 36 = .ok (.lconst 0, 1) := by decide +kernel
theorem dX5_innerNumber_37 : decode cX5_innerNumber 37 = .ok (.lreturn, 1) := by decide +kernel
theorem dX5_innerNumber_38 : decode cX5_innerNumber 38 = .ok (.aload_n 3, 1) := by decide +kernel
theorem dX5_innerNumber_39 : decode cX5_innerNumber 39 = .ok (.iload_n 2, 1) := by decide +kernel
theorem dX5_innerNumber_40 : decode cX5_innerNumber 40 = .ok (.invokevirtual 86, 3) := by decide +kernel
theorem dX5_innerNumber_43 : decode cX5_innerNumber 43 = .ok (.lreturn, 1) := by decide +kernel
set_option maxRecDepth 20000 in
theorem ggX5_standLifted_X5_lowestEmptyPlace : GoodIn wsX5_standLifted wsX5_lowestEmptyPlace := goodIn_r _ [6, 1, 7, 8, 9, 10, 11, 12, 13, 14, 15] (by decide +kernel) (by decide +kernel)
set_option maxRecDepth 20000 in
theorem gX5_standLifted_X5_lowestEmptyPlace : GoodIn wsX5_standLifted (wsV RX5 42 RX5 yX5_lowestEmptyPlace wsX5_lowestEmptyPlace) := goodIn_app (goodIn_of _ (by decide +kernel)) ggX5_standLifted_X5_lowestEmptyPlace
theorem dX5_standLifted_0 : decode cX5_standLifted 0 = .ok (.aload_n 1, 1) := by decide +kernel
theorem dX5_standLifted_1 : decode cX5_standLifted 1 = .ok (.ifnonnull 6, 3) := by decide +kernel
theorem dX5_standLifted_4 : decode cX5_standLifted 4 = .ok (.bipush (-5), 2) := by decide +kernel
theorem dX5_standLifted_6 : decode cX5_standLifted 6 = .ok (.ireturn, 1) := by decide +kernel
theorem dX5_standLifted_7 : decode cX5_standLifted 7 = .ok (.aload_n 0, 1) := by decide +kernel
theorem dX5_standLifted_8 : decode cX5_standLifted 8 = .ok (.invokevirtual 42, 3) := by decide +kernel
theorem dX5_standLifted_11 : decode cX5_standLifted 11 = .ok (.istore_n 2, 1) := by decide +kernel
theorem dX5_standLifted_12 : decode cX5_standLifted 12 = .ok (.iload_n 2, 1) := by decide +kernel
theorem dX5_standLifted_13 : decode cX5_standLifted 13 = .ok (.iconst (-1), 1) := by decide +kernel
theorem dX5_standLifted_14 : decode cX5_standLifted 14 = .ok (.if_icmp .ne 6, 3) := by decide +kernel
theorem dX5_standLifted_17 : decode cX5_standLifted 17 = .ok (.bipush (-6), 2) := by decide +kernel
theorem dX5_standLifted_19 : decode cX5_standLifted 19 = .ok (.ireturn, 1) := by decide +kernel
theorem dX5_standLifted_20 : decode cX5_standLifted 20 = .ok (.aload_n 0, 1) := by decide +kernel
theorem dX5_standLifted_21 : decode cX5_standLifted 21 = .ok (.getfield 11, 3) := by decide +kernel
theorem dX5_standLifted_24 : decode cX5_standLifted 24 = .ok (.iload_n 2, 1) := by decide +kernel
theorem dX5_standLifted_25 : decode cX5_standLifted 25 = .ok (.aload_n 1, 1) := by decide +kernel
theorem dX5_standLifted_26 : decode cX5_standLifted 26 = .ok (.aastore, 1) := by decide +kernel
theorem dX5_standLifted_27 : decode cX5_standLifted 27 = .ok (.iload_n 2, 1) := by decide +kernel
theorem dX5_standLifted_28 : decode cX5_standLifted 28 = .ok (.ireturn, 1) := by decide +kernel
set_option maxRecDepth 20000 in
theorem ggX5_doPlanned_X5_doMove : GoodIn wsX5_doPlanned wsX5_doMove := goodIn_r _ [6, 7, 8, 9, 10, 11, 12, 13, 14, 5, 15, 16, 17, 18, 19, 20, 21, 22, 23, 24, 25, 26, 27, 28, 29, 30, 31, 32, 33, 34, 35, 36, 37, 38, 39, 40, 41, 42, 43, 44, 45, 46, 47, 48, 49, 50, 51, 52, 53, 54, 55, 56, 57, 58, 59, 60, 61, 62, 63, 64, 65, 66, 67, 68, 69, 70, 71, 72, 73, 74, 75, 76, 77, 78, 79] (by decide +kernel) (by decide +kernel)
set_option maxRecDepth 20000 in
theorem gX5_doPlanned_X5_doMove : GoodIn wsX5_doPlanned (wsV RX5 105 RX5 yX5_doMove wsX5_doMove) := goodIn_app (goodIn_of _ (by decide +kernel)) ggX5_doPlanned_X5_doMove
theorem dX5_doPlanned_0 : decode cX5_doPlanned 0 = .ok (.iload_n 1, 1) := by decide +kernel
theorem dX5_doPlanned_1 : decode cX5_doPlanned 1 = .ok (.iconst 5, 1) := by decide +kernel
theorem dX5_doPlanned_2 : decode cX5_doPlanned 2 = .ok (.imul, 1) := by decide +kernel
theorem dX5_doPlanned_3 : decode cX5_doPlanned 3 = .ok (.istore_n 2, 1) := by decide +kernel
theorem dX5_doPlanned_4 : decode cX5_doPlanned 4 = .ok (.aload_n 0, 1) := by decide +kernel
theorem dX5_doPlanned_5 : decode cX5_doPlanned 5 = .ok (.aload_n 0, 1) := by decide +kernel
theorem dX5_doPlanned_6 : decode cX5_doPlanned 6 = .ok (.getfield 15, 3) := by decide +kernel
theorem dX5_doPlanned_9 : decode cX5_doPlanned 9 = .ok (.iload_n 2, 1) := by decide +kernel
theorem dX5_doPlanned_10 : decode cX5_doPlanned 10 = .ok (.iaload, 1) := by decide +kernel
theorem dX5_doPlanned_11 : decode cX5_doPlanned 11 = .ok (.aload_n 0, 1) := by decide +kernel
theorem dX5_doPlanned_12 : decode cX5_doPlanned 12 = .ok (.getfield 15, 3) := by decide +kernel
theorem dX5_doPlanned_15 : decode cX5_doPlanned 15 = .ok (.iload_n 2, 1) := by decide +kernel
theorem dX5_doPlanned_16 : decode cX5_doPlanned 16 = .ok (.iconst 1, 1) := by decide +kernel
theorem dX5_doPlanned_17 : decode cX5_doPlanned 17 = .ok (.iadd, 1) := by decide +kernel
theorem dX5_doPlanned_18 : decode cX5_doPlanned 18 = .ok (.iaload, 1) := by decide +kernel
theorem dX5_doPlanned_19 : decode cX5_doPlanned 19 = .ok (.aload_n 0, 1) := by decide +kernel
theorem dX5_doPlanned_20 : decode cX5_doPlanned 20 = .ok (.getfield 15, 3) := by decide +kernel
theorem dX5_doPlanned_23 : decode cX5_doPlanned 23 = .ok (.iload_n 2, 1) := by decide +kernel
theorem dX5_doPlanned_24 : decode cX5_doPlanned 24 = .ok (.iconst 2, 1) := by decide +kernel
theorem dX5_doPlanned_25 : decode cX5_doPlanned 25 = .ok (.iadd, 1) := by decide +kernel
theorem dX5_doPlanned_26 : decode cX5_doPlanned 26 = .ok (.iaload, 1) := by decide +kernel
theorem dX5_doPlanned_27 : decode cX5_doPlanned 27 = .ok (.aload_n 0, 1) := by decide +kernel
theorem dX5_doPlanned_28 : decode cX5_doPlanned 28 = .ok (.getfield 15, 3) := by decide +kernel
theorem dX5_doPlanned_31 : decode cX5_doPlanned 31 = .ok (.iload_n 2, 1) := by decide +kernel
theorem dX5_doPlanned_32 : decode cX5_doPlanned 32 = .ok (.iconst 3, 1) := by decide +kernel
theorem dX5_doPlanned_33 : decode cX5_doPlanned 33 = .ok (.iadd, 1) := by decide +kernel
theorem dX5_doPlanned_34 : decode cX5_doPlanned 34 = .ok (.iaload, 1) := by decide +kernel
theorem dX5_doPlanned_35 : decode cX5_doPlanned 35 = .ok (.aload_n 0, 1) := by decide +kernel
theorem dX5_doPlanned_36 : decode cX5_doPlanned 36 = .ok (.getfield 15, 3) := by decide +kernel
theorem dX5_doPlanned_39 : decode cX5_doPlanned 39 = .ok (.iload_n 2, 1) := by decide +kernel
theorem dX5_doPlanned_40 : decode cX5_doPlanned 40 = .ok (.iconst 4, 1) := by decide +kernel
theorem dX5_doPlanned_41 : decode cX5_doPlanned 41 = .ok (.iadd, 1) := by decide +kernel
theorem dX5_doPlanned_42 : decode cX5_doPlanned 42 = .ok (.iaload, 1) := by decide +kernel
theorem dX5_doPlanned_43 : decode cX5_doPlanned 43 = .ok (.invokevirtual 105, 3) := by decide +kernel
theorem dX5_doPlanned_46 : decode cX5_doPlanned 46 = .ok (.ireturn, 1) := by decide +kernel
set_option maxRecDepth 20000 in
theorem ggX5_doMove_X5_itemAt : GoodIn wsX5_doMove wsX5_itemAt := goodIn_r _ [10, 11, 56, 57, 58, 59, 60, 61, 62, 63, 64] (by decide +kernel) (by decide +kernel)
set_option maxRecDepth 20000 in
theorem gX5_doMove_X5_itemAt : GoodIn wsX5_doMove (wsV RX5 58 RX5 yX5_itemAt wsX5_itemAt) := goodIn_app (goodIn_of _ (by decide +kernel)) ggX5_doMove_X5_itemAt
set_option maxRecDepth 20000 in
theorem ggX5_doMove_X5_refusalOfRows : GoodIn wsX5_doMove wsX5_refusalOfRows := goodIn_r _ [14, 15, 16, 17, 65, 66, 67, 68, 69, 70, 71, 72, 73, 74] (by decide +kernel) (by decide +kernel)
set_option maxRecDepth 20000 in
theorem gX5_doMove_X5_refusalOfRows : GoodIn wsX5_doMove (va_wsS RX5 144 yX5_refusalOfRows wsX5_refusalOfRows) := goodIn_app (goodIn_of _ (by decide +kernel)) ggX5_doMove_X5_refusalOfRows
set_option maxRecDepth 20000 in
theorem ggX5_doMove_X5_moveSpan : GoodIn wsX5_doMove wsX5_moveSpan := goodIn_r _ [21, 22, 1, 16, 23, 24, 25, 26, 27, 28, 29, 30, 31, 32, 33, 34, 35, 36, 37, 38, 39, 40, 41, 42, 43, 44, 45, 46, 47, 48, 49, 50, 51, 52, 53, 54, 55, 56, 57, 58, 59, 60, 61, 62, 63, 64, 65, 66, 67, 68, 69, 70, 71, 72, 73, 74] (by decide +kernel) (by decide +kernel)
set_option maxRecDepth 20000 in
theorem gX5_doMove_X5_moveSpan : GoodIn wsX5_doMove (wsV RX5 148 RX5 yX5_moveSpan wsX5_moveSpan) := goodIn_app (goodIn_of _ (by decide +kernel)) ggX5_doMove_X5_moveSpan
theorem dX5_doMove_0 : decode cX5_doMove 0 = .ok (.aload_n 0, 1) := by decide +kernel
theorem dX5_doMove_1 : decode cX5_doMove 1 = .ok (.iload_n 1, 1) := by decide +kernel
theorem dX5_doMove_2 : decode cX5_doMove 2 = .ok (.invokevirtual 58, 3) := by decide +kernel
theorem dX5_doMove_5 : decode cX5_doMove 5 = .ok (.astore 6, 2) := by decide +kernel
theorem dX5_doMove_7 : decode cX5_doMove 7 = .ok (.aload_n 0, 1) := by decide +kernel
theorem dX5_doMove_8 : decode cX5_doMove 8 = .ok (.iload_n 3, 1) := by decide +kernel
theorem dX5_doMove_9 : decode cX5_doMove 9 = .ok (.invokevirtual 58, 3) := by decide +kernel
theorem dX5_doMove_12 : decode cX5_doMove 12 = .ok (.astore 7, 2) := by decide +kernel
theorem dX5_doMove_14 : decode cX5_doMove 14 = .ok (.aload_n 0, 1) := by decide +kernel
theorem dX5_doMove_15 : decode cX5_doMove 15 = .ok (.iconst 0, 1) := by decide +kernel
theorem dX5_doMove_16 : decode cX5_doMove 16 = .ok (.putfield 30, 3) := by decide +kernel
theorem dX5_doMove_19 : decode cX5_doMove 19 = .ok (.aload_n 0, 1) := by decide +kernel
theorem dX5_doMove_20 : decode cX5_doMove 20 = .ok (.aload 6, 2) := by decide +kernel
theorem dX5_doMove_22 : decode cX5_doMove 22 = .ok (.aload 7, 2) := by decide +kernel
theorem dX5_doMove_24 : decode cX5_doMove 24 = .ok (.invokestatic 144, 3) := by decide +kernel
theorem dX5_doMove_27 : decode cX5_doMove 27 = .ok (.putfield 33, 3) := by decide +kernel
theorem dX5_doMove_30 : decode cX5_doMove 30 = .ok (.aload_n 0, 1) := by decide +kernel
theorem dX5_doMove_31 : decode cX5_doMove 31 = .ok (.getfield 33, 3) := by decide +kernel
theorem dX5_doMove_34 : decode cX5_doMove 34 = .ok (.ifCond .ne 50, 3) := by decide +kernel
theorem dX5_doMove_37 : decode cX5_doMove 37 = .ok (.aload 6, 2) := by decide +kernel
theorem dX5_doMove_39 : decode cX5_doMove 39 = .ok (.instanceof 65, 3) := by decide +kernel
theorem dX5_doMove_42 : decode cX5_doMove 42 = .ok (.ifCond .eq 42, 3) := by decide +kernel
theorem dX5_doMove_45 : decode cX5_doMove 45 = .ok (.aload 6, 2) := by decide +kernel
theorem dX5_doMove_47 : decode cX5_doMove 47 = .ok (.checkcast 65, 3) := by decide +kernel
theorem dX5_doMove_50 : decode cX5_doMove 50 = .ok (.astore 8, 2) := by decide +kernel
theorem dX5_doMove_52 : decode cX5_doMove 52 = .ok (.aload 7, 2) := by decide +kernel
theorem dX5_doMove_54 : decode cX5_doMove 54 = .ok (.instanceof 65, 3) := by decide +kernel
theorem dX5_doMove_57 : decode cX5_doMove 57 = .ok (.ifCond .eq 27, 3) := by decide +kernel
theorem dX5_doMove_60 : decode cX5_doMove 60 = .ok (.aload 7, 2) := by decide +kernel
theorem dX5_doMove_62 : decode cX5_doMove 62 = .ok (.checkcast 65, 3) := by decide +kernel
theorem dX5_doMove_65 : decode cX5_doMove 65 = .ok (.astore 9, 2) := by decide +kernel
theorem dX5_doMove_67 : decode cX5_doMove 67 = .ok (.aload_n 0, 1) := by decide +kernel
theorem dX5_doMove_68 : decode cX5_doMove 68 = .ok (.aload_n 0, 1) := by decide +kernel
theorem dX5_doMove_69 : decode cX5_doMove 69 = .ok (.aload 8, 2) := by decide +kernel
theorem dX5_doMove_71 : decode cX5_doMove 71 = .ok (.iload_n 2, 1) := by decide +kernel
theorem dX5_doMove_72 : decode cX5_doMove 72 = .ok (.aload 9, 2) := by decide +kernel
theorem dX5_doMove_74 : decode cX5_doMove 74 = .ok (.iload 4, 2) := by decide +kernel
theorem dX5_doMove_76 : decode cX5_doMove 76 = .ok (.iload 5, 2) := by decide +kernel
theorem dX5_doMove_78 : decode cX5_doMove 78 = .ok (.invokevirtual 148, 3) := by decide +kernel
theorem dX5_doMove_81 : decode cX5_doMove 81 = .ok (.putfield 33, 3) := by decide +kernel
theorem dX5_doMove_84 : decode cX5_doMove 84 = .ok (.aload_n 0, 1) := by decide +kernel
theorem dX5_doMove_85 : decode cX5_doMove 85 = .ok (.getfield 33, 3) := by decide +kernel
theorem dX5_doMove_88 : decode cX5_doMove 88 = .ok (.ifCond .ne 16, 3) := by decide +kernel
theorem dX5_doMove_91 : decode cX5_doMove 91 = .ok (.aload_n 0, 1) := by decide +kernel
theorem dX5_doMove_92 : decode cX5_doMove 92 = .ok (.dup, 1) := by decide +kernel
theorem dX5_doMove_93 : decode cX5_doMove 93 = .ok (.getfield 36, 3) := by decide +kernel
theorem dX5_doMove_96 : decode cX5_doMove 96 = .ok (.iconst 1, 1) := by decide +kernel
theorem dX5_doMove_97 : decode cX5_doMove 97 = .ok (.iadd, 1) := by decide +kernel
theorem dX5_doMove_98 : decode cX5_doMove 98 = .ok (.putfield 36, 3) := by decide +kernel
theorem dX5_doMove_101 : decode cX5_doMove 101 = .ok (.goto 13, 3) := by decide +kernel
theorem dX5_doMove_104 : decode cX5_doMove 104 = .ok (.aload_n 0, 1) := by decide +kernel
theorem dX5_doMove_105 : decode cX5_doMove 105 = .ok (.dup, 1) := by decide +kernel
theorem dX5_doMove_106 : decode cX5_doMove 106 = .ok (.getfield 39, 3) := by decide +kernel
theorem dX5_doMove_109 : decode cX5_doMove 109 = .ok (.iconst 1, 1) := by decide +kernel
theorem dX5_doMove_110 : decode cX5_doMove 110 = .ok (.iadd, 1) := by decide +kernel
theorem dX5_doMove_111 : decode cX5_doMove 111 = .ok (.putfield 39, 3) := by decide +kernel
theorem dX5_doMove_114 : decode cX5_doMove 114 = .ok (.aload_n 0, 1) := by decide +kernel
theorem dX5_doMove_115 : decode cX5_doMove 115 = .ok (.getfield 33, 3) := by decide +kernel
theorem dX5_doMove_118 : decode cX5_doMove 118 = .ok (.ireturn, 1) := by decide +kernel
theorem dX5_refusalOfRows_0 : decode cX5_refusalOfRows 0 = .ok (.aload_n 0, 1) := by decide +kernel
theorem dX5_refusalOfRows_1 : decode cX5_refusalOfRows 1 = .ok (.ifnull 7, 3) := by decide +kernel
theorem dX5_refusalOfRows_4 : decode cX5_refusalOfRows 4 = .ok (.aload_n 1, 1) := by decide +kernel
theorem dX5_refusalOfRows_5 : decode cX5_refusalOfRows 5 = .ok (.ifnonnull 5, 3) := by decide +kernel
theorem dX5_refusalOfRows_8 : decode cX5_refusalOfRows 8 = .ok (.iconst 1, 1) := by decide +kernel
theorem dX5_refusalOfRows_9 : decode cX5_refusalOfRows 9 = .ok (.ireturn, 1) := by decide +kernel
theorem dX5_refusalOfRows_10 : decode cX5_refusalOfRows 10 = .ok (.aload_n 0, 1) := by decide +kernel
theorem dX5_refusalOfRows_11 : decode cX5_refusalOfRows 11 = .ok (.instanceof 120, 3) := by decide +kernel
theorem dX5_refusalOfRows_14 : decode cX5_refusalOfRows 14 = .ok (.ifCond .ne 10, 3) := by decide +kernel
theorem dX5_refusalOfRows_17 : decode cX5_refusalOfRows 17 = .ok (.aload_n 1, 1) := by decide +kernel
theorem dX5_refusalOfRows_18 : decode cX5_refusalOfRows 18 = .ok (.instanceof 120, 3) := by decide +kernel
theorem dX5_refusalOfRows_21 : decode cX5_refusalOfRows 21 = .ok (.ifCond .eq 5, 3) := by decide +kernel
theorem dX5_refusalOfRows_24 : decode cX5_refusalOfRows 24 = .ok (.iconst 2, 1) := by decide +kernel
theorem dX5_refusalOfRows_25 : decode cX5_refusalOfRows 25 = .ok (.ireturn, 1) := by decide +kernel
theorem dX5_refusalOfRows_26 : decode cX5_refusalOfRows 26 = .ok (.aload_n 0, 1) := by decide +kernel
theorem dX5_refusalOfRows_27 : decode cX5_refusalOfRows 27 = .ok (.instanceof 51, 3) := by decide +kernel
theorem dX5_refusalOfRows_30 : decode cX5_refusalOfRows 30 = .ok (.ifCond .eq 14, 3) := by decide +kernel
theorem dX5_refusalOfRows_33 : decode cX5_refusalOfRows 33 = .ok (.aload_n 1, 1) := by decide +kernel
theorem dX5_refusalOfRows_34 : decode cX5_refusalOfRows 34 = .ok (.instanceof 51, 3) := by decide +kernel
theorem dX5_refusalOfRows_37 : decode cX5_refusalOfRows 37 = .ok (.ifCond .eq 7, 3) := by decide +kernel
theorem dX5_refusalOfRows_40 : decode cX5_refusalOfRows 40 = .ok (.iconst 1, 1) := by decide +kernel
theorem dX5_refusalOfRows_41 : decode cX5_refusalOfRows 41 = .ok (.goto 4, 3) := by decide +kernel
theorem dX5_refusalOfRows_44 : decode cX5_refusalOfRows 44 = .ok (.iconst 0, 1) := by decide +kernel
theorem dX5_refusalOfRows_45 : decode cX5_refusalOfRows 45 = .ok (.istore_n 2, 1) := by decide +kernel
theorem dX5_refusalOfRows_46 : decode cX5_refusalOfRows 46 = .ok (.iload_n 2, 1) := by decide +kernel
theorem dX5_refusalOfRows_47 : decode cX5_refusalOfRows 47 = .ok (.ifCond .ne 14, 3) := by decide +kernel
theorem dX5_refusalOfRows_50 : decode cX5_refusalOfRows 50 = .ok (.aload_n 0, 1) := by decide +kernel
theorem dX5_refusalOfRows_51 : decode cX5_refusalOfRows 51 = .ok (.getfield 62, 3) := by decide +kernel
theorem dX5_refusalOfRows_54 : decode cX5_refusalOfRows 54 = .ok (.aload_n 1, 1) := by decide +kernel
theorem dX5_refusalOfRows_55 : decode cX5_refusalOfRows 55 = .ok (.getfield 62, 3) := by decide +kernel
theorem dX5_refusalOfRows_58 : decode cX5_refusalOfRows 58 = .ok (.if_icmp .ne 7, 3) := by decide +kernel
theorem dX5_refusalOfRows_61 : decode cX5_refusalOfRows 61 = .ok (.iconst 0, 1) := by decide +kernel
theorem dX5_refusalOfRows_62 : decode cX5_refusalOfRows 62 = .ok (.goto 4, 3) := by decide +kernel
theorem dX5_refusalOfRows_65 : decode cX5_refusalOfRows 65 = .ok (.iconst 3, 1) := by decide +kernel
theorem dX5_refusalOfRows_66 : decode cX5_refusalOfRows 66 = .ok (.ireturn, 1) := by decide +kernel
set_option maxRecDepth 20000 in
theorem ggX5_moveSpan_X3_hasSpan : GoodIn wsX5_moveSpan wsX3_hasSpan := goodIn_r _ [9, 10, 46, 47, 48, 49, 50, 51, 52, 53] (by decide +kernel) (by decide +kernel)
set_option maxRecDepth 20000 in
theorem gX5_moveSpan_X3_hasSpan_u152X1 : GoodIn wsX5_moveSpan (va_wsU RX5 152 RX1 "SpanMover$Row" ⟨"SpanMover$Row", "hasSpan", "(II)Z"⟩ yX3_hasSpan wsX3_hasSpan) := goodIn_app (goodIn_of _ (by decide +kernel)) ggX5_moveSpan_X3_hasSpan
set_option maxRecDepth 20000 in
theorem gX5_moveSpan_X3_hasSpan_u152X2 : GoodIn wsX5_moveSpan (va_wsU RX5 152 RX2 "SpanMover$Row" ⟨"SpanMover$Row", "hasSpan", "(II)Z"⟩ yX3_hasSpan wsX3_hasSpan) := goodIn_app (goodIn_of _ (by decide +kernel)) ggX5_moveSpan_X3_hasSpan
set_option maxRecDepth 20000 in
theorem ggX5_moveSpan_X1_takeSpan : GoodIn wsX5_moveSpan wsX1_takeSpan := goodIn_r _ [16, 17, 18, 19, 20, 21, 22, 46, 47, 48, 49, 50] (by decide +kernel) (by decide +kernel)
set_option maxRecDepth 20000 in
theorem gX5_moveSpan_X1_takeSpan : GoodIn wsX5_moveSpan (wsV RX5 156 RX1 yX1_takeSpan wsX1_takeSpan) := goodIn_app (goodIn_of _ (by decide +kernel)) ggX5_moveSpan_X1_takeSpan
set_option maxRecDepth 20000 in
theorem ggX5_moveSpan_X2_takeFittingSpan : GoodIn wsX5_moveSpan wsX2_takeFittingSpan := goodIn_r _ [27, 28, 29, 19, 20, 21, 30, 31, 32, 26, 33, 34, 35, 36, 51, 52, 53, 46, 47, 48, 49, 50, 54, 55] (by decide +kernel) (by decide +kernel)
set_option maxRecDepth 20000 in
theorem gX5_moveSpan_X2_takeFittingSpan : GoodIn wsX5_moveSpan (wsV RX5 160 RX2 yX2_takeFittingSpan wsX2_takeFittingSpan) := goodIn_app (goodIn_of _ (by decide +kernel)) ggX5_moveSpan_X2_takeFittingSpan
theorem dX5_moveSpan_0 : decode cX5_moveSpan 0 = .ok (.aload_n 1, 1) := by decide +kernel
theorem dX5_moveSpan_1 : decode cX5_moveSpan 1 = .ok (.iload_n 2, 1) := by decide +kernel
theorem dX5_moveSpan_2 : decode cX5_moveSpan 2 = .ok (.iload 5, 2) := by decide +kernel
theorem dX5_moveSpan_4 : decode cX5_moveSpan 4 = .ok (.invokevirtual 152, 3) := by decide +kernel
theorem dX5_moveSpan_7 : decode cX5_moveSpan 7 = .ok (.ifCond .eq 14, 3) := by decide +kernel
theorem dX5_moveSpan_10 : decode cX5_moveSpan 10 = .ok (.aload_n 3, 1) := by decide +kernel
theorem dX5_moveSpan_11 : decode cX5_moveSpan 11 = .ok (.iload 4, 2) := by decide +kernel
theorem dX5_moveSpan_13 : decode cX5_moveSpan 13 = .ok (.iload 5, 2) := by decide +kernel
theorem dX5_moveSpan_15 : decode cX5_moveSpan 15 = .ok (.invokevirtual 152, 3) := by decide +kernel
theorem dX5_moveSpan_18 : decode cX5_moveSpan 18 = .ok (.ifCond .ne 5, 3) := by decide +kernel
theorem dX5_moveSpan_21 : decode cX5_moveSpan 21 = .ok (.iconst 4, 1) := by decide +kernel
theorem dX5_moveSpan_22 : decode cX5_moveSpan 22 = .ok (.ireturn, 1) := by decide +kernel
theorem dX5_moveSpan_23 : decode cX5_moveSpan 23 = .ok (.aload_n 1, 1) := by decide +kernel
theorem dX5_moveSpan_24 : decode cX5_moveSpan 24 = .ok (.instanceof 46, 3) := by decide +kernel
theorem dX5_moveSpan_27 : decode cX5_moveSpan 27 = .ok (.ifCond .eq 40, 3) := by decide +kernel
theorem dX5_moveSpan_30 : decode cX5_moveSpan 30 = .ok (.aload_n 1, 1) := by decide +kernel
theorem dX5_moveSpan_31 : decode cX5_moveSpan 31 = .ok (.checkcast 46, 3) := by decide +kernel
theorem dX5_moveSpan_34 : decode cX5_moveSpan 34 = .ok (.astore 6, 2) := by decide +kernel
theorem dX5_moveSpan_36 : decode cX5_moveSpan 36 = .ok (.aload_n 3, 1) := by decide +kernel
theorem dX5_moveSpan_37 : decode cX5_moveSpan 37 = .ok (.instanceof 46, 3) := by decide +kernel
theorem dX5_moveSpan_40 : decode cX5_moveSpan 40 = .ok (.ifCond .eq 27, 3) := by decide +kernel
theorem dX5_moveSpan_43 : decode cX5_moveSpan 43 = .ok (.aload_n 3, 1) := by decide +kernel
theorem dX5_moveSpan_44 : decode cX5_moveSpan 44 = .ok (.checkcast 46, 3) := by decide +kernel
theorem dX5_moveSpan_47 : decode cX5_moveSpan 47 = .ok (.astore 7, 2) := by decide +kernel
theorem dX5_moveSpan_49 : decode cX5_moveSpan 49 = .ok (.aload 7, 2) := by decide +kernel
theorem dX5_moveSpan_51 : decode cX5_moveSpan 51 = .ok (.iload 4, 2) := by decide +kernel
theorem dX5_moveSpan_53 : decode cX5_moveSpan 53 = .ok (.aload 6, 2) := by decide +kernel
theorem dX5_moveSpan_55 : decode cX5_moveSpan 55 = .ok (.iload_n 2, 1) := by decide +kernel
theorem dX5_moveSpan_56 : decode cX5_moveSpan 56 = .ok (.iload 5, 2) := by decide +kernel
theorem dX5_moveSpan_58 : decode cX5_moveSpan 58 = .ok (.invokevirtual 156, 3) := by decide +kernel
theorem dX5_moveSpan_61 : decode cX5_moveSpan 61 = .ok (.aload_n 0, 1) := by decide +kernel
theorem dX5_moveSpan_62 : decode cX5_moveSpan 62 = .ok (.iload 5, 2) := by decide +kernel
theorem dX5_moveSpan_64 : decode cX5_moveSpan 64 = .ok (.putfield 30, 3) := by decide +kernel
theorem dX5_moveSpan_67 : decode cX5_moveSpan 67 = .ok (.aload_n 1, 1) := by decide +kernel
theorem dX5_moveSpan_68 : decode cX5_moveSpan 68 = .ok (.instanceof 51, 3) := by decide +kernel
theorem dX5_moveSpan_71 : decode cX5_moveSpan 71 = .ok (.ifCond .eq 38, 3) := by decide +kernel
theorem dX5_moveSpan_74 : decode cX5_moveSpan 74 = .ok (.aload_n 1, 1) := by decide +kernel
theorem dX5_moveSpan_75 : decode cX5_moveSpan 75 = .ok (.checkcast 51, 3) := by decide +kernel
theorem dX5_moveSpan_78 : decode cX5_moveSpan 78 = .ok (.astore 6, 2) := by decide +kernel
theorem dX5_moveSpan_80 : decode cX5_moveSpan 80 = .ok (.aload_n 3, 1) := by decide +kernel
theorem dX5_moveSpan_81 : decode cX5_moveSpan 81 = .ok (.instanceof 51, 3) := by decide +kernel
theorem dX5_moveSpan_84 : decode cX5_moveSpan 84 = .ok (.ifCond .eq 25, 3) := by decide +kernel
theorem dX5_moveSpan_87 : decode cX5_moveSpan 87 = .ok (.aload_n 3, 1) := by decide +kernel
theorem dX5_moveSpan_88 : decode cX5_moveSpan 88 = .ok (.checkcast 51, 3) := by decide +kernel
theorem dX5_moveSpan_91 : decode cX5_moveSpan 91 = .ok (.astore 7, 2) := by decide +kernel
theorem dX5_moveSpan_93 : decode cX5_moveSpan 93 = .ok (.aload_n 0, 1) := by decide +kernel
theorem dX5_moveSpan_94 : decode cX5_moveSpan 94 = .ok (.aload 7, 2) := by decide +kernel
theorem dX5_moveSpan_96 : decode cX5_moveSpan 96 = .ok (.iload 4, 2) := by decide +kernel
theorem dX5_moveSpan_98 : decode cX5_moveSpan 98 = .ok (.aload 6, 2) := by decide +kernel
theorem dX5_moveSpan_100 : decode cX5_moveSpan 100 = .ok (.iload_n 2, 1) := by decide +kernel
theorem dX5_moveSpan_101 : decode cX5_moveSpan 101 = .ok (.iload 5, 2) := by decide +kernel
theorem dX5_moveSpan_103 : decode cX5_moveSpan 103 = .ok (.invokevirtual 160, 3) := by decide +kernel
theorem dX5_moveSpan_106 : decode cX5_moveSpan 106 = .ok (.putfield 30, 3) := by decide +kernel
theorem dX5_moveSpan_109 : decode cX5_moveSpan 109 = .ok (.aload_n 0, 1) := by decide +kernel
theorem dX5_moveSpan_110 : decode cX5_moveSpan 110 = .ok (.getfield 30, 3) := by decide +kernel
theorem dX5_moveSpan_113 : decode cX5_moveSpan 113 = .ok (.iload 5, 2) := by decide +kernel
theorem dX5_moveSpan_115 : decode cX5_moveSpan 115 = .ok (.if_icmp .ne 7, 3) := by decide +kernel
theorem dX5_moveSpan_118 : decode cX5_moveSpan 118 = .ok (.iconst 0, 1) := by decide +kernel
theorem dX5_moveSpan_119 : decode cX5_moveSpan 119 = .ok (.goto 4, 3) := by decide +kernel
theorem dX5_moveSpan_122 : decode cX5_moveSpan 122 = .ok (.iconst 5, 1) := by decide +kernel
theorem dX5_moveSpan_123 : decode cX5_moveSpan 123 = .ok (.ireturn, 1) := by decide +kernel
