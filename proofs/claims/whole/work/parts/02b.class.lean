theorem dX0_init_0 : decode cX0_init 0 = .ok (.aload_n 0, 1) := by decide +kernel
theorem dX0_init_1 : decode cX0_init 1 = .ok (.invokespecial 3, 3) := by decide +kernel
theorem dX0_init_4 : decode cX0_init 4 = .ok (.aload_n 0, 1) := by decide +kernel
theorem dX0_init_5 : decode cX0_init 5 = .ok (.bipush 100, 2) := by decide +kernel
theorem dX0_init_7 : decode cX0_init 7 = .ok (.newarray .int, 2) := by decide +kernel
theorem dX0_init_9 : decode cX0_init 9 = .ok (.putfield 9, 3) := by decide +kernel
theorem dX0_init_12 : decode cX0_init 12 = .ok (.aload_n 0, 1) := by decide +kernel
theorem dX0_init_13 : decode cX0_init 13 = .ok (.bipush 100, 2) := by decide +kernel
theorem dX0_init_15 : decode cX0_init 15 = .ok (.newarray .int, 2) := by decide +kernel
theorem dX0_init_17 : decode cX0_init 17 = .ok (.putfield 15, 3) := by decide +kernel
theorem dX0_init_20 : decode cX0_init 20 = .ok (.aload_n 0, 1) := by decide +kernel
theorem dX0_init_21 : decode cX0_init 21 = .ok (.bipush 100, 2) := by decide +kernel
theorem dX0_init_23 : decode cX0_init 23 = .ok (.newarray .int, 2) := by decide +kernel
theorem dX0_init_25 : decode cX0_init 25 = .ok (.putfield 18, 3) := by decide +kernel
theorem dX0_init_28 : decode cX0_init 28 = .ok (.aload_n 0, 1) := by decide +kernel
theorem dX0_init_29 : decode cX0_init 29 = .ok (.bipush 100, 2) := by decide +kernel
theorem dX0_init_31 : decode cX0_init 31 = .ok (.newarray .boolean, 2) := by decide +kernel
theorem dX0_init_33 : decode cX0_init 33 = .ok (.putfield 21, 3) := by decide +kernel
theorem dX0_init_36 : decode cX0_init 36 = .ok (.aload_n 0, 1) := by decide +kernel
theorem dX0_init_37 : decode cX0_init 37 = .ok (.bipush 101, 2) := by decide +kernel
theorem dX0_init_39 : decode cX0_init 39 = .ok (.newarray .int, 2) := by decide +kernel
theorem dX0_init_41 : decode cX0_init 41 = .ok (.putfield 25, 3) := by decide +kernel
theorem dX0_init_44 : decode cX0_init 44 = .ok (.aload_n 0, 1) := by decide +kernel
theorem dX0_init_45 : decode cX0_init 45 = .ok (.bipush 101, 2) := by decide +kernel
theorem dX0_init_47 : decode cX0_init 47 = .ok (.newarray .int, 2) := by decide +kernel
theorem dX0_init_49 : decode cX0_init 49 = .ok (.putfield 28, 3) := by decide +kernel
theorem dX0_init_52 : decode cX0_init 52 = .ok (.aload_n 0, 1) := by decide +kernel
theorem dX0_init_53 : decode cX0_init 53 = .ok (.bipush 101, 2) := by decide +kernel
theorem dX0_init_55 : decode cX0_init 55 = .ok (.newarray .int, 2) := by decide +kernel
theorem dX0_init_57 : decode cX0_init 57 = .ok (.putfield 31, 3) := by decide +kernel
theorem dX0_init_60 : decode cX0_init 60 = .ok (.return_, 1) := by decide +kernel
theorem dX0_append_0 : decode cX0_append 0 = .ok (.aload_n 0, 1) := by decide +kernel
theorem dX0_append_1 : decode cX0_append 1 = .ok (.getfield 34, 3) := by decide +kernel
theorem dX0_append_4 : decode cX0_append 4 = .ok (.bipush 100, 2) := by decide +kernel
theorem dX0_append_6 : decode cX0_append 6 = .ok (.if_icmp .lt 6, 3) := by decide +kernel
theorem dX0_append_9 : decode cX0_append 9 = .ok (.bipush (-2), 2) := by decide +kernel
theorem dX0_append_11 : decode cX0_append 11 = .ok (.ireturn, 1) := by decide +kernel
theorem dX0_append_12 : decode cX0_append 12 = .ok (.aload_n 0, 1) := by decide +kernel
theorem dX0_append_13 : decode cX0_append 13 = .ok (.getfield 34, 3) := by decide +kernel
theorem dX0_append_16 : decode cX0_append 16 = .ok (.istore 5, 2) := by decide +kernel
theorem dX0_append_18 : decode cX0_append 18 = .ok (.aload_n 0, 1) := by decide +kernel
theorem dX0_append_19 : decode cX0_append 19 = .ok (.getfield 9, 3) := by decide +kernel
theorem dX0_append_22 : decode cX0_append 22 = .ok (.iload 5, 2) := by decide +kernel
theorem dX0_append_24 : decode cX0_append 24 = .ok (.iload_n 1, 1) := by decide +kernel
theorem dX0_append_25 : decode cX0_append 25 = .ok (.iastore, 1) := by decide +kernel
theorem dX0_append_26 : decode cX0_append 26 = .ok (.aload_n 0, 1) := by decide +kernel
theorem dX0_append_27 : decode cX0_append 27 = .ok (.getfield 25, 3) := by decide +kernel
theorem dX0_append_30 : decode cX0_append 30 = .ok (.iload 5, 2) := by decide +kernel
theorem dX0_append_32 : decode cX0_append 32 = .ok (.iconst 1, 1) := by decide +kernel
theorem dX0_append_33 : decode cX0_append 33 = .ok (.iadd, 1) := by decide +kernel
theorem dX0_append_34 : decode cX0_append 34 = .ok (.aload_n 0, 1) := by decide +kernel
theorem dX0_append_35 : decode cX0_append 35 = .ok (.getfield 25, 3) := by decide +kernel
theorem dX0_append_38 : decode cX0_append 38 = .ok (.iload 5, 2) := by decide +kernel
theorem dX0_append_40 : decode cX0_append 40 = .ok (.iaload, 1) := by decide +kernel
theorem dX0_append_41 : decode cX0_append 41 = .ok (.iload_n 2, 1) := by decide +kernel
theorem dX0_append_42 : decode cX0_append 42 = .ok (.iadd, 1) := by decide +kernel
theorem dX0_append_43 : decode cX0_append 43 = .ok (.iastore, 1) := by decide +kernel
theorem dX0_append_44 : decode cX0_append 44 = .ok (.aload_n 0, 1) := by decide +kernel
theorem dX0_append_45 : decode cX0_append 45 = .ok (.getfield 28, 3) := by decide +kernel
theorem dX0_append_48 : decode cX0_append 48 = .ok (.iload 5, 2) := by decide +kernel
theorem dX0_append_50 : decode cX0_append 50 = .ok (.iconst 1, 1) := by decide +kernel
theorem dX0_append_51 : decode cX0_append 51 = .ok (.iadd, 1) := by decide +kernel
theorem dX0_append_52 : decode cX0_append 52 = .ok (.aload_n 0, 1) := by decide +kernel
theorem dX0_append_53 : decode cX0_append 53 = .ok (.getfield 28, 3) := by decide +kernel
theorem dX0_append_56 : decode cX0_append 56 = .ok (.iload 5, 2) := by decide +kernel
theorem dX0_append_58 : decode cX0_append 58 = .ok (.iaload, 1) := by decide +kernel
theorem dX0_append_59 : decode cX0_append 59 = .ok (.iload_n 3, 1) := by decide +kernel
theorem dX0_append_60 : decode cX0_append 60 = .ok (.iadd, 1) := by decide +kernel
theorem dX0_append_61 : decode cX0_append 61 = .ok (.iastore, 1) := by decide +kernel
theorem dX0_append_62 : decode cX0_append 62 = .ok (.aload_n 0, 1) := by decide +kernel
theorem dX0_append_63 : decode cX0_append 63 = .ok (.getfield 31, 3) := by decide +kernel
theorem dX0_append_66 : decode cX0_append 66 = .ok (.iload 5, 2) := by decide +kernel
theorem dX0_append_68 : decode cX0_append 68 = .ok (.iconst 1, 1) := by decide +kernel
theorem dX0_append_69 : decode cX0_append 69 = .ok (.iadd, 1) := by decide +kernel
theorem dX0_append_70 : decode cX0_append 70 = .ok (.aload_n 0, 1) := by decide +kernel
theorem dX0_append_71 : decode cX0_append 71 = .ok (.getfield 31, 3) := by decide +kernel
theorem dX0_append_74 : decode cX0_append 74 = .ok (.iload 5, 2) := by decide +kernel
theorem dX0_append_76 : decode cX0_append 76 = .ok (.iaload, 1) := by decide +kernel
theorem dX0_append_77 : decode cX0_append 77 = .ok (.iload 4, 2) := by decide +kernel
theorem dX0_append_79 : decode cX0_append 79 = .ok (.iadd, 1) := by decide +kernel
theorem dX0_append_80 : decode cX0_append 80 = .ok (.iastore, 1) := by decide +kernel
theorem dX0_append_81 : decode cX0_append 81 = .ok (.aload_n 0, 1) := by decide +kernel
theorem dX0_append_82 : decode cX0_append 82 = .ok (.iload 5, 2) := by decide +kernel
theorem dX0_append_84 : decode cX0_append 84 = .ok (.iconst 1, 1) := by decide +kernel
theorem dX0_append_85 : decode cX0_append 85 = .ok (.iadd, 1) := by decide +kernel
theorem dX0_append_86 : decode cX0_append 86 = .ok (.putfield 34, 3) := by decide +kernel
theorem dX0_append_89 : decode cX0_append 89 = .ok (.iload 5, 2) := by decide +kernel
theorem dX0_append_91 : decode cX0_append 91 = .ok (.ireturn, 1) := by decide +kernel
set_option maxRecDepth 20000 in
theorem ggX0_appendPenalty_X0_append : GoodIn wsX0_appendPenalty wsX0_append := goodIn_r _ [8, 9, 10, 11, 12, 13, 14, 15, 16, 17, 18, 19, 20, 21] (by decide +kernel) (by decide +kernel)
set_option maxRecDepth 20000 in
theorem gX0_appendPenalty_X0_append : GoodIn wsX0_appendPenalty (wsV RX0 38 RX0 yX0_append wsX0_append) := goodIn_app (goodIn_of _ (by decide +kernel)) ggX0_appendPenalty_X0_append
theorem dX0_appendPenalty_0 : decode cX0_appendPenalty 0 = .ok (.aload_n 0, 1) := by decide +kernel
theorem dX0_appendPenalty_1 : decode cX0_appendPenalty 1 = .ok (.iconst 2, 1) := by decide +kernel
theorem dX0_appendPenalty_2 : decode cX0_appendPenalty 2 = .ok (.iconst 0, 1) := by decide +kernel
theorem dX0_appendPenalty_3 : decode cX0_appendPenalty 3 = .ok (.iconst 0, 1) := by decide +kernel
theorem dX0_appendPenalty_4 : decode cX0_appendPenalty 4 = .ok (.iconst 0, 1) := by decide +kernel
theorem dX0_appendPenalty_5 : decode cX0_appendPenalty 5 = .ok (.invokevirtual 38, 3) := by decide +kernel
theorem dX0_appendPenalty_8 : decode cX0_appendPenalty 8 = .ok (.istore 4, 2) := by decide +kernel
theorem dX0_appendPenalty_10 : decode cX0_appendPenalty 10 = .ok (.iload 4, 2) := by decide +kernel
theorem dX0_appendPenalty_12 : decode cX0_appendPenalty 12 = .ok (.ifCond .lt 27, 3) := by decide +kernel
theorem dX0_appendPenalty_15 : decode cX0_appendPenalty 15 = .ok (.aload_n 0, 1) := by decide +kernel
theorem dX0_appendPenalty_16 : decode cX0_appendPenalty 16 = .ok (.getfield 15, 3) := by decide +kernel
theorem dX0_appendPenalty_19 : decode cX0_appendPenalty 19 = .ok (.iload 4, 2) := by decide +kernel
theorem dX0_appendPenalty_21 : decode cX0_appendPenalty 21 = .ok (.iload_n 1, 1) := by decide +kernel
theorem dX0_appendPenalty_22 : decode cX0_appendPenalty 22 = .ok (.iastore, 1) := by decide +kernel
theorem dX0_appendPenalty_23 : decode cX0_appendPenalty 23 = .ok (.aload_n 0, 1) := by decide +kernel
theorem dX0_appendPenalty_24 : decode cX0_appendPenalty 24 = .ok (.getfield 18, 3) := by decide +kernel
theorem dX0_appendPenalty_27 : decode cX0_appendPenalty 27 = .ok (.iload 4, 2) := by decide +kernel
theorem dX0_appendPenalty_29 : decode cX0_appendPenalty 29 = .ok (.iload_n 2, 1) := by decide +kernel
theorem dX0_appendPenalty_30 : decode cX0_appendPenalty 30 = .ok (.iastore, 1) := by decide +kernel
theorem dX0_appendPenalty_31 : decode cX0_appendPenalty 31 = .ok (.aload_n 0, 1) := by decide +kernel
theorem dX0_appendPenalty_32 : decode cX0_appendPenalty 32 = .ok (.getfield 21, 3) := by decide +kernel
theorem dX0_appendPenalty_35 : decode cX0_appendPenalty 35 = .ok (.iload 4, 2) := by decide +kernel
theorem dX0_appendPenalty_37 : decode cX0_appendPenalty 37 = .ok (.iload_n 3, 1) := by decide +kernel
theorem dX0_appendPenalty_38 : decode cX0_appendPenalty 38 = .ok (.bastore, 1) := by decide +kernel
theorem dX0_appendPenalty_39 : decode cX0_appendPenalty 39 = .ok (.iload 4, 2) := by decide +kernel
theorem dX0_appendPenalty_41 : decode cX0_appendPenalty 41 = .ok (.ireturn, 1) := by decide +kernel
theorem dX0_isEnd_0 : decode cX0_isEnd 0 = .ok (.iload_n 1, 1) := by decide +kernel
theorem dX0_isEnd_1 : decode cX0_isEnd 1 = .ok (.aload_n 0, 1) := by decide +kernel
theorem dX0_isEnd_2 : decode cX0_isEnd 2 = .ok (.getfield 34, 3) := by decide +kernel
theorem dX0_isEnd_5 : decode cX0_isEnd 5 = .ok (.if_icmp .lt 7, 3) := by decide +kernel
theorem dX0_isEnd_8 : decode cX0_isEnd 8 = .ok (.iconst 1, 1) := by decide +kernel
theorem dX0_isEnd_9 : decode cX0_isEnd 9 = .ok (.goto 4, 3) := by decide +kernel
theorem dX0_isEnd_12 : decode cX0_isEnd 12 = .ok (.iconst 0, 1) := by decide +kernel
theorem dX0_isEnd_13 : decode cX0_isEnd 13 = .ok (.ireturn, 1) := by decide +kernel
theorem dX0_isKind_0 : decode cX0_isKind 0 = .ok (.iload_n 1, 1) := by decide +kernel
theorem dX0_isKind_1 : decode cX0_isKind 1 = .ok (.ifCond .lt 25, 3) := by decide +kernel
theorem dX0_isKind_4 : decode cX0_isKind 4 = .ok (.iload_n 1, 1) := by decide +kernel
theorem dX0_isKind_5 : decode cX0_isKind 5 = .ok (.aload_n 0, 1) := by decide +kernel
theorem dX0_isKind_6 : decode cX0_isKind 6 = .ok (.getfield 34, 3) := by decide +kernel
theorem dX0_isKind_9 : decode cX0_isKind 9 = .ok (.if_icmp .ge 17, 3) := by decide +kernel
theorem dX0_isKind_12 : decode cX0_isKind 12 = .ok (.aload_n 0, 1) := by decide +kernel
theorem dX0_isKind_13 : decode cX0_isKind 13 = .ok (.getfield 9, 3) := by decide +kernel
theorem dX0_isKind_16 : decode cX0_isKind 16 = .ok (.iload_n 1, 1) := by decide +kernel
theorem dX0_isKind_17 : decode cX0_isKind 17 = .ok (.iaload, 1) := by decide +kernel
theorem dX0_isKind_18 : decode cX0_isKind 18 = .ok (.iload_n 2, 1) := by decide +kernel
theorem dX0_isKind_19 : decode cX0_isKind 19 = .ok (.if_icmp .ne 7, 3) := by decide +kernel
theorem dX0_isKind_22 : decode cX0_isKind 22 = .ok (.iconst 1, 1) := by decide +kernel
theorem dX0_isKind_23 : decode cX0_isKind 23 = .ok (.goto 4, 3) := by decide +kernel
theorem dX0_isKind_26 : decode cX0_isKind 26 = .ok (.iconst 0, 1) := by decide +kernel
theorem dX0_isKind_27 : decode cX0_isKind 27 = .ok (.ireturn, 1) := by decide +kernel
set_option maxRecDepth 20000 in
theorem ggX0_isMarked_X0_isKind : GoodIn wsX0_isMarked wsX0_isKind := goodIn_r _ [6, 7, 8, 9, 10, 11, 12, 13, 14, 15, 16] (by decide +kernel) (by decide +kernel)
set_option maxRecDepth 20000 in
theorem gX0_isMarked_X0_isKind : GoodIn wsX0_isMarked (wsV RX0 42 RX0 yX0_isKind wsX0_isKind) := goodIn_app (goodIn_of _ (by decide +kernel)) ggX0_isMarked_X0_isKind
theorem dX0_isMarked_0 : decode cX0_isMarked 0 = .ok (.aload_n 0, 1) := by decide +kernel
theorem dX0_isMarked_1 : decode cX0_isMarked 1 = .ok (.iload_n 1, 1) := by decide +kernel
theorem dX0_isMarked_2 : decode cX0_isMarked 2 = .ok (.iconst 2, 1) := by decide +kernel
theorem dX0_isMarked_3 : decode cX0_isMarked 3 = .ok (.invokevirtual 42, 3) := by decide +kernel
theorem dX0_isMarked_6 : decode cX0_isMarked 6 = .ok (.ifCond .eq 16, 3) := by decide +kernel
theorem dX0_isMarked_9 : decode cX0_isMarked 9 = .ok (.aload_n 0, 1) := by decide +kernel
theorem dX0_isMarked_10 : decode cX0_isMarked 10 = .ok (.getfield 21, 3) := by decide +kernel
theorem dX0_isMarked_13 : decode cX0_isMarked 13 = .ok (.iload_n 1, 1) := by decide +kernel
theorem dX0_isMarked_14 : decode cX0_isMarked 14 = .ok (.baload, 1) := by decide +kernel
theorem dX0_isMarked_15 : decode cX0_isMarked 15 = .ok (.ifCond .eq 7, 3) := by decide +kernel
theorem dX0_isMarked_18 : decode cX0_isMarked 18 = .ok (.iconst 1, 1) := by decide +kernel
theorem dX0_isMarked_19 : decode cX0_isMarked 19 = .ok (.goto 4, 3) := by decide +kernel
theorem dX0_isMarked_22 : decode cX0_isMarked 22 = .ok (.iconst 0, 1) := by decide +kernel
theorem dX0_isMarked_23 : decode cX0_isMarked 23 = .ok (.ireturn, 1) := by decide +kernel
set_option maxRecDepth 20000 in
theorem ggX0_mayBreakAt_X0_isKind : GoodIn wsX0_mayBreakAt wsX0_isKind := goodIn_r _ [7, 8, 9, 14, 15, 16, 17, 18, 19, 20, 21] (by decide +kernel) (by decide +kernel)
set_option maxRecDepth 20000 in
theorem gX0_mayBreakAt_X0_isKind : GoodIn wsX0_mayBreakAt (wsV RX0 42 RX0 yX0_isKind wsX0_isKind) := goodIn_app (goodIn_of _ (by decide +kernel)) ggX0_mayBreakAt_X0_isKind
set_option maxRecDepth 20000 in
theorem ggX0_mayBreakAt_X0_isEnd : GoodIn wsX0_mayBreakAt wsX0_isEnd := goodIn_r _ [13, 8, 14, 15, 16, 17, 18, 19, 20, 21] (by decide +kernel) (by decide +kernel)
set_option maxRecDepth 20000 in
theorem gX0_mayBreakAt_X0_isEnd : GoodIn wsX0_mayBreakAt (wsV RX0 46 RX0 yX0_isEnd wsX0_isEnd) := goodIn_app (goodIn_of _ (by decide +kernel)) ggX0_mayBreakAt_X0_isEnd
theorem dX0_mayBreakAt_0 : decode cX0_mayBreakAt 0 = .ok (.aload_n 0, 1) := by decide +kernel
theorem dX0_mayBreakAt_1 : decode cX0_mayBreakAt 1 = .ok (.iload_n 1, 1) := by decide +kernel
theorem dX0_mayBreakAt_2 : decode cX0_mayBreakAt 2 = .ok (.iconst 1, 1) := by decide +kernel
theorem dX0_mayBreakAt_3 : decode cX0_mayBreakAt 3 = .ok (.invokevirtual 42, 3) := by decide +kernel
theorem dX0_mayBreakAt_6 : decode cX0_mayBreakAt 6 = .ok (.ifCond .eq 12, 3) := by decide +kernel
theorem dX0_mayBreakAt_9 : decode cX0_mayBreakAt 9 = .ok (.aload_n 0, 1) := by decide +kernel
theorem dX0_mayBreakAt_10 : decode cX0_mayBreakAt 10 = .ok (.iload_n 1, 1) := by decide +kernel
theorem dX0_mayBreakAt_11 : decode cX0_mayBreakAt 11 = .ok (.iconst 1, 1) := by decide +kernel
theorem dX0_mayBreakAt_12 : decode cX0_mayBreakAt 12 = .ok (.isub, 1) := by decide +kernel
theorem dX0_mayBreakAt_13 : decode cX0_mayBreakAt 13 = .ok (.iconst 0, 1) := by decide +kernel
theorem dX0_mayBreakAt_14 : decode cX0_mayBreakAt 14 = .ok (.invokevirtual 42, 3) := by decide +kernel
theorem dX0_mayBreakAt_17 : decode cX0_mayBreakAt 17 = .ok (.ireturn, 1) := by decide +kernel
theorem dX0_mayBreakAt_18 : decode cX0_mayBreakAt 18 = .ok (.aload_n 0, 1) := by decide +kernel
theorem dX0_mayBreakAt_19 : decode cX0_mayBreakAt 19 = .ok (.iload_n 1, 1) := by decide +kernel
theorem dX0_mayBreakAt_20 : decode cX0_mayBreakAt 20 = .ok (.iconst 2, 1) := by decide +kernel
theorem dX0_mayBreakAt_21 : decode cX0_mayBreakAt 21 = .ok (.invokevirtual 42, 3) := by decide +kernel
theorem dX0_mayBreakAt_24 : decode cX0_mayBreakAt 24 = .ok (.ifCond .eq 34, 3) := by decide +kernel
theorem dX0_mayBreakAt_27 : decode cX0_mayBreakAt 27 = .ok (.aload_n 0, 1) := by decide +kernel
theorem dX0_mayBreakAt_28 : decode cX0_mayBreakAt 28 = .ok (.getfield 15, 3) := by decide +kernel
theorem dX0_mayBreakAt_31 : decode cX0_mayBreakAt 31 = .ok (.iload_n 1, 1) := by decide +kernel
theorem dX0_mayBreakAt_32 : decode cX0_mayBreakAt 32 = .ok (.iaload, 1) := by decide +kernel
theorem dX0_mayBreakAt_33 : decode cX0_mayBreakAt 33 = .ok (.sipush 10000, 3) := by decide +kernel
theorem dX0_mayBreakAt_36 : decode cX0_mayBreakAt 36 = .ok (.if_icmp .ge 20, 3) := by decide +kernel
theorem dX0_mayBreakAt_39 : decode cX0_mayBreakAt 39 = .ok (.iload_n 2, 1) := by decide +kernel
theorem dX0_mayBreakAt_40 : decode cX0_mayBreakAt 40 = .ok (.ifCond .ne 12, 3) := by decide +kernel
theorem dX0_mayBreakAt_43 : decode cX0_mayBreakAt 43 = .ok (.aload_n 0, 1) := by decide +kernel
theorem dX0_mayBreakAt_44 : decode cX0_mayBreakAt 44 = .ok (.getfield 21, 3) := by decide +kernel
theorem dX0_mayBreakAt_47 : decode cX0_mayBreakAt 47 = .ok (.iload_n 1, 1) := by decide +kernel
theorem dX0_mayBreakAt_48 : decode cX0_mayBreakAt 48 = .ok (.baload, 1) := by decide +kernel
theorem dX0_mayBreakAt_49 : decode cX0_mayBreakAt 49 = .ok (.ifCond .ne 7, 3) := by decide +kernel
theorem dX0_mayBreakAt_52 : decode cX0_mayBreakAt 52 = .ok (.iconst 1, 1) := by decide +kernel
theorem dX0_mayBreakAt_53 : decode cX0_mayBreakAt 53 = .ok (.goto 4, 3) := by decide +kernel
theorem dX0_mayBreakAt_56 : decode cX0_mayBreakAt 56 = .ok (.iconst 0, 1) := by decide +kernel
theorem dX0_mayBreakAt_57 : decode cX0_mayBreakAt 57 = .ok (.ireturn, 1) := by decide +kernel
theorem dX0_mayBreakAt_58 : decode cX0_mayBreakAt 58 = .ok (.aload_n 0, 1) := by decide +kernel
theorem dX0_mayBreakAt_59 : decode cX0_mayBreakAt 59 = .ok (.iload_n 1, 1) := by decide +kernel
theorem dX0_mayBreakAt_60 : decode cX0_mayBreakAt 60 = .ok (.invokevirtual 46, 3) := by decide +kernel
theorem dX0_mayBreakAt_63 : decode cX0_mayBreakAt 63 = .ok (.ireturn, 1) := by decide +kernel
set_option maxRecDepth 20000 in
theorem ggX0_hasToBreakAt_X0_isEnd : GoodIn wsX0_hasToBreakAt wsX0_isEnd := goodIn_r _ [6, 7, 13, 14, 15, 16, 17, 18, 19, 20] (by decide +kernel) (by decide +kernel)
set_option maxRecDepth 20000 in
theorem gX0_hasToBreakAt_X0_isEnd : GoodIn wsX0_hasToBreakAt (wsV RX0 46 RX0 yX0_isEnd wsX0_isEnd) := goodIn_app (goodIn_of _ (by decide +kernel)) ggX0_hasToBreakAt_X0_isEnd
set_option maxRecDepth 20000 in
theorem ggX0_hasToBreakAt_X0_isKind : GoodIn wsX0_hasToBreakAt wsX0_isKind := goodIn_r _ [11, 7, 12, 13, 14, 15, 16, 17, 18, 19, 20] (by decide +kernel) (by decide +kernel)
set_option maxRecDepth 20000 in
theorem gX0_hasToBreakAt_X0_isKind : GoodIn wsX0_hasToBreakAt (wsV RX0 42 RX0 yX0_isKind wsX0_isKind) := goodIn_app (goodIn_of _ (by decide +kernel)) ggX0_hasToBreakAt_X0_isKind
theorem dX0_hasToBreakAt_0 : decode cX0_hasToBreakAt 0 = .ok (.aload_n 0, 1) := by decide +kernel
theorem dX0_hasToBreakAt_1 : decode cX0_hasToBreakAt 1 = .ok (.iload_n 1, 1) := by decide +kernel
theorem dX0_hasToBreakAt_2 : decode cX0_hasToBreakAt 2 = .ok (.invokevirtual 46, 3) := by decide +kernel
theorem dX0_hasToBreakAt_5 : decode cX0_hasToBreakAt 5 = .ok (.ifCond .ne 24, 3) := by decide +kernel
theorem dX0_hasToBreakAt_8 : decode cX0_hasToBreakAt 8 = .ok (.aload_n 0, 1) := by decide +kernel
theorem dX0_hasToBreakAt_9 : decode cX0_hasToBreakAt 9 = .ok (.iload_n 1, 1) := by decide +kernel
theorem dX0_hasToBreakAt_10 : decode cX0_hasToBreakAt 10 = .ok (.iconst 2, 1) := by decide +kernel
theorem dX0_hasToBreakAt_11 : decode cX0_hasToBreakAt 11 = .ok (.invokevirtual 42, 3) := by decide +kernel
theorem dX0_hasToBreakAt_14 : decode cX0_hasToBreakAt 14 = .ok (.ifCond .eq 19, 3) := by decide +kernel
theorem dX0_hasToBreakAt_17 : decode cX0_hasToBreakAt 17 = .ok (.aload_n 0, 1) := by decide +kernel
theorem dX0_hasToBreakAt_18 : decode cX0_hasToBreakAt 18 = .ok (.getfield 15, 3) := by decide +kernel
theorem dX0_hasToBreakAt_21 : decode cX0_hasToBreakAt 21 = .ok (.iload_n 1, 1) := by decide +kernel
theorem dX0_hasToBreakAt_22 : decode cX0_hasToBreakAt 22 = .ok (.iaload, 1) := by decide +kernel
theorem dX0_hasToBreakAt_23 : decode cX0_hasToBreakAt 23 = .ok (.sipush (-10000), 3) := by decide +kernel
theorem dX0_hasToBreakAt_26 : decode cX0_hasToBreakAt 26 = .ok (.if_icmp .ne 7, 3) := by decide +kernel
theorem dX0_hasToBreakAt_29 : decode cX0_hasToBreakAt 29 = .ok (.iconst 1, 1) := by decide +kernel
theorem dX0_hasToBreakAt_30 : decode cX0_hasToBreakAt 30 = .ok (.goto 4, 3) := by decide +kernel
theorem dX0_hasToBreakAt_33 : decode cX0_hasToBreakAt 33 = .ok (.iconst 0, 1) := by decide +kernel
theorem dX0_hasToBreakAt_34 : decode cX0_hasToBreakAt 34 = .ok (.ireturn, 1) := by decide +kernel
theorem dX0_startBehind_0 : decode cX0_startBehind 0 = .ok (.iload_n 1, 1) := by decide +kernel
theorem dX0_startBehind_1 : decode cX0_startBehind 1 = .ok (.ifCond .ge 5, 3) := by decide +kernel
theorem dX0_startBehind_4 : decode cX0_startBehind 4 = .ok (.iconst 0, 1) := by decide +kernel
theorem dX0_startBehind_5 : decode cX0_startBehind 5 = .ok (.ireturn, 1) := by decide +kernel
theorem dX0_startBehind_6 : decode cX0_startBehind 6 = .ok (.iload_n 1, 1) := by decide +kernel
theorem dX0_startBehind_7 : decode cX0_startBehind 7 = .ok (.iconst 1, 1) := by decide +kernel
theorem dX0_startBehind_8 : decode cX0_startBehind 8 = .ok (.iadd, 1) := by decide +kernel
theorem dX0_startBehind_9 : decode cX0_startBehind 9 = .ok (.istore_n 2, 1) := by decide +kernel
theorem dX0_startBehind_10 : decode cX0_startBehind 10 = .ok (.iload_n 2, 1) := by decide +kernel
theorem dX0_startBehind_11 : decode cX0_startBehind 11 = .ok (.aload_n 0, 1) := by decide +kernel
theorem dX0_startBehind_12 : decode cX0_startBehind 12 = .ok (.getfield 34, 3) := by decide +kernel
theorem dX0_startBehind_15 : decode cX0_startBehind 15 = .ok (.if_icmp .ge 18, 3) := by decide +kernel
theorem dX0_startBehind_18 : decode cX0_startBehind 18 = .ok (.aload_n 0, 1) := by decide +kernel
theorem dX0_startBehind_19 : decode cX0_startBehind 19 = .ok (.getfield 9, 3) := by decide +kernel
theorem dX0_startBehind_22 : decode cX0_startBehind 22 = .ok (.iload_n 2, 1) := by decide +kernel
theorem dX0_startBehind_23 : decode cX0_startBehind 23 = .ok (.iaload, 1) := by decide +kernel
theorem dX0_startBehind_24 : decode cX0_startBehind 24 = .ok (.ifCond .eq 9, 3) := by decide +kernel
theorem dX0_startBehind_27 : decode cX0_startBehind 27 = .ok (.iinc 2 1, 3) := by decide +kernel
theorem dX0_startBehind_30 : decode cX0_startBehind 30 = .ok (.goto (-20), 3) := by decide +kernel
theorem dX0_startBehind_33 : decode cX0_startBehind 33 = .ok (.iload_n 2, 1) := by decide +kernel
theorem dX0_startBehind_34 : decode cX0_startBehind 34 = .ok (.ireturn, 1) := by decide +kernel
set_option maxRecDepth 20000 in
theorem ggX0_widthEndingAt_X0_isKind : GoodIn wsX0_widthEndingAt wsX0_isKind := goodIn_r _ [6, 7, 8, 9, 10, 11, 12, 13, 14, 15, 16] (by decide +kernel) (by decide +kernel)
set_option maxRecDepth 20000 in
theorem gX0_widthEndingAt_X0_isKind : GoodIn wsX0_widthEndingAt (wsV RX0 42 RX0 yX0_isKind wsX0_isKind) := goodIn_app (goodIn_of _ (by decide +kernel)) ggX0_widthEndingAt_X0_isKind
theorem dX0_widthEndingAt_0 : decode cX0_widthEndingAt 0 = .ok (.aload_n 0, 1) := by decide +kernel
theorem dX0_widthEndingAt_1 : decode cX0_widthEndingAt 1 = .ok (.iload_n 1, 1) := by decide +kernel
theorem dX0_widthEndingAt_2 : decode cX0_widthEndingAt 2 = .ok (.iconst 2, 1) := by decide +kernel
theorem dX0_widthEndingAt_3 : decode cX0_widthEndingAt 3 = .ok (.invokevirtual 42, 3) := by decide +kernel
theorem dX0_widthEndingAt_6 : decode cX0_widthEndingAt 6 = .ok (.ifCond .eq 12, 3) := by decide +kernel
theorem dX0_widthEndingAt_9 : decode cX0_widthEndingAt 9 = .ok (.aload_n 0, 1) := by decide +kernel
theorem dX0_widthEndingAt_10 : decode cX0_widthEndingAt 10 = .ok (.getfield 18, 3) := by decide +kernel
theorem dX0_widthEndingAt_13 : decode cX0_widthEndingAt 13 = .ok (.iload_n 1, 1) := by decide +kernel
theorem dX0_widthEndingAt_14 : decode cX0_widthEndingAt 14 = .ok (.iaload, 1) := by decide +kernel
theorem dX0_widthEndingAt_15 : decode cX0_widthEndingAt 15 = .ok (.goto 4, 3) := by decide +kernel
theorem dX0_widthEndingAt_18 : decode cX0_widthEndingAt 18 = .ok (.iconst 0, 1) := by decide +kernel
theorem dX0_widthEndingAt_19 : decode cX0_widthEndingAt 19 = .ok (.ireturn, 1) := by decide +kernel
set_option maxRecDepth 20000 in
theorem ggX0_penaltyDemerits_X0_isKind : GoodIn wsX0_penaltyDemerits wsX0_isKind := goodIn_r _ [6, 7, 8, 9, 10, 11, 12, 13, 14, 15, 16] (by decide +kernel) (by decide +kernel)
set_option maxRecDepth 20000 in
theorem gX0_penaltyDemerits_X0_isKind : GoodIn wsX0_penaltyDemerits (wsV RX0 42 RX0 yX0_isKind wsX0_isKind) := goodIn_app (goodIn_of _ (by decide +kernel)) ggX0_penaltyDemerits_X0_isKind
theorem dX0_penaltyDemerits_0 : decode cX0_penaltyDemerits 0 = .ok (.aload_n 0, 1) := by decide +kernel
theorem dX0_penaltyDemerits_1 : decode cX0_penaltyDemerits 1 = .ok (.iload_n 1, 1) := by decide +kernel
theorem dX0_penaltyDemerits_2 : decode cX0_penaltyDemerits 2 = .ok (.iconst 2, 1) := by decide +kernel
theorem dX0_penaltyDemerits_3 : decode cX0_penaltyDemerits 3 = .ok (.invokevirtual 42, 3) := by decide +kernel
theorem dX0_penaltyDemerits_6 : decode cX0_penaltyDemerits 6 = .ok (.ifCond .eq 15, 3) := by decide +kernel
theorem dX0_penaltyDemerits_9 : decode cX0_penaltyDemerits 9 = .ok (.aload_n 0, 1) := by decide +kernel
theorem dX0_penaltyDemerits_10 : decode cX0_penaltyDemerits 10 = .ok (.getfield 15, 3) := by decide +kernel
theorem dX0_penaltyDemerits_13 : decode cX0_penaltyDemerits 13 = .ok (.iload_n 1, 1) := by decide +kernel
theorem dX0_penaltyDemerits_14 : decode cX0_penaltyDemerits 14 = .ok (.iaload, 1) := by decide +kernel
theorem dX0_penaltyDemerits_15 : decode cX0_penaltyDemerits 15 = .ok (.sipush (-10000), 3) := by decide +kernel
theorem dX0_penaltyDemerits_18 : decode cX0_penaltyDemerits 18 = .ok (.if_icmp .ne 5, 3) := by decide +kernel
theorem dX0_penaltyDemerits_21 : decode cX0_penaltyDemerits 21 = .ok (.lconst 0, 1) := by decide +kernel
theorem dX0_penaltyDemerits_22 : decode cX0_penaltyDemerits 22 = .ok (.lreturn, 1) := by decide +kernel
theorem dX0_penaltyDemerits_23 : decode cX0_penaltyDemerits 23 = .ok (.aload_n 0, 1) := by decide +kernel
theorem dX0_penaltyDemerits_24 : decode cX0_penaltyDemerits 24 = .ok (.getfield 15, 3) := by decide +kernel
theorem dX0_penaltyDemerits_27 : decode cX0_penaltyDemerits 27 = .ok (.iload_n 1, 1) := by decide +kernel
theorem dX0_penaltyDemerits_28 : decode cX0_penaltyDemerits 28 = .ok (.iaload, 1) := by decide +kernel
theorem dX0_penaltyDemerits_29 : decode cX0_penaltyDemerits 29 = .ok (.i2l, 1) := by decide +kernel
theorem dX0_penaltyDemerits_30 : decode cX0_penaltyDemerits 30 = .ok (.lstore_n 2, 1) := by decide +kernel
theorem dX0_penaltyDemerits_31 : decode cX0_penaltyDemerits 31 = .ok (.lload_n 2, 1) := by decide +kernel
theorem dX0_penaltyDemerits_32 : decode cX0_penaltyDemerits 32 = .ok (.lconst 0, 1) := by decide +kernel
theorem dX0_penaltyDemerits_33 : decode cX0_penaltyDemerits 33 = .ok (.lcmp, 1) := by decide +kernel
theorem dX0_penaltyDemerits_34 : decode cX0_penaltyDemerits 34 = .ok (.ifCond .ge 10, 3) := by decide +kernel
theorem dX0_penaltyDemerits_37 : decode cX0_penaltyDemerits 37 = .ok (.lload_n 2, 1) := by decide +kernel
theorem dX0_penaltyDemerits_38 : decode cX0_penaltyDemerits 38 = .ok (.lneg, 1) := by decide +kernel
theorem dX0_penaltyDemerits_39 : decode cX0_penaltyDemerits 39 = .ok (.lload_n 2, 1) := by decide +kernel
theorem dX0_penaltyDemerits_40 : decode cX0_penaltyDemerits 40 = .ok (.lmul, 1) := by decide +kernel
theorem dX0_penaltyDemerits_41 : decode cX0_penaltyDemerits 41 = .ok (.goto 6, 3) := by decide +kernel
theorem dX0_penaltyDemerits_44 : decode cX0_penaltyDemerits 44 = .ok (.lload_n 2, 1) := by decide +kernel
theorem dX0_penaltyDemerits_45 : decode cX0_penaltyDemerits 45 = .ok (.lload_n 2, 1) := by decide +kernel
theorem dX0_penaltyDemerits_46 : decode cX0_penaltyDemerits 46 = .ok (.lmul, 1) := by decide +kernel
theorem dX0_penaltyDemerits_47 : decode cX0_penaltyDemerits 47 = .ok (.lreturn, 1) := by decide +kernel
theorem dX1_init_0 : decode cX1_init 0 = .ok (.aload_n 0, 1) := by decide +kernel
theorem dX1_init_1 : decode cX1_init 1 = .ok (.invokespecial 3, 3) := by decide +kernel
theorem dX1_init_4 : decode cX1_init 4 = .ok (.return_, 1) := by decide +kernel
set_option maxRecDepth 20000 in
theorem ggX1_measure_X0_widthEndingAt : GoodIn wsX1_measure wsX0_widthEndingAt := goodIn_r _ [9, 10, 11, 12, 13, 7, 14, 15, 16, 44, 45, 46, 47, 48, 49, 50, 51] (by decide +kernel) (by decide +kernel)
set_option maxRecDepth 20000 in
theorem gX1_measure_X0_widthEndingAt_n21 : GoodIn wsX1_measure (wsX0_widthEndingAt) := ggX1_measure_X0_widthEndingAt
set_option maxRecDepth 20000 in
theorem ggX1_measure_X1_squeeze : GoodIn wsX1_measure wsX1_squeeze := goodIn_r _ [21, 5, 22, 23, 24, 20, 25, 26, 27, 28, 29, 3, 30, 31, 32, 33, 34, 35, 36, 52, 53, 54, 55] (by decide +kernel) (by decide +kernel)
set_option maxRecDepth 20000 in
theorem gX1_measure_X1_squeeze : GoodIn wsX1_measure (wsV RX1 34 RX1 yX1_squeeze wsX1_squeeze) := goodIn_app (goodIn_of _ (by decide +kernel)) ggX1_measure_X1_squeeze
set_option maxRecDepth 20000 in
theorem ggX1_measure_X0_isEnd : GoodIn wsX1_measure wsX0_isEnd := goodIn_r _ [39, 15, 44, 45, 46, 47, 48, 49, 50, 51] (by decide +kernel) (by decide +kernel)
set_option maxRecDepth 20000 in
theorem gX1_measure_X0_isEnd_n38 : GoodIn wsX1_measure (wsX0_isEnd) := ggX1_measure_X0_isEnd
set_option maxRecDepth 20000 in
theorem ggX1_measure_X1_settle : GoodIn wsX1_measure wsX1_settle := goodIn_r _ [34, 22, 35, 36, 52, 53, 54, 55] (by decide +kernel) (by decide +kernel)
set_option maxRecDepth 20000 in
theorem gX1_measure_X1_settle : GoodIn wsX1_measure (wsV RX1 42 RX1 yX1_settle wsX1_settle) := goodIn_app (goodIn_of _ (by decide +kernel)) ggX1_measure_X1_settle
set_option maxRecDepth 20000 in
theorem ggX1_measure_X1_widen : GoodIn wsX1_measure wsX1_widen := goodIn_r _ [43, 5, 23, 24, 20, 25, 26, 27, 28, 29, 3, 30, 31, 32, 33, 34, 22, 35, 36, 52, 53, 54, 55] (by decide +kernel) (by decide +kernel)
set_option maxRecDepth 20000 in
theorem gX1_measure_X1_widen : GoodIn wsX1_measure (wsV RX1 49 RX1 yX1_widen wsX1_widen) := goodIn_app (goodIn_of _ (by decide +kernel)) ggX1_measure_X1_widen
theorem dX1_measure_0 : decode cX1_measure 0 = .ok (.iload_n 2, 1) := by decide +kernel
theorem dX1_measure_1 : decode cX1_measure 1 = .ok (.iload_n 3, 1) := by decide +kernel
theorem dX1_measure_2 : decode cX1_measure 2 = .ok (.invokestatic 9, 3) := by decide +kernel
theorem dX1_measure_5 : decode cX1_measure 5 = .ok (.istore 6, 2) := by decide +kernel
theorem dX1_measure_7 : decode cX1_measure 7 = .ok (.aload_n 1, 1) := by decide +kernel
theorem dX1_measure_8 : decode cX1_measure 8 = .ok (.getfield 15, 3) := by decide +kernel
theorem dX1_measure_11 : decode cX1_measure 11 = .ok (.iload_n 3, 1) := by decide +kernel
theorem dX1_measure_12 : decode cX1_measure 12 = .ok (.iaload, 1) := by decide +kernel
theorem dX1_measure_13 : decode cX1_measure 13 = .ok (.aload_n 1, 1) := by decide +kernel
theorem dX1_measure_14 : decode cX1_measure 14 = .ok (.getfield 15, 3) := by decide +kernel
theorem dX1_measure_17 : decode cX1_measure 17 = .ok (.iload 6, 2) := by decide +kernel
theorem dX1_measure_19 : decode cX1_measure 19 = .ok (.iaload, 1) := by decide +kernel
theorem dX1_measure_20 : decode cX1_measure 20 = .ok (.isub, 1) := by decide +kernel
theorem dX1_measure_21 : decode cX1_measure 21 = .ok (.istore 7, 2) := by decide +kernel
theorem dX1_measure_23 : decode cX1_measure 23 = .ok (.aload_n 0, 1) := by decide +kernel
theorem dX1_measure_24 : decode cX1_measure 24 = .ok (.iload 4, 2) := by decide +kernel
theorem dX1_measure_26 : decode cX1_measure 26 = .ok (.iload 7, 2) := by decide +kernel
theorem dX1_measure_28 : decode cX1_measure 28 = .ok (.isub, 1) := by decide +kernel
theorem dX1_measure_29 : decode cX1_measure 29 = .ok (.aload_n 1, 1) := by decide +kernel
theorem dX1_measure_30 : decode cX1_measure 30 = .ok (.iload_n 3, 1) := by decide +kernel
theorem dX1_measure_31 : decode cX1_measure 31 = .ok (.invokevirtual 21, 3) := by decide +kernel
theorem dX1_measure_34 : decode cX1_measure 34 = .ok (.isub, 1) := by decide +kernel
theorem dX1_measure_35 : decode cX1_measure 35 = .ok (.putfield 25, 3) := by decide +kernel
theorem dX1_measure_38 : decode cX1_measure 38 = .ok (.aload_n 0, 1) := by decide +kernel
theorem dX1_measure_39 : decode cX1_measure 39 = .ok (.getfield 25, 3) := by decide +kernel
theorem dX1_measure_42 : decode cX1_measure 42 = .ok (.ifCond .ge 24, 3) := by decide +kernel
theorem dX1_measure_45 : decode cX1_measure 45 = .ok (.aload_n 0, 1) := by decide +kernel
theorem dX1_measure_46 : decode cX1_measure 46 = .ok (.aload_n 1, 1) := by decide +kernel
theorem dX1_measure_47 : decode cX1_measure 47 = .ok (.getfield 31, 3) := by decide +kernel
theorem dX1_measure_50 : decode cX1_measure 50 = .ok (.iload_n 3, 1) := by decide +kernel
theorem dX1_measure_51 : decode cX1_measure 51 = .ok (.iaload, 1) := by decide +kernel
theorem dX1_measure_52 : decode cX1_measure 52 = .ok (.aload_n 1, 1) := by decide +kernel
theorem dX1_measure_53 : decode cX1_measure 53 = .ok (.getfield 31, 3) := by decide +kernel
theorem dX1_measure_56 : decode cX1_measure 56 = .ok (.iload 6, 2) := by decide +kernel
theorem dX1_measure_58 : decode cX1_measure 58 = .ok (.iaload, 1) := by decide +kernel
theorem dX1_measure_59 : decode cX1_measure 59 = .ok (.isub, 1) := by decide +kernel
theorem dX1_measure_60 : decode cX1_measure 60 = .ok (.invokevirtual 34, 3) := by decide +kernel
theorem dX1_measure_63 : decode cX1_measure 63 = .ok (.goto 48, 3) := by decide +kernel
theorem dX1_measure_66 : decode cX1_measure 66 = .ok (.aload_n 0, 1) := by decide +kernel
theorem dX1_measure_67 : decode cX1_measure 67 = .ok (.getfield 25, 3) := by decide +kernel
theorem dX1_measure_70 : decode cX1_measure 70 = .ok (.ifCond .eq 11, 3) := by decide +kernel
theorem dX1_measure_73 : decode cX1_measure 73 = .ok (.aload_n 1, 1) := by decide +kernel
theorem dX1_measure_74 : decode cX1_measure 74 = .ok (.iload_n 3, 1) := by decide +kernel
theorem dX1_measure_75 : decode cX1_measure 75 = .ok (.invokevirtual 38, 3) := by decide +kernel
theorem dX1_measure_78 : decode cX1_measure 78 = .ok (.ifCond .eq 12, 3) := by decide +kernel
theorem dX1_measure_81 : decode cX1_measure 81 = .ok (.aload_n 0, 1) := by decide +kernel
theorem dX1_measure_82 : decode cX1_measure 82 = .ok (.iconst 0, 1) := by decide +kernel
theorem dX1_measure_83 : decode cX1_measure 83 = .ok (.iconst 1, 1) := by decide +kernel
theorem dX1_measure_84 : decode cX1_measure 84 = .ok (.invokevirtual 42, 3) := by decide +kernel
theorem dX1_measure_87 : decode cX1_measure 87 = .ok (.goto 24, 3) := by decide +kernel
theorem dX1_measure_90 : decode cX1_measure 90 = .ok (.aload_n 0, 1) := by decide +kernel
theorem dX1_measure_91 : decode cX1_measure 91 = .ok (.aload_n 1, 1) := by decide +kernel
theorem dX1_measure_92 : decode cX1_measure 92 = .ok (.getfield 46, 3) := by decide +kernel
theorem dX1_measure_95 : decode cX1_measure 95 = .ok (.iload_n 3, 1) := by decide +kernel
theorem dX1_measure_96 : decode cX1_measure 96 = .ok (.iaload, 1) := by decide +kernel
theorem dX1_measure_97 : decode cX1_measure 97 = .ok (.aload_n 1, 1) := by decide +kernel
theorem dX1_measure_98 : decode cX1_measure 98 = .ok (.getfield 46, 3) := by decide +kernel
theorem dX1_measure_101 : decode cX1_measure 101 = .ok (.iload 6, 2) := by decide +kernel
theorem dX1_measure_103 : decode cX1_measure 103 = .ok (.iaload, 1) := by decide +kernel
theorem dX1_measure_104 : decode cX1_measure 104 = .ok (.isub, 1) := by decide +kernel
theorem dX1_measure_105 : decode cX1_measure 105 = .ok (.iload 5, 2) := by decide +kernel
theorem dX1_measure_107 : decode cX1_measure 107 = .ok (.iadd, 1) := by decide +kernel
theorem dX1_measure_108 : decode cX1_measure 108 = .ok (.invokevirtual 49, 3) := by decide +kernel
theorem dX1_measure_111 : decode cX1_measure 111 = .ok (.return_, 1) := by decide +kernel
theorem dX1_settle_0 : decode cX1_settle 0 = .ok (.aload_n 0, 1) := by decide +kernel
theorem dX1_settle_1 : decode cX1_settle 1 = .ok (.iconst 1, 1) := by decide +kernel
theorem dX1_settle_2 : decode cX1_settle 2 = .ok (.putfield 52, 3) := by decide +kernel
theorem dX1_settle_5 : decode cX1_settle 5 = .ok (.aload_n 0, 1) := by decide +kernel
theorem dX1_settle_6 : decode cX1_settle 6 = .ok (.iload_n 1, 1) := by decide +kernel
theorem dX1_settle_7 : decode cX1_settle 7 = .ok (.putfield 56, 3) := by decide +kernel
theorem dX1_settle_10 : decode cX1_settle 10 = .ok (.aload_n 0, 1) := by decide +kernel
theorem dX1_settle_11 : decode cX1_settle 11 = .ok (.iload_n 2, 1) := by decide +kernel
theorem dX1_settle_12 : decode cX1_settle 12 = .ok (.putfield 59, 3) := by decide +kernel
theorem dX1_settle_15 : decode cX1_settle 15 = .ok (.return_, 1) := by decide +kernel
set_option maxRecDepth 20000 in
theorem ggX1_squeeze_X1_badnessOf : GoodIn wsX1_squeeze wsX1_badnessOf := goodIn_r _ [6, 7, 8, 9, 10, 11, 12] (by decide +kernel) (by decide +kernel)
set_option maxRecDepth 20000 in
theorem gX1_squeeze_X1_badnessOf : GoodIn wsX1_squeeze (va_wsS RX1 62 yX1_badnessOf wsX1_badnessOf) := goodIn_app (goodIn_of _ (by decide +kernel)) ggX1_squeeze_X1_badnessOf
set_option maxRecDepth 20000 in
theorem ggX1_squeeze_X1_settle : GoodIn wsX1_squeeze wsX1_settle := goodIn_r _ [16, 2, 17, 18, 19, 20, 21, 22] (by decide +kernel) (by decide +kernel)
set_option maxRecDepth 20000 in
theorem gX1_squeeze_X1_settle : GoodIn wsX1_squeeze (wsV RX1 42 RX1 yX1_settle wsX1_settle) := goodIn_app (goodIn_of _ (by decide +kernel)) ggX1_squeeze_X1_settle
theorem dX1_squeeze_0 : decode cX1_squeeze 0 = .ok (.aload_n 0, 1) := by decide +kernel
theorem dX1_squeeze_1 : decode cX1_squeeze 1 = .ok (.getfield 25, 3) := by decide +kernel
theorem dX1_squeeze_4 : decode cX1_squeeze 4 = .ok (.ineg, 1) := by decide +kernel
theorem dX1_squeeze_5 : decode cX1_squeeze 5 = .ok (.istore_n 2, 1) := by decide +kernel
theorem dX1_squeeze_6 : decode cX1_squeeze 6 = .ok (.iload_n 2, 1) := by decide +kernel
theorem dX1_squeeze_7 : decode cX1_squeeze 7 = .ok (.iload_n 1, 1) := by decide +kernel
theorem dX1_squeeze_8 : decode cX1_squeeze 8 = .ok (.if_icmp .le 9, 3) := by decide +kernel
theorem dX1_squeeze_11 : decode cX1_squeeze 11 = .ok (.aload_n 0, 1) := by decide +kernel
theorem dX1_squeeze_12 : decode cX1_squeeze 12 = .ok (.iconst 0, 1) := by decide +kernel
theorem dX1_squeeze_13 : decode cX1_squeeze 13 = .ok (.putfield 52, 3) := by decide +kernel
theorem dX1_squeeze_16 : decode cX1_squeeze 16 = .ok (.return_, 1) := by decide +kernel
theorem dX1_squeeze_17 : decode cX1_squeeze 17 = .ok (.aload_n 0, 1) := by decide +kernel
theorem dX1_squeeze_18 : decode cX1_squeeze 18 = .ok (.iload_n 2, 1) := by decide +kernel
theorem dX1_squeeze_19 : decode cX1_squeeze 19 = .ok (.iload_n 1, 1) := by decide +kernel
theorem dX1_squeeze_20 : decode cX1_squeeze 20 = .ok (.invokestatic 62, 3) := by decide +kernel
theorem dX1_squeeze_23 : decode cX1_squeeze 23 = .ok (.iconst 2, 1) := by decide +kernel
theorem dX1_squeeze_24 : decode cX1_squeeze 24 = .ok (.iload_n 2, 1) := by decide +kernel
theorem dX1_squeeze_25 : decode cX1_squeeze 25 = .ok (.imul, 1) := by decide +kernel
theorem dX1_squeeze_26 : decode cX1_squeeze 26 = .ok (.iload_n 1, 1) := by decide +kernel
theorem dX1_squeeze_27 : decode cX1_squeeze 27 = .ok (.if_icmp .le 7, 3) := by decide +kernel
theorem dX1_squeeze_30 : decode cX1_squeeze 30 = .ok (.iconst 0, 1) := by decide +kernel
theorem dX1_squeeze_31 : decode cX1_squeeze 31 = .ok (.goto 4, 3) := by decide +kernel
theorem dX1_squeeze_34 : decode cX1_squeeze 34 = .ok (.iconst 1, 1) := by decide +kernel
theorem dX1_squeeze_35 : decode cX1_squeeze 35 = .ok (.invokevirtual 42, 3) := by decide +kernel
theorem dX1_squeeze_38 : decode cX1_squeeze 38 = .ok (.return_, 1) := by decide +kernel
set_option maxRecDepth 20000 in
theorem ggX1_widen_X1_badnessOf : GoodIn wsX1_widen wsX1_badnessOf := goodIn_r _ [5, 6, 7, 8, 9, 10, 11] (by decide +kernel) (by decide +kernel)
set_option maxRecDepth 20000 in
theorem gX1_widen_X1_badnessOf : GoodIn wsX1_widen (va_wsS RX1 62 yX1_badnessOf wsX1_badnessOf) := goodIn_app (goodIn_of _ (by decide +kernel)) ggX1_widen_X1_badnessOf
set_option maxRecDepth 20000 in
theorem ggX1_widen_X1_settle : GoodIn wsX1_widen wsX1_settle := goodIn_r _ [15, 16, 17, 18, 19, 20, 21, 22] (by decide +kernel) (by decide +kernel)
set_option maxRecDepth 20000 in
theorem gX1_widen_X1_settle : GoodIn wsX1_widen (wsV RX1 42 RX1 yX1_settle wsX1_settle) := goodIn_app (goodIn_of _ (by decide +kernel)) ggX1_widen_X1_settle
theorem dX1_widen_0 : decode cX1_widen 0 = .ok (.iconst 1, 1) := by decide +kernel
theorem dX1_widen_1 : decode cX1_widen 1 = .ok (.istore_n 2, 1) := by decide +kernel
theorem dX1_widen_2 : decode cX1_widen 2 = .ok (.aload_n 0, 1) := by decide +kernel
theorem dX1_widen_3 : decode cX1_widen 3 = .ok (.getfield 25, 3) := by decide +kernel
theorem dX1_widen_6 : decode cX1_widen 6 = .ok (.iload_n 1, 1) := by decide +kernel
theorem dX1_widen_7 : decode cX1_widen 7 = .ok (.if_icmp .le 8, 3) := by decide +kernel
theorem dX1_widen_10 : decode cX1_widen 10 = .ok (.iconst 3, 1) := by decide +kernel
theorem dX1_widen_11 : decode cX1_widen 11 = .ok (.istore_n 2, 1) := by decide +kernel
theorem dX1_widen_12 : decode cX1_widen 12 = .ok (.goto 15, 3) := by decide +kernel
theorem dX1_widen_15 : decode cX1_widen 15 = .ok (.iconst 2, 1) := by decide +kernel
theorem dX1_widen_16 : decode cX1_widen 16 = .ok (.aload_n 0, 1) := by decide +kernel
theorem dX1_widen_17 : decode cX1_widen 17 = .ok (.getfield 25, 3) := by decide +kernel
theorem dX1_widen_20 : decode cX1_widen 20 = .ok (.imul, 1) := by decide +kernel
theorem dX1_widen_21 : decode cX1_widen 21 = .ok (.iload_n 1, 1) := by decide +kernel
theorem dX1_widen_22 : decode cX1_widen 22 = .ok (.if_icmp .le 5, 3) := by decide +kernel
theorem dX1_widen_25 : decode cX1_widen 25 = .ok (.iconst 2, 1) := by decide +kernel
theorem dX1_widen_26 : decode cX1_widen 26 = .ok (.istore_n 2, 1) := by decide +kernel
theorem dX1_widen_27 : decode cX1_widen 27 = .ok (.aload_n 0, 1) := by decide +kernel
theorem dX1_widen_28 : decode cX1_widen 28 = .ok (.aload_n 0, 1) := by decide +kernel
theorem dX1_widen_29 : decode cX1_widen 29 = .ok (.getfield 25, 3) := by decide +kernel
theorem dX1_widen_32 : decode cX1_widen 32 = .ok (.iload_n 1, 1) := by decide +kernel
theorem dX1_widen_33 : decode cX1_widen 33 = .ok (.invokestatic 62, 3) := by decide +kernel
theorem dX1_widen_36 : decode cX1_widen 36 = .ok (.iload_n 2, 1) := by decide +kernel
theorem dX1_widen_37 : decode cX1_widen 37 = .ok (.invokevirtual 42, 3) := by decide +kernel
theorem dX1_widen_40 : decode cX1_widen 40 = .ok (.return_, 1) := by decide +kernel
theorem dX1_badnessOf_0 : decode cX1_badnessOf 0 = .ok (.iload_n 1, 1) := by decide +kernel
theorem dX1_badnessOf_1 : decode cX1_badnessOf 1 = .ok (.ifCond .gt 7, 3) := by decide +kernel
theorem dX1_badnessOf_4 : decode cX1_badnessOf 4 = .ok (.sipush 10000, 3) := by decide +kernel
theorem dX1_badnessOf_7 : decode cX1_badnessOf 7 = .ok (.ireturn, 1) := by decide +kernel
theorem dX1_badnessOf_8 : decode cX1_badnessOf 8 = .ok (.iload_n 0, 1) := by decide +kernel
theorem dX1_badnessOf_9 : decode cX1_badnessOf 9 = .ok (.i2l, 1) := by decide +kernel
theorem dX1_badnessOf_10 : decode cX1_badnessOf 10 = .ok (.iload_n 0, 1) := by decide +kernel
theorem dX1_badnessOf_11 : decode cX1_badnessOf 11 = .ok (.i2l, 1) := by decide +kernel
theorem dX1_badnessOf_12 : decode cX1_badnessOf 12 = .ok (.lmul, 1) := by decide +kernel
theorem dX1_badnessOf_13 : decode cX1_badnessOf 13 = .ok (.iload_n 0, 1) := by decide +kernel
theorem dX1_badnessOf_14 : decode cX1_badnessOf 14 = .ok (.i2l, 1) := by decide +kernel
theorem dX1_badnessOf_15 : decode cX1_badnessOf 15 = .ok (.lmul, 1) := by decide +kernel
theorem dX1_badnessOf_16 : decode cX1_badnessOf 16 = .ok (.lstore_n 2, 1) := by decide +kernel
theorem dX1_badnessOf_17 : decode cX1_badnessOf 17 = .ok (.iload_n 1, 1) := by decide +kernel
theorem dX1_badnessOf_18 : decode cX1_badnessOf 18 = .ok (.i2l, 1) := by decide +kernel
theorem dX1_badnessOf_19 : decode cX1_badnessOf 19 = .ok (.iload_n 1, 1) := by decide +kernel
theorem dX1_badnessOf_20 : decode cX1_badnessOf 20 = .ok (.i2l, 1) := by decide +kernel
theorem dX1_badnessOf_21 : decode cX1_badnessOf 21 = .ok (.lmul, 1) := by decide +kernel
theorem dX1_badnessOf_22 : decode cX1_badnessOf 22 = .ok (.iload_n 1, 1) := by decide +kernel
theorem dX1_badnessOf_23 : decode cX1_badnessOf 23 = .ok (.i2l, 1) := by decide +kernel
theorem dX1_badnessOf_24 : decode cX1_badnessOf 24 = .ok (.lmul, 1) := by decide +kernel
theorem dX1_badnessOf_25 : decode cX1_badnessOf 25 = .ok (.lstore 4, 2) := by decide +kernel
theorem dX1_badnessOf_27 : decode cX1_badnessOf 27 = .ok (.ldc2_w 65, 3) := by decide +kernel
theorem dX1_badnessOf_30 : decode cX1_badnessOf 30 = .ok (.lload_n 2, 1) := by decide +kernel
theorem dX1_badnessOf_31 : decode cX1_badnessOf 31 = .ok (.lmul, 1) := by decide +kernel
theorem dX1_badnessOf_32 : decode cX1_badnessOf 32 = .ok (.lload 4, 2) := by decide +kernel
theorem dX1_badnessOf_34 : decode cX1_badnessOf 34 = .ok (.ldiv, 1) := by decide +kernel
theorem dX1_badnessOf_35 : decode cX1_badnessOf 35 = .ok (.ldc2_w 67, 3) := by decide +kernel
theorem dX1_badnessOf_38 : decode cX1_badnessOf 38 = .ok (.invokestatic 69, 3) := by decide +kernel
theorem dX1_badnessOf_41 : decode cX1_badnessOf 41 = .ok (.l2i, 1) := by decide +kernel
theorem dX1_badnessOf_42 : decode cX1_badnessOf 42 = .ok (.ireturn, 1) := by decide +kernel
theorem dX1_isToleratedBy_0 : decode cX1_isToleratedBy 0 = .ok (.aload_n 0, 1) := by decide +kernel
theorem dX1_isToleratedBy_1 : decode cX1_isToleratedBy 1 = .ok (.getfield 52, 3) := by decide +kernel
theorem dX1_isToleratedBy_4 : decode cX1_isToleratedBy 4 = .ok (.ifCond .eq 15, 3) := by decide +kernel
theorem dX1_isToleratedBy_7 : decode cX1_isToleratedBy 7 = .ok (.aload_n 0, 1) := by decide +kernel
theorem dX1_isToleratedBy_8 : decode cX1_isToleratedBy 8 = .ok (.getfield 56, 3) := by decide +kernel
theorem dX1_isToleratedBy_11 : decode cX1_isToleratedBy 11 = .ok (.iload_n 1, 1) := by decide +kernel
theorem dX1_isToleratedBy_12 : decode cX1_isToleratedBy 12 = .ok (.if_icmp .gt 7, 3) := by decide +kernel
theorem dX1_isToleratedBy_15 : decode cX1_isToleratedBy 15 = .ok (.iconst 1, 1) := by decide +kernel
theorem dX1_isToleratedBy_16 : decode cX1_isToleratedBy 16 = .ok (.goto 4, 3) := by decide +kernel
theorem dX1_isToleratedBy_19 : decode cX1_isToleratedBy 19 = .ok (.iconst 0, 1) := by decide +kernel
theorem dX1_isToleratedBy_20 : decode cX1_isToleratedBy 20 = .ok (.ireturn, 1) := by decide +kernel
theorem dX1_isUnlike_0 : decode cX1_isUnlike 0 = .ok (.iload_n 0, 1) := by decide +kernel
theorem dX1_isUnlike_1 : decode cX1_isUnlike 1 = .ok (.iload_n 1, 1) := by decide +kernel
theorem dX1_isUnlike_2 : decode cX1_isUnlike 2 = .ok (.isub, 1) := by decide +kernel
theorem dX1_isUnlike_3 : decode cX1_isUnlike 3 = .ok (.invokestatic 72, 3) := by decide +kernel
theorem dX1_isUnlike_6 : decode cX1_isUnlike 6 = .ok (.iconst 1, 1) := by decide +kernel
theorem dX1_isUnlike_7 : decode cX1_isUnlike 7 = .ok (.if_icmp .le 7, 3) := by decide +kernel
theorem dX1_isUnlike_10 : decode cX1_isUnlike 10 = .ok (.iconst 1, 1) := by decide +kernel
theorem dX1_isUnlike_11 : decode cX1_isUnlike 11 = .ok (.goto 4, 3) := by decide +kernel
theorem dX1_isUnlike_14 : decode cX1_isUnlike 14 = .ok (.iconst 0, 1) := by decide +kernel
theorem dX1_isUnlike_15 : decode cX1_isUnlike 15 = .ok (.ireturn, 1) := by decide +kernel
set_option maxRecDepth 20000 in
theorem ggX2_init_J7_fill_53178 : GoodIn wsX2_init wsJ7_fill_53178 := goodIn_r _ [10] (by decide +kernel) (by decide +kernel)
set_option maxRecDepth 20000 in
theorem gX2_init_J7_fill_53178 : GoodIn wsX2_init (va_wsS RX2 18 yJ7_fill_53178 wsJ7_fill_53178) := goodIn_app (goodIn_of _ (by decide +kernel)) ggX2_init_J7_fill_53178
theorem dX2_init_0 : decode cX2_init 0 = .ok (.aload_n 0, 1) := by decide +kernel
theorem dX2_init_1 : decode cX2_init 1 = .ok (.invokespecial 3, 3) := by decide +kernel
theorem dX2_init_4 : decode cX2_init 4 = .ok (.aload_n 0, 1) := by decide +kernel
theorem dX2_init_5 : decode cX2_init 5 = .ok (.bipush 50, 2) := by decide +kernel
theorem dX2_init_7 : decode cX2_init 7 = .ok (.newarray .int, 2) := by decide +kernel
theorem dX2_init_9 : decode cX2_init 9 = .ok (.putfield 9, 3) := by decide +kernel
theorem dX2_init_12 : decode cX2_init 12 = .ok (.aload_n 0, 1) := by decide +kernel
theorem dX2_init_13 : decode cX2_init 13 = .ok (.iconst 3, 1) := by decide +kernel
theorem dX2_init_14 : decode cX2_init 14 = .ok (.newarray .int, 2) := by decide +kernel
theorem dX2_init_16 : decode cX2_init 16 = .ok (.putfield 15, 3) := by decide +kernel
theorem dX2_init_19 : decode cX2_init 19 = .ok (.aload_n 0, 1) := by decide +kernel
theorem dX2_init_20 : decode cX2_init 20 = .ok (.getfield 9, 3) := by decide +kernel
theorem dX2_init_23 : decode cX2_init 23 = .ok (.iload_n 1, 1) := by decide +kernel
theorem dX2_init_24 : decode cX2_init 24 = .ok (.invokestatic 18, 3) := by decide +kernel
theorem dX2_init_27 : decode cX2_init 27 = .ok (.aload_n 0, 1) := by decide +kernel
theorem dX2_init_28 : decode cX2_init 28 = .ok (.getfield 15, 3) := by decide +kernel
theorem dX2_init_31 : decode cX2_init 31 = .ok (.iconst 0, 1) := by decide +kernel
theorem dX2_init_32 : decode cX2_init 32 = .ok (.bipush 100, 2) := by decide +kernel
theorem dX2_init_34 : decode cX2_init 34 = .ok (.iastore, 1) := by decide +kernel
theorem dX2_init_35 : decode cX2_init 35 = .ok (.aload_n 0, 1) := by decide +kernel
theorem dX2_init_36 : decode cX2_init 36 = .ok (.getfield 15, 3) := by decide +kernel
theorem dX2_init_39 : decode cX2_init 39 = .ok (.iconst 1, 1) := by decide +kernel
theorem dX2_init_40 : decode cX2_init 40 = .ok (.sipush 200, 3) := by decide +kernel
theorem dX2_init_43 : decode cX2_init 43 = .ok (.iastore, 1) := by decide +kernel
theorem dX2_init_44 : decode cX2_init 44 = .ok (.return_, 1) := by decide +kernel
theorem dX2_toleranceIn_0 : decode cX2_toleranceIn 0 = .ok (.aload_n 0, 1) := by decide +kernel
theorem dX2_toleranceIn_1 : decode cX2_toleranceIn 1 = .ok (.getfield 15, 3) := by decide +kernel
theorem dX2_toleranceIn_4 : decode cX2_toleranceIn 4 = .ok (.iload_n 1, 1) := by decide +kernel
theorem dX2_toleranceIn_5 : decode cX2_toleranceIn 5 = .ok (.iconst 1, 1) := by decide +kernel
theorem dX2_toleranceIn_6 : decode cX2_toleranceIn 6 = .ok (.if_icmp .ne 7, 3) := by decide +kernel
theorem dX2_toleranceIn_9 : decode cX2_toleranceIn 9 = .ok (.iconst 0, 1) := by decide +kernel
theorem dX2_toleranceIn_10 : decode cX2_toleranceIn 10 = .ok (.goto 4, 3) := by decide +kernel
theorem dX2_toleranceIn_13 : decode cX2_toleranceIn 13 = .ok (.iconst 1, 1) := by decide +kernel
theorem dX2_toleranceIn_14 : decode cX2_toleranceIn 14 = .ok (.iaload, 1) := by decide +kernel
theorem dX2_toleranceIn_15 : decode cX2_toleranceIn 15 = .ok (.ireturn, 1) := by decide +kernel
theorem dX2_breaksAtMarksIn_0 : decode cX2_breaksAtMarksIn 0 = .ok (.iload_n 1, 1) := by decide +kernel
theorem dX2_breaksAtMarksIn_1 : decode cX2_breaksAtMarksIn 1 = .ok (.iconst 1, 1) := by decide +kernel
theorem dX2_breaksAtMarksIn_2 : decode cX2_breaksAtMarksIn 2 = .ok (.if_icmp .eq 7, 3) := by decide +kernel
theorem dX2_breaksAtMarksIn_5 : decode cX2_breaksAtMarksIn 5 = .ok (.iconst 1, 1) := by decide +kernel
theorem dX2_breaksAtMarksIn_6 : decode cX2_breaksAtMarksIn 6 = .ok (.goto 4, 3) := by decide +kernel
theorem dX2_breaksAtMarksIn_9 : decode cX2_breaksAtMarksIn 9 = .ok (.iconst 0, 1) := by decide +kernel
theorem dX2_breaksAtMarksIn_10 : decode cX2_breaksAtMarksIn 10 = .ok (.ireturn, 1) := by decide +kernel
theorem dX2_moreStretchIn_0 : decode cX2_moreStretchIn 0 = .ok (.iload_n 1, 1) := by decide +kernel
theorem dX2_moreStretchIn_1 : decode cX2_moreStretchIn 1 = .ok (.iconst 3, 1) := by decide +kernel
theorem dX2_moreStretchIn_2 : decode cX2_moreStretchIn 2 = .ok (.if_icmp .ne 12, 3) := by decide +kernel
theorem dX2_moreStretchIn_5 : decode cX2_moreStretchIn 5 = .ok (.aload_n 0, 1) := by decide +kernel
theorem dX2_moreStretchIn_6 : decode cX2_moreStretchIn 6 = .ok (.getfield 15, 3) := by decide +kernel
theorem dX2_moreStretchIn_9 : decode cX2_moreStretchIn 9 = .ok (.iconst 2, 1) := by decide +kernel
theorem dX2_moreStretchIn_10 : decode cX2_moreStretchIn 10 = .ok (.iaload, 1) := by decide +kernel
theorem dX2_moreStretchIn_11 : decode cX2_moreStretchIn 11 = .ok (.goto 4, 3) := by decide +kernel
theorem dX2_moreStretchIn_14 : decode cX2_moreStretchIn 14 = .ok (.iconst 0, 1) := by decide +kernel
theorem dX2_moreStretchIn_15 : decode cX2_moreStretchIn 15 = .ok (.ireturn, 1) := by decide +kernel
set_option maxRecDepth 20000 in
theorem ggX3_init_X1_init : GoodIn wsX3_init wsX1_init := goodIn_r _ [15, 16, 2, 3] (by decide +kernel) (by decide +kernel)
set_option maxRecDepth 20000 in
theorem gX3_init_X1_init_n15 : GoodIn wsX3_init (wsX1_init) := ggX3_init_X1_init
theorem dX3_init_0 : decode cX3_init 0 = .ok (.aload_n 0, 1) := by decide +kernel
theorem dX3_init_1 : decode cX3_init 1 = .ok (.invokespecial 9, 3) := by decide +kernel
theorem dX3_init_4 : decode cX3_init 4 = .ok (.aload_n 0, 1) := by decide +kernel
theorem dX3_init_5 : decode cX3_init 5 = .ok (.new 3, 3) := by decide +kernel
theorem dX3_init_8 : decode cX3_init 8 = .ok (.dup, 1) := by decide +kernel
theorem dX3_init_9 : decode cX3_init 9 = .ok (.invokespecial 15, 3) := by decide +kernel
theorem dX3_init_12 : decode cX3_init 12 = .ok (.putfield 16, 3) := by decide +kernel
theorem dX3_init_15 : decode cX3_init 15 = .ok (.aload_n 0, 1) := by decide +kernel
theorem dX3_init_16 : decode cX3_init 16 = .ok (.sipush 20808, 3) := by decide +kernel
theorem dX3_init_19 : decode cX3_init 19 = .ok (.newarray .long, 2) := by decide +kernel
theorem dX3_init_21 : decode cX3_init 21 = .ok (.putfield 20, 3) := by decide +kernel
theorem dX3_init_24 : decode cX3_init 24 = .ok (.aload_n 0, 1) := by decide +kernel
theorem dX3_init_25 : decode cX3_init 25 = .ok (.sipush 20808, 3) := by decide +kernel
theorem dX3_init_28 : decode cX3_init 28 = .ok (.newarray .byte, 2) := by decide +kernel
theorem dX3_init_30 : decode cX3_init 30 = .ok (.putfield 24, 3) := by decide +kernel
theorem dX3_init_33 : decode cX3_init 33 = .ok (.aload_n 0, 1) := by decide +kernel
theorem dX3_init_34 : decode cX3_init 34 = .ok (.aload_n 1, 1) := by decide +kernel
theorem dX3_init_35 : decode cX3_init 35 = .ok (.putfield 28, 3) := by decide +kernel
theorem dX3_init_38 : decode cX3_init 38 = .ok (.aload_n 0, 1) := by decide +kernel
theorem dX3_init_39 : decode cX3_init 39 = .ok (.aload_n 2, 1) := by decide +kernel
theorem dX3_init_40 : decode cX3_init 40 = .ok (.putfield 32, 3) := by decide +kernel
theorem dX3_init_43 : decode cX3_init 43 = .ok (.return_, 1) := by decide +kernel
theorem dX3_cellOf_0 : decode cX3_cellOf 0 = .ok (.iload_n 0, 1) := by decide +kernel
theorem dX3_cellOf_1 : decode cX3_cellOf 1 = .ok (.iconst 1, 1) := by decide +kernel
theorem dX3_cellOf_2 : decode cX3_cellOf 2 = .ok (.iadd, 1) := by decide +kernel
theorem dX3_cellOf_3 : decode cX3_cellOf 3 = .ok (.bipush 51, 2) := by decide +kernel
theorem dX3_cellOf_5 : decode cX3_cellOf 5 = .ok (.imul, 1) := by decide +kernel
theorem dX3_cellOf_6 : decode cX3_cellOf 6 = .ok (.iload_n 1, 1) := by decide +kernel
theorem dX3_cellOf_7 : decode cX3_cellOf 7 = .ok (.iadd, 1) := by decide +kernel
theorem dX3_cellOf_8 : decode cX3_cellOf 8 = .ok (.iconst 4, 1) := by decide +kernel
theorem dX3_cellOf_9 : decode cX3_cellOf 9 = .ok (.imul, 1) := by decide +kernel
theorem dX3_cellOf_10 : decode cX3_cellOf 10 = .ok (.iload_n 2, 1) := by decide +kernel
theorem dX3_cellOf_11 : decode cX3_cellOf 11 = .ok (.iadd, 1) := by decide +kernel
theorem dX3_cellOf_12 : decode cX3_cellOf 12 = .ok (.ireturn, 1) := by decide +kernel
set_option maxRecDepth 20000 in
theorem ggX3_findsWay_X3_closeAll : GoodIn wsX3_findsWay wsX3_closeAll := goodIn_r _ [10, 3, 4, 5, 11, 12, 9, 13, 124, 125, 126, 127, 128, 129, 130, 131, 132, 133, 134, 135, 136, 137] (by decide +kernel) (by decide +kernel)
set_option maxRecDepth 20000 in
theorem gX3_findsWay_X3_closeAll : GoodIn wsX3_findsWay (wsV RX3 40 RX3 yX3_closeAll wsX3_closeAll) := goodIn_app (goodIn_of _ (by decide +kernel)) ggX3_findsWay_X3_closeAll
set_option maxRecDepth 20000 in
theorem ggX3_findsWay_X3_openEnd : GoodIn wsX3_findsWay wsX3_openEnd := goodIn_r _ [17, 4, 3, 11, 12, 9, 13, 124, 125, 126, 127, 128, 129, 130, 131, 132, 133, 134, 135, 136, 137] (by decide +kernel) (by decide +kernel)
set_option maxRecDepth 20000 in
theorem gX3_findsWay_X3_openEnd : GoodIn wsX3_findsWay (wsV RX3 43 RX3 yX3_openEnd wsX3_openEnd) := goodIn_app (goodIn_of _ (by decide +kernel)) ggX3_findsWay_X3_openEnd
set_option maxRecDepth 20000 in
theorem ggX3_findsWay_X2_breaksAtMarksIn : GoodIn wsX3_findsWay wsX2_breaksAtMarksIn := goodIn_r _ [21] (by decide +kernel) (by decide +kernel)
set_option maxRecDepth 20000 in
theorem gX3_findsWay_X2_breaksAtMarksIn_n47 : GoodIn wsX3_findsWay (wsX2_breaksAtMarksIn) := ggX3_findsWay_X2_breaksAtMarksIn
set_option maxRecDepth 20000 in
theorem ggX3_findsWay_X0_mayBreakAt : GoodIn wsX3_findsWay wsX0_mayBreakAt := goodIn_r _ [25, 26, 27, 28, 29, 30, 23, 31, 32, 33, 34, 35, 36, 37, 130, 131, 132, 133, 134, 135, 136, 137] (by decide +kernel) (by decide +kernel)
set_option maxRecDepth 20000 in
theorem gX3_findsWay_X0_mayBreakAt_n58 : GoodIn wsX3_findsWay (wsX0_mayBreakAt) := ggX3_findsWay_X0_mayBreakAt
set_option maxRecDepth 20000 in
theorem ggX3_findsWay_X3_tryLinesBehind : GoodIn wsX3_findsWay wsX3_tryLinesBehind := goodIn_r _ [41, 3, 42, 23, 43, 44, 32, 33, 22, 24, 25, 26, 27, 28, 29, 30, 31, 34, 35, 36, 37, 45, 46, 47, 9, 48, 2, 1, 49, 50, 51, 52, 53, 54, 19, 55, 56, 57, 58, 59, 60, 61, 62, 63, 64, 65, 66, 67, 68, 69, 70, 71, 72, 73, 74, 75, 76, 77, 78, 79, 80, 81, 82, 83, 84, 85, 86, 87, 88, 89, 90, 91, 92, 93, 94, 95, 96, 97, 98, 99, 100, 4, 5, 101, 102, 103, 11, 12, 13, 104, 105, 106, 107, 108, 109, 110, 111, 112, 113, 114, 115, 116, 117, 118, 119, 120, 121, 122, 123, 124, 125, 126, 127, 128, 129, 130, 131, 132, 133, 134, 135, 136, 137, 138, 139, 140, 141, 142, 143] (by decide +kernel) (by decide +kernel)
set_option maxRecDepth 20000 in
theorem gX3_findsWay_X3_tryLinesBehind : GoodIn wsX3_findsWay (wsV RX3 62 RX3 yX3_tryLinesBehind wsX3_tryLinesBehind) := goodIn_app (goodIn_of _ (by decide +kernel)) ggX3_findsWay_X3_tryLinesBehind
set_option maxRecDepth 20000 in
theorem ggX3_findsWay_X3_cellOf : GoodIn wsX3_findsWay wsX3_cellOf := goodIn_r _ [13] (by decide +kernel) (by decide +kernel)
set_option maxRecDepth 20000 in
theorem gX3_findsWay_X3_cellOf : GoodIn wsX3_findsWay (va_wsS RX3 66 yX3_cellOf wsX3_cellOf) := goodIn_app (goodIn_of _ (by decide +kernel)) ggX3_findsWay_X3_cellOf
theorem dX3_findsWay_0 : decode cX3_findsWay 0 = .ok (.aload_n 0, 1) := by decide +kernel
theorem dX3_findsWay_1 : decode cX3_findsWay 1 = .ok (.iload_n 1, 1) := by decide +kernel
theorem dX3_findsWay_2 : decode cX3_findsWay 2 = .ok (.putfield 36, 3) := by decide +kernel
theorem dX3_findsWay_5 : decode cX3_findsWay 5 = .ok (.aload_n 0, 1) := by decide +kernel
theorem dX3_findsWay_6 : decode cX3_findsWay 6 = .ok (.invokevirtual 40, 3) := by decide +kernel
theorem dX3_findsWay_9 : decode cX3_findsWay 9 = .ok (.aload_n 0, 1) := by decide +kernel
theorem dX3_findsWay_10 : decode cX3_findsWay 10 = .ok (.iload_n 2, 1) := by decide +kernel
theorem dX3_findsWay_11 : decode cX3_findsWay 11 = .ok (.invokevirtual 43, 3) := by decide +kernel
theorem dX3_findsWay_14 : decode cX3_findsWay 14 = .ok (.aload_n 0, 1) := by decide +kernel
theorem dX3_findsWay_15 : decode cX3_findsWay 15 = .ok (.getfield 32, 3) := by decide +kernel
theorem dX3_findsWay_18 : decode cX3_findsWay 18 = .ok (.aload_n 0, 1) := by decide +kernel
theorem dX3_findsWay_19 : decode cX3_findsWay 19 = .ok (.getfield 36, 3) := by decide +kernel
theorem dX3_findsWay_22 : decode cX3_findsWay 22 = .ok (.invokevirtual 47, 3) := by decide +kernel
theorem dX3_findsWay_25 : decode cX3_findsWay 25 = .ok (.istore_n 3, 1) := by decide +kernel
theorem dX3_findsWay_26 : decode cX3_findsWay 26 = .ok (.aload_n 0, 1) := by decide +kernel
theorem dX3_findsWay_27 : decode cX3_findsWay 27 = .ok (.getfield 28, 3) := by decide +kernel
theorem dX3_findsWay_30 : decode cX3_findsWay 30 = .ok (.getfield 53, 3) := by decide +kernel
theorem dX3_findsWay_33 : decode cX3_findsWay 33 = .ok (.iconst 1, 1) := by decide +kernel
theorem dX3_findsWay_34 : decode cX3_findsWay 34 = .ok (.isub, 1) := by decide +kernel
theorem dX3_findsWay_35 : decode cX3_findsWay 35 = .ok (.istore 4, 2) := by decide +kernel
theorem dX3_findsWay_37 : decode cX3_findsWay 37 = .ok (.iload 4, 2) := by decide +kernel
theorem dX3_findsWay_39 : decode cX3_findsWay 39 = .ok (.iconst (-1), 1) := by decide +kernel
theorem dX3_findsWay_40 : decode cX3_findsWay 40 = .ok (.if_icmp .lt 35, 3) := by decide +kernel
theorem dX3_findsWay_43 : decode cX3_findsWay 43 = .ok (.iload 4, 2) := by decide +kernel
theorem dX3_findsWay_45 : decode cX3_findsWay 45 = .ok (.iconst (-1), 1) := by decide +kernel
theorem dX3_findsWay_46 : decode cX3_findsWay 46 = .ok (.if_icmp .eq 16, 3) := by decide +kernel
theorem dX3_findsWay_49 : decode cX3_findsWay 49 = .ok (.aload_n 0, 1) := by decide +kernel
theorem dX3_findsWay_50 : decode cX3_findsWay 50 = .ok (.getfield 28, 3) := by decide +kernel
theorem dX3_findsWay_53 : decode cX3_findsWay 53 = .ok (.iload 4, 2) := by decide +kernel
theorem dX3_findsWay_55 : decode cX3_findsWay 55 = .ok (.iload_n 3, 1) := by decide +kernel
theorem dX3_findsWay_56 : decode cX3_findsWay 56 = .ok (.invokevirtual 58, 3) := by decide +kernel
theorem dX3_findsWay_59 : decode cX3_findsWay 59 = .ok (.ifCond .eq 10, 3) := by decide +kernel
theorem dX3_findsWay_62 : decode cX3_findsWay 62 = .ok (.aload_n 0, 1) := by decide +kernel
theorem dX3_findsWay_63 : decode cX3_findsWay 63 = .ok (.iload 4, 2) := by decide +kernel
theorem dX3_findsWay_65 : decode cX3_findsWay 65 = .ok (.iload_n 3, 1) := by decide +kernel
theorem dX3_findsWay_66 : decode cX3_findsWay 66 = .ok (.invokevirtual 62, 3) := by decide +kernel
theorem dX3_findsWay_69 : decode cX3_findsWay 69 = .ok (.iinc 4 (-1), 3) := by decide +kernel
theorem dX3_findsWay_72 : decode cX3_findsWay 72 = .ok (.goto (-35), 3) := by decide +kernel
theorem dX3_findsWay_75 : decode cX3_findsWay 75 = .ok (.aload_n 0, 1) := by decide +kernel
theorem dX3_findsWay_76 : decode cX3_findsWay 76 = .ok (.getfield 20, 3) := by decide +kernel
theorem dX3_findsWay_79 : decode cX3_findsWay 79 = .ok (.iconst (-1), 1) := by decide +kernel
theorem dX3_findsWay_80 : decode cX3_findsWay 80 = .ok (.iconst 0, 1) := by decide +kernel
theorem dX3_findsWay_81 : decode cX3_findsWay 81 = .ok (.iconst 0, 1) := by decide +kernel
theorem dX3_findsWay_82 : decode cX3_findsWay 82 = .ok (.invokestatic 66, 3) := by decide +kernel
theorem dX3_findsWay_85 : decode cX3_findsWay 85 = .ok (.laload, 1) := by decide +kernel
theorem dX3_findsWay_86 : decode cX3_findsWay 86 = .ok (.ldc2_w 70, 3) := by decide +kernel
theorem dX3_findsWay_89 : decode cX3_findsWay 89 = .ok (.lcmp, 1) := by decide +kernel
theorem dX3_findsWay_90 : decode cX3_findsWay 90 = .ok (.ifCond .eq 7, 3) := by decide +kernel
theorem dX3_findsWay_93 : decode cX3_findsWay 93 = .ok (.iconst 1, 1) := by decide +kernel
theorem dX3_findsWay_94 : decode cX3_findsWay 94 = .ok (.goto 4, 3) := by decide +kernel
theorem dX3_findsWay_97 : decode cX3_findsWay 97 = .ok (.iconst 0, 1) := by decide +kernel
theorem dX3_findsWay_98 : decode cX3_findsWay 98 = .ok (.ireturn, 1) := by decide +kernel
set_option maxRecDepth 20000 in
theorem ggX3_closeAll_X3_cellOf : GoodIn wsX3_closeAll wsX3_cellOf := goodIn_r _ [7] (by decide +kernel) (by decide +kernel)
set_option maxRecDepth 20000 in
theorem gX3_closeAll_X3_cellOf : GoodIn wsX3_closeAll (va_wsS RX3 66 yX3_cellOf wsX3_cellOf) := goodIn_app (goodIn_of _ (by decide +kernel)) ggX3_closeAll_X3_cellOf
theorem dX3_closeAll_0 : decode cX3_closeAll 0 = .ok (.aload_n 0, 1) := by decide +kernel
theorem dX3_closeAll_1 : decode cX3_closeAll 1 = .ok (.getfield 28, 3) := by decide +kernel
theorem dX3_closeAll_4 : decode cX3_closeAll 4 = .ok (.getfield 53, 3) := by decide +kernel
theorem dX3_closeAll_7 : decode cX3_closeAll 7 = .ok (.iconst 1, 1) := by decide +kernel
theorem dX3_closeAll_8 : decode cX3_closeAll 8 = .ok (.iadd, 1) := by decide +kernel
theorem dX3_closeAll_9 : decode cX3_closeAll 9 = .ok (.iconst 0, 1) := by decide +kernel
theorem dX3_closeAll_10 : decode cX3_closeAll 10 = .ok (.iconst 0, 1) := by decide +kernel
theorem dX3_closeAll_11 : decode cX3_closeAll 11 = .ok (.invokestatic 66, 3) := by decide +kernel
theorem dX3_closeAll_14 : decode cX3_closeAll 14 = .ok (.istore_n 1, 1) := by decide +kernel
theorem dX3_closeAll_15 : decode cX3_closeAll 15 = .ok (.iconst 0, 1) := by decide +kernel
theorem dX3_closeAll_16 : decode cX3_closeAll 16 = .ok (.istore_n 2, 1) := by decide +kernel
theorem dX3_closeAll_17 : decode cX3_closeAll 17 = .ok (.iload_n 2, 1) := by decide +kernel
theorem dX3_closeAll_18 : decode cX3_closeAll 18 = .ok (.iload_n 1, 1) := by decide +kernel
theorem dX3_closeAll_19 : decode cX3_closeAll 19 = .ok (.if_icmp .ge 25, 3) := by decide +kernel
theorem dX3_closeAll_22 : decode cX3_closeAll 22 = .ok (.iload_n 2, 1) := by decide +kernel
theorem dX3_closeAll_23 : decode cX3_closeAll 23 = .ok (.sipush 20808, 3) := by decide +kernel
theorem dX3_closeAll_26 : decode cX3_closeAll 26 = .ok (.if_icmp .ge 18, 3) := by decide +kernel
theorem dX3_closeAll_29 : decode cX3_closeAll 29 = .ok (.aload_n 0, 1) := by decide +kernel
theorem dX3_closeAll_30 : decode cX3_closeAll 30 = .ok (.getfield 20, 3) := by decide +kernel
theorem dX3_closeAll_33 : decode cX3_closeAll 33 = .ok (.iload_n 2, 1) := by decide +kernel
theorem dX3_closeAll_34 : decode cX3_closeAll 34 = .ok (.ldc2_w 70, 3) := by decide +kernel
theorem dX3_closeAll_37 : decode cX3_closeAll 37 = .ok (.lastore, 1) := by decide +kernel
theorem dX3_closeAll_38 : decode cX3_closeAll 38 = .ok (.iinc 2 1, 3) := by decide +kernel
theorem dX3_closeAll_41 : decode cX3_closeAll 41 = .ok (.goto (-24), 3) := by decide +kernel
theorem dX3_closeAll_44 : decode cX3_closeAll 44 = .ok (.return_, 1) := by decide +kernel
set_option maxRecDepth 20000 in
theorem ggX3_openEnd_X3_cellOf : GoodIn wsX3_openEnd wsX3_cellOf := goodIn_r _ [6] (by decide +kernel) (by decide +kernel)
set_option maxRecDepth 20000 in
theorem gX3_openEnd_X3_cellOf : GoodIn wsX3_openEnd (va_wsS RX3 66 yX3_cellOf wsX3_cellOf) := goodIn_app (goodIn_of _ (by decide +kernel)) ggX3_openEnd_X3_cellOf
theorem dX3_openEnd_0 : decode cX3_openEnd 0 = .ok (.iload_n 1, 1) := by decide +kernel
theorem dX3_openEnd_1 : decode cX3_openEnd 1 = .ok (.ifCond .ne 7, 3) := by decide +kernel
theorem dX3_openEnd_4 : decode cX3_openEnd 4 = .ok (.iconst 1, 1) := by decide +kernel
theorem dX3_openEnd_5 : decode cX3_openEnd 5 = .ok (.goto 4, 3) := by decide +kernel
theorem dX3_openEnd_8 : decode cX3_openEnd 8 = .ok (.iload_n 1, 1) := by decide +kernel
theorem dX3_openEnd_9 : decode cX3_openEnd 9 = .ok (.istore_n 2, 1) := by decide +kernel
theorem dX3_openEnd_10 : decode cX3_openEnd 10 = .ok (.iload_n 1, 1) := by decide +kernel
theorem dX3_openEnd_11 : decode cX3_openEnd 11 = .ok (.ifCond .ne 8, 3) := by decide +kernel
theorem dX3_openEnd_14 : decode cX3_openEnd 14 = .ok (.bipush 50, 2) := by decide +kernel
theorem dX3_openEnd_16 : decode cX3_openEnd 16 = .ok (.goto 4, 3) := by decide +kernel
theorem dX3_openEnd_19 : decode cX3_openEnd 19 = .ok (.iload_n 1, 1) := by decide +kernel
theorem dX3_openEnd_20 : decode cX3_openEnd 20 = .ok (.istore_n 3, 1) := by decide +kernel
theorem dX3_openEnd_21 : decode cX3_openEnd 21 = .ok (.iload_n 2, 1) := by decide +kernel
theorem dX3_openEnd_22 : decode cX3_openEnd 22 = .ok (.istore 4, 2) := by decide +kernel
theorem dX3_openEnd_24 : decode cX3_openEnd 24 = .ok (.iload 4, 2) := by decide +kernel
theorem dX3_openEnd_26 : decode cX3_openEnd 26 = .ok (.iload_n 3, 1) := by decide +kernel
theorem dX3_openEnd_27 : decode cX3_openEnd 27 = .ok (.if_icmp .gt 44, 3) := by decide +kernel
theorem dX3_openEnd_30 : decode cX3_openEnd 30 = .ok (.iconst 0, 1) := by decide +kernel
theorem dX3_openEnd_31 : decode cX3_openEnd 31 = .ok (.istore 5, 2) := by decide +kernel
theorem dX3_openEnd_33 : decode cX3_openEnd 33 = .ok (.iload 5, 2) := by decide +kernel
theorem dX3_openEnd_35 : decode cX3_openEnd 35 = .ok (.iconst 4, 1) := by decide +kernel
theorem dX3_openEnd_36 : decode cX3_openEnd 36 = .ok (.if_icmp .ge 29, 3) := by decide +kernel
theorem dX3_openEnd_39 : decode cX3_openEnd 39 = .ok (.aload_n 0, 1) := by decide +kernel
theorem dX3_openEnd_40 : decode cX3_openEnd 40 = .ok (.getfield 20, 3) := by decide +kernel
theorem dX3_openEnd_43 : decode cX3_openEnd 43 = .ok (.aload_n 0, 1) := by decide +kernel
theorem dX3_openEnd_44 : decode cX3_openEnd 44 = .ok (.getfield 28, 3) := by decide +kernel
theorem dX3_openEnd_47 : decode cX3_openEnd 47 = .ok (.getfield 53, 3) := by decide +kernel
theorem dX3_openEnd_50 : decode cX3_openEnd 50 = .ok (.iload 4, 2) := by decide +kernel
theorem dX3_openEnd_52 : decode cX3_openEnd 52 = .ok (.iload 5, 2) := by decide +kernel
theorem dX3_openEnd_54 : decode cX3_openEnd 54 = .ok (.invokestatic 66, 3) := by decide +kernel
theorem dX3_openEnd_57 : decode cX3_openEnd 57 = .ok (.lconst 0, 1) := by decide +kernel
theorem dX3_openEnd_58 : decode cX3_openEnd 58 = .ok (.lastore, 1) := by decide +kernel
theorem dX3_openEnd_59 : decode cX3_openEnd 59 = .ok (.iinc 5 1, 3) := by decide +kernel
theorem dX3_openEnd_62 : decode cX3_openEnd 62 = .ok (.goto (-29), 3) := by decide +kernel
theorem dX3_openEnd_65 : decode cX3_openEnd 65 = .ok (.iinc 4 1, 3) := by decide +kernel
theorem dX3_openEnd_68 : decode cX3_openEnd 68 = .ok (.goto (-44), 3) := by decide +kernel
theorem dX3_openEnd_71 : decode cX3_openEnd 71 = .ok (.return_, 1) := by decide +kernel
set_option maxRecDepth 20000 in
theorem ggX3_tryLinesBehind_X0_startBehind : GoodIn wsX3_tryLinesBehind wsX0_startBehind := goodIn_r _ [5, 6, 7, 115, 116, 117, 118, 119, 120, 121, 122] (by decide +kernel) (by decide +kernel)
set_option maxRecDepth 20000 in
theorem gX3_tryLinesBehind_X0_startBehind_n72 : GoodIn wsX3_tryLinesBehind (wsX0_startBehind) := ggX3_tryLinesBehind_X0_startBehind
set_option maxRecDepth 20000 in
theorem ggX3_tryLinesBehind_X0_mayBreakAt : GoodIn wsX3_tryLinesBehind wsX0_mayBreakAt := goodIn_r _ [10, 11, 12, 13, 14, 15, 3, 16, 6, 7, 17, 18, 19, 20, 115, 116, 117, 118, 119, 120, 121, 122] (by decide +kernel) (by decide +kernel)
set_option maxRecDepth 20000 in
theorem gX3_tryLinesBehind_X0_mayBreakAt_n58 : GoodIn wsX3_tryLinesBehind (wsX0_mayBreakAt) := ggX3_tryLinesBehind_X0_mayBreakAt
set_option maxRecDepth 20000 in
theorem ggX3_tryLinesBehind_X3_tryLine : GoodIn wsX3_tryLinesBehind wsX3_tryLine := goodIn_r _ [25, 26, 27, 28, 29, 30, 31, 32, 1, 33, 34, 35, 36, 37, 38, 39, 40, 41, 42, 43, 44, 45, 46, 47, 3, 48, 49, 50, 13, 14, 15, 16, 6, 7, 51, 52, 53, 54, 55, 56, 57, 58, 59, 60, 61, 62, 63, 64, 65, 66, 67, 68, 69, 18, 19, 20, 70, 71, 72, 73, 74, 75, 76, 77, 78, 79, 24, 80, 81, 82, 83, 84, 85, 86, 87, 88, 89, 90, 91, 92, 93, 94, 95, 96, 97, 11, 98, 99, 100, 12, 101, 102, 103, 104, 105, 109, 110, 111, 112, 113, 114, 123, 124, 115, 116, 117, 118, 119, 120, 121, 122, 125, 126, 127, 128] (by decide +kernel) (by decide +kernel)
set_option maxRecDepth 20000 in
theorem gX3_tryLinesBehind_X3_tryLine : GoodIn wsX3_tryLinesBehind (wsV RX3 76 RX3 yX3_tryLine wsX3_tryLine) := goodIn_app (goodIn_of _ (by decide +kernel)) ggX3_tryLinesBehind_X3_tryLine
set_option maxRecDepth 20000 in
theorem ggX3_tryLinesBehind_X0_hasToBreakAt : GoodIn wsX3_tryLinesBehind wsX0_hasToBreakAt := goodIn_r _ [108, 11, 17, 18, 19, 3, 20, 6, 13, 14, 15, 16, 7, 115, 116, 117, 118, 119, 120, 121, 122] (by decide +kernel) (by decide +kernel)
set_option maxRecDepth 20000 in
theorem gX3_tryLinesBehind_X0_hasToBreakAt_n80 : GoodIn wsX3_tryLinesBehind (wsX0_hasToBreakAt) := ggX3_tryLinesBehind_X0_hasToBreakAt
theorem dX3_tryLinesBehind_0 : decode cX3_tryLinesBehind 0 = .ok (.aload_n 0, 1) := by decide +kernel
theorem dX3_tryLinesBehind_1 : decode cX3_tryLinesBehind 1 = .ok (.getfield 28, 3) := by decide +kernel
theorem dX3_tryLinesBehind_4 : decode cX3_tryLinesBehind 4 = .ok (.iload_n 1, 1) := by decide +kernel
theorem dX3_tryLinesBehind_5 : decode cX3_tryLinesBehind 5 = .ok (.invokevirtual 72, 3) := by decide +kernel
theorem dX3_tryLinesBehind_8 : decode cX3_tryLinesBehind 8 = .ok (.istore_n 3, 1) := by decide +kernel
theorem dX3_tryLinesBehind_9 : decode cX3_tryLinesBehind 9 = .ok (.iload_n 1, 1) := by decide +kernel
theorem dX3_tryLinesBehind_10 : decode cX3_tryLinesBehind 10 = .ok (.iconst 1, 1) := by decide +kernel
theorem dX3_tryLinesBehind_11 : decode cX3_tryLinesBehind 11 = .ok (.iadd, 1) := by decide +kernel
theorem dX3_tryLinesBehind_12 : decode cX3_tryLinesBehind 12 = .ok (.istore 4, 2) := by decide +kernel
theorem dX3_tryLinesBehind_14 : decode cX3_tryLinesBehind 14 = .ok (.iload 4, 2) := by decide +kernel
theorem dX3_tryLinesBehind_16 : decode cX3_tryLinesBehind 16 = .ok (.aload_n 0, 1) := by decide +kernel
theorem dX3_tryLinesBehind_17 : decode cX3_tryLinesBehind 17 = .ok (.getfield 28, 3) := by decide +kernel
theorem dX3_tryLinesBehind_20 : decode cX3_tryLinesBehind 20 = .ok (.getfield 53, 3) := by decide +kernel
theorem dX3_tryLinesBehind_23 : decode cX3_tryLinesBehind 23 = .ok (.if_icmp .gt 43, 3) := by decide +kernel
theorem dX3_tryLinesBehind_26 : decode cX3_tryLinesBehind 26 = .ok (.aload_n 0, 1) := by decide +kernel
theorem dX3_tryLinesBehind_27 : decode cX3_tryLinesBehind 27 = .ok (.getfield 28, 3) := by decide +kernel
theorem dX3_tryLinesBehind_30 : decode cX3_tryLinesBehind 30 = .ok (.iload 4, 2) := by decide +kernel
theorem dX3_tryLinesBehind_32 : decode cX3_tryLinesBehind 32 = .ok (.iload_n 2, 1) := by decide +kernel
theorem dX3_tryLinesBehind_33 : decode cX3_tryLinesBehind 33 = .ok (.invokevirtual 58, 3) := by decide +kernel
theorem dX3_tryLinesBehind_36 : decode cX3_tryLinesBehind 36 = .ok (.ifCond .eq 11, 3) := by decide +kernel
theorem dX3_tryLinesBehind_39 : decode cX3_tryLinesBehind 39 = .ok (.aload_n 0, 1) := by decide +kernel
theorem dX3_tryLinesBehind_40 : decode cX3_tryLinesBehind 40 = .ok (.iload_n 1, 1) := by decide +kernel
theorem dX3_tryLinesBehind_41 : decode cX3_tryLinesBehind 41 = .ok (.iload_n 3, 1) := by decide +kernel
theorem dX3_tryLinesBehind_42 : decode cX3_tryLinesBehind 42 = .ok (.iload 4, 2) := by decide +kernel
theorem dX3_tryLinesBehind_44 : decode cX3_tryLinesBehind 44 = .ok (.invokevirtual 76, 3) := by decide +kernel
theorem dX3_tryLinesBehind_47 : decode cX3_tryLinesBehind 47 = .ok (.aload_n 0, 1) := by decide +kernel
theorem dX3_tryLinesBehind_48 : decode cX3_tryLinesBehind 48 = .ok (.getfield 28, 3) := by decide +kernel
theorem dX3_tryLinesBehind_51 : decode cX3_tryLinesBehind 51 = .ok (.iload 4, 2) := by decide +kernel
theorem dX3_tryLinesBehind_53 : decode cX3_tryLinesBehind 53 = .ok (.invokevirtual 80, 3) := by decide +kernel
theorem dX3_tryLinesBehind_56 : decode cX3_tryLinesBehind 56 = .ok (.ifCond .eq 4, 3) := by decide +kernel
theorem dX3_tryLinesBehind_59 : decode cX3_tryLinesBehind 59 = .ok (.return_, 1) := by decide +kernel
theorem dX3_tryLinesBehind_60 : decode cX3_tryLinesBehind 60 = .ok (.iinc 4 1, 3) := by decide +kernel
theorem dX3_tryLinesBehind_63 : decode cX3_tryLinesBehind 63 = .ok (.goto (-49), 3) := by decide +kernel
theorem dX3_tryLinesBehind_66 : decode cX3_tryLinesBehind 66 = .ok (.return_, 1) := by decide +kernel
set_option maxRecDepth 20000 in
theorem ggX3_tryLine_X2_toleranceIn : GoodIn wsX3_tryLine wsX2_toleranceIn := goodIn_r _ [12, 13, 101, 102] (by decide +kernel) (by decide +kernel)
set_option maxRecDepth 20000 in
theorem gX3_tryLine_X2_toleranceIn_n83 : GoodIn wsX3_tryLine (wsX2_toleranceIn) := ggX3_tryLine_X2_toleranceIn
set_option maxRecDepth 20000 in
theorem ggX3_tryLine_X2_moreStretchIn : GoodIn wsX3_tryLine wsX2_moreStretchIn := goodIn_r _ [16, 13, 101, 102] (by decide +kernel) (by decide +kernel)
set_option maxRecDepth 20000 in
theorem gX3_tryLine_X2_moreStretchIn_n86 : GoodIn wsX3_tryLine (wsX2_moreStretchIn) := ggX3_tryLine_X2_moreStretchIn
set_option maxRecDepth 20000 in
theorem ggX3_tryLine_X1_measure : GoodIn wsX3_tryLine wsX1_measure := goodIn_r _ [20, 21, 4, 5, 6, 22, 23, 24, 25, 26, 27, 28, 29, 30, 31, 32, 33, 34, 35, 36, 18, 37, 38, 39, 40, 41, 42, 43, 44, 45, 46, 47, 48, 49, 50, 51, 52, 53, 54, 55, 56, 57, 58, 59, 103, 104, 105, 106, 107, 108, 109, 110, 111, 112, 113, 114] (by decide +kernel) (by decide +kernel)
set_option maxRecDepth 20000 in
theorem gX3_tryLine_X1_measure_n99 : GoodIn wsX3_tryLine (wsX1_measure) := ggX3_tryLine_X1_measure
set_option maxRecDepth 20000 in
theorem ggX3_tryLine_X1_isToleratedBy : GoodIn wsX3_tryLine wsX1_isToleratedBy := goodIn_r _ [62, 38, 51, 111, 112, 113, 114] (by decide +kernel) (by decide +kernel)
set_option maxRecDepth 20000 in
theorem gX3_tryLine_X1_isToleratedBy_n103 : GoodIn wsX3_tryLine (wsX1_isToleratedBy) := ggX3_tryLine_X1_isToleratedBy
set_option maxRecDepth 20000 in
theorem ggX3_tryLine_X3_enterLine : GoodIn wsX3_tryLine wsX3_enterLine := goodIn_r _ [67, 68, 7, 69, 70, 71, 72, 73, 74, 66, 75, 76, 77, 78, 79, 80, 8, 81, 82, 24, 83, 84, 85, 28, 29, 30, 31, 32, 33, 86, 87, 88, 89, 90, 18, 91, 92, 93, 5, 94, 95, 96, 97, 98, 99, 100, 111, 112, 113, 114, 103, 104, 105, 106, 107, 108, 109, 110] (by decide +kernel) (by decide +kernel)
set_option maxRecDepth 20000 in
theorem gX3_tryLine_X3_enterLine : GoodIn wsX3_tryLine (wsV RX3 106 RX3 yX3_enterLine wsX3_enterLine) := goodIn_app (goodIn_of _ (by decide +kernel)) ggX3_tryLine_X3_enterLine
theorem dX3_tryLine_0 : decode cX3_tryLine 0 = .ok (.aload_n 0, 1) := by decide +kernel
theorem dX3_tryLine_1 : decode cX3_tryLine 1 = .ok (.getfield 32, 3) := by decide +kernel
theorem dX3_tryLine_4 : decode cX3_tryLine 4 = .ok (.aload_n 0, 1) := by decide +kernel
theorem dX3_tryLine_5 : decode cX3_tryLine 5 = .ok (.getfield 36, 3) := by decide +kernel
theorem dX3_tryLine_8 : decode cX3_tryLine 8 = .ok (.invokevirtual 83, 3) := by decide +kernel
theorem dX3_tryLine_11 : decode cX3_tryLine 11 = .ok (.istore 4, 2) := by decide +kernel
theorem dX3_tryLine_13 : decode cX3_tryLine 13 = .ok (.aload_n 0, 1) := by decide +kernel
theorem dX3_tryLine_14 : decode cX3_tryLine 14 = .ok (.getfield 32, 3) := by decide +kernel
theorem dX3_tryLine_17 : decode cX3_tryLine 17 = .ok (.aload_n 0, 1) := by decide +kernel
theorem dX3_tryLine_18 : decode cX3_tryLine 18 = .ok (.getfield 36, 3) := by decide +kernel
theorem dX3_tryLine_21 : decode cX3_tryLine 21 = .ok (.invokevirtual 86, 3) := by decide +kernel
theorem dX3_tryLine_24 : decode cX3_tryLine 24 = .ok (.istore 5, 2) := by decide +kernel
theorem dX3_tryLine_26 : decode cX3_tryLine 26 = .ok (.iload_n 1, 1) := by decide +kernel
theorem dX3_tryLine_27 : decode cX3_tryLine 27 = .ok (.iconst (-1), 1) := by decide +kernel
theorem dX3_tryLine_28 : decode cX3_tryLine 28 = .ok (.if_icmp .ne 7, 3) := by decide +kernel
theorem dX3_tryLine_31 : decode cX3_tryLine 31 = .ok (.iconst 0, 1) := by decide +kernel
theorem dX3_tryLine_32 : decode cX3_tryLine 32 = .ok (.goto 4, 3) := by decide +kernel
theorem dX3_tryLine_35 : decode cX3_tryLine 35 = .ok (.iconst 1, 1) := by decide +kernel
theorem dX3_tryLine_36 : decode cX3_tryLine 36 = .ok (.istore 6, 2) := by decide +kernel
theorem dX3_tryLine_38 : decode cX3_tryLine 38 = .ok (.iload_n 1, 1) := by decide +kernel
theorem dX3_tryLine_39 : decode cX3_tryLine 39 = .ok (.iconst 1, 1) := by decide +kernel
theorem dX3_tryLine_40 : decode cX3_tryLine 40 = .ok (.iadd, 1) := by decide +kernel
theorem dX3_tryLine_41 : decode cX3_tryLine 41 = .ok (.bipush 49, 2) := by decide +kernel
theorem dX3_tryLine_43 : decode cX3_tryLine 43 = .ok (.invokestatic 89, 3) := by decide +kernel
theorem dX3_tryLine_46 : decode cX3_tryLine 46 = .ok (.istore 7, 2) := by decide +kernel
theorem dX3_tryLine_48 : decode cX3_tryLine 48 = .ok (.iload 6, 2) := by decide +kernel
theorem dX3_tryLine_50 : decode cX3_tryLine 50 = .ok (.istore 8, 2) := by decide +kernel
theorem dX3_tryLine_52 : decode cX3_tryLine 52 = .ok (.iload 8, 2) := by decide +kernel
theorem dX3_tryLine_54 : decode cX3_tryLine 54 = .ok (.iload 7, 2) := by decide +kernel
theorem dX3_tryLine_56 : decode cX3_tryLine 56 = .ok (.if_icmp .gt 86, 3) := by decide +kernel
theorem dX3_tryLine_59 : decode cX3_tryLine 59 = .ok (.iload 8, 2) := by decide +kernel
theorem dX3_tryLine_61 : decode cX3_tryLine 61 = .ok (.iload 6, 2) := by decide +kernel
theorem dX3_tryLine_63 : decode cX3_tryLine 63 = .ok (.if_icmp .eq 28, 3) := by decide +kernel
theorem dX3_tryLine_66 : decode cX3_tryLine 66 = .ok (.aload_n 0, 1) := by decide +kernel
theorem dX3_tryLine_67 : decode cX3_tryLine 67 = .ok (.getfield 32, 3) := by decide +kernel
theorem dX3_tryLine_70 : decode cX3_tryLine 70 = .ok (.getfield 95, 3) := by decide +kernel
theorem dX3_tryLine_73 : decode cX3_tryLine 73 = .ok (.iload 8, 2) := by decide +kernel
theorem dX3_tryLine_75 : decode cX3_tryLine 75 = .ok (.iaload, 1) := by decide +kernel
theorem dX3_tryLine_76 : decode cX3_tryLine 76 = .ok (.aload_n 0, 1) := by decide +kernel
theorem dX3_tryLine_77 : decode cX3_tryLine 77 = .ok (.getfield 32, 3) := by decide +kernel
theorem dX3_tryLine_80 : decode cX3_tryLine 80 = .ok (.getfield 95, 3) := by decide +kernel
theorem dX3_tryLine_83 : decode cX3_tryLine 83 = .ok (.iload 8, 2) := by decide +kernel
theorem dX3_tryLine_85 : decode cX3_tryLine 85 = .ok (.iconst 1, 1) := by decide +kernel
theorem dX3_tryLine_86 : decode cX3_tryLine 86 = .ok (.isub, 1) := by decide +kernel
theorem dX3_tryLine_87 : decode cX3_tryLine 87 = .ok (.iaload, 1) := by decide +kernel
theorem dX3_tryLine_88 : decode cX3_tryLine 88 = .ok (.if_icmp .eq 28, 3) := by decide +kernel
theorem dX3_tryLine_91 : decode cX3_tryLine 91 = .ok (.aload_n 0, 1) := by decide +kernel
theorem dX3_tryLine_92 : decode cX3_tryLine 92 = .ok (.getfield 16, 3) := by decide +kernel
theorem dX3_tryLine_95 : decode cX3_tryLine 95 = .ok (.aload_n 0, 1) := by decide +kernel
theorem dX3_tryLine_96 : decode cX3_tryLine 96 = .ok (.getfield 28, 3) := by decide +kernel
theorem dX3_tryLine_99 : decode cX3_tryLine 99 = .ok (.iload_n 2, 1) := by decide +kernel
theorem dX3_tryLine_100 : decode cX3_tryLine 100 = .ok (.iload_n 3, 1) := by decide +kernel
theorem dX3_tryLine_101 : decode cX3_tryLine 101 = .ok (.aload_n 0, 1) := by decide +kernel
theorem dX3_tryLine_102 : decode cX3_tryLine 102 = .ok (.getfield 32, 3) := by decide +kernel
theorem dX3_tryLine_105 : decode cX3_tryLine 105 = .ok (.getfield 95, 3) := by decide +kernel
theorem dX3_tryLine_108 : decode cX3_tryLine 108 = .ok (.iload 8, 2) := by decide +kernel
theorem dX3_tryLine_110 : decode cX3_tryLine 110 = .ok (.iaload, 1) := by decide +kernel
theorem dX3_tryLine_111 : decode cX3_tryLine 111 = .ok (.iload 5, 2) := by decide +kernel
theorem dX3_tryLine_113 : decode cX3_tryLine 113 = .ok (.invokevirtual 99, 3) := by decide +kernel
theorem dX3_tryLine_116 : decode cX3_tryLine 116 = .ok (.aload_n 0, 1) := by decide +kernel
theorem dX3_tryLine_117 : decode cX3_tryLine 117 = .ok (.getfield 16, 3) := by decide +kernel
theorem dX3_tryLine_120 : decode cX3_tryLine 120 = .ok (.iload 4, 2) := by decide +kernel
theorem dX3_tryLine_122 : decode cX3_tryLine 122 = .ok (.invokevirtual 103, 3) := by decide +kernel
theorem dX3_tryLine_125 : decode cX3_tryLine 125 = .ok (.ifCond .eq 11, 3) := by decide +kernel
theorem dX3_tryLine_128 : decode cX3_tryLine 128 = .ok (.aload_n 0, 1) := by decide +kernel
theorem dX3_tryLine_129 : decode cX3_tryLine 129 = .ok (.iload_n 1, 1) := by decide +kernel
theorem dX3_tryLine_130 : decode cX3_tryLine 130 = .ok (.iload_n 3, 1) := by decide +kernel
theorem dX3_tryLine_131 : decode cX3_tryLine 131 = .ok (.iload 8, 2) := by decide +kernel
theorem dX3_tryLine_133 : decode cX3_tryLine 133 = .ok (.invokevirtual 106, 3) := by decide +kernel
theorem dX3_tryLine_136 : decode cX3_tryLine 136 = .ok (.iinc 8 1, 3) := by decide +kernel
theorem dX3_tryLine_139 : decode cX3_tryLine 139 = .ok (.goto (-87), 3) := by decide +kernel
theorem dX3_tryLine_142 : decode cX3_tryLine 142 = .ok (.return_, 1) := by decide +kernel
set_option maxRecDepth 20000 in
theorem ggX3_enterLine_X3_cellOf : GoodIn wsX3_enterLine wsX3_cellOf := goodIn_r _ [10] (by decide +kernel) (by decide +kernel)
set_option maxRecDepth 20000 in
theorem gX3_enterLine_X3_cellOf : GoodIn wsX3_enterLine (va_wsS RX3 66 yX3_cellOf wsX3_cellOf) := goodIn_app (goodIn_of _ (by decide +kernel)) ggX3_enterLine_X3_cellOf
set_option maxRecDepth 20000 in
theorem ggX3_enterLine_X3_demeritsOfLine : GoodIn wsX3_enterLine wsX3_demeritsOfLine := goodIn_r _ [14, 15, 2, 16, 17, 18, 19, 20, 21, 22, 23, 24, 25, 26, 27, 28, 29, 30, 31, 32, 40, 41, 42, 43, 44, 45, 46, 47, 48, 49, 50, 51, 52, 53, 54, 55, 56, 57] (by decide +kernel) (by decide +kernel)
set_option maxRecDepth 20000 in
theorem gX3_enterLine_X3_demeritsOfLine : GoodIn wsX3_enterLine (wsV RX3 114 RX3 yX3_demeritsOfLine wsX3_demeritsOfLine) := goodIn_app (goodIn_of _ (by decide +kernel)) ggX3_enterLine_X3_demeritsOfLine
set_option maxRecDepth 20000 in
theorem ggX3_enterLine_X1_isUnlike : GoodIn wsX3_enterLine wsX1_isUnlike := goodIn_r _ [35, 36, 37, 38, 39] (by decide +kernel) (by decide +kernel)
set_option maxRecDepth 20000 in
theorem gX3_enterLine_X1_isUnlike_n118 : GoodIn wsX3_enterLine (wsX1_isUnlike) := ggX3_enterLine_X1_isUnlike
theorem dX3_enterLine_0 : decode cX3_enterLine 0 = .ok (.aload_n 0, 1) := by decide +kernel
theorem dX3_enterLine_1 : decode cX3_enterLine 1 = .ok (.getfield 20, 3) := by decide +kernel
theorem dX3_enterLine_4 : decode cX3_enterLine 4 = .ok (.iload_n 2, 1) := by decide +kernel
theorem dX3_enterLine_5 : decode cX3_enterLine 5 = .ok (.iload_n 3, 1) := by decide +kernel
theorem dX3_enterLine_6 : decode cX3_enterLine 6 = .ok (.iconst 1, 1) := by decide +kernel
theorem dX3_enterLine_7 : decode cX3_enterLine 7 = .ok (.iadd, 1) := by decide +kernel
theorem dX3_enterLine_8 : decode cX3_enterLine 8 = .ok (.aload_n 0, 1) := by decide +kernel
theorem dX3_enterLine_9 : decode cX3_enterLine 9 = .ok (.getfield 16, 3) := by decide +kernel
theorem dX3_enterLine_12 : decode cX3_enterLine 12 = .ok (.getfield 109, 3) := by decide +kernel
theorem dX3_enterLine_15 : decode cX3_enterLine 15 = .ok (.invokestatic 66, 3) := by decide +kernel
theorem dX3_enterLine_18 : decode cX3_enterLine 18 = .ok (.laload, 1) := by decide +kernel
theorem dX3_enterLine_19 : decode cX3_enterLine 19 = .ok (.lstore 4, 2) := by decide +kernel
theorem dX3_enterLine_21 : decode cX3_enterLine 21 = .ok (.lload 4, 2) := by decide +kernel
theorem dX3_enterLine_23 : decode cX3_enterLine 23 = .ok (.ldc2_w 70, 3) := by decide +kernel
theorem dX3_enterLine_26 : decode cX3_enterLine 26 = .ok (.lcmp, 1) := by decide +kernel
theorem dX3_enterLine_27 : decode cX3_enterLine 27 = .ok (.ifCond .ne 4, 3) := by decide +kernel
theorem dX3_enterLine_30 : decode cX3_enterLine 30 = .ok (.return_, 1) := by decide +kernel
theorem dX3_enterLine_31 : decode cX3_enterLine 31 = .ok (.lload 4, 2) := by decide +kernel
theorem dX3_enterLine_33 : decode cX3_enterLine 33 = .ok (.lconst 1, 1) := by decide +kernel
theorem dX3_enterLine_34 : decode cX3_enterLine 34 = .ok (.ladd, 1) := by decide +kernel
theorem dX3_enterLine_35 : decode cX3_enterLine 35 = .ok (.ldc2_w 112, 3) := by decide +kernel
theorem dX3_enterLine_38 : decode cX3_enterLine 38 = .ok (.aload_n 0, 1) := by decide +kernel
theorem dX3_enterLine_39 : decode cX3_enterLine 39 = .ok (.iload_n 1, 1) := by decide +kernel
theorem dX3_enterLine_40 : decode cX3_enterLine 40 = .ok (.iload_n 2, 1) := by decide +kernel
theorem dX3_enterLine_41 : decode cX3_enterLine 41 = .ok (.invokevirtual 114, 3) := by decide +kernel
theorem dX3_enterLine_44 : decode cX3_enterLine 44 = .ok (.lmul, 1) := by decide +kernel
theorem dX3_enterLine_45 : decode cX3_enterLine 45 = .ok (.ladd, 1) := by decide +kernel
theorem dX3_enterLine_46 : decode cX3_enterLine 46 = .ok (.lstore 6, 2) := by decide +kernel
theorem dX3_enterLine_48 : decode cX3_enterLine 48 = .ok (.iconst 0, 1) := by decide +kernel
theorem dX3_enterLine_49 : decode cX3_enterLine 49 = .ok (.istore 8, 2) := by decide +kernel
theorem dX3_enterLine_51 : decode cX3_enterLine 51 = .ok (.iload 8, 2) := by decide +kernel
theorem dX3_enterLine_53 : decode cX3_enterLine 53 = .ok (.iconst 4, 1) := by decide +kernel
theorem dX3_enterLine_54 : decode cX3_enterLine 54 = .ok (.if_icmp .ge 94, 3) := by decide +kernel
theorem dX3_enterLine_57 : decode cX3_enterLine 57 = .ok (.iload_n 1, 1) := by decide +kernel
theorem dX3_enterLine_58 : decode cX3_enterLine 58 = .ok (.iconst (-1), 1) := by decide +kernel
theorem dX3_enterLine_59 : decode cX3_enterLine 59 = .ok (.if_icmp .eq 22, 3) := by decide +kernel
theorem dX3_enterLine_62 : decode cX3_enterLine 62 = .ok (.iload 8, 2) := by decide +kernel
theorem dX3_enterLine_64 : decode cX3_enterLine 64 = .ok (.aload_n 0, 1) := by decide +kernel
theorem dX3_enterLine_65 : decode cX3_enterLine 65 = .ok (.getfield 16, 3) := by decide +kernel
theorem dX3_enterLine_68 : decode cX3_enterLine 68 = .ok (.getfield 109, 3) := by decide +kernel
theorem dX3_enterLine_71 : decode cX3_enterLine 71 = .ok (.invokestatic 118, 3) := by decide +kernel
theorem dX3_enterLine_74 : decode cX3_enterLine 74 = .ok (.ifCond .eq 7, 3) := by decide +kernel
theorem dX3_enterLine_77 : decode cX3_enterLine 77 = .ok (.iconst 1, 1) := by decide +kernel
theorem dX3_enterLine_78 : decode cX3_enterLine 78 = .ok (.goto 4, 3) := by decide +kernel
theorem dX3_enterLine_81 : decode cX3_enterLine 81 = .ok (.iconst 0, 1) := by decide +kernel
theorem dX3_enterLine_82 : decode cX3_enterLine 82 = .ok (.istore 9, 2) := by decide +kernel
theorem dX3_enterLine_84 : decode cX3_enterLine 84 = .ok (.iload 9, 2) := by decide +kernel
theorem dX3_enterLine_86 : decode cX3_enterLine 86 = .ok (.ifCond .eq 12, 3) := by decide +kernel
theorem dX3_enterLine_89 : decode cX3_enterLine 89 = .ok (.lload 6, 2) := by decide +kernel
theorem dX3_enterLine_91 : decode cX3_enterLine 91 = .ok (.ldc2_w 122, 3) := by decide +kernel
theorem dX3_enterLine_94 : decode cX3_enterLine 94 = .ok (.ladd, 1) := by decide +kernel
theorem dX3_enterLine_95 : decode cX3_enterLine 95 = .ok (.goto 5, 3) := by decide +kernel
theorem dX3_enterLine_98 : decode cX3_enterLine 98 = .ok (.lload 6, 2) := by decide +kernel
theorem dX3_enterLine_100 : decode cX3_enterLine 100 = .ok (.lstore 10, 2) := by decide +kernel
theorem dX3_enterLine_102 : decode cX3_enterLine 102 = .ok (.iload_n 1, 1) := by decide +kernel
theorem dX3_enterLine_103 : decode cX3_enterLine 103 = .ok (.iload_n 3, 1) := by decide +kernel
theorem dX3_enterLine_104 : decode cX3_enterLine 104 = .ok (.iload 8, 2) := by decide +kernel
theorem dX3_enterLine_106 : decode cX3_enterLine 106 = .ok (.invokestatic 66, 3) := by decide +kernel
theorem dX3_enterLine_109 : decode cX3_enterLine 109 = .ok (.istore 12, 2) := by decide +kernel
theorem dX3_enterLine_111 : decode cX3_enterLine 111 = .ok (.lload 10, 2) := by decide +kernel
theorem dX3_enterLine_113 : decode cX3_enterLine 113 = .ok (.aload_n 0, 1) := by decide +kernel
theorem dX3_enterLine_114 : decode cX3_enterLine 114 = .ok (.getfield 20, 3) := by decide +kernel
theorem dX3_enterLine_117 : decode cX3_enterLine 117 = .ok (.iload 12, 2) := by decide +kernel
theorem dX3_enterLine_119 : decode cX3_enterLine 119 = .ok (.laload, 1) := by decide +kernel
theorem dX3_enterLine_120 : decode cX3_enterLine 120 = .ok (.lcmp, 1) := by decide +kernel
theorem dX3_enterLine_121 : decode cX3_enterLine 121 = .ok (.ifCond .ge 21, 3) := by decide +kernel
theorem dX3_enterLine_124 : decode cX3_enterLine 124 = .ok (.aload_n 0, 1) := by decide +kernel
theorem dX3_enterLine_125 : decode cX3_enterLine 125 = .ok (.getfield 20, 3) := by decide +kernel
theorem dX3_enterLine_128 : decode cX3_enterLine 128 = .ok (.iload 12, 2) := by decide +kernel
theorem dX3_enterLine_130 : decode cX3_enterLine 130 = .ok (.lload 10, 2) := by decide +kernel
theorem dX3_enterLine_132 : decode cX3_enterLine 132 = .ok (.lastore, 1) := by decide +kernel
theorem dX3_enterLine_133 : decode cX3_enterLine 133 = .ok (.aload_n 0, 1) := by decide +kernel
theorem dX3_enterLine_134 : decode cX3_enterLine 134 = .ok (.getfield 24, 3) := by decide +kernel
theorem dX3_enterLine_137 : decode cX3_enterLine 137 = .ok (.iload 12, 2) := by decide +kernel
theorem dX3_enterLine_139 : decode cX3_enterLine 139 = .ok (.iload_n 2, 1) := by decide +kernel
theorem dX3_enterLine_140 : decode cX3_enterLine 140 = .ok (.i2b, 1) := by decide +kernel
theorem dX3_enterLine_141 : decode cX3_enterLine 141 = .ok (.bastore, 1) := by decide +kernel
theorem dX3_enterLine_142 : decode cX3_enterLine 142 = .ok (.iinc 8 1, 3) := by decide +kernel
theorem dX3_enterLine_145 : decode cX3_enterLine 145 = .ok (.goto (-94), 3) := by decide +kernel
theorem dX3_enterLine_148 : decode cX3_enterLine 148 = .ok (.return_, 1) := by decide +kernel
set_option maxRecDepth 20000 in
theorem ggX3_demeritsOfLine_X0_penaltyDemerits : GoodIn wsX3_demeritsOfLine wsX0_penaltyDemerits := goodIn_r _ [8, 9, 10, 11, 12, 6, 13, 14, 15, 30, 31, 32, 33, 34, 35, 36, 37] (by decide +kernel) (by decide +kernel)
set_option maxRecDepth 20000 in
theorem gX3_demeritsOfLine_X0_penaltyDemerits_n129 : GoodIn wsX3_demeritsOfLine (wsX0_penaltyDemerits) := ggX3_demeritsOfLine_X0_penaltyDemerits
set_option maxRecDepth 20000 in
theorem ggX3_demeritsOfLine_X0_isMarked : GoodIn wsX3_demeritsOfLine wsX0_isMarked := goodIn_r _ [18, 19, 10, 11, 12, 6, 13, 14, 15, 30, 31, 32, 33, 34, 35, 36, 37] (by decide +kernel) (by decide +kernel)
set_option maxRecDepth 20000 in
theorem gX3_demeritsOfLine_X0_isMarked_n133 : GoodIn wsX3_demeritsOfLine (wsX0_isMarked) := ggX3_demeritsOfLine_X0_isMarked
theorem dX3_demeritsOfLine_0 : decode cX3_demeritsOfLine 0 = .ok (.ldc2_w 124, 3) := by decide +kernel
theorem dX3_demeritsOfLine_3 : decode cX3_demeritsOfLine 3 = .ok (.aload_n 0, 1) := by decide +kernel
theorem dX3_demeritsOfLine_4 : decode cX3_demeritsOfLine 4 = .ok (.getfield 16, 3) := by decide +kernel
theorem dX3_demeritsOfLine_7 : decode cX3_demeritsOfLine 7 = .ok (.getfield 126, 3) := by decide +kernel
theorem dX3_demeritsOfLine_10 : decode cX3_demeritsOfLine 10 = .ok (.i2l, 1) := by decide +kernel
theorem dX3_demeritsOfLine_11 : decode cX3_demeritsOfLine 11 = .ok (.ladd, 1) := by decide +kernel
theorem dX3_demeritsOfLine_12 : decode cX3_demeritsOfLine 12 = .ok (.lstore_n 3, 1) := by decide +kernel
theorem dX3_demeritsOfLine_13 : decode cX3_demeritsOfLine 13 = .ok (.lload_n 3, 1) := by decide +kernel
theorem dX3_demeritsOfLine_14 : decode cX3_demeritsOfLine 14 = .ok (.lload_n 3, 1) := by decide +kernel
theorem dX3_demeritsOfLine_15 : decode cX3_demeritsOfLine 15 = .ok (.lmul, 1) := by decide +kernel
theorem dX3_demeritsOfLine_16 : decode cX3_demeritsOfLine 16 = .ok (.aload_n 0, 1) := by decide +kernel
theorem dX3_demeritsOfLine_17 : decode cX3_demeritsOfLine 17 = .ok (.getfield 28, 3) := by decide +kernel
theorem dX3_demeritsOfLine_20 : decode cX3_demeritsOfLine 20 = .ok (.iload_n 2, 1) := by decide +kernel
theorem dX3_demeritsOfLine_21 : decode cX3_demeritsOfLine 21 = .ok (.invokevirtual 129, 3) := by decide +kernel
theorem dX3_demeritsOfLine_24 : decode cX3_demeritsOfLine 24 = .ok (.ladd, 1) := by decide +kernel
theorem dX3_demeritsOfLine_25 : decode cX3_demeritsOfLine 25 = .ok (.lstore 5, 2) := by decide +kernel
theorem dX3_demeritsOfLine_27 : decode cX3_demeritsOfLine 27 = .ok (.aload_n 0, 1) := by decide +kernel
theorem dX3_demeritsOfLine_28 : decode cX3_demeritsOfLine 28 = .ok (.getfield 28, 3) := by decide +kernel
theorem dX3_demeritsOfLine_31 : decode cX3_demeritsOfLine 31 = .ok (.iload_n 1, 1) := by decide +kernel
theorem dX3_demeritsOfLine_32 : decode cX3_demeritsOfLine 32 = .ok (.invokevirtual 133, 3) := by decide +kernel
theorem dX3_demeritsOfLine_35 : decode cX3_demeritsOfLine 35 = .ok (.ifCond .eq 23, 3) := by decide +kernel
theorem dX3_demeritsOfLine_38 : decode cX3_demeritsOfLine 38 = .ok (.aload_n 0, 1) := by decide +kernel
theorem dX3_demeritsOfLine_39 : decode cX3_demeritsOfLine 39 = .ok (.getfield 28, 3) := by decide +kernel
theorem dX3_demeritsOfLine_42 : decode cX3_demeritsOfLine 42 = .ok (.iload_n 2, 1) := by decide +kernel
theorem dX3_demeritsOfLine_43 : decode cX3_demeritsOfLine 43 = .ok (.invokevirtual 133, 3) := by decide +kernel
theorem dX3_demeritsOfLine_46 : decode cX3_demeritsOfLine 46 = .ok (.ifCond .eq 12, 3) := by decide +kernel
theorem dX3_demeritsOfLine_49 : decode cX3_demeritsOfLine 49 = .ok (.lload 5, 2) := by decide +kernel
theorem dX3_demeritsOfLine_51 : decode cX3_demeritsOfLine 51 = .ok (.ldc2_w 136, 3) := by decide +kernel
theorem dX3_demeritsOfLine_54 : decode cX3_demeritsOfLine 54 = .ok (.ladd, 1) := by decide +kernel
theorem dX3_demeritsOfLine_55 : decode cX3_demeritsOfLine 55 = .ok (.goto 5, 3) := by decide +kernel
theorem dX3_demeritsOfLine_58 : decode cX3_demeritsOfLine 58 = .ok (.lload 5, 2) := by decide +kernel
theorem dX3_demeritsOfLine_60 : decode cX3_demeritsOfLine 60 = .ok (.lreturn, 1) := by decide +kernel
set_option maxRecDepth 20000 in
theorem ggX3_tell_X4_forget : GoodIn wsX3_tell wsX4_forget := goodIn_r _ [11, 12, 13, 14, 90, 91, 92, 93, 94, 95, 96] (by decide +kernel) (by decide +kernel)
set_option maxRecDepth 20000 in
theorem gX3_tell_X4_forget_n138 : GoodIn wsX3_tell (wsX4_forget) := ggX3_tell_X4_forget
set_option maxRecDepth 20000 in
theorem ggX3_tell_X3_cellOf : GoodIn wsX3_tell wsX3_cellOf := goodIn_r _ [18] (by decide +kernel) (by decide +kernel)
set_option maxRecDepth 20000 in
theorem gX3_tell_X3_cellOf : GoodIn wsX3_tell (va_wsS RX3 66 yX3_cellOf wsX3_cellOf) := goodIn_app (goodIn_of _ (by decide +kernel)) ggX3_tell_X3_cellOf
set_option maxRecDepth 20000 in
theorem ggX3_tell_J9_floorDiv_f86c9 : GoodIn wsX3_tell wsJ9_floorDiv_f86c9 := goodIn_r _ [22] (by decide +kernel) (by decide +kernel)
set_option maxRecDepth 20000 in
theorem gX3_tell_J9_floorDiv_f86c9 : GoodIn wsX3_tell (va_wsS RX3 144 yJ9_floorDiv_f86c9 wsJ9_floorDiv_f86c9) := goodIn_app (goodIn_of _ (by decide +kernel)) ggX3_tell_J9_floorDiv_f86c9
set_option maxRecDepth 20000 in
theorem ggX3_tell_X0_startBehind : GoodIn wsX3_tell wsX0_startBehind := goodIn_r _ [26, 27, 28, 97, 98, 99, 100, 101, 102, 103, 104] (by decide +kernel) (by decide +kernel)
set_option maxRecDepth 20000 in
theorem gX3_tell_X0_startBehind_n72 : GoodIn wsX3_tell (wsX0_startBehind) := ggX3_tell_X0_startBehind
set_option maxRecDepth 20000 in
theorem ggX3_tell_X2_moreStretchIn : GoodIn wsX3_tell wsX2_moreStretchIn := goodIn_r _ [32, 33, 105, 106] (by decide +kernel) (by decide +kernel)
set_option maxRecDepth 20000 in
theorem gX3_tell_X2_moreStretchIn_n86 : GoodIn wsX3_tell (wsX2_moreStretchIn) := ggX3_tell_X2_moreStretchIn
set_option maxRecDepth 20000 in
theorem ggX3_tell_X1_measure : GoodIn wsX3_tell wsX1_measure := goodIn_r _ [37, 38, 39, 40, 41, 42, 43, 24, 44, 45, 46, 47, 48, 49, 50, 27, 28, 51, 52, 53, 35, 54, 55, 56, 57, 58, 59, 60, 61, 62, 63, 64, 65, 66, 67, 68, 69, 70, 71, 72, 73, 74, 75, 76, 97, 98, 99, 100, 101, 102, 103, 104, 107, 108, 109, 110] (by decide +kernel) (by decide +kernel)
set_option maxRecDepth 20000 in
theorem gX3_tell_X1_measure_n99 : GoodIn wsX3_tell (wsX1_measure) := ggX3_tell_X1_measure
set_option maxRecDepth 20000 in
theorem ggX3_tell_X4_append : GoodIn wsX3_tell wsX4_append := goodIn_r _ [79, 12, 80, 81, 82, 83, 90, 91, 92, 93, 94, 95, 96, 107, 108, 109, 110] (by decide +kernel) (by decide +kernel)
set_option maxRecDepth 20000 in
theorem gX3_tell_X4_append_n152 : GoodIn wsX3_tell (wsX4_append) := ggX3_tell_X4_append
theorem dX3_tell_0 : decode cX3_tell 0 = .ok (.aload_n 1, 1) := by decide +kernel
theorem dX3_tell_1 : decode cX3_tell 1 = .ok (.invokevirtual 138, 3) := by decide +kernel
theorem dX3_tell_4 : decode cX3_tell 4 = .ok (.aload_n 1, 1) := by decide +kernel
theorem dX3_tell_5 : decode cX3_tell 5 = .ok (.aload_n 0, 1) := by decide +kernel
theorem dX3_tell_6 : decode cX3_tell 6 = .ok (.getfield 36, 3) := by decide +kernel
theorem dX3_tell_9 : decode cX3_tell 9 = .ok (.putfield 143, 3) := by decide +kernel
theorem dX3_tell_12 : decode cX3_tell 12 = .ok (.aload_n 1, 1) := by decide +kernel
theorem dX3_tell_13 : decode cX3_tell 13 = .ok (.aload_n 0, 1) := by decide +kernel
theorem dX3_tell_14 : decode cX3_tell 14 = .ok (.getfield 20, 3) := by decide +kernel
theorem dX3_tell_17 : decode cX3_tell 17 = .ok (.iconst (-1), 1) := by decide +kernel
theorem dX3_tell_18 : decode cX3_tell 18 = .ok (.iconst 0, 1) := by decide +kernel
theorem dX3_tell_19 : decode cX3_tell 19 = .ok (.iconst 0, 1) := by decide +kernel
theorem dX3_tell_20 : decode cX3_tell 20 = .ok (.invokestatic 66, 3) := by decide +kernel
theorem dX3_tell_23 : decode cX3_tell 23 = .ok (.laload, 1) := by decide +kernel
theorem dX3_tell_24 : decode cX3_tell 24 = .ok (.ldc2_w 112, 3) := by decide +kernel
theorem dX3_tell_27 : decode cX3_tell 27 = .ok (.invokestatic 144, 3) := by decide +kernel
theorem dX3_tell_30 : decode cX3_tell 30 = .ok (.putfield 148, 3) := by decide +kernel
theorem dX3_tell_33 : decode cX3_tell 33 = .ok (.iconst (-1), 1) := by decide +kernel
theorem dX3_tell_34 : decode cX3_tell 34 = .ok (.istore_n 2, 1) := by decide +kernel
theorem dX3_tell_35 : decode cX3_tell 35 = .ok (.iconst 0, 1) := by decide +kernel
theorem dX3_tell_36 : decode cX3_tell 36 = .ok (.istore_n 3, 1) := by decide +kernel
theorem dX3_tell_37 : decode cX3_tell 37 = .ok (.iconst 0, 1) := by decide +kernel
theorem dX3_tell_38 : decode cX3_tell 38 = .ok (.istore 4, 2) := by decide +kernel
theorem dX3_tell_40 : decode cX3_tell 40 = .ok (.iload 4, 2) := by decide +kernel
theorem dX3_tell_42 : decode cX3_tell 42 = .ok (.bipush 50, 2) := by decide +kernel
theorem dX3_tell_44 : decode cX3_tell 44 = .ok (.if_icmp .ge 116, 3) := by decide +kernel
theorem dX3_tell_47 : decode cX3_tell 47 = .ok (.iload_n 2, 1) := by decide +kernel
theorem dX3_tell_48 : decode cX3_tell 48 = .ok (.aload_n 0, 1) := by decide +kernel
theorem dX3_tell_49 : decode cX3_tell 49 = .ok (.getfield 28, 3) := by decide +kernel
theorem dX3_tell_52 : decode cX3_tell 52 = .ok (.getfield 53, 3) := by decide +kernel
theorem dX3_tell_55 : decode cX3_tell 55 = .ok (.if_icmp .ge 105, 3) := by decide +kernel
theorem dX3_tell_58 : decode cX3_tell 58 = .ok (.aload_n 0, 1) := by decide +kernel
theorem dX3_tell_59 : decode cX3_tell 59 = .ok (.getfield 24, 3) := by decide +kernel
theorem dX3_tell_62 : decode cX3_tell 62 = .ok (.iload_n 2, 1) := by decide +kernel
theorem dX3_tell_63 : decode cX3_tell 63 = .ok (.iload 4, 2) := by decide +kernel
theorem dX3_tell_65 : decode cX3_tell 65 = .ok (.iload_n 3, 1) := by decide +kernel
theorem dX3_tell_66 : decode cX3_tell 66 = .ok (.invokestatic 66, 3) := by decide +kernel
theorem dX3_tell_69 : decode cX3_tell 69 = .ok (.baload, 1) := by decide +kernel
theorem dX3_tell_70 : decode cX3_tell 70 = .ok (.istore 5, 2) := by decide +kernel
theorem dX3_tell_72 : decode cX3_tell 72 = .ok (.iload 5, 2) := by decide +kernel
theorem dX3_tell_74 : decode cX3_tell 74 = .ok (.iload_n 2, 1) := by decide +kernel
theorem dX3_tell_75 : decode cX3_tell 75 = .ok (.if_icmp .le 15, 3) := by decide +kernel
theorem dX3_tell_78 : decode cX3_tell 78 = .ok (.iload 5, 2) := by decide +kernel
theorem dX3_tell_80 : decode cX3_tell 80 = .ok (.aload_n 0, 1) := by decide +kernel
theorem dX3_tell_81 : decode cX3_tell 81 = .ok (.getfield 28, 3) := by decide +kernel
theorem dX3_tell_84 : decode cX3_tell 84 = .ok (.getfield 53, 3) := by decide +kernel
theorem dX3_tell_87 : decode cX3_tell 87 = .ok (.if_icmp .le 4, 3) := by decide +kernel
theorem dX3_tell_90 : decode cX3_tell 90 = .ok (.return_, 1) := by decide +kernel
theorem dX3_tell_91 : decode cX3_tell 91 = .ok (.aload_n 0, 1) := by decide +kernel
theorem dX3_tell_92 : decode cX3_tell 92 = .ok (.getfield 16, 3) := by decide +kernel
theorem dX3_tell_95 : decode cX3_tell 95 = .ok (.aload_n 0, 1) := by decide +kernel
theorem dX3_tell_96 : decode cX3_tell 96 = .ok (.getfield 28, 3) := by decide +kernel
theorem dX3_tell_99 : decode cX3_tell 99 = .ok (.aload_n 0, 1) := by decide +kernel
theorem dX3_tell_100 : decode cX3_tell 100 = .ok (.getfield 28, 3) := by decide +kernel
theorem dX3_tell_103 : decode cX3_tell 103 = .ok (.iload_n 2, 1) := by decide +kernel
theorem dX3_tell_104 : decode cX3_tell 104 = .ok (.invokevirtual 72, 3) := by decide +kernel
theorem dX3_tell_107 : decode cX3_tell 107 = .ok (.iload 5, 2) := by decide +kernel
theorem dX3_tell_109 : decode cX3_tell 109 = .ok (.aload_n 0, 1) := by decide +kernel
theorem dX3_tell_110 : decode cX3_tell 110 = .ok (.getfield 32, 3) := by decide +kernel
theorem dX3_tell_113 : decode cX3_tell 113 = .ok (.getfield 95, 3) := by decide +kernel
theorem dX3_tell_116 : decode cX3_tell 116 = .ok (.iload 4, 2) := by decide +kernel
theorem dX3_tell_118 : decode cX3_tell 118 = .ok (.iaload, 1) := by decide +kernel
theorem dX3_tell_119 : decode cX3_tell 119 = .ok (.aload_n 0, 1) := by decide +kernel
theorem dX3_tell_120 : decode cX3_tell 120 = .ok (.getfield 32, 3) := by decide +kernel
theorem dX3_tell_123 : decode cX3_tell 123 = .ok (.aload_n 0, 1) := by decide +kernel
theorem dX3_tell_124 : decode cX3_tell 124 = .ok (.getfield 36, 3) := by decide +kernel
theorem dX3_tell_127 : decode cX3_tell 127 = .ok (.invokevirtual 86, 3) := by decide +kernel
theorem dX3_tell_130 : decode cX3_tell 130 = .ok (.invokevirtual 99, 3) := by decide +kernel
theorem dX3_tell_133 : decode cX3_tell 133 = .ok (.aload_n 1, 1) := by decide +kernel
theorem dX3_tell_134 : decode cX3_tell 134 = .ok (.iload 5, 2) := by decide +kernel
theorem dX3_tell_136 : decode cX3_tell 136 = .ok (.aload_n 0, 1) := by decide +kernel
theorem dX3_tell_137 : decode cX3_tell 137 = .ok (.getfield 16, 3) := by decide +kernel
theorem dX3_tell_140 : decode cX3_tell 140 = .ok (.invokevirtual 152, 3) := by decide +kernel
theorem dX3_tell_143 : decode cX3_tell 143 = .ok (.iload 5, 2) := by decide +kernel
theorem dX3_tell_145 : decode cX3_tell 145 = .ok (.istore_n 2, 1) := by decide +kernel
theorem dX3_tell_146 : decode cX3_tell 146 = .ok (.aload_n 0, 1) := by decide +kernel
theorem dX3_tell_147 : decode cX3_tell 147 = .ok (.getfield 16, 3) := by decide +kernel
theorem dX3_tell_150 : decode cX3_tell 150 = .ok (.getfield 109, 3) := by decide +kernel
theorem dX3_tell_153 : decode cX3_tell 153 = .ok (.istore_n 3, 1) := by decide +kernel
theorem dX3_tell_154 : decode cX3_tell 154 = .ok (.iinc 4 1, 3) := by decide +kernel
theorem dX3_tell_157 : decode cX3_tell 157 = .ok (.goto (-117), 3) := by decide +kernel
theorem dX3_tell_160 : decode cX3_tell 160 = .ok (.return_, 1) := by decide +kernel
theorem dX4_init_0 : decode cX4_init 0 = .ok (.aload_n 0, 1) := by decide +kernel
theorem dX4_init_1 : decode cX4_init 1 = .ok (.invokespecial 3, 3) := by decide +kernel
theorem dX4_init_4 : decode cX4_init 4 = .ok (.aload_n 0, 1) := by decide +kernel
theorem dX4_init_5 : decode cX4_init 5 = .ok (.bipush 50, 2) := by decide +kernel
theorem dX4_init_7 : decode cX4_init 7 = .ok (.newarray .int, 2) := by decide +kernel
theorem dX4_init_9 : decode cX4_init 9 = .ok (.putfield 9, 3) := by decide +kernel
theorem dX4_init_12 : decode cX4_init 12 = .ok (.aload_n 0, 1) := by decide +kernel
theorem dX4_init_13 : decode cX4_init 13 = .ok (.bipush 50, 2) := by decide +kernel
theorem dX4_init_15 : decode cX4_init 15 = .ok (.newarray .int, 2) := by decide +kernel
theorem dX4_init_17 : decode cX4_init 17 = .ok (.putfield 15, 3) := by decide +kernel
theorem dX4_init_20 : decode cX4_init 20 = .ok (.aload_n 0, 1) := by decide +kernel
theorem dX4_init_21 : decode cX4_init 21 = .ok (.bipush 50, 2) := by decide +kernel
theorem dX4_init_23 : decode cX4_init 23 = .ok (.newarray .int, 2) := by decide +kernel
theorem dX4_init_25 : decode cX4_init 25 = .ok (.putfield 18, 3) := by decide +kernel
theorem dX4_init_28 : decode cX4_init 28 = .ok (.aload_n 0, 1) := by decide +kernel
theorem dX4_init_29 : decode cX4_init 29 = .ok (.bipush 50, 2) := by decide +kernel
theorem dX4_init_31 : decode cX4_init 31 = .ok (.newarray .int, 2) := by decide +kernel
theorem dX4_init_33 : decode cX4_init 33 = .ok (.putfield 21, 3) := by decide +kernel
theorem dX4_init_36 : decode cX4_init 36 = .ok (.return_, 1) := by decide +kernel
theorem dX4_forget_0 : decode cX4_forget 0 = .ok (.aload_n 0, 1) := by decide +kernel
theorem dX4_forget_1 : decode cX4_forget 1 = .ok (.iconst 0, 1) := by decide +kernel
theorem dX4_forget_2 : decode cX4_forget 2 = .ok (.putfield 24, 3) := by decide +kernel
theorem dX4_forget_5 : decode cX4_forget 5 = .ok (.aload_n 0, 1) := by decide +kernel
theorem dX4_forget_6 : decode cX4_forget 6 = .ok (.iconst 0, 1) := by decide +kernel
theorem dX4_forget_7 : decode cX4_forget 7 = .ok (.putfield 28, 3) := by decide +kernel
theorem dX4_forget_10 : decode cX4_forget 10 = .ok (.aload_n 0, 1) := by decide +kernel
theorem dX4_forget_11 : decode cX4_forget 11 = .ok (.lconst 0, 1) := by decide +kernel
theorem dX4_forget_12 : decode cX4_forget 12 = .ok (.putfield 31, 3) := by decide +kernel
theorem dX4_forget_15 : decode cX4_forget 15 = .ok (.return_, 1) := by decide +kernel
theorem dX4_append_0 : decode cX4_append 0 = .ok (.aload_n 0, 1) := by decide +kernel
theorem dX4_append_1 : decode cX4_append 1 = .ok (.getfield 24, 3) := by decide +kernel
theorem dX4_append_4 : decode cX4_append 4 = .ok (.bipush 50, 2) := by decide +kernel
theorem dX4_append_6 : decode cX4_append 6 = .ok (.if_icmp .lt 4, 3) := by decide +kernel
theorem dX4_append_9 : decode cX4_append 9 = .ok (.return_, 1) := by decide +kernel
theorem dX4_append_10 : decode cX4_append 10 = .ok (.aload_n 0, 1) := by decide +kernel
theorem dX4_append_11 : decode cX4_append 11 = .ok (.getfield 9, 3) := by decide +kernel
theorem dX4_append_14 : decode cX4_append 14 = .ok (.aload_n 0, 1) := by decide +kernel
theorem dX4_append_15 : decode cX4_append 15 = .ok (.getfield 24, 3) := by decide +kernel
theorem dX4_append_18 : decode cX4_append 18 = .ok (.iload_n 1, 1) := by decide +kernel
theorem dX4_append_19 : decode cX4_append 19 = .ok (.iastore, 1) := by decide +kernel
theorem dX4_append_20 : decode cX4_append 20 = .ok (.aload_n 0, 1) := by decide +kernel
theorem dX4_append_21 : decode cX4_append 21 = .ok (.getfield 15, 3) := by decide +kernel
theorem dX4_append_24 : decode cX4_append 24 = .ok (.aload_n 0, 1) := by decide +kernel
theorem dX4_append_25 : decode cX4_append 25 = .ok (.getfield 24, 3) := by decide +kernel
theorem dX4_append_28 : decode cX4_append 28 = .ok (.aload_n 2, 1) := by decide +kernel
theorem dX4_append_29 : decode cX4_append 29 = .ok (.getfield 35, 3) := by decide +kernel
theorem dX4_append_32 : decode cX4_append 32 = .ok (.iastore, 1) := by decide +kernel
theorem dX4_append_33 : decode cX4_append 33 = .ok (.aload_n 0, 1) := by decide +kernel
theorem dX4_append_34 : decode cX4_append 34 = .ok (.getfield 18, 3) := by decide +kernel
theorem dX4_append_37 : decode cX4_append 37 = .ok (.aload_n 0, 1) := by decide +kernel
theorem dX4_append_38 : decode cX4_append 38 = .ok (.getfield 24, 3) := by decide +kernel
theorem dX4_append_41 : decode cX4_append 41 = .ok (.aload_n 2, 1) := by decide +kernel
theorem dX4_append_42 : decode cX4_append 42 = .ok (.getfield 40, 3) := by decide +kernel
theorem dX4_append_45 : decode cX4_append 45 = .ok (.iastore, 1) := by decide +kernel
theorem dX4_append_46 : decode cX4_append 46 = .ok (.aload_n 0, 1) := by decide +kernel
theorem dX4_append_47 : decode cX4_append 47 = .ok (.getfield 21, 3) := by decide +kernel
theorem dX4_append_50 : decode cX4_append 50 = .ok (.aload_n 0, 1) := by decide +kernel
theorem dX4_append_51 : decode cX4_append 51 = .ok (.getfield 24, 3) := by decide +kernel
theorem dX4_append_54 : decode cX4_append 54 = .ok (.aload_n 2, 1) := by decide +kernel
theorem dX4_append_55 : decode cX4_append 55 = .ok (.getfield 43, 3) := by decide +kernel
theorem dX4_append_58 : decode cX4_append 58 = .ok (.iastore, 1) := by decide +kernel
theorem dX4_append_59 : decode cX4_append 59 = .ok (.aload_n 0, 1) := by decide +kernel
theorem dX4_append_60 : decode cX4_append 60 = .ok (.dup, 1) := by decide +kernel
theorem dX4_append_61 : decode cX4_append 61 = .ok (.getfield 24, 3) := by decide +kernel
theorem dX4_append_64 : decode cX4_append 64 = .ok (.iconst 1, 1) := by decide +kernel
theorem dX4_append_65 : decode cX4_append 65 = .ok (.iadd, 1) := by decide +kernel
theorem dX4_append_66 : decode cX4_append 66 = .ok (.putfield 24, 3) := by decide +kernel
theorem dX4_append_69 : decode cX4_append 69 = .ok (.return_, 1) := by decide +kernel
theorem dX4_hasLine_0 : decode cX4_hasLine 0 = .ok (.iload_n 1, 1) := by decide +kernel
theorem dX4_hasLine_1 : decode cX4_hasLine 1 = .ok (.ifCond .lt 15, 3) := by decide +kernel
theorem dX4_hasLine_4 : decode cX4_hasLine 4 = .ok (.iload_n 1, 1) := by decide +kernel
theorem dX4_hasLine_5 : decode cX4_hasLine 5 = .ok (.aload_n 0, 1) := by decide +kernel
theorem dX4_hasLine_6 : decode cX4_hasLine 6 = .ok (.getfield 24, 3) := by decide +kernel
theorem dX4_hasLine_9 : decode cX4_hasLine 9 = .ok (.if_icmp .ge 7, 3) := by decide +kernel
theorem dX4_hasLine_12 : decode cX4_hasLine 12 = .ok (.iconst 1, 1) := by decide +kernel
theorem dX4_hasLine_13 : decode cX4_hasLine 13 = .ok (.goto 4, 3) := by decide +kernel
theorem dX4_hasLine_16 : decode cX4_hasLine 16 = .ok (.iconst 0, 1) := by decide +kernel
theorem dX4_hasLine_17 : decode cX4_hasLine 17 = .ok (.ireturn, 1) := by decide +kernel
set_option maxRecDepth 20000 in
theorem ggX5_init_X0_init : GoodIn wsX5_init wsX0_init := goodIn_r _ [21, 22, 2, 3, 23, 24, 25, 26, 27, 28, 29, 30, 31, 64, 65, 66, 67, 68, 69, 70, 71] (by decide +kernel) (by decide +kernel)
set_option maxRecDepth 20000 in
theorem gX5_init_X0_init_n9 : GoodIn wsX5_init (wsX0_init) := ggX5_init_X0_init
set_option maxRecDepth 20000 in
theorem ggX5_init_X2_init : GoodIn wsX5_init wsX2_init := goodIn_r _ [33, 34, 2, 3, 23, 35, 36, 37, 38, 39, 40, 76, 77] (by decide +kernel) (by decide +kernel)
set_option maxRecDepth 20000 in
theorem gX5_init_X2_init_n18 : GoodIn wsX5_init (wsX2_init) := ggX5_init_X2_init
set_option maxRecDepth 20000 in
theorem ggX5_init_X3_init : GoodIn wsX5_init wsX3_init := goodIn_r _ [42, 43, 2, 3, 44, 45, 46, 47, 48, 49, 50, 51, 52, 53, 54, 55, 56, 91, 92, 93, 94, 78, 79, 80, 81, 82, 83] (by decide +kernel) (by decide +kernel)
set_option maxRecDepth 20000 in
theorem gX5_init_X3_init_n27 : GoodIn wsX5_init (wsX3_init) := ggX5_init_X3_init
set_option maxRecDepth 20000 in
theorem ggX5_init_X4_init : GoodIn wsX5_init wsX4_init := goodIn_r _ [58, 59, 2, 3, 23, 60, 61, 62, 63, 84, 85, 86, 87, 88, 89, 90] (by decide +kernel) (by decide +kernel)
set_option maxRecDepth 20000 in
theorem gX5_init_X4_init_n36 : GoodIn wsX5_init (wsX4_init) := ggX5_init_X4_init
theorem dX5_init_0 : decode cX5_init 0 = .ok (.aload_n 0, 1) := by decide +kernel
theorem dX5_init_1 : decode cX5_init 1 = .ok (.invokespecial 1, 3) := by decide +kernel
theorem dX5_init_4 : decode cX5_init 4 = .ok (.aload_n 0, 1) := by decide +kernel
theorem dX5_init_5 : decode cX5_init 5 = .ok (.new 7, 3) := by decide +kernel
theorem dX5_init_8 : decode cX5_init 8 = .ok (.dup, 1) := by decide +kernel
theorem dX5_init_9 : decode cX5_init 9 = .ok (.invokespecial 9, 3) := by decide +kernel
theorem dX5_init_12 : decode cX5_init 12 = .ok (.putfield 10, 3) := by decide +kernel
theorem dX5_init_15 : decode cX5_init 15 = .ok (.aload_n 0, 1) := by decide +kernel
theorem dX5_init_16 : decode cX5_init 16 = .ok (.new 16, 3) := by decide +kernel
theorem dX5_init_19 : decode cX5_init 19 = .ok (.dup, 1) := by decide +kernel
theorem dX5_init_20 : decode cX5_init 20 = .ok (.iload_n 1, 1) := by decide +kernel
theorem dX5_init_21 : decode cX5_init 21 = .ok (.sipush 16383, 3) := by decide +kernel
theorem dX5_init_24 : decode cX5_init 24 = .ok (.iand, 1) := by decide +kernel
theorem dX5_init_25 : decode cX5_init 25 = .ok (.invokespecial 18, 3) := by decide +kernel
theorem dX5_init_28 : decode cX5_init 28 = .ok (.putfield 21, 3) := by decide +kernel
theorem dX5_init_31 : decode cX5_init 31 = .ok (.aload_n 0, 1) := by decide +kernel
theorem dX5_init_32 : decode cX5_init 32 = .ok (.new 25, 3) := by decide +kernel
theorem dX5_init_35 : decode cX5_init 35 = .ok (.dup, 1) := by decide +kernel
theorem dX5_init_36 : decode cX5_init 36 = .ok (.aload_n 0, 1) := by decide +kernel
theorem dX5_init_37 : decode cX5_init 37 = .ok (.getfield 10, 3) := by decide +kernel
theorem dX5_init_40 : decode cX5_init 40 = .ok (.aload_n 0, 1) := by decide +kernel
theorem dX5_init_41 : decode cX5_init 41 = .ok (.getfield 21, 3) := by decide +kernel
theorem dX5_init_44 : decode cX5_init 44 = .ok (.invokespecial 27, 3) := by decide +kernel
theorem dX5_init_47 : decode cX5_init 47 = .ok (.putfield 30, 3) := by decide +kernel
theorem dX5_init_50 : decode cX5_init 50 = .ok (.aload_n 0, 1) := by decide +kernel
theorem dX5_init_51 : decode cX5_init 51 = .ok (.new 34, 3) := by decide +kernel
theorem dX5_init_54 : decode cX5_init 54 = .ok (.dup, 1) := by decide +kernel
theorem dX5_init_55 : decode cX5_init 55 = .ok (.invokespecial 36, 3) := by decide +kernel
theorem dX5_init_58 : decode cX5_init 58 = .ok (.putfield 37, 3) := by decide +kernel
theorem dX5_init_61 : decode cX5_init 61 = .ok (.return_, 1) := by decide +kernel
set_option maxRecDepth 20000 in
theorem ggX5_box_X5_isWithin : GoodIn wsX5_box wsX5_isWithin := goodIn_r _ [5] (by decide +kernel) (by decide +kernel)
set_option maxRecDepth 20000 in
theorem gX5_box_X5_isWithin : GoodIn wsX5_box (va_wsS RX5 41 yX5_isWithin wsX5_isWithin) := goodIn_app (goodIn_of _ (by decide +kernel)) ggX5_box_X5_isWithin
set_option maxRecDepth 20000 in
theorem ggX5_box_X0_append : GoodIn wsX5_box wsX0_append := goodIn_r _ [9, 10, 11, 12, 13, 14, 19, 20, 21, 22, 23, 24, 25, 26] (by decide +kernel) (by decide +kernel)
set_option maxRecDepth 20000 in
theorem gX5_box_X0_append_n45 : GoodIn wsX5_box (wsX0_append) := ggX5_box_X0_append
theorem dX5_box_0 : decode cX5_box 0 = .ok (.iload_n 1, 1) := by decide +kernel
theorem dX5_box_1 : decode cX5_box 1 = .ok (.iconst 0, 1) := by decide +kernel
theorem dX5_box_2 : decode cX5_box 2 = .ok (.sipush 10000, 3) := by decide +kernel
theorem dX5_box_5 : decode cX5_box 5 = .ok (.invokestatic 41, 3) := by decide +kernel
theorem dX5_box_8 : decode cX5_box 8 = .ok (.ifCond .ne 5, 3) := by decide +kernel
theorem dX5_box_11 : decode cX5_box 11 = .ok (.iconst (-1), 1) := by decide +kernel
theorem dX5_box_12 : decode cX5_box 12 = .ok (.ireturn, 1) := by decide +kernel
theorem dX5_box_13 : decode cX5_box 13 = .ok (.aload_n 0, 1) := by decide +kernel
theorem dX5_box_14 : decode cX5_box 14 = .ok (.getfield 10, 3) := by decide +kernel
theorem dX5_box_17 : decode cX5_box 17 = .ok (.iconst 0, 1) := by decide +kernel
theorem dX5_box_18 : decode cX5_box 18 = .ok (.iload_n 1, 1) := by decide +kernel
theorem dX5_box_19 : decode cX5_box 19 = .ok (.iconst 0, 1) := by decide +kernel
theorem dX5_box_20 : decode cX5_box 20 = .ok (.iconst 0, 1) := by decide +kernel
theorem dX5_box_21 : decode cX5_box 21 = .ok (.invokevirtual 45, 3) := by decide +kernel
theorem dX5_box_24 : decode cX5_box 24 = .ok (.ireturn, 1) := by decide +kernel
set_option maxRecDepth 20000 in
theorem ggX5_glue_X5_isWithin : GoodIn wsX5_glue wsX5_isWithin := goodIn_r _ [5] (by decide +kernel) (by decide +kernel)
set_option maxRecDepth 20000 in
theorem gX5_glue_X5_isWithin : GoodIn wsX5_glue (va_wsS RX5 41 yX5_isWithin wsX5_isWithin) := goodIn_app (goodIn_of _ (by decide +kernel)) ggX5_glue_X5_isWithin
set_option maxRecDepth 20000 in
theorem ggX5_glue_X0_append : GoodIn wsX5_glue wsX0_append := goodIn_r _ [9, 10, 11, 12, 13, 14, 19, 20, 21, 22, 23, 24, 25, 26] (by decide +kernel) (by decide +kernel)
set_option maxRecDepth 20000 in
theorem gX5_glue_X0_append_n45 : GoodIn wsX5_glue (wsX0_append) := ggX5_glue_X0_append
theorem dX5_glue_0 : decode cX5_glue 0 = .ok (.iload_n 1, 1) := by decide +kernel
theorem dX5_glue_1 : decode cX5_glue 1 = .ok (.iconst 0, 1) := by decide +kernel
theorem dX5_glue_2 : decode cX5_glue 2 = .ok (.sipush 10000, 3) := by decide +kernel
theorem dX5_glue_5 : decode cX5_glue 5 = .ok (.invokestatic 41, 3) := by decide +kernel
theorem dX5_glue_8 : decode cX5_glue 8 = .ok (.ifCond .eq 25, 3) := by decide +kernel
theorem dX5_glue_11 : decode cX5_glue 11 = .ok (.iload_n 2, 1) := by decide +kernel
theorem dX5_glue_12 : decode cX5_glue 12 = .ok (.iconst 0, 1) := by decide +kernel
theorem dX5_glue_13 : decode cX5_glue 13 = .ok (.sipush 10000, 3) := by decide +kernel
theorem dX5_glue_16 : decode cX5_glue 16 = .ok (.invokestatic 41, 3) := by decide +kernel
theorem dX5_glue_19 : decode cX5_glue 19 = .ok (.ifCond .eq 14, 3) := by decide +kernel
theorem dX5_glue_22 : decode cX5_glue 22 = .ok (.iload_n 3, 1) := by decide +kernel
theorem dX5_glue_23 : decode cX5_glue 23 = .ok (.iconst 0, 1) := by decide +kernel
theorem dX5_glue_24 : decode cX5_glue 24 = .ok (.sipush 1000, 3) := by decide +kernel
theorem dX5_glue_27 : decode cX5_glue 27 = .ok (.invokestatic 41, 3) := by decide +kernel
theorem dX5_glue_30 : decode cX5_glue 30 = .ok (.ifCond .ne 5, 3) := by decide +kernel
theorem dX5_glue_33 : decode cX5_glue 33 = .ok (.iconst (-1), 1) := by decide +kernel
theorem dX5_glue_34 : decode cX5_glue 34 = .ok (.ireturn, 1) := by decide +kernel
theorem dX5_glue_35 : decode cX5_glue 35 = .ok (.aload_n 0, 1) := by decide +kernel
theorem dX5_glue_36 : decode cX5_glue 36 = .ok (.getfield 10, 3) := by decide +kernel
theorem dX5_glue_39 : decode cX5_glue 39 = .ok (.iconst 1, 1) := by decide +kernel
theorem dX5_glue_40 : decode cX5_glue 40 = .ok (.iload_n 1, 1) := by decide +kernel
theorem dX5_glue_41 : decode cX5_glue 41 = .ok (.iload_n 2, 1) := by decide +kernel
theorem dX5_glue_42 : decode cX5_glue 42 = .ok (.iload_n 3, 1) := by decide +kernel
theorem dX5_glue_43 : decode cX5_glue 43 = .ok (.invokevirtual 45, 3) := by decide +kernel
theorem dX5_glue_46 : decode cX5_glue 46 = .ok (.ireturn, 1) := by decide +kernel
set_option maxRecDepth 20000 in
theorem ggX5_penalty_X5_isWithin : GoodIn wsX5_penalty wsX5_isWithin := goodIn_r _ [5] (by decide +kernel) (by decide +kernel)
set_option maxRecDepth 20000 in
theorem gX5_penalty_X5_isWithin : GoodIn wsX5_penalty (va_wsS RX5 41 yX5_isWithin wsX5_isWithin) := goodIn_app (goodIn_of _ (by decide +kernel)) ggX5_penalty_X5_isWithin
set_option maxRecDepth 20000 in
theorem ggX5_penalty_X0_appendPenalty : GoodIn wsX5_penalty wsX0_appendPenalty := goodIn_r _ [9, 10, 11, 12, 13, 14, 15, 7, 16, 17, 18, 19, 20, 21, 26, 27, 28, 29, 30, 31, 32, 33] (by decide +kernel) (by decide +kernel)
set_option maxRecDepth 20000 in
theorem gX5_penalty_X0_appendPenalty_n49 : GoodIn wsX5_penalty (wsX0_appendPenalty) := ggX5_penalty_X0_appendPenalty
theorem dX5_penalty_0 : decode cX5_penalty 0 = .ok (.iload_n 1, 1) := by decide +kernel
theorem dX5_penalty_1 : decode cX5_penalty 1 = .ok (.sipush (-10000), 3) := by decide +kernel
theorem dX5_penalty_4 : decode cX5_penalty 4 = .ok (.sipush 10000, 3) := by decide +kernel
theorem dX5_penalty_7 : decode cX5_penalty 7 = .ok (.invokestatic 41, 3) := by decide +kernel
theorem dX5_penalty_10 : decode cX5_penalty 10 = .ok (.ifCond .eq 14, 3) := by decide +kernel
theorem dX5_penalty_13 : decode cX5_penalty 13 = .ok (.iload_n 2, 1) := by decide +kernel
theorem dX5_penalty_14 : decode cX5_penalty 14 = .ok (.iconst 0, 1) := by decide +kernel
theorem dX5_penalty_15 : decode cX5_penalty 15 = .ok (.sipush 10000, 3) := by decide +kernel
theorem dX5_penalty_18 : decode cX5_penalty 18 = .ok (.invokestatic 41, 3) := by decide +kernel
theorem dX5_penalty_21 : decode cX5_penalty 21 = .ok (.ifCond .ne 5, 3) := by decide +kernel
theorem dX5_penalty_24 : decode cX5_penalty 24 = .ok (.iconst (-1), 1) := by decide +kernel
theorem dX5_penalty_25 : decode cX5_penalty 25 = .ok (.ireturn, 1) := by decide +kernel
theorem dX5_penalty_26 : decode cX5_penalty 26 = .ok (.aload_n 0, 1) := by decide +kernel
theorem dX5_penalty_27 : decode cX5_penalty 27 = .ok (.getfield 10, 3) := by decide +kernel
theorem dX5_penalty_30 : decode cX5_penalty 30 = .ok (.iload_n 1, 1) := by decide +kernel
theorem dX5_penalty_31 : decode cX5_penalty 31 = .ok (.iload_n 2, 1) := by decide +kernel
theorem dX5_penalty_32 : decode cX5_penalty 32 = .ok (.iload_n 3, 1) := by decide +kernel
theorem dX5_penalty_33 : decode cX5_penalty 33 = .ok (.invokevirtual 49, 3) := by decide +kernel
theorem dX5_penalty_36 : decode cX5_penalty 36 = .ok (.ireturn, 1) := by decide +kernel
set_option maxRecDepth 20000 in
theorem ggX5_shape_X5_isWithin : GoodIn wsX5_shape wsX5_isWithin := goodIn_r _ [5] (by decide +kernel) (by decide +kernel)
set_option maxRecDepth 20000 in
theorem gX5_shape_X5_isWithin : GoodIn wsX5_shape (va_wsS RX5 41 yX5_isWithin wsX5_isWithin) := goodIn_app (goodIn_of _ (by decide +kernel)) ggX5_shape_X5_isWithin
theorem dX5_shape_0 : decode cX5_shape 0 = .ok (.iload_n 1, 1) := by decide +kernel
theorem dX5_shape_1 : decode cX5_shape 1 = .ok (.iconst 0, 1) := by decide +kernel
theorem dX5_shape_2 : decode cX5_shape 2 = .ok (.bipush 49, 2) := by decide +kernel
theorem dX5_shape_4 : decode cX5_shape 4 = .ok (.invokestatic 41, 3) := by decide +kernel
theorem dX5_shape_7 : decode cX5_shape 7 = .ok (.ifCond .eq 14, 3) := by decide +kernel
theorem dX5_shape_10 : decode cX5_shape 10 = .ok (.iload_n 2, 1) := by decide +kernel
theorem dX5_shape_11 : decode cX5_shape 11 = .ok (.iconst 0, 1) := by decide +kernel
theorem dX5_shape_12 : decode cX5_shape 12 = .ok (.sipush 10000, 3) := by decide +kernel
theorem dX5_shape_15 : decode cX5_shape 15 = .ok (.invokestatic 41, 3) := by decide +kernel
theorem dX5_shape_18 : decode cX5_shape 18 = .ok (.ifCond .ne 5, 3) := by decide +kernel
theorem dX5_shape_21 : decode cX5_shape 21 = .ok (.iconst (-1), 1) := by decide +kernel
theorem dX5_shape_22 : decode cX5_shape 22 = .ok (.ireturn, 1) := by decide +kernel
theorem dX5_shape_23 : decode cX5_shape 23 = .ok (.aload_n 0, 1) := by decide +kernel
theorem dX5_shape_24 : decode cX5_shape 24 = .ok (.getfield 21, 3) := by decide +kernel
theorem dX5_shape_27 : decode cX5_shape 27 = .ok (.getfield 53, 3) := by decide +kernel
theorem dX5_shape_30 : decode cX5_shape 30 = .ok (.iload_n 1, 1) := by decide +kernel
theorem dX5_shape_31 : decode cX5_shape 31 = .ok (.iload_n 2, 1) := by decide +kernel
theorem dX5_shape_32 : decode cX5_shape 32 = .ok (.iastore, 1) := by decide +kernel
theorem dX5_shape_33 : decode cX5_shape 33 = .ok (.iconst 1, 1) := by decide +kernel
theorem dX5_shape_34 : decode cX5_shape 34 = .ok (.ireturn, 1) := by decide +kernel
set_option maxRecDepth 20000 in
theorem ggX5_setting_X5_isWithin : GoodIn wsX5_setting wsX5_isWithin := goodIn_r _ [5] (by decide +kernel) (by decide +kernel)
set_option maxRecDepth 20000 in
theorem gX5_setting_X5_isWithin : GoodIn wsX5_setting (va_wsS RX5 41 yX5_isWithin wsX5_isWithin) := goodIn_app (goodIn_of _ (by decide +kernel)) ggX5_setting_X5_isWithin
theorem dX5_setting_0 : decode cX5_setting 0 = .ok (.iload_n 1, 1) := by decide +kernel
theorem dX5_setting_1 : decode cX5_setting 1 = .ok (.iconst 0, 1) := by decide +kernel
theorem dX5_setting_2 : decode cX5_setting 2 = .ok (.iconst 2, 1) := by decide +kernel
theorem dX5_setting_3 : decode cX5_setting 3 = .ok (.invokestatic 41, 3) := by decide +kernel
theorem dX5_setting_6 : decode cX5_setting 6 = .ok (.ifCond .ne 5, 3) := by decide +kernel
theorem dX5_setting_9 : decode cX5_setting 9 = .ok (.iconst (-1), 1) := by decide +kernel
theorem dX5_setting_10 : decode cX5_setting 10 = .ok (.ireturn, 1) := by decide +kernel
theorem dX5_setting_11 : decode cX5_setting 11 = .ok (.iload_n 1, 1) := by decide +kernel
theorem dX5_setting_12 : decode cX5_setting 12 = .ok (.iconst 2, 1) := by decide +kernel
theorem dX5_setting_13 : decode cX5_setting 13 = .ok (.if_icmp .ne 7, 3) := by decide +kernel
theorem dX5_setting_16 : decode cX5_setting 16 = .ok (.iconst 0, 1) := by decide +kernel
theorem dX5_setting_17 : decode cX5_setting 17 = .ok (.goto 4, 3) := by decide +kernel
theorem dX5_setting_20 : decode cX5_setting 20 = .ok (.iconst (-1), 1) := by decide +kernel
theorem dX5_setting_21 : decode cX5_setting 21 = .ok (.istore_n 3, 1) := by decide +kernel
theorem dX5_setting_22 : decode cX5_setting 22 = .ok (.iload_n 2, 1) := by decide +kernel
theorem dX5_setting_23 : decode cX5_setting 23 = .ok (.iload_n 3, 1) := by decide +kernel
theorem dX5_setting_24 : decode cX5_setting 24 = .ok (.sipush 10000, 3) := by decide +kernel
theorem dX5_setting_27 : decode cX5_setting 27 = .ok (.invokestatic 41, 3) := by decide +kernel
theorem dX5_setting_30 : decode cX5_setting 30 = .ok (.ifCond .ne 5, 3) := by decide +kernel
theorem dX5_setting_33 : decode cX5_setting 33 = .ok (.iconst (-1), 1) := by decide +kernel
theorem dX5_setting_34 : decode cX5_setting 34 = .ok (.ireturn, 1) := by decide +kernel
theorem dX5_setting_35 : decode cX5_setting 35 = .ok (.aload_n 0, 1) := by decide +kernel
theorem dX5_setting_36 : decode cX5_setting 36 = .ok (.getfield 21, 3) := by decide +kernel
theorem dX5_setting_39 : decode cX5_setting 39 = .ok (.getfield 57, 3) := by decide +kernel
theorem dX5_setting_42 : decode cX5_setting 42 = .ok (.iload_n 1, 1) := by decide +kernel
theorem dX5_setting_43 : decode cX5_setting 43 = .ok (.iload_n 2, 1) := by decide +kernel
theorem dX5_setting_44 : decode cX5_setting 44 = .ok (.iastore, 1) := by decide +kernel
theorem dX5_setting_45 : decode cX5_setting 45 = .ok (.iconst 1, 1) := by decide +kernel
theorem dX5_setting_46 : decode cX5_setting 46 = .ok (.ireturn, 1) := by decide +kernel
set_option maxRecDepth 20000 in
theorem ggX5_run_X4_forget : GoodIn wsX5_run wsX4_forget := goodIn_r _ [6, 7, 8, 9, 154, 155, 156, 157, 158, 159, 160] (by decide +kernel) (by decide +kernel)
set_option maxRecDepth 20000 in
theorem gX5_run_X4_forget_n60 : GoodIn wsX5_run (wsX4_forget) := ggX5_run_X4_forget
set_option maxRecDepth 20000 in
theorem ggX5_run_X3_findsWay : GoodIn wsX5_run wsX3_findsWay := goodIn_r _ [13, 14, 15, 16, 17, 18, 19, 20, 21, 11, 22, 23, 24, 25, 26, 27, 28, 29, 30, 31, 32, 33, 34, 35, 36, 37, 38, 39, 40, 41, 42, 43, 44, 45, 46, 47, 48, 49, 50, 51, 52, 53, 54, 55, 56, 57, 58, 59, 60, 61, 62, 63, 64, 65, 66, 67, 68, 69, 70, 71, 72, 73, 74, 75, 76, 77, 78, 79, 80, 81, 82, 83, 84, 85, 86, 87, 88, 89, 90, 91, 92, 93, 94, 95, 96, 97, 98, 99, 100, 101, 102, 103, 104, 105, 106, 107, 108, 109, 110, 111, 112, 113, 114, 115, 116, 117, 118, 119, 120, 121, 122, 123, 124, 125, 126, 127, 128, 129, 130, 131, 132, 133, 134, 135, 161, 162, 163, 164, 165, 166, 167, 168, 169, 170, 171, 172, 173, 174, 175, 176, 177, 178, 179, 180] (by decide +kernel) (by decide +kernel)
set_option maxRecDepth 20000 in
theorem gX5_run_X3_findsWay_n63 : GoodIn wsX5_run (wsX3_findsWay) := ggX5_run_X3_findsWay
set_option maxRecDepth 20000 in
theorem ggX5_run_X3_tell : GoodIn wsX5_run wsX3_tell := goodIn_r _ [138, 14, 17, 113, 16, 115, 65, 15, 3, 4, 5, 6, 7, 8, 9, 23, 24, 11, 25, 139, 140, 141, 142, 54, 35, 55, 56, 44, 45, 70, 31, 71, 72, 69, 73, 74, 75, 76, 77, 62, 63, 64, 78, 79, 80, 81, 82, 40, 41, 42, 43, 83, 84, 85, 86, 87, 88, 89, 90, 91, 92, 93, 94, 95, 96, 97, 98, 99, 100, 101, 47, 48, 49, 102, 103, 104, 105, 143, 144, 145, 146, 147, 148, 149, 161, 162, 163, 164, 165, 166, 154, 155, 156, 157, 158, 159, 160, 167, 168, 169, 170, 171, 172, 173, 174, 175, 176, 177, 178, 179, 180] (by decide +kernel) (by decide +kernel)
set_option maxRecDepth 20000 in
theorem gX5_run_X3_tell_n67 : GoodIn wsX5_run (wsX3_tell) := ggX5_run_X3_tell
theorem dX5_run_0 : decode cX5_run 0 = .ok (.aload_n 0, 1) := by decide +kernel
theorem dX5_run_1 : decode cX5_run 1 = .ok (.getfield 37, 3) := by decide +kernel
theorem dX5_run_4 : decode cX5_run 4 = .ok (.invokevirtual 60, 3) := by decide +kernel
theorem dX5_run_7 : decode cX5_run 7 = .ok (.iconst 1, 1) := by decide +kernel
theorem dX5_run_8 : decode cX5_run 8 = .ok (.istore_n 1, 1) := by decide +kernel
theorem dX5_run_9 : decode cX5_run 9 = .ok (.iload_n 1, 1) := by decide +kernel
theorem dX5_run_10 : decode cX5_run 10 = .ok (.iconst 3, 1) := by decide +kernel
theorem dX5_run_11 : decode cX5_run 11 = .ok (.if_icmp .gt 40, 3) := by decide +kernel
theorem dX5_run_14 : decode cX5_run 14 = .ok (.aload_n 0, 1) := by decide +kernel
theorem dX5_run_15 : decode cX5_run 15 = .ok (.getfield 30, 3) := by decide +kernel
theorem dX5_run_18 : decode cX5_run 18 = .ok (.iload_n 1, 1) := by decide +kernel
theorem dX5_run_19 : decode cX5_run 19 = .ok (.iconst 0, 1) := by decide +kernel
theorem dX5_run_20 : decode cX5_run 20 = .ok (.invokevirtual 63, 3) := by decide +kernel
theorem dX5_run_23 : decode cX5_run 23 = .ok (.ifCond .eq 22, 3) := by decide +kernel
theorem dX5_run_26 : decode cX5_run 26 = .ok (.aload_n 0, 1) := by decide +kernel
theorem dX5_run_27 : decode cX5_run 27 = .ok (.getfield 30, 3) := by decide +kernel
theorem dX5_run_30 : decode cX5_run 30 = .ok (.aload_n 0, 1) := by decide +kernel
theorem dX5_run_31 : decode cX5_run 31 = .ok (.getfield 37, 3) := by decide +kernel
theorem dX5_run_34 : decode cX5_run 34 = .ok (.invokevirtual 67, 3) := by decide +kernel
theorem dX5_run_37 : decode cX5_run 37 = .ok (.aload_n 0, 1) := by decide +kernel
theorem dX5_run_38 : decode cX5_run 38 = .ok (.getfield 37, 3) := by decide +kernel
theorem dX5_run_41 : decode cX5_run 41 = .ok (.getfield 71, 3) := by decide +kernel
theorem dX5_run_44 : decode cX5_run 44 = .ok (.ireturn, 1) := by decide +kernel
theorem dX5_run_45 : decode cX5_run 45 = .ok (.iinc 1 1, 3) := by decide +kernel
theorem dX5_run_48 : decode cX5_run 48 = .ok (.goto (-39), 3) := by decide +kernel
theorem dX5_run_51 : decode cX5_run 51 = .ok (.iconst 0, 1) := by decide +kernel
theorem dX5_run_52 : decode cX5_run 52 = .ok (.ireturn, 1) := by decide +kernel
set_option maxRecDepth 20000 in
theorem ggX5_loose_X5_isWithin : GoodIn wsX5_loose wsX5_isWithin := goodIn_r _ [6] (by decide +kernel) (by decide +kernel)
set_option maxRecDepth 20000 in
theorem gX5_loose_X5_isWithin : GoodIn wsX5_loose (va_wsS RX5 41 yX5_isWithin wsX5_isWithin) := goodIn_app (goodIn_of _ (by decide +kernel)) ggX5_loose_X5_isWithin
set_option maxRecDepth 20000 in
theorem ggX5_loose_X3_findsWay : GoodIn wsX5_loose wsX3_findsWay := goodIn_r _ [10, 11, 12, 13, 14, 15, 16, 17, 18, 8, 19, 20, 21, 22, 23, 24, 25, 26, 27, 28, 29, 30, 31, 32, 33, 34, 35, 36, 37, 38, 39, 40, 41, 42, 43, 44, 45, 46, 47, 48, 49, 50, 51, 52, 53, 54, 55, 56, 57, 58, 59, 60, 61, 62, 63, 64, 65, 66, 67, 68, 69, 70, 71, 72, 73, 74, 75, 76, 77, 78, 79, 80, 81, 82, 83, 84, 85, 86, 87, 88, 89, 90, 91, 92, 93, 94, 95, 96, 97, 98, 99, 100, 101, 102, 103, 104, 105, 106, 107, 108, 109, 110, 111, 112, 113, 114, 115, 116, 117, 118, 119, 120, 121, 122, 123, 124, 125, 126, 127, 128, 129, 130, 131, 132, 165, 166, 167, 168, 169, 170, 171, 172, 173, 174, 175, 176, 177, 178, 179, 180, 181, 182, 183, 184] (by decide +kernel) (by decide +kernel)
set_option maxRecDepth 20000 in
theorem gX5_loose_X3_findsWay_n63 : GoodIn wsX5_loose (wsX3_findsWay) := ggX5_loose_X3_findsWay
set_option maxRecDepth 20000 in
theorem ggX5_loose_X3_tell : GoodIn wsX5_loose wsX3_tell := goodIn_r _ [135, 11, 14, 110, 13, 112, 62, 12, 136, 137, 138, 139, 140, 141, 142, 20, 21, 8, 22, 143, 144, 145, 146, 51, 32, 52, 53, 41, 42, 67, 28, 68, 69, 66, 70, 71, 72, 73, 74, 59, 60, 61, 75, 76, 77, 78, 79, 37, 38, 39, 40, 80, 81, 82, 83, 84, 85, 86, 87, 88, 89, 90, 91, 92, 93, 94, 95, 96, 97, 98, 44, 45, 46, 99, 100, 101, 102, 147, 148, 149, 150, 151, 152, 153, 165, 166, 167, 168, 169, 170, 158, 159, 160, 161, 162, 163, 164, 171, 172, 173, 174, 175, 176, 177, 178, 179, 180, 181, 182, 183, 184] (by decide +kernel) (by decide +kernel)
set_option maxRecDepth 20000 in
theorem gX5_loose_X3_tell_n67 : GoodIn wsX5_loose (wsX3_tell) := ggX5_loose_X3_tell
theorem dX5_loose_0 : decode cX5_loose 0 = .ok (.iload_n 1, 1) := by decide +kernel
theorem dX5_loose_1 : decode cX5_loose 1 = .ok (.iconst 1, 1) := by decide +kernel
theorem dX5_loose_2 : decode cX5_loose 2 = .ok (.bipush 50, 2) := by decide +kernel
theorem dX5_loose_4 : decode cX5_loose 4 = .ok (.invokestatic 41, 3) := by decide +kernel
theorem dX5_loose_7 : decode cX5_loose 7 = .ok (.ifCond .eq 13, 3) := by decide +kernel
theorem dX5_loose_10 : decode cX5_loose 10 = .ok (.aload_n 0, 1) := by decide +kernel
theorem dX5_loose_11 : decode cX5_loose 11 = .ok (.getfield 37, 3) := by decide +kernel
theorem dX5_loose_14 : decode cX5_loose 14 = .ok (.getfield 71, 3) := by decide +kernel
theorem dX5_loose_17 : decode cX5_loose 17 = .ok (.ifCond .ne 5, 3) := by decide +kernel
theorem dX5_loose_20 : decode cX5_loose 20 = .ok (.iconst (-1), 1) := by decide +kernel
theorem dX5_loose_21 : decode cX5_loose 21 = .ok (.ireturn, 1) := by decide +kernel
theorem dX5_loose_22 : decode cX5_loose 22 = .ok (.aload_n 0, 1) := by decide +kernel
theorem dX5_loose_23 : decode cX5_loose 23 = .ok (.getfield 30, 3) := by decide +kernel
theorem dX5_loose_26 : decode cX5_loose 26 = .ok (.aload_n 0, 1) := by decide +kernel
theorem dX5_loose_27 : decode cX5_loose 27 = .ok (.getfield 37, 3) := by decide +kernel
theorem dX5_loose_30 : decode cX5_loose 30 = .ok (.getfield 75, 3) := by decide +kernel
theorem dX5_loose_33 : decode cX5_loose 33 = .ok (.iload_n 1, 1) := by decide +kernel
theorem dX5_loose_34 : decode cX5_loose 34 = .ok (.invokevirtual 63, 3) := by decide +kernel
theorem dX5_loose_37 : decode cX5_loose 37 = .ok (.ifCond .ne 5, 3) := by decide +kernel
theorem dX5_loose_40 : decode cX5_loose 40 = .ok (.iconst 0, 1) := by decide +kernel
theorem dX5_loose_41 : decode cX5_loose 41 = .ok (.ireturn, 1) := by decide +kernel
theorem dX5_loose_42 : decode cX5_loose 42 = .ok (.aload_n 0, 1) := by decide +kernel
theorem dX5_loose_43 : decode cX5_loose 43 = .ok (.getfield 30, 3) := by decide +kernel
theorem dX5_loose_46 : decode cX5_loose 46 = .ok (.aload_n 0, 1) := by decide +kernel
theorem dX5_loose_47 : decode cX5_loose 47 = .ok (.getfield 37, 3) := by decide +kernel
theorem dX5_loose_50 : decode cX5_loose 50 = .ok (.invokevirtual 67, 3) := by decide +kernel
theorem dX5_loose_53 : decode cX5_loose 53 = .ok (.iconst 1, 1) := by decide +kernel
theorem dX5_loose_54 : decode cX5_loose 54 = .ok (.ireturn, 1) := by decide +kernel
theorem dX5_lines_0 : decode cX5_lines 0 = .ok (.aload_n 0, 1) := by decide +kernel
theorem dX5_lines_1 : decode cX5_lines 1 = .ok (.getfield 37, 3) := by decide +kernel
theorem dX5_lines_4 : decode cX5_lines 4 = .ok (.getfield 71, 3) := by decide +kernel
theorem dX5_lines_7 : decode cX5_lines 7 = .ok (.ireturn, 1) := by decide +kernel
set_option maxRecDepth 20000 in
theorem ggX5_at_X4_hasLine : GoodIn wsX5_at wsX4_hasLine := goodIn_r _ [5, 6, 11, 12, 13, 14, 15, 16, 17] (by decide +kernel) (by decide +kernel)
set_option maxRecDepth 20000 in
theorem gX5_at_X4_hasLine_n78 : GoodIn wsX5_at (wsX4_hasLine) := ggX5_at_X4_hasLine
theorem dX5_at_0 : decode cX5_at 0 = .ok (.aload_n 0, 1) := by decide +kernel
theorem dX5_at_1 : decode cX5_at 1 = .ok (.getfield 37, 3) := by decide +kernel
theorem dX5_at_4 : decode cX5_at 4 = .ok (.iload_n 1, 1) := by decide +kernel
theorem dX5_at_5 : decode cX5_at 5 = .ok (.invokevirtual 78, 3) := by decide +kernel
theorem dX5_at_8 : decode cX5_at 8 = .ok (.ifCond .eq 15, 3) := by decide +kernel
theorem dX5_at_11 : decode cX5_at 11 = .ok (.aload_n 0, 1) := by decide +kernel
theorem dX5_at_12 : decode cX5_at 12 = .ok (.getfield 37, 3) := by decide +kernel
theorem dX5_at_15 : decode cX5_at 15 = .ok (.getfield 82, 3) := by decide +kernel
theorem dX5_at_18 : decode cX5_at 18 = .ok (.iload_n 1, 1) := by decide +kernel
theorem dX5_at_19 : decode cX5_at 19 = .ok (.iaload, 1) := by decide +kernel
theorem dX5_at_20 : decode cX5_at 20 = .ok (.goto 4, 3) := by decide +kernel
theorem dX5_at_23 : decode cX5_at 23 = .ok (.iconst (-1), 1) := by decide +kernel
theorem dX5_at_24 : decode cX5_at 24 = .ok (.ireturn, 1) := by decide +kernel
set_option maxRecDepth 20000 in
theorem ggX5_lacks_X4_hasLine : GoodIn wsX5_lacks wsX4_hasLine := goodIn_r _ [5, 6, 11, 12, 13, 14, 15, 16, 17] (by decide +kernel) (by decide +kernel)
set_option maxRecDepth 20000 in
theorem gX5_lacks_X4_hasLine_n78 : GoodIn wsX5_lacks (wsX4_hasLine) := ggX5_lacks_X4_hasLine
theorem dX5_lacks_0 : decode cX5_lacks 0 = .ok (.aload_n 0, 1) := by decide +kernel
theorem dX5_lacks_1 : decode cX5_lacks 1 = .ok (.getfield 37, 3) := by decide +kernel
theorem dX5_lacks_4 : decode cX5_lacks 4 = .ok (.iload_n 1, 1) := by decide +kernel
theorem dX5_lacks_5 : decode cX5_lacks 5 = .ok (.invokevirtual 78, 3) := by decide +kernel
theorem dX5_lacks_8 : decode cX5_lacks 8 = .ok (.ifCond .eq 15, 3) := by decide +kernel
theorem dX5_lacks_11 : decode cX5_lacks 11 = .ok (.aload_n 0, 1) := by decide +kernel
theorem dX5_lacks_12 : decode cX5_lacks 12 = .ok (.getfield 37, 3) := by decide +kernel
theorem dX5_lacks_15 : decode cX5_lacks 15 = .ok (.getfield 85, 3) := by decide +kernel
theorem dX5_lacks_18 : decode cX5_lacks 18 = .ok (.iload_n 1, 1) := by decide +kernel
theorem dX5_lacks_19 : decode cX5_lacks 19 = .ok (.iaload, 1) := by decide +kernel
theorem dX5_lacks_20 : decode cX5_lacks 20 = .ok (.goto 4, 3) := by decide +kernel
theorem dX5_lacks_23 : decode cX5_lacks 23 = .ok (.iconst 0, 1) := by decide +kernel
theorem dX5_lacks_24 : decode cX5_lacks 24 = .ok (.ireturn, 1) := by decide +kernel
set_option maxRecDepth 20000 in
theorem ggX5_badness_X4_hasLine : GoodIn wsX5_badness wsX4_hasLine := goodIn_r _ [5, 6, 11, 12, 13, 14, 15, 16, 17] (by decide +kernel) (by decide +kernel)
set_option maxRecDepth 20000 in
theorem gX5_badness_X4_hasLine_n78 : GoodIn wsX5_badness (wsX4_hasLine) := ggX5_badness_X4_hasLine
theorem dX5_badness_0 : decode cX5_badness 0 = .ok (.aload_n 0, 1) := by decide +kernel
theorem dX5_badness_1 : decode cX5_badness 1 = .ok (.getfield 37, 3) := by decide +kernel
theorem dX5_badness_4 : decode cX5_badness 4 = .ok (.iload_n 1, 1) := by decide +kernel
theorem dX5_badness_5 : decode cX5_badness 5 = .ok (.invokevirtual 78, 3) := by decide +kernel
theorem dX5_badness_8 : decode cX5_badness 8 = .ok (.ifCond .eq 15, 3) := by decide +kernel
theorem dX5_badness_11 : decode cX5_badness 11 = .ok (.aload_n 0, 1) := by decide +kernel
theorem dX5_badness_12 : decode cX5_badness 12 = .ok (.getfield 37, 3) := by decide +kernel
theorem dX5_badness_15 : decode cX5_badness 15 = .ok (.getfield 88, 3) := by decide +kernel
theorem dX5_badness_18 : decode cX5_badness 18 = .ok (.iload_n 1, 1) := by decide +kernel
theorem dX5_badness_19 : decode cX5_badness 19 = .ok (.iaload, 1) := by decide +kernel
theorem dX5_badness_20 : decode cX5_badness 20 = .ok (.goto 4, 3) := by decide +kernel
theorem dX5_badness_23 : decode cX5_badness 23 = .ok (.iconst 0, 1) := by decide +kernel
theorem dX5_badness_24 : decode cX5_badness 24 = .ok (.ireturn, 1) := by decide +kernel
set_option maxRecDepth 20000 in
theorem ggX5_classOf_X4_hasLine : GoodIn wsX5_classOf wsX4_hasLine := goodIn_r _ [5, 6, 11, 12, 13, 14, 15, 16, 17] (by decide +kernel) (by decide +kernel)
set_option maxRecDepth 20000 in
theorem gX5_classOf_X4_hasLine_n78 : GoodIn wsX5_classOf (wsX4_hasLine) := ggX5_classOf_X4_hasLine
theorem dX5_classOf_0 : decode cX5_classOf 0 = .ok (.aload_n 0, 1) := by decide +kernel
theorem dX5_classOf_1 : decode cX5_classOf 1 = .ok (.getfield 37, 3) := by decide +kernel
theorem dX5_classOf_4 : decode cX5_classOf 4 = .ok (.iload_n 1, 1) := by decide +kernel
theorem dX5_classOf_5 : decode cX5_classOf 5 = .ok (.invokevirtual 78, 3) := by decide +kernel
theorem dX5_classOf_8 : decode cX5_classOf 8 = .ok (.ifCond .eq 15, 3) := by decide +kernel
theorem dX5_classOf_11 : decode cX5_classOf 11 = .ok (.aload_n 0, 1) := by decide +kernel
theorem dX5_classOf_12 : decode cX5_classOf 12 = .ok (.getfield 37, 3) := by decide +kernel
theorem dX5_classOf_15 : decode cX5_classOf 15 = .ok (.getfield 91, 3) := by decide +kernel
theorem dX5_classOf_18 : decode cX5_classOf 18 = .ok (.iload_n 1, 1) := by decide +kernel
theorem dX5_classOf_19 : decode cX5_classOf 19 = .ok (.iaload, 1) := by decide +kernel
theorem dX5_classOf_20 : decode cX5_classOf 20 = .ok (.goto 4, 3) := by decide +kernel
theorem dX5_classOf_23 : decode cX5_classOf 23 = .ok (.iconst 0, 1) := by decide +kernel
theorem dX5_classOf_24 : decode cX5_classOf 24 = .ok (.ireturn, 1) := by decide +kernel
theorem dX5_demerits_0 : decode cX5_demerits 0 = .ok (.aload_n 0, 1) := by decide +kernel
theorem dX5_demerits_1 : decode cX5_demerits 1 = .ok (.getfield 37, 3) := by decide +kernel
theorem dX5_demerits_4 : decode cX5_demerits 4 = .ok (.getfield 94, 3) := by decide +kernel
theorem dX5_demerits_7 : decode cX5_demerits 7 = .ok (.lreturn, 1) := by decide +kernel
theorem dX5_pass_0 : decode cX5_pass 0 = .ok (.aload_n 0, 1) := by decide +kernel
theorem dX5_pass_1 : decode cX5_pass 1 = .ok (.getfield 37, 3) := by decide +kernel
theorem dX5_pass_4 : decode cX5_pass 4 = .ok (.getfield 75, 3) := by decide +kernel
theorem dX5_pass_7 : decode cX5_pass 7 = .ok (.ireturn, 1) := by decide +kernel
theorem dX5_clear_0 : decode cX5_clear 0 = .ok (.aload_n 0, 1) := by decide +kernel
theorem dX5_clear_1 : decode cX5_clear 1 = .ok (.getfield 10, 3) := by decide +kernel
theorem dX5_clear_4 : decode cX5_clear 4 = .ok (.getfield 98, 3) := by decide +kernel
theorem dX5_clear_7 : decode cX5_clear 7 = .ok (.istore_n 1, 1) := by decide +kernel
theorem dX5_clear_8 : decode cX5_clear 8 = .ok (.aload_n 0, 1) := by decide +kernel
theorem dX5_clear_9 : decode cX5_clear 9 = .ok (.getfield 10, 3) := by decide +kernel
theorem dX5_clear_12 : decode cX5_clear 12 = .ok (.iconst 0, 1) := by decide +kernel
theorem dX5_clear_13 : decode cX5_clear 13 = .ok (.putfield 98, 3) := by decide +kernel
theorem dX5_clear_16 : decode cX5_clear 16 = .ok (.iload_n 1, 1) := by decide +kernel
theorem dX5_clear_17 : decode cX5_clear 17 = .ok (.ireturn, 1) := by decide +kernel
theorem dX5_isWithin_0 : decode cX5_isWithin 0 = .ok (.iload_n 0, 1) := by decide +kernel
theorem dX5_isWithin_1 : decode cX5_isWithin 1 = .ok (.iload_n 1, 1) := by decide +kernel
theorem dX5_isWithin_2 : decode cX5_isWithin 2 = .ok (.if_icmp .lt 12, 3) := by decide +kernel
theorem dX5_isWithin_5 : decode cX5_isWithin 5 = .ok (.iload_n 0, 1) := by decide +kernel
theorem dX5_isWithin_6 : decode cX5_isWithin 6 = .ok (.iload_n 2, 1) := by decide +kernel
theorem dX5_isWithin_7 : decode cX5_isWithin 7 = .ok (.if_icmp .gt 7, 3) := by decide +kernel
theorem dX5_isWithin_10 : decode cX5_isWithin 10 = .ok (.iconst 1, 1) := by decide +kernel
theorem dX5_isWithin_11 : decode cX5_isWithin 11 = .ok (.goto 4, 3) := by decide +kernel
theorem dX5_isWithin_14 : decode cX5_isWithin 14 = .ok (.iconst 0, 1) := by decide +kernel
theorem dX5_isWithin_15 : decode cX5_isWithin 15 = .ok (.ireturn, 1) := by decide +kernel
theorem dJ9_floorDiv_f86c9_0 : decode cJ9_floorDiv_f86c9 0 = .ok (.lload_n 0, 1) := by decide +kernel
theorem dJ9_floorDiv_f86c9_1 : decode cJ9_floorDiv_f86c9 1 = .ok (.lload_n 2, 1) := by decide +kernel
theorem dJ9_floorDiv_f86c9_2 : decode cJ9_floorDiv_f86c9 2 = .ok (.ldiv, 1) := by decide +kernel
theorem dJ9_floorDiv_f86c9_3 : decode cJ9_floorDiv_f86c9 3 = .ok (.lstore 4, 2) := by decide +kernel
theorem dJ9_floorDiv_f86c9_5 : decode cJ9_floorDiv_f86c9 5 = .ok (.lload_n 0, 1) := by decide +kernel
theorem dJ9_floorDiv_f86c9_6 : decode cJ9_floorDiv_f86c9 6 = .ok (.lload_n 2, 1) := by decide +kernel
theorem dJ9_floorDiv_f86c9_7 : decode cJ9_floorDiv_f86c9 7 = .ok (.lxor, 1) := by decide +kernel
theorem dJ9_floorDiv_f86c9_8 : decode cJ9_floorDiv_f86c9 8 = .ok (.lconst 0, 1) := by decide +kernel
theorem dJ9_floorDiv_f86c9_9 : decode cJ9_floorDiv_f86c9 9 = .ok (.lcmp, 1) := by decide +kernel
theorem dJ9_floorDiv_f86c9_10 : decode cJ9_floorDiv_f86c9 10 = .ok (.ifCond .ge 17, 3) := by decide +kernel
theorem dJ9_floorDiv_f86c9_13 : decode cJ9_floorDiv_f86c9 13 = .ok (.lload 4, 2) := by decide +kernel
theorem dJ9_floorDiv_f86c9_15 : decode cJ9_floorDiv_f86c9 15 = .ok (.lload_n 2, 1) := by decide +kernel
theorem dJ9_floorDiv_f86c9_16 : decode cJ9_floorDiv_f86c9 16 = .ok (.lmul, 1) := by decide +kernel
theorem dJ9_floorDiv_f86c9_17 : decode cJ9_floorDiv_f86c9 17 = .ok (.lload_n 0, 1) := by decide +kernel
theorem dJ9_floorDiv_f86c9_18 : decode cJ9_floorDiv_f86c9 18 = .ok (.lcmp, 1) := by decide +kernel
theorem dJ9_floorDiv_f86c9_19 : decode cJ9_floorDiv_f86c9 19 = .ok (.ifCond .eq 8, 3) := by decide +kernel
theorem dJ9_floorDiv_f86c9_22 : decode cJ9_floorDiv_f86c9 22 = .ok (.lload 4, 2) := by decide +kernel
theorem dJ9_floorDiv_f86c9_24 : decode cJ9_floorDiv_f86c9 24 = .ok (.lconst 1, 1) := by decide +kernel
theorem dJ9_floorDiv_f86c9_25 : decode cJ9_floorDiv_f86c9 25 = .ok (.lsub, 1) := by decide +kernel
theorem dJ9_floorDiv_f86c9_26 : decode cJ9_floorDiv_f86c9 26 = .ok (.lreturn, 1) := by decide +kernel
theorem dJ9_floorDiv_f86c9_27 : decode cJ9_floorDiv_f86c9 27 = .ok (.lload 4, 2) := by decide +kernel
theorem dJ9_floorDiv_f86c9_29 : decode cJ9_floorDiv_f86c9 29 = .ok (.lreturn, 1) := by decide +kernel
theorem dJ9_abs_0f7a4_0 : decode cJ9_abs_0f7a4 0 = .ok (.iload_n 0, 1) := by decide +kernel
theorem dJ9_abs_0f7a4_1 : decode cJ9_abs_0f7a4 1 = .ok (.ifCond .ge 8, 3) := by decide +kernel
theorem dJ9_abs_0f7a4_4 : decode cJ9_abs_0f7a4 4 = .ok (.iload_n 0, 1) := by decide +kernel
theorem dJ9_abs_0f7a4_5 : decode cJ9_abs_0f7a4 5 = .ok (.ineg, 1) := by decide +kernel
theorem dJ9_abs_0f7a4_6 : decode cJ9_abs_0f7a4 6 = .ok (.goto 4, 3) := by decide +kernel
theorem dJ9_abs_0f7a4_9 : decode cJ9_abs_0f7a4 9 = .ok (.iload_n 0, 1) := by decide +kernel
theorem dJ9_abs_0f7a4_10 : decode cJ9_abs_0f7a4 10 = .ok (.ireturn, 1) := by decide +kernel
theorem dJ9_min_7cf53_0 : decode cJ9_min_7cf53 0 = .ok (.iload_n 0, 1) := by decide +kernel
theorem dJ9_min_7cf53_1 : decode cJ9_min_7cf53 1 = .ok (.iload_n 1, 1) := by decide +kernel
theorem dJ9_min_7cf53_2 : decode cJ9_min_7cf53 2 = .ok (.if_icmp .gt 7, 3) := by decide +kernel
theorem dJ9_min_7cf53_5 : decode cJ9_min_7cf53 5 = .ok (.iload_n 0, 1) := by decide +kernel
theorem dJ9_min_7cf53_6 : decode cJ9_min_7cf53 6 = .ok (.goto 4, 3) := by decide +kernel
theorem dJ9_min_7cf53_9 : decode cJ9_min_7cf53 9 = .ok (.iload_n 1, 1) := by decide +kernel
theorem dJ9_min_7cf53_10 : decode cJ9_min_7cf53 10 = .ok (.ireturn, 1) := by decide +kernel
theorem dJ9_min_f86c9_0 : decode cJ9_min_f86c9 0 = .ok (.lload_n 0, 1) := by decide +kernel
theorem dJ9_min_f86c9_1 : decode cJ9_min_f86c9 1 = .ok (.lload_n 2, 1) := by decide +kernel
theorem dJ9_min_f86c9_2 : decode cJ9_min_f86c9 2 = .ok (.lcmp, 1) := by decide +kernel
theorem dJ9_min_f86c9_3 : decode cJ9_min_f86c9 3 = .ok (.ifCond .gt 7, 3) := by decide +kernel
theorem dJ9_min_f86c9_6 : decode cJ9_min_f86c9 6 = .ok (.lload_n 0, 1) := by decide +kernel
theorem dJ9_min_f86c9_7 : decode cJ9_min_f86c9 7 = .ok (.goto 4, 3) := by decide +kernel
theorem dJ9_min_f86c9_10 : decode cJ9_min_f86c9 10 = .ok (.lload_n 2, 1) := by decide +kernel
theorem dJ9_min_f86c9_11 : decode cJ9_min_f86c9 11 = .ok (.lreturn, 1) := by decide +kernel
theorem dJ7_fill_53178_0 : decode cJ7_fill_53178 0 = .ok (.iconst 0, 1) := by decide +kernel
theorem dJ7_fill_53178_1 : decode cJ7_fill_53178 1 = .ok (.istore_n 2, 1) := by decide +kernel
theorem dJ7_fill_53178_2 : decode cJ7_fill_53178 2 = .ok (.aload_n 0, 1) := by decide +kernel
theorem dJ7_fill_53178_3 : decode cJ7_fill_53178 3 = .ok (.arraylength, 1) := by decide +kernel
theorem dJ7_fill_53178_4 : decode cJ7_fill_53178 4 = .ok (.istore_n 3, 1) := by decide +kernel
theorem dJ7_fill_53178_5 : decode cJ7_fill_53178 5 = .ok (.iload_n 2, 1) := by decide +kernel
theorem dJ7_fill_53178_6 : decode cJ7_fill_53178 6 = .ok (.iload_n 3, 1) := by decide +kernel
theorem dJ7_fill_53178_7 : decode cJ7_fill_53178 7 = .ok (.if_icmp .ge 13, 3) := by decide +kernel
theorem dJ7_fill_53178_10 : decode cJ7_fill_53178 10 = .ok (.aload_n 0, 1) := by decide +kernel
theorem dJ7_fill_53178_11 : decode cJ7_fill_53178 11 = .ok (.iload_n 2, 1) := by decide +kernel
theorem dJ7_fill_53178_12 : decode cJ7_fill_53178 12 = .ok (.iload_n 1, 1) := by decide +kernel
theorem dJ7_fill_53178_13 : decode cJ7_fill_53178 13 = .ok (.iastore, 1) := by decide +kernel
theorem dJ7_fill_53178_14 : decode cJ7_fill_53178 14 = .ok (.iinc 2 1, 3) := by decide +kernel
theorem dJ7_fill_53178_17 : decode cJ7_fill_53178 17 = .ok (.goto (-12), 3) := by decide +kernel
theorem dJ7_fill_53178_20 : decode cJ7_fill_53178 20 = .ok (.return_, 1) := by decide +kernel
