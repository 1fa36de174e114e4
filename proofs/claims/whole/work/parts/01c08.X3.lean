theorem dX3_bring_17 : decode cX3_bring 17 = .ok (.ifCond .eq 52, 3) := by decide +kernel
theorem dX3_bring_20 : decode cX3_bring 20 = .ok (.aload_n 0, 1) := by decide +kernel
theorem dX3_bring_21 : decode cX3_bring 21 = .ok (.getfield 16, 3) := by decide +kernel
theorem dX3_bring_24 : decode cX3_bring 24 = .ok (.iload 5, 2) := by decide +kernel
theorem dX3_bring_26 : decode cX3_bring 26 = .ok (.iaload, 1) := by decide +kernel
theorem dX3_bring_27 : decode cX3_bring 27 = .ok (.iconst (-1), 1) := by decide +kernel
theorem dX3_bring_28 : decode cX3_bring 28 = .ok (.if_icmp .eq 41, 3) := by decide +kernel
theorem dX3_bring_31 : decode cX3_bring 31 = .ok (.aload_n 0, 1) := by decide +kernel
theorem dX3_bring_32 : decode cX3_bring 32 = .ok (.getfield 23, 3) := by decide +kernel
theorem dX3_bring_35 : decode cX3_bring 35 = .ok (.bipush 100, 2) := by decide +kernel
theorem dX3_bring_37 : decode cX3_bring 37 = .ok (.iload_n 1, 1) := by decide +kernel
theorem dX3_bring_38 : decode cX3_bring 38 = .ok (.imul, 1) := by decide +kernel
theorem dX3_bring_39 : decode cX3_bring 39 = .ok (.aload_n 0, 1) := by decide +kernel
theorem dX3_bring_40 : decode cX3_bring 40 = .ok (.getfield 16, 3) := by decide +kernel
theorem dX3_bring_43 : decode cX3_bring 43 = .ok (.iload 5, 2) := by decide +kernel
theorem dX3_bring_45 : decode cX3_bring 45 = .ok (.iaload, 1) := by decide +kernel
theorem dX3_bring_46 : decode cX3_bring 46 = .ok (.iadd, 1) := by decide +kernel
theorem dX3_bring_47 : decode cX3_bring 47 = .ok (.baload, 1) := by decide +kernel
theorem dX3_bring_48 : decode cX3_bring 48 = .ok (.ifCond .eq 21, 3) := by decide +kernel
theorem dX3_bring_51 : decode cX3_bring 51 = .ok (.aload_n 0, 1) := by decide +kernel
theorem dX3_bring_52 : decode cX3_bring 52 = .ok (.getfield 23, 3) := by decide +kernel
theorem dX3_bring_55 : decode cX3_bring 55 = .ok (.bipush 100, 2) := by decide +kernel
theorem dX3_bring_57 : decode cX3_bring 57 = .ok (.iload_n 2, 1) := by decide +kernel
theorem dX3_bring_58 : decode cX3_bring 58 = .ok (.imul, 1) := by decide +kernel
theorem dX3_bring_59 : decode cX3_bring 59 = .ok (.aload_n 0, 1) := by decide +kernel
theorem dX3_bring_60 : decode cX3_bring 60 = .ok (.getfield 16, 3) := by decide +kernel
theorem dX3_bring_63 : decode cX3_bring 63 = .ok (.iload 5, 2) := by decide +kernel
theorem dX3_bring_65 : decode cX3_bring 65 = .ok (.iaload, 1) := by decide +kernel
theorem dX3_bring_66 : decode cX3_bring 66 = .ok (.iadd, 1) := by decide +kernel
theorem dX3_bring_67 : decode cX3_bring 67 = .ok (.iconst 1, 1) := by decide +kernel
theorem dX3_bring_68 : decode cX3_bring 68 = .ok (.bastore, 1) := by decide +kernel
theorem dX3_bring_69 : decode cX3_bring 69 = .ok (.iinc 5 1, 3) := by decide +kernel
theorem dX3_bring_72 : decode cX3_bring 72 = .ok (.goto (-67), 3) := by decide +kernel
theorem dX3_bring_75 : decode cX3_bring 75 = .ok (.return_, 1) := by decide +kernel
set_option maxRecDepth 20000 in
theorem ggX3_wouldFetch_X3_noFetch : GoodIn wsX3_wouldFetch wsX3_noFetch := goodIn_r _ [8, 1, 9, 10, 7, 11, 12, 13, 14, 15, 16, 17, 18, 19, 64, 65, 66, 67, 68, 69, 70, 71, 72, 73, 74, 75, 76, 77, 78, 79, 80, 81] (by decide +kernel) (by decide +kernel)
set_option maxRecDepth 20000 in
theorem gX3_wouldFetch_X3_noFetch : GoodIn wsX3_wouldFetch (wsV RX3 114 RX3 yX3_noFetch wsX3_noFetch) := goodIn_app (goodIn_of _ (by decide +kernel)) ggX3_wouldFetch_X3_noFetch
set_option maxRecDepth 20000 in
theorem ggX3_wouldFetch_X3_reach : GoodIn wsX3_wouldFetch wsX3_reach := goodIn_r _ [23, 24, 25, 26, 3, 27, 28, 29, 7, 30, 31, 32, 33, 34, 35, 36, 37, 38, 39, 40, 41, 42, 43, 44, 45, 46, 47, 2, 12, 13, 14, 48, 49, 50, 51, 52, 53, 54, 55, 56, 57, 58, 59, 60, 61, 62, 63, 64, 65, 66, 67, 68, 69, 70, 71, 72, 73, 74, 75, 76, 77, 78, 79, 80, 81] (by decide +kernel) (by decide +kernel)
set_option maxRecDepth 20000 in
theorem gX3_wouldFetch_X3_reach : GoodIn wsX3_wouldFetch (wsV RX3 120 RX3 yX3_reach wsX3_reach) := goodIn_app (goodIn_of _ (by decide +kernel)) ggX3_wouldFetch_X3_reach
set_option maxRecDepth 20000 in
theorem ggX3_wouldFetch_X3_isIn : GoodIn wsX3_wouldFetch wsX3_isIn := goodIn_r _ [42, 43, 44, 45, 46, 7, 47, 2, 12, 13, 14, 64, 65, 66, 67, 68, 69, 70, 71, 72, 73, 74, 75, 76, 77, 78, 79, 80, 81] (by decide +kernel) (by decide +kernel)
set_option maxRecDepth 20000 in
theorem gX3_wouldFetch_X3_isIn : GoodIn wsX3_wouldFetch (wsV RX3 68 RX3 yX3_isIn wsX3_isIn) := goodIn_app (goodIn_of _ (by decide +kernel)) ggX3_wouldFetch_X3_isIn
theorem dX3_wouldFetch_0 : decode cX3_wouldFetch 0 = .ok (.aload_n 0, 1) := by decide +kernel
theorem dX3_wouldFetch_1 : decode cX3_wouldFetch 1 = .ok (.iload_n 1, 1) := by decide +kernel
theorem dX3_wouldFetch_2 : decode cX3_wouldFetch 2 = .ok (.iload_n 2, 1) := by decide +kernel
theorem dX3_wouldFetch_3 : decode cX3_wouldFetch 3 = .ok (.invokevirtual 114, 3) := by decide +kernel
theorem dX3_wouldFetch_6 : decode cX3_wouldFetch 6 = .ok (.ifCond .eq 5, 3) := by decide +kernel
theorem dX3_wouldFetch_9 : decode cX3_wouldFetch 9 = .ok (.iconst 0, 1) := by decide +kernel
theorem dX3_wouldFetch_10 : decode cX3_wouldFetch 10 = .ok (.ireturn, 1) := by decide +kernel
theorem dX3_wouldFetch_11 : decode cX3_wouldFetch 11 = .ok (.aload_n 0, 1) := by decide +kernel
theorem dX3_wouldFetch_12 : decode cX3_wouldFetch 12 = .ok (.aload_n 0, 1) := by decide +kernel
theorem dX3_wouldFetch_13 : decode cX3_wouldFetch 13 = .ok (.getfield 26, 3) := by decide +kernel
theorem dX3_wouldFetch_16 : decode cX3_wouldFetch 16 = .ok (.iload_n 1, 1) := by decide +kernel
theorem dX3_wouldFetch_17 : decode cX3_wouldFetch 17 = .ok (.iaload, 1) := by decide +kernel
theorem dX3_wouldFetch_18 : decode cX3_wouldFetch 18 = .ok (.iload_n 2, 1) := by decide +kernel
theorem dX3_wouldFetch_19 : decode cX3_wouldFetch 19 = .ok (.invokevirtual 120, 3) := by decide +kernel
theorem dX3_wouldFetch_22 : decode cX3_wouldFetch 22 = .ok (.iconst 0, 1) := by decide +kernel
theorem dX3_wouldFetch_23 : decode cX3_wouldFetch 23 = .ok (.istore_n 3, 1) := by decide +kernel
theorem dX3_wouldFetch_24 : decode cX3_wouldFetch 24 = .ok (.iconst 0, 1) := by decide +kernel
theorem dX3_wouldFetch_25 : decode cX3_wouldFetch 25 = .ok (.istore 4, 2) := by decide +kernel
theorem dX3_wouldFetch_27 : decode cX3_wouldFetch 27 = .ok (.iload 4, 2) := by decide +kernel
theorem dX3_wouldFetch_29 : decode cX3_wouldFetch 29 = .ok (.aload_n 0, 1) := by decide +kernel
theorem dX3_wouldFetch_30 : decode cX3_wouldFetch 30 = .ok (.getfield 61, 3) := by decide +kernel
theorem dX3_wouldFetch_33 : decode cX3_wouldFetch 33 = .ok (.if_icmp .ge 37, 3) := by decide +kernel
theorem dX3_wouldFetch_36 : decode cX3_wouldFetch 36 = .ok (.iload_n 3, 1) := by decide +kernel
theorem dX3_wouldFetch_37 : decode cX3_wouldFetch 37 = .ok (.aload_n 0, 1) := by decide +kernel
theorem dX3_wouldFetch_38 : decode cX3_wouldFetch 38 = .ok (.getfield 41, 3) := by decide +kernel
theorem dX3_wouldFetch_41 : decode cX3_wouldFetch 41 = .ok (.iload 4, 2) := by decide +kernel
theorem dX3_wouldFetch_43 : decode cX3_wouldFetch 43 = .ok (.baload, 1) := by decide +kernel
theorem dX3_wouldFetch_44 : decode cX3_wouldFetch 44 = .ok (.ifCond .eq 17, 3) := by decide +kernel
theorem dX3_wouldFetch_47 : decode cX3_wouldFetch 47 = .ok (.aload_n 0, 1) := by decide +kernel
theorem dX3_wouldFetch_48 : decode cX3_wouldFetch 48 = .ok (.iconst 1, 1) := by decide +kernel
theorem dX3_wouldFetch_49 : decode cX3_wouldFetch 49 = .ok (.iload 4, 2) := by decide +kernel
theorem dX3_wouldFetch_51 : decode cX3_wouldFetch 51 = .ok (.invokevirtual 68, 3) := by decide +kernel
theorem dX3_wouldFetch_54 : decode cX3_wouldFetch 54 = .ok (.ifCond .ne 7, 3) := by decide +kernel
theorem dX3_wouldFetch_57 : decode cX3_wouldFetch 57 = .ok (.iconst 1, 1) := by decide +kernel
theorem dX3_wouldFetch_58 : decode cX3_wouldFetch 58 = .ok (.goto 4, 3) := by decide +kernel
theorem dX3_wouldFetch_61 : decode cX3_wouldFetch 61 = .ok (.iconst 0, 1) := by decide +kernel
theorem dX3_wouldFetch_62 : decode cX3_wouldFetch 62 = .ok (.iadd, 1) := by decide +kernel
theorem dX3_wouldFetch_63 : decode cX3_wouldFetch 63 = .ok (.istore_n 3, 1) := by decide +kernel
theorem dX3_wouldFetch_64 : decode cX3_wouldFetch 64 = .ok (.iinc 4 1, 3) := by decide +kernel
theorem dX3_wouldFetch_67 : decode cX3_wouldFetch 67 = .ok (.goto (-40), 3) := by decide +kernel
theorem dX3_wouldFetch_70 : decode cX3_wouldFetch 70 = .ok (.iload_n 3, 1) := by decide +kernel
theorem dX3_wouldFetch_71 : decode cX3_wouldFetch 71 = .ok (.ireturn, 1) := by decide +kernel
set_option maxRecDepth 20000 in
theorem ggX3_rounds_X3_fine : GoodIn wsX3_rounds wsX3_fine := goodIn_r _ [6, 7, 8, 9, 10, 11, 12, 13, 14, 15, 16, 17, 18, 19, 20, 21, 22, 23, 24, 25] (by decide +kernel) (by decide +kernel)
set_option maxRecDepth 20000 in
theorem gX3_rounds_X3_fine : GoodIn wsX3_rounds (wsV RX3 127 RX3 yX3_fine wsX3_fine) := goodIn_app (goodIn_of _ (by decide +kernel)) ggX3_rounds_X3_fine
theorem dX3_rounds_0 : decode cX3_rounds 0 = .ok (.aload_n 0, 1) := by decide +kernel
theorem dX3_rounds_1 : decode cX3_rounds 1 = .ok (.aload_n 0, 1) := by decide +kernel
theorem dX3_rounds_2 : decode cX3_rounds 2 = .ok (.getfield 101, 3) := by decide +kernel
theorem dX3_rounds_5 : decode cX3_rounds 5 = .ok (.invokevirtual 127, 3) := by decide +kernel
theorem dX3_rounds_8 : decode cX3_rounds 8 = .ok (.ireturn, 1) := by decide +kernel
set_option maxRecDepth 20000 in
theorem ggX3_load_X3_in : GoodIn wsX3_load wsX3_in := goodIn_r _ [5] (by decide +kernel) (by decide +kernel)
set_option maxRecDepth 20000 in
theorem gX3_load_X3_in : GoodIn wsX3_load (va_wsS RX3 57 yX3_in wsX3_in) := goodIn_app (goodIn_of _ (by decide +kernel)) ggX3_load_X3_in
set_option maxRecDepth 20000 in
theorem ggX3_load_X3_refused : GoodIn wsX3_load wsX3_refused := goodIn_r _ [9, 10, 11, 12, 13, 14, 15, 16, 17, 18, 19, 20, 21, 22, 23, 24, 25, 26, 27, 28] (by decide +kernel) (by decide +kernel)
set_option maxRecDepth 20000 in
theorem gX3_load_X3_refused : GoodIn wsX3_load (wsV RX3 78 RX3 yX3_refused wsX3_refused) := goodIn_app (goodIn_of _ (by decide +kernel)) ggX3_load_X3_refused
theorem dX3_load_0 : decode cX3_load 0 = .ok (.iload_n 1, 1) := by decide +kernel
theorem dX3_load_1 : decode cX3_load 1 = .ok (.iconst 0, 1) := by decide +kernel
theorem dX3_load_2 : decode cX3_load 2 = .ok (.bipush 99, 2) := by decide +kernel
theorem dX3_load_4 : decode cX3_load 4 = .ok (.invokestatic 57, 3) := by decide +kernel
theorem dX3_load_7 : decode cX3_load 7 = .ok (.istore_n 2, 1) := by decide +kernel
theorem dX3_load_8 : decode cX3_load 8 = .ok (.aload_n 0, 1) := by decide +kernel
theorem dX3_load_9 : decode cX3_load 9 = .ok (.iload_n 2, 1) := by decide +kernel
theorem dX3_load_10 : decode cX3_load 10 = .ok (.ifCond .ne 7, 3) := by decide +kernel
theorem dX3_load_13 : decode cX3_load 13 = .ok (.iconst 1, 1) := by decide +kernel
theorem dX3_load_14 : decode cX3_load 14 = .ok (.goto 17, 3) := by decide +kernel
theorem dX3_load_17 : decode cX3_load 17 = .ok (.aload_n 0, 1) := by decide +kernel
theorem dX3_load_18 : decode cX3_load 18 = .ok (.getfield 23, 3) := by decide +kernel
theorem dX3_load_21 : decode cX3_load 21 = .ok (.iload_n 1, 1) := by decide +kernel
theorem dX3_load_22 : decode cX3_load 22 = .ok (.baload, 1) := by decide +kernel
theorem dX3_load_23 : decode cX3_load 23 = .ok (.ifCond .eq 7, 3) := by decide +kernel
theorem dX3_load_26 : decode cX3_load 26 = .ok (.iconst 0, 1) := by decide +kernel
theorem dX3_load_27 : decode cX3_load 27 = .ok (.goto 4, 3) := by decide +kernel
theorem dX3_load_30 : decode cX3_load 30 = .ok (.iconst 2, 1) := by decide +kernel
theorem dX3_load_31 : decode cX3_load 31 = .ok (.invokevirtual 78, 3) := by decide +kernel
theorem dX3_load_34 : decode cX3_load 34 = .ok (.ifCond .eq 5, 3) := by decide +kernel
theorem dX3_load_37 : decode cX3_load 37 = .ok (.iconst 0, 1) := by decide +kernel
theorem dX3_load_38 : decode cX3_load 38 = .ok (.ireturn, 1) := by decide +kernel
theorem dX3_load_39 : decode cX3_load 39 = .ok (.aload_n 0, 1) := by decide +kernel
theorem dX3_load_40 : decode cX3_load 40 = .ok (.getfield 23, 3) := by decide +kernel
theorem dX3_load_43 : decode cX3_load 43 = .ok (.bipush 100, 2) := by decide +kernel
theorem dX3_load_45 : decode cX3_load 45 = .ok (.iload_n 1, 1) := by decide +kernel
theorem dX3_load_46 : decode cX3_load 46 = .ok (.iadd, 1) := by decide +kernel
theorem dX3_load_47 : decode cX3_load 47 = .ok (.baload, 1) := by decide +kernel
theorem dX3_load_48 : decode cX3_load 48 = .ok (.istore_n 3, 1) := by decide +kernel
theorem dX3_load_49 : decode cX3_load 49 = .ok (.aload_n 0, 1) := by decide +kernel
theorem dX3_load_50 : decode cX3_load 50 = .ok (.getfield 23, 3) := by decide +kernel
theorem dX3_load_53 : decode cX3_load 53 = .ok (.bipush 100, 2) := by decide +kernel
theorem dX3_load_55 : decode cX3_load 55 = .ok (.iload_n 1, 1) := by decide +kernel
theorem dX3_load_56 : decode cX3_load 56 = .ok (.iadd, 1) := by decide +kernel
theorem dX3_load_57 : decode cX3_load 57 = .ok (.iconst 1, 1) := by decide +kernel
theorem dX3_load_58 : decode cX3_load 58 = .ok (.bastore, 1) := by decide +kernel
theorem dX3_load_59 : decode cX3_load 59 = .ok (.iload_n 3, 1) := by decide +kernel
theorem dX3_load_60 : decode cX3_load 60 = .ok (.ifCond .ne 7, 3) := by decide +kernel
theorem dX3_load_63 : decode cX3_load 63 = .ok (.iconst 1, 1) := by decide +kernel
theorem dX3_load_64 : decode cX3_load 64 = .ok (.goto 4, 3) := by decide +kernel
theorem dX3_load_67 : decode cX3_load 67 = .ok (.iconst 0, 1) := by decide +kernel
theorem dX3_load_68 : decode cX3_load 68 = .ok (.ireturn, 1) := by decide +kernel
set_option maxRecDepth 20000 in
theorem ggX3_isNeeded_X3_isIn : GoodIn wsX3_isNeeded wsX3_isIn := goodIn_r _ [7, 8, 9, 10, 11, 6, 12, 1, 13, 14, 15, 16, 17, 18, 19, 20, 21, 22, 23, 24, 25, 26, 27, 28, 29, 30, 31, 32, 33] (by decide +kernel) (by decide +kernel)
set_option maxRecDepth 20000 in
theorem gX3_isNeeded_X3_isIn : GoodIn wsX3_isNeeded (wsV RX3 68 RX3 yX3_isIn wsX3_isIn) := goodIn_app (goodIn_of _ (by decide +kernel)) ggX3_isNeeded_X3_isIn
theorem dX3_isNeeded_0 : decode cX3_isNeeded 0 = .ok (.iconst 0, 1) := by decide +kernel
theorem dX3_isNeeded_1 : decode cX3_isNeeded 1 = .ok (.istore_n 3, 1) := by decide +kernel
theorem dX3_isNeeded_2 : decode cX3_isNeeded 2 = .ok (.iconst 0, 1) := by decide +kernel
theorem dX3_isNeeded_3 : decode cX3_isNeeded 3 = .ok (.istore 4, 2) := by decide +kernel
theorem dX3_isNeeded_5 : decode cX3_isNeeded 5 = .ok (.iload 4, 2) := by decide +kernel
theorem dX3_isNeeded_7 : decode cX3_isNeeded 7 = .ok (.iconst 4, 1) := by decide +kernel
theorem dX3_isNeeded_8 : decode cX3_isNeeded 8 = .ok (.aload_n 0, 1) := by decide +kernel
theorem dX3_isNeeded_9 : decode cX3_isNeeded 9 = .ok (.getfield 61, 3) := by decide +kernel
theorem dX3_isNeeded_12 : decode cX3_isNeeded 12 = .ok (.imul, 1) := by decide +kernel
theorem dX3_isNeeded_13 : decode cX3_isNeeded 13 = .ok (.if_icmp .ge 42, 3) := by decide +kernel
theorem dX3_isNeeded_16 : decode cX3_isNeeded 16 = .ok (.iload_n 3, 1) := by decide +kernel
theorem dX3_isNeeded_17 : decode cX3_isNeeded 17 = .ok (.ifCond .ne 26, 3) := by decide +kernel
theorem dX3_isNeeded_20 : decode cX3_isNeeded 20 = .ok (.aload_n 0, 1) := by decide +kernel
theorem dX3_isNeeded_21 : decode cX3_isNeeded 21 = .ok (.getfield 16, 3) := by decide +kernel
theorem dX3_isNeeded_24 : decode cX3_isNeeded 24 = .ok (.iload 4, 2) := by decide +kernel
theorem dX3_isNeeded_26 : decode cX3_isNeeded 26 = .ok (.iaload, 1) := by decide +kernel
theorem dX3_isNeeded_27 : decode cX3_isNeeded 27 = .ok (.iload_n 2, 1) := by decide +kernel
theorem dX3_isNeeded_28 : decode cX3_isNeeded 28 = .ok (.if_icmp .ne 19, 3) := by decide +kernel
theorem dX3_isNeeded_31 : decode cX3_isNeeded 31 = .ok (.aload_n 0, 1) := by decide +kernel
theorem dX3_isNeeded_32 : decode cX3_isNeeded 32 = .ok (.iload_n 1, 1) := by decide +kernel
theorem dX3_isNeeded_33 : decode cX3_isNeeded 33 = .ok (.iload 4, 2) := by decide +kernel
theorem dX3_isNeeded_35 : decode cX3_isNeeded 35 = .ok (.iconst 4, 1) := by decide +kernel
theorem dX3_isNeeded_36 : decode cX3_isNeeded 36 = .ok (.idiv, 1) := by decide +kernel
theorem dX3_isNeeded_37 : decode cX3_isNeeded 37 = .ok (.invokevirtual 68, 3) := by decide +kernel
theorem dX3_isNeeded_40 : decode cX3_isNeeded 40 = .ok (.ifCond .eq 7, 3) := by decide +kernel
theorem dX3_isNeeded_43 : decode cX3_isNeeded 43 = .ok (.iconst 1, 1) := by decide +kernel
theorem dX3_isNeeded_44 : decode cX3_isNeeded 44 = .ok (.goto 4, 3) := by decide +kernel
theorem dX3_isNeeded_47 : decode cX3_isNeeded 47 = .ok (.iconst 0, 1) := by decide +kernel
theorem dX3_isNeeded_48 : decode cX3_isNeeded 48 = .ok (.istore_n 3, 1) := by decide +kernel
theorem dX3_isNeeded_49 : decode cX3_isNeeded 49 = .ok (.iinc 4 1, 3) := by decide +kernel
theorem dX3_isNeeded_52 : decode cX3_isNeeded 52 = .ok (.goto (-47), 3) := by decide +kernel
theorem dX3_isNeeded_55 : decode cX3_isNeeded 55 = .ok (.iload_n 3, 1) := by decide +kernel
theorem dX3_isNeeded_56 : decode cX3_isNeeded 56 = .ok (.ireturn, 1) := by decide +kernel
set_option maxRecDepth 20000 in
theorem ggX3_missing_X3_isNeeded : GoodIn wsX3_missing wsX3_isNeeded := goodIn_r _ [6, 7, 8, 9, 10, 11, 5, 12, 13, 14, 15, 16, 17, 18, 19, 20, 26, 27, 28, 29, 30, 31, 32, 33, 34, 35, 36, 37, 38, 39, 40, 41, 42, 43] (by decide +kernel) (by decide +kernel)
set_option maxRecDepth 20000 in
theorem gX3_missing_X3_isNeeded : GoodIn wsX3_missing (wsV RX3 131 RX3 yX3_isNeeded wsX3_isNeeded) := goodIn_app (goodIn_of _ (by decide +kernel)) ggX3_missing_X3_isNeeded
set_option maxRecDepth 20000 in
theorem ggX3_missing_X3_fine : GoodIn wsX3_missing wsX3_fine := goodIn_r _ [24, 25, 26, 27, 28, 29, 30, 31, 32, 33, 34, 35, 36, 37, 38, 39, 40, 41, 42, 43] (by decide +kernel) (by decide +kernel)
set_option maxRecDepth 20000 in
theorem gX3_missing_X3_fine : GoodIn wsX3_missing (wsV RX3 127 RX3 yX3_fine wsX3_fine) := goodIn_app (goodIn_of _ (by decide +kernel)) ggX3_missing_X3_fine
theorem dX3_missing_0 : decode cX3_missing 0 = .ok (.iconst 0, 1) := by decide +kernel
theorem dX3_missing_1 : decode cX3_missing 1 = .ok (.istore_n 1, 1) := by decide +kernel
theorem dX3_missing_2 : decode cX3_missing 2 = .ok (.iconst 0, 1) := by decide +kernel
theorem dX3_missing_3 : decode cX3_missing 3 = .ok (.istore_n 2, 1) := by decide +kernel
theorem dX3_missing_4 : decode cX3_missing 4 = .ok (.iload_n 2, 1) := by decide +kernel
theorem dX3_missing_5 : decode cX3_missing 5 = .ok (.bipush 100, 2) := by decide +kernel
theorem dX3_missing_7 : decode cX3_missing 7 = .ok (.if_icmp .ge 38, 3) := by decide +kernel
theorem dX3_missing_10 : decode cX3_missing 10 = .ok (.iload_n 1, 1) := by decide +kernel
theorem dX3_missing_11 : decode cX3_missing 11 = .ok (.aload_n 0, 1) := by decide +kernel
theorem dX3_missing_12 : decode cX3_missing 12 = .ok (.getfield 23, 3) := by decide +kernel
theorem dX3_missing_15 : decode cX3_missing 15 = .ok (.bipush 100, 2) := by decide +kernel
theorem dX3_missing_17 : decode cX3_missing 17 = .ok (.iload_n 2, 1) := by decide +kernel
theorem dX3_missing_18 : decode cX3_missing 18 = .ok (.iadd, 1) := by decide +kernel
theorem dX3_missing_19 : decode cX3_missing 19 = .ok (.baload, 1) := by decide +kernel
theorem dX3_missing_20 : decode cX3_missing 20 = .ok (.ifCond .ne 16, 3) := by decide +kernel
theorem dX3_missing_23 : decode cX3_missing 23 = .ok (.aload_n 0, 1) := by decide +kernel
theorem dX3_missing_24 : decode cX3_missing 24 = .ok (.iconst 1, 1) := by decide +kernel
theorem dX3_missing_25 : decode cX3_missing 25 = .ok (.iload_n 2, 1) := by decide +kernel
theorem dX3_missing_26 : decode cX3_missing 26 = .ok (.invokevirtual 131, 3) := by decide +kernel
theorem dX3_missing_29 : decode cX3_missing 29 = .ok (.ifCond .eq 7, 3) := by decide +kernel
theorem dX3_missing_32 : decode cX3_missing 32 = .ok (.iconst 1, 1) := by decide +kernel
theorem dX3_missing_33 : decode cX3_missing 33 = .ok (.goto 4, 3) := by decide +kernel
theorem dX3_missing_36 : decode cX3_missing 36 = .ok (.iconst 0, 1) := by decide +kernel
theorem dX3_missing_37 : decode cX3_missing 37 = .ok (.iadd, 1) := by decide +kernel
theorem dX3_missing_38 : decode cX3_missing 38 = .ok (.istore_n 1, 1) := by decide +kernel
theorem dX3_missing_39 : decode cX3_missing 39 = .ok (.iinc 2 1, 3) := by decide +kernel
theorem dX3_missing_42 : decode cX3_missing 42 = .ok (.goto (-38), 3) := by decide +kernel
theorem dX3_missing_45 : decode cX3_missing 45 = .ok (.aload_n 0, 1) := by decide +kernel
theorem dX3_missing_46 : decode cX3_missing 46 = .ok (.iload_n 1, 1) := by decide +kernel
theorem dX3_missing_47 : decode cX3_missing 47 = .ok (.invokevirtual 127, 3) := by decide +kernel
theorem dX3_missing_50 : decode cX3_missing 50 = .ok (.ireturn, 1) := by decide +kernel
set_option maxRecDepth 20000 in
theorem ggX3_protect_X3_isRef : GoodIn wsX3_protect wsX3_isRef := goodIn_r _ [5, 6, 7, 4, 8] (by decide +kernel) (by decide +kernel)
set_option maxRecDepth 20000 in
theorem gX3_protect_X3_isRef : GoodIn wsX3_protect (va_wsS RX3 81 yX3_isRef wsX3_isRef) := goodIn_app (goodIn_of _ (by decide +kernel)) ggX3_protect_X3_isRef
set_option maxRecDepth 20000 in
theorem ggX3_protect_X3_refused : GoodIn wsX3_protect wsX3_refused := goodIn_r _ [12, 13, 14, 15, 16, 17, 18, 19, 20, 21, 22, 23, 24, 25, 26, 27, 28, 29, 30, 31] (by decide +kernel) (by decide +kernel)
set_option maxRecDepth 20000 in
theorem gX3_protect_X3_refused : GoodIn wsX3_protect (wsV RX3 78 RX3 yX3_refused wsX3_refused) := goodIn_app (goodIn_of _ (by decide +kernel)) ggX3_protect_X3_refused
theorem dX3_protect_0 : decode cX3_protect 0 = .ok (.aload_n 0, 1) := by decide +kernel
theorem dX3_protect_1 : decode cX3_protect 1 = .ok (.iload_n 1, 1) := by decide +kernel
theorem dX3_protect_2 : decode cX3_protect 2 = .ok (.invokestatic 81, 3) := by decide +kernel
theorem dX3_protect_5 : decode cX3_protect 5 = .ok (.ifCond .eq 7, 3) := by decide +kernel
theorem dX3_protect_8 : decode cX3_protect 8 = .ok (.iconst 0, 1) := by decide +kernel
theorem dX3_protect_9 : decode cX3_protect 9 = .ok (.goto 4, 3) := by decide +kernel
theorem dX3_protect_12 : decode cX3_protect 12 = .ok (.iconst 1, 1) := by decide +kernel
theorem dX3_protect_13 : decode cX3_protect 13 = .ok (.invokevirtual 78, 3) := by decide +kernel
theorem dX3_protect_16 : decode cX3_protect 16 = .ok (.ifCond .eq 5, 3) := by decide +kernel
theorem dX3_protect_19 : decode cX3_protect 19 = .ok (.iconst 0, 1) := by decide +kernel
theorem dX3_protect_20 : decode cX3_protect 20 = .ok (.ireturn, 1) := by decide +kernel
theorem dX3_protect_21 : decode cX3_protect 21 = .ok (.aload_n 0, 1) := by decide +kernel
theorem dX3_protect_22 : decode cX3_protect 22 = .ok (.getfield 29, 3) := by decide +kernel
theorem dX3_protect_25 : decode cX3_protect 25 = .ok (.iload_n 1, 1) := by decide +kernel
theorem dX3_protect_26 : decode cX3_protect 26 = .ok (.baload, 1) := by decide +kernel
theorem dX3_protect_27 : decode cX3_protect 27 = .ok (.iload_n 2, 1) := by decide +kernel
theorem dX3_protect_28 : decode cX3_protect 28 = .ok (.if_icmp .eq 7, 3) := by decide +kernel
theorem dX3_protect_31 : decode cX3_protect 31 = .ok (.iconst 1, 1) := by decide +kernel
theorem dX3_protect_32 : decode cX3_protect 32 = .ok (.goto 4, 3) := by decide +kernel
theorem dX3_protect_35 : decode cX3_protect 35 = .ok (.iconst 0, 1) := by decide +kernel
theorem dX3_protect_36 : decode cX3_protect 36 = .ok (.istore_n 3, 1) := by decide +kernel
theorem dX3_protect_37 : decode cX3_protect 37 = .ok (.aload_n 0, 1) := by decide +kernel
theorem dX3_protect_38 : decode cX3_protect 38 = .ok (.getfield 29, 3) := by decide +kernel
theorem dX3_protect_41 : decode cX3_protect 41 = .ok (.iload_n 1, 1) := by decide +kernel
theorem dX3_protect_42 : decode cX3_protect 42 = .ok (.iload_n 2, 1) := by decide +kernel
theorem dX3_protect_43 : decode cX3_protect 43 = .ok (.bastore, 1) := by decide +kernel
theorem dX3_protect_44 : decode cX3_protect 44 = .ok (.iload_n 3, 1) := by decide +kernel
theorem dX3_protect_45 : decode cX3_protect 45 = .ok (.ireturn, 1) := by decide +kernel
set_option maxRecDepth 20000 in
theorem ggX3_move_X3_isRef : GoodIn wsX3_move wsX3_isRef := goodIn_r _ [8, 9, 10, 7, 11] (by decide +kernel) (by decide +kernel)
set_option maxRecDepth 20000 in
theorem gX3_move_X3_isRef : GoodIn wsX3_move (va_wsS RX3 81 yX3_isRef wsX3_isRef) := goodIn_app (goodIn_of _ (by decide +kernel)) ggX3_move_X3_isRef
set_option maxRecDepth 20000 in
theorem ggX3_move_X3_isCommitOrNone : GoodIn wsX3_move wsX3_isCommitOrNone := goodIn_r _ [15, 16, 17, 18, 7, 19, 20, 9, 10, 11, 26, 27, 28, 29, 30, 31, 32, 33, 34, 35, 36, 37, 38, 39, 40, 41, 42, 43] (by decide +kernel) (by decide +kernel)
set_option maxRecDepth 20000 in
theorem gX3_move_X3_isCommitOrNone : GoodIn wsX3_move (wsV RX3 134 RX3 yX3_isCommitOrNone wsX3_isCommitOrNone) := goodIn_app (goodIn_of _ (by decide +kernel)) ggX3_move_X3_isCommitOrNone
set_option maxRecDepth 20000 in
theorem ggX3_move_X3_refused : GoodIn wsX3_move wsX3_refused := goodIn_r _ [24, 25, 26, 27, 28, 29, 30, 31, 32, 33, 34, 35, 36, 37, 38, 39, 40, 41, 42, 43] (by decide +kernel) (by decide +kernel)
set_option maxRecDepth 20000 in
theorem gX3_move_X3_refused : GoodIn wsX3_move (wsV RX3 78 RX3 yX3_refused wsX3_refused) := goodIn_app (goodIn_of _ (by decide +kernel)) ggX3_move_X3_refused
theorem dX3_move_0 : decode cX3_move 0 = .ok (.iload_n 1, 1) := by decide +kernel
theorem dX3_move_1 : decode cX3_move 1 = .ok (.invokestatic 81, 3) := by decide +kernel
theorem dX3_move_4 : decode cX3_move 4 = .ok (.ifCond .eq 23, 3) := by decide +kernel
theorem dX3_move_7 : decode cX3_move 7 = .ok (.aload_n 0, 1) := by decide +kernel
theorem dX3_move_8 : decode cX3_move 8 = .ok (.iload_n 2, 1) := by decide +kernel
theorem dX3_move_9 : decode cX3_move 9 = .ok (.invokevirtual 134, 3) := by decide +kernel
theorem dX3_move_12 : decode cX3_move 12 = .ok (.ifCond .eq 15, 3) := by decide +kernel
theorem dX3_move_15 : decode cX3_move 15 = .ok (.aload_n 0, 1) := by decide +kernel
theorem dX3_move_16 : decode cX3_move 16 = .ok (.iload_n 3, 1) := by decide +kernel
theorem dX3_move_17 : decode cX3_move 17 = .ok (.invokevirtual 134, 3) := by decide +kernel
theorem dX3_move_20 : decode cX3_move 20 = .ok (.ifCond .eq 7, 3) := by decide +kernel
theorem dX3_move_23 : decode cX3_move 23 = .ok (.iconst 1, 1) := by decide +kernel
theorem dX3_move_24 : decode cX3_move 24 = .ok (.goto 4, 3) := by decide +kernel
theorem dX3_move_27 : decode cX3_move 27 = .ok (.iconst 0, 1) := by decide +kernel
theorem dX3_move_28 : decode cX3_move 28 = .ok (.istore 4, 2) := by decide +kernel
theorem dX3_move_30 : decode cX3_move 30 = .ok (.aload_n 0, 1) := by decide +kernel
theorem dX3_move_31 : decode cX3_move 31 = .ok (.iload 4, 2) := by decide +kernel
theorem dX3_move_33 : decode cX3_move 33 = .ok (.ifCond .ne 7, 3) := by decide +kernel
theorem dX3_move_36 : decode cX3_move 36 = .ok (.iconst 1, 1) := by decide +kernel
theorem dX3_move_37 : decode cX3_move 37 = .ok (.goto 16, 3) := by decide +kernel
theorem dX3_move_40 : decode cX3_move 40 = .ok (.aload_n 0, 1) := by decide +kernel
theorem dX3_move_41 : decode cX3_move 41 = .ok (.getfield 137, 3) := by decide +kernel
theorem dX3_move_44 : decode cX3_move 44 = .ok (.iconst 3, 1) := by decide +kernel
theorem dX3_move_45 : decode cX3_move 45 = .ok (.if_icmp .ne 7, 3) := by decide +kernel
theorem dX3_move_48 : decode cX3_move 48 = .ok (.iconst 2, 1) := by decide +kernel
theorem dX3_move_49 : decode cX3_move 49 = .ok (.goto 4, 3) := by decide +kernel
theorem dX3_move_52 : decode cX3_move 52 = .ok (.iconst 0, 1) := by decide +kernel
theorem dX3_move_53 : decode cX3_move 53 = .ok (.invokevirtual 78, 3) := by decide +kernel
theorem dX3_move_56 : decode cX3_move 56 = .ok (.ifCond .eq 5, 3) := by decide +kernel
theorem dX3_move_59 : decode cX3_move 59 = .ok (.iconst 0, 1) := by decide +kernel
theorem dX3_move_60 : decode cX3_move 60 = .ok (.ireturn, 1) := by decide +kernel
theorem dX3_move_61 : decode cX3_move 61 = .ok (.aload_n 0, 1) := by decide +kernel
theorem dX3_move_62 : decode cX3_move 62 = .ok (.getfield 32, 3) := by decide +kernel
theorem dX3_move_65 : decode cX3_move 65 = .ok (.aload_n 0, 1) := by decide +kernel
theorem dX3_move_66 : decode cX3_move 66 = .ok (.getfield 137, 3) := by decide +kernel
theorem dX3_move_69 : decode cX3_move 69 = .ok (.iload_n 1, 1) := by decide +kernel
theorem dX3_move_70 : decode cX3_move 70 = .ok (.iastore, 1) := by decide +kernel
theorem dX3_move_71 : decode cX3_move 71 = .ok (.aload_n 0, 1) := by decide +kernel
theorem dX3_move_72 : decode cX3_move 72 = .ok (.getfield 35, 3) := by decide +kernel
theorem dX3_move_75 : decode cX3_move 75 = .ok (.aload_n 0, 1) := by decide +kernel
theorem dX3_move_76 : decode cX3_move 76 = .ok (.getfield 137, 3) := by decide +kernel
theorem dX3_move_79 : decode cX3_move 79 = .ok (.iload_n 2, 1) := by decide +kernel
theorem dX3_move_80 : decode cX3_move 80 = .ok (.iastore, 1) := by decide +kernel
theorem dX3_move_81 : decode cX3_move 81 = .ok (.aload_n 0, 1) := by decide +kernel
theorem dX3_move_82 : decode cX3_move 82 = .ok (.getfield 38, 3) := by decide +kernel
theorem dX3_move_85 : decode cX3_move 85 = .ok (.aload_n 0, 1) := by decide +kernel
theorem dX3_move_86 : decode cX3_move 86 = .ok (.getfield 137, 3) := by decide +kernel
theorem dX3_move_89 : decode cX3_move 89 = .ok (.iload_n 3, 1) := by decide +kernel
theorem dX3_move_90 : decode cX3_move 90 = .ok (.iastore, 1) := by decide +kernel
theorem dX3_move_91 : decode cX3_move 91 = .ok (.aload_n 0, 1) := by decide +kernel
theorem dX3_move_92 : decode cX3_move 92 = .ok (.dup, 1) := by decide +kernel
theorem dX3_move_93 : decode cX3_move 93 = .ok (.getfield 137, 3) := by decide +kernel
theorem dX3_move_96 : decode cX3_move 96 = .ok (.iconst 1, 1) := by decide +kernel
theorem dX3_move_97 : decode cX3_move 97 = .ok (.iadd, 1) := by decide +kernel
theorem dX3_move_98 : decode cX3_move 98 = .ok (.putfield 137, 3) := by decide +kernel
theorem dX3_move_101 : decode cX3_move 101 = .ok (.aload_n 0, 1) := by decide +kernel
theorem dX3_move_102 : decode cX3_move 102 = .ok (.getfield 137, 3) := by decide +kernel
theorem dX3_move_105 : decode cX3_move 105 = .ok (.ireturn, 1) := by decide +kernel
set_option maxRecDepth 20000 in
theorem ggX3_barred_X3_markFrom : GoodIn wsX3_barred wsX3_markFrom := goodIn_r _ [12, 13, 14, 15, 11, 16, 6, 17, 18, 19, 20, 21, 22, 23, 24, 25, 26, 27, 28, 29, 7, 30, 31, 32, 33, 34, 35, 36, 37, 38, 39, 40, 41, 42, 43, 44, 45, 46, 47, 48, 49, 50, 51, 52, 53, 54, 55, 56, 57, 58, 59, 60, 61, 62, 63, 64] (by decide +kernel) (by decide +kernel)
set_option maxRecDepth 20000 in
theorem gX3_barred_X3_markFrom : GoodIn wsX3_barred (wsV RX3 108 RX3 yX3_markFrom wsX3_markFrom) := goodIn_app (goodIn_of _ (by decide +kernel)) ggX3_barred_X3_markFrom
set_option maxRecDepth 20000 in
theorem ggX3_barred_X3_isIn : GoodIn wsX3_barred wsX3_isIn := goodIn_r _ [24, 25, 26, 27, 28, 11, 29, 7, 30, 31, 32, 47, 48, 49, 50, 51, 52, 53, 54, 55, 56, 57, 58, 59, 60, 61, 62, 63, 64] (by decide +kernel) (by decide +kernel)
set_option maxRecDepth 20000 in
theorem gX3_barred_X3_isIn : GoodIn wsX3_barred (wsV RX3 68 RX3 yX3_isIn wsX3_isIn) := goodIn_app (goodIn_of _ (by decide +kernel)) ggX3_barred_X3_isIn
set_option maxRecDepth 20000 in
theorem ggX3_barred_X3_shallow : GoodIn wsX3_barred wsX3_shallow := goodIn_r _ [42, 21, 22, 23, 11, 24, 25, 26, 27, 28, 29, 7, 30, 31, 32, 43, 44, 45, 46, 37, 38, 47, 48, 49, 50, 51, 52, 53, 54, 55, 56, 57, 58, 59, 60, 61, 62, 63, 64] (by decide +kernel) (by decide +kernel)
set_option maxRecDepth 20000 in
theorem gX3_barred_X3_shallow : GoodIn wsX3_barred (wsV RX3 87 RX3 yX3_shallow wsX3_shallow) := goodIn_app (goodIn_of _ (by decide +kernel)) ggX3_barred_X3_shallow
theorem dX3_barred_0 : decode cX3_barred 0 = .ok (.aload_n 0, 1) := by decide +kernel
theorem dX3_barred_1 : decode cX3_barred 1 = .ok (.getfield 35, 3) := by decide +kernel
theorem dX3_barred_4 : decode cX3_barred 4 = .ok (.iload_n 1, 1) := by decide +kernel
theorem dX3_barred_5 : decode cX3_barred 5 = .ok (.iaload, 1) := by decide +kernel
theorem dX3_barred_6 : decode cX3_barred 6 = .ok (.istore_n 2, 1) := by decide +kernel
theorem dX3_barred_7 : decode cX3_barred 7 = .ok (.aload_n 0, 1) := by decide +kernel
theorem dX3_barred_8 : decode cX3_barred 8 = .ok (.getfield 38, 3) := by decide +kernel
theorem dX3_barred_11 : decode cX3_barred 11 = .ok (.iload_n 1, 1) := by decide +kernel
theorem dX3_barred_12 : decode cX3_barred 12 = .ok (.iaload, 1) := by decide +kernel
theorem dX3_barred_13 : decode cX3_barred 13 = .ok (.istore_n 3, 1) := by decide +kernel
theorem dX3_barred_14 : decode cX3_barred 14 = .ok (.aload_n 0, 1) := by decide +kernel
theorem dX3_barred_15 : decode cX3_barred 15 = .ok (.getfield 26, 3) := by decide +kernel
theorem dX3_barred_18 : decode cX3_barred 18 = .ok (.aload_n 0, 1) := by decide +kernel
theorem dX3_barred_19 : decode cX3_barred 19 = .ok (.getfield 32, 3) := by decide +kernel
theorem dX3_barred_22 : decode cX3_barred 22 = .ok (.iload_n 1, 1) := by decide +kernel
theorem dX3_barred_23 : decode cX3_barred 23 = .ok (.iaload, 1) := by decide +kernel
theorem dX3_barred_24 : decode cX3_barred 24 = .ok (.iaload, 1) := by decide +kernel
theorem dX3_barred_25 : decode cX3_barred 25 = .ok (.iload_n 2, 1) := by decide +kernel
theorem dX3_barred_26 : decode cX3_barred 26 = .ok (.if_icmp .eq 6, 3) := by decide +kernel
theorem dX3_barred_29 : decode cX3_barred 29 = .ok (.bipush (-2), 2) := by decide +kernel
theorem dX3_barred_31 : decode cX3_barred 31 = .ok (.ireturn, 1) := by decide +kernel
theorem dX3_barred_32 : decode cX3_barred 32 = .ok (.aload_n 0, 1) := by decide +kernel
theorem dX3_barred_33 : decode cX3_barred 33 = .ok (.iconst 1, 1) := by decide +kernel
theorem dX3_barred_34 : decode cX3_barred 34 = .ok (.iload_n 3, 1) := by decide +kernel
theorem dX3_barred_35 : decode cX3_barred 35 = .ok (.invokevirtual 108, 3) := by decide +kernel
theorem dX3_barred_38 : decode cX3_barred 38 = .ok (.aload_n 0, 1) := by decide +kernel
theorem dX3_barred_39 : decode cX3_barred 39 = .ok (.getfield 29, 3) := by decide +kernel
theorem dX3_barred_42 : decode cX3_barred 42 = .ok (.aload_n 0, 1) := by decide +kernel
theorem dX3_barred_43 : decode cX3_barred 43 = .ok (.getfield 32, 3) := by decide +kernel
theorem dX3_barred_46 : decode cX3_barred 46 = .ok (.iload_n 1, 1) := by decide +kernel
theorem dX3_barred_47 : decode cX3_barred 47 = .ok (.iaload, 1) := by decide +kernel
theorem dX3_barred_48 : decode cX3_barred 48 = .ok (.baload, 1) := by decide +kernel
theorem dX3_barred_49 : decode cX3_barred 49 = .ok (.ifCond .eq 20, 3) := by decide +kernel
theorem dX3_barred_52 : decode cX3_barred 52 = .ok (.iload_n 2, 1) := by decide +kernel
theorem dX3_barred_53 : decode cX3_barred 53 = .ok (.iconst (-1), 1) := by decide +kernel
theorem dX3_barred_54 : decode cX3_barred 54 = .ok (.if_icmp .eq 15, 3) := by decide +kernel
theorem dX3_barred_57 : decode cX3_barred 57 = .ok (.aload_n 0, 1) := by decide +kernel
theorem dX3_barred_58 : decode cX3_barred 58 = .ok (.getfield 41, 3) := by decide +kernel
theorem dX3_barred_61 : decode cX3_barred 61 = .ok (.iload_n 2, 1) := by decide +kernel
theorem dX3_barred_62 : decode cX3_barred 62 = .ok (.baload, 1) := by decide +kernel
theorem dX3_barred_63 : decode cX3_barred 63 = .ok (.ifCond .ne 6, 3) := by decide +kernel
theorem dX3_barred_66 : decode cX3_barred 66 = .ok (.bipush (-3), 2) := by decide +kernel
theorem dX3_barred_68 : decode cX3_barred 68 = .ok (.ireturn, 1) := by decide +kernel
theorem dX3_barred_69 : decode cX3_barred 69 = .ok (.iload_n 3, 1) := by decide +kernel
theorem dX3_barred_70 : decode cX3_barred 70 = .ok (.iconst (-1), 1) := by decide +kernel
theorem dX3_barred_71 : decode cX3_barred 71 = .ok (.if_icmp .eq 16, 3) := by decide +kernel
theorem dX3_barred_74 : decode cX3_barred 74 = .ok (.aload_n 0, 1) := by decide +kernel
theorem dX3_barred_75 : decode cX3_barred 75 = .ok (.iconst 1, 1) := by decide +kernel
theorem dX3_barred_76 : decode cX3_barred 76 = .ok (.iload_n 3, 1) := by decide +kernel
theorem dX3_barred_77 : decode cX3_barred 77 = .ok (.invokevirtual 68, 3) := by decide +kernel
theorem dX3_barred_80 : decode cX3_barred 80 = .ok (.ifCond .ne 7, 3) := by decide +kernel
theorem dX3_barred_83 : decode cX3_barred 83 = .ok (.iconst 1, 1) := by decide +kernel
theorem dX3_barred_84 : decode cX3_barred 84 = .ok (.goto 4, 3) := by decide +kernel
theorem dX3_barred_87 : decode cX3_barred 87 = .ok (.iconst 0, 1) := by decide +kernel
theorem dX3_barred_88 : decode cX3_barred 88 = .ok (.istore 4, 2) := by decide +kernel
theorem dX3_barred_90 : decode cX3_barred 90 = .ok (.iconst 0, 1) := by decide +kernel
theorem dX3_barred_91 : decode cX3_barred 91 = .ok (.istore 5, 2) := by decide +kernel
theorem dX3_barred_93 : decode cX3_barred 93 = .ok (.iload 5, 2) := by decide +kernel
theorem dX3_barred_95 : decode cX3_barred 95 = .ok (.aload_n 0, 1) := by decide +kernel
theorem dX3_barred_96 : decode cX3_barred 96 = .ok (.getfield 61, 3) := by decide +kernel
theorem dX3_barred_99 : decode cX3_barred 99 = .ok (.if_icmp .ge 50, 3) := by decide +kernel
theorem dX3_barred_102 : decode cX3_barred 102 = .ok (.iload 4, 2) := by decide +kernel
theorem dX3_barred_104 : decode cX3_barred 104 = .ok (.ifCond .ne 32, 3) := by decide +kernel
theorem dX3_barred_107 : decode cX3_barred 107 = .ok (.aload_n 0, 1) := by decide +kernel
theorem dX3_barred_108 : decode cX3_barred 108 = .ok (.getfield 41, 3) := by decide +kernel
theorem dX3_barred_111 : decode cX3_barred 111 = .ok (.iload 5, 2) := by decide +kernel
theorem dX3_barred_113 : decode cX3_barred 113 = .ok (.baload, 1) := by decide +kernel
theorem dX3_barred_114 : decode cX3_barred 114 = .ok (.ifCond .eq 26, 3) := by decide +kernel
theorem dX3_barred_117 : decode cX3_barred 117 = .ok (.aload_n 0, 1) := by decide +kernel
theorem dX3_barred_118 : decode cX3_barred 118 = .ok (.iload 5, 2) := by decide +kernel
theorem dX3_barred_120 : decode cX3_barred 120 = .ok (.invokevirtual 87, 3) := by decide +kernel
theorem dX3_barred_123 : decode cX3_barred 123 = .ok (.ifCond .eq 17, 3) := by decide +kernel
theorem dX3_barred_126 : decode cX3_barred 126 = .ok (.aload_n 0, 1) := by decide +kernel
theorem dX3_barred_127 : decode cX3_barred 127 = .ok (.iconst 0, 1) := by decide +kernel
theorem dX3_barred_128 : decode cX3_barred 128 = .ok (.iload 5, 2) := by decide +kernel
theorem dX3_barred_130 : decode cX3_barred 130 = .ok (.invokevirtual 68, 3) := by decide +kernel
theorem dX3_barred_133 : decode cX3_barred 133 = .ok (.ifCond .ne 7, 3) := by decide +kernel
theorem dX3_barred_136 : decode cX3_barred 136 = .ok (.iconst 1, 1) := by decide +kernel
theorem dX3_barred_137 : decode cX3_barred 137 = .ok (.goto 4, 3) := by decide +kernel
theorem dX3_barred_140 : decode cX3_barred 140 = .ok (.iconst 0, 1) := by decide +kernel
theorem dX3_barred_141 : decode cX3_barred 141 = .ok (.istore 4, 2) := by decide +kernel
theorem dX3_barred_143 : decode cX3_barred 143 = .ok (.iinc 5 1, 3) := by decide +kernel
theorem dX3_barred_146 : decode cX3_barred 146 = .ok (.goto (-53), 3) := by decide +kernel
theorem dX3_barred_149 : decode cX3_barred 149 = .ok (.iload 4, 2) := by decide +kernel
theorem dX3_barred_151 : decode cX3_barred 151 = .ok (.ifCond .eq 8, 3) := by decide +kernel
theorem dX3_barred_154 : decode cX3_barred 154 = .ok (.bipush (-4), 2) := by decide +kernel
theorem dX3_barred_156 : decode cX3_barred 156 = .ok (.goto 4, 3) := by decide +kernel
theorem dX3_barred_159 : decode cX3_barred 159 = .ok (.iconst 0, 1) := by decide +kernel
theorem dX3_barred_160 : decode cX3_barred 160 = .ok (.ireturn, 1) := by decide +kernel
set_option maxRecDepth 20000 in
theorem ggX3_push_X3_barred : GoodIn wsX3_push wsX3_barred := goodIn_r _ [13, 14, 3, 7, 8, 15, 5, 4, 16, 17, 18, 12, 19, 20, 21, 22, 23, 24, 25, 26, 27, 28, 29, 30, 31, 6, 32, 33, 34, 35, 36, 37, 38, 39, 40, 41, 42, 43, 44, 45, 46, 47, 48, 49, 50, 51, 52, 59, 60, 61, 62, 63, 64, 65, 66, 67, 68, 69, 70, 71, 72, 73, 74, 75, 76] (by decide +kernel) (by decide +kernel)
set_option maxRecDepth 20000 in
theorem gX3_push_X3_barred : GoodIn wsX3_push (wsV RX3 140 RX3 yX3_barred wsX3_barred) := goodIn_app (goodIn_of _ (by decide +kernel)) ggX3_push_X3_barred
set_option maxRecDepth 20000 in
theorem ggX3_push_X3_markFrom : GoodIn wsX3_push wsX3_markFrom := goodIn_r _ [19, 20, 21, 22, 12, 23, 5, 24, 25, 26, 27, 28, 29, 30, 31, 6, 32, 33, 34, 35, 4, 36, 37, 38, 39, 40, 41, 42, 43, 44, 45, 46, 47, 48, 49, 50, 51, 52, 59, 60, 61, 62, 63, 64, 65, 66, 67, 68, 69, 70, 71, 72, 73, 74, 75, 76] (by decide +kernel) (by decide +kernel)
set_option maxRecDepth 20000 in
theorem gX3_push_X3_markFrom : GoodIn wsX3_push (wsV RX3 108 RX3 yX3_markFrom wsX3_markFrom) := goodIn_app (goodIn_of _ (by decide +kernel)) ggX3_push_X3_markFrom
set_option maxRecDepth 20000 in
theorem ggX3_push_X3_isIn : GoodIn wsX3_push wsX3_isIn := goodIn_r _ [31, 6, 32, 33, 34, 12, 35, 4, 36, 37, 38, 59, 60, 61, 62, 63, 64, 65, 66, 67, 68, 69, 70, 71, 72, 73, 74, 75, 76] (by decide +kernel) (by decide +kernel)
set_option maxRecDepth 20000 in
theorem gX3_push_X3_isIn : GoodIn wsX3_push (wsV RX3 68 RX3 yX3_isIn wsX3_isIn) := goodIn_app (goodIn_of _ (by decide +kernel)) ggX3_push_X3_isIn
set_option maxRecDepth 20000 in
theorem ggX3_push_X3_bring : GoodIn wsX3_push wsX3_bring := goodIn_r _ [56, 57, 58, 59, 60, 61, 62, 63, 64, 65, 66, 67, 68, 69, 70, 71, 72, 73, 74, 75, 76] (by decide +kernel) (by decide +kernel)
set_option maxRecDepth 20000 in
theorem gX3_push_X3_bring : GoodIn wsX3_push (wsV RX3 123 RX3 yX3_bring wsX3_bring) := goodIn_app (goodIn_of _ (by decide +kernel)) ggX3_push_X3_bring
theorem dX3_push_0 : decode cX3_push 0 = .ok (.aload_n 0, 1) := by decide +kernel
theorem dX3_push_1 : decode cX3_push 1 = .ok (.iconst 0, 1) := by decide +kernel
theorem dX3_push_2 : decode cX3_push 2 = .ok (.putfield 53, 3) := by decide +kernel
theorem dX3_push_5 : decode cX3_push 5 = .ok (.aload_n 0, 1) := by decide +kernel
theorem dX3_push_6 : decode cX3_push 6 = .ok (.getfield 137, 3) := by decide +kernel
theorem dX3_push_9 : decode cX3_push 9 = .ok (.istore_n 1, 1) := by decide +kernel
theorem dX3_push_10 : decode cX3_push 10 = .ok (.aload_n 0, 1) := by decide +kernel
theorem dX3_push_11 : decode cX3_push 11 = .ok (.iconst 0, 1) := by decide +kernel
theorem dX3_push_12 : decode cX3_push 12 = .ok (.putfield 137, 3) := by decide +kernel
theorem dX3_push_15 : decode cX3_push 15 = .ok (.iconst 0, 1) := by decide +kernel
theorem dX3_push_16 : decode cX3_push 16 = .ok (.istore_n 2, 1) := by decide +kernel
theorem dX3_push_17 : decode cX3_push 17 = .ok (.iload_n 2, 1) := by decide +kernel
theorem dX3_push_18 : decode cX3_push 18 = .ok (.iload_n 1, 1) := by decide +kernel
theorem dX3_push_19 : decode cX3_push 19 = .ok (.if_icmp .ge 21, 3) := by decide +kernel
theorem dX3_push_22 : decode cX3_push 22 = .ok (.aload_n 0, 1) := by decide +kernel
theorem dX3_push_23 : decode cX3_push 23 = .ok (.iload_n 2, 1) := by decide +kernel
theorem dX3_push_24 : decode cX3_push 24 = .ok (.invokevirtual 140, 3) := by decide +kernel
theorem dX3_push_27 : decode cX3_push 27 = .ok (.istore_n 3, 1) := by decide +kernel
theorem dX3_push_28 : decode cX3_push 28 = .ok (.iload_n 3, 1) := by decide +kernel
theorem dX3_push_29 : decode cX3_push 29 = .ok (.ifCond .eq 5, 3) := by decide +kernel
theorem dX3_push_32 : decode cX3_push 32 = .ok (.iload_n 3, 1) := by decide +kernel
theorem dX3_push_33 : decode cX3_push 33 = .ok (.ireturn, 1) := by decide +kernel
theorem dX3_push_34 : decode cX3_push 34 = .ok (.iinc 2 1, 3) := by decide +kernel
theorem dX3_push_37 : decode cX3_push 37 = .ok (.goto (-20), 3) := by decide +kernel
theorem dX3_push_40 : decode cX3_push 40 = .ok (.iconst 0, 1) := by decide +kernel
theorem dX3_push_41 : decode cX3_push 41 = .ok (.istore_n 2, 1) := by decide +kernel
theorem dX3_push_42 : decode cX3_push 42 = .ok (.iconst 0, 1) := by decide +kernel
theorem dX3_push_43 : decode cX3_push 43 = .ok (.istore_n 3, 1) := by decide +kernel
theorem dX3_push_44 : decode cX3_push 44 = .ok (.iload_n 3, 1) := by decide +kernel
theorem dX3_push_45 : decode cX3_push 45 = .ok (.iload_n 1, 1) := by decide +kernel
theorem dX3_push_46 : decode cX3_push 46 = .ok (.if_icmp .ge 100, 3) := by decide +kernel
theorem dX3_push_49 : decode cX3_push 49 = .ok (.aload_n 0, 1) := by decide +kernel
theorem dX3_push_50 : decode cX3_push 50 = .ok (.iconst 1, 1) := by decide +kernel
theorem dX3_push_51 : decode cX3_push 51 = .ok (.aload_n 0, 1) := by decide +kernel
theorem dX3_push_52 : decode cX3_push 52 = .ok (.getfield 38, 3) := by decide +kernel
theorem dX3_push_55 : decode cX3_push 55 = .ok (.iload_n 3, 1) := by decide +kernel
theorem dX3_push_56 : decode cX3_push 56 = .ok (.iaload, 1) := by decide +kernel
theorem dX3_push_57 : decode cX3_push 57 = .ok (.invokevirtual 108, 3) := by decide +kernel
theorem dX3_push_60 : decode cX3_push 60 = .ok (.iconst 0, 1) := by decide +kernel
theorem dX3_push_61 : decode cX3_push 61 = .ok (.istore 4, 2) := by decide +kernel
theorem dX3_push_63 : decode cX3_push 63 = .ok (.iload 4, 2) := by decide +kernel
theorem dX3_push_65 : decode cX3_push 65 = .ok (.aload_n 0, 1) := by decide +kernel
theorem dX3_push_66 : decode cX3_push 66 = .ok (.getfield 61, 3) := by decide +kernel
theorem dX3_push_69 : decode cX3_push 69 = .ok (.if_icmp .ge 54, 3) := by decide +kernel
theorem dX3_push_72 : decode cX3_push 72 = .ok (.aload_n 0, 1) := by decide +kernel
theorem dX3_push_73 : decode cX3_push 73 = .ok (.getfield 41, 3) := by decide +kernel
