theorem dX3_lacksParent_31 : decode cX3_lacksParent 31 = .ok (.if_icmp .eq 21, 3) := by decide +kernel
theorem dX3_lacksParent_34 : decode cX3_lacksParent 34 = .ok (.aload_n 0, 1) := by decide +kernel
theorem dX3_lacksParent_35 : decode cX3_lacksParent 35 = .ok (.iload_n 1, 1) := by decide +kernel
theorem dX3_lacksParent_36 : decode cX3_lacksParent 36 = .ok (.aload_n 0, 1) := by decide +kernel
theorem dX3_lacksParent_37 : decode cX3_lacksParent 37 = .ok (.getfield 13, 3) := by decide +kernel
theorem dX3_lacksParent_40 : decode cX3_lacksParent 40 = .ok (.iload_n 2, 1) := by decide +kernel
theorem dX3_lacksParent_41 : decode cX3_lacksParent 41 = .ok (.iaload, 1) := by decide +kernel
theorem dX3_lacksParent_42 : decode cX3_lacksParent 42 = .ok (.invokevirtual 68, 3) := by decide +kernel
theorem dX3_lacksParent_45 : decode cX3_lacksParent 45 = .ok (.ifCond .ne 7, 3) := by decide +kernel
theorem dX3_lacksParent_48 : decode cX3_lacksParent 48 = .ok (.iconst 1, 1) := by decide +kernel
theorem dX3_lacksParent_49 : decode cX3_lacksParent 49 = .ok (.goto 4, 3) := by decide +kernel
theorem dX3_lacksParent_52 : decode cX3_lacksParent 52 = .ok (.iconst 0, 1) := by decide +kernel
theorem dX3_lacksParent_53 : decode cX3_lacksParent 53 = .ok (.ireturn, 1) := by decide +kernel
set_option maxRecDepth 20000 in
theorem ggX3_shallow_X3_isIn : GoodIn wsX3_shallow wsX3_isIn := goodIn_r _ [5, 6, 7, 8, 9, 4, 10, 11, 12, 13, 14, 21, 22, 23, 24, 25, 26, 27, 28, 29, 30, 31, 32, 33, 34, 35, 36, 37, 38] (by decide +kernel) (by decide +kernel)
set_option maxRecDepth 20000 in
theorem gX3_shallow_X3_isIn : GoodIn wsX3_shallow (wsV RX3 68 RX3 yX3_isIn wsX3_isIn) := goodIn_app (goodIn_of _ (by decide +kernel)) ggX3_shallow_X3_isIn
set_option maxRecDepth 20000 in
theorem ggX3_shallow_X3_lacksParent : GoodIn wsX3_shallow wsX3_lacksParent := goodIn_r _ [18, 19, 20, 1, 2, 3, 4, 5, 6, 7, 8, 9, 10, 11, 12, 13, 14, 21, 22, 23, 24, 25, 26, 27, 28, 29, 30, 31, 32, 33, 34, 35, 36, 37, 38] (by decide +kernel) (by decide +kernel)
set_option maxRecDepth 20000 in
theorem gX3_shallow_X3_lacksParent : GoodIn wsX3_shallow (wsV RX3 84 RX3 yX3_lacksParent wsX3_lacksParent) := goodIn_app (goodIn_of _ (by decide +kernel)) ggX3_shallow_X3_lacksParent
theorem dX3_shallow_0 : decode cX3_shallow 0 = .ok (.aload_n 0, 1) := by decide +kernel
theorem dX3_shallow_1 : decode cX3_shallow 1 = .ok (.iconst 1, 1) := by decide +kernel
theorem dX3_shallow_2 : decode cX3_shallow 2 = .ok (.iload_n 1, 1) := by decide +kernel
theorem dX3_shallow_3 : decode cX3_shallow 3 = .ok (.invokevirtual 68, 3) := by decide +kernel
theorem dX3_shallow_6 : decode cX3_shallow 6 = .ok (.ifCond .eq 16, 3) := by decide +kernel
theorem dX3_shallow_9 : decode cX3_shallow 9 = .ok (.aload_n 0, 1) := by decide +kernel
theorem dX3_shallow_10 : decode cX3_shallow 10 = .ok (.iconst 1, 1) := by decide +kernel
theorem dX3_shallow_11 : decode cX3_shallow 11 = .ok (.iload_n 1, 1) := by decide +kernel
theorem dX3_shallow_12 : decode cX3_shallow 12 = .ok (.invokevirtual 84, 3) := by decide +kernel
theorem dX3_shallow_15 : decode cX3_shallow 15 = .ok (.ifCond .eq 7, 3) := by decide +kernel
theorem dX3_shallow_18 : decode cX3_shallow 18 = .ok (.iconst 1, 1) := by decide +kernel
theorem dX3_shallow_19 : decode cX3_shallow 19 = .ok (.goto 4, 3) := by decide +kernel
theorem dX3_shallow_22 : decode cX3_shallow 22 = .ok (.iconst 0, 1) := by decide +kernel
theorem dX3_shallow_23 : decode cX3_shallow 23 = .ok (.ireturn, 1) := by decide +kernel
set_option maxRecDepth 20000 in
theorem ggX3_markOn_X3_shallow : GoodIn wsX3_markOn wsX3_shallow := goodIn_r _ [9, 10, 11, 12, 8, 13, 14, 15, 16, 17, 18, 1, 19, 20, 21, 22, 23, 24, 25, 3, 4, 30, 31, 32, 33, 34, 35, 36, 37, 38, 39, 40, 41, 42, 43, 44, 45, 46, 47] (by decide +kernel) (by decide +kernel)
set_option maxRecDepth 20000 in
theorem gX3_markOn_X3_shallow : GoodIn wsX3_markOn (wsV RX3 87 RX3 yX3_shallow wsX3_shallow) := goodIn_app (goodIn_of _ (by decide +kernel)) ggX3_markOn_X3_shallow
set_option maxRecDepth 20000 in
theorem ggX3_markOn_X3_mark : GoodIn wsX3_markOn wsX3_mark := goodIn_r _ [29, 2, 10, 11, 12, 8, 13, 14, 15, 16, 17, 18, 1, 19, 20, 21, 30, 31, 32, 33, 34, 35, 36, 37, 38, 39, 40, 41, 42, 43, 44, 45, 46, 47] (by decide +kernel) (by decide +kernel)
set_option maxRecDepth 20000 in
theorem gX3_markOn_X3_mark : GoodIn wsX3_markOn (wsV RX3 90 RX3 yX3_mark wsX3_mark) := goodIn_app (goodIn_of _ (by decide +kernel)) ggX3_markOn_X3_mark
theorem dX3_markOn_0 : decode cX3_markOn 0 = .ok (.aload_n 0, 1) := by decide +kernel
theorem dX3_markOn_1 : decode cX3_markOn 1 = .ok (.getfield 61, 3) := by decide +kernel
theorem dX3_markOn_4 : decode cX3_markOn 4 = .ok (.iconst 1, 1) := by decide +kernel
theorem dX3_markOn_5 : decode cX3_markOn 5 = .ok (.isub, 1) := by decide +kernel
theorem dX3_markOn_6 : decode cX3_markOn 6 = .ok (.istore_n 2, 1) := by decide +kernel
theorem dX3_markOn_7 : decode cX3_markOn 7 = .ok (.iload_n 2, 1) := by decide +kernel
theorem dX3_markOn_8 : decode cX3_markOn 8 = .ok (.ifCond .lt 53, 3) := by decide +kernel
theorem dX3_markOn_11 : decode cX3_markOn 11 = .ok (.aload_n 0, 1) := by decide +kernel
theorem dX3_markOn_12 : decode cX3_markOn 12 = .ok (.getfield 41, 3) := by decide +kernel
theorem dX3_markOn_15 : decode cX3_markOn 15 = .ok (.iload_n 2, 1) := by decide +kernel
theorem dX3_markOn_16 : decode cX3_markOn 16 = .ok (.baload, 1) := by decide +kernel
theorem dX3_markOn_17 : decode cX3_markOn 17 = .ok (.ifCond .eq 38, 3) := by decide +kernel
theorem dX3_markOn_20 : decode cX3_markOn 20 = .ok (.iload_n 1, 1) := by decide +kernel
theorem dX3_markOn_21 : decode cX3_markOn 21 = .ok (.iconst 1, 1) := by decide +kernel
theorem dX3_markOn_22 : decode cX3_markOn 22 = .ok (.if_icmp .ne 11, 3) := by decide +kernel
theorem dX3_markOn_25 : decode cX3_markOn 25 = .ok (.aload_n 0, 1) := by decide +kernel
theorem dX3_markOn_26 : decode cX3_markOn 26 = .ok (.iload_n 2, 1) := by decide +kernel
theorem dX3_markOn_27 : decode cX3_markOn 27 = .ok (.invokevirtual 87, 3) := by decide +kernel
theorem dX3_markOn_30 : decode cX3_markOn 30 = .ok (.ifCond .ne 25, 3) := by decide +kernel
theorem dX3_markOn_33 : decode cX3_markOn 33 = .ok (.aload_n 0, 1) := by decide +kernel
theorem dX3_markOn_34 : decode cX3_markOn 34 = .ok (.iload_n 1, 1) := by decide +kernel
theorem dX3_markOn_35 : decode cX3_markOn 35 = .ok (.aload_n 0, 1) := by decide +kernel
theorem dX3_markOn_36 : decode cX3_markOn 36 = .ok (.getfield 7, 3) := by decide +kernel
theorem dX3_markOn_39 : decode cX3_markOn 39 = .ok (.iload_n 2, 1) := by decide +kernel
theorem dX3_markOn_40 : decode cX3_markOn 40 = .ok (.iaload, 1) := by decide +kernel
theorem dX3_markOn_41 : decode cX3_markOn 41 = .ok (.invokevirtual 90, 3) := by decide +kernel
theorem dX3_markOn_44 : decode cX3_markOn 44 = .ok (.aload_n 0, 1) := by decide +kernel
theorem dX3_markOn_45 : decode cX3_markOn 45 = .ok (.iload_n 1, 1) := by decide +kernel
theorem dX3_markOn_46 : decode cX3_markOn 46 = .ok (.aload_n 0, 1) := by decide +kernel
theorem dX3_markOn_47 : decode cX3_markOn 47 = .ok (.getfield 13, 3) := by decide +kernel
theorem dX3_markOn_50 : decode cX3_markOn 50 = .ok (.iload_n 2, 1) := by decide +kernel
theorem dX3_markOn_51 : decode cX3_markOn 51 = .ok (.iaload, 1) := by decide +kernel
theorem dX3_markOn_52 : decode cX3_markOn 52 = .ok (.invokevirtual 90, 3) := by decide +kernel
theorem dX3_markOn_55 : decode cX3_markOn 55 = .ok (.iinc 2 (-1), 3) := by decide +kernel
theorem dX3_markOn_58 : decode cX3_markOn 58 = .ok (.goto (-51), 3) := by decide +kernel
theorem dX3_markOn_61 : decode cX3_markOn 61 = .ok (.return_, 1) := by decide +kernel
set_option maxRecDepth 20000 in
theorem ggX3_mark_X3_isIn : GoodIn wsX3_mark wsX3_isIn := goodIn_r _ [6, 7, 8, 9, 10, 5, 11, 12, 13, 14, 15, 16, 17, 18, 19, 20, 21, 22, 23, 24, 25, 26, 27, 28, 29, 30, 31, 32, 33] (by decide +kernel) (by decide +kernel)
set_option maxRecDepth 20000 in
theorem gX3_mark_X3_isIn : GoodIn wsX3_mark (wsV RX3 68 RX3 yX3_isIn wsX3_isIn) := goodIn_app (goodIn_of _ (by decide +kernel)) ggX3_mark_X3_isIn
theorem dX3_mark_0 : decode cX3_mark 0 = .ok (.aload_n 0, 1) := by decide +kernel
theorem dX3_mark_1 : decode cX3_mark 1 = .ok (.iload_n 1, 1) := by decide +kernel
theorem dX3_mark_2 : decode cX3_mark 2 = .ok (.iload_n 2, 1) := by decide +kernel
theorem dX3_mark_3 : decode cX3_mark 3 = .ok (.invokevirtual 68, 3) := by decide +kernel
theorem dX3_mark_6 : decode cX3_mark 6 = .ok (.ifCond .eq 10, 3) := by decide +kernel
theorem dX3_mark_9 : decode cX3_mark 9 = .ok (.aload_n 0, 1) := by decide +kernel
theorem dX3_mark_10 : decode cX3_mark 10 = .ok (.getfield 41, 3) := by decide +kernel
theorem dX3_mark_13 : decode cX3_mark 13 = .ok (.iload_n 2, 1) := by decide +kernel
theorem dX3_mark_14 : decode cX3_mark 14 = .ok (.iconst 1, 1) := by decide +kernel
theorem dX3_mark_15 : decode cX3_mark 15 = .ok (.bastore, 1) := by decide +kernel
theorem dX3_mark_16 : decode cX3_mark 16 = .ok (.return_, 1) := by decide +kernel
theorem dX3_clear_0 : decode cX3_clear 0 = .ok (.iconst 0, 1) := by decide +kernel
theorem dX3_clear_1 : decode cX3_clear 1 = .ok (.istore_n 1, 1) := by decide +kernel
theorem dX3_clear_2 : decode cX3_clear 2 = .ok (.iload_n 1, 1) := by decide +kernel
theorem dX3_clear_3 : decode cX3_clear 3 = .ok (.bipush 60, 2) := by decide +kernel
theorem dX3_clear_5 : decode cX3_clear 5 = .ok (.if_icmp .ge 16, 3) := by decide +kernel
theorem dX3_clear_8 : decode cX3_clear 8 = .ok (.aload_n 0, 1) := by decide +kernel
theorem dX3_clear_9 : decode cX3_clear 9 = .ok (.getfield 41, 3) := by decide +kernel
theorem dX3_clear_12 : decode cX3_clear 12 = .ok (.iload_n 1, 1) := by decide +kernel
theorem dX3_clear_13 : decode cX3_clear 13 = .ok (.iconst 0, 1) := by decide +kernel
theorem dX3_clear_14 : decode cX3_clear 14 = .ok (.bastore, 1) := by decide +kernel
theorem dX3_clear_15 : decode cX3_clear 15 = .ok (.iinc 1 1, 3) := by decide +kernel
theorem dX3_clear_18 : decode cX3_clear 18 = .ok (.goto (-16), 3) := by decide +kernel
theorem dX3_clear_21 : decode cX3_clear 21 = .ok (.return_, 1) := by decide +kernel
set_option maxRecDepth 20000 in
theorem ggX3_markFrom_X3_clear : GoodIn wsX3_markFrom wsX3_clear := goodIn_r _ [5, 6, 38, 39, 40, 41, 42, 43, 44, 45, 46, 47, 48, 49, 50, 51, 52, 53, 54, 55] (by decide +kernel) (by decide +kernel)
set_option maxRecDepth 20000 in
theorem gX3_markFrom_X3_clear : GoodIn wsX3_markFrom (wsV RX3 94 RX3 yX3_clear wsX3_clear) := goodIn_app (goodIn_of _ (by decide +kernel)) ggX3_markFrom_X3_clear
set_option maxRecDepth 20000 in
theorem ggX3_markFrom_X3_mark : GoodIn wsX3_markFrom wsX3_mark := goodIn_r _ [10, 6, 11, 12, 13, 4, 14, 15, 16, 17, 18, 19, 20, 21, 22, 23, 38, 39, 40, 41, 42, 43, 44, 45, 46, 47, 48, 49, 50, 51, 52, 53, 54, 55] (by decide +kernel) (by decide +kernel)
set_option maxRecDepth 20000 in
theorem gX3_markFrom_X3_mark : GoodIn wsX3_markFrom (wsV RX3 90 RX3 yX3_mark wsX3_mark) := goodIn_app (goodIn_of _ (by decide +kernel)) ggX3_markFrom_X3_mark
set_option maxRecDepth 20000 in
theorem ggX3_markFrom_X3_markOn : GoodIn wsX3_markFrom wsX3_markOn := goodIn_r _ [27, 20, 6, 28, 29, 30, 31, 32, 4, 33, 11, 12, 13, 14, 15, 16, 17, 18, 19, 21, 22, 23, 34, 35, 36, 37, 7, 8, 9, 10, 38, 39, 40, 41, 42, 43, 44, 45, 46, 47, 48, 49, 50, 51, 52, 53, 54, 55] (by decide +kernel) (by decide +kernel)
set_option maxRecDepth 20000 in
theorem gX3_markFrom_X3_markOn : GoodIn wsX3_markFrom (wsV RX3 97 RX3 yX3_markOn wsX3_markOn) := goodIn_app (goodIn_of _ (by decide +kernel)) ggX3_markFrom_X3_markOn
theorem dX3_markFrom_0 : decode cX3_markFrom 0 = .ok (.aload_n 0, 1) := by decide +kernel
theorem dX3_markFrom_1 : decode cX3_markFrom 1 = .ok (.invokevirtual 94, 3) := by decide +kernel
theorem dX3_markFrom_4 : decode cX3_markFrom 4 = .ok (.aload_n 0, 1) := by decide +kernel
theorem dX3_markFrom_5 : decode cX3_markFrom 5 = .ok (.iload_n 1, 1) := by decide +kernel
theorem dX3_markFrom_6 : decode cX3_markFrom 6 = .ok (.iload_n 2, 1) := by decide +kernel
theorem dX3_markFrom_7 : decode cX3_markFrom 7 = .ok (.invokevirtual 90, 3) := by decide +kernel
theorem dX3_markFrom_10 : decode cX3_markFrom 10 = .ok (.aload_n 0, 1) := by decide +kernel
theorem dX3_markFrom_11 : decode cX3_markFrom 11 = .ok (.iload_n 1, 1) := by decide +kernel
theorem dX3_markFrom_12 : decode cX3_markFrom 12 = .ok (.invokevirtual 97, 3) := by decide +kernel
theorem dX3_markFrom_15 : decode cX3_markFrom 15 = .ok (.return_, 1) := by decide +kernel
set_option maxRecDepth 20000 in
theorem ggX3_talk_X3_tell : GoodIn wsX3_talk wsX3_tell := goodIn_r _ [8, 9, 2, 3, 10, 11, 12, 13, 7, 14, 15, 16, 17, 18, 19, 20, 21, 22, 23, 24, 25, 26, 27, 28, 29, 30, 31, 32, 33, 34, 35, 36, 37, 38, 39, 40, 41, 42, 43, 44, 45, 46, 47, 48, 49, 50, 51, 52, 53, 54, 55, 56, 57, 58, 59, 60, 61, 62] (by decide +kernel) (by decide +kernel)
set_option maxRecDepth 20000 in
theorem gX3_talk_X3_tell : GoodIn wsX3_talk (wsV RX3 104 RX3 yX3_tell wsX3_tell) := goodIn_app (goodIn_of _ (by decide +kernel)) ggX3_talk_X3_tell
theorem dX3_talk_0 : decode cX3_talk 0 = .ok (.aload_n 0, 1) := by decide +kernel
theorem dX3_talk_1 : decode cX3_talk 1 = .ok (.iconst 0, 1) := by decide +kernel
theorem dX3_talk_2 : decode cX3_talk 2 = .ok (.putfield 101, 3) := by decide +kernel
theorem dX3_talk_5 : decode cX3_talk 5 = .ok (.iconst 0, 1) := by decide +kernel
theorem dX3_talk_6 : decode cX3_talk 6 = .ok (.istore_n 1, 1) := by decide +kernel
theorem dX3_talk_7 : decode cX3_talk 7 = .ok (.iload_n 1, 1) := by decide +kernel
theorem dX3_talk_8 : decode cX3_talk 8 = .ok (.bipush 60, 2) := by decide +kernel
theorem dX3_talk_10 : decode cX3_talk 10 = .ok (.if_icmp .ge 23, 3) := by decide +kernel
theorem dX3_talk_13 : decode cX3_talk 13 = .ok (.aload_n 0, 1) := by decide +kernel
theorem dX3_talk_14 : decode cX3_talk 14 = .ok (.getfield 44, 3) := by decide +kernel
theorem dX3_talk_17 : decode cX3_talk 17 = .ok (.iload_n 1, 1) := by decide +kernel
theorem dX3_talk_18 : decode cX3_talk 18 = .ok (.iconst 0, 1) := by decide +kernel
theorem dX3_talk_19 : decode cX3_talk 19 = .ok (.bastore, 1) := by decide +kernel
theorem dX3_talk_20 : decode cX3_talk 20 = .ok (.aload_n 0, 1) := by decide +kernel
theorem dX3_talk_21 : decode cX3_talk 21 = .ok (.getfield 47, 3) := by decide +kernel
theorem dX3_talk_24 : decode cX3_talk 24 = .ok (.iload_n 1, 1) := by decide +kernel
theorem dX3_talk_25 : decode cX3_talk 25 = .ok (.iconst 0, 1) := by decide +kernel
theorem dX3_talk_26 : decode cX3_talk 26 = .ok (.bastore, 1) := by decide +kernel
theorem dX3_talk_27 : decode cX3_talk 27 = .ok (.iinc 1 1, 3) := by decide +kernel
theorem dX3_talk_30 : decode cX3_talk 30 = .ok (.goto (-23), 3) := by decide +kernel
theorem dX3_talk_33 : decode cX3_talk 33 = .ok (.aload_n 0, 1) := by decide +kernel
theorem dX3_talk_34 : decode cX3_talk 34 = .ok (.invokevirtual 104, 3) := by decide +kernel
theorem dX3_talk_37 : decode cX3_talk 37 = .ok (.ifCond .le 16, 3) := by decide +kernel
theorem dX3_talk_40 : decode cX3_talk 40 = .ok (.aload_n 0, 1) := by decide +kernel
theorem dX3_talk_41 : decode cX3_talk 41 = .ok (.dup, 1) := by decide +kernel
theorem dX3_talk_42 : decode cX3_talk 42 = .ok (.getfield 101, 3) := by decide +kernel
theorem dX3_talk_45 : decode cX3_talk 45 = .ok (.iconst 1, 1) := by decide +kernel
theorem dX3_talk_46 : decode cX3_talk 46 = .ok (.iadd, 1) := by decide +kernel
theorem dX3_talk_47 : decode cX3_talk 47 = .ok (.putfield 101, 3) := by decide +kernel
theorem dX3_talk_50 : decode cX3_talk 50 = .ok (.goto (-17), 3) := by decide +kernel
theorem dX3_talk_53 : decode cX3_talk 53 = .ok (.return_, 1) := by decide +kernel
set_option maxRecDepth 20000 in
theorem ggX3_tell_X3_clear : GoodIn wsX3_tell wsX3_clear := goodIn_r _ [9, 4, 40, 41, 42, 43, 44, 45, 46, 47, 48, 49, 50, 51, 52, 53, 54, 55, 56, 57] (by decide +kernel) (by decide +kernel)
set_option maxRecDepth 20000 in
theorem gX3_tell_X3_clear : GoodIn wsX3_tell (wsV RX3 94 RX3 yX3_clear wsX3_clear) := goodIn_app (goodIn_of _ (by decide +kernel)) ggX3_tell_X3_clear
set_option maxRecDepth 20000 in
theorem ggX3_tell_X3_isIn : GoodIn wsX3_tell wsX3_isIn := goodIn_r _ [13, 14, 15, 16, 17, 8, 18, 1, 19, 20, 21, 40, 41, 42, 43, 44, 45, 46, 47, 48, 49, 50, 51, 52, 53, 54, 55, 56, 57] (by decide +kernel) (by decide +kernel)
set_option maxRecDepth 20000 in
theorem gX3_tell_X3_isIn : GoodIn wsX3_tell (wsV RX3 68 RX3 yX3_isIn wsX3_isIn) := goodIn_app (goodIn_of _ (by decide +kernel)) ggX3_tell_X3_isIn
set_option maxRecDepth 20000 in
theorem ggX3_tell_X3_markOn : GoodIn wsX3_tell wsX3_markOn := goodIn_r _ [25, 1, 4, 26, 27, 28, 29, 30, 8, 31, 10, 11, 12, 13, 14, 15, 16, 17, 18, 19, 20, 21, 32, 33, 34, 35, 36, 37, 38, 39, 40, 41, 42, 43, 44, 45, 46, 47, 48, 49, 50, 51, 52, 53, 54, 55, 56, 57] (by decide +kernel) (by decide +kernel)
set_option maxRecDepth 20000 in
theorem gX3_tell_X3_markOn : GoodIn wsX3_tell (wsV RX3 97 RX3 yX3_markOn wsX3_markOn) := goodIn_app (goodIn_of _ (by decide +kernel)) ggX3_tell_X3_markOn
theorem dX3_tell_0 : decode cX3_tell 0 = .ok (.iconst 0, 1) := by decide +kernel
theorem dX3_tell_1 : decode cX3_tell 1 = .ok (.istore_n 1, 1) := by decide +kernel
theorem dX3_tell_2 : decode cX3_tell 2 = .ok (.aload_n 0, 1) := by decide +kernel
theorem dX3_tell_3 : decode cX3_tell 3 = .ok (.invokevirtual 94, 3) := by decide +kernel
theorem dX3_tell_6 : decode cX3_tell 6 = .ok (.aload_n 0, 1) := by decide +kernel
theorem dX3_tell_7 : decode cX3_tell 7 = .ok (.getfield 61, 3) := by decide +kernel
theorem dX3_tell_10 : decode cX3_tell 10 = .ok (.iconst 1, 1) := by decide +kernel
theorem dX3_tell_11 : decode cX3_tell 11 = .ok (.isub, 1) := by decide +kernel
theorem dX3_tell_12 : decode cX3_tell 12 = .ok (.istore_n 2, 1) := by decide +kernel
theorem dX3_tell_13 : decode cX3_tell 13 = .ok (.iload_n 2, 1) := by decide +kernel
theorem dX3_tell_14 : decode cX3_tell 14 = .ok (.ifCond .lt 63, 3) := by decide +kernel
theorem dX3_tell_17 : decode cX3_tell 17 = .ok (.iload_n 1, 1) := by decide +kernel
theorem dX3_tell_18 : decode cX3_tell 18 = .ok (.iconst 4, 1) := by decide +kernel
theorem dX3_tell_19 : decode cX3_tell 19 = .ok (.if_icmp .ge 58, 3) := by decide +kernel
theorem dX3_tell_22 : decode cX3_tell 22 = .ok (.aload_n 0, 1) := by decide +kernel
theorem dX3_tell_23 : decode cX3_tell 23 = .ok (.iconst 1, 1) := by decide +kernel
theorem dX3_tell_24 : decode cX3_tell 24 = .ok (.iload_n 2, 1) := by decide +kernel
theorem dX3_tell_25 : decode cX3_tell 25 = .ok (.invokevirtual 68, 3) := by decide +kernel
theorem dX3_tell_28 : decode cX3_tell 28 = .ok (.ifCond .eq 43, 3) := by decide +kernel
theorem dX3_tell_31 : decode cX3_tell 31 = .ok (.aload_n 0, 1) := by decide +kernel
theorem dX3_tell_32 : decode cX3_tell 32 = .ok (.getfield 44, 3) := by decide +kernel
theorem dX3_tell_35 : decode cX3_tell 35 = .ok (.iload_n 2, 1) := by decide +kernel
theorem dX3_tell_36 : decode cX3_tell 36 = .ok (.baload, 1) := by decide +kernel
theorem dX3_tell_37 : decode cX3_tell 37 = .ok (.ifCond .ne 34, 3) := by decide +kernel
theorem dX3_tell_40 : decode cX3_tell 40 = .ok (.aload_n 0, 1) := by decide +kernel
theorem dX3_tell_41 : decode cX3_tell 41 = .ok (.getfield 47, 3) := by decide +kernel
theorem dX3_tell_44 : decode cX3_tell 44 = .ok (.iload_n 2, 1) := by decide +kernel
theorem dX3_tell_45 : decode cX3_tell 45 = .ok (.baload, 1) := by decide +kernel
theorem dX3_tell_46 : decode cX3_tell 46 = .ok (.ifCond .ne 25, 3) := by decide +kernel
theorem dX3_tell_49 : decode cX3_tell 49 = .ok (.aload_n 0, 1) := by decide +kernel
theorem dX3_tell_50 : decode cX3_tell 50 = .ok (.getfield 47, 3) := by decide +kernel
theorem dX3_tell_53 : decode cX3_tell 53 = .ok (.iload_n 2, 1) := by decide +kernel
theorem dX3_tell_54 : decode cX3_tell 54 = .ok (.iconst 1, 1) := by decide +kernel
theorem dX3_tell_55 : decode cX3_tell 55 = .ok (.bastore, 1) := by decide +kernel
theorem dX3_tell_56 : decode cX3_tell 56 = .ok (.aload_n 0, 1) := by decide +kernel
theorem dX3_tell_57 : decode cX3_tell 57 = .ok (.getfield 41, 3) := by decide +kernel
theorem dX3_tell_60 : decode cX3_tell 60 = .ok (.iload_n 2, 1) := by decide +kernel
theorem dX3_tell_61 : decode cX3_tell 61 = .ok (.aload_n 0, 1) := by decide +kernel
theorem dX3_tell_62 : decode cX3_tell 62 = .ok (.iconst 0, 1) := by decide +kernel
theorem dX3_tell_63 : decode cX3_tell 63 = .ok (.iload_n 2, 1) := by decide +kernel
theorem dX3_tell_64 : decode cX3_tell 64 = .ok (.invokevirtual 68, 3) := by decide +kernel
theorem dX3_tell_67 : decode cX3_tell 67 = .ok (.bastore, 1) := by decide +kernel
theorem dX3_tell_68 : decode cX3_tell 68 = .ok (.iinc 1 1, 3) := by decide +kernel
theorem dX3_tell_71 : decode cX3_tell 71 = .ok (.iinc 2 (-1), 3) := by decide +kernel
theorem dX3_tell_74 : decode cX3_tell 74 = .ok (.goto (-61), 3) := by decide +kernel
theorem dX3_tell_77 : decode cX3_tell 77 = .ok (.aload_n 0, 1) := by decide +kernel
theorem dX3_tell_78 : decode cX3_tell 78 = .ok (.iconst 1, 1) := by decide +kernel
theorem dX3_tell_79 : decode cX3_tell 79 = .ok (.invokevirtual 97, 3) := by decide +kernel
theorem dX3_tell_82 : decode cX3_tell 82 = .ok (.iconst 0, 1) := by decide +kernel
theorem dX3_tell_83 : decode cX3_tell 83 = .ok (.istore_n 2, 1) := by decide +kernel
theorem dX3_tell_84 : decode cX3_tell 84 = .ok (.iload_n 2, 1) := by decide +kernel
theorem dX3_tell_85 : decode cX3_tell 85 = .ok (.bipush 60, 2) := by decide +kernel
theorem dX3_tell_87 : decode cX3_tell 87 = .ok (.if_icmp .ge 38, 3) := by decide +kernel
theorem dX3_tell_90 : decode cX3_tell 90 = .ok (.aload_n 0, 1) := by decide +kernel
theorem dX3_tell_91 : decode cX3_tell 91 = .ok (.getfield 44, 3) := by decide +kernel
theorem dX3_tell_94 : decode cX3_tell 94 = .ok (.iload_n 2, 1) := by decide +kernel
theorem dX3_tell_95 : decode cX3_tell 95 = .ok (.aload_n 0, 1) := by decide +kernel
theorem dX3_tell_96 : decode cX3_tell 96 = .ok (.getfield 44, 3) := by decide +kernel
theorem dX3_tell_99 : decode cX3_tell 99 = .ok (.iload_n 2, 1) := by decide +kernel
theorem dX3_tell_100 : decode cX3_tell 100 = .ok (.baload, 1) := by decide +kernel
theorem dX3_tell_101 : decode cX3_tell 101 = .ok (.ifCond .ne 12, 3) := by decide +kernel
theorem dX3_tell_104 : decode cX3_tell 104 = .ok (.aload_n 0, 1) := by decide +kernel
theorem dX3_tell_105 : decode cX3_tell 105 = .ok (.getfield 41, 3) := by decide +kernel
theorem dX3_tell_108 : decode cX3_tell 108 = .ok (.iload_n 2, 1) := by decide +kernel
theorem dX3_tell_109 : decode cX3_tell 109 = .ok (.baload, 1) := by decide +kernel
theorem dX3_tell_110 : decode cX3_tell 110 = .ok (.ifCond .eq 7, 3) := by decide +kernel
theorem dX3_tell_113 : decode cX3_tell 113 = .ok (.iconst 1, 1) := by decide +kernel
theorem dX3_tell_114 : decode cX3_tell 114 = .ok (.goto 4, 3) := by decide +kernel
theorem dX3_tell_117 : decode cX3_tell 117 = .ok (.iconst 0, 1) := by decide +kernel
theorem dX3_tell_118 : decode cX3_tell 118 = .ok (.bastore, 1) := by decide +kernel
theorem dX3_tell_119 : decode cX3_tell 119 = .ok (.iinc 2 1, 3) := by decide +kernel
theorem dX3_tell_122 : decode cX3_tell 122 = .ok (.goto (-38), 3) := by decide +kernel
theorem dX3_tell_125 : decode cX3_tell 125 = .ok (.iload_n 1, 1) := by decide +kernel
theorem dX3_tell_126 : decode cX3_tell 126 = .ok (.ireturn, 1) := by decide +kernel
set_option maxRecDepth 20000 in
theorem ggX3_reach_X3_markFrom : GoodIn wsX3_reach wsX3_markFrom := goodIn_r _ [9, 10, 11, 12, 8, 13, 4, 14, 15, 16, 17, 18, 19, 20, 21, 22, 23, 24, 25, 26, 27, 28, 29, 30, 31, 32, 33, 34, 2, 3, 35, 36, 37, 38, 39, 40, 41, 42, 47, 48, 49, 50, 51, 52, 53, 54, 55, 56, 57, 58, 59, 60, 61, 62, 63, 64] (by decide +kernel) (by decide +kernel)
set_option maxRecDepth 20000 in
theorem gX3_reach_X3_markFrom : GoodIn wsX3_reach (wsV RX3 108 RX3 yX3_markFrom wsX3_markFrom) := goodIn_app (goodIn_of _ (by decide +kernel)) ggX3_reach_X3_markFrom
set_option maxRecDepth 20000 in
theorem ggX3_reach_X3_near : GoodIn wsX3_reach wsX3_near := goodIn_r _ [46, 1, 47, 48, 49, 50, 51, 52, 53, 54, 55, 56, 57, 58, 59, 60, 61, 62, 63, 64] (by decide +kernel) (by decide +kernel)
set_option maxRecDepth 20000 in
theorem gX3_reach_X3_near : GoodIn wsX3_reach (wsV RX3 111 RX3 yX3_near wsX3_near) := goodIn_app (goodIn_of _ (by decide +kernel)) ggX3_reach_X3_near
theorem dX3_reach_0 : decode cX3_reach 0 = .ok (.aload_n 0, 1) := by decide +kernel
theorem dX3_reach_1 : decode cX3_reach 1 = .ok (.iconst 0, 1) := by decide +kernel
theorem dX3_reach_2 : decode cX3_reach 2 = .ok (.iload_n 1, 1) := by decide +kernel
theorem dX3_reach_3 : decode cX3_reach 3 = .ok (.invokevirtual 108, 3) := by decide +kernel
theorem dX3_reach_6 : decode cX3_reach 6 = .ok (.iconst 0, 1) := by decide +kernel
theorem dX3_reach_7 : decode cX3_reach 7 = .ok (.istore_n 3, 1) := by decide +kernel
theorem dX3_reach_8 : decode cX3_reach 8 = .ok (.iload_n 3, 1) := by decide +kernel
theorem dX3_reach_9 : decode cX3_reach 9 = .ok (.bipush 60, 2) := by decide +kernel
theorem dX3_reach_11 : decode cX3_reach 11 = .ok (.if_icmp .ge 17, 3) := by decide +kernel
theorem dX3_reach_14 : decode cX3_reach 14 = .ok (.aload_n 0, 1) := by decide +kernel
theorem dX3_reach_15 : decode cX3_reach 15 = .ok (.getfield 50, 3) := by decide +kernel
theorem dX3_reach_18 : decode cX3_reach 18 = .ok (.iload_n 3, 1) := by decide +kernel
theorem dX3_reach_19 : decode cX3_reach 19 = .ok (.bipush 60, 2) := by decide +kernel
theorem dX3_reach_21 : decode cX3_reach 21 = .ok (.iastore, 1) := by decide +kernel
theorem dX3_reach_22 : decode cX3_reach 22 = .ok (.iinc 3 1, 3) := by decide +kernel
theorem dX3_reach_25 : decode cX3_reach 25 = .ok (.goto (-17), 3) := by decide +kernel
theorem dX3_reach_28 : decode cX3_reach 28 = .ok (.aload_n 0, 1) := by decide +kernel
theorem dX3_reach_29 : decode cX3_reach 29 = .ok (.getfield 50, 3) := by decide +kernel
theorem dX3_reach_32 : decode cX3_reach 32 = .ok (.iload_n 1, 1) := by decide +kernel
theorem dX3_reach_33 : decode cX3_reach 33 = .ok (.iconst 0, 1) := by decide +kernel
theorem dX3_reach_34 : decode cX3_reach 34 = .ok (.iastore, 1) := by decide +kernel
theorem dX3_reach_35 : decode cX3_reach 35 = .ok (.iload_n 1, 1) := by decide +kernel
theorem dX3_reach_36 : decode cX3_reach 36 = .ok (.istore_n 3, 1) := by decide +kernel
theorem dX3_reach_37 : decode cX3_reach 37 = .ok (.iload_n 3, 1) := by decide +kernel
theorem dX3_reach_38 : decode cX3_reach 38 = .ok (.ifCond .lt 79, 3) := by decide +kernel
theorem dX3_reach_41 : decode cX3_reach 41 = .ok (.aload_n 0, 1) := by decide +kernel
theorem dX3_reach_42 : decode cX3_reach 42 = .ok (.aload_n 0, 1) := by decide +kernel
theorem dX3_reach_43 : decode cX3_reach 43 = .ok (.getfield 7, 3) := by decide +kernel
theorem dX3_reach_46 : decode cX3_reach 46 = .ok (.iload_n 3, 1) := by decide +kernel
theorem dX3_reach_47 : decode cX3_reach 47 = .ok (.iaload, 1) := by decide +kernel
theorem dX3_reach_48 : decode cX3_reach 48 = .ok (.aload_n 0, 1) := by decide +kernel
theorem dX3_reach_49 : decode cX3_reach 49 = .ok (.getfield 50, 3) := by decide +kernel
theorem dX3_reach_52 : decode cX3_reach 52 = .ok (.iload_n 3, 1) := by decide +kernel
theorem dX3_reach_53 : decode cX3_reach 53 = .ok (.iaload, 1) := by decide +kernel
theorem dX3_reach_54 : decode cX3_reach 54 = .ok (.iconst 1, 1) := by decide +kernel
theorem dX3_reach_55 : decode cX3_reach 55 = .ok (.iadd, 1) := by decide +kernel
theorem dX3_reach_56 : decode cX3_reach 56 = .ok (.invokevirtual 111, 3) := by decide +kernel
theorem dX3_reach_59 : decode cX3_reach 59 = .ok (.aload_n 0, 1) := by decide +kernel
theorem dX3_reach_60 : decode cX3_reach 60 = .ok (.aload_n 0, 1) := by decide +kernel
theorem dX3_reach_61 : decode cX3_reach 61 = .ok (.getfield 13, 3) := by decide +kernel
theorem dX3_reach_64 : decode cX3_reach 64 = .ok (.iload_n 3, 1) := by decide +kernel
theorem dX3_reach_65 : decode cX3_reach 65 = .ok (.iaload, 1) := by decide +kernel
theorem dX3_reach_66 : decode cX3_reach 66 = .ok (.aload_n 0, 1) := by decide +kernel
theorem dX3_reach_67 : decode cX3_reach 67 = .ok (.getfield 50, 3) := by decide +kernel
theorem dX3_reach_70 : decode cX3_reach 70 = .ok (.iload_n 3, 1) := by decide +kernel
theorem dX3_reach_71 : decode cX3_reach 71 = .ok (.iaload, 1) := by decide +kernel
theorem dX3_reach_72 : decode cX3_reach 72 = .ok (.iconst 1, 1) := by decide +kernel
theorem dX3_reach_73 : decode cX3_reach 73 = .ok (.iadd, 1) := by decide +kernel
theorem dX3_reach_74 : decode cX3_reach 74 = .ok (.invokevirtual 111, 3) := by decide +kernel
theorem dX3_reach_77 : decode cX3_reach 77 = .ok (.aload_n 0, 1) := by decide +kernel
theorem dX3_reach_78 : decode cX3_reach 78 = .ok (.getfield 41, 3) := by decide +kernel
theorem dX3_reach_81 : decode cX3_reach 81 = .ok (.iload_n 3, 1) := by decide +kernel
theorem dX3_reach_82 : decode cX3_reach 82 = .ok (.aload_n 0, 1) := by decide +kernel
theorem dX3_reach_83 : decode cX3_reach 83 = .ok (.getfield 41, 3) := by decide +kernel
theorem dX3_reach_86 : decode cX3_reach 86 = .ok (.iload_n 3, 1) := by decide +kernel
theorem dX3_reach_87 : decode cX3_reach 87 = .ok (.baload, 1) := by decide +kernel
theorem dX3_reach_88 : decode cX3_reach 88 = .ok (.ifCond .eq 21, 3) := by decide +kernel
theorem dX3_reach_91 : decode cX3_reach 91 = .ok (.iload_n 2, 1) := by decide +kernel
theorem dX3_reach_92 : decode cX3_reach 92 = .ok (.ifCond .eq 13, 3) := by decide +kernel
theorem dX3_reach_95 : decode cX3_reach 95 = .ok (.aload_n 0, 1) := by decide +kernel
theorem dX3_reach_96 : decode cX3_reach 96 = .ok (.getfield 50, 3) := by decide +kernel
theorem dX3_reach_99 : decode cX3_reach 99 = .ok (.iload_n 3, 1) := by decide +kernel
theorem dX3_reach_100 : decode cX3_reach 100 = .ok (.iaload, 1) := by decide +kernel
theorem dX3_reach_101 : decode cX3_reach 101 = .ok (.iload_n 2, 1) := by decide +kernel
theorem dX3_reach_102 : decode cX3_reach 102 = .ok (.if_icmp .ge 7, 3) := by decide +kernel
theorem dX3_reach_105 : decode cX3_reach 105 = .ok (.iconst 1, 1) := by decide +kernel
theorem dX3_reach_106 : decode cX3_reach 106 = .ok (.goto 4, 3) := by decide +kernel
theorem dX3_reach_109 : decode cX3_reach 109 = .ok (.iconst 0, 1) := by decide +kernel
theorem dX3_reach_110 : decode cX3_reach 110 = .ok (.bastore, 1) := by decide +kernel
theorem dX3_reach_111 : decode cX3_reach 111 = .ok (.iinc 3 (-1), 3) := by decide +kernel
theorem dX3_reach_114 : decode cX3_reach 114 = .ok (.goto (-77), 3) := by decide +kernel
theorem dX3_reach_117 : decode cX3_reach 117 = .ok (.return_, 1) := by decide +kernel
theorem dX3_near_0 : decode cX3_near 0 = .ok (.iload_n 1, 1) := by decide +kernel
theorem dX3_near_1 : decode cX3_near 1 = .ok (.iconst (-1), 1) := by decide +kernel
theorem dX3_near_2 : decode cX3_near 2 = .ok (.if_icmp .eq 20, 3) := by decide +kernel
theorem dX3_near_5 : decode cX3_near 5 = .ok (.iload_n 2, 1) := by decide +kernel
theorem dX3_near_6 : decode cX3_near 6 = .ok (.aload_n 0, 1) := by decide +kernel
theorem dX3_near_7 : decode cX3_near 7 = .ok (.getfield 50, 3) := by decide +kernel
theorem dX3_near_10 : decode cX3_near 10 = .ok (.iload_n 1, 1) := by decide +kernel
theorem dX3_near_11 : decode cX3_near 11 = .ok (.iaload, 1) := by decide +kernel
theorem dX3_near_12 : decode cX3_near 12 = .ok (.if_icmp .ge 10, 3) := by decide +kernel
theorem dX3_near_15 : decode cX3_near 15 = .ok (.aload_n 0, 1) := by decide +kernel
theorem dX3_near_16 : decode cX3_near 16 = .ok (.getfield 50, 3) := by decide +kernel
theorem dX3_near_19 : decode cX3_near 19 = .ok (.iload_n 1, 1) := by decide +kernel
theorem dX3_near_20 : decode cX3_near 20 = .ok (.iload_n 2, 1) := by decide +kernel
theorem dX3_near_21 : decode cX3_near 21 = .ok (.iastore, 1) := by decide +kernel
theorem dX3_near_22 : decode cX3_near 22 = .ok (.return_, 1) := by decide +kernel
set_option maxRecDepth 20000 in
theorem ggX3_noFetch_X3_isRef : GoodIn wsX3_noFetch wsX3_isRef := goodIn_r _ [5, 6, 7, 4, 8] (by decide +kernel) (by decide +kernel)
set_option maxRecDepth 20000 in
theorem gX3_noFetch_X3_isRef : GoodIn wsX3_noFetch (va_wsS RX3 81 yX3_isRef wsX3_isRef) := goodIn_app (goodIn_of _ (by decide +kernel)) ggX3_noFetch_X3_isRef
set_option maxRecDepth 20000 in
theorem ggX3_noFetch_X3_in : GoodIn wsX3_noFetch wsX3_in := goodIn_r _ [8] (by decide +kernel) (by decide +kernel)
set_option maxRecDepth 20000 in
theorem gX3_noFetch_X3_in : GoodIn wsX3_noFetch (va_wsS RX3 57 yX3_in wsX3_in) := goodIn_app (goodIn_of _ (by decide +kernel)) ggX3_noFetch_X3_in
set_option maxRecDepth 20000 in
theorem ggX3_noFetch_X3_refused : GoodIn wsX3_noFetch wsX3_refused := goodIn_r _ [12, 13, 14, 15, 16, 17, 18, 19, 20, 21, 22, 23, 24, 25, 26, 27, 28, 29, 30, 31] (by decide +kernel) (by decide +kernel)
set_option maxRecDepth 20000 in
theorem gX3_noFetch_X3_refused : GoodIn wsX3_noFetch (wsV RX3 78 RX3 yX3_refused wsX3_refused) := goodIn_app (goodIn_of _ (by decide +kernel)) ggX3_noFetch_X3_refused
theorem dX3_noFetch_0 : decode cX3_noFetch 0 = .ok (.iload_n 1, 1) := by decide +kernel
theorem dX3_noFetch_1 : decode cX3_noFetch 1 = .ok (.invokestatic 81, 3) := by decide +kernel
theorem dX3_noFetch_4 : decode cX3_noFetch 4 = .ok (.ifCond .eq 17, 3) := by decide +kernel
theorem dX3_noFetch_7 : decode cX3_noFetch 7 = .ok (.aload_n 0, 1) := by decide +kernel
theorem dX3_noFetch_8 : decode cX3_noFetch 8 = .ok (.getfield 26, 3) := by decide +kernel
theorem dX3_noFetch_11 : decode cX3_noFetch 11 = .ok (.iload_n 1, 1) := by decide +kernel
theorem dX3_noFetch_12 : decode cX3_noFetch 12 = .ok (.iaload, 1) := by decide +kernel
theorem dX3_noFetch_13 : decode cX3_noFetch 13 = .ok (.iconst (-1), 1) := by decide +kernel
theorem dX3_noFetch_14 : decode cX3_noFetch 14 = .ok (.if_icmp .eq 7, 3) := by decide +kernel
theorem dX3_noFetch_17 : decode cX3_noFetch 17 = .ok (.iconst 1, 1) := by decide +kernel
theorem dX3_noFetch_18 : decode cX3_noFetch 18 = .ok (.goto 4, 3) := by decide +kernel
theorem dX3_noFetch_21 : decode cX3_noFetch 21 = .ok (.iconst 0, 1) := by decide +kernel
theorem dX3_noFetch_22 : decode cX3_noFetch 22 = .ok (.istore_n 3, 1) := by decide +kernel
theorem dX3_noFetch_23 : decode cX3_noFetch 23 = .ok (.aload_n 0, 1) := by decide +kernel
theorem dX3_noFetch_24 : decode cX3_noFetch 24 = .ok (.iload_n 1, 1) := by decide +kernel
theorem dX3_noFetch_25 : decode cX3_noFetch 25 = .ok (.invokestatic 81, 3) := by decide +kernel
theorem dX3_noFetch_28 : decode cX3_noFetch 28 = .ok (.ifCond .ne 7, 3) := by decide +kernel
theorem dX3_noFetch_31 : decode cX3_noFetch 31 = .ok (.iconst 1, 1) := by decide +kernel
theorem dX3_noFetch_32 : decode cX3_noFetch 32 = .ok (.goto 26, 3) := by decide +kernel
theorem dX3_noFetch_35 : decode cX3_noFetch 35 = .ok (.iload_n 2, 1) := by decide +kernel
theorem dX3_noFetch_36 : decode cX3_noFetch 36 = .ok (.iconst 0, 1) := by decide +kernel
theorem dX3_noFetch_37 : decode cX3_noFetch 37 = .ok (.bipush 60, 2) := by decide +kernel
theorem dX3_noFetch_39 : decode cX3_noFetch 39 = .ok (.invokestatic 57, 3) := by decide +kernel
theorem dX3_noFetch_42 : decode cX3_noFetch 42 = .ok (.ifCond .ne 7, 3) := by decide +kernel
theorem dX3_noFetch_45 : decode cX3_noFetch 45 = .ok (.iconst 2, 1) := by decide +kernel
theorem dX3_noFetch_46 : decode cX3_noFetch 46 = .ok (.goto 12, 3) := by decide +kernel
theorem dX3_noFetch_49 : decode cX3_noFetch 49 = .ok (.iload_n 3, 1) := by decide +kernel
theorem dX3_noFetch_50 : decode cX3_noFetch 50 = .ok (.ifCond .eq 7, 3) := by decide +kernel
theorem dX3_noFetch_53 : decode cX3_noFetch 53 = .ok (.iconst 0, 1) := by decide +kernel
theorem dX3_noFetch_54 : decode cX3_noFetch 54 = .ok (.goto 4, 3) := by decide +kernel
theorem dX3_noFetch_57 : decode cX3_noFetch 57 = .ok (.iconst 3, 1) := by decide +kernel
theorem dX3_noFetch_58 : decode cX3_noFetch 58 = .ok (.invokevirtual 78, 3) := by decide +kernel
theorem dX3_noFetch_61 : decode cX3_noFetch 61 = .ok (.ireturn, 1) := by decide +kernel
set_option maxRecDepth 20000 in
theorem ggX3_fetch_X3_noFetch : GoodIn wsX3_fetch wsX3_noFetch := goodIn_r _ [10, 1, 11, 12, 9, 13, 14, 15, 16, 17, 18, 19, 20, 21, 81, 82, 83, 84, 85, 86, 87, 88, 89, 90, 91, 92, 93, 94, 95, 96, 97, 98] (by decide +kernel) (by decide +kernel)
set_option maxRecDepth 20000 in
theorem gX3_fetch_X3_noFetch : GoodIn wsX3_fetch (wsV RX3 114 RX3 yX3_noFetch wsX3_noFetch) := goodIn_app (goodIn_of _ (by decide +kernel)) ggX3_fetch_X3_noFetch
set_option maxRecDepth 20000 in
theorem ggX3_fetch_X3_talk : GoodIn wsX3_fetch wsX3_talk := goodIn_r _ [25, 26, 4, 27, 28, 29, 30, 9, 31, 2, 3, 32, 33, 34, 35, 36, 37, 38, 39, 5, 40, 41, 42, 43, 14, 15, 16, 44, 45, 46, 47, 48, 49, 50, 51, 52, 53, 54, 55, 56, 57, 58, 59, 60, 61, 81, 82, 83, 84, 85, 86, 87, 88, 89, 90, 91, 92, 93, 94, 95, 96, 97, 98] (by decide +kernel) (by decide +kernel)
set_option maxRecDepth 20000 in
theorem gX3_fetch_X3_talk : GoodIn wsX3_fetch (wsV RX3 117 RX3 yX3_talk wsX3_talk) := goodIn_app (goodIn_of _ (by decide +kernel)) ggX3_fetch_X3_talk
set_option maxRecDepth 20000 in
theorem ggX3_fetch_X3_reach : GoodIn wsX3_fetch wsX3_reach := goodIn_r _ [65, 66, 48, 49, 3, 67, 68, 69, 9, 70, 32, 33, 34, 35, 58, 59, 60, 61, 36, 37, 38, 39, 5, 40, 41, 42, 43, 2, 14, 15, 16, 44, 45, 46, 47, 50, 51, 52, 53, 54, 55, 56, 57, 71, 72, 73, 74, 81, 82, 83, 84, 85, 86, 87, 88, 89, 90, 91, 92, 93, 94, 95, 96, 97, 98] (by decide +kernel) (by decide +kernel)
set_option maxRecDepth 20000 in
theorem gX3_fetch_X3_reach : GoodIn wsX3_fetch (wsV RX3 120 RX3 yX3_reach wsX3_reach) := goodIn_app (goodIn_of _ (by decide +kernel)) ggX3_fetch_X3_reach
set_option maxRecDepth 20000 in
theorem ggX3_fetch_X3_isIn : GoodIn wsX3_fetch wsX3_isIn := goodIn_r _ [39, 5, 40, 41, 42, 9, 43, 2, 14, 15, 16, 81, 82, 83, 84, 85, 86, 87, 88, 89, 90, 91, 92, 93, 94, 95, 96, 97, 98] (by decide +kernel) (by decide +kernel)
set_option maxRecDepth 20000 in
theorem gX3_fetch_X3_isIn : GoodIn wsX3_fetch (wsV RX3 68 RX3 yX3_isIn wsX3_isIn) := goodIn_app (goodIn_of _ (by decide +kernel)) ggX3_fetch_X3_isIn
set_option maxRecDepth 20000 in
theorem ggX3_fetch_X3_bring : GoodIn wsX3_fetch wsX3_bring := goodIn_r _ [78, 79, 80, 81, 82, 83, 84, 85, 86, 87, 88, 89, 90, 91, 92, 93, 94, 95, 96, 97, 98] (by decide +kernel) (by decide +kernel)
set_option maxRecDepth 20000 in
theorem gX3_fetch_X3_bring : GoodIn wsX3_fetch (wsV RX3 123 RX3 yX3_bring wsX3_bring) := goodIn_app (goodIn_of _ (by decide +kernel)) ggX3_fetch_X3_bring
theorem dX3_fetch_0 : decode cX3_fetch 0 = .ok (.aload_n 0, 1) := by decide +kernel
theorem dX3_fetch_1 : decode cX3_fetch 1 = .ok (.iload_n 1, 1) := by decide +kernel
theorem dX3_fetch_2 : decode cX3_fetch 2 = .ok (.iload_n 2, 1) := by decide +kernel
theorem dX3_fetch_3 : decode cX3_fetch 3 = .ok (.invokevirtual 114, 3) := by decide +kernel
theorem dX3_fetch_6 : decode cX3_fetch 6 = .ok (.ifCond .eq 5, 3) := by decide +kernel
theorem dX3_fetch_9 : decode cX3_fetch 9 = .ok (.iconst 0, 1) := by decide +kernel
theorem dX3_fetch_10 : decode cX3_fetch 10 = .ok (.ireturn, 1) := by decide +kernel
theorem dX3_fetch_11 : decode cX3_fetch 11 = .ok (.aload_n 0, 1) := by decide +kernel
theorem dX3_fetch_12 : decode cX3_fetch 12 = .ok (.invokevirtual 117, 3) := by decide +kernel
theorem dX3_fetch_15 : decode cX3_fetch 15 = .ok (.aload_n 0, 1) := by decide +kernel
theorem dX3_fetch_16 : decode cX3_fetch 16 = .ok (.aload_n 0, 1) := by decide +kernel
theorem dX3_fetch_17 : decode cX3_fetch 17 = .ok (.getfield 26, 3) := by decide +kernel
theorem dX3_fetch_20 : decode cX3_fetch 20 = .ok (.iload_n 1, 1) := by decide +kernel
theorem dX3_fetch_21 : decode cX3_fetch 21 = .ok (.iaload, 1) := by decide +kernel
theorem dX3_fetch_22 : decode cX3_fetch 22 = .ok (.iload_n 2, 1) := by decide +kernel
theorem dX3_fetch_23 : decode cX3_fetch 23 = .ok (.invokevirtual 120, 3) := by decide +kernel
theorem dX3_fetch_26 : decode cX3_fetch 26 = .ok (.iconst 0, 1) := by decide +kernel
theorem dX3_fetch_27 : decode cX3_fetch 27 = .ok (.istore 4, 2) := by decide +kernel
theorem dX3_fetch_29 : decode cX3_fetch 29 = .ok (.iconst 0, 1) := by decide +kernel
theorem dX3_fetch_30 : decode cX3_fetch 30 = .ok (.istore 5, 2) := by decide +kernel
theorem dX3_fetch_32 : decode cX3_fetch 32 = .ok (.iload 5, 2) := by decide +kernel
theorem dX3_fetch_34 : decode cX3_fetch 34 = .ok (.aload_n 0, 1) := by decide +kernel
theorem dX3_fetch_35 : decode cX3_fetch 35 = .ok (.getfield 61, 3) := by decide +kernel
theorem dX3_fetch_38 : decode cX3_fetch 38 = .ok (.if_icmp .ge 69, 3) := by decide +kernel
theorem dX3_fetch_41 : decode cX3_fetch 41 = .ok (.aload_n 0, 1) := by decide +kernel
theorem dX3_fetch_42 : decode cX3_fetch 42 = .ok (.getfield 41, 3) := by decide +kernel
theorem dX3_fetch_45 : decode cX3_fetch 45 = .ok (.iload 5, 2) := by decide +kernel
theorem dX3_fetch_47 : decode cX3_fetch 47 = .ok (.baload, 1) := by decide +kernel
theorem dX3_fetch_48 : decode cX3_fetch 48 = .ok (.ifCond .eq 53, 3) := by decide +kernel
theorem dX3_fetch_51 : decode cX3_fetch 51 = .ok (.aload_n 0, 1) := by decide +kernel
theorem dX3_fetch_52 : decode cX3_fetch 52 = .ok (.getfield 44, 3) := by decide +kernel
theorem dX3_fetch_55 : decode cX3_fetch 55 = .ok (.iload 5, 2) := by decide +kernel
theorem dX3_fetch_57 : decode cX3_fetch 57 = .ok (.baload, 1) := by decide +kernel
theorem dX3_fetch_58 : decode cX3_fetch 58 = .ok (.ifCond .ne 43, 3) := by decide +kernel
theorem dX3_fetch_61 : decode cX3_fetch 61 = .ok (.iload 4, 2) := by decide +kernel
theorem dX3_fetch_63 : decode cX3_fetch 63 = .ok (.aload_n 0, 1) := by decide +kernel
theorem dX3_fetch_64 : decode cX3_fetch 64 = .ok (.iconst 1, 1) := by decide +kernel
theorem dX3_fetch_65 : decode cX3_fetch 65 = .ok (.iload 5, 2) := by decide +kernel
theorem dX3_fetch_67 : decode cX3_fetch 67 = .ok (.invokevirtual 68, 3) := by decide +kernel
theorem dX3_fetch_70 : decode cX3_fetch 70 = .ok (.ifCond .eq 7, 3) := by decide +kernel
theorem dX3_fetch_73 : decode cX3_fetch 73 = .ok (.iconst 0, 1) := by decide +kernel
theorem dX3_fetch_74 : decode cX3_fetch 74 = .ok (.goto 4, 3) := by decide +kernel
theorem dX3_fetch_77 : decode cX3_fetch 77 = .ok (.iconst 1, 1) := by decide +kernel
theorem dX3_fetch_78 : decode cX3_fetch 78 = .ok (.iadd, 1) := by decide +kernel
theorem dX3_fetch_79 : decode cX3_fetch 79 = .ok (.istore 4, 2) := by decide +kernel
theorem dX3_fetch_81 : decode cX3_fetch 81 = .ok (.aload_n 0, 1) := by decide +kernel
theorem dX3_fetch_82 : decode cX3_fetch 82 = .ok (.getfield 19, 3) := by decide +kernel
theorem dX3_fetch_85 : decode cX3_fetch 85 = .ok (.bipush 60, 2) := by decide +kernel
theorem dX3_fetch_87 : decode cX3_fetch 87 = .ok (.iload 5, 2) := by decide +kernel
theorem dX3_fetch_89 : decode cX3_fetch 89 = .ok (.iadd, 1) := by decide +kernel
theorem dX3_fetch_90 : decode cX3_fetch 90 = .ok (.iconst 1, 1) := by decide +kernel
theorem dX3_fetch_91 : decode cX3_fetch 91 = .ok (.bastore, 1) := by decide +kernel
theorem dX3_fetch_92 : decode cX3_fetch 92 = .ok (.aload_n 0, 1) := by decide +kernel
theorem dX3_fetch_93 : decode cX3_fetch 93 = .ok (.iconst 0, 1) := by decide +kernel
theorem dX3_fetch_94 : decode cX3_fetch 94 = .ok (.iconst 1, 1) := by decide +kernel
theorem dX3_fetch_95 : decode cX3_fetch 95 = .ok (.iload 5, 2) := by decide +kernel
theorem dX3_fetch_97 : decode cX3_fetch 97 = .ok (.iload_n 3, 1) := by decide +kernel
theorem dX3_fetch_98 : decode cX3_fetch 98 = .ok (.invokevirtual 123, 3) := by decide +kernel
theorem dX3_fetch_101 : decode cX3_fetch 101 = .ok (.iinc 5 1, 3) := by decide +kernel
theorem dX3_fetch_104 : decode cX3_fetch 104 = .ok (.goto (-72), 3) := by decide +kernel
theorem dX3_fetch_107 : decode cX3_fetch 107 = .ok (.aload_n 0, 1) := by decide +kernel
theorem dX3_fetch_108 : decode cX3_fetch 108 = .ok (.getfield 26, 3) := by decide +kernel
theorem dX3_fetch_111 : decode cX3_fetch 111 = .ok (.iconst 4, 1) := by decide +kernel
theorem dX3_fetch_112 : decode cX3_fetch 112 = .ok (.iload_n 1, 1) := by decide +kernel
theorem dX3_fetch_113 : decode cX3_fetch 113 = .ok (.iadd, 1) := by decide +kernel
theorem dX3_fetch_114 : decode cX3_fetch 114 = .ok (.aload_n 0, 1) := by decide +kernel
theorem dX3_fetch_115 : decode cX3_fetch 115 = .ok (.getfield 26, 3) := by decide +kernel
theorem dX3_fetch_118 : decode cX3_fetch 118 = .ok (.iload_n 1, 1) := by decide +kernel
theorem dX3_fetch_119 : decode cX3_fetch 119 = .ok (.iaload, 1) := by decide +kernel
theorem dX3_fetch_120 : decode cX3_fetch 120 = .ok (.iastore, 1) := by decide +kernel
theorem dX3_fetch_121 : decode cX3_fetch 121 = .ok (.iload 4, 2) := by decide +kernel
theorem dX3_fetch_123 : decode cX3_fetch 123 = .ok (.ireturn, 1) := by decide +kernel
theorem dX3_bring_0 : decode cX3_bring 0 = .ok (.iconst 4, 1) := by decide +kernel
theorem dX3_bring_1 : decode cX3_bring 1 = .ok (.iload_n 3, 1) := by decide +kernel
theorem dX3_bring_2 : decode cX3_bring 2 = .ok (.imul, 1) := by decide +kernel
theorem dX3_bring_3 : decode cX3_bring 3 = .ok (.istore 5, 2) := by decide +kernel
theorem dX3_bring_5 : decode cX3_bring 5 = .ok (.iload 5, 2) := by decide +kernel
theorem dX3_bring_7 : decode cX3_bring 7 = .ok (.iconst 4, 1) := by decide +kernel
theorem dX3_bring_8 : decode cX3_bring 8 = .ok (.iload_n 3, 1) := by decide +kernel
theorem dX3_bring_9 : decode cX3_bring 9 = .ok (.imul, 1) := by decide +kernel
theorem dX3_bring_10 : decode cX3_bring 10 = .ok (.iconst 4, 1) := by decide +kernel
theorem dX3_bring_11 : decode cX3_bring 11 = .ok (.iadd, 1) := by decide +kernel
theorem dX3_bring_12 : decode cX3_bring 12 = .ok (.if_icmp .ge 63, 3) := by decide +kernel
theorem dX3_bring_15 : decode cX3_bring 15 = .ok (.iload 4, 2) := by decide +kernel
