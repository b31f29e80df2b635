set_option maxRecDepth 20000 in
theorem ggX0_init_J7_fill_53178 : GoodIn wsX0_init wsJ7_fill_53178 := goodIn_r _ [13] (by decide +kernel) (by decide +kernel)
set_option maxRecDepth 20000 in
theorem gX0_init_J7_fill_53178 : GoodIn wsX0_init (va_wsS RX0 27 yJ7_fill_53178 wsJ7_fill_53178) := goodIn_app (goodIn_of _ (by decide +kernel)) ggX0_init_J7_fill_53178
theorem dX0_init_0 : decode cX0_init 0 = .ok (.aload_n 0, 1) := by decide +kernel
theorem dX0_init_1 : decode cX0_init 1 = .ok (.invokespecial 3, 3) := by decide +kernel
theorem dX0_init_4 : decode cX0_init 4 = .ok (.aload_n 0, 1) := by decide +kernel
theorem dX0_init_5 : decode cX0_init 5 = .ok (.bipush 16, 2) := by decide +kernel
theorem dX0_init_7 : decode cX0_init 7 = .ok (.newarray .int, 2) := by decide +kernel
theorem dX0_init_9 : decode cX0_init 9 = .ok (.putfield 9, 3) := by decide +kernel
theorem dX0_init_12 : decode cX0_init 12 = .ok (.aload_n 0, 1) := by decide +kernel
theorem dX0_init_13 : decode cX0_init 13 = .ok (.bipush 16, 2) := by decide +kernel
theorem dX0_init_15 : decode cX0_init 15 = .ok (.newarray .int, 2) := by decide +kernel
theorem dX0_init_17 : decode cX0_init 17 = .ok (.putfield 15, 3) := by decide +kernel
theorem dX0_init_20 : decode cX0_init 20 = .ok (.aload_n 0, 1) := by decide +kernel
theorem dX0_init_21 : decode cX0_init 21 = .ok (.bipush 16, 2) := by decide +kernel
theorem dX0_init_23 : decode cX0_init 23 = .ok (.newarray .int, 2) := by decide +kernel
theorem dX0_init_25 : decode cX0_init 25 = .ok (.putfield 18, 3) := by decide +kernel
theorem dX0_init_28 : decode cX0_init 28 = .ok (.aload_n 0, 1) := by decide +kernel
theorem dX0_init_29 : decode cX0_init 29 = .ok (.bipush 16, 2) := by decide +kernel
theorem dX0_init_31 : decode cX0_init 31 = .ok (.newarray .int, 2) := by decide +kernel
theorem dX0_init_33 : decode cX0_init 33 = .ok (.putfield 21, 3) := by decide +kernel
theorem dX0_init_36 : decode cX0_init 36 = .ok (.aload_n 0, 1) := by decide +kernel
theorem dX0_init_37 : decode cX0_init 37 = .ok (.bipush 16, 2) := by decide +kernel
theorem dX0_init_39 : decode cX0_init 39 = .ok (.newarray .int, 2) := by decide +kernel
theorem dX0_init_41 : decode cX0_init 41 = .ok (.putfield 24, 3) := by decide +kernel
theorem dX0_init_44 : decode cX0_init 44 = .ok (.aload_n 0, 1) := by decide +kernel
theorem dX0_init_45 : decode cX0_init 45 = .ok (.getfield 9, 3) := by decide +kernel
theorem dX0_init_48 : decode cX0_init 48 = .ok (.iconst 3, 1) := by decide +kernel
theorem dX0_init_49 : decode cX0_init 49 = .ok (.invokestatic 27, 3) := by decide +kernel
theorem dX0_init_52 : decode cX0_init 52 = .ok (.return_, 1) := by decide +kernel
theorem dX0_copyFrom_0 : decode cX0_copyFrom 0 = .ok (.aload_n 1, 1) := by decide +kernel
theorem dX0_copyFrom_1 : decode cX0_copyFrom 1 = .ok (.getfield 9, 3) := by decide +kernel
theorem dX0_copyFrom_4 : decode cX0_copyFrom 4 = .ok (.iconst 0, 1) := by decide +kernel
theorem dX0_copyFrom_5 : decode cX0_copyFrom 5 = .ok (.aload_n 0, 1) := by decide +kernel
theorem dX0_copyFrom_6 : decode cX0_copyFrom 6 = .ok (.getfield 9, 3) := by decide +kernel
theorem dX0_copyFrom_9 : decode cX0_copyFrom 9 = .ok (.iconst 0, 1) := by decide +kernel
theorem dX0_copyFrom_10 : decode cX0_copyFrom 10 = .ok (.bipush 16, 2) := by decide +kernel
theorem dX0_copyFrom_12 : decode cX0_copyFrom 12 = .ok (.invokestatic 33, 3) := by decide +kernel
theorem dX0_copyFrom_15 : decode cX0_copyFrom 15 = .ok (.aload_n 1, 1) := by decide +kernel
theorem dX0_copyFrom_16 : decode cX0_copyFrom 16 = .ok (.getfield 15, 3) := by decide +kernel
theorem dX0_copyFrom_19 : decode cX0_copyFrom 19 = .ok (.iconst 0, 1) := by decide +kernel
theorem dX0_copyFrom_20 : decode cX0_copyFrom 20 = .ok (.aload_n 0, 1) := by decide +kernel
theorem dX0_copyFrom_21 : decode cX0_copyFrom 21 = .ok (.getfield 15, 3) := by decide +kernel
theorem dX0_copyFrom_24 : decode cX0_copyFrom 24 = .ok (.iconst 0, 1) := by decide +kernel
theorem dX0_copyFrom_25 : decode cX0_copyFrom 25 = .ok (.bipush 16, 2) := by decide +kernel
theorem dX0_copyFrom_27 : decode cX0_copyFrom 27 = .ok (.invokestatic 33, 3) := by decide +kernel
theorem dX0_copyFrom_30 : decode cX0_copyFrom 30 = .ok (.aload_n 1, 1) := by decide +kernel
theorem dX0_copyFrom_31 : decode cX0_copyFrom 31 = .ok (.getfield 18, 3) := by decide +kernel
theorem dX0_copyFrom_34 : decode cX0_copyFrom 34 = .ok (.iconst 0, 1) := by decide +kernel
theorem dX0_copyFrom_35 : decode cX0_copyFrom 35 = .ok (.aload_n 0, 1) := by decide +kernel
theorem dX0_copyFrom_36 : decode cX0_copyFrom 36 = .ok (.getfield 18, 3) := by decide +kernel
theorem dX0_copyFrom_39 : decode cX0_copyFrom 39 = .ok (.iconst 0, 1) := by decide +kernel
theorem dX0_copyFrom_40 : decode cX0_copyFrom 40 = .ok (.bipush 16, 2) := by decide +kernel
theorem dX0_copyFrom_42 : decode cX0_copyFrom 42 = .ok (.invokestatic 33, 3) := by decide +kernel
theorem dX0_copyFrom_45 : decode cX0_copyFrom 45 = .ok (.aload_n 1, 1) := by decide +kernel
theorem dX0_copyFrom_46 : decode cX0_copyFrom 46 = .ok (.getfield 21, 3) := by decide +kernel
theorem dX0_copyFrom_49 : decode cX0_copyFrom 49 = .ok (.iconst 0, 1) := by decide +kernel
theorem dX0_copyFrom_50 : decode cX0_copyFrom 50 = .ok (.aload_n 0, 1) := by decide +kernel
theorem dX0_copyFrom_51 : decode cX0_copyFrom 51 = .ok (.getfield 21, 3) := by decide +kernel
theorem dX0_copyFrom_54 : decode cX0_copyFrom 54 = .ok (.iconst 0, 1) := by decide +kernel
theorem dX0_copyFrom_55 : decode cX0_copyFrom 55 = .ok (.bipush 16, 2) := by decide +kernel
theorem dX0_copyFrom_57 : decode cX0_copyFrom 57 = .ok (.invokestatic 33, 3) := by decide +kernel
theorem dX0_copyFrom_60 : decode cX0_copyFrom 60 = .ok (.aload_n 1, 1) := by decide +kernel
theorem dX0_copyFrom_61 : decode cX0_copyFrom 61 = .ok (.getfield 24, 3) := by decide +kernel
theorem dX0_copyFrom_64 : decode cX0_copyFrom 64 = .ok (.iconst 0, 1) := by decide +kernel
theorem dX0_copyFrom_65 : decode cX0_copyFrom 65 = .ok (.aload_n 0, 1) := by decide +kernel
theorem dX0_copyFrom_66 : decode cX0_copyFrom 66 = .ok (.getfield 24, 3) := by decide +kernel
theorem dX0_copyFrom_69 : decode cX0_copyFrom 69 = .ok (.iconst 0, 1) := by decide +kernel
theorem dX0_copyFrom_70 : decode cX0_copyFrom 70 = .ok (.bipush 16, 2) := by decide +kernel
theorem dX0_copyFrom_72 : decode cX0_copyFrom 72 = .ok (.invokestatic 33, 3) := by decide +kernel
theorem dX0_copyFrom_75 : decode cX0_copyFrom 75 = .ok (.aload_n 0, 1) := by decide +kernel
theorem dX0_copyFrom_76 : decode cX0_copyFrom 76 = .ok (.aload_n 1, 1) := by decide +kernel
theorem dX0_copyFrom_77 : decode cX0_copyFrom 77 = .ok (.getfield 39, 3) := by decide +kernel
theorem dX0_copyFrom_80 : decode cX0_copyFrom 80 = .ok (.putfield 39, 3) := by decide +kernel
theorem dX0_copyFrom_83 : decode cX0_copyFrom 83 = .ok (.return_, 1) := by decide +kernel
theorem dX0_has_0 : decode cX0_has 0 = .ok (.iload_n 1, 1) := by decide +kernel
theorem dX0_has_1 : decode cX0_has 1 = .ok (.ifCond .lt 23, 3) := by decide +kernel
theorem dX0_has_4 : decode cX0_has 4 = .ok (.iload_n 1, 1) := by decide +kernel
theorem dX0_has_5 : decode cX0_has 5 = .ok (.bipush 16, 2) := by decide +kernel
theorem dX0_has_7 : decode cX0_has 7 = .ok (.if_icmp .ge 17, 3) := by decide +kernel
theorem dX0_has_10 : decode cX0_has 10 = .ok (.aload_n 0, 1) := by decide +kernel
theorem dX0_has_11 : decode cX0_has 11 = .ok (.getfield 9, 3) := by decide +kernel
theorem dX0_has_14 : decode cX0_has 14 = .ok (.iload_n 1, 1) := by decide +kernel
theorem dX0_has_15 : decode cX0_has 15 = .ok (.iaload, 1) := by decide +kernel
theorem dX0_has_16 : decode cX0_has 16 = .ok (.iconst 3, 1) := by decide +kernel
theorem dX0_has_17 : decode cX0_has 17 = .ok (.if_icmp .eq 7, 3) := by decide +kernel
theorem dX0_has_20 : decode cX0_has 20 = .ok (.iconst 1, 1) := by decide +kernel
theorem dX0_has_21 : decode cX0_has 21 = .ok (.goto 4, 3) := by decide +kernel
theorem dX0_has_24 : decode cX0_has 24 = .ok (.iconst 0, 1) := by decide +kernel
theorem dX0_has_25 : decode cX0_has 25 = .ok (.ireturn, 1) := by decide +kernel
set_option maxRecDepth 20000 in
theorem ggX0_kindOf_X0_has : GoodIn wsX0_kindOf wsX0_has := goodIn_r _ [6, 1, 7, 8, 9, 10, 11, 12] (by decide +kernel) (by decide +kernel)
set_option maxRecDepth 20000 in
theorem gX0_kindOf_X0_has : GoodIn wsX0_kindOf (wsV RX0 43 RX0 yX0_has wsX0_has) := goodIn_app (goodIn_of _ (by decide +kernel)) ggX0_kindOf_X0_has
theorem dX0_kindOf_0 : decode cX0_kindOf 0 = .ok (.aload_n 0, 1) := by decide +kernel
theorem dX0_kindOf_1 : decode cX0_kindOf 1 = .ok (.iload_n 1, 1) := by decide +kernel
theorem dX0_kindOf_2 : decode cX0_kindOf 2 = .ok (.invokevirtual 43, 3) := by decide +kernel
theorem dX0_kindOf_5 : decode cX0_kindOf 5 = .ok (.ifCond .eq 12, 3) := by decide +kernel
theorem dX0_kindOf_8 : decode cX0_kindOf 8 = .ok (.aload_n 0, 1) := by decide +kernel
theorem dX0_kindOf_9 : decode cX0_kindOf 9 = .ok (.getfield 9, 3) := by decide +kernel
theorem dX0_kindOf_12 : decode cX0_kindOf 12 = .ok (.iload_n 1, 1) := by decide +kernel
theorem dX0_kindOf_13 : decode cX0_kindOf 13 = .ok (.iaload, 1) := by decide +kernel
theorem dX0_kindOf_14 : decode cX0_kindOf 14 = .ok (.goto 4, 3) := by decide +kernel
theorem dX0_kindOf_17 : decode cX0_kindOf 17 = .ok (.iconst 3, 1) := by decide +kernel
theorem dX0_kindOf_18 : decode cX0_kindOf 18 = .ok (.ireturn, 1) := by decide +kernel
set_option maxRecDepth 20000 in
theorem ggX0_valueOf_X0_has : GoodIn wsX0_valueOf wsX0_has := goodIn_r _ [6, 7, 8, 9, 10, 11, 12, 13] (by decide +kernel) (by decide +kernel)
set_option maxRecDepth 20000 in
theorem gX0_valueOf_X0_has : GoodIn wsX0_valueOf (wsV RX0 43 RX0 yX0_has wsX0_has) := goodIn_app (goodIn_of _ (by decide +kernel)) ggX0_valueOf_X0_has
theorem dX0_valueOf_0 : decode cX0_valueOf 0 = .ok (.aload_n 0, 1) := by decide +kernel
theorem dX0_valueOf_1 : decode cX0_valueOf 1 = .ok (.iload_n 1, 1) := by decide +kernel
theorem dX0_valueOf_2 : decode cX0_valueOf 2 = .ok (.invokevirtual 43, 3) := by decide +kernel
theorem dX0_valueOf_5 : decode cX0_valueOf 5 = .ok (.ifCond .eq 12, 3) := by decide +kernel
theorem dX0_valueOf_8 : decode cX0_valueOf 8 = .ok (.aload_n 0, 1) := by decide +kernel
theorem dX0_valueOf_9 : decode cX0_valueOf 9 = .ok (.getfield 15, 3) := by decide +kernel
theorem dX0_valueOf_12 : decode cX0_valueOf 12 = .ok (.iload_n 1, 1) := by decide +kernel
theorem dX0_valueOf_13 : decode cX0_valueOf 13 = .ok (.iaload, 1) := by decide +kernel
theorem dX0_valueOf_14 : decode cX0_valueOf 14 = .ok (.goto 5, 3) := by decide +kernel
theorem dX0_valueOf_17 : decode cX0_valueOf 17 = .ok (.bipush (-3), 2) := by decide +kernel
theorem dX0_valueOf_19 : decode cX0_valueOf 19 = .ok (.ireturn, 1) := by decide +kernel
set_option maxRecDepth 20000 in
theorem ggX0_endOf_X0_has : GoodIn wsX0_endOf wsX0_has := goodIn_r _ [6, 7, 8, 9, 10, 11, 12, 13] (by decide +kernel) (by decide +kernel)
set_option maxRecDepth 20000 in
theorem gX0_endOf_X0_has : GoodIn wsX0_endOf (wsV RX0 43 RX0 yX0_has wsX0_has) := goodIn_app (goodIn_of _ (by decide +kernel)) ggX0_endOf_X0_has
theorem dX0_endOf_0 : decode cX0_endOf 0 = .ok (.aload_n 0, 1) := by decide +kernel
theorem dX0_endOf_1 : decode cX0_endOf 1 = .ok (.iload_n 1, 1) := by decide +kernel
theorem dX0_endOf_2 : decode cX0_endOf 2 = .ok (.invokevirtual 43, 3) := by decide +kernel
theorem dX0_endOf_5 : decode cX0_endOf 5 = .ok (.ifCond .eq 12, 3) := by decide +kernel
theorem dX0_endOf_8 : decode cX0_endOf 8 = .ok (.aload_n 0, 1) := by decide +kernel
theorem dX0_endOf_9 : decode cX0_endOf 9 = .ok (.getfield 21, 3) := by decide +kernel
theorem dX0_endOf_12 : decode cX0_endOf 12 = .ok (.iload_n 1, 1) := by decide +kernel
theorem dX0_endOf_13 : decode cX0_endOf 13 = .ok (.iaload, 1) := by decide +kernel
theorem dX0_endOf_14 : decode cX0_endOf 14 = .ok (.goto 4, 3) := by decide +kernel
theorem dX0_endOf_17 : decode cX0_endOf 17 = .ok (.iconst 0, 1) := by decide +kernel
theorem dX0_endOf_18 : decode cX0_endOf 18 = .ok (.ireturn, 1) := by decide +kernel
set_option maxRecDepth 20000 in
theorem ggX0_hitsFor_X0_has : GoodIn wsX0_hitsFor wsX0_has := goodIn_r _ [6, 7, 8, 9, 10, 11, 12, 13] (by decide +kernel) (by decide +kernel)
set_option maxRecDepth 20000 in
theorem gX0_hitsFor_X0_has : GoodIn wsX0_hitsFor (wsV RX0 43 RX0 yX0_has wsX0_has) := goodIn_app (goodIn_of _ (by decide +kernel)) ggX0_hitsFor_X0_has
theorem dX0_hitsFor_0 : decode cX0_hitsFor 0 = .ok (.aload_n 0, 1) := by decide +kernel
theorem dX0_hitsFor_1 : decode cX0_hitsFor 1 = .ok (.iload_n 1, 1) := by decide +kernel
theorem dX0_hitsFor_2 : decode cX0_hitsFor 2 = .ok (.invokevirtual 43, 3) := by decide +kernel
theorem dX0_hitsFor_5 : decode cX0_hitsFor 5 = .ok (.ifCond .eq 12, 3) := by decide +kernel
theorem dX0_hitsFor_8 : decode cX0_hitsFor 8 = .ok (.aload_n 0, 1) := by decide +kernel
theorem dX0_hitsFor_9 : decode cX0_hitsFor 9 = .ok (.getfield 24, 3) := by decide +kernel
theorem dX0_hitsFor_12 : decode cX0_hitsFor 12 = .ok (.iload_n 1, 1) := by decide +kernel
theorem dX0_hitsFor_13 : decode cX0_hitsFor 13 = .ok (.iaload, 1) := by decide +kernel
theorem dX0_hitsFor_14 : decode cX0_hitsFor 14 = .ok (.goto 4, 3) := by decide +kernel
theorem dX0_hitsFor_17 : decode cX0_hitsFor 17 = .ok (.iconst 0, 1) := by decide +kernel
theorem dX0_hitsFor_18 : decode cX0_hitsFor 18 = .ok (.ireturn, 1) := by decide +kernel
set_option maxRecDepth 20000 in
theorem ggX0_isFresh_X0_has : GoodIn wsX0_isFresh wsX0_has := goodIn_r _ [6, 7, 8, 9, 10, 11, 12, 13] (by decide +kernel) (by decide +kernel)
set_option maxRecDepth 20000 in
theorem gX0_isFresh_X0_has : GoodIn wsX0_isFresh (wsV RX0 43 RX0 yX0_has wsX0_has) := goodIn_app (goodIn_of _ (by decide +kernel)) ggX0_isFresh_X0_has
theorem dX0_isFresh_0 : decode cX0_isFresh 0 = .ok (.aload_n 0, 1) := by decide +kernel
theorem dX0_isFresh_1 : decode cX0_isFresh 1 = .ok (.iload_n 1, 1) := by decide +kernel
theorem dX0_isFresh_2 : decode cX0_isFresh 2 = .ok (.invokevirtual 43, 3) := by decide +kernel
theorem dX0_isFresh_5 : decode cX0_isFresh 5 = .ok (.ifCond .eq 17, 3) := by decide +kernel
theorem dX0_isFresh_8 : decode cX0_isFresh 8 = .ok (.iload_n 2, 1) := by decide +kernel
theorem dX0_isFresh_9 : decode cX0_isFresh 9 = .ok (.aload_n 0, 1) := by decide +kernel
theorem dX0_isFresh_10 : decode cX0_isFresh 10 = .ok (.getfield 21, 3) := by decide +kernel
theorem dX0_isFresh_13 : decode cX0_isFresh 13 = .ok (.iload_n 1, 1) := by decide +kernel
theorem dX0_isFresh_14 : decode cX0_isFresh 14 = .ok (.iaload, 1) := by decide +kernel
theorem dX0_isFresh_15 : decode cX0_isFresh 15 = .ok (.if_icmp .ge 7, 3) := by decide +kernel
theorem dX0_isFresh_18 : decode cX0_isFresh 18 = .ok (.iconst 1, 1) := by decide +kernel
theorem dX0_isFresh_19 : decode cX0_isFresh 19 = .ok (.goto 4, 3) := by decide +kernel
theorem dX0_isFresh_22 : decode cX0_isFresh 22 = .ok (.iconst 0, 1) := by decide +kernel
theorem dX0_isFresh_23 : decode cX0_isFresh 23 = .ok (.ireturn, 1) := by decide +kernel
set_option maxRecDepth 20000 in
theorem ggX0_servesStale_X0_has : GoodIn wsX0_servesStale wsX0_has := goodIn_r _ [6, 7, 8, 9, 10, 11, 12, 13] (by decide +kernel) (by decide +kernel)
set_option maxRecDepth 20000 in
theorem gX0_servesStale_X0_has : GoodIn wsX0_servesStale (wsV RX0 43 RX0 yX0_has wsX0_has) := goodIn_app (goodIn_of _ (by decide +kernel)) ggX0_servesStale_X0_has
theorem dX0_servesStale_0 : decode cX0_servesStale 0 = .ok (.aload_n 0, 1) := by decide +kernel
theorem dX0_servesStale_1 : decode cX0_servesStale 1 = .ok (.iload_n 1, 1) := by decide +kernel
theorem dX0_servesStale_2 : decode cX0_servesStale 2 = .ok (.invokevirtual 43, 3) := by decide +kernel
theorem dX0_servesStale_5 : decode cX0_servesStale 5 = .ok (.ifCond .eq 20, 3) := by decide +kernel
theorem dX0_servesStale_8 : decode cX0_servesStale 8 = .ok (.iload_n 2, 1) := by decide +kernel
theorem dX0_servesStale_9 : decode cX0_servesStale 9 = .ok (.aload_n 0, 1) := by decide +kernel
theorem dX0_servesStale_10 : decode cX0_servesStale 10 = .ok (.getfield 21, 3) := by decide +kernel
theorem dX0_servesStale_13 : decode cX0_servesStale 13 = .ok (.iload_n 1, 1) := by decide +kernel
theorem dX0_servesStale_14 : decode cX0_servesStale 14 = .ok (.iaload, 1) := by decide +kernel
theorem dX0_servesStale_15 : decode cX0_servesStale 15 = .ok (.isub, 1) := by decide +kernel
theorem dX0_servesStale_16 : decode cX0_servesStale 16 = .ok (.bipush 100, 2) := by decide +kernel
theorem dX0_servesStale_18 : decode cX0_servesStale 18 = .ok (.if_icmp .ge 7, 3) := by decide +kernel
theorem dX0_servesStale_21 : decode cX0_servesStale 21 = .ok (.iconst 1, 1) := by decide +kernel
theorem dX0_servesStale_22 : decode cX0_servesStale 22 = .ok (.goto 4, 3) := by decide +kernel
theorem dX0_servesStale_25 : decode cX0_servesStale 25 = .ok (.iconst 0, 1) := by decide +kernel
theorem dX0_servesStale_26 : decode cX0_servesStale 26 = .ok (.ireturn, 1) := by decide +kernel
set_option maxRecDepth 20000 in
theorem ggX0_isHot_X0_has : GoodIn wsX0_isHot wsX0_has := goodIn_r _ [8, 9, 10, 11, 12, 13, 14, 15] (by decide +kernel) (by decide +kernel)
set_option maxRecDepth 20000 in
theorem gX0_isHot_X0_has : GoodIn wsX0_isHot (wsV RX0 43 RX0 yX0_has wsX0_has) := goodIn_app (goodIn_of _ (by decide +kernel)) ggX0_isHot_X0_has
theorem dX0_isHot_0 : decode cX0_isHot 0 = .ok (.aload_n 0, 1) := by decide +kernel
theorem dX0_isHot_1 : decode cX0_isHot 1 = .ok (.iload_n 1, 1) := by decide +kernel
theorem dX0_isHot_2 : decode cX0_isHot 2 = .ok (.invokevirtual 43, 3) := by decide +kernel
theorem dX0_isHot_5 : decode cX0_isHot 5 = .ok (.ifCond .eq 36, 3) := by decide +kernel
theorem dX0_isHot_8 : decode cX0_isHot 8 = .ok (.aload_n 0, 1) := by decide +kernel
theorem dX0_isHot_9 : decode cX0_isHot 9 = .ok (.getfield 24, 3) := by decide +kernel
theorem dX0_isHot_12 : decode cX0_isHot 12 = .ok (.iload_n 1, 1) := by decide +kernel
theorem dX0_isHot_13 : decode cX0_isHot 13 = .ok (.iaload, 1) := by decide +kernel
theorem dX0_isHot_14 : decode cX0_isHot 14 = .ok (.iconst 3, 1) := by decide +kernel
theorem dX0_isHot_15 : decode cX0_isHot 15 = .ok (.if_icmp .lt 26, 3) := by decide +kernel
theorem dX0_isHot_18 : decode cX0_isHot 18 = .ok (.iconst 4, 1) := by decide +kernel
theorem dX0_isHot_19 : decode cX0_isHot 19 = .ok (.aload_n 0, 1) := by decide +kernel
theorem dX0_isHot_20 : decode cX0_isHot 20 = .ok (.getfield 21, 3) := by decide +kernel
theorem dX0_isHot_23 : decode cX0_isHot 23 = .ok (.iload_n 1, 1) := by decide +kernel
theorem dX0_isHot_24 : decode cX0_isHot 24 = .ok (.iaload, 1) := by decide +kernel
theorem dX0_isHot_25 : decode cX0_isHot 25 = .ok (.iload_n 2, 1) := by decide +kernel
theorem dX0_isHot_26 : decode cX0_isHot 26 = .ok (.isub, 1) := by decide +kernel
theorem dX0_isHot_27 : decode cX0_isHot 27 = .ok (.imul, 1) := by decide +kernel
theorem dX0_isHot_28 : decode cX0_isHot 28 = .ok (.aload_n 0, 1) := by decide +kernel
theorem dX0_isHot_29 : decode cX0_isHot 29 = .ok (.getfield 18, 3) := by decide +kernel
theorem dX0_isHot_32 : decode cX0_isHot 32 = .ok (.iload_n 1, 1) := by decide +kernel
theorem dX0_isHot_33 : decode cX0_isHot 33 = .ok (.iaload, 1) := by decide +kernel
theorem dX0_isHot_34 : decode cX0_isHot 34 = .ok (.if_icmp .gt 7, 3) := by decide +kernel
theorem dX0_isHot_37 : decode cX0_isHot 37 = .ok (.iconst 1, 1) := by decide +kernel
theorem dX0_isHot_38 : decode cX0_isHot 38 = .ok (.goto 4, 3) := by decide +kernel
theorem dX0_isHot_41 : decode cX0_isHot 41 = .ok (.iconst 0, 1) := by decide +kernel
theorem dX0_isHot_42 : decode cX0_isHot 42 = .ok (.ireturn, 1) := by decide +kernel
set_option maxRecDepth 20000 in
theorem ggX0_countHit_X0_has : GoodIn wsX0_countHit wsX0_has := goodIn_r _ [6, 7, 8, 9, 10, 11, 12, 13] (by decide +kernel) (by decide +kernel)
set_option maxRecDepth 20000 in
theorem gX0_countHit_X0_has : GoodIn wsX0_countHit (wsV RX0 43 RX0 yX0_has wsX0_has) := goodIn_app (goodIn_of _ (by decide +kernel)) ggX0_countHit_X0_has
theorem dX0_countHit_0 : decode cX0_countHit 0 = .ok (.aload_n 0, 1) := by decide +kernel
theorem dX0_countHit_1 : decode cX0_countHit 1 = .ok (.iload_n 1, 1) := by decide +kernel
theorem dX0_countHit_2 : decode cX0_countHit 2 = .ok (.invokevirtual 43, 3) := by decide +kernel
theorem dX0_countHit_5 : decode cX0_countHit 5 = .ok (.ifCond .eq 13, 3) := by decide +kernel
theorem dX0_countHit_8 : decode cX0_countHit 8 = .ok (.aload_n 0, 1) := by decide +kernel
theorem dX0_countHit_9 : decode cX0_countHit 9 = .ok (.getfield 24, 3) := by decide +kernel
theorem dX0_countHit_12 : decode cX0_countHit 12 = .ok (.iload_n 1, 1) := by decide +kernel
theorem dX0_countHit_13 : decode cX0_countHit 13 = .ok (.dup2, 1) := by decide +kernel
theorem dX0_countHit_14 : decode cX0_countHit 14 = .ok (.iaload, 1) := by decide +kernel
theorem dX0_countHit_15 : decode cX0_countHit 15 = .ok (.iconst 1, 1) := by decide +kernel
theorem dX0_countHit_16 : decode cX0_countHit 16 = .ok (.iadd, 1) := by decide +kernel
theorem dX0_countHit_17 : decode cX0_countHit 17 = .ok (.iastore, 1) := by decide +kernel
theorem dX0_countHit_18 : decode cX0_countHit 18 = .ok (.return_, 1) := by decide +kernel
set_option maxRecDepth 20000 in
theorem ggX0_drop_X0_has : GoodIn wsX0_drop wsX0_has := goodIn_r _ [7, 1, 8, 9, 10, 11, 12, 13] (by decide +kernel) (by decide +kernel)
set_option maxRecDepth 20000 in
theorem gX0_drop_X0_has : GoodIn wsX0_drop (wsV RX0 43 RX0 yX0_has wsX0_has) := goodIn_app (goodIn_of _ (by decide +kernel)) ggX0_drop_X0_has
theorem dX0_drop_0 : decode cX0_drop 0 = .ok (.aload_n 0, 1) := by decide +kernel
theorem dX0_drop_1 : decode cX0_drop 1 = .ok (.iload_n 1, 1) := by decide +kernel
theorem dX0_drop_2 : decode cX0_drop 2 = .ok (.invokevirtual 43, 3) := by decide +kernel
theorem dX0_drop_5 : decode cX0_drop 5 = .ok (.ifCond .ne 5, 3) := by decide +kernel
theorem dX0_drop_8 : decode cX0_drop 8 = .ok (.iconst 0, 1) := by decide +kernel
theorem dX0_drop_9 : decode cX0_drop 9 = .ok (.ireturn, 1) := by decide +kernel
theorem dX0_drop_10 : decode cX0_drop 10 = .ok (.aload_n 0, 1) := by decide +kernel
theorem dX0_drop_11 : decode cX0_drop 11 = .ok (.getfield 9, 3) := by decide +kernel
theorem dX0_drop_14 : decode cX0_drop 14 = .ok (.iload_n 1, 1) := by decide +kernel
theorem dX0_drop_15 : decode cX0_drop 15 = .ok (.iconst 3, 1) := by decide +kernel
theorem dX0_drop_16 : decode cX0_drop 16 = .ok (.iastore, 1) := by decide +kernel
theorem dX0_drop_17 : decode cX0_drop 17 = .ok (.aload_n 0, 1) := by decide +kernel
theorem dX0_drop_18 : decode cX0_drop 18 = .ok (.dup, 1) := by decide +kernel
theorem dX0_drop_19 : decode cX0_drop 19 = .ok (.getfield 39, 3) := by decide +kernel
theorem dX0_drop_22 : decode cX0_drop 22 = .ok (.iconst 1, 1) := by decide +kernel
theorem dX0_drop_23 : decode cX0_drop 23 = .ok (.isub, 1) := by decide +kernel
theorem dX0_drop_24 : decode cX0_drop 24 = .ok (.putfield 39, 3) := by decide +kernel
theorem dX0_drop_27 : decode cX0_drop 27 = .ok (.iconst 1, 1) := by decide +kernel
theorem dX0_drop_28 : decode cX0_drop 28 = .ok (.ireturn, 1) := by decide +kernel
set_option maxRecDepth 20000 in
theorem ggX0_put_X0_firstToEnd : GoodIn wsX0_put wsX0_firstToEnd := goodIn_r _ [11, 1, 5, 20, 21, 22, 23, 24, 25] (by decide +kernel) (by decide +kernel)
set_option maxRecDepth 20000 in
theorem gX0_put_X0_firstToEnd : GoodIn wsX0_put (wsV RX0 47 RX0 yX0_firstToEnd wsX0_firstToEnd) := goodIn_app (goodIn_of _ (by decide +kernel)) ggX0_put_X0_firstToEnd
set_option maxRecDepth 20000 in
theorem ggX0_put_X0_drop : GoodIn wsX0_put wsX0_drop := goodIn_r _ [15, 1, 2, 16, 17, 18, 10, 19, 20, 21, 22, 23, 24, 25] (by decide +kernel) (by decide +kernel)
set_option maxRecDepth 20000 in
theorem gX0_put_X0_drop : GoodIn wsX0_put (wsV RX0 51 RX0 yX0_drop wsX0_drop) := goodIn_app (goodIn_of _ (by decide +kernel)) ggX0_put_X0_drop
theorem dX0_put_0 : decode cX0_put 0 = .ok (.iload_n 1, 1) := by decide +kernel
theorem dX0_put_1 : decode cX0_put 1 = .ok (.ifCond .lt 9, 3) := by decide +kernel
theorem dX0_put_4 : decode cX0_put 4 = .ok (.iload_n 1, 1) := by decide +kernel
theorem dX0_put_5 : decode cX0_put 5 = .ok (.bipush 16, 2) := by decide +kernel
theorem dX0_put_7 : decode cX0_put 7 = .ok (.if_icmp .lt 4, 3) := by decide +kernel
theorem dX0_put_10 : decode cX0_put 10 = .ok (.return_, 1) := by decide +kernel
theorem dX0_put_11 : decode cX0_put 11 = .ok (.aload_n 0, 1) := by decide +kernel
theorem dX0_put_12 : decode cX0_put 12 = .ok (.getfield 9, 3) := by decide +kernel
theorem dX0_put_15 : decode cX0_put 15 = .ok (.iload_n 1, 1) := by decide +kernel
theorem dX0_put_16 : decode cX0_put 16 = .ok (.iaload, 1) := by decide +kernel
theorem dX0_put_17 : decode cX0_put 17 = .ok (.iconst 3, 1) := by decide +kernel
theorem dX0_put_18 : decode cX0_put 18 = .ok (.if_icmp .ne 31, 3) := by decide +kernel
theorem dX0_put_21 : decode cX0_put 21 = .ok (.aload_n 0, 1) := by decide +kernel
theorem dX0_put_22 : decode cX0_put 22 = .ok (.getfield 39, 3) := by decide +kernel
theorem dX0_put_25 : decode cX0_put 25 = .ok (.bipush 6, 2) := by decide +kernel
theorem dX0_put_27 : decode cX0_put 27 = .ok (.if_icmp .lt 12, 3) := by decide +kernel
theorem dX0_put_30 : decode cX0_put 30 = .ok (.aload_n 0, 1) := by decide +kernel
theorem dX0_put_31 : decode cX0_put 31 = .ok (.aload_n 0, 1) := by decide +kernel
theorem dX0_put_32 : decode cX0_put 32 = .ok (.invokevirtual 47, 3) := by decide +kernel
theorem dX0_put_35 : decode cX0_put 35 = .ok (.invokevirtual 51, 3) := by decide +kernel
theorem dX0_put_38 : decode cX0_put 38 = .ok (.pop, 1) := by decide +kernel
theorem dX0_put_39 : decode cX0_put 39 = .ok (.aload_n 0, 1) := by decide +kernel
theorem dX0_put_40 : decode cX0_put 40 = .ok (.dup, 1) := by decide +kernel
theorem dX0_put_41 : decode cX0_put 41 = .ok (.getfield 39, 3) := by decide +kernel
theorem dX0_put_44 : decode cX0_put 44 = .ok (.iconst 1, 1) := by decide +kernel
theorem dX0_put_45 : decode cX0_put 45 = .ok (.iadd, 1) := by decide +kernel
theorem dX0_put_46 : decode cX0_put 46 = .ok (.putfield 39, 3) := by decide +kernel
theorem dX0_put_49 : decode cX0_put 49 = .ok (.aload_n 0, 1) := by decide +kernel
theorem dX0_put_50 : decode cX0_put 50 = .ok (.getfield 9, 3) := by decide +kernel
theorem dX0_put_53 : decode cX0_put 53 = .ok (.iload_n 1, 1) := by decide +kernel
theorem dX0_put_54 : decode cX0_put 54 = .ok (.iload_n 2, 1) := by decide +kernel
theorem dX0_put_55 : decode cX0_put 55 = .ok (.iastore, 1) := by decide +kernel
theorem dX0_put_56 : decode cX0_put 56 = .ok (.aload_n 0, 1) := by decide +kernel
theorem dX0_put_57 : decode cX0_put 57 = .ok (.getfield 15, 3) := by decide +kernel
theorem dX0_put_60 : decode cX0_put 60 = .ok (.iload_n 1, 1) := by decide +kernel
theorem dX0_put_61 : decode cX0_put 61 = .ok (.iload_n 3, 1) := by decide +kernel
theorem dX0_put_62 : decode cX0_put 62 = .ok (.iastore, 1) := by decide +kernel
theorem dX0_put_63 : decode cX0_put 63 = .ok (.aload_n 0, 1) := by decide +kernel
theorem dX0_put_64 : decode cX0_put 64 = .ok (.getfield 18, 3) := by decide +kernel
theorem dX0_put_67 : decode cX0_put 67 = .ok (.iload_n 1, 1) := by decide +kernel
theorem dX0_put_68 : decode cX0_put 68 = .ok (.iload 4, 2) := by decide +kernel
theorem dX0_put_70 : decode cX0_put 70 = .ok (.iastore, 1) := by decide +kernel
theorem dX0_put_71 : decode cX0_put 71 = .ok (.aload_n 0, 1) := by decide +kernel
theorem dX0_put_72 : decode cX0_put 72 = .ok (.getfield 21, 3) := by decide +kernel
theorem dX0_put_75 : decode cX0_put 75 = .ok (.iload_n 1, 1) := by decide +kernel
theorem dX0_put_76 : decode cX0_put 76 = .ok (.iload 5, 2) := by decide +kernel
theorem dX0_put_78 : decode cX0_put 78 = .ok (.iload 4, 2) := by decide +kernel
theorem dX0_put_80 : decode cX0_put 80 = .ok (.iadd, 1) := by decide +kernel
theorem dX0_put_81 : decode cX0_put 81 = .ok (.iastore, 1) := by decide +kernel
theorem dX0_put_82 : decode cX0_put 82 = .ok (.aload_n 0, 1) := by decide +kernel
theorem dX0_put_83 : decode cX0_put 83 = .ok (.getfield 24, 3) := by decide +kernel
theorem dX0_put_86 : decode cX0_put 86 = .ok (.iload_n 1, 1) := by decide +kernel
theorem dX0_put_87 : decode cX0_put 87 = .ok (.iconst 0, 1) := by decide +kernel
theorem dX0_put_88 : decode cX0_put 88 = .ok (.iastore, 1) := by decide +kernel
theorem dX0_put_89 : decode cX0_put 89 = .ok (.return_, 1) := by decide +kernel
theorem dX0_firstToEnd_0 : decode cX0_firstToEnd 0 = .ok (.bipush (-3), 2) := by decide +kernel
theorem dX0_firstToEnd_2 : decode cX0_firstToEnd 2 = .ok (.istore_n 1, 1) := by decide +kernel
theorem dX0_firstToEnd_3 : decode cX0_firstToEnd 3 = .ok (.iconst 0, 1) := by decide +kernel
theorem dX0_firstToEnd_4 : decode cX0_firstToEnd 4 = .ok (.istore_n 2, 1) := by decide +kernel
theorem dX0_firstToEnd_5 : decode cX0_firstToEnd 5 = .ok (.iload_n 2, 1) := by decide +kernel
theorem dX0_firstToEnd_6 : decode cX0_firstToEnd 6 = .ok (.bipush 16, 2) := by decide +kernel
theorem dX0_firstToEnd_8 : decode cX0_firstToEnd 8 = .ok (.if_icmp .ge 40, 3) := by decide +kernel
theorem dX0_firstToEnd_11 : decode cX0_firstToEnd 11 = .ok (.aload_n 0, 1) := by decide +kernel
theorem dX0_firstToEnd_12 : decode cX0_firstToEnd 12 = .ok (.getfield 9, 3) := by decide +kernel
theorem dX0_firstToEnd_15 : decode cX0_firstToEnd 15 = .ok (.iload_n 2, 1) := by decide +kernel
theorem dX0_firstToEnd_16 : decode cX0_firstToEnd 16 = .ok (.iaload, 1) := by decide +kernel
theorem dX0_firstToEnd_17 : decode cX0_firstToEnd 17 = .ok (.iconst 3, 1) := by decide +kernel
theorem dX0_firstToEnd_18 : decode cX0_firstToEnd 18 = .ok (.if_icmp .eq 24, 3) := by decide +kernel
theorem dX0_firstToEnd_21 : decode cX0_firstToEnd 21 = .ok (.iload_n 1, 1) := by decide +kernel
theorem dX0_firstToEnd_22 : decode cX0_firstToEnd 22 = .ok (.ifCond .lt 18, 3) := by decide +kernel
theorem dX0_firstToEnd_25 : decode cX0_firstToEnd 25 = .ok (.aload_n 0, 1) := by decide +kernel
theorem dX0_firstToEnd_26 : decode cX0_firstToEnd 26 = .ok (.getfield 21, 3) := by decide +kernel
theorem dX0_firstToEnd_29 : decode cX0_firstToEnd 29 = .ok (.iload_n 2, 1) := by decide +kernel
theorem dX0_firstToEnd_30 : decode cX0_firstToEnd 30 = .ok (.iaload, 1) := by decide +kernel
theorem dX0_firstToEnd_31 : decode cX0_firstToEnd 31 = .ok (.aload_n 0, 1) := by decide +kernel
theorem dX0_firstToEnd_32 : decode cX0_firstToEnd 32 = .ok (.getfield 21, 3) := by decide +kernel
theorem dX0_firstToEnd_35 : decode cX0_firstToEnd 35 = .ok (.iload_n 1, 1) := by decide +kernel
theorem dX0_firstToEnd_36 : decode cX0_firstToEnd 36 = .ok (.iaload, 1) := by decide +kernel
theorem dX0_firstToEnd_37 : decode cX0_firstToEnd 37 = .ok (.if_icmp .ge 5, 3) := by decide +kernel
theorem dX0_firstToEnd_40 : decode cX0_firstToEnd 40 = .ok (.iload_n 2, 1) := by decide +kernel
theorem dX0_firstToEnd_41 : decode cX0_firstToEnd 41 = .ok (.istore_n 1, 1) := by decide +kernel
theorem dX0_firstToEnd_42 : decode cX0_firstToEnd 42 = .ok (.iinc 2 1, 3) := by decide +kernel
theorem dX0_firstToEnd_45 : decode cX0_firstToEnd 45 = .ok (.goto (-40), 3) := by decide +kernel
theorem dX0_firstToEnd_48 : decode cX0_firstToEnd 48 = .ok (.iload_n 1, 1) := by decide +kernel
theorem dX0_firstToEnd_49 : decode cX0_firstToEnd 49 = .ok (.ireturn, 1) := by decide +kernel
theorem dX1_init_0 : decode cX1_init 0 = .ok (.aload_n 0, 1) := by decide +kernel
theorem dX1_init_1 : decode cX1_init 1 = .ok (.invokespecial 3, 3) := by decide +kernel
theorem dX1_init_4 : decode cX1_init 4 = .ok (.aload_n 0, 1) := by decide +kernel
theorem dX1_init_5 : decode cX1_init 5 = .ok (.iconst 5, 1) := by decide +kernel
theorem dX1_init_6 : decode cX1_init 6 = .ok (.newarray .int, 2) := by decide +kernel
theorem dX1_init_8 : decode cX1_init 8 = .ok (.putfield 9, 3) := by decide +kernel
theorem dX1_init_11 : decode cX1_init 11 = .ok (.return_, 1) := by decide +kernel
theorem dX1_begin_0 : decode cX1_begin 0 = .ok (.aload_n 0, 1) := by decide +kernel
theorem dX1_begin_1 : decode cX1_begin 1 = .ok (.iconst 0, 1) := by decide +kernel
theorem dX1_begin_2 : decode cX1_begin 2 = .ok (.putfield 15, 3) := by decide +kernel
theorem dX1_begin_5 : decode cX1_begin 5 = .ok (.aload_n 0, 1) := by decide +kernel
theorem dX1_begin_6 : decode cX1_begin 6 = .ok (.iconst 0, 1) := by decide +kernel
theorem dX1_begin_7 : decode cX1_begin 7 = .ok (.putfield 19, 3) := by decide +kernel
theorem dX1_begin_10 : decode cX1_begin 10 = .ok (.aload_n 0, 1) := by decide +kernel
theorem dX1_begin_11 : decode cX1_begin 11 = .ok (.iconst 0, 1) := by decide +kernel
theorem dX1_begin_12 : decode cX1_begin 12 = .ok (.putfield 22, 3) := by decide +kernel
theorem dX1_begin_15 : decode cX1_begin 15 = .ok (.aload_n 0, 1) := by decide +kernel
theorem dX1_begin_16 : decode cX1_begin 16 = .ok (.iconst 0, 1) := by decide +kernel
theorem dX1_begin_17 : decode cX1_begin 17 = .ok (.putfield 25, 3) := by decide +kernel
theorem dX1_begin_20 : decode cX1_begin 20 = .ok (.aload_n 0, 1) := by decide +kernel
theorem dX1_begin_21 : decode cX1_begin 21 = .ok (.iconst 0, 1) := by decide +kernel
theorem dX1_begin_22 : decode cX1_begin 22 = .ok (.putfield 28, 3) := by decide +kernel
theorem dX1_begin_25 : decode cX1_begin 25 = .ok (.return_, 1) := by decide +kernel
theorem dX1_noteFresh_0 : decode cX1_noteFresh 0 = .ok (.aload_n 0, 1) := by decide +kernel
theorem dX1_noteFresh_1 : decode cX1_noteFresh 1 = .ok (.getfield 15, 3) := by decide +kernel
theorem dX1_noteFresh_4 : decode cX1_noteFresh 4 = .ok (.aload_n 0, 1) := by decide +kernel
theorem dX1_noteFresh_5 : decode cX1_noteFresh 5 = .ok (.getfield 9, 3) := by decide +kernel
theorem dX1_noteFresh_8 : decode cX1_noteFresh 8 = .ok (.arraylength, 1) := by decide +kernel
theorem dX1_noteFresh_9 : decode cX1_noteFresh 9 = .ok (.if_icmp .ge 23, 3) := by decide +kernel
theorem dX1_noteFresh_12 : decode cX1_noteFresh 12 = .ok (.aload_n 0, 1) := by decide +kernel
theorem dX1_noteFresh_13 : decode cX1_noteFresh 13 = .ok (.getfield 9, 3) := by decide +kernel
theorem dX1_noteFresh_16 : decode cX1_noteFresh 16 = .ok (.aload_n 0, 1) := by decide +kernel
theorem dX1_noteFresh_17 : decode cX1_noteFresh 17 = .ok (.getfield 15, 3) := by decide +kernel
theorem dX1_noteFresh_20 : decode cX1_noteFresh 20 = .ok (.iload_n 1, 1) := by decide +kernel
theorem dX1_noteFresh_21 : decode cX1_noteFresh 21 = .ok (.iastore, 1) := by decide +kernel
theorem dX1_noteFresh_22 : decode cX1_noteFresh 22 = .ok (.aload_n 0, 1) := by decide +kernel
theorem dX1_noteFresh_23 : decode cX1_noteFresh 23 = .ok (.dup, 1) := by decide +kernel
theorem dX1_noteFresh_24 : decode cX1_noteFresh 24 = .ok (.getfield 15, 3) := by decide +kernel
theorem dX1_noteFresh_27 : decode cX1_noteFresh 27 = .ok (.iconst 1, 1) := by decide +kernel
theorem dX1_noteFresh_28 : decode cX1_noteFresh 28 = .ok (.iadd, 1) := by decide +kernel
theorem dX1_noteFresh_29 : decode cX1_noteFresh 29 = .ok (.putfield 15, 3) := by decide +kernel
theorem dX1_noteFresh_32 : decode cX1_noteFresh 32 = .ok (.return_, 1) := by decide +kernel
theorem dX1_freshNameAt_0 : decode cX1_freshNameAt 0 = .ok (.iload_n 1, 1) := by decide +kernel
theorem dX1_freshNameAt_1 : decode cX1_freshNameAt 1 = .ok (.ifCond .lt 20, 3) := by decide +kernel
theorem dX1_freshNameAt_4 : decode cX1_freshNameAt 4 = .ok (.iload_n 1, 1) := by decide +kernel
theorem dX1_freshNameAt_5 : decode cX1_freshNameAt 5 = .ok (.aload_n 0, 1) := by decide +kernel
theorem dX1_freshNameAt_6 : decode cX1_freshNameAt 6 = .ok (.getfield 15, 3) := by decide +kernel
theorem dX1_freshNameAt_9 : decode cX1_freshNameAt 9 = .ok (.if_icmp .ge 12, 3) := by decide +kernel
theorem dX1_freshNameAt_12 : decode cX1_freshNameAt 12 = .ok (.iload_n 1, 1) := by decide +kernel
theorem dX1_freshNameAt_13 : decode cX1_freshNameAt 13 = .ok (.aload_n 0, 1) := by decide +kernel
theorem dX1_freshNameAt_14 : decode cX1_freshNameAt 14 = .ok (.getfield 9, 3) := by decide +kernel
theorem dX1_freshNameAt_17 : decode cX1_freshNameAt 17 = .ok (.arraylength, 1) := by decide +kernel
theorem dX1_freshNameAt_18 : decode cX1_freshNameAt 18 = .ok (.if_icmp .lt 8, 3) := by decide +kernel
theorem dX1_freshNameAt_21 : decode cX1_freshNameAt 21 = .ok (.bipush (-3), 2) := by decide +kernel
theorem dX1_freshNameAt_23 : decode cX1_freshNameAt 23 = .ok (.goto 9, 3) := by decide +kernel
theorem dX1_freshNameAt_26 : decode cX1_freshNameAt 26 = .ok (.aload_n 0, 1) := by decide +kernel
theorem dX1_freshNameAt_27 : decode cX1_freshNameAt 27 = .ok (.getfield 9, 3) := by decide +kernel
theorem dX1_freshNameAt_30 : decode cX1_freshNameAt 30 = .ok (.iload_n 1, 1) := by decide +kernel
theorem dX1_freshNameAt_31 : decode cX1_freshNameAt 31 = .ok (.iaload, 1) := by decide +kernel
theorem dX1_freshNameAt_32 : decode cX1_freshNameAt 32 = .ok (.ireturn, 1) := by decide +kernel
set_option maxRecDepth 20000 in
theorem ggX2_init_X0_init : GoodIn wsX2_init wsX0_init := goodIn_r _ [13, 14, 2, 3, 15, 16, 17, 18, 19, 20, 21, 22, 23, 24, 25, 26, 27, 28, 29, 30] (by decide +kernel) (by decide +kernel)
set_option maxRecDepth 20000 in
theorem gX2_init_X0_init : GoodIn wsX2_init (wsX0_init) := ggX2_init_X0_init
theorem dX2_init_0 : decode cX2_init 0 = .ok (.aload_n 0, 1) := by decide +kernel
theorem dX2_init_1 : decode cX2_init 1 = .ok (.invokespecial 1, 3) := by decide +kernel
theorem dX2_init_4 : decode cX2_init 4 = .ok (.aload_n 0, 1) := by decide +kernel
theorem dX2_init_5 : decode cX2_init 5 = .ok (.new 7, 3) := by decide +kernel
theorem dX2_init_8 : decode cX2_init 8 = .ok (.dup, 1) := by decide +kernel
theorem dX2_init_9 : decode cX2_init 9 = .ok (.invokespecial 9, 3) := by decide +kernel
theorem dX2_init_12 : decode cX2_init 12 = .ok (.putfield 10, 3) := by decide +kernel
theorem dX2_init_15 : decode cX2_init 15 = .ok (.aload_n 0, 1) := by decide +kernel
theorem dX2_init_16 : decode cX2_init 16 = .ok (.iconst 1, 1) := by decide +kernel
theorem dX2_init_17 : decode cX2_init 17 = .ok (.putfield 16, 3) := by decide +kernel
theorem dX2_init_20 : decode cX2_init 20 = .ok (.aload_n 0, 1) := by decide +kernel
theorem dX2_init_21 : decode cX2_init 21 = .ok (.iload_n 1, 1) := by decide +kernel
theorem dX2_init_22 : decode cX2_init 22 = .ok (.putfield 20, 3) := by decide +kernel
theorem dX2_init_25 : decode cX2_init 25 = .ok (.aload_n 0, 1) := by decide +kernel
theorem dX2_init_26 : decode cX2_init 26 = .ok (.iload_n 2, 1) := by decide +kernel
theorem dX2_init_27 : decode cX2_init 27 = .ok (.putfield 24, 3) := by decide +kernel
theorem dX2_init_30 : decode cX2_init 30 = .ok (.return_, 1) := by decide +kernel
theorem dX2_distanceTo_0 : decode cX2_distanceTo 0 = .ok (.iload_n 1, 1) := by decide +kernel
theorem dX2_distanceTo_1 : decode cX2_distanceTo 1 = .ok (.aload_n 0, 1) := by decide +kernel
theorem dX2_distanceTo_2 : decode cX2_distanceTo 2 = .ok (.getfield 24, 3) := by decide +kernel
theorem dX2_distanceTo_5 : decode cX2_distanceTo 5 = .ok (.isub, 1) := by decide +kernel
theorem dX2_distanceTo_6 : decode cX2_distanceTo 6 = .ok (.invokestatic 27, 3) := by decide +kernel
theorem dX2_distanceTo_9 : decode cX2_distanceTo 9 = .ok (.ireturn, 1) := by decide +kernel
set_option maxRecDepth 20000 in
theorem ggX3_init_J7_fill_53178 : GoodIn wsX3_init wsJ7_fill_53178 := goodIn_r _ [13] (by decide +kernel) (by decide +kernel)
set_option maxRecDepth 20000 in
theorem gX3_init_J7_fill_53178 : GoodIn wsX3_init (va_wsS RX3 29 yJ7_fill_53178 wsJ7_fill_53178) := goodIn_app (goodIn_of _ (by decide +kernel)) ggX3_init_J7_fill_53178
theorem dX3_init_0 : decode cX3_init 0 = .ok (.aload_n 0, 1) := by decide +kernel
theorem dX3_init_1 : decode cX3_init 1 = .ok (.invokespecial 3, 3) := by decide +kernel
theorem dX3_init_4 : decode cX3_init 4 = .ok (.aload_n 0, 1) := by decide +kernel
theorem dX3_init_5 : decode cX3_init 5 = .ok (.bipush 16, 2) := by decide +kernel
theorem dX3_init_7 : decode cX3_init 7 = .ok (.newarray .int, 2) := by decide +kernel
theorem dX3_init_9 : decode cX3_init 9 = .ok (.putfield 9, 3) := by decide +kernel
theorem dX3_init_12 : decode cX3_init 12 = .ok (.aload_n 0, 1) := by decide +kernel
theorem dX3_init_13 : decode cX3_init 13 = .ok (.bipush 16, 2) := by decide +kernel
theorem dX3_init_15 : decode cX3_init 15 = .ok (.newarray .int, 2) := by decide +kernel
theorem dX3_init_17 : decode cX3_init 17 = .ok (.putfield 15, 3) := by decide +kernel
theorem dX3_init_20 : decode cX3_init 20 = .ok (.aload_n 0, 1) := by decide +kernel
theorem dX3_init_21 : decode cX3_init 21 = .ok (.bipush 16, 2) := by decide +kernel
theorem dX3_init_23 : decode cX3_init 23 = .ok (.newarray .int, 2) := by decide +kernel
theorem dX3_init_25 : decode cX3_init 25 = .ok (.putfield 18, 3) := by decide +kernel
theorem dX3_init_28 : decode cX3_init 28 = .ok (.aload_n 0, 1) := by decide +kernel
theorem dX3_init_29 : decode cX3_init 29 = .ok (.bipush 30, 2) := by decide +kernel
theorem dX3_init_31 : decode cX3_init 31 = .ok (.putfield 21, 3) := by decide +kernel
theorem dX3_init_34 : decode cX3_init 34 = .ok (.aload_n 0, 1) := by decide +kernel
theorem dX3_init_35 : decode cX3_init 35 = .ok (.iconst 1, 1) := by decide +kernel
theorem dX3_init_36 : decode cX3_init 36 = .ok (.putfield 25, 3) := by decide +kernel
theorem dX3_init_39 : decode cX3_init 39 = .ok (.aload_n 0, 1) := by decide +kernel
theorem dX3_init_40 : decode cX3_init 40 = .ok (.getfield 9, 3) := by decide +kernel
theorem dX3_init_43 : decode cX3_init 43 = .ok (.iconst 2, 1) := by decide +kernel
theorem dX3_init_44 : decode cX3_init 44 = .ok (.invokestatic 29, 3) := by decide +kernel
theorem dX3_init_47 : decode cX3_init 47 = .ok (.aload_n 0, 1) := by decide +kernel
theorem dX3_init_48 : decode cX3_init 48 = .ok (.getfield 15, 3) := by decide +kernel
theorem dX3_init_51 : decode cX3_init 51 = .ok (.bipush (-3), 2) := by decide +kernel
theorem dX3_init_53 : decode cX3_init 53 = .ok (.invokestatic 29, 3) := by decide +kernel
theorem dX3_init_56 : decode cX3_init 56 = .ok (.return_, 1) := by decide +kernel
theorem dX3_put_0 : decode cX3_put 0 = .ok (.iload_n 1, 1) := by decide +kernel
theorem dX3_put_1 : decode cX3_put 1 = .ok (.ifCond .lt 9, 3) := by decide +kernel
theorem dX3_put_4 : decode cX3_put 4 = .ok (.iload_n 1, 1) := by decide +kernel
theorem dX3_put_5 : decode cX3_put 5 = .ok (.bipush 16, 2) := by decide +kernel
theorem dX3_put_7 : decode cX3_put 7 = .ok (.if_icmp .lt 4, 3) := by decide +kernel
theorem dX3_put_10 : decode cX3_put 10 = .ok (.return_, 1) := by decide +kernel
theorem dX3_put_11 : decode cX3_put 11 = .ok (.aload_n 0, 1) := by decide +kernel
theorem dX3_put_12 : decode cX3_put 12 = .ok (.getfield 9, 3) := by decide +kernel
theorem dX3_put_15 : decode cX3_put 15 = .ok (.iload_n 1, 1) := by decide +kernel
theorem dX3_put_16 : decode cX3_put 16 = .ok (.iload_n 2, 1) := by decide +kernel
theorem dX3_put_17 : decode cX3_put 17 = .ok (.iastore, 1) := by decide +kernel
theorem dX3_put_18 : decode cX3_put 18 = .ok (.aload_n 0, 1) := by decide +kernel
theorem dX3_put_19 : decode cX3_put 19 = .ok (.getfield 15, 3) := by decide +kernel
theorem dX3_put_22 : decode cX3_put 22 = .ok (.iload_n 1, 1) := by decide +kernel
theorem dX3_put_23 : decode cX3_put 23 = .ok (.iload_n 3, 1) := by decide +kernel
theorem dX3_put_24 : decode cX3_put 24 = .ok (.iastore, 1) := by decide +kernel
theorem dX3_put_25 : decode cX3_put 25 = .ok (.aload_n 0, 1) := by decide +kernel
theorem dX3_put_26 : decode cX3_put 26 = .ok (.getfield 18, 3) := by decide +kernel
theorem dX3_put_29 : decode cX3_put 29 = .ok (.iload_n 1, 1) := by decide +kernel
theorem dX3_put_30 : decode cX3_put 30 = .ok (.iload 4, 2) := by decide +kernel
theorem dX3_put_32 : decode cX3_put 32 = .ok (.iastore, 1) := by decide +kernel
theorem dX3_put_33 : decode cX3_put 33 = .ok (.return_, 1) := by decide +kernel
theorem dX3_kindOf_0 : decode cX3_kindOf 0 = .ok (.iload_n 1, 1) := by decide +kernel
theorem dX3_kindOf_1 : decode cX3_kindOf 1 = .ok (.ifCond .lt 9, 3) := by decide +kernel
theorem dX3_kindOf_4 : decode cX3_kindOf 4 = .ok (.iload_n 1, 1) := by decide +kernel
theorem dX3_kindOf_5 : decode cX3_kindOf 5 = .ok (.bipush 16, 2) := by decide +kernel
theorem dX3_kindOf_7 : decode cX3_kindOf 7 = .ok (.if_icmp .lt 7, 3) := by decide +kernel
theorem dX3_kindOf_10 : decode cX3_kindOf 10 = .ok (.iconst 2, 1) := by decide +kernel
theorem dX3_kindOf_11 : decode cX3_kindOf 11 = .ok (.goto 9, 3) := by decide +kernel
theorem dX3_kindOf_14 : decode cX3_kindOf 14 = .ok (.aload_n 0, 1) := by decide +kernel
theorem dX3_kindOf_15 : decode cX3_kindOf 15 = .ok (.getfield 9, 3) := by decide +kernel
theorem dX3_kindOf_18 : decode cX3_kindOf 18 = .ok (.iload_n 1, 1) := by decide +kernel
theorem dX3_kindOf_19 : decode cX3_kindOf 19 = .ok (.iaload, 1) := by decide +kernel
theorem dX3_kindOf_20 : decode cX3_kindOf 20 = .ok (.ireturn, 1) := by decide +kernel
theorem dX3_valueOf_0 : decode cX3_valueOf 0 = .ok (.iload_n 1, 1) := by decide +kernel
theorem dX3_valueOf_1 : decode cX3_valueOf 1 = .ok (.ifCond .lt 9, 3) := by decide +kernel
theorem dX3_valueOf_4 : decode cX3_valueOf 4 = .ok (.iload_n 1, 1) := by decide +kernel
theorem dX3_valueOf_5 : decode cX3_valueOf 5 = .ok (.bipush 16, 2) := by decide +kernel
theorem dX3_valueOf_7 : decode cX3_valueOf 7 = .ok (.if_icmp .lt 8, 3) := by decide +kernel
theorem dX3_valueOf_10 : decode cX3_valueOf 10 = .ok (.bipush (-3), 2) := by decide +kernel
theorem dX3_valueOf_12 : decode cX3_valueOf 12 = .ok (.goto 9, 3) := by decide +kernel
theorem dX3_valueOf_15 : decode cX3_valueOf 15 = .ok (.aload_n 0, 1) := by decide +kernel
theorem dX3_valueOf_16 : decode cX3_valueOf 16 = .ok (.getfield 15, 3) := by decide +kernel
theorem dX3_valueOf_19 : decode cX3_valueOf 19 = .ok (.iload_n 1, 1) := by decide +kernel
theorem dX3_valueOf_20 : decode cX3_valueOf 20 = .ok (.iaload, 1) := by decide +kernel
theorem dX3_valueOf_21 : decode cX3_valueOf 21 = .ok (.ireturn, 1) := by decide +kernel
theorem dX3_lifeOf_0 : decode cX3_lifeOf 0 = .ok (.iload_n 1, 1) := by decide +kernel
theorem dX3_lifeOf_1 : decode cX3_lifeOf 1 = .ok (.ifCond .lt 19, 3) := by decide +kernel
theorem dX3_lifeOf_4 : decode cX3_lifeOf 4 = .ok (.iload_n 1, 1) := by decide +kernel
theorem dX3_lifeOf_5 : decode cX3_lifeOf 5 = .ok (.bipush 16, 2) := by decide +kernel
theorem dX3_lifeOf_7 : decode cX3_lifeOf 7 = .ok (.if_icmp .ge 13, 3) := by decide +kernel
theorem dX3_lifeOf_10 : decode cX3_lifeOf 10 = .ok (.aload_n 0, 1) := by decide +kernel
theorem dX3_lifeOf_11 : decode cX3_lifeOf 11 = .ok (.getfield 9, 3) := by decide +kernel
theorem dX3_lifeOf_14 : decode cX3_lifeOf 14 = .ok (.iload_n 1, 1) := by decide +kernel
theorem dX3_lifeOf_15 : decode cX3_lifeOf 15 = .ok (.iaload, 1) := by decide +kernel
theorem dX3_lifeOf_16 : decode cX3_lifeOf 16 = .ok (.iconst 2, 1) := by decide +kernel
theorem dX3_lifeOf_17 : decode cX3_lifeOf 17 = .ok (.if_icmp .ne 10, 3) := by decide +kernel
theorem dX3_lifeOf_20 : decode cX3_lifeOf 20 = .ok (.aload_n 0, 1) := by decide +kernel
theorem dX3_lifeOf_21 : decode cX3_lifeOf 21 = .ok (.getfield 21, 3) := by decide +kernel
theorem dX3_lifeOf_24 : decode cX3_lifeOf 24 = .ok (.goto 9, 3) := by decide +kernel
theorem dX3_lifeOf_27 : decode cX3_lifeOf 27 = .ok (.aload_n 0, 1) := by decide +kernel
theorem dX3_lifeOf_28 : decode cX3_lifeOf 28 = .ok (.getfield 18, 3) := by decide +kernel
theorem dX3_lifeOf_31 : decode cX3_lifeOf 31 = .ok (.iload_n 1, 1) := by decide +kernel
theorem dX3_lifeOf_32 : decode cX3_lifeOf 32 = .ok (.iaload, 1) := by decide +kernel
theorem dX3_lifeOf_33 : decode cX3_lifeOf 33 = .ok (.ireturn, 1) := by decide +kernel
set_option maxRecDepth 20000 in
theorem ggX4_init_X3_init : GoodIn wsX4_init wsX3_init := goodIn_r _ [22, 23, 2, 3, 24, 25, 26, 27, 28, 29, 30, 31, 32, 33, 49, 50, 51, 52, 53] (by decide +kernel) (by decide +kernel)
set_option maxRecDepth 20000 in
theorem gX4_init_X3_init : GoodIn wsX4_init (wsX3_init) := ggX4_init_X3_init
set_option maxRecDepth 20000 in
theorem ggX4_init_X1_init : GoodIn wsX4_init wsX1_init := goodIn_r _ [36, 37, 2, 3, 24, 38, 67, 68, 69, 70, 71, 72] (by decide +kernel) (by decide +kernel)
set_option maxRecDepth 20000 in
theorem gX4_init_X1_init : GoodIn wsX4_init (wsX1_init) := ggX4_init_X1_init
set_option maxRecDepth 20000 in
theorem ggX4_init_X0_init : GoodIn wsX4_init wsX0_init := goodIn_r _ [41, 42, 2, 3, 24, 43, 44, 45, 46, 47, 48, 31, 32, 33, 73, 74, 75, 76, 77, 78] (by decide +kernel) (by decide +kernel)
set_option maxRecDepth 20000 in
theorem gX4_init_X0_init : GoodIn wsX4_init (wsX0_init) := ggX4_init_X0_init
theorem dX4_init_0 : decode cX4_init 0 = .ok (.aload_n 0, 1) := by decide +kernel
theorem dX4_init_1 : decode cX4_init 1 = .ok (.invokespecial 1, 3) := by decide +kernel
theorem dX4_init_4 : decode cX4_init 4 = .ok (.aload_n 0, 1) := by decide +kernel
theorem dX4_init_5 : decode cX4_init 5 = .ok (.new 7, 3) := by decide +kernel
theorem dX4_init_8 : decode cX4_init 8 = .ok (.dup, 1) := by decide +kernel
theorem dX4_init_9 : decode cX4_init 9 = .ok (.invokespecial 9, 3) := by decide +kernel
theorem dX4_init_12 : decode cX4_init 12 = .ok (.putfield 10, 3) := by decide +kernel
theorem dX4_init_15 : decode cX4_init 15 = .ok (.aload_n 0, 1) := by decide +kernel
theorem dX4_init_16 : decode cX4_init 16 = .ok (.iconst 4, 1) := by decide +kernel
theorem dX4_init_17 : decode cX4_init 17 = .ok (.anewarray 16, 3) := by decide +kernel
theorem dX4_init_20 : decode cX4_init 20 = .ok (.putfield 18, 3) := by decide +kernel
theorem dX4_init_23 : decode cX4_init 23 = .ok (.aload_n 0, 1) := by decide +kernel
theorem dX4_init_24 : decode cX4_init 24 = .ok (.new 22, 3) := by decide +kernel
theorem dX4_init_27 : decode cX4_init 27 = .ok (.dup, 1) := by decide +kernel
theorem dX4_init_28 : decode cX4_init 28 = .ok (.invokespecial 24, 3) := by decide +kernel
theorem dX4_init_31 : decode cX4_init 31 = .ok (.putfield 25, 3) := by decide +kernel
theorem dX4_init_34 : decode cX4_init 34 = .ok (.aload_n 0, 1) := by decide +kernel
theorem dX4_init_35 : decode cX4_init 35 = .ok (.bipush (-3), 2) := by decide +kernel
theorem dX4_init_37 : decode cX4_init 37 = .ok (.putfield 29, 3) := by decide +kernel
theorem dX4_init_40 : decode cX4_init 40 = .ok (.aload_n 0, 1) := by decide +kernel
theorem dX4_init_41 : decode cX4_init 41 = .ok (.new 22, 3) := by decide +kernel
theorem dX4_init_44 : decode cX4_init 44 = .ok (.dup, 1) := by decide +kernel
theorem dX4_init_45 : decode cX4_init 45 = .ok (.invokespecial 24, 3) := by decide +kernel
theorem dX4_init_48 : decode cX4_init 48 = .ok (.putfield 33, 3) := by decide +kernel
theorem dX4_init_51 : decode cX4_init 51 = .ok (.aload_n 0, 1) := by decide +kernel
theorem dX4_init_52 : decode cX4_init 52 = .ok (.new 36, 3) := by decide +kernel
theorem dX4_init_55 : decode cX4_init 55 = .ok (.dup, 1) := by decide +kernel
theorem dX4_init_56 : decode cX4_init 56 = .ok (.invokespecial 38, 3) := by decide +kernel
theorem dX4_init_59 : decode cX4_init 59 = .ok (.putfield 39, 3) := by decide +kernel
theorem dX4_init_62 : decode cX4_init 62 = .ok (.return_, 1) := by decide +kernel
set_option maxRecDepth 20000 in
theorem ggX4_setAddress_X4_requireName : GoodIn wsX4_setAddress wsX4_requireName := goodIn_ca (goodIn_r _ [5, 6, 7] (by decide +kernel) (by decide +kernel)) (goodIn_sub (fun _ h => List.mem_cons_of_mem _ (List.mem_append_left _ (List.mem_append_right _ h))) (by decide +kernel))
set_option maxRecDepth 20000 in
theorem gX4_setAddress_X4_requireName : GoodIn wsX4_setAddress (va_wsS RX4 43 yX4_requireName wsX4_requireName) := goodIn_app (goodIn_of _ (by decide +kernel)) ggX4_setAddress_X4_requireName
set_option maxRecDepth 20000 in
theorem ggX4_setAddress_X4_requireWithin : GoodIn wsX4_setAddress wsX4_requireWithin := goodIn_ca (goodIn_r _ [10, 11, 12] (by decide +kernel) (by decide +kernel)) (goodIn_sub (fun _ h => List.mem_cons_of_mem _ (List.mem_append_right _ h)) (by decide +kernel))
set_option maxRecDepth 20000 in
theorem gX4_setAddress_X4_requireWithin : GoodIn wsX4_setAddress (va_wsS RX4 47 yX4_requireWithin wsX4_requireWithin) := goodIn_app (goodIn_of _ (by decide +kernel)) ggX4_setAddress_X4_requireWithin
set_option maxRecDepth 20000 in
theorem ggX4_setAddress_X3_put : GoodIn wsX4_setAddress wsX3_put := goodIn_r _ [17, 18, 19, 20, 34, 35, 36, 37, 38] (by decide +kernel) (by decide +kernel)
set_option maxRecDepth 20000 in
theorem gX4_setAddress_X3_put : GoodIn wsX4_setAddress (wsV RX4 51 RX3 yX3_put wsX3_put) := goodIn_app (goodIn_of _ (by decide +kernel)) ggX4_setAddress_X3_put
theorem dX4_setAddress_0 : decode cX4_setAddress 0 = .ok (.iload_n 1, 1) := by decide +kernel
theorem dX4_setAddress_1 : decode cX4_setAddress 1 = .ok (.invokestatic 43, 3) := by decide +kernel
theorem dX4_setAddress_4 : decode cX4_setAddress 4 = .ok (.iload_n 2, 1) := by decide +kernel
theorem dX4_setAddress_5 : decode cX4_setAddress 5 = .ok (.iconst 1, 1) := by decide +kernel
theorem dX4_setAddress_6 : decode cX4_setAddress 6 = .ok (.sipush 9999, 3) := by decide +kernel
theorem dX4_setAddress_9 : decode cX4_setAddress 9 = .ok (.invokestatic 47, 3) := by decide +kernel
theorem dX4_setAddress_12 : decode cX4_setAddress 12 = .ok (.iload_n 3, 1) := by decide +kernel
theorem dX4_setAddress_13 : decode cX4_setAddress 13 = .ok (.iconst 1, 1) := by decide +kernel
theorem dX4_setAddress_14 : decode cX4_setAddress 14 = .ok (.sipush 1000, 3) := by decide +kernel
theorem dX4_setAddress_17 : decode cX4_setAddress 17 = .ok (.invokestatic 47, 3) := by decide +kernel
theorem dX4_setAddress_20 : decode cX4_setAddress 20 = .ok (.aload_n 0, 1) := by decide +kernel
theorem dX4_setAddress_21 : decode cX4_setAddress 21 = .ok (.getfield 10, 3) := by decide +kernel
theorem dX4_setAddress_24 : decode cX4_setAddress 24 = .ok (.iload_n 1, 1) := by decide +kernel
theorem dX4_setAddress_25 : decode cX4_setAddress 25 = .ok (.iconst 0, 1) := by decide +kernel
theorem dX4_setAddress_26 : decode cX4_setAddress 26 = .ok (.iload_n 2, 1) := by decide +kernel
theorem dX4_setAddress_27 : decode cX4_setAddress 27 = .ok (.iload_n 3, 1) := by decide +kernel
theorem dX4_setAddress_28 : decode cX4_setAddress 28 = .ok (.invokevirtual 51, 3) := by decide +kernel
theorem dX4_setAddress_31 : decode cX4_setAddress 31 = .ok (.return_, 1) := by decide +kernel
set_option maxRecDepth 20000 in
theorem ggX4_setAlias_X4_requireName : GoodIn wsX4_setAlias wsX4_requireName := goodIn_ca (goodIn_r _ [7, 8, 9] (by decide +kernel) (by decide +kernel)) (goodIn_sub (fun _ h => List.mem_cons_of_mem _ (List.mem_append_right _ h)) (by decide +kernel))
set_option maxRecDepth 20000 in
theorem gX4_setAlias_X4_requireName : GoodIn wsX4_setAlias (va_wsS RX4 43 yX4_requireName wsX4_requireName) := goodIn_app (goodIn_of _ (by decide +kernel)) ggX4_setAlias_X4_requireName
set_option maxRecDepth 20000 in
theorem ggX4_setAlias_X4_requireWithin : GoodIn wsX4_setAlias wsX4_requireWithin := goodIn_ca (goodIn_r _ [12, 1, 2] (by decide +kernel) (by decide +kernel)) (goodIn_sub (fun _ h => List.mem_cons_of_mem _ (List.mem_append_left _ (List.mem_append_right _ h))) (by decide +kernel))
set_option maxRecDepth 20000 in
theorem gX4_setAlias_X4_requireWithin : GoodIn wsX4_setAlias (va_wsS RX4 47 yX4_requireWithin wsX4_requireWithin) := goodIn_app (goodIn_of _ (by decide +kernel)) ggX4_setAlias_X4_requireWithin
set_option maxRecDepth 20000 in
theorem ggX4_setAlias_X3_put : GoodIn wsX4_setAlias wsX3_put := goodIn_r _ [17, 18, 19, 20, 34, 35, 36, 37, 38] (by decide +kernel) (by decide +kernel)
set_option maxRecDepth 20000 in
theorem gX4_setAlias_X3_put : GoodIn wsX4_setAlias (wsV RX4 51 RX3 yX3_put wsX3_put) := goodIn_app (goodIn_of _ (by decide +kernel)) ggX4_setAlias_X3_put
theorem dX4_setAlias_0 : decode cX4_setAlias 0 = .ok (.iload_n 1, 1) := by decide +kernel
theorem dX4_setAlias_1 : decode cX4_setAlias 1 = .ok (.invokestatic 43, 3) := by decide +kernel
theorem dX4_setAlias_4 : decode cX4_setAlias 4 = .ok (.iload_n 2, 1) := by decide +kernel
theorem dX4_setAlias_5 : decode cX4_setAlias 5 = .ok (.invokestatic 43, 3) := by decide +kernel
theorem dX4_setAlias_8 : decode cX4_setAlias 8 = .ok (.iload_n 2, 1) := by decide +kernel
theorem dX4_setAlias_9 : decode cX4_setAlias 9 = .ok (.iload_n 1, 1) := by decide +kernel
theorem dX4_setAlias_10 : decode cX4_setAlias 10 = .ok (.if_icmp .ne 13, 3) := by decide +kernel
theorem dX4_setAlias_13 : decode cX4_setAlias 13 = .ok (.new 55, 3) := by decide +kernel
theorem dX4_setAlias_16 : decode cX4_setAlias 16 = .ok (.dup, 1) := by decide +kernel
theorem dX4_setAlias_17 : decode cX4_setAlias 17 = .ok (.ldc 57, 2) := by decide +kernel
theorem dX4_setAlias_19 : decode cX4_setAlias 19 = .ok (.invokespecial 59, 3) := by decide +kernel
theorem dX4_setAlias_22 : decode cX4_setAlias 22 = .ok (.athrow, 1) := by decide +kernel
theorem dX4_setAlias_23 : decode cX4_setAlias 23 = .ok (.iload_n 3, 1) := by decide +kernel
theorem dX4_setAlias_24 : decode cX4_setAlias 24 = .ok (.iconst 1, 1) := by decide +kernel
theorem dX4_setAlias_25 : decode cX4_setAlias 25 = .ok (.sipush 1000, 3) := by decide +kernel
theorem dX4_setAlias_28 : decode cX4_setAlias 28 = .ok (.invokestatic 47, 3) := by decide +kernel
theorem dX4_setAlias_31 : decode cX4_setAlias 31 = .ok (.aload_n 0, 1) := by decide +kernel
theorem dX4_setAlias_32 : decode cX4_setAlias 32 = .ok (.getfield 10, 3) := by decide +kernel
theorem dX4_setAlias_35 : decode cX4_setAlias 35 = .ok (.iload_n 1, 1) := by decide +kernel
theorem dX4_setAlias_36 : decode cX4_setAlias 36 = .ok (.iconst 1, 1) := by decide +kernel
theorem dX4_setAlias_37 : decode cX4_setAlias 37 = .ok (.iload_n 2, 1) := by decide +kernel
theorem dX4_setAlias_38 : decode cX4_setAlias 38 = .ok (.iload_n 3, 1) := by decide +kernel
theorem dX4_setAlias_39 : decode cX4_setAlias 39 = .ok (.invokevirtual 51, 3) := by decide +kernel
theorem dX4_setAlias_42 : decode cX4_setAlias 42 = .ok (.return_, 1) := by decide +kernel
set_option maxRecDepth 20000 in
theorem ggX4_remove_X4_requireName : GoodIn wsX4_remove wsX4_requireName := goodIn_ca (goodIn_r _ [5, 6, 7] (by decide +kernel) (by decide +kernel)) (goodIn_sub (fun _ h => List.mem_cons_of_mem _ (List.mem_append_right _ h)) (by decide +kernel))
set_option maxRecDepth 20000 in
theorem gX4_remove_X4_requireName : GoodIn wsX4_remove (va_wsS RX4 43 yX4_requireName wsX4_requireName) := goodIn_app (goodIn_of _ (by decide +kernel)) ggX4_remove_X4_requireName
set_option maxRecDepth 20000 in
theorem ggX4_remove_X3_kindOf : GoodIn wsX4_remove wsX3_kindOf := goodIn_r _ [12, 13, 33, 34, 35, 36, 37] (by decide +kernel) (by decide +kernel)
set_option maxRecDepth 20000 in
theorem gX4_remove_X3_kindOf : GoodIn wsX4_remove (wsV RX4 62 RX3 yX3_kindOf wsX3_kindOf) := goodIn_app (goodIn_of _ (by decide +kernel)) ggX4_remove_X3_kindOf
set_option maxRecDepth 20000 in
theorem ggX4_remove_X3_put : GoodIn wsX4_remove wsX3_put := goodIn_r _ [17, 13, 18, 19, 33, 34, 35, 36, 37] (by decide +kernel) (by decide +kernel)
set_option maxRecDepth 20000 in
theorem gX4_remove_X3_put : GoodIn wsX4_remove (wsV RX4 51 RX3 yX3_put wsX3_put) := goodIn_app (goodIn_of _ (by decide +kernel)) ggX4_remove_X3_put
theorem dX4_remove_0 : decode cX4_remove 0 = .ok (.iload_n 1, 1) := by decide +kernel
theorem dX4_remove_1 : decode cX4_remove 1 = .ok (.invokestatic 43, 3) := by decide +kernel
theorem dX4_remove_4 : decode cX4_remove 4 = .ok (.aload_n 0, 1) := by decide +kernel
theorem dX4_remove_5 : decode cX4_remove 5 = .ok (.getfield 10, 3) := by decide +kernel
theorem dX4_remove_8 : decode cX4_remove 8 = .ok (.iload_n 1, 1) := by decide +kernel
theorem dX4_remove_9 : decode cX4_remove 9 = .ok (.invokevirtual 62, 3) := by decide +kernel
theorem dX4_remove_12 : decode cX4_remove 12 = .ok (.iconst 2, 1) := by decide +kernel
theorem dX4_remove_13 : decode cX4_remove 13 = .ok (.if_icmp .eq 7, 3) := by decide +kernel
theorem dX4_remove_16 : decode cX4_remove 16 = .ok (.iconst 1, 1) := by decide +kernel
theorem dX4_remove_17 : decode cX4_remove 17 = .ok (.goto 4, 3) := by decide +kernel
theorem dX4_remove_20 : decode cX4_remove 20 = .ok (.iconst 0, 1) := by decide +kernel
theorem dX4_remove_21 : decode cX4_remove 21 = .ok (.istore_n 2, 1) := by decide +kernel
theorem dX4_remove_22 : decode cX4_remove 22 = .ok (.aload_n 0, 1) := by decide +kernel
theorem dX4_remove_23 : decode cX4_remove 23 = .ok (.getfield 10, 3) := by decide +kernel
theorem dX4_remove_26 : decode cX4_remove 26 = .ok (.iload_n 1, 1) := by decide +kernel
theorem dX4_remove_27 : decode cX4_remove 27 = .ok (.iconst 2, 1) := by decide +kernel
theorem dX4_remove_28 : decode cX4_remove 28 = .ok (.bipush (-3), 2) := by decide +kernel
theorem dX4_remove_30 : decode cX4_remove 30 = .ok (.iconst 0, 1) := by decide +kernel
theorem dX4_remove_31 : decode cX4_remove 31 = .ok (.invokevirtual 51, 3) := by decide +kernel
theorem dX4_remove_34 : decode cX4_remove 34 = .ok (.iload_n 2, 1) := by decide +kernel
theorem dX4_remove_35 : decode cX4_remove 35 = .ok (.ireturn, 1) := by decide +kernel
set_option maxRecDepth 20000 in
theorem ggX4_setBound_X4_requireWithin : GoodIn wsX4_setBound wsX4_requireWithin := goodIn_ca (goodIn_r _ [6, 7, 8] (by decide +kernel) (by decide +kernel)) (goodIn_sub (fun _ h => List.mem_cons_of_mem _ (List.mem_append_right _ h)) (by decide +kernel))
set_option maxRecDepth 20000 in
theorem gX4_setBound_X4_requireWithin : GoodIn wsX4_setBound (va_wsS RX4 47 yX4_requireWithin wsX4_requireWithin) := goodIn_app (goodIn_of _ (by decide +kernel)) ggX4_setBound_X4_requireWithin
theorem dX4_setBound_0 : decode cX4_setBound 0 = .ok (.iload_n 1, 1) := by decide +kernel
theorem dX4_setBound_1 : decode cX4_setBound 1 = .ok (.iconst 1, 1) := by decide +kernel
theorem dX4_setBound_2 : decode cX4_setBound 2 = .ok (.sipush 300, 3) := by decide +kernel
theorem dX4_setBound_5 : decode cX4_setBound 5 = .ok (.invokestatic 47, 3) := by decide +kernel
theorem dX4_setBound_8 : decode cX4_setBound 8 = .ok (.aload_n 0, 1) := by decide +kernel
theorem dX4_setBound_9 : decode cX4_setBound 9 = .ok (.getfield 10, 3) := by decide +kernel
theorem dX4_setBound_12 : decode cX4_setBound 12 = .ok (.getfield 66, 3) := by decide +kernel
theorem dX4_setBound_15 : decode cX4_setBound 15 = .ok (.istore_n 2, 1) := by decide +kernel
theorem dX4_setBound_16 : decode cX4_setBound 16 = .ok (.aload_n 0, 1) := by decide +kernel
theorem dX4_setBound_17 : decode cX4_setBound 17 = .ok (.getfield 10, 3) := by decide +kernel
theorem dX4_setBound_20 : decode cX4_setBound 20 = .ok (.iload_n 1, 1) := by decide +kernel
theorem dX4_setBound_21 : decode cX4_setBound 21 = .ok (.putfield 66, 3) := by decide +kernel
theorem dX4_setBound_24 : decode cX4_setBound 24 = .ok (.iload_n 2, 1) := by decide +kernel
theorem dX4_setBound_25 : decode cX4_setBound 25 = .ok (.ireturn, 1) := by decide +kernel
theorem dX4_setAuthority_0 : decode cX4_setAuthority 0 = .ok (.aload_n 0, 1) := by decide +kernel
theorem dX4_setAuthority_1 : decode cX4_setAuthority 1 = .ok (.getfield 10, 3) := by decide +kernel
theorem dX4_setAuthority_4 : decode cX4_setAuthority 4 = .ok (.getfield 69, 3) := by decide +kernel
theorem dX4_setAuthority_7 : decode cX4_setAuthority 7 = .ok (.istore_n 2, 1) := by decide +kernel
theorem dX4_setAuthority_8 : decode cX4_setAuthority 8 = .ok (.aload_n 0, 1) := by decide +kernel
theorem dX4_setAuthority_9 : decode cX4_setAuthority 9 = .ok (.getfield 10, 3) := by decide +kernel
theorem dX4_setAuthority_12 : decode cX4_setAuthority 12 = .ok (.iload_n 1, 1) := by decide +kernel
theorem dX4_setAuthority_13 : decode cX4_setAuthority 13 = .ok (.putfield 69, 3) := by decide +kernel
theorem dX4_setAuthority_16 : decode cX4_setAuthority 16 = .ok (.iload_n 2, 1) := by decide +kernel
theorem dX4_setAuthority_17 : decode cX4_setAuthority 17 = .ok (.ireturn, 1) := by decide +kernel
set_option maxRecDepth 20000 in
theorem ggX4_truth_X4_requireName : GoodIn wsX4_truth wsX4_requireName := goodIn_ca (goodIn_r _ [5, 6, 7] (by decide +kernel) (by decide +kernel)) (goodIn_sub (fun _ h => List.mem_cons_of_mem _ (List.mem_append_right _ h)) (by decide +kernel))
set_option maxRecDepth 20000 in
theorem gX4_truth_X4_requireName : GoodIn wsX4_truth (va_wsS RX4 43 yX4_requireName wsX4_requireName) := goodIn_app (goodIn_of _ (by decide +kernel)) ggX4_truth_X4_requireName
set_option maxRecDepth 20000 in
theorem ggX4_truth_X3_kindOf : GoodIn wsX4_truth wsX3_kindOf := goodIn_r _ [12, 13, 32, 33, 34, 35, 36] (by decide +kernel) (by decide +kernel)
set_option maxRecDepth 20000 in
theorem gX4_truth_X3_kindOf : GoodIn wsX4_truth (wsV RX4 62 RX3 yX3_kindOf wsX3_kindOf) := goodIn_app (goodIn_of _ (by decide +kernel)) ggX4_truth_X3_kindOf
set_option maxRecDepth 20000 in
theorem ggX4_truth_X3_valueOf : GoodIn wsX4_truth wsX3_valueOf := goodIn_r _ [17, 18, 32, 33, 34, 35, 36] (by decide +kernel) (by decide +kernel)
set_option maxRecDepth 20000 in
theorem gX4_truth_X3_valueOf : GoodIn wsX4_truth (wsV RX4 73 RX3 yX3_valueOf wsX3_valueOf) := goodIn_app (goodIn_of _ (by decide +kernel)) ggX4_truth_X3_valueOf
theorem dX4_truth_0 : decode cX4_truth 0 = .ok (.iload_n 1, 1) := by decide +kernel
theorem dX4_truth_1 : decode cX4_truth 1 = .ok (.invokestatic 43, 3) := by decide +kernel
theorem dX4_truth_4 : decode cX4_truth 4 = .ok (.iload_n 1, 1) := by decide +kernel
theorem dX4_truth_5 : decode cX4_truth 5 = .ok (.istore_n 2, 1) := by decide +kernel
theorem dX4_truth_6 : decode cX4_truth 6 = .ok (.iconst 0, 1) := by decide +kernel
theorem dX4_truth_7 : decode cX4_truth 7 = .ok (.istore_n 3, 1) := by decide +kernel
theorem dX4_truth_8 : decode cX4_truth 8 = .ok (.iload_n 3, 1) := by decide +kernel
theorem dX4_truth_9 : decode cX4_truth 9 = .ok (.iconst 4, 1) := by decide +kernel
theorem dX4_truth_10 : decode cX4_truth 10 = .ok (.if_icmp .gt 50, 3) := by decide +kernel
theorem dX4_truth_13 : decode cX4_truth 13 = .ok (.aload_n 0, 1) := by decide +kernel
theorem dX4_truth_14 : decode cX4_truth 14 = .ok (.getfield 10, 3) := by decide +kernel
theorem dX4_truth_17 : decode cX4_truth 17 = .ok (.iload_n 2, 1) := by decide +kernel
theorem dX4_truth_18 : decode cX4_truth 18 = .ok (.invokevirtual 62, 3) := by decide +kernel
theorem dX4_truth_21 : decode cX4_truth 21 = .ok (.istore 4, 2) := by decide +kernel
theorem dX4_truth_23 : decode cX4_truth 23 = .ok (.aload_n 0, 1) := by decide +kernel
theorem dX4_truth_24 : decode cX4_truth 24 = .ok (.getfield 10, 3) := by decide +kernel
theorem dX4_truth_27 : decode cX4_truth 27 = .ok (.iload_n 2, 1) := by decide +kernel
theorem dX4_truth_28 : decode cX4_truth 28 = .ok (.invokevirtual 73, 3) := by decide +kernel
theorem dX4_truth_31 : decode cX4_truth 31 = .ok (.istore 5, 2) := by decide +kernel
theorem dX4_truth_33 : decode cX4_truth 33 = .ok (.iload 4, 2) := by decide +kernel
theorem dX4_truth_35 : decode cX4_truth 35 = .ok (.iconst 1, 1) := by decide +kernel
theorem dX4_truth_36 : decode cX4_truth 36 = .ok (.if_icmp .eq 15, 3) := by decide +kernel
theorem dX4_truth_39 : decode cX4_truth 39 = .ok (.iload 4, 2) := by decide +kernel
theorem dX4_truth_41 : decode cX4_truth 41 = .ok (.ifCond .ne 8, 3) := by decide +kernel
theorem dX4_truth_44 : decode cX4_truth 44 = .ok (.iload 5, 2) := by decide +kernel
theorem dX4_truth_46 : decode cX4_truth 46 = .ok (.goto 4, 3) := by decide +kernel
theorem dX4_truth_49 : decode cX4_truth 49 = .ok (.iconst (-1), 1) := by decide +kernel
theorem dX4_truth_50 : decode cX4_truth 50 = .ok (.ireturn, 1) := by decide +kernel
theorem dX4_truth_51 : decode cX4_truth 51 = .ok (.iload 5, 2) := by decide +kernel
theorem dX4_truth_53 : decode cX4_truth 53 = .ok (.istore_n 2, 1) := by decide +kernel
theorem dX4_truth_54 : decode cX4_truth 54 = .ok (.iinc 3 1, 3) := by decide +kernel
theorem dX4_truth_57 : decode cX4_truth 57 = .ok (.goto (-49), 3) := by decide +kernel
theorem dX4_truth_60 : decode cX4_truth 60 = .ok (.bipush (-2), 2) := by decide +kernel
theorem dX4_truth_62 : decode cX4_truth 62 = .ok (.ireturn, 1) := by decide +kernel
set_option maxRecDepth 20000 in
theorem ggX4_addSite_X4_requireWithin : GoodIn wsX4_addSite wsX4_requireWithin := goodIn_ca (goodIn_r _ [11, 12, 13] (by decide +kernel) (by decide +kernel)) (goodIn_sub (fun _ h => List.mem_cons_of_mem _ (List.mem_append_right _ h)) (by decide +kernel))
set_option maxRecDepth 20000 in
theorem gX4_addSite_X4_requireWithin : GoodIn wsX4_addSite (va_wsS RX4 47 yX4_requireWithin wsX4_requireWithin) := goodIn_app (goodIn_of _ (by decide +kernel)) ggX4_addSite_X4_requireWithin
set_option maxRecDepth 20000 in
theorem ggX4_addSite_X2_init : GoodIn wsX4_addSite wsX2_init := goodIn_r _ [16, 17, 18, 19, 20, 21, 22, 23, 24, 25, 26, 27, 28, 29, 30, 31, 32, 33, 34, 35, 36, 37, 38, 39, 40, 58, 59, 60, 61, 62, 63, 54, 55, 56, 57] (by decide +kernel) (by decide +kernel)
set_option maxRecDepth 20000 in
theorem gX4_addSite_X2_init : GoodIn wsX4_addSite (wsX2_init) := ggX4_addSite_X2_init
theorem dX4_addSite_0 : decode cX4_addSite 0 = .ok (.iload_n 1, 1) := by decide +kernel
theorem dX4_addSite_1 : decode cX4_addSite 1 = .ok (.iconst 0, 1) := by decide +kernel
theorem dX4_addSite_2 : decode cX4_addSite 2 = .ok (.bipush 99, 2) := by decide +kernel
theorem dX4_addSite_4 : decode cX4_addSite 4 = .ok (.invokestatic 47, 3) := by decide +kernel
theorem dX4_addSite_7 : decode cX4_addSite 7 = .ok (.aload_n 0, 1) := by decide +kernel
theorem dX4_addSite_8 : decode cX4_addSite 8 = .ok (.getfield 76, 3) := by decide +kernel
theorem dX4_addSite_11 : decode cX4_addSite 11 = .ok (.aload_n 0, 1) := by decide +kernel
theorem dX4_addSite_12 : decode cX4_addSite 12 = .ok (.getfield 18, 3) := by decide +kernel
theorem dX4_addSite_15 : decode cX4_addSite 15 = .ok (.arraylength, 1) := by decide +kernel
theorem dX4_addSite_16 : decode cX4_addSite 16 = .ok (.if_icmp .lt 13, 3) := by decide +kernel
theorem dX4_addSite_19 : decode cX4_addSite 19 = .ok (.new 79, 3) := by decide +kernel
theorem dX4_addSite_22 : decode cX4_addSite 22 = .ok (.dup, 1) := by decide +kernel
theorem dX4_addSite_23 : decode cX4_addSite 23 = .ok (.ldc 81, 2) := by decide +kernel
theorem dX4_addSite_25 : decode cX4_addSite 25 = .ok (.invokespecial 83, 3) := by decide +kernel
theorem dX4_addSite_28 : decode cX4_addSite 28 = .ok (.athrow, 1) := by decide +kernel
theorem dX4_addSite_29 : decode cX4_addSite 29 = .ok (.aload_n 0, 1) := by decide +kernel
theorem dX4_addSite_30 : decode cX4_addSite 30 = .ok (.getfield 76, 3) := by decide +kernel
theorem dX4_addSite_33 : decode cX4_addSite 33 = .ok (.istore_n 2, 1) := by decide +kernel
theorem dX4_addSite_34 : decode cX4_addSite 34 = .ok (.aload_n 0, 1) := by decide +kernel
theorem dX4_addSite_35 : decode cX4_addSite 35 = .ok (.getfield 18, 3) := by decide +kernel
theorem dX4_addSite_38 : decode cX4_addSite 38 = .ok (.iload_n 2, 1) := by decide +kernel
theorem dX4_addSite_39 : decode cX4_addSite 39 = .ok (.new 16, 3) := by decide +kernel
theorem dX4_addSite_42 : decode cX4_addSite 42 = .ok (.dup, 1) := by decide +kernel
theorem dX4_addSite_43 : decode cX4_addSite 43 = .ok (.iload_n 2, 1) := by decide +kernel
theorem dX4_addSite_44 : decode cX4_addSite 44 = .ok (.iload_n 1, 1) := by decide +kernel
theorem dX4_addSite_45 : decode cX4_addSite 45 = .ok (.invokespecial 84, 3) := by decide +kernel
theorem dX4_addSite_48 : decode cX4_addSite 48 = .ok (.aastore, 1) := by decide +kernel
theorem dX4_addSite_49 : decode cX4_addSite 49 = .ok (.aload_n 0, 1) := by decide +kernel
theorem dX4_addSite_50 : decode cX4_addSite 50 = .ok (.dup, 1) := by decide +kernel
theorem dX4_addSite_51 : decode cX4_addSite 51 = .ok (.getfield 76, 3) := by decide +kernel
theorem dX4_addSite_54 : decode cX4_addSite 54 = .ok (.iconst 1, 1) := by decide +kernel
theorem dX4_addSite_55 : decode cX4_addSite 55 = .ok (.iadd, 1) := by decide +kernel
theorem dX4_addSite_56 : decode cX4_addSite 56 = .ok (.putfield 76, 3) := by decide +kernel
theorem dX4_addSite_59 : decode cX4_addSite 59 = .ok (.iload_n 2, 1) := by decide +kernel
theorem dX4_addSite_60 : decode cX4_addSite 60 = .ok (.ireturn, 1) := by decide +kernel
set_option maxRecDepth 20000 in
theorem ggX4_announce_X4_siteNumbered : GoodIn wsX4_announce wsX4_siteNumbered := goodIn_ca (goodIn_r _ [6, 7, 8, 9, 14, 15, 16, 17, 18, 19, 20, 21, 22, 23, 24, 25, 26] (by decide +kernel) (by decide +kernel)) (goodIn_sub (fun _ h => List.mem_cons_of_mem _ (List.mem_append_right _ h)) (by decide +kernel))
set_option maxRecDepth 20000 in
theorem gX4_announce_X4_siteNumbered : GoodIn wsX4_announce (wsV RX4 87 RX4 yX4_siteNumbered wsX4_siteNumbered) := goodIn_app (goodIn_of _ (by decide +kernel)) ggX4_announce_X4_siteNumbered
theorem dX4_announce_0 : decode cX4_announce 0 = .ok (.aload_n 0, 1) := by decide +kernel
theorem dX4_announce_1 : decode cX4_announce 1 = .ok (.iload_n 1, 1) := by decide +kernel
theorem dX4_announce_2 : decode cX4_announce 2 = .ok (.invokevirtual 87, 3) := by decide +kernel
theorem dX4_announce_5 : decode cX4_announce 5 = .ok (.astore_n 3, 1) := by decide +kernel
theorem dX4_announce_6 : decode cX4_announce 6 = .ok (.aload_n 3, 1) := by decide +kernel
theorem dX4_announce_7 : decode cX4_announce 7 = .ok (.getfield 91, 3) := by decide +kernel
theorem dX4_announce_10 : decode cX4_announce 10 = .ok (.istore 4, 2) := by decide +kernel
theorem dX4_announce_12 : decode cX4_announce 12 = .ok (.aload_n 3, 1) := by decide +kernel
theorem dX4_announce_13 : decode cX4_announce 13 = .ok (.iload_n 2, 1) := by decide +kernel
theorem dX4_announce_14 : decode cX4_announce 14 = .ok (.putfield 91, 3) := by decide +kernel
theorem dX4_announce_17 : decode cX4_announce 17 = .ok (.iload 4, 2) := by decide +kernel
theorem dX4_announce_19 : decode cX4_announce 19 = .ok (.ireturn, 1) := by decide +kernel
set_option maxRecDepth 20000 in
theorem ggX4_siteFor_X4_requireWithin : GoodIn wsX4_siteFor wsX4_requireWithin := goodIn_ca (goodIn_r _ [5, 6, 7] (by decide +kernel) (by decide +kernel)) (goodIn_sub (fun _ h => List.mem_cons_of_mem _ (List.mem_append_right _ h)) (by decide +kernel))
set_option maxRecDepth 20000 in
theorem gX4_siteFor_X4_requireWithin : GoodIn wsX4_siteFor (va_wsS RX4 47 yX4_requireWithin wsX4_requireWithin) := goodIn_app (goodIn_of _ (by decide +kernel)) ggX4_siteFor_X4_requireWithin
set_option maxRecDepth 20000 in
theorem ggX4_siteFor_X4_nearestSite : GoodIn wsX4_siteFor wsX4_nearestSite := goodIn_r _ [11, 12, 13, 14, 15, 16, 17, 18, 19, 20, 21, 22, 23, 28, 29, 30, 31, 32, 33, 34, 35, 36, 37, 38, 39, 40, 24, 25, 26, 27] (by decide +kernel) (by decide +kernel)
set_option maxRecDepth 20000 in
theorem gX4_siteFor_X4_nearestSite : GoodIn wsX4_siteFor (wsV RX4 94 RX4 yX4_nearestSite wsX4_nearestSite) := goodIn_app (goodIn_of _ (by decide +kernel)) ggX4_siteFor_X4_nearestSite
theorem dX4_siteFor_0 : decode cX4_siteFor 0 = .ok (.iload_n 1, 1) := by decide +kernel
theorem dX4_siteFor_1 : decode cX4_siteFor 1 = .ok (.iconst 0, 1) := by decide +kernel
theorem dX4_siteFor_2 : decode cX4_siteFor 2 = .ok (.bipush 99, 2) := by decide +kernel
theorem dX4_siteFor_4 : decode cX4_siteFor 4 = .ok (.invokestatic 47, 3) := by decide +kernel
theorem dX4_siteFor_7 : decode cX4_siteFor 7 = .ok (.aload_n 0, 1) := by decide +kernel
theorem dX4_siteFor_8 : decode cX4_siteFor 8 = .ok (.iload_n 1, 1) := by decide +kernel
theorem dX4_siteFor_9 : decode cX4_siteFor 9 = .ok (.invokevirtual 94, 3) := by decide +kernel
theorem dX4_siteFor_12 : decode cX4_siteFor 12 = .ok (.astore_n 2, 1) := by decide +kernel
theorem dX4_siteFor_13 : decode cX4_siteFor 13 = .ok (.aload_n 2, 1) := by decide +kernel
theorem dX4_siteFor_14 : decode cX4_siteFor 14 = .ok (.ifnonnull 8, 3) := by decide +kernel
theorem dX4_siteFor_17 : decode cX4_siteFor 17 = .ok (.bipush (-3), 2) := by decide +kernel
theorem dX4_siteFor_19 : decode cX4_siteFor 19 = .ok (.goto 7, 3) := by decide +kernel
theorem dX4_siteFor_22 : decode cX4_siteFor 22 = .ok (.aload_n 2, 1) := by decide +kernel
theorem dX4_siteFor_23 : decode cX4_siteFor 23 = .ok (.getfield 97, 3) := by decide +kernel
theorem dX4_siteFor_26 : decode cX4_siteFor 26 = .ok (.ireturn, 1) := by decide +kernel
set_option maxRecDepth 20000 in
theorem ggX4_flush_X4_cacheAsked : GoodIn wsX4_flush wsX4_cacheAsked := goodIn_ca (goodIn_r _ [5, 6, 7, 8, 9, 4, 10, 11, 12, 13, 14, 15, 16, 28, 29, 30, 31, 32, 33, 34, 35, 36, 37, 38, 39, 40, 41, 42, 43, 44] (by decide +kernel) (by decide +kernel)) (goodIn_sub (fun _ h => List.mem_cons_of_mem _ (List.mem_append_right _ h)) (by decide +kernel))
set_option maxRecDepth 20000 in
theorem gX4_flush_X4_cacheAsked : GoodIn wsX4_flush (wsV RX4 100 RX4 yX4_cacheAsked wsX4_cacheAsked) := goodIn_app (goodIn_of _ (by decide +kernel)) ggX4_flush_X4_cacheAsked
set_option maxRecDepth 20000 in
theorem ggX4_flush_X0_drop : GoodIn wsX4_flush wsX0_drop := goodIn_r _ [21, 22, 23, 24, 25, 26, 20, 27, 45, 46, 47, 48, 49, 50] (by decide +kernel) (by decide +kernel)
set_option maxRecDepth 20000 in
theorem gX4_flush_X0_drop : GoodIn wsX4_flush (wsV RX4 104 RX0 yX0_drop wsX0_drop) := goodIn_app (goodIn_of _ (by decide +kernel)) ggX4_flush_X0_drop
theorem dX4_flush_0 : decode cX4_flush 0 = .ok (.aload_n 0, 1) := by decide +kernel
theorem dX4_flush_1 : decode cX4_flush 1 = .ok (.iload_n 1, 1) := by decide +kernel
theorem dX4_flush_2 : decode cX4_flush 2 = .ok (.iload_n 2, 1) := by decide +kernel
theorem dX4_flush_3 : decode cX4_flush 3 = .ok (.invokevirtual 100, 3) := by decide +kernel
theorem dX4_flush_6 : decode cX4_flush 6 = .ok (.iload_n 2, 1) := by decide +kernel
theorem dX4_flush_7 : decode cX4_flush 7 = .ok (.invokevirtual 104, 3) := by decide +kernel
theorem dX4_flush_10 : decode cX4_flush 10 = .ok (.ireturn, 1) := by decide +kernel
set_option maxRecDepth 20000 in
theorem ggX4_pass_X4_requireWithin : GoodIn wsX4_pass wsX4_requireWithin := goodIn_ca (goodIn_r _ [5, 6, 7] (by decide +kernel) (by decide +kernel)) (goodIn_sub (fun _ h => List.mem_cons_of_mem _ (List.mem_append_right _ h)) (by decide +kernel))
set_option maxRecDepth 20000 in
theorem gX4_pass_X4_requireWithin : GoodIn wsX4_pass (va_wsS RX4 47 yX4_requireWithin wsX4_requireWithin) := goodIn_app (goodIn_of _ (by decide +kernel)) ggX4_pass_X4_requireWithin
theorem dX4_pass_0 : decode cX4_pass 0 = .ok (.iload_n 1, 1) := by decide +kernel
theorem dX4_pass_1 : decode cX4_pass 1 = .ok (.iconst 1, 1) := by decide +kernel
theorem dX4_pass_2 : decode cX4_pass 2 = .ok (.sipush 1000, 3) := by decide +kernel
theorem dX4_pass_5 : decode cX4_pass 5 = .ok (.invokestatic 47, 3) := by decide +kernel
theorem dX4_pass_8 : decode cX4_pass 8 = .ok (.aload_n 0, 1) := by decide +kernel
theorem dX4_pass_9 : decode cX4_pass 9 = .ok (.dup, 1) := by decide +kernel
theorem dX4_pass_10 : decode cX4_pass 10 = .ok (.getfield 108, 3) := by decide +kernel
theorem dX4_pass_13 : decode cX4_pass 13 = .ok (.iload_n 1, 1) := by decide +kernel
theorem dX4_pass_14 : decode cX4_pass 14 = .ok (.iadd, 1) := by decide +kernel
theorem dX4_pass_15 : decode cX4_pass 15 = .ok (.putfield 108, 3) := by decide +kernel
theorem dX4_pass_18 : decode cX4_pass 18 = .ok (.aload_n 0, 1) := by decide +kernel
theorem dX4_pass_19 : decode cX4_pass 19 = .ok (.getfield 108, 3) := by decide +kernel
theorem dX4_pass_22 : decode cX4_pass 22 = .ok (.ireturn, 1) := by decide +kernel
theorem dX4_time_0 : decode cX4_time 0 = .ok (.aload_n 0, 1) := by decide +kernel
theorem dX4_time_1 : decode cX4_time 1 = .ok (.getfield 108, 3) := by decide +kernel
theorem dX4_time_4 : decode cX4_time 4 = .ok (.ireturn, 1) := by decide +kernel
set_option maxRecDepth 20000 in
theorem ggX4_query_X4_siteAsked : GoodIn wsX4_query wsX4_siteAsked := goodIn_ca (goodIn_ca (goodIn_ca (goodIn_r _ [9, 10, 11, 12, 13, 8, 14, 15, 16, 17, 18, 19, 20, 21, 22, 23, 24, 25, 26, 27, 28, 29, 30, 31, 32, 33, 34, 35, 36, 37, 158, 159, 160, 161, 162, 163, 164, 165, 166, 167, 168, 169, 170, 154, 155, 156, 157] (by decide +kernel) (by decide +kernel)) (goodIn_sub (fun _ h => List.mem_cons_of_mem _ (List.mem_append_left _ (List.mem_append_left _ (List.mem_append_right _ h)))) (by decide +kernel))) (goodIn_sub (fun _ h => List.mem_cons_of_mem _ (List.mem_append_left _ (List.mem_append_right _ h))) (by decide +kernel))) (goodIn_sub (fun _ h => List.mem_cons_of_mem _ (List.mem_append_right _ h)) (by decide +kernel))
set_option maxRecDepth 20000 in
theorem gX4_query_X4_siteAsked : GoodIn wsX4_query (wsV RX4 111 RX4 yX4_siteAsked wsX4_siteAsked) := goodIn_app (goodIn_of _ (by decide +kernel)) ggX4_query_X4_siteAsked
set_option maxRecDepth 20000 in
theorem ggX4_query_X4_resolve : GoodIn wsX4_query wsX4_resolve := goodIn_r _ [41, 42, 43, 44, 45, 46, 47, 48, 49, 50, 51, 52, 53, 54, 8, 55, 56, 57, 58, 59, 60, 61, 62, 63, 64, 65, 66, 67, 68, 69, 70, 71, 72, 73, 74, 75, 76, 77, 78, 79, 80, 81, 82, 83, 84, 85, 86, 87, 88, 89, 90, 91, 92, 93, 94, 95, 96, 97, 98, 99, 100, 101, 102, 103, 104, 105, 106, 107, 108, 109, 110, 111, 112, 113, 114, 115, 116, 117, 118, 119, 120, 121, 122, 123, 124, 125, 126, 127, 128, 129, 130, 171, 172, 173, 174, 175, 176, 158, 159, 160, 161, 162, 163, 164, 165, 166, 167, 168, 169, 170, 177, 178, 179, 180, 181, 182, 183, 184, 185, 186, 187] (by decide +kernel) (by decide +kernel)
set_option maxRecDepth 20000 in
theorem gX4_query_X4_resolve : GoodIn wsX4_query (wsV RX4 118 RX4 yX4_resolve wsX4_resolve) := goodIn_app (goodIn_of _ (by decide +kernel)) ggX4_query_X4_resolve
set_option maxRecDepth 20000 in
theorem ggX4_query_X4_fetchHotAnew : GoodIn wsX4_query wsX4_fetchHotAnew := goodIn_r _ [134, 58, 59, 135, 57, 136, 137, 138, 139, 45, 140, 47, 81, 141, 142, 143, 64, 144, 76, 66, 110, 67, 68, 69, 70, 71, 82, 83, 84, 8, 85, 86, 87, 88, 89, 90, 91, 92, 93, 94, 95, 96, 97, 98, 99, 100, 101, 102, 103, 104, 105, 106, 107, 108, 109, 111, 112, 113, 114, 115, 116, 117, 118, 158, 159, 160, 161, 162, 163, 164, 165, 166, 167, 168, 169, 170, 177, 178, 179, 180, 181, 171, 172, 173, 174, 175, 176, 182, 183, 184, 185, 186, 187] (by decide +kernel) (by decide +kernel)
set_option maxRecDepth 20000 in
theorem gX4_query_X4_fetchHotAnew : GoodIn wsX4_query (wsV RX4 122 RX4 yX4_fetchHotAnew wsX4_fetchHotAnew) := goodIn_app (goodIn_of _ (by decide +kernel)) ggX4_query_X4_fetchHotAnew
set_option maxRecDepth 20000 in
theorem ggX4_query_X4_countQuery : GoodIn wsX4_query wsX4_countQuery := goodIn_r _ [148, 149, 150, 2, 86, 151, 136, 60, 152, 153, 158, 159, 160, 161, 162, 163, 164, 165, 166, 167, 168, 169, 170, 171, 172, 173, 174, 175, 176] (by decide +kernel) (by decide +kernel)
set_option maxRecDepth 20000 in
theorem gX4_query_X4_countQuery : GoodIn wsX4_query (wsV RX4 126 RX4 yX4_countQuery wsX4_countQuery) := goodIn_app (goodIn_of _ (by decide +kernel)) ggX4_query_X4_countQuery
theorem dX4_query_0 : decode cX4_query 0 = .ok (.aload_n 0, 1) := by decide +kernel
theorem dX4_query_1 : decode cX4_query 1 = .ok (.iload_n 1, 1) := by decide +kernel
theorem dX4_query_2 : decode cX4_query 2 = .ok (.iload_n 2, 1) := by decide +kernel
theorem dX4_query_3 : decode cX4_query 3 = .ok (.invokevirtual 111, 3) := by decide +kernel
theorem dX4_query_6 : decode cX4_query 6 = .ok (.astore_n 3, 1) := by decide +kernel
theorem dX4_query_7 : decode cX4_query 7 = .ok (.aload_n 0, 1) := by decide +kernel
theorem dX4_query_8 : decode cX4_query 8 = .ok (.aload_n 3, 1) := by decide +kernel
theorem dX4_query_9 : decode cX4_query 9 = .ok (.getfield 115, 3) := by decide +kernel
theorem dX4_query_12 : decode cX4_query 12 = .ok (.iload_n 2, 1) := by decide +kernel
theorem dX4_query_13 : decode cX4_query 13 = .ok (.aload_n 0, 1) := by decide +kernel
theorem dX4_query_14 : decode cX4_query 14 = .ok (.getfield 25, 3) := by decide +kernel
theorem dX4_query_17 : decode cX4_query 17 = .ok (.invokevirtual 118, 3) := by decide +kernel
theorem dX4_query_20 : decode cX4_query 20 = .ok (.istore 4, 2) := by decide +kernel
theorem dX4_query_22 : decode cX4_query 22 = .ok (.aload_n 0, 1) := by decide +kernel
theorem dX4_query_23 : decode cX4_query 23 = .ok (.aload_n 3, 1) := by decide +kernel
theorem dX4_query_24 : decode cX4_query 24 = .ok (.getfield 115, 3) := by decide +kernel
theorem dX4_query_27 : decode cX4_query 27 = .ok (.aload_n 0, 1) := by decide +kernel
theorem dX4_query_28 : decode cX4_query 28 = .ok (.getfield 25, 3) := by decide +kernel
theorem dX4_query_31 : decode cX4_query 31 = .ok (.invokevirtual 122, 3) := by decide +kernel
theorem dX4_query_34 : decode cX4_query 34 = .ok (.aload_n 0, 1) := by decide +kernel
theorem dX4_query_35 : decode cX4_query 35 = .ok (.aload_n 3, 1) := by decide +kernel
theorem dX4_query_36 : decode cX4_query 36 = .ok (.getfield 97, 3) := by decide +kernel
theorem dX4_query_39 : decode cX4_query 39 = .ok (.putfield 29, 3) := by decide +kernel
theorem dX4_query_42 : decode cX4_query 42 = .ok (.aload_n 0, 1) := by decide +kernel
theorem dX4_query_43 : decode cX4_query 43 = .ok (.iload 4, 2) := by decide +kernel
theorem dX4_query_45 : decode cX4_query 45 = .ok (.invokevirtual 126, 3) := by decide +kernel
theorem dX4_query_48 : decode cX4_query 48 = .ok (.iload 4, 2) := by decide +kernel
theorem dX4_query_50 : decode cX4_query 50 = .ok (.ireturn, 1) := by decide +kernel
set_option maxRecDepth 20000 in
theorem ggX4_wouldAnswer_X4_siteAsked : GoodIn wsX4_wouldAnswer wsX4_siteAsked := goodIn_ca (goodIn_ca (goodIn_ca (goodIn_r _ [8, 9, 10, 11, 12, 7, 13, 14, 15, 16, 17, 18, 19, 20, 21, 22, 23, 24, 25, 26, 27, 28, 29, 30, 31, 32, 33, 34, 35, 36, 138, 139, 140, 141, 142, 143, 144, 145, 146, 147, 148, 149, 150, 151, 152, 153, 154] (by decide +kernel) (by decide +kernel)) (goodIn_sub (fun _ h => List.mem_cons_of_mem _ (List.mem_append_left _ (List.mem_append_left _ (List.mem_append_right _ h)))) (by decide +kernel))) (goodIn_sub (fun _ h => List.mem_cons_of_mem _ (List.mem_append_left _ (List.mem_append_right _ h))) (by decide +kernel))) (goodIn_sub (fun _ h => List.mem_cons_of_mem _ (List.mem_append_right _ h)) (by decide +kernel))
set_option maxRecDepth 20000 in
theorem gX4_wouldAnswer_X4_siteAsked : GoodIn wsX4_wouldAnswer (wsV RX4 111 RX4 yX4_siteAsked wsX4_siteAsked) := goodIn_app (goodIn_of _ (by decide +kernel)) ggX4_wouldAnswer_X4_siteAsked
set_option maxRecDepth 20000 in
theorem ggX4_wouldAnswer_X0_copyFrom : GoodIn wsX4_wouldAnswer wsX0_copyFrom := goodIn_r _ [41, 42, 43, 44, 45, 46, 47, 48, 49, 50, 51, 155, 156, 157, 158, 159, 160] (by decide +kernel) (by decide +kernel)
set_option maxRecDepth 20000 in
theorem gX4_wouldAnswer_X0_copyFrom : GoodIn wsX4_wouldAnswer (wsV RX4 129 RX0 yX0_copyFrom wsX0_copyFrom) := goodIn_app (goodIn_of _ (by decide +kernel)) ggX4_wouldAnswer_X0_copyFrom
set_option maxRecDepth 20000 in
theorem ggX4_wouldAnswer_X4_resolve : GoodIn wsX4_wouldAnswer wsX4_resolve := goodIn_r _ [55, 56, 57, 58, 59, 60, 61, 62, 63, 64, 65, 66, 67, 68, 7, 69, 70, 71, 72, 73, 74, 75, 76, 77, 40, 78, 49, 79, 80, 81, 82, 42, 83, 84, 85, 86, 50, 87, 88, 89, 90, 91, 92, 93, 94, 95, 96, 97, 98, 99, 100, 101, 102, 103, 104, 105, 106, 107, 108, 109, 110, 111, 112, 113, 114, 115, 116, 117, 51, 47, 48, 118, 119, 120, 121, 122, 123, 124, 125, 126, 127, 128, 129, 130, 131, 132, 133, 134, 135, 136, 137, 161, 162, 163, 164, 165, 166, 138, 139, 140, 141, 142, 143, 144, 145, 146, 147, 148, 149, 150, 167, 168, 169, 170, 171, 155, 156, 157, 158, 159, 160] (by decide +kernel) (by decide +kernel)
set_option maxRecDepth 20000 in
theorem gX4_wouldAnswer_X4_resolve : GoodIn wsX4_wouldAnswer (wsV RX4 118 RX4 yX4_resolve wsX4_resolve) := goodIn_app (goodIn_of _ (by decide +kernel)) ggX4_wouldAnswer_X4_resolve
theorem dX4_wouldAnswer_0 : decode cX4_wouldAnswer 0 = .ok (.aload_n 0, 1) := by decide +kernel
theorem dX4_wouldAnswer_1 : decode cX4_wouldAnswer 1 = .ok (.iload_n 1, 1) := by decide +kernel
theorem dX4_wouldAnswer_2 : decode cX4_wouldAnswer 2 = .ok (.iload_n 2, 1) := by decide +kernel
theorem dX4_wouldAnswer_3 : decode cX4_wouldAnswer 3 = .ok (.invokevirtual 111, 3) := by decide +kernel
theorem dX4_wouldAnswer_6 : decode cX4_wouldAnswer 6 = .ok (.astore_n 3, 1) := by decide +kernel
theorem dX4_wouldAnswer_7 : decode cX4_wouldAnswer 7 = .ok (.aload_n 0, 1) := by decide +kernel
theorem dX4_wouldAnswer_8 : decode cX4_wouldAnswer 8 = .ok (.getfield 39, 3) := by decide +kernel
theorem dX4_wouldAnswer_11 : decode cX4_wouldAnswer 11 = .ok (.aload_n 3, 1) := by decide +kernel
theorem dX4_wouldAnswer_12 : decode cX4_wouldAnswer 12 = .ok (.getfield 115, 3) := by decide +kernel
theorem dX4_wouldAnswer_15 : decode cX4_wouldAnswer 15 = .ok (.invokevirtual 129, 3) := by decide +kernel
theorem dX4_wouldAnswer_18 : decode cX4_wouldAnswer 18 = .ok (.aload_n 0, 1) := by decide +kernel
theorem dX4_wouldAnswer_19 : decode cX4_wouldAnswer 19 = .ok (.aload_n 0, 1) := by decide +kernel
theorem dX4_wouldAnswer_20 : decode cX4_wouldAnswer 20 = .ok (.getfield 39, 3) := by decide +kernel
theorem dX4_wouldAnswer_23 : decode cX4_wouldAnswer 23 = .ok (.iload_n 2, 1) := by decide +kernel
theorem dX4_wouldAnswer_24 : decode cX4_wouldAnswer 24 = .ok (.aload_n 0, 1) := by decide +kernel
theorem dX4_wouldAnswer_25 : decode cX4_wouldAnswer 25 = .ok (.getfield 33, 3) := by decide +kernel
theorem dX4_wouldAnswer_28 : decode cX4_wouldAnswer 28 = .ok (.invokevirtual 118, 3) := by decide +kernel
theorem dX4_wouldAnswer_31 : decode cX4_wouldAnswer 31 = .ok (.ireturn, 1) := by decide +kernel
theorem dX4_lastSite_0 : decode cX4_lastSite 0 = .ok (.aload_n 0, 1) := by decide +kernel
theorem dX4_lastSite_1 : decode cX4_lastSite 1 = .ok (.getfield 29, 3) := by decide +kernel
theorem dX4_lastSite_4 : decode cX4_lastSite 4 = .ok (.ireturn, 1) := by decide +kernel
theorem dX4_lastWasStale_0 : decode cX4_lastWasStale 0 = .ok (.aload_n 0, 1) := by decide +kernel
theorem dX4_lastWasStale_1 : decode cX4_lastWasStale 1 = .ok (.getfield 25, 3) := by decide +kernel
theorem dX4_lastWasStale_4 : decode cX4_lastWasStale 4 = .ok (.getfield 133, 3) := by decide +kernel
theorem dX4_lastWasStale_7 : decode cX4_lastWasStale 7 = .ok (.ireturn, 1) := by decide +kernel
theorem dX4_lastLookUps_0 : decode cX4_lastLookUps 0 = .ok (.aload_n 0, 1) := by decide +kernel
theorem dX4_lastLookUps_1 : decode cX4_lastLookUps 1 = .ok (.getfield 25, 3) := by decide +kernel
theorem dX4_lastLookUps_4 : decode cX4_lastLookUps 4 = .ok (.getfield 136, 3) := by decide +kernel
theorem dX4_lastLookUps_7 : decode cX4_lastLookUps 7 = .ok (.ireturn, 1) := by decide +kernel
theorem dX4_lastFetches_0 : decode cX4_lastFetches 0 = .ok (.aload_n 0, 1) := by decide +kernel
theorem dX4_lastFetches_1 : decode cX4_lastFetches 1 = .ok (.getfield 25, 3) := by decide +kernel
theorem dX4_lastFetches_4 : decode cX4_lastFetches 4 = .ok (.getfield 139, 3) := by decide +kernel
theorem dX4_lastFetches_7 : decode cX4_lastFetches 7 = .ok (.ireturn, 1) := by decide +kernel
set_option maxRecDepth 20000 in
theorem ggX4_entries_X4_siteNumbered : GoodIn wsX4_entries wsX4_siteNumbered := goodIn_ca (goodIn_r _ [7, 8, 9, 10, 21, 22, 23, 24, 25, 26, 27, 28, 29, 30, 31, 32, 33] (by decide +kernel) (by decide +kernel)) (goodIn_sub (fun _ h => List.mem_cons_of_mem _ (List.mem_append_right _ h)) (by decide +kernel))
set_option maxRecDepth 20000 in
theorem gX4_entries_X4_siteNumbered : GoodIn wsX4_entries (wsV RX4 87 RX4 yX4_siteNumbered wsX4_siteNumbered) := goodIn_app (goodIn_of _ (by decide +kernel)) ggX4_entries_X4_siteNumbered
theorem dX4_entries_0 : decode cX4_entries 0 = .ok (.aload_n 0, 1) := by decide +kernel
theorem dX4_entries_1 : decode cX4_entries 1 = .ok (.iload_n 1, 1) := by decide +kernel
theorem dX4_entries_2 : decode cX4_entries 2 = .ok (.invokevirtual 87, 3) := by decide +kernel
theorem dX4_entries_5 : decode cX4_entries 5 = .ok (.getfield 115, 3) := by decide +kernel
theorem dX4_entries_8 : decode cX4_entries 8 = .ok (.getfield 142, 3) := by decide +kernel
theorem dX4_entries_11 : decode cX4_entries 11 = .ok (.ireturn, 1) := by decide +kernel
set_option maxRecDepth 20000 in
theorem ggX4_cachedKind_X4_cacheAsked : GoodIn wsX4_cachedKind wsX4_cacheAsked := goodIn_ca (goodIn_r _ [5, 6, 7, 8, 9, 4, 10, 11, 12, 13, 14, 15, 16, 27, 28, 29, 30, 31, 32, 33, 34, 35, 36, 37, 38, 39, 40, 41, 42, 43] (by decide +kernel) (by decide +kernel)) (goodIn_sub (fun _ h => List.mem_cons_of_mem _ (List.mem_append_right _ h)) (by decide +kernel))
set_option maxRecDepth 20000 in
theorem gX4_cachedKind_X4_cacheAsked : GoodIn wsX4_cachedKind (wsV RX4 100 RX4 yX4_cacheAsked wsX4_cacheAsked) := goodIn_app (goodIn_of _ (by decide +kernel)) ggX4_cachedKind_X4_cacheAsked
set_option maxRecDepth 20000 in
theorem ggX4_cachedKind_X0_kindOf : GoodIn wsX4_cachedKind wsX0_kindOf := goodIn_r _ [21, 22, 23, 24, 25, 20, 26, 44, 45, 46, 47, 48, 49] (by decide +kernel) (by decide +kernel)
set_option maxRecDepth 20000 in
theorem gX4_cachedKind_X0_kindOf : GoodIn wsX4_cachedKind (wsV RX4 145 RX0 yX0_kindOf wsX0_kindOf) := goodIn_app (goodIn_of _ (by decide +kernel)) ggX4_cachedKind_X0_kindOf
theorem dX4_cachedKind_0 : decode cX4_cachedKind 0 = .ok (.aload_n 0, 1) := by decide +kernel
theorem dX4_cachedKind_1 : decode cX4_cachedKind 1 = .ok (.iload_n 1, 1) := by decide +kernel
theorem dX4_cachedKind_2 : decode cX4_cachedKind 2 = .ok (.iload_n 2, 1) := by decide +kernel
theorem dX4_cachedKind_3 : decode cX4_cachedKind 3 = .ok (.invokevirtual 100, 3) := by decide +kernel
theorem dX4_cachedKind_6 : decode cX4_cachedKind 6 = .ok (.iload_n 2, 1) := by decide +kernel
theorem dX4_cachedKind_7 : decode cX4_cachedKind 7 = .ok (.invokevirtual 145, 3) := by decide +kernel
theorem dX4_cachedKind_10 : decode cX4_cachedKind 10 = .ok (.ireturn, 1) := by decide +kernel
set_option maxRecDepth 20000 in
theorem ggX4_cachedValue_X4_cacheAsked : GoodIn wsX4_cachedValue wsX4_cacheAsked := goodIn_ca (goodIn_r _ [5, 6, 7, 8, 9, 4, 10, 11, 12, 13, 14, 15, 16, 28, 29, 30, 31, 32, 33, 34, 35, 36, 37, 38, 39, 40, 41, 42, 43, 44] (by decide +kernel) (by decide +kernel)) (goodIn_sub (fun _ h => List.mem_cons_of_mem _ (List.mem_append_right _ h)) (by decide +kernel))
set_option maxRecDepth 20000 in
theorem gX4_cachedValue_X4_cacheAsked : GoodIn wsX4_cachedValue (wsV RX4 100 RX4 yX4_cacheAsked wsX4_cacheAsked) := goodIn_app (goodIn_of _ (by decide +kernel)) ggX4_cachedValue_X4_cacheAsked
set_option maxRecDepth 20000 in
theorem ggX4_cachedValue_X0_valueOf : GoodIn wsX4_cachedValue wsX0_valueOf := goodIn_r _ [21, 22, 23, 24, 25, 20, 26, 27, 45, 46, 47, 48, 49, 50] (by decide +kernel) (by decide +kernel)
set_option maxRecDepth 20000 in
theorem gX4_cachedValue_X0_valueOf : GoodIn wsX4_cachedValue (wsV RX4 146 RX0 yX0_valueOf wsX0_valueOf) := goodIn_app (goodIn_of _ (by decide +kernel)) ggX4_cachedValue_X0_valueOf
theorem dX4_cachedValue_0 : decode cX4_cachedValue 0 = .ok (.aload_n 0, 1) := by decide +kernel
theorem dX4_cachedValue_1 : decode cX4_cachedValue 1 = .ok (.iload_n 1, 1) := by decide +kernel
theorem dX4_cachedValue_2 : decode cX4_cachedValue 2 = .ok (.iload_n 2, 1) := by decide +kernel
theorem dX4_cachedValue_3 : decode cX4_cachedValue 3 = .ok (.invokevirtual 100, 3) := by decide +kernel
theorem dX4_cachedValue_6 : decode cX4_cachedValue 6 = .ok (.iload_n 2, 1) := by decide +kernel
theorem dX4_cachedValue_7 : decode cX4_cachedValue 7 = .ok (.invokevirtual 146, 3) := by decide +kernel
theorem dX4_cachedValue_10 : decode cX4_cachedValue 10 = .ok (.ireturn, 1) := by decide +kernel
set_option maxRecDepth 20000 in
theorem ggX4_left_X4_cacheAsked : GoodIn wsX4_left wsX4_cacheAsked := goodIn_ca (goodIn_r _ [8, 9, 10, 11, 12, 7, 13, 14, 15, 16, 17, 18, 19, 45, 46, 47, 48, 32, 33, 34, 35, 36, 37, 38, 39, 40, 41, 42, 43, 44] (by decide +kernel) (by decide +kernel)) (goodIn_sub (fun _ h => List.mem_cons_of_mem _ (List.mem_append_right _ h)) (by decide +kernel))
set_option maxRecDepth 20000 in
theorem gX4_left_X4_cacheAsked : GoodIn wsX4_left (wsV RX4 100 RX4 yX4_cacheAsked wsX4_cacheAsked) := goodIn_app (goodIn_of _ (by decide +kernel)) ggX4_left_X4_cacheAsked
set_option maxRecDepth 20000 in
theorem ggX4_left_X0_has : GoodIn wsX4_left wsX0_has := goodIn_r _ [24, 25, 49, 50, 51, 52, 53, 54] (by decide +kernel) (by decide +kernel)
set_option maxRecDepth 20000 in
theorem gX4_left_X0_has : GoodIn wsX4_left (wsV RX4 147 RX0 yX0_has wsX0_has) := goodIn_app (goodIn_of _ (by decide +kernel)) ggX4_left_X0_has
set_option maxRecDepth 20000 in
theorem ggX4_left_X0_endOf : GoodIn wsX4_left wsX0_endOf := goodIn_r _ [29, 30, 31, 21, 22, 23, 24, 25, 49, 50, 51, 52, 53, 54] (by decide +kernel) (by decide +kernel)
set_option maxRecDepth 20000 in
theorem gX4_left_X0_endOf : GoodIn wsX4_left (wsV RX4 152 RX0 yX0_endOf wsX0_endOf) := goodIn_app (goodIn_of _ (by decide +kernel)) ggX4_left_X0_endOf
theorem dX4_left_0 : decode cX4_left 0 = .ok (.aload_n 0, 1) := by decide +kernel
theorem dX4_left_1 : decode cX4_left 1 = .ok (.iload_n 1, 1) := by decide +kernel
theorem dX4_left_2 : decode cX4_left 2 = .ok (.iload_n 2, 1) := by decide +kernel
theorem dX4_left_3 : decode cX4_left 3 = .ok (.invokevirtual 100, 3) := by decide +kernel
theorem dX4_left_6 : decode cX4_left 6 = .ok (.astore_n 3, 1) := by decide +kernel
theorem dX4_left_7 : decode cX4_left 7 = .ok (.aload_n 3, 1) := by decide +kernel
theorem dX4_left_8 : decode cX4_left 8 = .ok (.iload_n 2, 1) := by decide +kernel
theorem dX4_left_9 : decode cX4_left 9 = .ok (.invokevirtual 147, 3) := by decide +kernel
theorem dX4_left_12 : decode cX4_left 12 = .ok (.ifCond .ne 13, 3) := by decide +kernel
theorem dX4_left_15 : decode cX4_left 15 = .ok (.new 79, 3) := by decide +kernel
theorem dX4_left_18 : decode cX4_left 18 = .ok (.dup, 1) := by decide +kernel
theorem dX4_left_19 : decode cX4_left 19 = .ok (.ldc 150, 2) := by decide +kernel
theorem dX4_left_21 : decode cX4_left 21 = .ok (.invokespecial 83, 3) := by decide +kernel
theorem dX4_left_24 : decode cX4_left 24 = .ok (.athrow, 1) := by decide +kernel
theorem dX4_left_25 : decode cX4_left 25 = .ok (.aload_n 3, 1) := by decide +kernel
theorem dX4_left_26 : decode cX4_left 26 = .ok (.iload_n 2, 1) := by decide +kernel
theorem dX4_left_27 : decode cX4_left 27 = .ok (.invokevirtual 152, 3) := by decide +kernel
theorem dX4_left_30 : decode cX4_left 30 = .ok (.aload_n 0, 1) := by decide +kernel
theorem dX4_left_31 : decode cX4_left 31 = .ok (.getfield 108, 3) := by decide +kernel
theorem dX4_left_34 : decode cX4_left 34 = .ok (.isub, 1) := by decide +kernel
theorem dX4_left_35 : decode cX4_left 35 = .ok (.ireturn, 1) := by decide +kernel
set_option maxRecDepth 20000 in
theorem ggX4_hitsOf_X4_cacheAsked : GoodIn wsX4_hitsOf wsX4_cacheAsked := goodIn_ca (goodIn_r _ [5, 6, 7, 8, 9, 4, 10, 11, 12, 13, 14, 15, 16, 28, 29, 30, 31, 32, 33, 34, 35, 36, 37, 38, 39, 40, 41, 42, 43, 44] (by decide +kernel) (by decide +kernel)) (goodIn_sub (fun _ h => List.mem_cons_of_mem _ (List.mem_append_right _ h)) (by decide +kernel))
set_option maxRecDepth 20000 in
theorem gX4_hitsOf_X4_cacheAsked : GoodIn wsX4_hitsOf (wsV RX4 100 RX4 yX4_cacheAsked wsX4_cacheAsked) := goodIn_app (goodIn_of _ (by decide +kernel)) ggX4_hitsOf_X4_cacheAsked
set_option maxRecDepth 20000 in
theorem ggX4_hitsOf_X0_hitsFor : GoodIn wsX4_hitsOf wsX0_hitsFor := goodIn_r _ [21, 22, 23, 24, 25, 20, 26, 27, 45, 46, 47, 48, 49, 50] (by decide +kernel) (by decide +kernel)
set_option maxRecDepth 20000 in
theorem gX4_hitsOf_X0_hitsFor : GoodIn wsX4_hitsOf (wsV RX4 155 RX0 yX0_hitsFor wsX0_hitsFor) := goodIn_app (goodIn_of _ (by decide +kernel)) ggX4_hitsOf_X0_hitsFor
theorem dX4_hitsOf_0 : decode cX4_hitsOf 0 = .ok (.aload_n 0, 1) := by decide +kernel
theorem dX4_hitsOf_1 : decode cX4_hitsOf 1 = .ok (.iload_n 1, 1) := by decide +kernel
theorem dX4_hitsOf_2 : decode cX4_hitsOf 2 = .ok (.iload_n 2, 1) := by decide +kernel
theorem dX4_hitsOf_3 : decode cX4_hitsOf 3 = .ok (.invokevirtual 100, 3) := by decide +kernel
theorem dX4_hitsOf_6 : decode cX4_hitsOf 6 = .ok (.iload_n 2, 1) := by decide +kernel
theorem dX4_hitsOf_7 : decode cX4_hitsOf 7 = .ok (.invokevirtual 155, 3) := by decide +kernel
theorem dX4_hitsOf_10 : decode cX4_hitsOf 10 = .ok (.ireturn, 1) := by decide +kernel
theorem dX4_queries_0 : decode cX4_queries 0 = .ok (.aload_n 0, 1) := by decide +kernel
theorem dX4_queries_1 : decode cX4_queries 1 = .ok (.getfield 158, 3) := by decide +kernel
theorem dX4_queries_4 : decode cX4_queries 4 = .ok (.ireturn, 1) := by decide +kernel
theorem dX4_fetches_0 : decode cX4_fetches 0 = .ok (.aload_n 0, 1) := by decide +kernel
theorem dX4_fetches_1 : decode cX4_fetches 1 = .ok (.getfield 161, 3) := by decide +kernel
theorem dX4_fetches_4 : decode cX4_fetches 4 = .ok (.ireturn, 1) := by decide +kernel
theorem dX4_prefetches_0 : decode cX4_prefetches 0 = .ok (.aload_n 0, 1) := by decide +kernel
theorem dX4_prefetches_1 : decode cX4_prefetches 1 = .ok (.getfield 164, 3) := by decide +kernel
theorem dX4_prefetches_4 : decode cX4_prefetches 4 = .ok (.ireturn, 1) := by decide +kernel
theorem dX4_staleAnswers_0 : decode cX4_staleAnswers 0 = .ok (.aload_n 0, 1) := by decide +kernel
theorem dX4_staleAnswers_1 : decode cX4_staleAnswers 1 = .ok (.getfield 167, 3) := by decide +kernel
theorem dX4_staleAnswers_4 : decode cX4_staleAnswers 4 = .ok (.ireturn, 1) := by decide +kernel
theorem dX4_failures_0 : decode cX4_failures 0 = .ok (.aload_n 0, 1) := by decide +kernel
theorem dX4_failures_1 : decode cX4_failures 1 = .ok (.getfield 170, 3) := by decide +kernel
theorem dX4_failures_4 : decode cX4_failures 4 = .ok (.ireturn, 1) := by decide +kernel
set_option maxRecDepth 20000 in
theorem ggX4_resolve_X1_begin : GoodIn wsX4_resolve wsX1_begin := goodIn_r _ [5, 6, 7, 8, 9, 10, 91, 92, 93, 94, 95, 96] (by decide +kernel) (by decide +kernel)
set_option maxRecDepth 20000 in
theorem gX4_resolve_X1_begin : GoodIn wsX4_resolve (wsV RX4 173 RX1 yX1_begin wsX1_begin) := goodIn_app (goodIn_of _ (by decide +kernel)) ggX4_resolve_X1_begin
set_option maxRecDepth 20000 in
theorem ggX4_resolve_X4_lookUp : GoodIn wsX4_resolve wsX4_lookUp := goodIn_r _ [15, 16, 17, 18, 19, 20, 21, 22, 23, 24, 25, 26, 27, 28, 29, 30, 31, 32, 33, 34, 35, 36, 37, 38, 39, 4, 40, 6, 41, 42, 43, 44, 14, 45, 46, 47, 48, 49, 50, 51, 52, 53, 54, 55, 56, 57, 58, 59, 60, 61, 62, 63, 64, 65, 66, 67, 68, 69, 70, 71, 72, 73, 74, 75, 76, 77, 78, 79, 80, 81, 82, 91, 92, 93, 94, 95, 96, 97, 98, 99, 100, 101, 102, 103, 104, 105, 106, 107, 108, 109, 110, 111, 112, 113, 114, 115, 116, 117, 118, 119, 120] (by decide +kernel) (by decide +kernel)
set_option maxRecDepth 20000 in
theorem gX4_resolve_X4_lookUp : GoodIn wsX4_resolve (wsV RX4 176 RX4 yX4_lookUp wsX4_lookUp) := goodIn_app (goodIn_of _ (by decide +kernel)) ggX4_resolve_X4_lookUp
set_option maxRecDepth 20000 in
theorem ggX4_resolve_X0_kindOf : GoodIn wsX4_resolve wsX0_kindOf := goodIn_r _ [86, 31, 27, 28, 29, 24, 30, 115, 116, 117, 118, 119, 120] (by decide +kernel) (by decide +kernel)
set_option maxRecDepth 20000 in
theorem gX4_resolve_X0_kindOf : GoodIn wsX4_resolve (wsV RX4 145 RX0 yX0_kindOf wsX0_kindOf) := goodIn_app (goodIn_of _ (by decide +kernel)) ggX4_resolve_X0_kindOf
set_option maxRecDepth 20000 in
theorem ggX4_resolve_X0_valueOf : GoodIn wsX4_resolve wsX0_valueOf := goodIn_r _ [90, 69, 27, 28, 29, 24, 30, 31, 115, 116, 117, 118, 119, 120] (by decide +kernel) (by decide +kernel)
set_option maxRecDepth 20000 in
theorem gX4_resolve_X0_valueOf : GoodIn wsX4_resolve (wsV RX4 146 RX0 yX0_valueOf wsX0_valueOf) := goodIn_app (goodIn_of _ (by decide +kernel)) ggX4_resolve_X0_valueOf
theorem dX4_resolve_0 : decode cX4_resolve 0 = .ok (.aload_n 3, 1) := by decide +kernel
theorem dX4_resolve_1 : decode cX4_resolve 1 = .ok (.invokevirtual 173, 3) := by decide +kernel
theorem dX4_resolve_4 : decode cX4_resolve 4 = .ok (.iload_n 2, 1) := by decide +kernel
theorem dX4_resolve_5 : decode cX4_resolve 5 = .ok (.istore 4, 2) := by decide +kernel
theorem dX4_resolve_7 : decode cX4_resolve 7 = .ok (.iconst 0, 1) := by decide +kernel
theorem dX4_resolve_8 : decode cX4_resolve 8 = .ok (.istore 5, 2) := by decide +kernel
theorem dX4_resolve_10 : decode cX4_resolve 10 = .ok (.iload 5, 2) := by decide +kernel
theorem dX4_resolve_12 : decode cX4_resolve 12 = .ok (.iconst 4, 1) := by decide +kernel
theorem dX4_resolve_13 : decode cX4_resolve 13 = .ok (.if_icmp .gt 61, 3) := by decide +kernel
theorem dX4_resolve_16 : decode cX4_resolve 16 = .ok (.aload_n 0, 1) := by decide +kernel
theorem dX4_resolve_17 : decode cX4_resolve 17 = .ok (.aload_n 1, 1) := by decide +kernel
theorem dX4_resolve_18 : decode cX4_resolve 18 = .ok (.iload 4, 2) := by decide +kernel
theorem dX4_resolve_20 : decode cX4_resolve 20 = .ok (.aload_n 3, 1) := by decide +kernel
theorem dX4_resolve_21 : decode cX4_resolve 21 = .ok (.invokevirtual 176, 3) := by decide +kernel
theorem dX4_resolve_24 : decode cX4_resolve 24 = .ok (.ifCond .ne 6, 3) := by decide +kernel
theorem dX4_resolve_27 : decode cX4_resolve 27 = .ok (.bipush (-2), 2) := by decide +kernel
theorem dX4_resolve_29 : decode cX4_resolve 29 = .ok (.ireturn, 1) := by decide +kernel
theorem dX4_resolve_30 : decode cX4_resolve 30 = .ok (.aload_n 1, 1) := by decide +kernel
theorem dX4_resolve_31 : decode cX4_resolve 31 = .ok (.iload 4, 2) := by decide +kernel
theorem dX4_resolve_33 : decode cX4_resolve 33 = .ok (.invokevirtual 145, 3) := by decide +kernel
theorem dX4_resolve_36 : decode cX4_resolve 36 = .ok (.istore 6, 2) := by decide +kernel
theorem dX4_resolve_38 : decode cX4_resolve 38 = .ok (.aload_n 1, 1) := by decide +kernel
theorem dX4_resolve_39 : decode cX4_resolve 39 = .ok (.iload 4, 2) := by decide +kernel
theorem dX4_resolve_41 : decode cX4_resolve 41 = .ok (.invokevirtual 146, 3) := by decide +kernel
theorem dX4_resolve_44 : decode cX4_resolve 44 = .ok (.istore 7, 2) := by decide +kernel
theorem dX4_resolve_46 : decode cX4_resolve 46 = .ok (.iload 6, 2) := by decide +kernel
theorem dX4_resolve_48 : decode cX4_resolve 48 = .ok (.iconst 1, 1) := by decide +kernel
theorem dX4_resolve_49 : decode cX4_resolve 49 = .ok (.if_icmp .eq 15, 3) := by decide +kernel
theorem dX4_resolve_52 : decode cX4_resolve 52 = .ok (.iload 6, 2) := by decide +kernel
theorem dX4_resolve_54 : decode cX4_resolve 54 = .ok (.ifCond .ne 8, 3) := by decide +kernel
theorem dX4_resolve_57 : decode cX4_resolve 57 = .ok (.iload 7, 2) := by decide +kernel
theorem dX4_resolve_59 : decode cX4_resolve 59 = .ok (.goto 4, 3) := by decide +kernel
theorem dX4_resolve_62 : decode cX4_resolve 62 = .ok (.iconst (-1), 1) := by decide +kernel
theorem dX4_resolve_63 : decode cX4_resolve 63 = .ok (.ireturn, 1) := by decide +kernel
theorem dX4_resolve_64 : decode cX4_resolve 64 = .ok (.iload 7, 2) := by decide +kernel
theorem dX4_resolve_66 : decode cX4_resolve 66 = .ok (.istore 4, 2) := by decide +kernel
theorem dX4_resolve_68 : decode cX4_resolve 68 = .ok (.iinc 5 1, 3) := by decide +kernel
theorem dX4_resolve_71 : decode cX4_resolve 71 = .ok (.goto (-61), 3) := by decide +kernel
theorem dX4_resolve_74 : decode cX4_resolve 74 = .ok (.bipush (-2), 2) := by decide +kernel
theorem dX4_resolve_76 : decode cX4_resolve 76 = .ok (.ireturn, 1) := by decide +kernel
set_option maxRecDepth 20000 in
theorem ggX4_lookUp_X0_isFresh : GoodIn wsX4_lookUp wsX0_isFresh := goodIn_r _ [10, 11, 12, 13, 14, 9, 15, 16, 95, 96, 97, 98, 99, 100] (by decide +kernel) (by decide +kernel)
set_option maxRecDepth 20000 in
theorem gX4_lookUp_X0_isFresh : GoodIn wsX4_lookUp (wsV RX4 180 RX0 yX0_isFresh wsX0_isFresh) := goodIn_app (goodIn_of _ (by decide +kernel)) ggX4_lookUp_X0_isFresh
set_option maxRecDepth 20000 in
theorem ggX4_lookUp_X0_countHit : GoodIn wsX4_lookUp wsX0_countHit := goodIn_r _ [20, 21, 12, 13, 14, 9, 15, 16, 95, 96, 97, 98, 99, 100] (by decide +kernel) (by decide +kernel)
set_option maxRecDepth 20000 in
theorem gX4_lookUp_X0_countHit : GoodIn wsX4_lookUp (wsV RX4 184 RX0 yX0_countHit wsX0_countHit) := goodIn_app (goodIn_of _ (by decide +kernel)) ggX4_lookUp_X0_countHit
set_option maxRecDepth 20000 in
theorem ggX4_lookUp_X1_noteFresh : GoodIn wsX4_lookUp wsX1_noteFresh := goodIn_r _ [26, 27, 28, 71, 72, 73, 74, 75, 76] (by decide +kernel) (by decide +kernel)
set_option maxRecDepth 20000 in
theorem gX4_lookUp_X1_noteFresh : GoodIn wsX4_lookUp (wsV RX4 187 RX1 yX1_noteFresh wsX1_noteFresh) := goodIn_app (goodIn_of _ (by decide +kernel)) ggX4_lookUp_X1_noteFresh
set_option maxRecDepth 20000 in
theorem ggX4_lookUp_X4_fetch : GoodIn wsX4_lookUp wsX4_fetch := goodIn_r _ [33, 3, 2, 34, 35, 36, 37, 38, 39, 40, 41, 42, 43, 44, 45, 46, 47, 48, 49, 50, 51, 52, 53, 54, 9, 55, 16, 56, 57, 58, 11, 21, 59, 60, 61, 62, 63, 64, 65, 66, 12, 13, 14, 15, 77, 78, 79, 80, 81, 82, 83, 84, 85, 86, 87, 88, 89, 71, 72, 73, 74, 75, 76, 90, 91, 92, 93, 94, 95, 96, 97, 98, 99, 100] (by decide +kernel) (by decide +kernel)
set_option maxRecDepth 20000 in
theorem gX4_lookUp_X4_fetch : GoodIn wsX4_lookUp (wsV RX4 190 RX4 yX4_fetch wsX4_fetch) := goodIn_app (goodIn_of _ (by decide +kernel)) ggX4_lookUp_X4_fetch
set_option maxRecDepth 20000 in
theorem ggX4_lookUp_X0_servesStale : GoodIn wsX4_lookUp wsX0_servesStale := goodIn_r _ [70, 11, 12, 13, 14, 9, 15, 16, 95, 96, 97, 98, 99, 100] (by decide +kernel) (by decide +kernel)
set_option maxRecDepth 20000 in
theorem gX4_lookUp_X0_servesStale : GoodIn wsX4_lookUp (wsV RX4 194 RX0 yX0_servesStale wsX0_servesStale) := goodIn_app (goodIn_of _ (by decide +kernel)) ggX4_lookUp_X0_servesStale
theorem dX4_lookUp_0 : decode cX4_lookUp 0 = .ok (.aload_n 3, 1) := by decide +kernel
theorem dX4_lookUp_1 : decode cX4_lookUp 1 = .ok (.dup, 1) := by decide +kernel
theorem dX4_lookUp_2 : decode cX4_lookUp 2 = .ok (.getfield 136, 3) := by decide +kernel
theorem dX4_lookUp_5 : decode cX4_lookUp 5 = .ok (.iconst 1, 1) := by decide +kernel
theorem dX4_lookUp_6 : decode cX4_lookUp 6 = .ok (.iadd, 1) := by decide +kernel
theorem dX4_lookUp_7 : decode cX4_lookUp 7 = .ok (.putfield 136, 3) := by decide +kernel
theorem dX4_lookUp_10 : decode cX4_lookUp 10 = .ok (.aload_n 1, 1) := by decide +kernel
theorem dX4_lookUp_11 : decode cX4_lookUp 11 = .ok (.iload_n 2, 1) := by decide +kernel
theorem dX4_lookUp_12 : decode cX4_lookUp 12 = .ok (.aload_n 0, 1) := by decide +kernel
theorem dX4_lookUp_13 : decode cX4_lookUp 13 = .ok (.getfield 108, 3) := by decide +kernel
theorem dX4_lookUp_16 : decode cX4_lookUp 16 = .ok (.invokevirtual 180, 3) := by decide +kernel
theorem dX4_lookUp_19 : decode cX4_lookUp 19 = .ok (.ifCond .eq 15, 3) := by decide +kernel
theorem dX4_lookUp_22 : decode cX4_lookUp 22 = .ok (.aload_n 1, 1) := by decide +kernel
theorem dX4_lookUp_23 : decode cX4_lookUp 23 = .ok (.iload_n 2, 1) := by decide +kernel
theorem dX4_lookUp_24 : decode cX4_lookUp 24 = .ok (.invokevirtual 184, 3) := by decide +kernel
theorem dX4_lookUp_27 : decode cX4_lookUp 27 = .ok (.aload_n 3, 1) := by decide +kernel
theorem dX4_lookUp_28 : decode cX4_lookUp 28 = .ok (.iload_n 2, 1) := by decide +kernel
theorem dX4_lookUp_29 : decode cX4_lookUp 29 = .ok (.invokevirtual 187, 3) := by decide +kernel
theorem dX4_lookUp_32 : decode cX4_lookUp 32 = .ok (.iconst 1, 1) := by decide +kernel
theorem dX4_lookUp_33 : decode cX4_lookUp 33 = .ok (.ireturn, 1) := by decide +kernel
theorem dX4_lookUp_34 : decode cX4_lookUp 34 = .ok (.aload_n 0, 1) := by decide +kernel
theorem dX4_lookUp_35 : decode cX4_lookUp 35 = .ok (.getfield 10, 3) := by decide +kernel
theorem dX4_lookUp_38 : decode cX4_lookUp 38 = .ok (.getfield 69, 3) := by decide +kernel
theorem dX4_lookUp_41 : decode cX4_lookUp 41 = .ok (.ifCond .eq 12, 3) := by decide +kernel
theorem dX4_lookUp_44 : decode cX4_lookUp 44 = .ok (.aload_n 0, 1) := by decide +kernel
theorem dX4_lookUp_45 : decode cX4_lookUp 45 = .ok (.aload_n 1, 1) := by decide +kernel
theorem dX4_lookUp_46 : decode cX4_lookUp 46 = .ok (.iload_n 2, 1) := by decide +kernel
theorem dX4_lookUp_47 : decode cX4_lookUp 47 = .ok (.aload_n 3, 1) := by decide +kernel
theorem dX4_lookUp_48 : decode cX4_lookUp 48 = .ok (.invokevirtual 190, 3) := by decide +kernel
theorem dX4_lookUp_51 : decode cX4_lookUp 51 = .ok (.iconst 1, 1) := by decide +kernel
theorem dX4_lookUp_52 : decode cX4_lookUp 52 = .ok (.ireturn, 1) := by decide +kernel
theorem dX4_lookUp_53 : decode cX4_lookUp 53 = .ok (.aload_n 1, 1) := by decide +kernel
theorem dX4_lookUp_54 : decode cX4_lookUp 54 = .ok (.iload_n 2, 1) := by decide +kernel
theorem dX4_lookUp_55 : decode cX4_lookUp 55 = .ok (.aload_n 0, 1) := by decide +kernel
theorem dX4_lookUp_56 : decode cX4_lookUp 56 = .ok (.getfield 108, 3) := by decide +kernel
theorem dX4_lookUp_59 : decode cX4_lookUp 59 = .ok (.invokevirtual 194, 3) := by decide +kernel
theorem dX4_lookUp_62 : decode cX4_lookUp 62 = .ok (.ifCond .eq 10, 3) := by decide +kernel
theorem dX4_lookUp_65 : decode cX4_lookUp 65 = .ok (.aload_n 3, 1) := by decide +kernel
theorem dX4_lookUp_66 : decode cX4_lookUp 66 = .ok (.iconst 1, 1) := by decide +kernel
theorem dX4_lookUp_67 : decode cX4_lookUp 67 = .ok (.putfield 133, 3) := by decide +kernel
theorem dX4_lookUp_70 : decode cX4_lookUp 70 = .ok (.iconst 1, 1) := by decide +kernel
theorem dX4_lookUp_71 : decode cX4_lookUp 71 = .ok (.ireturn, 1) := by decide +kernel
theorem dX4_lookUp_72 : decode cX4_lookUp 72 = .ok (.iconst 0, 1) := by decide +kernel
theorem dX4_lookUp_73 : decode cX4_lookUp 73 = .ok (.ireturn, 1) := by decide +kernel
set_option maxRecDepth 20000 in
theorem ggX4_fetch_X3_kindOf : GoodIn wsX4_fetch wsX3_kindOf := goodIn_r _ [8, 9, 63, 64, 65, 66, 67] (by decide +kernel) (by decide +kernel)
set_option maxRecDepth 20000 in
theorem gX4_fetch_X3_kindOf : GoodIn wsX4_fetch (wsV RX4 62 RX3 yX3_kindOf wsX3_kindOf) := goodIn_app (goodIn_of _ (by decide +kernel)) ggX4_fetch_X3_kindOf
set_option maxRecDepth 20000 in
theorem ggX4_fetch_X3_valueOf : GoodIn wsX4_fetch wsX3_valueOf := goodIn_r _ [13, 14, 63, 64, 65, 66, 67] (by decide +kernel) (by decide +kernel)
set_option maxRecDepth 20000 in
theorem gX4_fetch_X3_valueOf : GoodIn wsX4_fetch (wsV RX4 73 RX3 yX3_valueOf wsX3_valueOf) := goodIn_app (goodIn_of _ (by decide +kernel)) ggX4_fetch_X3_valueOf
set_option maxRecDepth 20000 in
theorem ggX4_fetch_X3_lifeOf : GoodIn wsX4_fetch wsX3_lifeOf := goodIn_r _ [18, 9, 19, 20, 63, 64, 65, 66, 67] (by decide +kernel) (by decide +kernel)
set_option maxRecDepth 20000 in
theorem gX4_fetch_X3_lifeOf : GoodIn wsX4_fetch (wsV RX4 197 RX3 yX3_lifeOf wsX3_lifeOf) := goodIn_app (goodIn_of _ (by decide +kernel)) ggX4_fetch_X3_lifeOf
set_option maxRecDepth 20000 in
theorem ggX4_fetch_X0_put : GoodIn wsX4_fetch wsX0_put := goodIn_r _ [25, 26, 27, 28, 29, 30, 31, 32, 33, 34, 24, 35, 36, 37, 38, 39, 40, 41, 42, 43, 68, 69, 70, 71, 72, 73] (by decide +kernel) (by decide +kernel)
set_option maxRecDepth 20000 in
theorem gX4_fetch_X0_put : GoodIn wsX4_fetch (wsV RX4 200 RX0 yX0_put wsX0_put) := goodIn_app (goodIn_of _ (by decide +kernel)) ggX4_fetch_X0_put
theorem dX4_fetch_0 : decode cX4_fetch 0 = .ok (.aload_n 1, 1) := by decide +kernel
theorem dX4_fetch_1 : decode cX4_fetch 1 = .ok (.iload_n 2, 1) := by decide +kernel
theorem dX4_fetch_2 : decode cX4_fetch 2 = .ok (.aload_n 0, 1) := by decide +kernel
theorem dX4_fetch_3 : decode cX4_fetch 3 = .ok (.getfield 10, 3) := by decide +kernel
theorem dX4_fetch_6 : decode cX4_fetch 6 = .ok (.iload_n 2, 1) := by decide +kernel
theorem dX4_fetch_7 : decode cX4_fetch 7 = .ok (.invokevirtual 62, 3) := by decide +kernel
theorem dX4_fetch_10 : decode cX4_fetch 10 = .ok (.aload_n 0, 1) := by decide +kernel
theorem dX4_fetch_11 : decode cX4_fetch 11 = .ok (.getfield 10, 3) := by decide +kernel
theorem dX4_fetch_14 : decode cX4_fetch 14 = .ok (.iload_n 2, 1) := by decide +kernel
theorem dX4_fetch_15 : decode cX4_fetch 15 = .ok (.invokevirtual 73, 3) := by decide +kernel
theorem dX4_fetch_18 : decode cX4_fetch 18 = .ok (.aload_n 0, 1) := by decide +kernel
theorem dX4_fetch_19 : decode cX4_fetch 19 = .ok (.getfield 10, 3) := by decide +kernel
theorem dX4_fetch_22 : decode cX4_fetch 22 = .ok (.iload_n 2, 1) := by decide +kernel
theorem dX4_fetch_23 : decode cX4_fetch 23 = .ok (.invokevirtual 197, 3) := by decide +kernel
theorem dX4_fetch_26 : decode cX4_fetch 26 = .ok (.aload_n 0, 1) := by decide +kernel
theorem dX4_fetch_27 : decode cX4_fetch 27 = .ok (.getfield 108, 3) := by decide +kernel
theorem dX4_fetch_30 : decode cX4_fetch 30 = .ok (.invokevirtual 200, 3) := by decide +kernel
theorem dX4_fetch_33 : decode cX4_fetch 33 = .ok (.aload_n 3, 1) := by decide +kernel
theorem dX4_fetch_34 : decode cX4_fetch 34 = .ok (.dup, 1) := by decide +kernel
theorem dX4_fetch_35 : decode cX4_fetch 35 = .ok (.getfield 139, 3) := by decide +kernel
theorem dX4_fetch_38 : decode cX4_fetch 38 = .ok (.iconst 1, 1) := by decide +kernel
theorem dX4_fetch_39 : decode cX4_fetch 39 = .ok (.iadd, 1) := by decide +kernel
theorem dX4_fetch_40 : decode cX4_fetch 40 = .ok (.putfield 139, 3) := by decide +kernel
theorem dX4_fetch_43 : decode cX4_fetch 43 = .ok (.return_, 1) := by decide +kernel
set_option maxRecDepth 20000 in
theorem ggX4_fetchHotAnew_X1_freshNameAt : GoodIn wsX4_fetchHotAnew wsX1_freshNameAt := goodIn_r _ [10, 11, 12, 81, 82, 83, 84, 85, 86] (by decide +kernel) (by decide +kernel)
set_option maxRecDepth 20000 in
theorem gX4_fetchHotAnew_X1_freshNameAt : GoodIn wsX4_fetchHotAnew (wsV RX4 206 RX1 yX1_freshNameAt wsX1_freshNameAt) := goodIn_app (goodIn_of _ (by decide +kernel)) ggX4_fetchHotAnew_X1_freshNameAt
set_option maxRecDepth 20000 in
theorem ggX4_fetchHotAnew_X0_isHot : GoodIn wsX4_fetchHotAnew wsX0_isHot := goodIn_r _ [17, 18, 19, 20, 21, 22, 23, 16, 24, 25, 87, 88, 89, 90, 91, 92] (by decide +kernel) (by decide +kernel)
set_option maxRecDepth 20000 in
theorem gX4_fetchHotAnew_X0_isHot : GoodIn wsX4_fetchHotAnew (wsV RX4 209 RX0 yX0_isHot wsX0_isHot) := goodIn_app (goodIn_of _ (by decide +kernel)) ggX4_fetchHotAnew_X0_isHot
set_option maxRecDepth 20000 in
theorem ggX4_fetchHotAnew_X4_fetch : GoodIn wsX4_fetchHotAnew wsX4_fetch := goodIn_r _ [30, 1, 4, 31, 32, 33, 34, 35, 36, 37, 38, 39, 40, 41, 42, 43, 44, 45, 46, 47, 48, 49, 50, 51, 16, 52, 25, 53, 54, 20, 19, 18, 55, 56, 57, 58, 59, 60, 61, 62, 21, 22, 23, 24, 63, 64, 65, 66, 67, 68, 69, 70, 71, 72, 73, 74, 75, 81, 82, 83, 84, 85, 86, 76, 77, 78, 79, 80, 87, 88, 89, 90, 91, 92] (by decide +kernel) (by decide +kernel)
set_option maxRecDepth 20000 in
theorem gX4_fetchHotAnew_X4_fetch : GoodIn wsX4_fetchHotAnew (wsV RX4 190 RX4 yX4_fetch wsX4_fetch) := goodIn_app (goodIn_of _ (by decide +kernel)) ggX4_fetchHotAnew_X4_fetch
theorem dX4_fetchHotAnew_0 : decode cX4_fetchHotAnew 0 = .ok (.aload_n 0, 1) := by decide +kernel
theorem dX4_fetchHotAnew_1 : decode cX4_fetchHotAnew 1 = .ok (.getfield 10, 3) := by decide +kernel
theorem dX4_fetchHotAnew_4 : decode cX4_fetchHotAnew 4 = .ok (.getfield 69, 3) := by decide +kernel
theorem dX4_fetchHotAnew_7 : decode cX4_fetchHotAnew 7 = .ok (.ifCond .ne 4, 3) := by decide +kernel
theorem dX4_fetchHotAnew_10 : decode cX4_fetchHotAnew 10 = .ok (.return_, 1) := by decide +kernel
theorem dX4_fetchHotAnew_11 : decode cX4_fetchHotAnew 11 = .ok (.aload_n 2, 1) := by decide +kernel
theorem dX4_fetchHotAnew_12 : decode cX4_fetchHotAnew 12 = .ok (.getfield 203, 3) := by decide +kernel
theorem dX4_fetchHotAnew_15 : decode cX4_fetchHotAnew 15 = .ok (.istore_n 3, 1) := by decide +kernel
theorem dX4_fetchHotAnew_16 : decode cX4_fetchHotAnew 16 = .ok (.iconst 0, 1) := by decide +kernel
theorem dX4_fetchHotAnew_17 : decode cX4_fetchHotAnew 17 = .ok (.istore 4, 2) := by decide +kernel
theorem dX4_fetchHotAnew_19 : decode cX4_fetchHotAnew 19 = .ok (.iload 4, 2) := by decide +kernel
theorem dX4_fetchHotAnew_21 : decode cX4_fetchHotAnew 21 = .ok (.iload_n 3, 1) := by decide +kernel
theorem dX4_fetchHotAnew_22 : decode cX4_fetchHotAnew 22 = .ok (.if_icmp .ge 48, 3) := by decide +kernel
theorem dX4_fetchHotAnew_25 : decode cX4_fetchHotAnew 25 = .ok (.aload_n 2, 1) := by decide +kernel
theorem dX4_fetchHotAnew_26 : decode cX4_fetchHotAnew 26 = .ok (.iload 4, 2) := by decide +kernel
theorem dX4_fetchHotAnew_28 : decode cX4_fetchHotAnew 28 = .ok (.invokevirtual 206, 3) := by decide +kernel
theorem dX4_fetchHotAnew_31 : decode cX4_fetchHotAnew 31 = .ok (.istore 5, 2) := by decide +kernel
theorem dX4_fetchHotAnew_33 : decode cX4_fetchHotAnew 33 = .ok (.aload_n 1, 1) := by decide +kernel
theorem dX4_fetchHotAnew_34 : decode cX4_fetchHotAnew 34 = .ok (.iload 5, 2) := by decide +kernel
theorem dX4_fetchHotAnew_36 : decode cX4_fetchHotAnew 36 = .ok (.aload_n 0, 1) := by decide +kernel
theorem dX4_fetchHotAnew_37 : decode cX4_fetchHotAnew 37 = .ok (.getfield 108, 3) := by decide +kernel
theorem dX4_fetchHotAnew_40 : decode cX4_fetchHotAnew 40 = .ok (.invokevirtual 209, 3) := by decide +kernel
theorem dX4_fetchHotAnew_43 : decode cX4_fetchHotAnew 43 = .ok (.ifCond .eq 21, 3) := by decide +kernel
theorem dX4_fetchHotAnew_46 : decode cX4_fetchHotAnew 46 = .ok (.aload_n 0, 1) := by decide +kernel
theorem dX4_fetchHotAnew_47 : decode cX4_fetchHotAnew 47 = .ok (.aload_n 1, 1) := by decide +kernel
theorem dX4_fetchHotAnew_48 : decode cX4_fetchHotAnew 48 = .ok (.iload 5, 2) := by decide +kernel
theorem dX4_fetchHotAnew_50 : decode cX4_fetchHotAnew 50 = .ok (.aload_n 2, 1) := by decide +kernel
theorem dX4_fetchHotAnew_51 : decode cX4_fetchHotAnew 51 = .ok (.invokevirtual 190, 3) := by decide +kernel
theorem dX4_fetchHotAnew_54 : decode cX4_fetchHotAnew 54 = .ok (.aload_n 2, 1) := by decide +kernel
theorem dX4_fetchHotAnew_55 : decode cX4_fetchHotAnew 55 = .ok (.dup, 1) := by decide +kernel
theorem dX4_fetchHotAnew_56 : decode cX4_fetchHotAnew 56 = .ok (.getfield 212, 3) := by decide +kernel
theorem dX4_fetchHotAnew_59 : decode cX4_fetchHotAnew 59 = .ok (.iconst 1, 1) := by decide +kernel
theorem dX4_fetchHotAnew_60 : decode cX4_fetchHotAnew 60 = .ok (.iadd, 1) := by decide +kernel
theorem dX4_fetchHotAnew_61 : decode cX4_fetchHotAnew 61 = .ok (.putfield 212, 3) := by decide +kernel
theorem dX4_fetchHotAnew_64 : decode cX4_fetchHotAnew 64 = .ok (.iinc 4 1, 3) := by decide +kernel
theorem dX4_fetchHotAnew_67 : decode cX4_fetchHotAnew 67 = .ok (.goto (-48), 3) := by decide +kernel
theorem dX4_fetchHotAnew_70 : decode cX4_fetchHotAnew 70 = .ok (.return_, 1) := by decide +kernel
theorem dX4_countQuery_0 : decode cX4_countQuery 0 = .ok (.aload_n 0, 1) := by decide +kernel
theorem dX4_countQuery_1 : decode cX4_countQuery 1 = .ok (.dup, 1) := by decide +kernel
theorem dX4_countQuery_2 : decode cX4_countQuery 2 = .ok (.getfield 158, 3) := by decide +kernel
theorem dX4_countQuery_5 : decode cX4_countQuery 5 = .ok (.iconst 1, 1) := by decide +kernel
theorem dX4_countQuery_6 : decode cX4_countQuery 6 = .ok (.iadd, 1) := by decide +kernel
theorem dX4_countQuery_7 : decode cX4_countQuery 7 = .ok (.putfield 158, 3) := by decide +kernel
theorem dX4_countQuery_10 : decode cX4_countQuery 10 = .ok (.aload_n 0, 1) := by decide +kernel
theorem dX4_countQuery_11 : decode cX4_countQuery 11 = .ok (.dup, 1) := by decide +kernel
theorem dX4_countQuery_12 : decode cX4_countQuery 12 = .ok (.getfield 161, 3) := by decide +kernel
theorem dX4_countQuery_15 : decode cX4_countQuery 15 = .ok (.aload_n 0, 1) := by decide +kernel
theorem dX4_countQuery_16 : decode cX4_countQuery 16 = .ok (.getfield 25, 3) := by decide +kernel
theorem dX4_countQuery_19 : decode cX4_countQuery 19 = .ok (.getfield 139, 3) := by decide +kernel
theorem dX4_countQuery_22 : decode cX4_countQuery 22 = .ok (.iadd, 1) := by decide +kernel
theorem dX4_countQuery_23 : decode cX4_countQuery 23 = .ok (.putfield 161, 3) := by decide +kernel
theorem dX4_countQuery_26 : decode cX4_countQuery 26 = .ok (.aload_n 0, 1) := by decide +kernel
theorem dX4_countQuery_27 : decode cX4_countQuery 27 = .ok (.dup, 1) := by decide +kernel
theorem dX4_countQuery_28 : decode cX4_countQuery 28 = .ok (.getfield 164, 3) := by decide +kernel
theorem dX4_countQuery_31 : decode cX4_countQuery 31 = .ok (.aload_n 0, 1) := by decide +kernel
theorem dX4_countQuery_32 : decode cX4_countQuery 32 = .ok (.getfield 25, 3) := by decide +kernel
theorem dX4_countQuery_35 : decode cX4_countQuery 35 = .ok (.getfield 212, 3) := by decide +kernel
theorem dX4_countQuery_38 : decode cX4_countQuery 38 = .ok (.iadd, 1) := by decide +kernel
theorem dX4_countQuery_39 : decode cX4_countQuery 39 = .ok (.putfield 164, 3) := by decide +kernel
theorem dX4_countQuery_42 : decode cX4_countQuery 42 = .ok (.aload_n 0, 1) := by decide +kernel
theorem dX4_countQuery_43 : decode cX4_countQuery 43 = .ok (.getfield 25, 3) := by decide +kernel
theorem dX4_countQuery_46 : decode cX4_countQuery 46 = .ok (.getfield 133, 3) := by decide +kernel
theorem dX4_countQuery_49 : decode cX4_countQuery 49 = .ok (.ifCond .eq 13, 3) := by decide +kernel
theorem dX4_countQuery_52 : decode cX4_countQuery 52 = .ok (.aload_n 0, 1) := by decide +kernel
theorem dX4_countQuery_53 : decode cX4_countQuery 53 = .ok (.dup, 1) := by decide +kernel
theorem dX4_countQuery_54 : decode cX4_countQuery 54 = .ok (.getfield 167, 3) := by decide +kernel
theorem dX4_countQuery_57 : decode cX4_countQuery 57 = .ok (.iconst 1, 1) := by decide +kernel
theorem dX4_countQuery_58 : decode cX4_countQuery 58 = .ok (.iadd, 1) := by decide +kernel
theorem dX4_countQuery_59 : decode cX4_countQuery 59 = .ok (.putfield 167, 3) := by decide +kernel
theorem dX4_countQuery_62 : decode cX4_countQuery 62 = .ok (.iload_n 1, 1) := by decide +kernel
theorem dX4_countQuery_63 : decode cX4_countQuery 63 = .ok (.bipush (-2), 2) := by decide +kernel
theorem dX4_countQuery_65 : decode cX4_countQuery 65 = .ok (.if_icmp .ne 13, 3) := by decide +kernel
theorem dX4_countQuery_68 : decode cX4_countQuery 68 = .ok (.aload_n 0, 1) := by decide +kernel
theorem dX4_countQuery_69 : decode cX4_countQuery 69 = .ok (.dup, 1) := by decide +kernel
theorem dX4_countQuery_70 : decode cX4_countQuery 70 = .ok (.getfield 170, 3) := by decide +kernel
theorem dX4_countQuery_73 : decode cX4_countQuery 73 = .ok (.iconst 1, 1) := by decide +kernel
theorem dX4_countQuery_74 : decode cX4_countQuery 74 = .ok (.iadd, 1) := by decide +kernel
theorem dX4_countQuery_75 : decode cX4_countQuery 75 = .ok (.putfield 170, 3) := by decide +kernel
theorem dX4_countQuery_78 : decode cX4_countQuery 78 = .ok (.return_, 1) := by decide +kernel
theorem dX4_requireName_0 : decode cX4_requireName 0 = .ok (.iload_n 0, 1) := by decide +kernel
theorem dX4_requireName_1 : decode cX4_requireName 1 = .ok (.ifCond .lt 9, 3) := by decide +kernel
theorem dX4_requireName_4 : decode cX4_requireName 4 = .ok (.iload_n 0, 1) := by decide +kernel
theorem dX4_requireName_5 : decode cX4_requireName 5 = .ok (.bipush 16, 2) := by decide +kernel
theorem dX4_requireName_7 : decode cX4_requireName 7 = .ok (.if_icmp .lt 13, 3) := by decide +kernel
theorem dX4_requireName_10 : decode cX4_requireName 10 = .ok (.new 215, 3) := by decide +kernel
theorem dX4_requireName_13 : decode cX4_requireName 13 = .ok (.dup, 1) := by decide +kernel
theorem dX4_requireName_14 : decode cX4_requireName 14 = .ok (.ldc 217, 2) := by decide +kernel
theorem dX4_requireName_16 : decode cX4_requireName 16 = .ok (.invokespecial 219, 3) := by decide +kernel
theorem dX4_requireName_19 : decode cX4_requireName 19 = .ok (.athrow, 1) := by decide +kernel
theorem dX4_requireName_20 : decode cX4_requireName 20 = .ok (.return_, 1) := by decide +kernel
theorem dX4_requireWithin_0 : decode cX4_requireWithin 0 = .ok (.iload_n 0, 1) := by decide +kernel
theorem dX4_requireWithin_1 : decode cX4_requireWithin 1 = .ok (.iload_n 1, 1) := by decide +kernel
theorem dX4_requireWithin_2 : decode cX4_requireWithin 2 = .ok (.if_icmp .lt 8, 3) := by decide +kernel
theorem dX4_requireWithin_5 : decode cX4_requireWithin 5 = .ok (.iload_n 0, 1) := by decide +kernel
theorem dX4_requireWithin_6 : decode cX4_requireWithin 6 = .ok (.iload_n 2, 1) := by decide +kernel
theorem dX4_requireWithin_7 : decode cX4_requireWithin 7 = .ok (.if_icmp .le 13, 3) := by decide +kernel
theorem dX4_requireWithin_10 : decode cX4_requireWithin 10 = .ok (.new 55, 3) := by decide +kernel
theorem dX4_requireWithin_13 : decode cX4_requireWithin 13 = .ok (.dup, 1) := by decide +kernel
theorem dX4_requireWithin_14 : decode cX4_requireWithin 14 = .ok (.ldc 220, 2) := by decide +kernel
theorem dX4_requireWithin_16 : decode cX4_requireWithin 16 = .ok (.invokespecial 59, 3) := by decide +kernel
theorem dX4_requireWithin_19 : decode cX4_requireWithin 19 = .ok (.athrow, 1) := by decide +kernel
theorem dX4_requireWithin_20 : decode cX4_requireWithin 20 = .ok (.return_, 1) := by decide +kernel
theorem dX4_siteNumbered_0 : decode cX4_siteNumbered 0 = .ok (.iload_n 1, 1) := by decide +kernel
theorem dX4_siteNumbered_1 : decode cX4_siteNumbered 1 = .ok (.ifCond .lt 12, 3) := by decide +kernel
theorem dX4_siteNumbered_4 : decode cX4_siteNumbered 4 = .ok (.iload_n 1, 1) := by decide +kernel
theorem dX4_siteNumbered_5 : decode cX4_siteNumbered 5 = .ok (.aload_n 0, 1) := by decide +kernel
theorem dX4_siteNumbered_6 : decode cX4_siteNumbered 6 = .ok (.getfield 18, 3) := by decide +kernel
theorem dX4_siteNumbered_9 : decode cX4_siteNumbered 9 = .ok (.arraylength, 1) := by decide +kernel
theorem dX4_siteNumbered_10 : decode cX4_siteNumbered 10 = .ok (.if_icmp .lt 7, 3) := by decide +kernel
theorem dX4_siteNumbered_13 : decode cX4_siteNumbered 13 = .ok (.aconst_null, 1) := by decide +kernel
theorem dX4_siteNumbered_14 : decode cX4_siteNumbered 14 = .ok (.goto 9, 3) := by decide +kernel
theorem dX4_siteNumbered_17 : decode cX4_siteNumbered 17 = .ok (.aload_n 0, 1) := by decide +kernel
theorem dX4_siteNumbered_18 : decode cX4_siteNumbered 18 = .ok (.getfield 18, 3) := by decide +kernel
theorem dX4_siteNumbered_21 : decode cX4_siteNumbered 21 = .ok (.iload_n 1, 1) := by decide +kernel
theorem dX4_siteNumbered_22 : decode cX4_siteNumbered 22 = .ok (.aaload, 1) := by decide +kernel
theorem dX4_siteNumbered_23 : decode cX4_siteNumbered 23 = .ok (.astore_n 2, 1) := by decide +kernel
theorem dX4_siteNumbered_24 : decode cX4_siteNumbered 24 = .ok (.aload_n 2, 1) := by decide +kernel
theorem dX4_siteNumbered_25 : decode cX4_siteNumbered 25 = .ok (.ifnonnull 13, 3) := by decide +kernel
theorem dX4_siteNumbered_28 : decode cX4_siteNumbered 28 = .ok (.new 215, 3) := by decide +kernel
theorem dX4_siteNumbered_31 : decode cX4_siteNumbered 31 = .ok (.dup, 1) := by decide +kernel
theorem dX4_siteNumbered_32 : decode cX4_siteNumbered 32 = .ok (.ldc 222, 2) := by decide +kernel
theorem dX4_siteNumbered_34 : decode cX4_siteNumbered 34 = .ok (.invokespecial 219, 3) := by decide +kernel
theorem dX4_siteNumbered_37 : decode cX4_siteNumbered 37 = .ok (.athrow, 1) := by decide +kernel
theorem dX4_siteNumbered_38 : decode cX4_siteNumbered 38 = .ok (.aload_n 2, 1) := by decide +kernel
theorem dX4_siteNumbered_39 : decode cX4_siteNumbered 39 = .ok (.areturn, 1) := by decide +kernel
set_option maxRecDepth 20000 in
theorem ggX4_cacheAsked_X4_siteNumbered : GoodIn wsX4_cacheAsked wsX4_siteNumbered := goodIn_ca (goodIn_r _ [6, 7, 8, 9, 17, 18, 19, 20, 21, 22, 23, 24, 25, 26, 27, 28, 29] (by decide +kernel) (by decide +kernel)) (goodIn_sub (fun _ h => List.mem_cons_of_mem _ (List.mem_append_right _ h)) (by decide +kernel))
set_option maxRecDepth 20000 in
theorem gX4_cacheAsked_X4_siteNumbered : GoodIn wsX4_cacheAsked (wsV RX4 87 RX4 yX4_siteNumbered wsX4_siteNumbered) := goodIn_app (goodIn_of _ (by decide +kernel)) ggX4_cacheAsked_X4_siteNumbered
set_option maxRecDepth 20000 in
theorem ggX4_cacheAsked_X4_requireName : GoodIn wsX4_cacheAsked wsX4_requireName := goodIn_ca (goodIn_r _ [12, 7, 8] (by decide +kernel) (by decide +kernel)) (goodIn_sub (fun _ h => List.mem_cons_of_mem _ (List.mem_append_right _ h)) (by decide +kernel))
set_option maxRecDepth 20000 in
theorem gX4_cacheAsked_X4_requireName : GoodIn wsX4_cacheAsked (va_wsS RX4 43 yX4_requireName wsX4_requireName) := goodIn_app (goodIn_of _ (by decide +kernel)) ggX4_cacheAsked_X4_requireName
theorem dX4_cacheAsked_0 : decode cX4_cacheAsked 0 = .ok (.aload_n 0, 1) := by decide +kernel
theorem dX4_cacheAsked_1 : decode cX4_cacheAsked 1 = .ok (.iload_n 1, 1) := by decide +kernel
theorem dX4_cacheAsked_2 : decode cX4_cacheAsked 2 = .ok (.invokevirtual 87, 3) := by decide +kernel
theorem dX4_cacheAsked_5 : decode cX4_cacheAsked 5 = .ok (.astore_n 3, 1) := by decide +kernel
theorem dX4_cacheAsked_6 : decode cX4_cacheAsked 6 = .ok (.iload_n 2, 1) := by decide +kernel
theorem dX4_cacheAsked_7 : decode cX4_cacheAsked 7 = .ok (.invokestatic 43, 3) := by decide +kernel
theorem dX4_cacheAsked_10 : decode cX4_cacheAsked 10 = .ok (.aload_n 3, 1) := by decide +kernel
theorem dX4_cacheAsked_11 : decode cX4_cacheAsked 11 = .ok (.getfield 115, 3) := by decide +kernel
theorem dX4_cacheAsked_14 : decode cX4_cacheAsked 14 = .ok (.areturn, 1) := by decide +kernel
set_option maxRecDepth 20000 in
theorem ggX4_siteAsked_X4_requireName : GoodIn wsX4_siteAsked wsX4_requireName := goodIn_ca (goodIn_r _ [6, 7, 8] (by decide +kernel) (by decide +kernel)) (goodIn_sub (fun _ h => List.mem_cons_of_mem _ (List.mem_append_left _ (List.mem_append_right _ h))) (by decide +kernel))
set_option maxRecDepth 20000 in
theorem gX4_siteAsked_X4_requireName : GoodIn wsX4_siteAsked (va_wsS RX4 43 yX4_requireName wsX4_requireName) := goodIn_app (goodIn_of _ (by decide +kernel)) ggX4_siteAsked_X4_requireName
set_option maxRecDepth 20000 in
theorem ggX4_siteAsked_X4_requireWithin : GoodIn wsX4_siteAsked wsX4_requireWithin := goodIn_ca (goodIn_r _ [11, 12, 13] (by decide +kernel) (by decide +kernel)) (goodIn_sub (fun _ h => List.mem_cons_of_mem _ (List.mem_append_right _ h)) (by decide +kernel))
set_option maxRecDepth 20000 in
theorem gX4_siteAsked_X4_requireWithin : GoodIn wsX4_siteAsked (va_wsS RX4 47 yX4_requireWithin wsX4_requireWithin) := goodIn_app (goodIn_of _ (by decide +kernel)) ggX4_siteAsked_X4_requireWithin
set_option maxRecDepth 20000 in
theorem ggX4_siteAsked_X4_nearestSite : GoodIn wsX4_siteAsked wsX4_nearestSite := goodIn_r _ [17, 18, 19, 20, 21, 22, 23, 24, 25, 26, 27, 28, 29, 30, 31, 32, 33, 34, 35, 36, 37, 38, 39, 40, 41, 42, 43, 44, 45, 46] (by decide +kernel) (by decide +kernel)
set_option maxRecDepth 20000 in
theorem gX4_siteAsked_X4_nearestSite : GoodIn wsX4_siteAsked (wsV RX4 94 RX4 yX4_nearestSite wsX4_nearestSite) := goodIn_app (goodIn_of _ (by decide +kernel)) ggX4_siteAsked_X4_nearestSite
theorem dX4_siteAsked_0 : decode cX4_siteAsked 0 = .ok (.iload_n 2, 1) := by decide +kernel
theorem dX4_siteAsked_1 : decode cX4_siteAsked 1 = .ok (.invokestatic 43, 3) := by decide +kernel
theorem dX4_siteAsked_4 : decode cX4_siteAsked 4 = .ok (.iload_n 1, 1) := by decide +kernel
theorem dX4_siteAsked_5 : decode cX4_siteAsked 5 = .ok (.iconst 0, 1) := by decide +kernel
theorem dX4_siteAsked_6 : decode cX4_siteAsked 6 = .ok (.bipush 99, 2) := by decide +kernel
theorem dX4_siteAsked_8 : decode cX4_siteAsked 8 = .ok (.invokestatic 47, 3) := by decide +kernel
theorem dX4_siteAsked_11 : decode cX4_siteAsked 11 = .ok (.aload_n 0, 1) := by decide +kernel
theorem dX4_siteAsked_12 : decode cX4_siteAsked 12 = .ok (.iload_n 1, 1) := by decide +kernel
theorem dX4_siteAsked_13 : decode cX4_siteAsked 13 = .ok (.invokevirtual 94, 3) := by decide +kernel
theorem dX4_siteAsked_16 : decode cX4_siteAsked 16 = .ok (.astore_n 3, 1) := by decide +kernel
theorem dX4_siteAsked_17 : decode cX4_siteAsked 17 = .ok (.aload_n 3, 1) := by decide +kernel
theorem dX4_siteAsked_18 : decode cX4_siteAsked 18 = .ok (.ifnonnull 13, 3) := by decide +kernel
theorem dX4_siteAsked_21 : decode cX4_siteAsked 21 = .ok (.new 79, 3) := by decide +kernel
theorem dX4_siteAsked_24 : decode cX4_siteAsked 24 = .ok (.dup, 1) := by decide +kernel
theorem dX4_siteAsked_25 : decode cX4_siteAsked 25 = .ok (.ldc 224, 2) := by decide +kernel
theorem dX4_siteAsked_27 : decode cX4_siteAsked 27 = .ok (.invokespecial 83, 3) := by decide +kernel
theorem dX4_siteAsked_30 : decode cX4_siteAsked 30 = .ok (.athrow, 1) := by decide +kernel
theorem dX4_siteAsked_31 : decode cX4_siteAsked 31 = .ok (.aload_n 3, 1) := by decide +kernel
theorem dX4_siteAsked_32 : decode cX4_siteAsked 32 = .ok (.areturn, 1) := by decide +kernel
set_option maxRecDepth 20000 in
theorem ggX4_nearestSite_X2_distanceTo : GoodIn wsX4_nearestSite wsX2_distanceTo := goodIn_r _ [7, 8, 9, 10, 11, 12, 26, 27, 28, 29] (by decide +kernel) (by decide +kernel)
set_option maxRecDepth 20000 in
theorem gX4_nearestSite_X2_distanceTo : GoodIn wsX4_nearestSite (wsV RX4 226 RX2 yX2_distanceTo wsX2_distanceTo) := goodIn_app (goodIn_of _ (by decide +kernel)) ggX4_nearestSite_X2_distanceTo
theorem dX4_nearestSite_0 : decode cX4_nearestSite 0 = .ok (.aconst_null, 1) := by decide +kernel
theorem dX4_nearestSite_1 : decode cX4_nearestSite 1 = .ok (.astore_n 2, 1) := by decide +kernel
theorem dX4_nearestSite_2 : decode cX4_nearestSite 2 = .ok (.aload_n 0, 1) := by decide +kernel
theorem dX4_nearestSite_3 : decode cX4_nearestSite 3 = .ok (.getfield 18, 3) := by decide +kernel
theorem dX4_nearestSite_6 : decode cX4_nearestSite 6 = .ok (.astore_n 3, 1) := by decide +kernel
theorem dX4_nearestSite_7 : decode cX4_nearestSite 7 = .ok (.aload_n 3, 1) := by decide +kernel
theorem dX4_nearestSite_8 : decode cX4_nearestSite 8 = .ok (.arraylength, 1) := by decide +kernel
theorem dX4_nearestSite_9 : decode cX4_nearestSite 9 = .ok (.istore 4, 2) := by decide +kernel
theorem dX4_nearestSite_11 : decode cX4_nearestSite 11 = .ok (.iconst 0, 1) := by decide +kernel
theorem dX4_nearestSite_12 : decode cX4_nearestSite 12 = .ok (.istore 5, 2) := by decide +kernel
theorem dX4_nearestSite_14 : decode cX4_nearestSite 14 = .ok (.iload 5, 2) := by decide +kernel
theorem dX4_nearestSite_16 : decode cX4_nearestSite 16 = .ok (.iload 4, 2) := by decide +kernel
theorem dX4_nearestSite_18 : decode cX4_nearestSite 18 = .ok (.if_icmp .ge 52, 3) := by decide +kernel
theorem dX4_nearestSite_21 : decode cX4_nearestSite 21 = .ok (.aload_n 3, 1) := by decide +kernel
theorem dX4_nearestSite_22 : decode cX4_nearestSite 22 = .ok (.iload 5, 2) := by decide +kernel
theorem dX4_nearestSite_24 : decode cX4_nearestSite 24 = .ok (.aaload, 1) := by decide +kernel
theorem dX4_nearestSite_25 : decode cX4_nearestSite 25 = .ok (.astore 6, 2) := by decide +kernel
theorem dX4_nearestSite_27 : decode cX4_nearestSite 27 = .ok (.aload 6, 2) := by decide +kernel
theorem dX4_nearestSite_29 : decode cX4_nearestSite 29 = .ok (.ifnull 35, 3) := by decide +kernel
theorem dX4_nearestSite_32 : decode cX4_nearestSite 32 = .ok (.aload 6, 2) := by decide +kernel
theorem dX4_nearestSite_34 : decode cX4_nearestSite 34 = .ok (.getfield 91, 3) := by decide +kernel
theorem dX4_nearestSite_37 : decode cX4_nearestSite 37 = .ok (.ifCond .ne 6, 3) := by decide +kernel
theorem dX4_nearestSite_40 : decode cX4_nearestSite 40 = .ok (.goto 24, 3) := by decide +kernel
theorem dX4_nearestSite_43 : decode cX4_nearestSite 43 = .ok (.aload_n 2, 1) := by decide +kernel
theorem dX4_nearestSite_44 : decode cX4_nearestSite 44 = .ok (.ifnull 17, 3) := by decide +kernel
theorem dX4_nearestSite_47 : decode cX4_nearestSite 47 = .ok (.aload 6, 2) := by decide +kernel
theorem dX4_nearestSite_49 : decode cX4_nearestSite 49 = .ok (.iload_n 1, 1) := by decide +kernel
theorem dX4_nearestSite_50 : decode cX4_nearestSite 50 = .ok (.invokevirtual 226, 3) := by decide +kernel
theorem dX4_nearestSite_53 : decode cX4_nearestSite 53 = .ok (.aload_n 2, 1) := by decide +kernel
theorem dX4_nearestSite_54 : decode cX4_nearestSite 54 = .ok (.iload_n 1, 1) := by decide +kernel
theorem dX4_nearestSite_55 : decode cX4_nearestSite 55 = .ok (.invokevirtual 226, 3) := by decide +kernel
theorem dX4_nearestSite_58 : decode cX4_nearestSite 58 = .ok (.if_icmp .ge 6, 3) := by decide +kernel
theorem dX4_nearestSite_61 : decode cX4_nearestSite 61 = .ok (.aload 6, 2) := by decide +kernel
theorem dX4_nearestSite_63 : decode cX4_nearestSite 63 = .ok (.astore_n 2, 1) := by decide +kernel
theorem dX4_nearestSite_64 : decode cX4_nearestSite 64 = .ok (.iinc 5 1, 3) := by decide +kernel
theorem dX4_nearestSite_67 : decode cX4_nearestSite 67 = .ok (.goto (-53), 3) := by decide +kernel
theorem dX4_nearestSite_70 : decode cX4_nearestSite 70 = .ok (.aload_n 2, 1) := by decide +kernel
theorem dX4_nearestSite_71 : decode cX4_nearestSite 71 = .ok (.areturn, 1) := by decide +kernel
theorem dJ9_abs_0f7a4_0 : decode cJ9_abs_0f7a4 0 = .ok (.iload_n 0, 1) := by decide +kernel
theorem dJ9_abs_0f7a4_1 : decode cJ9_abs_0f7a4 1 = .ok (.ifCond .ge 8, 3) := by decide +kernel
theorem dJ9_abs_0f7a4_4 : decode cJ9_abs_0f7a4 4 = .ok (.iload_n 0, 1) := by decide +kernel
theorem dJ9_abs_0f7a4_5 : decode cJ9_abs_0f7a4 5 = .ok (.ineg, 1) := by decide +kernel
theorem dJ9_abs_0f7a4_6 : decode cJ9_abs_0f7a4 6 = .ok (.goto 4, 3) := by decide +kernel
theorem dJ9_abs_0f7a4_9 : decode cJ9_abs_0f7a4 9 = .ok (.iload_n 0, 1) := by decide +kernel
theorem dJ9_abs_0f7a4_10 : decode cJ9_abs_0f7a4 10 = .ok (.ireturn, 1) := by decide +kernel
theorem dJ7_fill_53178_0 : decode cJ7_fill_53178 0 = .ok (.iconst 0, 1) := by decide +kernel
theorem dJ7_fill_53178_1 : decode cJ7_fill_53178 1 = .ok (.istore_n 2, 1) := by decide +kernel
theorem dJ7_fill_53178_2 : decode cJ7_fill_53178 2 = .ok (.aload_n 0, 1) := by decide +kernel
theorem dJ7_fill_53178_3 : decode cJ7_fill_53178 3 = .ok (.arraylength, 1) := by decide +kernel
theorem dJ7_fill_53178_4 : decode cJ7_fill_53178 4 = .ok (.istore_n 3, 1) := by decide +kernel
theorem dJ7_fill_53178_5 : decode cJ7_fill_53178 5 = .ok (.iload_n 2, 1) := by decide +kernel
theorem dJ7_fill_53178_6 : decode cJ7_fill_53178 6 = .ok (.iload_n 3, 1) := by decide +kernel
theorem dJ7_fill_53178_7 : decode cJ7_fill_53178 7 = .ok (.if_icmp .ge 13, 3) := by decide +kernel
theorem dJ7_fill_53178_10 : decode cJ7_fill_53178 10 = .ok (.aload_n 0, 1) := by decide +kernel
theorem dJ7_fill_53178_11 : decode cJ7_fill_53178 11 = .ok (.iload_n 2, 1) := by decide +kernel
theorem dJ7_fill_53178_12 : decode cJ7_fill_53178 12 = .ok (.iload_n 1, 1) := by decide +kernel
theorem dJ7_fill_53178_13 : decode cJ7_fill_53178 13 = .ok (.iastore, 1) := by decide +kernel
theorem dJ7_fill_53178_14 : decode cJ7_fill_53178 14 = .ok (.iinc 2 1, 3) := by decide +kernel
theorem dJ7_fill_53178_17 : decode cJ7_fill_53178 17 = .ok (.goto (-12), 3) := by decide +kernel
theorem dJ7_fill_53178_20 : decode cJ7_fill_53178 20 = .ok (.return_, 1) := by decide +kernel
