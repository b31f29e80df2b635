set_option maxRecDepth 20000 in
theorem ggX0_init_J7_fill_53178 : GoodIn wsX0_init wsJ7_fill_53178 := goodIn_r _ [13] (by decide +kernel) (by decide +kernel)
set_option maxRecDepth 20000 in
theorem gX0_init_J7_fill_53178 : GoodIn wsX0_init (va_wsS RX0 27 yJ7_fill_53178 wsJ7_fill_53178) := goodIn_app (goodIn_of _ (by decide +kernel)) ggX0_init_J7_fill_53178
theorem dX0_init_0 : decode cX0_init 0 = .ok (.aload_n 0, 1) := by decide +kernel
theorem dX0_init_1 : decode cX0_init 1 = .ok (.invokespecial 3, 3) := by decide +kernel
theorem dX0_init_4 : decode cX0_init 4 = .ok (.aload_n 0, 1) := by decide +kernel
theorem dX0_init_5 : decode cX0_init 5 = .ok (.bipush 16, 2) := by decide +kernel
theorem dX0_init_7 : decode cX0_init 7 = .ok (.newarray .int, 2) := by decide +kernel
theorem dX0_init_9 : decode cX0_init 9 = .ok (.putfield 9, 3) := by decide +kernel
theorem dX0_init_12 : decode cX0_init 12 = .ok (.aload_n 0, 1) := by decide +kernel
theorem dX0_init_13 : decode cX0_init 13 = .ok (.bipush 16, 2) := by decide +kernel
theorem dX0_init_15 : decode cX0_init 15 = .ok (.newarray .int, 2) := by decide +kernel
theorem dX0_init_17 : decode cX0_init 17 = .ok (.putfield 15, 3) := by decide +kernel
theorem dX0_init_20 : decode cX0_init 20 = .ok (.aload_n 0, 1) := by decide +kernel
theorem dX0_init_21 : decode cX0_init 21 = .ok (.bipush 16, 2) := by decide +kernel
theorem dX0_init_23 : decode cX0_init 23 = .ok (.newarray .int, 2) := by decide +kernel
theorem dX0_init_25 : decode cX0_init 25 = .ok (.putfield 18, 3) := by decide +kernel
theorem dX0_init_28 : decode cX0_init 28 = .ok (.aload_n 0, 1) := by decide +kernel
theorem dX0_init_29 : decode cX0_init 29 = .ok (.bipush 16, 2) := by decide +kernel
theorem dX0_init_31 : decode cX0_init 31 = .ok (.newarray .int, 2) := by decide +kernel
theorem dX0_init_33 : decode cX0_init 33 = .ok (.putfield 21, 3) := by decide +kernel
theorem dX0_init_36 : decode cX0_init 36 = .ok (.aload_n 0, 1) := by decide +kernel
theorem dX0_init_37 : decode cX0_init 37 = .ok (.bipush 16, 2) := by decide +kernel
theorem dX0_init_39 : decode cX0_init 39 = .ok (.newarray .int, 2) := by decide +kernel
theorem dX0_init_41 : decode cX0_init 41 = .ok (.putfield 24, 3) := by decide +kernel
theorem dX0_init_44 : decode cX0_init 44 = .ok (.aload_n 0, 1) := by decide +kernel
theorem dX0_init_45 : decode cX0_init 45 = .ok (.getfield 9, 3) := by decide +kernel
theorem dX0_init_48 : decode cX0_init 48 = .ok (.iconst 3, 1) := by decide +kernel
theorem dX0_init_49 : decode cX0_init 49 = .ok (.invokestatic 27, 3) := by decide +kernel
theorem dX0_init_52 : decode cX0_init 52 = .ok (.return_, 1) := by decide +kernel
theorem dX0_copyFrom_0 : decode cX0_copyFrom 0 = .ok (.aload_n 1, 1) := by decide +kernel
theorem dX0_copyFrom_1 : decode cX0_copyFrom 1 = .ok (.getfield 9, 3) := by decide +kernel
theorem dX0_copyFrom_4 : decode cX0_copyFrom 4 = .ok (.iconst 0, 1) := by decide +kernel
theorem dX0_copyFrom_5 : decode cX0_copyFrom 5 = .ok (.aload_n 0, 1) := by decide +kernel
theorem dX0_copyFrom_6 : decode cX0_copyFrom 6 = .ok (.getfield 9, 3) := by decide +kernel
theorem dX0_copyFrom_9 : decode cX0_copyFrom 9 = .ok (.iconst 0, 1) := by decide +kernel
theorem dX0_copyFrom_10 : decode cX0_copyFrom 10 = .ok (.bipush 16, 2) := by decide +kernel
theorem dX0_copyFrom_12 : decode cX0_copyFrom 12 = .ok (.invokestatic 33, 3) := by decide +kernel
theorem dX0_copyFrom_15 : decode cX0_copyFrom 15 = .ok (.aload_n 1, 1) := by decide +kernel
theorem dX0_copyFrom_16 : decode cX0_copyFrom 16 = .ok (.getfield 15, 3) := by decide +kernel
theorem dX0_copyFrom_19 : decode cX0_copyFrom 19 = .ok (.iconst 0, 1) := by decide +kernel
theorem dX0_copyFrom_20 : decode cX0_copyFrom 20 = .ok (.aload_n 0, 1) := by decide +kernel
theorem dX0_copyFrom_21 : decode cX0_copyFrom 21 = .ok (.getfield 15, 3) := by decide +kernel
theorem dX0_copyFrom_24 : decode cX0_copyFrom 24 = .ok (.iconst 0, 1) := by decide +kernel
theorem dX0_copyFrom_25 : decode cX0_copyFrom 25 = .ok (.bipush 16, 2) := by decide +kernel
theorem dX0_copyFrom_27 : decode cX0_copyFrom 27 = .ok (.invokestatic 33, 3) := by decide +kernel
theorem dX0_copyFrom_30 : decode cX0_copyFrom 30 = .ok (.aload_n 1, 1) := by decide +kernel
theorem dX0_copyFrom_31 : decode cX0_copyFrom 31 = .ok (.getfield 18, 3) := by decide +kernel
theorem dX0_copyFrom_34 : decode cX0_copyFrom 34 = .ok (.iconst 0, 1) := by decide +kernel
theorem dX0_copyFrom_35 : decode cX0_copyFrom 35 = .ok (.aload_n 0, 1) := by decide +kernel
theorem dX0_copyFrom_36 : decode cX0_copyFrom 36 = .ok (.getfield 18, 3) := by decide +kernel
theorem dX0_copyFrom_39 : decode cX0_copyFrom 39 = .ok (.iconst 0, 1) := by decide +kernel
theorem dX0_copyFrom_40 : decode cX0_copyFrom 40 = .ok (.bipush 16, 2) := by decide +kernel
theorem dX0_copyFrom_42 : decode cX0_copyFrom 42 = .ok (.invokestatic 33, 3) := by decide +kernel
theorem dX0_copyFrom_45 : decode cX0_copyFrom 45 = .ok (.aload_n 1, 1) := by decide +kernel
theorem dX0_copyFrom_46 : decode cX0_copyFrom 46 = .ok (.getfield 21, 3) := by decide +kernel
theorem dX0_copyFrom_49 : decode cX0_copyFrom 49 = .ok (.iconst 0, 1) := by decide +kernel
theorem dX0_copyFrom_50 : decode cX0_copyFrom 50 = .ok (.aload_n 0, 1) := by decide +kernel
theorem dX0_copyFrom_51 : decode cX0_copyFrom 51 = .ok (.getfield 21, 3) := by decide +kernel
theorem dX0_copyFrom_54 : decode cX0_copyFrom 54 = .ok (.iconst 0, 1) := by decide +kernel
theorem dX0_copyFrom_55 : decode cX0_copyFrom 55 = .ok (.bipush 16, 2) := by decide +kernel
theorem dX0_copyFrom_57 : decode cX0_copyFrom 57 = .ok (.invokestatic 33, 3) := by decide +kernel
theorem dX0_copyFrom_60 : decode cX0_copyFrom 60 = .ok (.aload_n 1, 1) := by decide +kernel
theorem dX0_copyFrom_61 : decode cX0_copyFrom 61 = .ok (.getfield 24, 3) := by decide +kernel
theorem dX0_copyFrom_64 : decode cX0_copyFrom 64 = .ok (.iconst 0, 1) := by decide +kernel
theorem dX0_copyFrom_65 : decode cX0_copyFrom 65 = .ok (.aload_n 0, 1) := by decide +kernel
theorem dX0_copyFrom_66 : decode cX0_copyFrom 66 = .ok (.getfield 24, 3) := by decide +kernel
theorem dX0_copyFrom_69 : decode cX0_copyFrom 69 = .ok (.iconst 0, 1) := by decide +kernel
theorem dX0_copyFrom_70 : decode cX0_copyFrom 70 = .ok (.bipush 16, 2) := by decide +kernel
theorem dX0_copyFrom_72 : decode cX0_copyFrom 72 = .ok (.invokestatic 33, 3) := by decide +kernel
theorem dX0_copyFrom_75 : decode cX0_copyFrom 75 = .ok (.aload_n 0, 1) := by decide +kernel
theorem dX0_copyFrom_76 : decode cX0_copyFrom 76 = .ok (.aload_n 1, 1) := by decide +kernel
theorem dX0_copyFrom_77 : decode cX0_copyFrom 77 = .ok (.getfield 39, 3) := by decide +kernel
theorem dX0_copyFrom_80 : decode cX0_copyFrom 80 = .ok (.putfield 39, 3) := by decide +kernel
theorem dX0_copyFrom_83 : decode cX0_copyFrom 83 = .ok (.return_, 1) := by decide +kernel
theorem dX0_has_0 : decode cX0_has 0 = .ok (.iload_n 1, 1) := by decide +kernel
theorem dX0_has_1 : decode cX0_has 1 = .ok (.ifCond .lt 23, 3) := by decide +kernel
theorem dX0_has_4 : decode cX0_has 4 = .ok (.iload_n 1, 1) := by decide +kernel
theorem dX0_has_5 : decode cX0_has 5 = .ok (.bipush 16, 2) := by decide +kernel
theorem dX0_has_7 : decode cX0_has 7 = .ok (.if_icmp .ge 17, 3) := by decide +kernel
theorem dX0_has_10 : decode cX0_has 10 = .ok (.aload_n 0, 1) := by decide +kernel
theorem dX0_has_11 : decode cX0_has 11 = .ok (.getfield 9, 3) := by decide +kernel
theorem dX0_has_14 : decode cX0_has 14 = .ok (.iload_n 1, 1) := by decide +kernel
theorem dX0_has_15 : decode cX0_has 15 = .ok (.iaload, 1) := by decide +kernel
theorem dX0_has_16 : decode cX0_has 16 = .ok (.iconst 3, 1) := by decide +kernel
theorem dX0_has_17 : decode cX0_has 17 = .ok (.if_icmp .eq 7, 3) := by decide +kernel
theorem dX0_has_20 : decode cX0_has 20 = .ok (.iconst 1, 1) := by decide +kernel
theorem dX0_has_21 : decode cX0_has 21 = .ok (.goto 4, 3) := by decide +kernel
theorem dX0_has_24 : decode cX0_has 24 = .ok (.iconst 0, 1) := by decide +kernel
theorem dX0_has_25 : decode cX0_has 25 = .ok (.ireturn, 1) := by decide +kernel
set_option maxRecDepth 20000 in
theorem ggX0_kindOf_X0_has : GoodIn wsX0_kindOf wsX0_has := goodIn_r _ [6, 1, 7, 8, 9, 10, 11, 12] (by decide +kernel) (by decide +kernel)
set_option maxRecDepth 20000 in
theorem gX0_kindOf_X0_has : GoodIn wsX0_kindOf (wsV RX0 43 RX0 yX0_has wsX0_has) := goodIn_app (goodIn_of _ (by decide +kernel)) ggX0_kindOf_X0_has
theorem dX0_kindOf_0 : decode cX0_kindOf 0 = .ok (.aload_n 0, 1) := by decide +kernel
theorem dX0_kindOf_1 : decode cX0_kindOf 1 = .ok (.iload_n 1, 1) := by decide +kernel
theorem dX0_kindOf_2 : decode cX0_kindOf 2 = .ok (.invokevirtual 43, 3) := by decide +kernel
theorem dX0_kindOf_5 : decode cX0_kindOf 5 = .ok (.ifCond .eq 12, 3) := by decide +kernel
theorem dX0_kindOf_8 : decode cX0_kindOf 8 = .ok (.aload_n 0, 1) := by decide +kernel
theorem dX0_kindOf_9 : decode cX0_kindOf 9 = .ok (.getfield 9, 3) := by decide +kernel
theorem dX0_kindOf_12 : decode cX0_kindOf 12 = .ok (.iload_n 1, 1) := by decide +kernel
theorem dX0_kindOf_13 : decode cX0_kindOf 13 = .ok (.iaload, 1) := by decide +kernel
theorem dX0_kindOf_14 : decode cX0_kindOf 14 = .ok (.goto 4, 3) := by decide +kernel
theorem dX0_kindOf_17 : decode cX0_kindOf 17 = .ok (.iconst 3, 1) := by decide +kernel
theorem dX0_kindOf_18 : decode cX0_kindOf 18 = .ok (.ireturn, 1) := by decide +kernel
set_option maxRecDepth 20000 in
theorem ggX0_valueOf_X0_has : GoodIn wsX0_valueOf wsX0_has := goodIn_r _ [6, 7, 8, 9, 10, 11, 12, 13] (by decide +kernel) (by decide +kernel)
set_option maxRecDepth 20000 in
theorem gX0_valueOf_X0_has : GoodIn wsX0_valueOf (wsV RX0 43 RX0 yX0_has wsX0_has) := goodIn_app (goodIn_of _ (by decide +kernel)) ggX0_valueOf_X0_has
theorem dX0_valueOf_0 : decode cX0_valueOf 0 = .ok (.aload_n 0, 1) := by decide +kernel
theorem dX0_valueOf_1 : decode cX0_valueOf 1 = .ok (.iload_n 1, 1) := by decide +kernel
theorem dX0_valueOf_2 : decode cX0_valueOf 2 = .ok (.invokevirtual 43, 3) := by decide +kernel
theorem dX0_valueOf_5 : decode cX0_valueOf 5 = .ok (.ifCond .eq 12, 3) := by decide +kernel
theorem dX0_valueOf_8 : decode cX0_valueOf 8 = .ok (.aload_n 0, 1) := by decide +kernel
theorem dX0_valueOf_9 : decode cX0_valueOf 9 = .ok (.getfield 15, 3) := by decide +kernel
theorem dX0_valueOf_12 : decode cX0_valueOf 12 = .ok (.iload_n 1, 1) := by decide +kernel
theorem dX0_valueOf_13 : decode cX0_valueOf 13 = .ok (.iaload, 1) := by decide +kernel
theorem dX0_valueOf_14 : decode cX0_valueOf 14 = .ok (.goto 5, 3) := by decide +kernel
theorem dX0_valueOf_17 : decode cX0_valueOf 17 = .ok (.bipush (-3), 2) := by decide +kernel
theorem dX0_valueOf_19 : decode cX0_valueOf 19 = .ok (.ireturn, 1) := by decide +kernel
set_option maxRecDepth 20000 in
theorem ggX0_endOf_X0_has : GoodIn wsX0_endOf wsX0_has := goodIn_r _ [6, 7, 8, 9, 10, 11, 12, 13] (by decide +kernel) (by decide +kernel)
set_option maxRecDepth 20000 in
theorem gX0_endOf_X0_has : GoodIn wsX0_endOf (wsV RX0 43 RX0 yX0_has wsX0_has) := goodIn_app (goodIn_of _ (by decide +kernel)) ggX0_endOf_X0_has
theorem dX0_endOf_0 : decode cX0_endOf 0 = .ok (.aload_n 0, 1) := by decide +kernel
theorem dX0_endOf_1 : decode cX0_endOf 1 = .ok (.iload_n 1, 1) := by decide +kernel
theorem dX0_endOf_2 : decode cX0_endOf 2 = .ok (.invokevirtual 43, 3) := by decide +kernel
theorem dX0_endOf_5 : decode cX0_endOf 5 = .ok (.ifCond .eq 12, 3) := by decide +kernel
theorem dX0_endOf_8 : decode cX0_endOf 8 = .ok (.aload_n 0, 1) := by decide +kernel
theorem dX0_endOf_9 : decode cX0_endOf 9 = .ok (.getfield 21, 3) := by decide +kernel
theorem dX0_endOf_12 : decode cX0_endOf 12 = .ok (.iload_n 1, 1) := by decide +kernel
theorem dX0_endOf_13 : decode cX0_endOf 13 = .ok (.iaload, 1) := by decide +kernel
theorem dX0_endOf_14 : decode cX0_endOf 14 = .ok (.goto 4, 3) := by decide +kernel
theorem dX0_endOf_17 : decode cX0_endOf 17 = .ok (.iconst 0, 1) := by decide +kernel
theorem dX0_endOf_18 : decode cX0_endOf 18 = .ok (.ireturn, 1) := by decide +kernel
set_option maxRecDepth 20000 in
theorem ggX0_hitsFor_X0_has : GoodIn wsX0_hitsFor wsX0_has := goodIn_r _ [6, 7, 8, 9, 10, 11, 12, 13] (by decide +kernel) (by decide +kernel)
set_option maxRecDepth 20000 in
theorem gX0_hitsFor_X0_has : GoodIn wsX0_hitsFor (wsV RX0 43 RX0 yX0_has wsX0_has) := goodIn_app (goodIn_of _ (by decide +kernel)) ggX0_hitsFor_X0_has
theorem dX0_hitsFor_0 : decode cX0_hitsFor 0 = .ok (.aload_n 0, 1) := by decide +kernel
theorem dX0_hitsFor_1 : decode cX0_hitsFor 1 = .ok (.iload_n 1, 1) := by decide +kernel
theorem dX0_hitsFor_2 : decode cX0_hitsFor 2 = .ok (.invokevirtual 43, 3) := by decide +kernel
theorem dX0_hitsFor_5 : decode cX0_hitsFor 5 = .ok (.ifCond .eq 12, 3) := by decide +kernel
theorem dX0_hitsFor_8 : decode cX0_hitsFor 8 = .ok (.aload_n 0, 1) := by decide +kernel
theorem dX0_hitsFor_9 : decode cX0_hitsFor 9 = .ok (.getfield 24, 3) := by decide +kernel
theorem dX0_hitsFor_12 : decode cX0_hitsFor 12 = .ok (.iload_n 1, 1) := by decide +kernel
theorem dX0_hitsFor_13 : decode cX0_hitsFor 13 = .ok (.iaload, 1) := by decide +kernel
theorem dX0_hitsFor_14 : decode cX0_hitsFor 14 = .ok (.goto 4, 3) := by decide +kernel
theorem dX0_hitsFor_17 : decode cX0_hitsFor 17 = .ok (.iconst 0, 1) := by decide +kernel
theorem dX0_hitsFor_18 : decode cX0_hitsFor 18 = .ok (.ireturn, 1) := by decide +kernel
set_option maxRecDepth 20000 in
theorem ggX0_isFresh_X0_has : GoodIn wsX0_isFresh wsX0_has := goodIn_r _ [6, 7, 8, 9, 10, 11, 12, 13] (by decide +kernel) (by decide +kernel)
set_option maxRecDepth 20000 in
theorem gX0_isFresh_X0_has : GoodIn wsX0_isFresh (wsV RX0 43 RX0 yX0_has wsX0_has) := goodIn_app (goodIn_of _ (by decide +kernel)) ggX0_isFresh_X0_has
theorem dX0_isFresh_0 : decode cX0_isFresh 0 = .ok (.aload_n 0, 1) := by decide +kernel
theorem dX0_isFresh_1 : decode cX0_isFresh 1 = .ok (.iload_n 1, 1) := by decide +kernel
theorem dX0_isFresh_2 : decode cX0_isFresh 2 = .ok (.invokevirtual 43, 3) := by decide +kernel
theorem dX0_isFresh_5 : decode cX0_isFresh 5 = .ok (.ifCond .eq 17, 3) := by decide +kernel
theorem dX0_isFresh_8 : decode cX0_isFresh 8 = .ok (.iload_n 2, 1) := by decide +kernel
theorem dX0_isFresh_9 : decode cX0_isFresh 9 = .ok (.aload_n 0, 1) := by decide +kernel
theorem dX0_isFresh_10 : decode cX0_isFresh 10 = .ok (.getfield 21, 3) := by decide +kernel
theorem dX0_isFresh_13 : decode cX0_isFresh 13 = .ok (.iload_n 1, 1) := by decide +kernel
theorem dX0_isFresh_14 : decode cX0_isFresh 14 = .ok (.iaload, 1) := by decide +kernel
theorem dX0_isFresh_15 : decode cX0_isFresh 15 = .ok (.if_icmp .ge 7, 3) := by decide +kernel
theorem dX0_isFresh_18 : decode cX0_isFresh 18 = .ok (.iconst 1, 1) := by decide +kernel
theorem dX0_isFresh_19 : decode cX0_isFresh 19 = .ok (.goto 4, 3) := by decide +kernel
theorem dX0_isFresh_22 : decode cX0_isFresh 22 = .ok (.iconst 0, 1) := by decide +kernel
theorem dX0_isFresh_23 : decode cX0_isFresh 23 = .ok (.ireturn, 1) := by decide +kernel
set_option maxRecDepth 20000 in
theorem ggX0_servesStale_X0_has : GoodIn wsX0_servesStale wsX0_has := goodIn_r _ [6, 7, 8, 9, 10, 11, 12, 13] (by decide +kernel) (by decide +kernel)
set_option maxRecDepth 20000 in
theorem gX0_servesStale_X0_has : GoodIn wsX0_servesStale (wsV RX0 43 RX0 yX0_has wsX0_has) := goodIn_app (goodIn_of _ (by decide +kernel)) ggX0_servesStale_X0_has
theorem dX0_servesStale_0 : decode cX0_servesStale 0 = .ok (.aload_n 0, 1) := by decide +kernel
theorem dX0_servesStale_1 : decode cX0_servesStale 1 = .ok (.iload_n 1, 1) := by decide +kernel
theorem dX0_servesStale_2 : decode cX0_servesStale 2 = .ok (.invokevirtual 43, 3) := by decide +kernel
theorem dX0_servesStale_5 : decode cX0_servesStale 5 = .ok (.ifCond .eq 20, 3) := by decide +kernel
theorem dX0_servesStale_8 : decode cX0_servesStale 8 = .ok (.iload_n 2, 1) := by decide +kernel
theorem dX0_servesStale_9 : decode cX0_servesStale 9 = .ok (.aload_n 0, 1) := by decide +kernel
theorem dX0_servesStale_10 : decode cX0_servesStale 10 = .ok (.getfield 21, 3) := by decide +kernel
theorem dX0_servesStale_13 : decode cX0_servesStale 13 = .ok (.iload_n 1, 1) := by decide +kernel
theorem dX0_servesStale_14 : decode cX0_servesStale 14 = .ok (.iaload, 1) := by decide +kernel
theorem dX0_servesStale_15 : decode cX0_servesStale 15 = .ok (.isub, 1) := by decide +kernel
theorem dX0_servesStale_16 : decode cX0_servesStale 16 = .ok (.bipush 100, 2) := by decide +kernel
theorem dX0_servesStale_18 : decode cX0_servesStale 18 = .ok (.if_icmp .ge 7, 3) := by decide +kernel
theorem dX0_servesStale_21 : decode cX0_servesStale 21 = .ok (.iconst 1, 1) := by decide +kernel
theorem dX0_servesStale_22 : decode cX0_servesStale 22 = .ok (.goto 4, 3) := by decide +kernel
theorem dX0_servesStale_25 : decode cX0_servesStale 25 = .ok (.iconst 0, 1) := by decide +kernel
theorem dX0_servesStale_26 : decode cX0_servesStale 26 = .ok (.ireturn, 1) := by decide +kernel
set_option maxRecDepth 20000 in
theorem ggX0_isHot_X0_has : GoodIn wsX0_isHot wsX0_has := goodIn_r _ [8, 9, 10, 11, 12, 13, 14, 15] (by decide +kernel) (by decide +kernel)
set_option maxRecDepth 20000 in
theorem gX0_isHot_X0_has : GoodIn wsX0_isHot (wsV RX0 43 RX0 yX0_has wsX0_has) := goodIn_app (goodIn_of _ (by decide +kernel)) ggX0_isHot_X0_has
theorem dX0_isHot_0 : decode cX0_isHot 0 = .ok (.aload_n 0, 1) := by decide +kernel
theorem dX0_isHot_1 : decode cX0_isHot 1 = .ok (.iload_n 1, 1) := by decide +kernel
theorem dX0_isHot_2 : decode cX0_isHot 2 = .ok (.invokevirtual 43, 3) := by decide +kernel
theorem dX0_isHot_5 : decode cX0_isHot 5 = .ok (.ifCond .eq 36, 3) := by decide +kernel
theorem dX0_isHot_8 : decode cX0_isHot 8 = .ok (.aload_n 0, 1) := by decide +kernel
theorem dX0_isHot_9 : decode cX0_isHot 9 = .ok (.getfield 24, 3) := by decide +kernel
theorem dX0_isHot_12 : decode cX0_isHot 12 = .ok (.iload_n 1, 1) := by decide +kernel
theorem dX0_isHot_13 : decode cX0_isHot 13 = .ok (.iaload, 1) := by decide +kernel
theorem dX0_isHot_14 : decode cX0_isHot 14 = .ok (.iconst 3, 1) := by decide +kernel
theorem dX0_isHot_15 : decode cX0_isHot 15 = .ok (.if_icmp .lt 26, 3) := by decide +kernel
theorem dX0_isHot_18 : decode cX0_isHot 18 = .ok (.iconst 4, 1) := by decide +kernel
theorem dX0_isHot_19 : decode cX0_isHot 19 = .ok (.aload_n 0, 1) := by decide +kernel
theorem dX0_isHot_20 : decode cX0_isHot 20 = .ok (.getfield 21, 3) := by decide +kernel
theorem dX0_isHot_23 : decode cX0_isHot 23 = .ok (.iload_n 1, 1) := by decide +kernel
theorem dX0_isHot_24 : decode cX0_isHot 24 = .ok (.iaload, 1) := by decide +kernel
theorem dX0_isHot_25 : decode cX0_isHot 25 = .ok (.iload_n 2, 1) := by decide +kernel
theorem dX0_isHot_26 : decode cX0_isHot 26 = .ok (.isub, 1) := by decide +kernel
theorem dX0_isHot_27 : decode cX0_isHot 27 = .ok (.imul, 1) := by decide +kernel
theorem dX0_isHot_28 : decode cX0_isHot 28 = .ok (.aload_n 0, 1) := by decide +kernel
theorem dX0_isHot_29 : decode cX0_isHot 29 = .ok (.getfield 18, 3) := by decide +kernel
theorem dX0_isHot_32 : decode cX0_isHot 32 = .ok (.iload_n 1, 1) := by decide +kernel
theorem dX0_isHot_33 : decode cX0_isHot 33 = .ok (.iaload, 1) := by decide +kernel
theorem dX0_isHot_34 : decode cX0_isHot 34 = .ok (.if_icmp .gt 7, 3) := by decide +kernel
theorem dX0_isHot_37 : decode cX0_isHot 37 = .ok (.iconst 1, 1) := by decide +kernel
theorem dX0_isHot_38 : decode cX0_isHot 38 = .ok (.goto 4, 3) := by decide +kernel
theorem dX0_isHot_41 : decode cX0_isHot 41 = .ok (.iconst 0, 1) := by decide +kernel
theorem dX0_isHot_42 : decode cX0_isHot 42 = .ok (.ireturn, 1) := by decide +kernel
set_option maxRecDepth 20000 in
theorem ggX0_countHit_X0_has : GoodIn wsX0_countHit wsX0_has := goodIn_r _ [6, 7, 8, 9, 10, 11, 12, 13] (by decide +kernel) (by decide +kernel)
set_option maxRecDepth 20000 in
theorem gX0_countHit_X0_has : GoodIn wsX0_countHit (wsV RX0 43 RX0 yX0_has wsX0_has) := goodIn_app (goodIn_of _ (by decide +kernel)) ggX0_countHit_X0_has
theorem dX0_countHit_0 : decode cX0_countHit 0 = .ok (.aload_n 0, 1) := by decide +kernel
theorem dX0_countHit_1 : decode cX0_countHit 1 = .ok (.iload_n 1, 1) := by decide +kernel
theorem dX0_countHit_2 : decode cX0_countHit 2 = .ok (.invokevirtual 43, 3) := by decide +kernel
theorem dX0_countHit_5 : decode cX0_countHit 5 = .ok (.ifCond .eq 13, 3) := by decide +kernel
theorem dX0_countHit_8 : decode cX0_countHit 8 = .ok (.aload_n 0, 1) := by decide +kernel
theorem dX0_countHit_9 : decode cX0_countHit 9 = .ok (.getfield 24, 3) := by decide +kernel
theorem dX0_countHit_12 : decode cX0_countHit 12 = .ok (.iload_n 1, 1) := by decide +kernel
theorem dX0_countHit_13 : decode cX0_countHit 13 = .ok (.dup2, 1) := by decide +kernel
theorem dX0_countHit_14 : decode cX0_countHit 14 = .ok (.iaload, 1) := by decide +kernel
theorem dX0_countHit_15 : decode cX0_countHit 15 = .ok (.iconst 1, 1) := by decide +kernel
theorem dX0_countHit_16 : decode cX0_countHit 16 = .ok (.iadd, 1) := by decide +kernel
theorem dX0_countHit_17 : decode cX0_countHit 17 = .ok (.iastore, 1) := by decide +kernel
theorem dX0_countHit_18 : decode cX0_countHit 18 = .ok (.return_, 1) := by decide +kernel
set_option maxRecDepth 20000 in
theorem ggX0_drop_X0_has : GoodIn wsX0_drop wsX0_has := goodIn_r _ [7, 1, 8, 9, 10, 11, 12, 13] (by decide +kernel) (by decide +kernel)
set_option maxRecDepth 20000 in
theorem gX0_drop_X0_has : GoodIn wsX0_drop (wsV RX0 43 RX0 yX0_has wsX0_has) := goodIn_app (goodIn_of _ (by decide +kernel)) ggX0_drop_X0_has
theorem dX0_drop_0 : decode cX0_drop 0 = .ok (.aload_n 0, 1) := by decide +kernel
theorem dX0_drop_1 : decode cX0_drop 1 = .ok (.iload_n 1, 1) := by decide +kernel
theorem dX0_drop_2 : decode cX0_drop 2 = .ok (.invokevirtual 43, 3) := by decide +kernel
theorem dX0_drop_5 : decode cX0_drop 5 = .ok (.ifCond .ne 5, 3) := by decide +kernel
theorem dX0_drop_8 : decode cX0_drop 8 = .ok (.iconst 0, 1) := by decide +kernel
theorem dX0_drop_9 : decode cX0_drop 9 = .ok (.ireturn, 1) := by decide +kernel
theorem dX0_drop_10 : decode cX0_drop 10 = .ok (.aload_n 0, 1) := by decide +kernel
theorem dX0_drop_11 : decode cX0_drop 11 = .ok (.getfield 9, 3) := by decide +kernel
theorem dX0_drop_14 : decode cX0_drop 14 = .ok (.iload_n 1, 1) := by decide +kernel
theorem dX0_drop_15 : decode cX0_drop 15 = .ok (.iconst 3, 1) := by decide +kernel
theorem dX0_drop_16 : decode cX0_drop 16 = .ok (.iastore, 1) := by decide +kernel
theorem dX0_drop_17 : decode cX0_drop 17 = .ok (.aload_n 0, 1) := by decide +kernel
theorem dX0_drop_18 : decode cX0_drop 18 = .ok (.dup, 1) := by decide +kernel
theorem dX0_drop_19 : decode cX0_drop 19 = .ok (.getfield 39, 3) := by decide +kernel
theorem dX0_drop_22 : decode cX0_drop 22 = .ok (.iconst 1, 1) := by decide +kernel
theorem dX0_drop_23 : decode cX0_drop 23 = .ok (.isub, 1) := by decide +kernel
theorem dX0_drop_24 : decode cX0_drop 24 = .ok (.putfield 39, 3) := by decide +kernel
theorem dX0_drop_27 : decode cX0_drop 27 = .ok (.iconst 1, 1) := by decide +kernel
theorem dX0_drop_28 : decode cX0_drop 28 = .ok (.ireturn, 1) := by decide +kernel
set_option maxRecDepth 20000 in
theorem ggX0_put_X0_firstToEnd : GoodIn wsX0_put wsX0_firstToEnd := goodIn_r _ [11, 1, 5, 20, 21, 22, 23, 24, 25] (by decide +kernel) (by decide +kernel)
set_option maxRecDepth 20000 in
theorem gX0_put_X0_firstToEnd : GoodIn wsX0_put (wsV RX0 47 RX0 yX0_firstToEnd wsX0_firstToEnd) := goodIn_app (goodIn_of _ (by decide +kernel)) ggX0_put_X0_firstToEnd
set_option maxRecDepth 20000 in
theorem ggX0_put_X0_drop : GoodIn wsX0_put wsX0_drop := goodIn_r _ [15, 1, 2, 16, 17, 18, 10, 19, 20, 21, 22, 23, 24, 25] (by decide +kernel) (by decide +kernel)
set_option maxRecDepth 20000 in
theorem gX0_put_X0_drop : GoodIn wsX0_put (wsV RX0 51 RX0 yX0_drop wsX0_drop) := goodIn_app (goodIn_of _ (by decide +kernel)) ggX0_put_X0_drop
theorem dX0_put_0 : decode cX0_put 0 = .ok (.iload_n 1, 1) := by decide +kernel
theorem dX0_put_1 : decode cX0_put 1 = .ok (.ifCond .lt 9, 3) := by decide +kernel
theorem dX0_put_4 : decode cX0_put 4 = .ok (.iload_n 1, 1) := by decide +kernel
theorem dX0_put_5 : decode cX0_put 5 = .ok (.bipush 16, 2) := by decide +kernel
theorem dX0_put_7 : decode cX0_put 7 = .ok (.if_icmp .lt 4, 3) := by decide +kernel
theorem dX0_put_10 : decode cX0_put 10 = .ok (.return_, 1) := by decide +kernel
theorem dX0_put_11 : decode cX0_put 11 = .ok (.aload_n 0, 1) := by decide +kernel
theorem dX0_put_12 : decode cX0_put 12 = .ok (.getfield 9, 3) := by decide +kernel
theorem dX0_put_15 : decode cX0_put 15 = .ok (.iload_n 1, 1) := by decide +kernel
theorem dX0_put_16 : decode cX0_put 16 = .ok (.iaload, 1) := by decide +kernel
theorem dX0_put_17 : decode cX0_put 17 = .ok (.iconst 3, 1) := by decide +kernel
theorem dX0_put_18 : decode cX0_put 18 = .ok (.if_icmp .ne 31, 3) := by decide +kernel
theorem dX0_put_21 : decode cX0_put 21 = .ok (.aload_n 0, 1) := by decide +kernel
theorem dX0_put_22 : decode cX0_put 22 = .ok (.getfield 39, 3) := by decide +kernel
theorem dX0_put_25 : decode cX0_put 25 = .ok (.bipush 6, 2) := by decide +kernel
theorem dX0_put_27 : decode cX0_put 27 = .ok (.if_icmp .lt 12, 3) := by decide +kernel
theorem dX0_put_30 : decode cX0_put 30 = .ok (.aload_n 0, 1) := by decide +kernel
theorem dX0_put_31 : decode cX0_put 31 = .ok (.aload_n 0, 1) := by decide +kernel
theorem dX0_put_32 : decode cX0_put 32 = .ok (.invokevirtual 47, 3) := by decide +kernel
theorem dX0_put_35 : decode cX0_put 35 = .ok (.invokevirtual 51, 3) := by decide +kernel
theorem dX0_put_38 : decode cX0_put 38 = .ok (.pop, 1) := by decide +kernel
theorem dX0_put_39 : decode cX0_put 39 = .ok (.aload_n 0, 1) := by decide +kernel
theorem dX0_put_40 : decode cX0_put 40 = .ok (.dup, 1) := by decide +kernel
theorem dX0_put_41 : decode cX0_put 41 = .ok (.getfield 39, 3) := by decide +kernel
theorem dX0_put_44 : decode cX0_put 44 = .ok (.iconst 1, 1) := by decide +kernel
theorem dX0_put_45 : decode cX0_put 45 = .ok (.iadd, 1) := by decide +kernel
theorem dX0_put_46 : decode cX0_put 46 = .ok (.putfield 39, 3) := by decide +kernel
theorem dX0_put_49 : decode cX0_put 49 = .ok (.aload_n 0, 1) := by decide +kernel
theorem dX0_put_50 : decode cX0_put 50 = .ok (.getfield 9, 3) := by decide +kernel
theorem dX0_put_53 : decode cX0_put 53 = .ok (.iload_n 1, 1) := by decide +kernel
theorem dX0_put_54 : decode cX0_put 54 = .ok (.iload_n 2, 1) := by decide +kernel
theorem dX0_put_55 : decode cX0_put 55 = .ok (.iastore, 1) := by decide +kernel
theorem dX0_put_56 : decode cX0_put 56 = .ok (.aload_n 0, 1) := by decide +kernel
theorem dX0_put_57 : decode cX0_put 57 = .ok (.getfield 15, 3) := by decide +kernel
theorem dX0_put_60 : decode cX0_put 60 = .ok (.iload_n 1, 1) := by decide +kernel
theorem dX0_put_61 : decode cX0_put 61 = .ok (.iload_n 3, 1) := by decide +kernel
theorem dX0_put_62 : decode cX0_put 62 = .ok (.iastore, 1) := by decide +kernel
theorem dX0_put_63 : decode cX0_put 63 = .ok (.aload_n 0, 1) := by decide +kernel
theorem dX0_put_64 : decode cX0_put 64 = .ok (.getfield 18, 3) := by decide +kernel
theorem dX0_put_67 : decode cX0_put 67 = .ok (.iload_n 1, 1) := by decide +kernel
theorem dX0_put_68 : decode cX0_put 68 = .ok (.iload 4, 2) := by decide +kernel
theorem dX0_put_70 : decode cX0_put 70 = .ok (.iastore, 1) := by decide +kernel
theorem dX0_put_71 : decode cX0_put 71 = .ok (.aload_n 0, 1) := by decide +kernel
theorem dX0_put_72 : decode cX0_put 72 = .ok (.getfield 21, 3) := by decide +kernel
theorem dX0_put_75 : decode cX0_put 75 = .ok (.iload_n 1, 1) := by decide +kernel
theorem dX0_put_76 : decode cX0_put 76 = .ok (.iload 5, 2) := by decide +kernel
theorem dX0_put_78 : decode cX0_put 78 = .ok (.iload 4, 2) := by decide +kernel
theorem dX0_put_80 : decode cX0_put 80 = .ok (.iadd, 1) := by decide +kernel
theorem dX0_put_81 : decode cX0_put 81 = .ok (.iastore, 1) := by decide +kernel
theorem dX0_put_82 : decode cX0_put 82 = .ok (.aload_n 0, 1) := by decide +kernel
theorem dX0_put_83 : decode cX0_put 83 = .ok (.getfield 24, 3) := by decide +kernel
theorem dX0_put_86 : decode cX0_put 86 = .ok (.iload_n 1, 1) := by decide +kernel
theorem dX0_put_87 : decode cX0_put 87 = .ok (.iconst 0, 1) := by decide +kernel
theorem dX0_put_88 : decode cX0_put 88 = .ok (.iastore, 1) := by decide +kernel
theorem dX0_put_89 : decode cX0_put 89 = .ok (.return_, 1) := by decide +kernel
theorem dX0_firstToEnd_0 : decode cX0_firstToEnd 0 = .ok (.bipush (-3), 2) := by decide +kernel
theorem dX0_firstToEnd_2 : decode cX0_firstToEnd 2 = .ok (.istore_n 1, 1) := by decide +kernel
theorem dX0_firstToEnd_3 : decode cX0_firstToEnd 3 = .ok (.iconst 0, 1) := by decide +kernel
theorem dX0_firstToEnd_4 : decode cX0_firstToEnd 4 = .ok (.istore_n 2, 1) := by decide +kernel
theorem dX0_firstToEnd_5 : decode cX0_firstToEnd 5 = .ok (.iload_n 2, 1) := by decide +kernel
theorem dX0_firstToEnd_6 : decode cX0_firstToEnd 6 = .ok (.bipush 16, 2) := by decide +kernel
theorem dX0_firstToEnd_8 : decode cX0_firstToEnd 8 = .ok (.if_icmp .ge 40, 3) := by decide +kernel
theorem dX0_firstToEnd_11 : decode cX0_firstToEnd 11 = .ok (.aload_n 0, 1) := by decide +kernel
theorem dX0_firstToEnd_12 : decode cX0_firstToEnd 12 = .ok (.getfield 9, 3) := by decide +kernel
theorem dX0_firstToEnd_15 : decode cX0_firstToEnd 15 = .ok (.iload_n 2, 1) := by decide +kernel
theorem dX0_firstToEnd_16 : decode cX0_firstToEnd 16 = .ok (.iaload, 1) := by decide +kernel
theorem dX0_firstToEnd_17 : decode cX0_firstToEnd 17 = .ok (.iconst 3, 1) := by decide +kernel
theorem dX0_firstToEnd_18 : decode cX0_firstToEnd 18 = .ok (.if_icmp .eq 24, 3) := by decide +kernel
theorem dX0_firstToEnd_21 : decode cX0_firstToEnd 21 = .ok (.iload_n 1, 1) := by decide +kernel
theorem dX0_firstToEnd_22 : decode cX0_firstToEnd 22 = .ok (.ifCond .lt 18, 3) := by decide +kernel
theorem dX0_firstToEnd_25 : decode cX0_firstToEnd 25 = .ok (.aload_n 0, 1) := by decide +kernel
theorem dX0_firstToEnd_26 : decode cX0_firstToEnd 26 = .ok (.getfield 21, 3) := by decide +kernel
theorem dX0_firstToEnd_29 : decode cX0_firstToEnd 29 = .ok (.iload_n 2, 1) := by decide +kernel
theorem dX0_firstToEnd_30 : decode cX0_firstToEnd 30 = .ok (.iaload, 1) := by decide +kernel
theorem dX0_firstToEnd_31 : decode cX0_firstToEnd 31 = .ok (.aload_n 0, 1) := by decide +kernel
theorem dX0_firstToEnd_32 : decode cX0_firstToEnd 32 = .ok (.getfield 21, 3) := by decide +kernel
theorem dX0_firstToEnd_35 : decode cX0_firstToEnd 35 = .ok (.iload_n 1, 1) := by decide +kernel
theorem dX0_firstToEnd_36 : decode cX0_firstToEnd 36 = .ok (.iaload, 1) := by decide +kernel
theorem dX0_firstToEnd_37 : decode cX0_firstToEnd 37 = .ok (.if_icmp .ge 5, 3) := by decide +kernel
theorem dX0_firstToEnd_40 : decode cX0_firstToEnd 40 = .ok (.iload_n 2, 1) := by decide +kernel
theorem dX0_firstToEnd_41 : decode cX0_firstToEnd 41 = .ok (.istore_n 1, 1) := by decide +kernel
theorem dX0_firstToEnd_42 : decode cX0_firstToEnd 42 = .ok (.iinc 2 1, 3) := by decide +kernel
theorem dX0_firstToEnd_45 : decode cX0_firstToEnd 45 = .ok (.goto (-40), 3) := by decide +kernel
theorem dX0_firstToEnd_48 : decode cX0_firstToEnd 48 = .ok (.iload_n 1, 1) := by decide +kernel
theorem dX0_firstToEnd_49 : decode cX0_firstToEnd 49 = .ok (.ireturn, 1) := by decide +kernel
theorem dX1_init_0 : decode cX1_init 0 = .ok (.aload_n 0, 1) := by decide +kernel
theorem dX1_init_1 : decode cX1_init 1 = .ok (.invokespecial 3, 3) := by decide +kernel
theorem dX1_init_4 : decode cX1_init 4 = .ok (.aload_n 0, 1) := by decide +kernel
theorem dX1_init_5 : decode cX1_init 5 = .ok (.iconst 5, 1) := by decide +kernel
theorem dX1_init_6 : decode cX1_init 6 = .ok (.newarray .int, 2) := by decide +kernel
theorem dX1_init_8 : decode cX1_init 8 = .ok (.putfield 9, 3) := by decide +kernel
theorem dX1_init_11 : decode cX1_init 11 = .ok (.return_, 1) := by decide +kernel
theorem dX1_begin_0 : decode cX1_begin 0 = .ok (.aload_n 0, 1) := by decide +kernel
theorem dX1_begin_1 : decode cX1_begin 1 = .ok (.iconst 0, 1) := by decide +kernel
theorem dX1_begin_2 : decode cX1_begin 2 = .ok (.putfield 15, 3) := by decide +kernel
theorem dX1_begin_5 : decode cX1_begin 5 = .ok (.aload_n 0, 1) := by decide +kernel
theorem dX1_begin_6 : decode cX1_begin 6 = .ok (.iconst 0, 1) := by decide +kernel
theorem dX1_begin_7 : decode cX1_begin 7 = .ok (.putfield 19, 3) := by decide +kernel
theorem dX1_begin_10 : decode cX1_begin 10 = .ok (.aload_n 0, 1) := by decide +kernel
theorem dX1_begin_11 : decode cX1_begin 11 = .ok (.iconst 0, 1) := by decide +kernel
theorem dX1_begin_12 : decode cX1_begin 12 = .ok (.putfield 22, 3) := by decide +kernel
theorem dX1_begin_15 : decode cX1_begin 15 = .ok (.aload_n 0, 1) := by decide +kernel
theorem dX1_begin_16 : decode cX1_begin 16 = .ok (.iconst 0, 1) := by decide +kernel
theorem dX1_begin_17 : decode cX1_begin 17 = .ok (.putfield 25, 3) := by decide +kernel
theorem dX1_begin_20 : decode cX1_begin 20 = .ok (.aload_n 0, 1) := by decide +kernel
theorem dX1_begin_21 : decode cX1_begin 21 = .ok (.iconst 0, 1) := by decide +kernel
theorem dX1_begin_22 : decode cX1_begin 22 = .ok (.putfield 28, 3) := by decide +kernel
theorem dX1_begin_25 : decode cX1_begin 25 = .ok (.return_, 1) := by decide +kernel
theorem dX1_noteFresh_0 : decode cX1_noteFresh 0 = .ok (.aload_n 0, 1) := by decide +kernel
theorem dX1_noteFresh_1 : decode cX1_noteFresh 1 = .ok (.getfield 15, 3) := by decide +kernel
theorem dX1_noteFresh_4 : decode cX1_noteFresh 4 = .ok (.aload_n 0, 1) := by decide +kernel
theorem dX1_noteFresh_5 : decode cX1_noteFresh 5 = .ok (.getfield 9, 3) := by decide +kernel
theorem dX1_noteFresh_8 : decode cX1_noteFresh 8 = .ok (.arraylength, 1) := by decide +kernel
theorem dX1_noteFresh_9 : decode cX1_noteFresh 9 = .ok (.if_icmp .ge 23, 3) := by decide +kernel
theorem dX1_noteFresh_12 : decode cX1_noteFresh 12 = .ok (.aload_n 0, 1) := by decide +kernel
theorem dX1_noteFresh_13 : decode cX1_noteFresh 13 = .ok (.getfield 9, 3) := by decide +kernel
theorem dX1_noteFresh_16 : decode cX1_noteFresh 16 = .ok (.aload_n 0, 1) := by decide +kernel
theorem dX1_noteFresh_17 : decode cX1_noteFresh 17 = .ok (.getfield 15, 3) := by decide +kernel
theorem dX1_noteFresh_20 : decode cX1_noteFresh 20 = .ok (.iload_n 1, 1) := by decide +kernel
theorem dX1_noteFresh_21 : decode cX1_noteFresh 21 = .ok (.iastore, 1) := by decide +kernel
theorem dX1_noteFresh_22 : decode cX1_noteFresh 22 = .ok (.aload_n 0, 1) := by decide +kernel
theorem dX1_noteFresh_23 : decode cX1_noteFresh 23 = .ok (.dup, 1) := by decide +kernel
theorem dX1_noteFresh_24 : decode cX1_noteFresh 24 = .ok (.getfield 15, 3) := by decide +kernel
theorem dX1_noteFresh_27 : decode cX1_noteFresh 27 = .ok (.iconst 1, 1) := by decide +kernel
theorem dX1_noteFresh_28 : decode cX1_noteFresh 28 = .ok (.iadd, 1) := by decide +kernel
theorem dX1_noteFresh_29 : decode cX1_noteFresh 29 = .ok (.putfield 15, 3) := by decide +kernel
theorem dX1_noteFresh_32 : decode cX1_noteFresh 32 = .ok (.return_, 1) := by decide +kernel
theorem dX1_freshNameAt_0 : decode cX1_freshNameAt 0 = .ok (.iload_n 1, 1) := by decide +kernel
theorem dX1_freshNameAt_1 : decode cX1_freshNameAt 1 = .ok (.ifCond .lt 20, 3) := by decide +kernel
theorem dX1_freshNameAt_4 : decode cX1_freshNameAt 4 = .ok (.iload_n 1, 1) := by decide +kernel
theorem dX1_freshNameAt_5 : decode cX1_freshNameAt 5 = .ok (.aload_n 0, 1) := by decide +kernel
theorem dX1_freshNameAt_6 : decode cX1_freshNameAt 6 = .ok (.getfield 15, 3) := by decide +kernel
theorem dX1_freshNameAt_9 : decode cX1_freshNameAt 9 = .ok (.if_icmp .ge 12, 3) := by decide +kernel
theorem dX1_freshNameAt_12 : decode cX1_freshNameAt 12 = .ok (.iload_n 1, 1) := by decide +kernel
theorem dX1_freshNameAt_13 : decode cX1_freshNameAt 13 = .ok (.aload_n 0, 1) := by decide +kernel
theorem dX1_freshNameAt_14 : decode cX1_freshNameAt 14 = .ok (.getfield 9, 3) := by decide +kernel
theorem dX1_freshNameAt_17 : decode cX1_freshNameAt 17 = .ok (.arraylength, 1) := by decide +kernel
theorem dX1_freshNameAt_18 : decode cX1_freshNameAt 18 = .ok (.if_icmp .lt 8, 3) := by decide +kernel
theorem dX1_freshNameAt_21 : decode cX1_freshNameAt 21 = .ok (.bipush (-3), 2) := by decide +kernel
theorem dX1_freshNameAt_23 : decode cX1_freshNameAt 23 = .ok (.goto 9, 3) := by decide +kernel
theorem dX1_freshNameAt_26 : decode cX1_freshNameAt 26 = .ok (.aload_n 0, 1) := by decide +kernel
theorem dX1_freshNameAt_27 : decode cX1_freshNameAt 27 = .ok (.getfield 9, 3) := by decide +kernel
theorem dX1_freshNameAt_30 : decode cX1_freshNameAt 30 = .ok (.iload_n 1, 1) := by decide +kernel
theorem dX1_freshNameAt_31 : decode cX1_freshNameAt 31 = .ok (.iaload, 1) := by decide +kernel
theorem dX1_freshNameAt_32 : decode cX1_freshNameAt 32 = .ok (.ireturn, 1) := by decide +kernel
set_option maxRecDepth 20000 in
theorem ggX2_init_X0_init : GoodIn wsX2_init wsX0_init := goodIn_r _ [13, 14, 2, 3, 15, 16, 17, 18, 19, 20, 21, 22, 23, 24, 25, 26, 27, 28, 29, 30] (by decide +kernel) (by decide +kernel)
set_option maxRecDepth 20000 in
theorem gX2_init_X0_init : GoodIn wsX2_init (wsX0_init) := ggX2_init_X0_init
theorem dX2_init_0 : decode cX2_init 0 = .ok (.aload_n 0, 1) := by decide +kernel
theorem dX2_init_1 : decode cX2_init 1 = .ok (.invokespecial 1, 3) := by decide +kernel
theorem dX2_init_4 : decode cX2_init 4 = .ok (.aload_n 0, 1) := by decide +kernel
theorem dX2_init_5 : decode cX2_init 5 = .ok (.new 7, 3) := by decide +kernel
theorem dX2_init_8 : decode cX2_init 8 = .ok (.dup, 1) := by decide +kernel
theorem dX2_init_9 : decode cX2_init 9 = .ok (.invokespecial 9, 3) := by decide +kernel
theorem dX2_init_12 : decode cX2_init 12 = .ok (.putfield 10, 3) := by decide +kernel
theorem dX2_init_15 : decode cX2_init 15 = .ok (.aload_n 0, 1) := by decide +kernel
theorem dX2_init_16 : decode cX2_init 16 = .ok (.iconst 1, 1) := by decide +kernel
theorem dX2_init_17 : decode cX2_init 17 = .ok (.putfield 16, 3) := by decide +kernel
theorem dX2_init_20 : decode cX2_init 20 = .ok (.aload_n 0, 1) := by decide +kernel
theorem dX2_init_21 : decode cX2_init 21 = .ok (.iload_n 1, 1) := by decide +kernel
theorem dX2_init_22 : decode cX2_init 22 = .ok (.putfield 20, 3) := by decide +kernel
theorem dX2_init_25 : decode cX2_init 25 = .ok (.aload_n 0, 1) := by decide +kernel
theorem dX2_init_26 : decode cX2_init 26 = .ok (.iload_n 2, 1) := by decide +kernel
theorem dX2_init_27 : decode cX2_init 27 = .ok (.putfield 24, 3) := by decide +kernel
theorem dX2_init_30 : decode cX2_init 30 = .ok (.return_, 1) := by decide +kernel
theorem dX2_distanceTo_0 : decode cX2_distanceTo 0 = .ok (.iload_n 1, 1) := by decide +kernel
theorem dX2_distanceTo_1 : decode cX2_distanceTo 1 = .ok (.aload_n 0, 1) := by decide +kernel
theorem dX2_distanceTo_2 : decode cX2_distanceTo 2 = .ok (.getfield 24, 3) := by decide +kernel
theorem dX2_distanceTo_5 : decode cX2_distanceTo 5 = .ok (.isub, 1) := by decide +kernel
theorem dX2_distanceTo_6 : decode cX2_distanceTo 6 = .ok (.invokestatic 27, 3) := by decide +kernel
theorem dX2_distanceTo_9 : decode cX2_distanceTo 9 = .ok (.ireturn, 1) := by decide +kernel
set_option maxRecDepth 20000 in
theorem ggX3_init_J7_fill_53178 : GoodIn wsX3_init wsJ7_fill_53178 := goodIn_r _ [13] (by decide +kernel) (by decide +kernel)
set_option maxRecDepth 20000 in
theorem gX3_init_J7_fill_53178 : GoodIn wsX3_init (va_wsS RX3 29 yJ7_fill_53178 wsJ7_fill_53178) := goodIn_app (goodIn_of _ (by decide +kernel)) ggX3_init_J7_fill_53178
theorem dX3_init_0 : decode cX3_init 0 = .ok (.aload_n 0, 1) := by decide +kernel
theorem dX3_init_1 : decode cX3_init 1 = .ok (.invokespecial 3, 3) := by decide +kernel
theorem dX3_init_4 : decode cX3_init 4 = .ok (.aload_n 0, 1) := by decide +kernel
theorem dX3_init_5 : decode cX3_init 5 = .ok (.bipush 16, 2) := by decide +kernel
theorem dX3_init_7 : decode cX3_init 7 = .ok (.newarray .int, 2) := by decide +kernel
theorem dX3_init_9 : decode cX3_init 9 = .ok (.putfield 9, 3) := by decide +kernel
theorem dX3_init_12 : decode cX3_init 12 = .ok (.aload_n 0, 1) := by decide +kernel
theorem dX3_init_13 : decode cX3_init 13 = .ok (.bipush 16, 2) := by decide +kernel
theorem dX3_init_15 : decode cX3_init 15 = .ok (.newarray .int, 2) := by decide +kernel
theorem dX3_init_17 : decode cX3_init 17 = .ok (.putfield 15, 3) := by decide +kernel
theorem dX3_init_20 : decode cX3_init 20 = .ok (.aload_n 0, 1) := by decide +kernel
theorem dX3_init_21 : decode cX3_init 21 = .ok (.bipush 16, 2) := by decide +kernel
theorem dX3_init_23 : decode cX3_init 23 = .ok (.newarray .int, 2) := by decide +kernel
theorem dX3_init_25 : decode cX3_init 25 = .ok (.putfield 18, 3) := by decide +kernel
theorem dX3_init_28 : decode cX3_init 28 = .ok (.aload_n 0, 1) := by decide +kernel
theorem dX3_init_29 : decode cX3_init 29 = .ok (.bipush 30, 2) := by decide +kernel
theorem dX3_init_31 : decode cX3_init 31 = .ok (.putfield 21, 3) := by decide +kernel
theorem dX3_init_34 : decode cX3_init 34 = .ok (.aload_n 0, 1) := by decide +kernel
theorem dX3_init_35 : decode cX3_init 35 = .ok (.iconst 1, 1) := by decide +kernel
theorem dX3_init_36 : decode cX3_init 36 = .ok (.putfield 25, 3) := by decide +kernel
theorem dX3_init_39 : decode cX3_init 39 = .ok (.aload_n 0, 1) := by decide +kernel
theorem dX3_init_40 : decode cX3_init 40 = .ok (.getfield 9, 3) := by decide +kernel
theorem dX3_init_43 : decode cX3_init 43 = .ok (.iconst 2, 1) := by decide +kernel
theorem dX3_init_44 : decode cX3_init 44 = .ok (.invokestatic 29, 3) := by decide +kernel
theorem dX3_init_47 : decode cX3_init 47 = .ok (.aload_n 0, 1) := by decide +kernel
theorem dX3_init_48 : decode cX3_init 48 = .ok (.getfield 15, 3) := by decide +kernel
theorem dX3_init_51 : decode cX3_init 51 = .ok (.bipush (-3), 2) := by decide +kernel
theorem dX3_init_53 : decode cX3_init 53 = .ok (.invokestatic 29, 3) := by decide +kernel
theorem dX3_init_56 : decode cX3_init 56 = .ok (.return_, 1) := by decide +kernel
theorem dX3_put_0 : decode cX3_put 0 = .ok (.iload_n 1, 1) := by decide +kernel
theorem dX3_put_1 : decode cX3_put 1 = .ok (.ifCond .lt 9, 3) := by decide +kernel
theorem dX3_put_4 : decode cX3_put 4 = .ok (.iload_n 1, 1) := by decide +kernel
theorem dX3_put_5 : decode cX3_put 5 = .ok (.bipush 16, 2) := by decide +kernel
theorem dX3_put_7 : decode cX3_put 7 = .ok (.if_icmp .lt 4, 3) := by decide +kernel
theorem dX3_put_10 : decode cX3_put 10 = .ok (.return_, 1) := by decide +kernel
theorem dX3_put_11 : decode cX3_put 11 = .ok (.aload_n 0, 1) := by decide +kernel
theorem dX3_put_12 : decode cX3_put 12 = .ok (.getfield 9, 3) := by decide +kernel
theorem dX3_put_15 : decode cX3_put 15 = .ok (.iload_n 1, 1) := by decide +kernel
theorem dX3_put_16 : decode cX3_put 16 = .ok (.iload_n 2, 1) := by decide +kernel
theorem dX3_put_17 : decode cX3_put 17 = .ok (.iastore, 1) := by decide +kernel
theorem dX3_put_18 : decode cX3_put 18 = .ok (.aload_n 0, 1) := by decide +kernel
theorem dX3_put_19 : decode cX3_put 19 = .ok (.getfield 15, 3) := by decide +kernel
theorem dX3_put_22 : decode cX3_put 22 = .ok (.iload_n 1, 1) := by decide +kernel
theorem dX3_put_23 : decode cX3_put 23 = .ok (.iload_n 3, 1) := by decide +kernel
theorem dX3_put_24 : decode cX3_put 24 = .ok (.iastore, 1) := by decide +kernel
theorem dX3_put_25 : decode cX3_put 25 = .ok (.aload_n 0, 1) := by decide +kernel
theorem dX3_put_26 : decode cX3_put 26 = .ok (.getfield 18, 3) := by decide +kernel
theorem dX3_put_29 : decode cX3_put 29 = .ok (.iload_n 1, 1) := by decide +kernel
theorem dX3_put_30 : decode cX3_put 30 = .ok (.iload 4, 2) := by decide +kernel
theorem dX3_put_32 : decode cX3_put 32 = .ok (.iastore, 1) := by decide +kernel
theorem dX3_put_33 : decode cX3_put 33 = .ok (.return_, 1) := by decide +kernel
theorem dX3_kindOf_0 : decode cX3_kindOf 0 = .ok (.iload_n 1, 1) := by decide +kernel
theorem dX3_kindOf_1 : decode cX3_kindOf 1 = .ok (.ifCond .lt 9, 3) := by decide +kernel
theorem dX3_kindOf_4 : decode cX3_kindOf 4 = .ok (.iload_n 1, 1) := by decide +kernel
theorem dX3_kindOf_5 : decode cX3_kindOf 5 = .ok (.bipush 16, 2) := by decide +kernel
theorem dX3_kindOf_7 : decode cX3_kindOf 7 = .ok (.if_icmp .lt 7, 3) := by decide +kernel
theorem dX3_kindOf_10 : decode cX3_kindOf 10 = .ok (.iconst 2, 1) := by decide +kernel
theorem dX3_kindOf_11 : decode cX3_kindOf 11 = .ok (.goto 9, 3) := by decide +kernel
theorem dX3_kindOf_14 : decode cX3_kindOf 14 = .ok (.aload_n 0, 1) := by decide +kernel
theorem dX3_kindOf_15 : decode cX3_kindOf 15 = .ok (.getfield 9, 3) := by decide +kernel
theorem dX3_kindOf_18 : decode cX3_kindOf 18 = .ok (.iload_n 1, 1) := by decide +kernel
theorem dX3_kindOf_19 : decode cX3_kindOf 19 = .ok (.iaload, 1) := by decide +kernel
theorem dX3_kindOf_20 : decode cX3_kindOf 20 = .ok (.ireturn, 1) := by decide +kernel
theorem dX3_valueOf_0 : decode cX3_valueOf 0 = .ok (.iload_n 1, 1) := by decide +kernel
theorem dX3_valueOf_1 : decode cX3_valueOf 1 = .ok (.ifCond .lt 9, 3) := by decide +kernel
theorem dX3_valueOf_4 : decode cX3_valueOf 4 = .ok (.iload_n 1, 1) := by decide +kernel
theorem dX3_valueOf_5 : decode cX3_valueOf 5 = .ok (.bipush 16, 2) := by decide +kernel
theorem dX3_valueOf_7 : decode cX3_valueOf 7 = .ok (.if_icmp .lt 8, 3) := by decide +kernel
theorem dX3_valueOf_10 : decode cX3_valueOf 10 = .ok (.bipush (-3), 2) := by decide +kernel
theorem dX3_valueOf_12 : decode cX3_valueOf 12 = .ok (.goto 9, 3) := by decide +kernel
theorem dX3_valueOf_15 : decode cX3_valueOf 15 = .ok (.aload_n 0, 1) := by decide +kernel
theorem dX3_valueOf_16 : decode cX3_valueOf 16 = .ok (.getfield 15, 3) := by decide +kernel
theorem dX3_valueOf_19 : decode cX3_valueOf 19 = .ok (.iload_n 1, 1) := by decide +kernel
theorem dX3_valueOf_20 : decode cX3_valueOf 20 = .ok (.iaload, 1) := by decide +kernel
theorem dX3_valueOf_21 : decode cX3_valueOf 21 = .ok (.ireturn, 1) := by decide +kernel
theorem dX3_lifeOf_0 : decode cX3_lifeOf 0 = .ok (.iload_n 1, 1) := by decide +kernel
theorem dX3_lifeOf_1 : decode cX3_lifeOf 1 = .ok (.ifCond .lt 19, 3) := by decide +kernel
theorem dX3_lifeOf_4 : decode cX3_lifeOf 4 = .ok (.iload_n 1, 1) := by decide +kernel
theorem dX3_lifeOf_5 : decode cX3_lifeOf 5 = .ok (.bipush 16, 2) := by decide +kernel
theorem dX3_lifeOf_7 : decode cX3_lifeOf 7 = .ok (.if_icmp .ge 13, 3) := by decide +kernel
theorem dX3_lifeOf_10 : decode cX3_lifeOf 10 = .ok (.aload_n 0, 1) := by decide +kernel
theorem dX3_lifeOf_11 : decode cX3_lifeOf 11 = .ok (.getfield 9, 3) := by decide +kernel
theorem dX3_lifeOf_14 : decode cX3_lifeOf 14 = .ok (.iload_n 1, 1) := by decide +kernel
theorem dX3_lifeOf_15 : decode cX3_lifeOf 15 = .ok (.iaload, 1) := by decide +kernel
theorem dX3_lifeOf_16 : decode cX3_lifeOf 16 = .ok (.iconst 2, 1) := by decide +kernel
theorem dX3_lifeOf_17 : decode cX3_lifeOf 17 = .ok (.if_icmp .ne 10, 3) := by decide +kernel
theorem dX3_lifeOf_20 : decode cX3_lifeOf 20 = .ok (.aload_n 0, 1) := by decide +kernel
theorem dX3_lifeOf_21 : decode cX3_lifeOf 21 = .ok (.getfield 21, 3) := by decide +kernel
theorem dX3_lifeOf_24 : decode cX3_lifeOf 24 = .ok (.goto 9, 3) := by decide +kernel
theorem dX3_lifeOf_27 : decode cX3_lifeOf 27 = .ok (.aload_n 0, 1) := by decide +kernel
theorem dX3_lifeOf_28 : decode cX3_lifeOf 28 = .ok (.getfield 18, 3) := by decide +kernel
theorem dX3_lifeOf_31 : decode cX3_lifeOf 31 = .ok (.iload_n 1, 1) := by decide +kernel
theorem dX3_lifeOf_32 : decode cX3_lifeOf 32 = .ok (.iaload, 1) := by decide +kernel
theorem dX3_lifeOf_33 : decode cX3_lifeOf 33 = .ok (.ireturn, 1) := by decide +kernel
set_option maxRecDepth 20000 in
theorem ggX4_init_X3_init : GoodIn wsX4_init wsX3_init := goodIn_r _ [22, 23, 2, 3, 24, 25, 26, 27, 28, 29, 30, 31, 32, 33, 49, 50, 51, 52, 53] (by decide +kernel) (by decide +kernel)
set_option maxRecDepth 20000 in
theorem gX4_init_X3_init : GoodIn wsX4_init (wsX3_init) := ggX4_init_X3_init
set_option maxRecDepth 20000 in
theorem ggX4_init_X1_init : GoodIn wsX4_init wsX1_init := goodIn_r _ [36, 37, 2, 3, 24, 38, 67, 68, 69, 70, 71, 72] (by decide +kernel) (by decide +kernel)
set_option maxRecDepth 20000 in
theorem gX4_init_X1_init : GoodIn wsX4_init (wsX1_init) := ggX4_init_X1_init
set_option maxRecDepth 20000 in
theorem ggX4_init_X0_init : GoodIn wsX4_init wsX0_init := goodIn_r _ [41, 42, 2, 3, 24, 43, 44, 45, 46, 47, 48, 31, 32, 33, 73, 74, 75, 76, 77, 78] (by decide +kernel) (by decide +kernel)
set_option maxRecDepth 20000 in
theorem gX4_init_X0_init : GoodIn wsX4_init (wsX0_init) := ggX4_init_X0_init
theorem dX4_init_0 : decode cX4_init 0 = .ok (.aload_n 0, 1) := by decide +kernel
theorem dX4_init_1 : decode cX4_init 1 = .ok (.invokespecial 1, 3) := by decide +kernel
theorem dX4_init_4 : decode cX4_init 4 = .ok (.aload_n 0, 1) := by decide +kernel
theorem dX4_init_5 : decode cX4_init 5 = .ok (.new 7, 3) := by decide +kernel
theorem dX4_init_8 : decode cX4_init 8 = .ok (.dup, 1) := by decide +kernel
theorem dX4_init_9 : decode cX4_init 9 = .ok (.invokespecial 9, 3) := by decide +kernel
theorem dX4_init_12 : decode cX4_init 12 = .ok (.putfield 10, 3) := by decide +kernel
theorem dX4_init_15 : decode cX4_init 15 = .ok (.aload_n 0, 1) := by decide +kernel
theorem dX4_init_16 : decode cX4_init 16 = .ok (.iconst 4, 1) := by decide +kernel
theorem dX4_init_17 : decode cX4_init 17 = .ok (.anewarray 16, 3) := by decide +kernel
theorem dX4_init_20 : decode cX4_init 20 = .ok (.putfield 18, 3) := by decide +kernel
theorem dX4_init_23 : decode cX4_init 23 = .ok (.aload_n 0, 1) := by decide +kernel
theorem dX4_init_24 : decode cX4_init 24 = .ok (.new 22, 3) := by decide +kernel
theorem dX4_init_27 : decode cX4_init 27 = .ok (.dup, 1) := by decide +kernel
theorem dX4_init_28 : decode cX4_init 28 = .ok (.invokespecial 24, 3) := by decide +kernel
theorem dX4_init_31 : decode cX4_init 31 = .ok (.putfield 25, 3) := by decide +kernel
theorem dX4_init_34 : decode cX4_init 34 = .ok (.aload_n 0, 1) := by decide +kernel
theorem dX4_init_35 : decode cX4_init 35 = .ok (.bipush (-3), 2) := by decide +kernel
theorem dX4_init_37 : decode cX4_init 37 = .ok (.putfield 29, 3) := by decide +kernel
theorem dX4_init_40 : decode cX4_init 40 = .ok (.aload_n 0, 1) := by decide +kernel
theorem dX4_init_41 : decode cX4_init 41 = .ok (.new 22, 3) := by decide +kernel
theorem dX4_init_44 : decode cX4_init 44 = .ok (.dup, 1) := by decide +kernel
theorem dX4_init_45 : decode cX4_init 45 = .ok (.invokespecial 24, 3) := by decide +kernel
theorem dX4_init_48 : decode cX4_init 48 = .ok (.putfield 33, 3) := by decide +kernel
theorem dX4_init_51 : decode cX4_init 51 = .ok (.aload_n 0, 1) := by decide +kernel
theorem dX4_init_52 : decode cX4_init 52 = .ok (.new 36, 3) := by decide +kernel
theorem dX4_init_55 : decode cX4_init 55 = .ok (.dup, 1) := by decide +kernel
theorem dX4_init_56 : decode cX4_init 56 = .ok (.invokespecial 38, 3) := by decide +kernel
theorem dX4_init_59 : decode cX4_init 59 = .ok (.putfield 39, 3) := by decide +kernel
theorem dX4_init_62 : decode cX4_init 62 = .ok (.return_, 1) := by decide +kernel
set_option maxRecDepth 20000 in
theorem ggX4_setAddress_X4_requireName : GoodIn wsX4_setAddress wsX4_requireName := goodIn_ca (goodIn_r _ [5, 6, 7] (by decide +kernel) (by decide +kernel)) (goodIn_sub (fun _ h => List.mem_cons_of_mem _ (List.mem_append_left _ (List.mem_append_right _ h))) (by decide +kernel))
set_option maxRecDepth 20000 in
theorem gX4_setAddress_X4_requireName : GoodIn wsX4_setAddress (va_wsS RX4 43 yX4_requireName wsX4_requireName) := goodIn_app (goodIn_of _ (by decide +kernel)) ggX4_setAddress_X4_requireName
set_option maxRecDepth 20000 in
theorem ggX4_setAddress_X4_requireWithin : GoodIn wsX4_setAddress wsX4_requireWithin := goodIn_ca (goodIn_r _ [10, 11, 12] (by decide +kernel) (by decide +kernel)) (goodIn_sub (fun _ h => List.mem_cons_of_mem _ (List.mem_append_right _ h)) (by decide +kernel))
set_option maxRecDepth 20000 in
theorem gX4_setAddress_X4_requireWithin : GoodIn wsX4_setAddress (va_wsS RX4 47 yX4_requireWithin wsX4_requireWithin) := goodIn_app (goodIn_of _ (by decide +kernel)) ggX4_setAddress_X4_requireWithin
set_option maxRecDepth 20000 in
theorem ggX4_setAddress_X3_put : GoodIn wsX4_setAddress wsX3_put := goodIn_r _ [17, 18, 19, 20, 34, 35, 36, 37, 38] (by decide +kernel) (by decide +kernel)
set_option maxRecDepth 20000 in
theorem gX4_setAddress_X3_put : GoodIn wsX4_setAddress (wsV RX4 51 RX3 yX3_put wsX3_put) := goodIn_app (goodIn_of _ (by decide +kernel)) ggX4_setAddress_X3_put
theorem dX4_setAddress_0 : decode cX4_setAddress 0 = .ok (.iload_n 1, 1) := by decide +kernel
theorem dX4_setAddress_1 : decode cX4_setAddress 1 = .ok (.invokestatic 43, 3) := by decide +kernel
theorem dX4_setAddress_4 : decode cX4_setAddress 4 = .ok (.iload_n 2, 1) := by decide +kernel
theorem dX4_setAddress_5 : decode cX4_setAddress 5 = .ok (.iconst 1, 1) := by decide +kernel
theorem dX4_setAddress_6 : decode cX4_setAddress 6 = .ok (.sipush 9999, 3) := by decide +kernel
theorem dX4_setAddress_9 : decode cX4_setAddress 9 = .ok (.invokestatic 47, 3) := by decide +kernel
theorem dX4_setAddress_12 : decode cX4_setAddress 12 = .ok (.iload_n 3, 1) := by decide +kernel
theorem dX4_setAddress_13 : decode cX4_setAddress 13 = .ok (.iconst 1, 1) := by decide +kernel
theorem dX4_setAddress_14 : decode cX4_setAddress 14 = .ok (.sipush 1000, 3) := by decide +kernel
theorem dX4_setAddress_17 : decode cX4_setAddress 17 = .ok (.invokestatic 47, 3) := by decide +kernel
theorem dX4_setAddress_20 : decode cX4_setAddress 20 = .ok (.aload_n 0, 1) := by decide +kernel
theorem dX4_setAddress_21 : decode cX4_setAddress 21 = .ok (.getfield 10, 3) := by decide +kernel
theorem dX4_setAddress_24 : decode cX4_setAddress 24 = .ok (.iload_n 1, 1) := by decide +kernel
theorem dX4_setAddress_25 : decode cX4_setAddress 25 = .ok (.iconst 0, 1) := by decide +kernel
theorem dX4_setAddress_26 : decode cX4_setAddress 26 = .ok (.iload_n 2, 1) := by decide +kernel
theorem dX4_setAddress_27 : decode cX4_setAddress 27 = .ok (.iload_n 3, 1) := by decide +kernel
theorem dX4_setAddress_28 : decode cX4_setAddress 28 = .ok (.invokevirtual 51, 3) := by decide +kernel
theorem dX4_setAddress_31 : decode cX4_setAddress 31 = .ok (.return_, 1) := by decide +kernel
set_option maxRecDepth 20000 in
theorem ggX4_setAlias_X4_requireName : GoodIn wsX4_setAlias wsX4_requireName := goodIn_ca (goodIn_r _ [7, 8, 9] (by decide +kernel) (by decide +kernel)) (goodIn_sub (fun _ h => List.mem_cons_of_mem _ (List.mem_append_right _ h)) (by decide +kernel))
set_option maxRecDepth 20000 in
theorem gX4_setAlias_X4_requireName : GoodIn wsX4_setAlias (va_wsS RX4 43 yX4_requireName wsX4_requireName) := goodIn_app (goodIn_of _ (by decide +kernel)) ggX4_setAlias_X4_requireName
set_option maxRecDepth 20000 in
theorem ggX4_setAlias_X4_requireWithin : GoodIn wsX4_setAlias wsX4_requireWithin := goodIn_ca (goodIn_r _ [12, 1, 2] (by decide +kernel) (by decide +kernel)) (goodIn_sub (fun _ h => List.mem_cons_of_mem _ (List.mem_append_left _ (List.mem_append_right _ h))) (by decide +kernel))
set_option maxRecDepth 20000 in
theorem gX4_setAlias_X4_requireWithin : GoodIn wsX4_setAlias (va_wsS RX4 47 yX4_requireWithin wsX4_requireWithin) := goodIn_app (goodIn_of _ (by decide +kernel)) ggX4_setAlias_X4_requireWithin
set_option maxRecDepth 20000 in
theorem ggX4_setAlias_X3_put : GoodIn wsX4_setAlias wsX3_put := goodIn_r _ [17, 18, 19, 20, 34, 35, 36, 37, 38] (by decide +kernel) (by decide +kernel)
set_option maxRecDepth 20000 in
theorem gX4_setAlias_X3_put : GoodIn wsX4_setAlias (wsV RX4 51 RX3 yX3_put wsX3_put) := goodIn_app (goodIn_of _ (by decide +kernel)) ggX4_setAlias_X3_put
theorem dX4_setAlias_0 : decode cX4_setAlias 0 = .ok (.iload_n 1, 1) := by decide +kernel
theorem dX4_setAlias_1 : decode cX4_setAlias 1 = .ok (.invokestatic 43, 3) := by decide +kernel
theorem dX4_setAlias_4 : decode cX4_setAlias 4 = .ok (.iload_n 2, 1) := by decide +kernel
theorem dX4_setAlias_5 : decode cX4_setAlias 5 = .ok (.invokestatic 43, 3) := by decide +kernel
theorem dX4_setAlias_8 : decode cX4_setAlias 8 = .ok (.iload_n 2, 1) := by decide +kernel
theorem dX4_setAlias_9 : decode cX4_setAlias 9 = .ok (.iload_n 1, 1) := by decide +kernel
theorem dX4_setAlias_10 : decode cX4_setAlias 10 = .ok (.if_icmp .ne 13, 3) := by decide +kernel
theorem dX4_setAlias_13 : decode cX4_setAlias 13 = .ok (.new 55, 3) := by decide +kernel
theorem dX4_setAlias_16 : decode cX4_setAlias 16 = .ok (.dup, 1) := by decide +kernel
theorem dX4_setAlias_17 : decode cX4_setAlias 17 = .ok (.ldc 57, 2) := by decide +kernel
theorem dX4_setAlias_19 : decode cX4_setAlias 19 = .ok (.invokespecial 59, 3) := by decide +kernel
theorem dX4_setAlias_22 : decode cX4_setAlias 22 = .ok (.athrow, 1) := by decide +kernel
theorem dX4_setAlias_23 : decode cX4_setAlias 23 = .ok (.iload_n 3, 1) := by decide +kernel
theorem dX4_setAlias_24 : decode cX4_setAlias 24 = .ok (.iconst 1, 1) := by decide +kernel
theorem dX4_setAlias_25 : decode cX4_setAlias 25 = .ok (.sipush 1000, 3) := by decide +kernel
theorem dX4_setAlias_28 : decode cX4_setAlias 28 = .ok (.invokestatic 47, 3) := by decide +kernel
theorem dX4_setAlias_31 : decode cX4_setAlias 31 = .ok (.aload_n 0, 1) := by decide +kernel
theorem dX4_setAlias_32 : decode cX4_setAlias 32 = .ok (.getfield 10, 3) := by decide +kernel
theorem dX4_setAlias_35 : decode cX4_setAlias 35 = .ok (.iload_n 1, 1) := by decide +kernel
theorem dX4_setAlias_36 : decode cX4_setAlias 36 = .ok (.iconst 1, 1) := by decide +kernel
theorem dX4_setAlias_37 : decode cX4_setAlias 37 = .ok (.iload_n 2, 1) := by decide +kernel
theorem dX4_setAlias_38 : decode cX4_setAlias 38 = .ok (.iload_n 3, 1) := by decide +kernel
theorem dX4_setAlias_39 : decode cX4_setAlias 39 = .ok (.invokevirtual 51, 3) := by decide +kernel
theorem dX4_setAlias_42 : decode cX4_setAlias 42 = .ok (.return_, 1) := by decide +kernel
set_option maxRecDepth 20000 in
theorem ggX4_remove_X4_requireName : GoodIn wsX4_remove wsX4_requireName := goodIn_ca (goodIn_r _ [5, 6, 7] (by decide +kernel) (by decide +kernel)) (goodIn_sub (fun _ h => List.mem_cons_of_mem _ (List.mem_append_right _ h)) (by decide +kernel))
set_option maxRecDepth 20000 in
theorem gX4_remove_X4_requireName : GoodIn wsX4_remove (va_wsS RX4 43 yX4_requireName wsX4_requireName) := goodIn_app (goodIn_of _ (by decide +kernel)) ggX4_remove_X4_requireName
set_option maxRecDepth 20000 in
theorem ggX4_remove_X3_kindOf : GoodIn wsX4_remove wsX3_kindOf := goodIn_r _ [12, 13, 33, 34, 35, 36, 37] (by decide +kernel) (by decide +kernel)
set_option maxRecDepth 20000 in
theorem gX4_remove_X3_kindOf : GoodIn wsX4_remove (wsV RX4 62 RX3 yX3_kindOf wsX3_kindOf) := goodIn_app (goodIn_of _ (by decide +kernel)) ggX4_remove_X3_kindOf
set_option maxRecDepth 20000 in
theorem ggX4_remove_X3_put : GoodIn wsX4_remove wsX3_put := goodIn_r _ [17, 13, 18, 19, 33, 34, 35, 36, 37] (by decide +kernel) (by decide +kernel)
set_option maxRecDepth 20000 in
theorem gX4_remove_X3_put : GoodIn wsX4_remove (wsV RX4 51 RX3 yX3_put wsX3_put) := goodIn_app (goodIn_of _ (by decide +kernel)) ggX4_remove_X3_put
theorem dX4_remove_0 : decode cX4_remove 0 = .ok (.iload_n 1, 1) := by decide +kernel
theorem dX4_remove_1 : decode cX4_remove 1 = .ok (.invokestatic 43, 3) := by decide +kernel
theorem dX4_remove_4 : decode cX4_remove 4 = .ok (.aload_n 0, 1) := by decide +kernel
theorem dX4_remove_5 : decode cX4_remove 5 = .ok (.getfield 10, 3) := by decide +kernel
theorem dX4_remove_8 : decode cX4_remove 8 = .ok (.iload_n 1, 1) := by decide +kernel
theorem dX4_remove_9 : decode cX4_remove 9 = .ok (.invokevirtual 62, 3) := by decide +kernel
theorem dX4_remove_12 : decode cX4_remove 12 = .ok (.iconst 2, 1) := by decide +kernel
theorem dX4_remove_13 : decode cX4_remove 13 = .ok (.if_icmp .eq 7, 3) := by decide +kernel
theorem dX4_remove_16 : decode cX4_remove 16 = .ok (.iconst 1, 1) := by decide +kernel
theorem dX4_remove_17 : decode cX4_remove 17 = .ok (.goto 4, 3) := by decide +kernel
theorem dX4_remove_20 : decode cX4_remove 20 = .ok (.iconst 0, 1) := by decide +kernel
theorem dX4_remove_21 : decode cX4_remove 21 = .ok (.istore_n 2, 1) := by decide +kernel
theorem dX4_remove_22 : decode cX4_remove 22 = .ok (.aload_n 0, 1) := by decide +kernel
theorem dX4_remove_23 : decode cX4_remove 23 = .ok (.getfield 10, 3) := by decide +kernel
theorem dX4_remove_26 : decode cX4_remove 26 = .ok (.iload_n 1, 1) := by decide +kernel
theorem dX4_remove_27 : decode cX4_remove 27 = .ok (.iconst 2, 1) := by decide +kernel
theorem dX4_remove_28 : decode cX4_remove 28 = .ok (.bipush (-3), 2) := by decide +kernel
theorem dX4_remove_30 : decode cX4_remove 30 = .ok (.iconst 0, 1) := by decide +kernel
theorem dX4_remove_31 : decode cX4_remove 31 = .ok (.invokevirtual 51, 3) := by decide +kernel
theorem dX4_remove_34 : decode cX4_remove 34 = .ok (.iload_n 2, 1) := by decide +kernel
theorem dX4_remove_35 : decode cX4_remove 35 = .ok (.ireturn, 1) := by decide +kernel
set_option maxRecDepth 20000 in
theorem ggX4_setBound_X4_requireWithin : GoodIn wsX4_setBound wsX4_requireWithin := goodIn_ca (goodIn_r _ [6, 7, 8] (by decide +kernel) (by decide +kernel)) (goodIn_sub (fun _ h => List.mem_cons_of_mem _ (List.mem_append_right _ h)) (by decide +kernel))
set_option maxRecDepth 20000 in
theorem gX4_setBound_X4_requireWithin : GoodIn wsX4_setBound (va_wsS RX4 47 yX4_requireWithin wsX4_requireWithin) := goodIn_app (goodIn_of _ (by decide +kernel)) ggX4_setBound_X4_requireWithin
theorem dX4_setBound_0 : decode cX4_setBound 0 = .ok (.iload_n 1, 1) := by decide +kernel
theorem dX4_setBound_1 : decode cX4_setBound 1 = .ok (.iconst 1, 1) := by decide +kernel
theorem dX4_setBound_2 : decode cX4_setBound 2 = .ok (.sipush 300, 3) := by decide +kernel
theorem dX4_setBound_5 : decode cX4_setBound 5 = .ok (.invokestatic 47, 3) := by decide +kernel
theorem dX4_setBound_8 : decode cX4_setBound 8 = .ok (.aload_n 0, 1) := by decide +kernel
theorem dX4_setBound_9 : decode cX4_setBound 9 = .ok (.getfield 10, 3) := by decide +kernel
theorem dX4_setBound_12 : decode cX4_setBound 12 = .ok (.getfield 66, 3) := by decide +kernel
theorem dX4_setBound_15 : decode cX4_setBound 15 = .ok (.istore_n 2, 1) := by decide +kernel
theorem dX4_setBound_16 : decode cX4_setBound 16 = .ok (.aload_n 0, 1) := by decide +kernel
theorem dX4_setBound_17 : decode cX4_setBound 17 = .ok (.getfield 10, 3) := by decide +kernel
theorem dX4_setBound_20 : decode cX4_setBound 20 = .ok (.iload_n 1, 1) := by decide +kernel
theorem dX4_setBound_21 : decode cX4_setBound 21 = .ok (.putfield 66, 3) := by decide +kernel
theorem dX4_setBound_24 : decode cX4_setBound 24 = .ok (.iload_n 2, 1) := by decide +kernel
theorem dX4_setBound_25 : decode cX4_setBound 25 = .ok (.ireturn, 1) := by decide +kernel
theorem dX4_setAuthority_0 : decode cX4_setAuthority 0 = .ok (.aload_n 0, 1) := by decide +kernel
theorem dX4_setAuthority_1 : decode cX4_setAuthority 1 = .ok (.getfield 10, 3) := by decide +kernel
theorem dX4_setAuthority_4 : decode cX4_setAuthority 4 = .ok (.getfield 69, 3) := by decide +kernel
theorem dX4_setAuthority_7 : decode cX4_setAuthority 7 = .ok (.istore_n 2, 1) := by decide +kernel
theorem dX4_setAuthority_8 : decode cX4_setAuthority 8 = .ok (.aload_n 0, 1) := by decide +kernel
theorem dX4_setAuthority_9 : decode cX4_setAuthority 9 = .ok (.getfield 10, 3) := by decide +kernel
theorem dX4_setAuthority_12 : decode cX4_setAuthority 12 = .ok (.iload_n 1, 1) := by decide +kernel
theorem dX4_setAuthority_13 : decode cX4_setAuthority 13 = .ok (.putfield 69, 3) := by decide +kernel
theorem dX4_setAuthority_16 : decode cX4_setAuthority 16 = .ok (.iload_n 2, 1) := by decide +kernel
theorem dX4_setAuthority_17 : decode cX4_setAuthority 17 = .ok (.ireturn, 1) := by decide +kernel
set_option maxRecDepth 20000 in
theorem ggX4_truth_X4_requireName : GoodIn wsX4_truth wsX4_requireName := goodIn_ca (goodIn_r _ [5, 6, 7] (by decide +kernel) (by decide +kernel)) (goodIn_sub (fun _ h => List.mem_cons_of_mem _ (List.mem_append_right _ h)) (by decide +kernel))
set_option maxRecDepth 20000 in
theorem gX4_truth_X4_requireName : GoodIn wsX4_truth (va_wsS RX4 43 yX4_requireName wsX4_requireName) := goodIn_app (goodIn_of _ (by decide +kernel)) ggX4_truth_X4_requireName
set_option maxRecDepth 20000 in
theorem ggX4_truth_X3_kindOf : GoodIn wsX4_truth wsX3_kindOf := goodIn_r _ [12, 13, 32, 33, 34, 35, 36] (by decide +kernel) (by decide +kernel)
set_option maxRecDepth 20000 in
theorem gX4_truth_X3_kindOf : GoodIn wsX4_truth (wsV RX4 62 RX3 yX3_kindOf wsX3_kindOf) := goodIn_app (goodIn_of _ (by decide +kernel)) ggX4_truth_X3_kindOf
set_option maxRecDepth 20000 in
theorem ggX4_truth_X3_valueOf : GoodIn wsX4_truth wsX3_valueOf := goodIn_r _ [17, 18, 32, 33, 34, 35, 36] (by decide +kernel) (by decide +kernel)
set_option maxRecDepth 20000 in
theorem gX4_truth_X3_valueOf : GoodIn wsX4_truth (wsV RX4 73 RX3 yX3_valueOf wsX3_valueOf) := goodIn_app (goodIn_of _ (by decide +kernel)) ggX4_truth_X3_valueOf
theorem dX4_truth_0 : decode cX4_truth 0 = .ok (.iload_n 1, 1) := by decide +kernel
theorem dX4_truth_1 : decode cX4_truth 1 = .ok (.invokestatic 43, 3) := by decide +kernel
theorem dX4_truth_4 : decode cX4_truth 4 = .ok (.iload_n 1, 1) := by decide +kernel
theorem dX4_truth_5 : decode cX4_truth 5 = .ok (.istore_n 2, 1) := by decide +kernel
theorem dX4_truth_6 : decode cX4_truth 6 = .ok (.iconst 0, 1) := by decide +kernel
theorem dX4_truth_7 : decode cX4_truth 7 = .ok (.istore_n 3, 1) := by decide +kernel
theorem dX4_truth_8 : decode cX4_truth 8 = .ok (.iload_n 3, 1) := by decide +kernel
theorem dX4_truth_9 : decode cX4_truth 9 = .ok (.iconst 4, 1) := by decide +kernel
theorem dX4_truth_10 : decode cX4_truth 10 = .ok (.if_icmp .gt 50, 3) := by decide +kernel
theorem dX4_truth_13 : decode cX4_truth 13 = .ok (.aload_n 0, 1) := by decide +kernel
theorem dX4_truth_14 : decode cX4_truth 14 = .ok (.getfield 10, 3) := by decide +kernel
theorem dX4_truth_17 : decode cX4_truth 17 = .ok (.iload_n 2, 1) := by decide +kernel
theorem dX4_truth_18 : decode cX4_truth 18 = .ok (.invokevirtual 62, 3) := by decide +kernel
theorem dX4_truth_21 : decode cX4_truth 21 = .ok (.istore 4, 2) := by decide +kernel
theorem dX4_truth_23 : decode cX4_truth 23 = .ok (.aload_n 0, 1) := by decide +kernel
theorem dX4_truth_24 : decode cX4_truth 24 = .ok (.getfield 10, 3) := by decide +kernel
theorem dX4_truth_27 : decode cX4_truth 27 = .ok (.iload_n 2, 1) := by decide +kernel
theorem dX4_truth_28 : decode cX4_truth 28 = .ok (.invokevirtual 73, 3) := by decide +kernel
theorem dX4_truth_31 : decode cX4_truth 31 = .ok (.istore 5, 2) := by decide +kernel
theorem dX4_truth_33 : decode cX4_truth 33 = .ok (.iload 4, 2) := by decide +kernel
theorem dX4_truth_35 : decode cX4_truth 35 = .ok (.iconst 1, 1) := by decide +kernel
theorem dX4_truth_36 : decode cX4_truth 36 = .ok (.if_icmp .eq 15, 3) := by decide +kernel
theorem dX4_truth_39 : decode cX4_truth 39 = .ok (.iload 4, 2) := by decide +kernel
theorem dX4_truth_41 : decode cX4_truth 41 = .ok (.ifCond .ne 8, 3) := by decide +kernel
theorem dX4_truth_44 : decode cX4_truth 44 = .ok (.iload 5, 2) := by decide +kernel
theorem dX4_truth_46 : decode cX4_truth 46 = .ok (.goto 4, 3) := by decide +kernel
theorem dX4_truth_49 : decode cX4_truth 49 = .ok (.iconst (-1), 1) := by decide +kernel
theorem dX4_truth_50 : decode cX4_truth 50 = .ok (.ireturn, 1) := by decide +kernel
theorem dX4_truth_51 : decode cX4_truth 51 = .ok (.iload 5, 2) := by decide +kernel
theorem dX4_truth_53 : decode cX4_truth 53 = .ok (.istore_n 2, 1) := by decide +kernel
theorem dX4_truth_54 : decode cX4_truth 54 = .ok (.iinc 3 1, 3) := by decide +kernel
theorem dX4_truth_57 : decode cX4_truth 57 = .ok (.goto (-49), 3) := by decide +kernel
theorem dX4_truth_60 : decode cX4_truth 60 = .ok (.bipush (-2), 2) := by decide +kernel
theorem dX4_truth_62 : decode cX4_truth 62 = .ok (.ireturn, 1) := by decide +kernel
set_option maxRecDepth 20000 in
theorem ggX4_addSite_X4_requireWithin : GoodIn wsX4_addSite wsX4_requireWithin := goodIn_ca (goodIn_r _ [11, 12, 13] (by decide +kernel) (by decide +kernel)) (goodIn_sub (fun _ h => List.mem_cons_of_mem _ (List.mem_append_right _ h)) (by decide +kernel))
set_option maxRecDepth 20000 in
theorem gX4_addSite_X4_requireWithin : GoodIn wsX4_addSite (va_wsS RX4 47 yX4_requireWithin wsX4_requireWithin) := goodIn_app (goodIn_of _ (by decide +kernel)) ggX4_addSite_X4_requireWithin
set_option maxRecDepth 20000 in
theorem ggX4_addSite_X2_init : GoodIn wsX4_addSite wsX2_init := goodIn_r _ [16, 17, 18, 19, 20, 21, 22, 23, 24, 25, 26, 27, 28, 29, 30, 31, 32, 33, 34, 35, 36, 37, 38, 39, 40, 58, 59, 60, 61, 62, 63, 54, 55, 56, 57] (by decide +kernel) (by decide +kernel)
set_option maxRecDepth 20000 in
theorem gX4_addSite_X2_init : GoodIn wsX4_addSite (wsX2_init) := ggX4_addSite_X2_init
theorem dX4_addSite_0 : decode cX4_addSite 0 = .ok (.iload_n 1, 1) := by decide +kernel
theorem dX4_addSite_1 : decode cX4_addSite 1 = .ok (.iconst 0, 1) := by decide +kernel
theorem dX4_addSite_2 : decode cX4_addSite 2 = .ok (.bipush 99, 2) := by decide +kernel
theorem dX4_addSite_4 : decode cX4_addSite 4 = .ok (.invokestatic 47, 3) := by decide +kernel
theorem dX4_addSite_7 : decode cX4_addSite 7 = .ok (.aload_n 0, 1) := by decide +kernel
theorem dX4_addSite_8 : decode cX4_addSite 8 = .ok (.getfield 76, 3) := by decide +kernel
theorem dX4_addSite_11 : decode cX4_addSite 11 = .ok (.aload_n 0, 1) := by decide +kernel
theorem dX4_addSite_12 : decode cX4_addSite 12 = .ok (.getfield 18, 3) := by decide +kernel
theorem dX4_addSite_15 : decode cX4_addSite 15 = .ok (.arraylength, 1) := by decide +kernel
theorem dX4_addSite_16 : decode cX4_addSite 16 = .ok (.if_icmp .lt 13, 3) := by decide +kernel
theorem dX4_addSite_19 : decode cX4_addSite 19 = .ok (.new 79, 3) := by decide +kernel
theorem dX4_addSite_22 : decode cX4_addSite 22 = .ok (.dup, 1) := by decide +kernel
theorem dX4_addSite_23 : decode cX4_addSite 23 = .ok (.ldc 81, 2) := by decide +kernel
theorem dX4_addSite_25 : decode cX4_addSite 25 = .ok (.invokespecial 83, 3) := by decide +kernel
theorem dX4_addSite_28 : decode cX4_addSite 28 = .ok (.athrow, 1) := by decide +kernel
theorem dX4_addSite_29 : decode cX4_addSite 29 = .ok (.aload_n 0, 1) := by decide +kernel
theorem dX4_addSite_30 : decode cX4_addSite 30 = .ok (.getfield 76, 3) := by decide +kernel
theorem dX4_addSite_33 : decode cX4_addSite 33 = .ok (.istore_n 2, 1) := by decide +kernel
theorem dX4_addSite_34 : decode cX4_addSite 34 = .ok (.aload_n 0, 1) := by decide +kernel
theorem dX4_addSite_35 : decode cX4_addSite 35 = .ok (.getfield 18, 3) := by decide +kernel
theorem dX4_addSite_38 : decode cX4_addSite 38 = .ok (.iload_n 2, 1) := by decide +kernel
theorem dX4_addSite_39 : decode cX4_addSite 39 = .ok (.new 16, 3) := by decide +kernel
theorem dX4_addSite_42 : decode cX4_addSite 42 = .ok (.dup, 1) := by decide +kernel
theorem dX4_addSite_43 : decode cX4_addSite 43 = .ok (.iload_n 2, 1) := by decide +kernel
theorem dX4_addSite_44 : decode cX4_addSite 44 = .ok (.iload_n 1, 1) := by decide +kernel
theorem dX4_addSite_45 : decode cX4_addSite 45 = .ok (.invokespecial 84, 3) := by decide +kernel
theorem dX4_addSite_48 : decode cX4_addSite 48 = .ok (.aastore, 1) := by decide +kernel
theorem dX4_addSite_49 : decode cX4_addSite 49 = .ok (.aload_n 0, 1) := by decide +kernel
theorem dX4_addSite_50 : decode cX4_addSite 50 = .ok (.dup, 1) := by decide +kernel
theorem dX4_addSite_51 : decode cX4_addSite 51 = .ok (.getfield 76, 3) := by decide +kernel
theorem dX4_addSite_54 : decode cX4_addSite 54 = .ok (.iconst 1, 1) := by decide +kernel
theorem dX4_addSite_55 : decode cX4_addSite 55 = .ok (.iadd, 1) := by decide +kernel
theorem dX4_addSite_56 : decode cX4_addSite 56 = .ok (.putfield 76, 3) := by decide +kernel
theorem dX4_addSite_59 : decode cX4_addSite 59 = .ok (.iload_n 2, 1) := by decide +kernel
theorem dX4_addSite_60 : decode cX4_addSite 60 = .ok (.ireturn, 1) := by decide +kernel
set_option maxRecDepth 20000 in
theorem ggX4_announce_X4_siteNumbered : GoodIn wsX4_announce wsX4_siteNumbered := goodIn_ca (goodIn_r _ [6, 7, 8, 9, 14, 15, 16, 17, 18, 19, 20, 21, 22, 23, 24, 25, 26] (by decide +kernel) (by decide +kernel)) (goodIn_sub (fun _ h => List.mem_cons_of_mem _ (List.mem_append_right _ h)) (by decide +kernel))
set_option maxRecDepth 20000 in
theorem gX4_announce_X4_siteNumbered : GoodIn wsX4_announce (wsV RX4 87 RX4 yX4_siteNumbered wsX4_siteNumbered) := goodIn_app (goodIn_of _ (by decide +kernel)) ggX4_announce_X4_siteNumbered
theorem dX4_announce_0 : decode cX4_announce 0 = .ok (.aload_n 0, 1) := by decide +kernel
theorem dX4_announce_1 : decode cX4_announce 1 = .ok (.iload_n 1, 1) := by decide +kernel
theorem dX4_announce_2 : decode cX4_announce 2 = .ok (.invokevirtual 87, 3) := by decide +kernel
theorem dX4_announce_5 : decode cX4_announce 5 = .ok (.astore_n 3, 1) := by decide +kernel
theorem dX4_announce_6 : decode cX4_announce 6 = .ok (.aload_n 3, 1) := by decide +kernel
theorem dX4_announce_7 : decode cX4_announce 7 = .ok (.getfield 91, 3) := by decide +kernel
theorem dX4_announce_10 : decode cX4_announce 10 = .ok (.istore 4, 2) := by decide +kernel
theorem dX4_announce_12 : decode cX4_announce 12 = .ok (.aload_n 3, 1) := by decide +kernel
theorem dX4_announce_13 : decode cX4_announce 13 = .ok (.iload_n 2, 1) := by decide +kernel
theorem dX4_announce_14 : decode cX4_announce 14 = .ok (.putfield 91, 3) := by decide +kernel
theorem dX4_announce_17 : decode cX4_announce 17 = .ok (.iload 4, 2) := by decide +kernel
theorem dX4_announce_19 : decode cX4_announce 19 = .ok (.ireturn, 1) := by decide +kernel
set_option maxRecDepth 20000 in
theorem ggX4_siteFor_X4_requireWithin : GoodIn wsX4_siteFor wsX4_requireWithin := goodIn_ca (goodIn_r _ [5, 6, 7] (by decide +kernel) (by decide +kernel)) (goodIn_sub (fun _ h => List.mem_cons_of_mem _ (List.mem_append_right _ h)) (by decide +kernel))
set_option maxRecDepth 20000 in
theorem gX4_siteFor_X4_requireWithin : GoodIn wsX4_siteFor (va_wsS RX4 47 yX4_requireWithin wsX4_requireWithin) := goodIn_app (goodIn_of _ (by decide +kernel)) ggX4_siteFor_X4_requireWithin
set_option maxRecDepth 20000 in
theorem ggX4_siteFor_X4_nearestSite : GoodIn wsX4_siteFor wsX4_nearestSite := goodIn_r _ [11, 12, 13, 14, 15, 16, 17, 18, 19, 20, 21, 22, 23, 28, 29, 30, 31, 32, 33, 34, 35, 36, 37, 38, 39, 40, 24, 25, 26, 27] (by decide +kernel) (by decide +kernel)
set_option maxRecDepth 20000 in
theorem gX4_siteFor_X4_nearestSite : GoodIn wsX4_siteFor (wsV RX4 94 RX4 yX4_nearestSite wsX4_nearestSite) := goodIn_app (goodIn_of _ (by decide +kernel)) ggX4_siteFor_X4_nearestSite
theorem dX4_siteFor_0 : decode cX4_siteFor 0 = .ok (.iload_n 1, 1) := by decide +kernel
theorem dX4_siteFor_1 : decode cX4_siteFor 1 = .ok (.iconst 0, 1) := by decide +kernel
theorem dX4_siteFor_2 : decode cX4_siteFor 2 = .ok (.bipush 99, 2) := by decide +kernel
theorem dX4_siteFor_4 : decode cX4_siteFor 4 = .ok (.invokestatic 47, 3) := by decide +kernel
theorem dX4_siteFor_7 : decode cX4_siteFor 7 = .ok (.aload_n 0, 1) := by decide +kernel
theorem dX4_siteFor_8 : decode cX4_siteFor 8 = .ok (.iload_n 1, 1) := by decide +kernel
theorem dX4_siteFor_9 : decode cX4_siteFor 9 = .ok (.invokevirtual 94, 3) := by decide +kernel
theorem dX4_siteFor_12 : decode cX4_siteFor 12 = .ok (.astore_n 2, 1) := by decide +kernel
theorem dX4_siteFor_13 : decode cX4_siteFor 13 = .ok (.aload_n 2, 1) := by decide +kernel
theorem dX4_siteFor_14 : decode cX4_siteFor 14 = .ok (.ifnonnull 8, 3) := by decide +kernel
theorem dX4_siteFor_17 : decode cX4_siteFor 17 = .ok (.bipush (-3), 2) := by decide +kernel
theorem dX4_siteFor_19 : decode cX4_siteFor 19 = .ok (.goto 7, 3) := by decide +kernel
theorem dX4_siteFor_22 : decode cX4_siteFor 22 = .ok (.aload_n 2, 1) := by decide +kernel
theorem dX4_siteFor_23 : decode cX4_siteFor 23 = .ok (.getfield 97, 3) := by decide +kernel
theorem dX4_siteFor_26 : decode cX4_siteFor 26 = .ok (.ireturn, 1) := by decide +kernel
set_option maxRecDepth 20000 in
theorem ggX4_flush_X4_cacheAsked : GoodIn wsX4_flush wsX4_cacheAsked := goodIn_ca (goodIn_r _ [5, 6, 7, 8, 9, 4, 10, 11, 12, 13, 14, 15, 16, 28, 29, 30, 31, 32, 33, 34, 35, 36, 37, 38, 39, 40, 41, 42, 43, 44] (by decide +kernel) (by decide +kernel)) (goodIn_sub (fun _ h => List.mem_cons_of_mem _ (List.mem_append_right _ h)) (by decide +kernel))
set_option maxRecDepth 20000 in
theorem gX4_flush_X4_cacheAsked : GoodIn wsX4_flush (wsV RX4 100 RX4 yX4_cacheAsked wsX4_cacheAsked) := goodIn_app (goodIn_of _ (by decide +kernel)) ggX4_flush_X4_cacheAsked
set_option maxRecDepth 20000 in
theorem ggX4_flush_X0_drop : GoodIn wsX4_flush wsX0_drop := goodIn_r _ [21, 22, 23, 24, 25, 26, 20, 27, 45, 46, 47, 48, 49, 50] (by decide +kernel) (by decide +kernel)
set_option maxRecDepth 20000 in
theorem gX4_flush_X0_drop : GoodIn wsX4_flush (wsV RX4 104 RX0 yX0_drop wsX0_drop) := goodIn_app (goodIn_of _ (by decide +kernel)) ggX4_flush_X0_drop
theorem dX4_flush_0 : decode cX4_flush 0 = .ok (.aload_n 0, 1) := by decide +kernel
theorem dX4_flush_1 : decode cX4_flush 1 = .ok (.iload_n 1, 1) := by decide +kernel
theorem dX4_flush_2 : decode cX4_flush 2 = .ok (.iload_n 2, 1) := by decide +kernel
theorem dX4_flush_3 : decode cX4_flush 3 = .ok (.invokevirtual 100, 3) := by decide +kernel
theorem dX4_flush_6 : decode cX4_flush 6 = .ok (.iload_n 2, 1) := by decide +kernel
theorem dX4_flush_7 : decode cX4_flush 7 = .ok (.invokevirtual 104, 3) := by decide +kernel
theorem dX4_flush_10 : decode cX4_flush 10 = .ok (.ireturn, 1) := by decide +kernel
set_option maxRecDepth 20000 in
theorem ggX4_pass_X4_requireWithin : GoodIn wsX4_pass wsX4_requireWithin := goodIn_ca (goodIn_r _ [5, 6, 7] (by decide +kernel) (by decide +kernel)) (goodIn_sub (fun _ h => List.mem_cons_of_mem _ (List.mem_append_right _ h)) (by decide +kernel))
set_option maxRecDepth 20000 in
theorem gX4_pass_X4_requireWithin : GoodIn wsX4_pass (va_wsS RX4 47 yX4_requireWithin wsX4_requireWithin) := goodIn_app (goodIn_of _ (by decide +kernel)) ggX4_pass_X4_requireWithin
theorem dX4_pass_0 : decode cX4_pass 0 = .ok (.iload_n 1, 1) := by decide +kernel
theorem dX4_pass_1 : decode cX4_pass 1 = .ok (.iconst 1, 1) := by decide +kernel
theorem dX4_pass_2 : decode cX4_pass 2 = .ok (.sipush 1000, 3) := by decide +kernel
theorem dX4_pass_5 : decode cX4_pass 5 = .ok (.invokestatic 47, 3) := by decide +kernel
theorem dX4_pass_8 : decode cX4_pass 8 = .ok (.aload_n 0, 1) := by decide +kernel
theorem dX4_pass_9 : decode cX4_pass 9 = .ok (.dup, 1) := by decide +kernel
theorem dX4_pass_10 : decode cX4_pass 10 = .ok (.getfield 108, 3) := by decide +kernel
theorem dX4_pass_13 : decode cX4_pass 13 = .ok (.iload_n 1, 1) := by decide +kernel
theorem dX4_pass_14 : decode cX4_pass 14 = .ok (.iadd, 1) := by decide +kernel
theorem dX4_pass_15 : decode cX4_pass 15 = .ok (.putfield 108, 3) := by decide +kernel
theorem dX4_pass_18 : decode cX4_pass 18 = .ok (.aload_n 0, 1) := by decide +kernel
theorem dX4_pass_19 : decode cX4_pass 19 = .ok (.getfield 108, 3) := by decide +kernel
theorem dX4_pass_22 : decode cX4_pass 22 = .ok (.ireturn, 1) := by decide +kernel
theorem dX4_time_0 : decode cX4_time 0 = .ok (.aload_n 0, 1) := by decide +kernel
theorem dX4_time_1 : decode cX4_time 1 = .ok (.getfield 108, 3) := by decide +kernel
theorem dX4_time_4 : decode cX4_time 4 = .ok (.ireturn, 1) := by decide +kernel
set_option maxRecDepth 20000 in
theorem ggX4_query_X4_siteAsked : GoodIn wsX4_query wsX4_siteAsked := goodIn_ca (goodIn_ca (goodIn_ca (goodIn_r _ [9, 10, 11, 12, 13, 8, 14, 15, 16, 17, 18, 19, 20, 21, 22, 23, 24, 25, 26, 27, 28, 29, 30, 31, 32, 33, 34, 35, 36, 37, 158, 159, 160, 161, 162, 163, 164, 165, 166, 167, 168, 169, 170, 154, 155, 156, 157] (by decide +kernel) (by decide +kernel)) (goodIn_sub (fun _ h => List.mem_cons_of_mem _ (List.mem_append_left _ (List.mem_append_left _ (List.mem_append_right _ h)))) (by decide +kernel))) (goodIn_sub (fun _ h => List.mem_cons_of_mem _ (List.mem_append_left _ (List.mem_append_right _ h))) (by decide +kernel))) (goodIn_sub (fun _ h => List.mem_cons_of_mem _ (List.mem_append_right _ h)) (by decide +kernel))
set_option maxRecDepth 20000 in
theorem gX4_query_X4_siteAsked : GoodIn wsX4_query (wsV RX4 111 RX4 yX4_siteAsked wsX4_siteAsked) := goodIn_app (goodIn_of _ (by decide +kernel)) ggX4_query_X4_siteAsked
set_option maxRecDepth 20000 in
theorem ggX4_query_X4_resolve : GoodIn wsX4_query wsX4_resolve := goodIn_r _ [41, 42, 43, 44, 45, 46, 47, 48, 49, 50, 51, 52, 53, 54, 8, 55, 56, 57, 58, 59, 60, 61, 62, 63, 64, 65, 66, 67, 68, 69, 70, 71, 72, 73, 74, 75, 76, 77, 78, 79, 80, 81, 82, 83, 84, 85, 86, 87, 88, 89, 90, 91, 92, 93, 94, 95, 96, 97, 98, 99, 100, 101, 102, 103, 104, 105, 106, 107, 108, 109, 110, 111, 112, 113, 114, 115, 116, 117, 118, 119, 120, 121, 122, 123, 124, 125, 126, 127, 128, 129, 130, 171, 172, 173, 174, 175, 176, 158, 159, 160, 161, 162, 163, 164, 165, 166, 167, 168, 169, 170, 177, 178, 179, 180, 181, 182, 183, 184, 185, 186, 187] (by decide +kernel) (by decide +kernel)
set_option maxRecDepth 20000 in
theorem gX4_query_X4_resolve : GoodIn wsX4_query (wsV RX4 118 RX4 yX4_resolve wsX4_resolve) := goodIn_app (goodIn_of _ (by decide +kernel)) ggX4_query_X4_resolve
set_option maxRecDepth 20000 in
theorem ggX4_query_X4_fetchHotAnew : GoodIn wsX4_query wsX4_fetchHotAnew := goodIn_r _ [134, 58, 59, 135, 57, 136, 137, 138, 139, 45, 140, 47, 81, 141, 142, 143, 64, 144, 76, 66, 110, 67, 68, 69, 70, 71, 82, 83, 84, 8, 85, 86, 87, 88, 89, 90, 91, 92, 93, 94, 95, 96, 97, 98, 99, 100, 101, 102, 103, 104, 105, 106, 107, 108, 109, 111, 112, 113, 114, 115, 116, 117, 118, 158, 159, 160, 161, 162, 163, 164, 165, 166, 167, 168, 169, 170, 177, 178, 179, 180, 181, 171, 172, 173, 174, 175, 176, 182, 183, 184, 185, 186, 187] (by decide +kernel) (by decide +kernel)
set_option maxRecDepth 20000 in
theorem gX4_query_X4_fetchHotAnew : GoodIn wsX4_query (wsV RX4 122 RX4 yX4_fetchHotAnew wsX4_fetchHotAnew) := goodIn_app (goodIn_of _ (by decide +kernel)) ggX4_query_X4_fetchHotAnew
set_option maxRecDepth 20000 in
theorem ggX4_query_X4_countQuery : GoodIn wsX4_query wsX4_countQuery := goodIn_r _ [148, 149, 150, 2, 86, 151, 136, 60, 152, 153, 158, 159, 160, 161, 162, 163, 164, 165, 166, 167, 168, 169, 170, 171, 172, 173, 174, 175, 176] (by decide +kernel) (by decide +kernel)
set_option maxRecDepth 20000 in
theorem gX4_query_X4_countQuery : GoodIn wsX4_query (wsV RX4 126 RX4 yX4_countQuery wsX4_countQuery) := goodIn_app (goodIn_of _ (by decide +kernel)) ggX4_query_X4_countQuery
theorem dX4_query_0 : decode cX4_query 0 = .ok (.aload_n 0, 1) := by decide +kernel
theorem dX4_query_1 : decode cX4_query 1 = .ok (.iload_n 1, 1) := by decide +kernel
theorem dX4_query_2 : decode cX4_query 2 = .ok (.iload_n 2, 1) := by decide +kernel
theorem dX4_query_3 : decode cX4_query 3 = .ok (.invokevirtual 111, 3) := by decide +kernel
theorem dX4_query_6 : decode cX4_query 6 = .ok (.astore_n 3, 1) := by decide +kernel
theorem dX4_query_7 : decode cX4_query 7 = .ok (.aload_n 0, 1) := by decide +kernel
theorem dX4_query_8 : decode cX4_query 8 = .ok (.aload_n 3, 1) := by decide +kernel
theorem dX4_query_9 : decode cX4_query 9 = .ok (.getfield 115, 3) := by decide +kernel
theorem dX4_query_12 : decode cX4_query 12 = .ok (.iload_n 2, 1) := by decide +kernel
theorem dX4_query_13 : decode cX4_query 13 = .ok (.aload_n 0, 1) := by decide +kernel
theorem dX4_query_14 : decode cX4_query 14 = .ok (.getfield 25, 3) := by decide +kernel
theorem dX4_query_17 : decode cX4_query 17 = .ok (.invokevirtual 118, 3) := by decide +kernel
theorem dX4_query_20 : decode cX4_query 20 = .ok (.istore 4, 2) := by decide +kernel
theorem dX4_query_22 : decode cX4_query 22 = .ok (.aload_n 0, 1) := by decide +kernel
theorem dX4_query_23 : decode cX4_query 23 = .ok (.aload_n 3, 1) := by decide +kernel
theorem dX4_query_24 : decode cX4_query 24 = .ok (.getfield 115, 3) := by decide +kernel
theorem dX4_query_27 : decode cX4_query 27 = .ok (.aload_n 0, 1) := by decide +kernel
theorem dX4_query_28 : decode cX4_query 28 = .ok (.getfield 25, 3) := by decide +kernel
theorem dX4_query_31 : decode cX4_query 31 = .ok (.invokevirtual 122, 3) := by decide +kernel
theorem dX4_query_34 : decode cX4_query 34 = .ok (.aload_n 0, 1) := by decide +kernel
theorem dX4_query_35 : decode cX4_query 35 = .ok (.aload_n 3, 1) := by decide +kernel
theorem dX4_query_36 : decode cX4_query 36 = .ok (.getfield 97, 3) := by decide +kernel
theorem dX4_query_39 : decode cX4_query 39 = .ok (.putfield 29, 3) := by decide +kernel
theorem dX4_query_42 : decode cX4_query 42 = .ok (.aload_n 0, 1) := by decide +kernel
theorem dX4_query_43 : decode cX4_query 43 = .ok (.iload 4, 2) := by decide +kernel
theorem dX4_query_45 : decode cX4_query 45 = .ok (.invokevirtual 126, 3) := by decide +kernel
theorem dX4_query_48 : decode cX4_query 48 = .ok (.iload 4, 2) := by decide +kernel
theorem dX4_query_50 : decode cX4_query 50 = .ok (.ireturn, 1) := by decide +kernel
set_option maxRecDepth 20000 in
theorem ggX4_wouldAnswer_X4_siteAsked : GoodIn wsX4_wouldAnswer wsX4_siteAsked := goodIn_ca (goodIn_ca (goodIn_ca (goodIn_r _ [8, 9, 10, 11, 12, 7, 13, 14, 15, 16, 17, 18, 19, 20, 21, 22, 23, 24, 25, 26, 27, 28, 29, 30, 31, 32, 33, 34, 35, 36, 138, 139, 140, 141, 142, 143, 144, 145, 146, 147, 148, 149, 150, 151, 152, 153, 154] (by decide +kernel) (by decide +kernel)) (goodIn_sub (fun _ h => List.mem_cons_of_mem _ (List.mem_append_left _ (List.mem_append_left _ (List.mem_append_right _ h)))) (by decide +kernel))) (goodIn_sub (fun _ h => List.mem_cons_of_mem _ (List.mem_append_left _ (List.mem_append_right _ h))) (by decide +kernel))) (goodIn_sub (fun _ h => List.mem_cons_of_mem _ (List.mem_append_right _ h)) (by decide +kernel))
set_option maxRecDepth 20000 in
theorem gX4_wouldAnswer_X4_siteAsked : GoodIn wsX4_wouldAnswer (wsV RX4 111 RX4 yX4_siteAsked wsX4_siteAsked) := goodIn_app (goodIn_of _ (by decide +kernel)) ggX4_wouldAnswer_X4_siteAsked
set_option maxRecDepth 20000 in
theorem ggX4_wouldAnswer_X0_copyFrom : GoodIn wsX4_wouldAnswer wsX0_copyFrom := goodIn_r _ [41, 42, 43, 44, 45, 46, 47, 48, 49, 50, 51, 155, 156, 157, 158, 159, 160] (by decide +kernel) (by decide +kernel)
set_option maxRecDepth 20000 in
theorem gX4_wouldAnswer_X0_copyFrom : GoodIn wsX4_wouldAnswer (wsV RX4 129 RX0 yX0_copyFrom wsX0_copyFrom) := goodIn_app (goodIn_of _ (by decide +kernel)) ggX4_wouldAnswer_X0_copyFrom
set_option maxRecDepth 20000 in
theorem ggX4_wouldAnswer_X4_resolve : GoodIn wsX4_wouldAnswer wsX4_resolve := goodIn_r _ [55, 56, 57, 58, 59, 60, 61, 62, 63, 64, 65, 66, 67, 68, 7, 69, 70, 71, 72, 73, 74, 75, 76, 77, 40, 78, 49, 79, 80, 81, 82, 42, 83, 84, 85, 86, 50, 87, 88, 89, 90, 91, 92, 93, 94, 95, 96, 97, 98, 99, 100, 101, 102, 103, 104, 105, 106, 107, 108, 109, 110, 111, 112, 113, 114, 115, 116, 117, 51, 47, 48, 118, 119, 120, 121, 122, 123, 124, 125, 126, 127, 128, 129, 130, 131, 132, 133, 134, 135, 136, 137, 161, 162, 163, 164, 165, 166, 138, 139, 140, 141, 142, 143, 144, 145, 146, 147, 148, 149, 150, 167, 168, 169, 170, 171, 155, 156, 157, 158, 159, 160] (by decide +kernel) (by decide +kernel)
set_option maxRecDepth 20000 in
theorem gX4_wouldAnswer_X4_resolve : GoodIn wsX4_wouldAnswer (wsV RX4 118 RX4 yX4_resolve wsX4_resolve) := goodIn_app (goodIn_of _ (by decide +kernel)) ggX4_wouldAnswer_X4_resolve
theorem dX4_wouldAnswer_0 : decode cX4_wouldAnswer 0 = .ok (.aload_n 0, 1) := by decide +kernel
theorem dX4_wouldAnswer_1 : decode cX4_wouldAnswer 1 = .ok (.iload_n 1, 1) := by decide +kernel
theorem dX4_wouldAnswer_2 : decode cX4_wouldAnswer 2 = .ok (.iload_n 2, 1) := by decide +kernel
theorem dX4_wouldAnswer_3 : decode cX4_wouldAnswer 3 = .ok (.invokevirtual 111, 3) := by decide +kernel
theorem dX4_wouldAnswer_6 : decode cX4_wouldAnswer 6 = .ok (.astore_n 3, 1) := by decide +kernel
theorem dX4_wouldAnswer_7 : decode cX4_wouldAnswer 7 = .ok (.aload_n 0, 1) := by decide +kernel
theorem dX4_wouldAnswer_8 : decode cX4_wouldAnswer 8 = .ok (.getfield 39, 3) := by decide +kernel
theorem dX4_wouldAnswer_11 : decode cX4_wouldAnswer 11 = .ok (.aload_n 3, 1) := by decide +kernel
theorem dX4_wouldAnswer_12 : decode cX4_wouldAnswer 12 = .ok (.getfield 115, 3) := by decide +kernel
theorem dX4_wouldAnswer_15 : decode cX4_wouldAnswer 15 = .ok (.invokevirtual 129, 3) := by decide +kernel
theorem dX4_wouldAnswer_18 : decode cX4_wouldAnswer 18 = .ok (.aload_n 0, 1) := by decide +kernel
theorem dX4_wouldAnswer_19 : decode cX4_wouldAnswer 19 = .ok (.aload_n 0, 1) := by decide +kernel
theorem dX4_wouldAnswer_20 : decode cX4_wouldAnswer 20 = .ok (.getfield 39, 3) := by decide +kernel
theorem dX4_wouldAnswer_23 : decode cX4_wouldAnswer 23 = .ok (.iload_n 2, 1) := by decide +kernel
theorem dX4_wouldAnswer_24 : decode cX4_wouldAnswer 24 = .ok (.aload_n 0, 1) := by decide +kernel
theorem dX4_wouldAnswer_25 : decode cX4_wouldAnswer 25 = .ok (.getfield 33, 3) := by decide +kernel
theorem dX4_wouldAnswer_28 : decode cX4_wouldAnswer 28 = .ok (.invokevirtual 118, 3) := by decide +kernel
theorem dX4_wouldAnswer_31 : decode cX4_wouldAnswer 31 = .ok (.ireturn, 1) := by decide +kernel
theorem dX4_lastSite_0 : decode cX4_lastSite 0 = .ok (.aload_n 0, 1) := by decide +kernel
theorem dX4_lastSite_1 : decode cX4_lastSite 1 = .ok (.getfield 29, 3) := by decide +kernel
theorem dX4_lastSite_4 : decode cX4_lastSite 4 = .ok (.ireturn, 1) := by decide +kernel
theorem dX4_lastWasStale_0 : decode cX4_lastWasStale 0 = .ok (.aload_n 0, 1) := by decide +kernel
theorem dX4_lastWasStale_1 : decode cX4_lastWasStale 1 = .ok (.getfield 25, 3) := by decide +kernel
theorem dX4_lastWasStale_4 : decode cX4_lastWasStale 4 = .ok (.getfield 133, 3) := by decide +kernel
theorem dX4_lastWasStale_7 : decode cX4_lastWasStale 7 = .ok (.ireturn, 1) := by decide +kernel
theorem dX4_lastLookUps_0 : decode cX4_lastLookUps 0 = .ok (.aload_n 0, 1) := by decide +kernel
theorem dX4_lastLookUps_1 : decode cX4_lastLookUps 1 = .ok (.getfield 25, 3) := by decide +kernel
theorem dX4_lastLookUps_4 : decode cX4_lastLookUps 4 = .ok (.getfield 136, 3) := by decide +kernel
theorem dX4_lastLookUps_7 : decode cX4_lastLookUps 7 = .ok (.ireturn, 1) := by decide +kernel
theorem dX4_lastFetches_0 : decode cX4_lastFetches 0 = .ok (.aload_n 0, 1) := by decide +kernel
theorem dX4_lastFetches_1 : decode cX4_lastFetches 1 = .ok (.getfield 25, 3) := by decide +kernel
theorem dX4_lastFetches_4 : decode cX4_lastFetches 4 = .ok (.getfield 139, 3) := by decide +kernel
theorem dX4_lastFetches_7 : decode cX4_lastFetches 7 = .ok (.ireturn, 1) := by decide +kernel
set_option maxRecDepth 20000 in
theorem ggX4_entries_X4_siteNumbered : GoodIn wsX4_entries wsX4_siteNumbered := goodIn_ca (goodIn_r _ [7, 8, 9, 10, 21, 22, 23, 24, 25, 26, 27, 28, 29, 30, 31, 32, 33] (by decide +kernel) (by decide +kernel)) (goodIn_sub (fun _ h => List.mem_cons_of_mem _ (List.mem_append_right _ h)) (by decide +kernel))
set_option maxRecDepth 20000 in
theorem gX4_entries_X4_siteNumbered : GoodIn wsX4_entries (wsV RX4 87 RX4 yX4_siteNumbered wsX4_siteNumbered) := goodIn_app (goodIn_of _ (by decide +kernel)) ggX4_entries_X4_siteNumbered
theorem dX4_entries_0 : decode cX4_entries 0 = .ok (.aload_n 0, 1) := by decide +kernel
theorem dX4_entries_1 : decode cX4_entries 1 = .ok (.iload_n 1, 1) := by decide +kernel
theorem dX4_entries_2 : decode cX4_entries 2 = .ok (.invokevirtual 87, 3) := by decide +kernel
theorem dX4_entries_5 : decode cX4_entries 5 = .ok (.getfield 115, 3) := by decide +kernel
theorem dX4_entries_8 : decode cX4_entries 8 = .ok (.getfield 142, 3) := by decide +kernel
theorem dX4_entries_11 : decode cX4_entries 11 = .ok (.ireturn, 1) := by decide +kernel
set_option maxRecDepth 20000 in
theorem ggX4_cachedKind_X4_cacheAsked : GoodIn wsX4_cachedKind wsX4_cacheAsked := goodIn_ca (goodIn_r _ [5, 6, 7, 8, 9, 4, 10, 11, 12, 13, 14, 15, 16, 27, 28, 29, 30, 31, 32, 33, 34, 35, 36, 37, 38, 39, 40, 41, 42, 43] (by decide +kernel) (by decide +kernel)) (goodIn_sub (fun _ h => List.mem_cons_of_mem _ (List.mem_append_right _ h)) (by decide +kernel))
set_option maxRecDepth 20000 in
theorem gX4_cachedKind_X4_cacheAsked : GoodIn wsX4_cachedKind (wsV RX4 100 RX4 yX4_cacheAsked wsX4_cacheAsked) := goodIn_app (goodIn_of _ (by decide +kernel)) ggX4_cachedKind_X4_cacheAsked
set_option maxRecDepth 20000 in
theorem ggX4_cachedKind_X0_kindOf : GoodIn wsX4_cachedKind wsX0_kindOf := goodIn_r _ [21, 22, 23, 24, 25, 20, 26, 44, 45, 46, 47, 48, 49] (by decide +kernel) (by decide +kernel)
set_option maxRecDepth 20000 in
theorem gX4_cachedKind_X0_kindOf : GoodIn wsX4_cachedKind (wsV RX4 145 RX0 yX0_kindOf wsX0_kindOf) := goodIn_app (goodIn_of _ (by decide +kernel)) ggX4_cachedKind_X0_kindOf
theorem dX4_cachedKind_0 : decode cX4_cachedKind 0 = .ok (.aload_n 0, 1) := by decide +kernel
theorem dX4_cachedKind_1 : decode cX4_cachedKind 1 = .ok (.iload_n 1, 1) := by decide +kernel
theorem dX4_cachedKind_2 : decode cX4_cachedKind 2 = .ok (.iload_n 2, 1) := by decide +kernel
theorem dX4_cachedKind_3 : decode cX4_cachedKind 3 = .ok (.invokevirtual 100, 3) := by decide +kernel
theorem dX4_cachedKind_6 : decode cX4_cachedKind 6 = .ok (.iload_n 2, 1) := by decide +kernel
theorem dX4_cachedKind_7 : decode cX4_cachedKind 7 = .ok (.invokevirtual 145, 3) := by decide +kernel
theorem dX4_cachedKind_10 : decode cX4_cachedKind 10 = .ok (.ireturn, 1) := by decide +kernel
set_option maxRecDepth 20000 in
theorem ggX4_cachedValue_X4_cacheAsked : GoodIn wsX4_cachedValue wsX4_cacheAsked := goodIn_ca (goodIn_r _ [5, 6, 7, 8, 9, 4, 10, 11, 12, 13, 14, 15, 16, 28, 29, 30, 31, 32, 33, 34, 35, 36, 37, 38, 39, 40, 41, 42, 43, 44] (by decide +kernel) (by decide +kernel)) (goodIn_sub (fun _ h => List.mem_cons_of_mem _ (List.mem_append_right _ h)) (by decide +kernel))
set_option maxRecDepth 20000 in
theorem gX4_cachedValue_X4_cacheAsked : GoodIn wsX4_cachedValue (wsV RX4 100 RX4 yX4_cacheAsked wsX4_cacheAsked) := goodIn_app (goodIn_of _ (by decide +kernel)) ggX4_cachedValue_X4_cacheAsked
set_option maxRecDepth 20000 in
theorem ggX4_cachedValue_X0_valueOf : GoodIn wsX4_cachedValue wsX0_valueOf := goodIn_r _ [21, 22, 23, 24, 25, 20, 26, 27, 45, 46, 47, 48, 49, 50] (by decide +kernel) (by decide +kernel)
set_option maxRecDepth 20000 in
theorem gX4_cachedValue_X0_valueOf : GoodIn wsX4_cachedValue (wsV RX4 146 RX0 yX0_valueOf wsX0_valueOf) := goodIn_app (goodIn_of _ (by decide +kernel)) ggX4_cachedValue_X0_valueOf
theorem dX4_cachedValue_0 : decode cX4_cachedValue 0 = .ok (.aload_n 0, 1) := by decide +kernel
theorem dX4_cachedValue_1 : decode cX4_cachedValue 1 = .ok (.iload_n 1, 1) := by decide +kernel
theorem dX4_cachedValue_2 : decode cX4_cachedValue 2 = .ok (.iload_n 2, 1) := by decide +kernel
theorem dX4_cachedValue_3 : decode cX4_cachedValue 3 = .ok (.invokevirtual 100, 3) := by decide +kernel
theorem dX4_cachedValue_6 : decode cX4_cachedValue 6 = .ok (.iload_n 2, 1) := by decide +kernel
theorem dX4_cachedValue_7 : decode cX4_cachedValue 7 = .ok (.invokevirtual 146, 3) := by decide +kernel
theorem dX4_cachedValue_10 : decode cX4_cachedValue 10 = .ok (.ireturn, 1) := by decide +kernel
set_option maxRecDepth 20000 in
theorem ggX4_left_X4_cacheAsked : GoodIn wsX4_left wsX4_cacheAsked := goodIn_ca (goodIn_r _ [8, 9, 10, 11, 12, 7, 13, 14, 15, 16, 17, 18, 19, 45, 46, 47, 48, 32, 33, 34, 35, 36, 37, 38, 39, 40, 41, 42, 43, 44] (by decide +kernel) (by decide +kernel)) (goodIn_sub (fun _ h => List.mem_cons_of_mem _ (List.mem_append_right _ h)) (by decide +kernel))
set_option maxRecDepth 20000 in
theorem gX4_left_X4_cacheAsked : GoodIn wsX4_left (wsV RX4 100 RX4 yX4_cacheAsked wsX4_cacheAsked) := goodIn_app (goodIn_of _ (by decide +kernel)) ggX4_left_X4_cacheAsked
set_option maxRecDepth 20000 in
theorem ggX4_left_X0_has : GoodIn wsX4_left wsX0_has := goodIn_r _ [24, 25, 49, 50, 51, 52, 53, 54] (by decide +kernel) (by decide +kernel)
set_option maxRecDepth 20000 in
theorem gX4_left_X0_has : GoodIn wsX4_left (wsV RX4 147 RX0 yX0_has wsX0_has) := goodIn_app (goodIn_of _ (by decide +kernel)) ggX4_left_X0_has
set_option maxRecDepth 20000 in
theorem ggX4_left_X0_endOf : GoodIn wsX4_left wsX0_endOf := goodIn_r _ [29, 30, 31, 21, 22, 23, 24, 25, 49, 50, 51, 52, 53, 54] (by decide +kernel) (by decide +kernel)
set_option maxRecDepth 20000 in
theorem gX4_left_X0_endOf : GoodIn wsX4_left (wsV RX4 152 RX0 yX0_endOf wsX0_endOf) := goodIn_app (goodIn_of _ (by decide +kernel)) ggX4_left_X0_endOf
theorem dX4_left_0 : decode cX4_left 0 = .ok (.aload_n 0, 1) := by decide +kernel
theorem dX4_left_1 : decode cX4_left 1 = .ok (.iload_n 1, 1) := by decide +kernel
theorem dX4_left_2 : decode cX4_left 2 = .ok (.iload_n 2, 1) := by decide +kernel
theorem dX4_left_3 : decode cX4_left 3 = .ok (.invokevirtual 100, 3) := by decide +kernel
theorem dX4_left_6 : decode cX4_left 6 = .ok (.astore_n 3, 1) := by decide +kernel
theorem dX4_left_7 : decode cX4_left 7 = .ok (.aload_n 3, 1) := by decide +kernel
theorem dX4_left_8 : decode cX4_left 8 = .ok (.iload_n 2, 1) := by decide +kernel
theorem dX4_left_9 : decode cX4_left 9 = .ok (.invokevirtual 147, 3) := by decide +kernel
theorem dX4_left_12 : decode cX4_left 12 = .ok (.ifCond .ne 13, 3) := by decide +kernel
theorem dX4_left_15 : decode cX4_left 15 = .ok (.new 79, 3) := by decide +kernel
theorem dX4_left_18 : decode cX4_left 18 = .ok (.dup, 1) := by decide +kernel
theorem dX4_left_19 : decode cX4_left 19 = .ok (.ldc 150, 2) := by decide +kernel
theorem dX4_left_21 : decode cX4_left 21 = .ok (.invokespecial 83, 3) := by decide +kernel
theorem dX4_left_24 : decode cX4_left 24 = .ok (.athrow, 1) := by decide +kernel
theorem dX4_left_25 : decode cX4_left 25 = .ok (.aload_n 3, 1) := by decide +kernel
theorem dX4_left_26 : decode cX4_left 26 = .ok (.iload_n 2, 1) := by decide +kernel
theorem dX4_left_27 : decode cX4_left 27 = .ok (.invokevirtual 152, 3) := by decide +kernel
theorem dX4_left_30 : decode cX4_left 30 = .ok (.aload_n 0, 1) := by decide +kernel
theorem dX4_left_31 : decode cX4_left 31 = .ok (.getfield 108, 3) := by decide +kernel
theorem dX4_left_34 : decode cX4_left 34 = .ok (.isub, 1) := by decide +kernel
theorem dX4_left_35 : decode cX4_left 35 = .ok (.ireturn, 1) := by decide +kernel
set_option maxRecDepth 20000 in
theorem ggX4_hitsOf_X4_cacheAsked : GoodIn wsX4_hitsOf wsX4_cacheAsked := goodIn_ca (goodIn_r _ [5, 6, 7, 8, 9, 4, 10, 11, 12, 13, 14, 15, 16, 28, 29, 30, 31, 32, 33, 34, 35, 36, 37, 38, 39, 40, 41, 42, 43, 44] (by decide +kernel) (by decide +kernel)) (goodIn_sub (fun _ h => List.mem_cons_of_mem _ (List.mem_append_right _ h)) (by decide +kernel))
set_option maxRecDepth 20000 in
theorem gX4_hitsOf_X4_cacheAsked : GoodIn wsX4_hitsOf (wsV RX4 100 RX4 yX4_cacheAsked wsX4_cacheAsked) := goodIn_app (goodIn_of _ (by decide +kernel)) ggX4_hitsOf_X4_cacheAsked
set_option maxRecDepth 20000 in
theorem ggX4_hitsOf_X0_hitsFor : GoodIn wsX4_hitsOf wsX0_hitsFor := goodIn_r _ [21, 22, 23, 24, 25, 20, 26, 27, 45, 46, 47, 48, 49, 50] (by decide +kernel) (by decide +kernel)
set_option maxRecDepth 20000 in
theorem gX4_hitsOf_X0_hitsFor : GoodIn wsX4_hitsOf (wsV RX4 155 RX0 yX0_hitsFor wsX0_hitsFor) := goodIn_app (goodIn_of _ (by decide +kernel)) ggX4_hitsOf_X0_hitsFor
theorem dX4_hitsOf_0 : decode cX4_hitsOf 0 = .ok (.aload_n 0, 1) := by decide +kernel
theorem dX4_hitsOf_1 : decode cX4_hitsOf 1 = .ok (.iload_n 1, 1) := by decide +kernel
theorem dX4_hitsOf_2 : decode cX4_hitsOf 2 = .ok (.iload_n 2, 1) := by decide +kernel
theorem dX4_hitsOf_3 : decode cX4_hitsOf 3 = .ok (.invokevirtual 100, 3) := by decide +kernel
theorem dX4_hitsOf_6 : decode cX4_hitsOf 6 = .ok (.iload_n 2, 1) := by decide +kernel
theorem dX4_hitsOf_7 : decode cX4_hitsOf 7 = .ok (.invokevirtual 155, 3) := by decide +kernel
theorem dX4_hitsOf_10 : decode cX4_hitsOf 10 = .ok (.ireturn, 1) := by decide +kernel
theorem dX4_queries_0 : decode cX4_queries 0 = .ok (.aload_n 0, 1) := by decide +kernel
theorem dX4_queries_1 : decode cX4_queries 1 = .ok (.getfield 158, 3) := by decide +kernel
theorem dX4_queries_4 : decode cX4_queries 4 = .ok (.ireturn, 1) := by decide +kernel
theorem dX4_fetches_0 : decode cX4_fetches 0 = .ok (.aload_n 0, 1) := by decide +kernel
theorem dX4_fetches_1 : decode cX4_fetches 1 = .ok (.getfield 161, 3) := by decide +kernel
theorem dX4_fetches_4 : decode cX4_fetches 4 = .ok (.ireturn, 1) := by decide +kernel
theorem dX4_prefetches_0 : decode cX4_prefetches 0 = .ok (.aload_n 0, 1) := by decide +kernel
theorem dX4_prefetches_1 : decode cX4_prefetches 1 = .ok (.getfield 164, 3) := by decide +kernel
theorem dX4_prefetches_4 : decode cX4_prefetches 4 = .ok (.ireturn, 1) := by decide +kernel
theorem dX4_staleAnswers_0 : decode cX4_staleAnswers 0 = .ok (.aload_n 0, 1) := by decide +kernel
theorem dX4_staleAnswers_1 : decode cX4_staleAnswers 1 = .ok (.getfield 167, 3) := by decide +kernel
theorem dX4_staleAnswers_4 : decode cX4_staleAnswers 4 = .ok (.ireturn, 1) := by decide +kernel
theorem dX4_failures_0 : decode cX4_failures 0 = .ok (.aload_n 0, 1) := by decide +kernel
theorem dX4_failures_1 : decode cX4_failures 1 = .ok (.getfield 170, 3) := by decide +kernel
theorem dX4_failures_4 : decode cX4_failures 4 = .ok (.ireturn, 1) := by decide +kernel
set_option maxRecDepth 20000 in
theorem ggX4_resolve_X1_begin : GoodIn wsX4_resolve wsX1_begin := goodIn_r _ [5, 6, 7, 8, 9, 10, 91, 92, 93, 94, 95, 96] (by decide +kernel) (by decide +kernel)
set_option maxRecDepth 20000 in
theorem gX4_resolve_X1_begin : GoodIn wsX4_resolve (wsV RX4 173 RX1 yX1_begin wsX1_begin) := goodIn_app (goodIn_of _ (by decide +kernel)) ggX4_resolve_X1_begin
set_option maxRecDepth 20000 in
theorem ggX4_resolve_X4_lookUp : GoodIn wsX4_resolve wsX4_lookUp := goodIn_r _ [15, 16, 17, 18, 19, 20, 21, 22, 23, 24, 25, 26, 27, 28, 29, 30, 31, 32, 33, 34, 35, 36, 37, 38, 39, 4, 40, 6, 41, 42, 43, 44, 14, 45, 46, 47, 48, 49, 50, 51, 52, 53, 54, 55, 56, 57, 58, 59, 60, 61, 62, 63, 64, 65, 66, 67, 68, 69, 70, 71, 72, 73, 74, 75, 76, 77, 78, 79, 80, 81, 82, 91, 92, 93, 94, 95, 96, 97, 98, 99, 100, 101, 102, 103, 104, 105, 106, 107, 108, 109, 110, 111, 112, 113, 114, 115, 116, 117, 118, 119, 120] (by decide +kernel) (by decide +kernel)
set_option maxRecDepth 20000 in
theorem gX4_resolve_X4_lookUp : GoodIn wsX4_resolve (wsV RX4 176 RX4 yX4_lookUp wsX4_lookUp) := goodIn_app (goodIn_of _ (by decide +kernel)) ggX4_resolve_X4_lookUp
set_option maxRecDepth 20000 in
theorem ggX4_resolve_X0_kindOf : GoodIn wsX4_resolve wsX0_kindOf := goodIn_r _ [86, 31, 27, 28, 29, 24, 30, 115, 116, 117, 118, 119, 120] (by decide +kernel) (by decide +kernel)
set_option maxRecDepth 20000 in
theorem gX4_resolve_X0_kindOf : GoodIn wsX4_resolve (wsV RX4 145 RX0 yX0_kindOf wsX0_kindOf) := goodIn_app (goodIn_of _ (by decide +kernel)) ggX4_resolve_X0_kindOf
set_option maxRecDepth 20000 in
theorem ggX4_resolve_X0_valueOf : GoodIn wsX4_resolve wsX0_valueOf := goodIn_r _ [90, 69, 27, 28, 29, 24, 30, 31, 115, 116, 117, 118, 119, 120] (by decide +kernel) (by decide +kernel)
set_option maxRecDepth 20000 in
theorem gX4_resolve_X0_valueOf : GoodIn wsX4_resolve (wsV RX4 146 RX0 yX0_valueOf wsX0_valueOf) := goodIn_app (goodIn_of _ (by decide +kernel)) ggX4_resolve_X0_valueOf
theorem dX4_resolve_0 : decode cX4_resolve 0 = .ok (.aload_n 3, 1) := by decide +kernel
theorem dX4_resolve_1 : decode cX4_resolve 1 = .ok (.invokevirtual 173, 3) := by decide +kernel
theorem dX4_resolve_4 : decode cX4_resolve 4 = .ok (.iload_n 2, 1) := by decide +kernel
theorem dX4_resolve_5 : decode cX4_resolve 5 = .ok (.istore 4, 2) := by decide +kernel
theorem dX4_resolve_7 : decode cX4_resolve 7 = .ok (.iconst 0, 1) := by decide +kernel
theorem dX4_resolve_8 : decode cX4_resolve 8 = .ok (.istore 5, 2) := by decide +kernel
theorem dX4_resolve_10 : decode cX4_resolve 10 = .ok (.iload 5, 2) := by decide +kernel
theorem dX4_resolve_12 : decode cX4_resolve 12 = .ok (.iconst 4, 1) := by decide +kernel
theorem dX4_resolve_13 : decode cX4_resolve 13 = .ok (.if_icmp .gt 61, 3) := by decide +kernel
theorem dX4_resolve_16 : decode cX4_resolve 16 = .ok (.aload_n 0, 1) := by decide +kernel
theorem dX4_resolve_17 : decode cX4_resolve 17 = .ok (.aload_n 1, 1) := by decide +kernel
theorem dX4_resolve_18 : decode cX4_resolve 18 = .ok (.iload 4, 2) := by decide +kernel
theorem dX4_resolve_20 : decode cX4_resolve 20 = .ok (.aload_n 3, 1) := by decide +kernel
theorem dX4_resolve_21 : decode cX4_resolve 21 = .ok (.invokevirtual 176, 3) := by decide +kernel
theorem dX4_resolve_24 : decode cX4_resolve 24 = .ok (.ifCond .ne 6, 3) := by decide +kernel
theorem dX4_resolve_27 : decode cX4_resolve 27 = .ok (.bipush (-2), 2) := by decide +kernel
theorem dX4_resolve_29 : decode cX4_resolve 29 = .ok (.ireturn, 1) := by decide +kernel
theorem dX4_resolve_30 : decode cX4_resolve 30 = .ok (.aload_n 1, 1) := by decide +kernel
theorem dX4_resolve_31 : decode cX4_resolve 31 = .ok (.iload 4, 2) := by decide +kernel
theorem dX4_resolve_33 : decode cX4_resolve 33 = .ok (.invokevirtual 145, 3) := by decide +kernel
theorem dX4_resolve_36 : decode cX4_resolve 36 = .ok (.istore 6, 2) := by decide +kernel
theorem dX4_resolve_38 : decode cX4_resolve 38 = .ok (.aload_n 1, 1) := by decide +kernel
theorem dX4_resolve_39 : decode cX4_resolve 39 = .ok (.iload 4, 2) := by decide +kernel
theorem dX4_resolve_41 : decode cX4_resolve 41 = .ok (.invokevirtual 146, 3) := by decide +kernel
theorem dX4_resolve_44 : decode cX4_resolve 44 = .ok (.istore 7, 2) := by decide +kernel
theorem dX4_resolve_46 : decode cX4_resolve 46 = .ok (.iload 6, 2) := by decide +kernel
theorem dX4_resolve_48 : decode cX4_resolve 48 = .ok (.iconst 1, 1) := by decide +kernel
theorem dX4_resolve_49 : decode cX4_resolve 49 = .ok (.if_icmp .eq 15, 3) := by decide +kernel
theorem dX4_resolve_52 : decode cX4_resolve 52 = .ok (.iload 6, 2) := by decide +kernel
theorem dX4_resolve_54 : decode cX4_resolve 54 = .ok (.ifCond .ne 8, 3) := by decide +kernel
theorem dX4_resolve_57 : decode cX4_resolve 57 = .ok (.iload 7, 2) := by decide +kernel
theorem dX4_resolve_59 : decode cX4_resolve 59 = .ok (.goto 4, 3) := by decide +kernel
theorem dX4_resolve_62 : decode cX4_resolve 62 = .ok (.iconst (-1), 1) := by decide +kernel
theorem dX4_resolve_63 : decode cX4_resolve 63 = .ok (.ireturn, 1) := by decide +kernel
theorem dX4_resolve_64 : decode cX4_resolve 64 = .ok (.iload 7, 2) := by decide +kernel
theorem dX4_resolve_66 : decode cX4_resolve 66 = .ok (.istore 4, 2) := by decide +kernel
theorem dX4_resolve_68 : decode cX4_resolve 68 = .ok (.iinc 5 1, 3) := by decide +kernel
theorem dX4_resolve_71 : decode cX4_resolve 71 = .ok (.goto (-61), 3) := by decide +kernel
theorem dX4_resolve_74 : decode cX4_resolve 74 = .ok (.bipush (-2), 2) := by decide +kernel
theorem dX4_resolve_76 : decode cX4_resolve 76 = .ok (.ireturn, 1) := by decide +kernel
set_option maxRecDepth 20000 in
theorem ggX4_lookUp_X0_isFresh : GoodIn wsX4_lookUp wsX0_isFresh := goodIn_r _ [10, 11, 12, 13, 14, 9, 15, 16, 95, 96, 97, 98, 99, 100] (by decide +kernel) (by decide +kernel)
set_option maxRecDepth 20000 in
theorem gX4_lookUp_X0_isFresh : GoodIn wsX4_lookUp (wsV RX4 180 RX0 yX0_isFresh wsX0_isFresh) := goodIn_app (goodIn_of _ (by decide +kernel)) ggX4_lookUp_X0_isFresh
set_option maxRecDepth 20000 in
theorem ggX4_lookUp_X0_countHit : GoodIn wsX4_lookUp wsX0_countHit := goodIn_r _ [20, 21, 12, 13, 14, 9, 15, 16, 95, 96, 97, 98, 99, 100] (by decide +kernel) (by decide +kernel)
set_option maxRecDepth 20000 in
theorem gX4_lookUp_X0_countHit : GoodIn wsX4_lookUp (wsV RX4 184 RX0 yX0_countHit wsX0_countHit) := goodIn_app (goodIn_of _ (by decide +kernel)) ggX4_lookUp_X0_countHit
set_option maxRecDepth 20000 in
theorem ggX4_lookUp_X1_noteFresh : GoodIn wsX4_lookUp wsX1_noteFresh := goodIn_r _ [26, 27, 28, 71, 72, 73, 74, 75, 76] (by decide +kernel) (by decide +kernel)
set_option maxRecDepth 20000 in
theorem gX4_lookUp_X1_noteFresh : GoodIn wsX4_lookUp (wsV RX4 187 RX1 yX1_noteFresh wsX1_noteFresh) := goodIn_app (goodIn_of _ (by decide +kernel)) ggX4_lookUp_X1_noteFresh
set_option maxRecDepth 20000 in
theorem ggX4_lookUp_X4_fetch : GoodIn wsX4_lookUp wsX4_fetch := goodIn_r _ [33, 3, 2, 34, 35, 36, 37, 38, 39, 40, 41, 42, 43, 44, 45, 46, 47, 48, 49, 50, 51, 52, 53, 54, 9, 55, 16, 56, 57, 58, 11, 21, 59, 60, 61, 62, 63, 64, 65, 66, 12, 13, 14, 15, 77, 78, 79, 80, 81, 82, 83, 84, 85, 86, 87, 88, 89, 71, 72, 73, 74, 75, 76, 90, 91, 92, 93, 94, 95, 96, 97, 98, 99, 100] (by decide +kernel) (by decide +kernel)
set_option maxRecDepth 20000 in
theorem gX4_lookUp_X4_fetch : GoodIn wsX4_lookUp (wsV RX4 190 RX4 yX4_fetch wsX4_fetch) := goodIn_app (goodIn_of _ (by decide +kernel)) ggX4_lookUp_X4_fetch
set_option maxRecDepth 20000 in
theorem ggX4_lookUp_X0_servesStale : GoodIn wsX4_lookUp wsX0_servesStale := goodIn_r _ [70, 11, 12, 13, 14, 9, 15, 16, 95, 96, 97, 98, 99, 100] (by decide +kernel) (by decide +kernel)
set_option maxRecDepth 20000 in
theorem gX4_lookUp_X0_servesStale : GoodIn wsX4_lookUp (wsV RX4 194 RX0 yX0_servesStale wsX0_servesStale) := goodIn_app (goodIn_of _ (by decide +kernel)) ggX4_lookUp_X0_servesStale
theorem dX4_lookUp_0 : decode cX4_lookUp 0 = .ok (.aload_n 3, 1) := by decide +kernel
theorem dX4_lookUp_1 : decode cX4_lookUp 1 = .ok (.dup, 1) := by decide +kernel
theorem dX4_lookUp_2 : decode cX4_lookUp 2 = .ok (.getfield 136, 3) := by decide +kernel
theorem dX4_lookUp_5 : decode cX4_lookUp 5 = .ok (.iconst 1, 1) := by decide +kernel
theorem dX4_lookUp_6 : decode cX4_lookUp 6 = .ok (.iadd, 1) := by decide +kernel
theorem dX4_lookUp_7 : decode cX4_lookUp 7 = .ok (.putfield 136, 3) := by decide +kernel
theorem dX4_lookUp_10 : decode cX4_lookUp 10 = .ok (.aload_n 1, 1) := by decide +kernel
theorem dX4_lookUp_11 : decode cX4_lookUp 11 = .ok (.iload_n 2, 1) := by decide +kernel
theorem dX4_lookUp_12 : decode cX4_lookUp 12 = .ok (.aload_n 0, 1) := by decide +kernel
theorem dX4_lookUp_13 : decode cX4_lookUp 13 = .ok (.getfield 108, 3) := by decide +kernel
theorem dX4_lookUp_16 : decode cX4_lookUp 16 = .ok (.invokevirtual 180, 3) := by decide +kernel
theorem dX4_lookUp_19 : decode cX4_lookUp 19 = .ok (.ifCond .eq 15, 3) := by decide +kernel
theorem dX4_lookUp_22 : decode cX4_lookUp 22 = .ok (.aload_n 1, 1) := by decide +kernel
theorem dX4_lookUp_23 : decode cX4_lookUp 23 = .ok (.iload_n 2, 1) := by decide +kernel
theorem dX4_lookUp_24 : decode cX4_lookUp 24 = .ok (.invokevirtual 184, 3) := by decide +kernel
theorem dX4_lookUp_27 : decode cX4_lookUp 27 = .ok (.aload_n 3, 1) := by decide +kernel
theorem dX4_lookUp_28 : decode cX4_lookUp 28 = .ok (.iload_n 2, 1) := by decide +kernel
theorem dX4_lookUp_29 : decode cX4_lookUp 29 = .ok (.invokevirtual 187, 3) := by decide +kernel
theorem dX4_lookUp_32 : decode cX4_lookUp 32 = .ok (.iconst 1, 1) := by decide +kernel
theorem dX4_lookUp_33 : decode cX4_lookUp 33 = .ok (.ireturn, 1) := by decide +kernel
theorem dX4_lookUp_34 : decode cX4_lookUp 34 = .ok (.aload_n 0, 1) := by decide +kernel
theorem dX4_lookUp_35 : decode cX4_lookUp 35 = .ok (.getfield 10, 3) := by decide +kernel
theorem dX4_lookUp_38 : decode cX4_lookUp 38 = .ok (.getfield 69, 3) := by decide +kernel
theorem dX4_lookUp_41 : decode cX4_lookUp 41 = .ok (.ifCond .eq 12, 3) := by decide +kernel
theorem dX4_lookUp_44 : decode cX4_lookUp 44 = .ok (.aload_n 0, 1) := by decide +kernel
theorem dX4_lookUp_45 : decode cX4_lookUp 45 = .ok (.aload_n 1, 1) := by decide +kernel
theorem dX4_lookUp_46 : decode cX4_lookUp 46 = .ok (.iload_n 2, 1) := by decide +kernel
theorem dX4_lookUp_47 : decode cX4_lookUp 47 = .ok (.aload_n 3, 1) := by decide +kernel
theorem dX4_lookUp_48 : decode cX4_lookUp 48 = .ok (.invokevirtual 190, 3) := by decide +kernel
theorem dX4_lookUp_51 : decode cX4_lookUp 51 = .ok (.iconst 1, 1) := by decide +kernel
theorem dX4_lookUp_52 : decode cX4_lookUp 52 = .ok (.ireturn, 1) := by decide +kernel
theorem dX4_lookUp_53 : decode cX4_lookUp 53 = .ok (.aload_n 1, 1) := by decide +kernel
theorem dX4_lookUp_54 : decode cX4_lookUp 54 = .ok (.iload_n 2, 1) := by decide +kernel
theorem dX4_lookUp_55 : decode cX4_lookUp 55 = .ok (.aload_n 0, 1) := by decide +kernel
theorem dX4_lookUp_56 : decode cX4_lookUp 56 = .ok (.getfield 108, 3) := by decide +kernel
theorem dX4_lookUp_59 : decode cX4_lookUp 59 = .ok (.invokevirtual 194, 3) := by decide +kernel
theorem dX4_lookUp_62 : decode cX4_lookUp 62 = .ok (.ifCond .eq 10, 3) := by decide +kernel
theorem dX4_lookUp_65 : decode cX4_lookUp 65 = .ok (.aload_n 3, 1) := by decide +kernel
theorem dX4_lookUp_66 : decode cX4_lookUp 66 = .ok (.iconst 1, 1) := by decide +kernel
theorem dX4_lookUp_67 : decode cX4_lookUp 67 = .ok (.putfield 133, 3) := by decide +kernel
theorem dX4_lookUp_70 : decode cX4_lookUp 70 = .ok (.iconst 1, 1) := by decide +kernel
theorem dX4_lookUp_71 : decode cX4_lookUp 71 = .ok (.ireturn, 1) := by decide +kernel
theorem dX4_lookUp_72 : decode cX4_lookUp 72 = .ok (.iconst 0, 1) := by decide +kernel
theorem dX4_lookUp_73 : decode cX4_lookUp 73 = .ok (.ireturn, 1) := by decide +kernel
set_option maxRecDepth 20000 in
theorem ggX4_fetch_X3_kindOf : GoodIn wsX4_fetch wsX3_kindOf := goodIn_r _ [8, 9, 63, 64, 65, 66, 67] (by decide +kernel) (by decide +kernel)
set_option maxRecDepth 20000 in
theorem gX4_fetch_X3_kindOf : GoodIn wsX4_fetch (wsV RX4 62 RX3 yX3_kindOf wsX3_kindOf) := goodIn_app (goodIn_of _ (by decide +kernel)) ggX4_fetch_X3_kindOf
set_option maxRecDepth 20000 in
theorem ggX4_fetch_X3_valueOf : GoodIn wsX4_fetch wsX3_valueOf := goodIn_r _ [13, 14, 63, 64, 65, 66, 67] (by decide +kernel) (by decide +kernel)
set_option maxRecDepth 20000 in
theorem gX4_fetch_X3_valueOf : GoodIn wsX4_fetch (wsV RX4 73 RX3 yX3_valueOf wsX3_valueOf) := goodIn_app (goodIn_of _ (by decide +kernel)) ggX4_fetch_X3_valueOf
set_option maxRecDepth 20000 in
theorem ggX4_fetch_X3_lifeOf : GoodIn wsX4_fetch wsX3_lifeOf := goodIn_r _ [18, 9, 19, 20, 63, 64, 65, 66, 67] (by decide +kernel) (by decide +kernel)
set_option maxRecDepth 20000 in
theorem gX4_fetch_X3_lifeOf : GoodIn wsX4_fetch (wsV RX4 197 RX3 yX3_lifeOf wsX3_lifeOf) := goodIn_app (goodIn_of _ (by decide +kernel)) ggX4_fetch_X3_lifeOf
set_option maxRecDepth 20000 in
theorem ggX4_fetch_X0_put : GoodIn wsX4_fetch wsX0_put := goodIn_r _ [25, 26, 27, 28, 29, 30, 31, 32, 33, 34, 24, 35, 36, 37, 38, 39, 40, 41, 42, 43, 68, 69, 70, 71, 72, 73] (by decide +kernel) (by decide +kernel)
set_option maxRecDepth 20000 in
theorem gX4_fetch_X0_put : GoodIn wsX4_fetch (wsV RX4 200 RX0 yX0_put wsX0_put) := goodIn_app (goodIn_of _ (by decide +kernel)) ggX4_fetch_X0_put
theorem dX4_fetch_0 : decode cX4_fetch 0 = .ok (.aload_n 1, 1) := by decide +kernel
theorem dX4_fetch_1 : decode cX4_fetch 1 = .ok (.iload_n 2, 1) := by decide +kernel
theorem dX4_fetch_2 : decode cX4_fetch 2 = .ok (.aload_n 0, 1) := by decide +kernel
theorem dX4_fetch_3 : decode cX4_fetch 3 = .ok (.getfield 10, 3) := by decide +kernel
theorem dX4_fetch_6 : decode cX4_fetch 6 = .ok (.iload_n 2, 1) := by decide +kernel
theorem dX4_fetch_7 : decode cX4_fetch 7 = .ok (.invokevirtual 62, 3) := by decide +kernel
theorem dX4_fetch_10 : decode cX4_fetch 10 = .ok (.aload_n 0, 1) := by decide +kernel
theorem dX4_fetch_11 : decode cX4_fetch 11 = .ok (.getfield 10, 3) := by decide +kernel
theorem dX4_fetch_14 : decode cX4_fetch 14 = .ok (.iload_n 2, 1) := by decide +kernel
theorem dX4_fetch_15 : decode cX4_fetch 15 = .ok (.invokevirtual 73, 3) := by decide +kernel
theorem dX4_fetch_18 : decode cX4_fetch 18 = .ok (.aload_n 0, 1) := by decide +kernel
theorem dX4_fetch_19 : decode cX4_fetch 19 = .ok (.getfield 10, 3) := by decide +kernel
theorem dX4_fetch_22 : decode cX4_fetch 22 = .ok (.iload_n 2, 1) := by decide +kernel
theorem dX4_fetch_23 : decode cX4_fetch 23 = .ok (.invokevirtual 197, 3) := by decide +kernel
theorem dX4_fetch_26 : decode cX4_fetch 26 = .ok (.aload_n 0, 1) := by decide +kernel
theorem dX4_fetch_27 : decode cX4_fetch 27 = .ok (.getfield 108, 3) := by decide +kernel
theorem dX4_fetch_30 : decode cX4_fetch 30 = .ok (.invokevirtual 200, 3) := by decide +kernel
theorem dX4_fetch_33 : decode cX4_fetch 33 = .ok (.aload_n 3, 1) := by decide +kernel
theorem dX4_fetch_34 : decode cX4_fetch 34 = .ok (.dup, 1) := by decide +kernel
theorem dX4_fetch_35 : decode cX4_fetch 35 = .ok (.getfield 139, 3) := by decide +kernel
theorem dX4_fetch_38 : decode cX4_fetch 38 = .ok (.iconst 1, 1) := by decide +kernel
theorem dX4_fetch_39 : decode cX4_fetch 39 = .ok (.iadd, 1) := by decide +kernel
theorem dX4_fetch_40 : decode cX4_fetch 40 = .ok (.putfield 139, 3) := by decide +kernel
theorem dX4_fetch_43 : decode cX4_fetch 43 = .ok (.return_, 1) := by decide +kernel
set_option maxRecDepth 20000 in
theorem ggX4_fetchHotAnew_X1_freshNameAt : GoodIn wsX4_fetchHotAnew wsX1_freshNameAt := goodIn_r _ [10, 11, 12, 81, 82, 83, 84, 85, 86] (by decide +kernel) (by decide +kernel)
set_option maxRecDepth 20000 in
theorem gX4_fetchHotAnew_X1_freshNameAt : GoodIn wsX4_fetchHotAnew (wsV RX4 206 RX1 yX1_freshNameAt wsX1_freshNameAt) := goodIn_app (goodIn_of _ (by decide +kernel)) ggX4_fetchHotAnew_X1_freshNameAt
set_option maxRecDepth 20000 in
theorem ggX4_fetchHotAnew_X0_isHot : GoodIn wsX4_fetchHotAnew wsX0_isHot := goodIn_r _ [17, 18, 19, 20, 21, 22, 23, 16, 24, 25, 87, 88, 89, 90, 91, 92] (by decide +kernel) (by decide +kernel)
set_option maxRecDepth 20000 in
theorem gX4_fetchHotAnew_X0_isHot : GoodIn wsX4_fetchHotAnew (wsV RX4 209 RX0 yX0_isHot wsX0_isHot) := goodIn_app (goodIn_of _ (by decide +kernel)) ggX4_fetchHotAnew_X0_isHot
set_option maxRecDepth 20000 in
theorem ggX4_fetchHotAnew_X4_fetch : GoodIn wsX4_fetchHotAnew wsX4_fetch := goodIn_r _ [30, 1, 4, 31, 32, 33, 34, 35, 36, 37, 38, 39, 40, 41, 42, 43, 44, 45, 46, 47, 48, 49, 50, 51, 16, 52, 25, 53, 54, 20, 19, 18, 55, 56, 57, 58, 59, 60, 61, 62, 21, 22, 23, 24, 63, 64, 65, 66, 67, 68, 69, 70, 71, 72, 73, 74, 75, 81, 82, 83, 84, 85, 86, 76, 77, 78, 79, 80, 87, 88, 89, 90, 91, 92] (by decide +kernel) (by decide +kernel)
set_option maxRecDepth 20000 in
theorem gX4_fetchHotAnew_X4_fetch : GoodIn wsX4_fetchHotAnew (wsV RX4 190 RX4 yX4_fetch wsX4_fetch) := goodIn_app (goodIn_of _ (by decide +kernel)) ggX4_fetchHotAnew_X4_fetch
theorem dX4_fetchHotAnew_0 : decode cX4_fetchHotAnew 0 = .ok (.aload_n 0, 1) := by decide +kernel
theorem dX4_fetchHotAnew_1 : decode cX4_fetchHotAnew 1 = .ok (.getfield 10, 3) := by decide +kernel
theorem dX4_fetchHotAnew_4 : decode cX4_fetchHotAnew 4 = .ok (.getfield 69, 3) := by decide +kernel
theorem dX4_fetchHotAnew_7 : decode cX4_fetchHotAnew 7 = .ok (.ifCond .ne 4, 3) := by decide +kernel
theorem dX4_fetchHotAnew_10 : decode cX4_fetchHotAnew 10 = .ok (.return_, 1) := by decide +kernel
theorem dX4_fetchHotAnew_11 : decode cX4_fetchHotAnew 11 = .ok (.aload_n 2, 1) := by decide +kernel
theorem dX4_fetchHotAnew_12 : decode cX4_fetchHotAnew 12 = .ok (.getfield 203, 3) := by decide +kernel
theorem dX4_fetchHotAnew_15 : decode cX4_fetchHotAnew 15 = .ok (.istore_n 3, 1) := by decide +kernel
theorem dX4_fetchHotAnew_16 : decode cX4_fetchHotAnew 16 = .ok (.iconst 0, 1) := by decide +kernel
theorem dX4_fetchHotAnew_17 : decode cX4_fetchHotAnew 17 = .ok (.istore 4, 2) := by decide +kernel
theorem dX4_fetchHotAnew_19 : decode cX4_fetchHotAnew 19 = .ok (.iload 4, 2) := by decide +kernel
theorem dX4_fetchHotAnew_21 : decode cX4_fetchHotAnew 21 = .ok (.iload_n 3, 1) := by decide +kernel
theorem dX4_fetchHotAnew_22 : decode cX4_fetchHotAnew 22 = .ok (.if_icmp .ge 48, 3) := by decide +kernel
theorem dX4_fetchHotAnew_25 : decode cX4_fetchHotAnew 25 = .ok (.aload_n 2, 1) := by decide +kernel
theorem dX4_fetchHotAnew_26 : decode cX4_fetchHotAnew 26 = .ok (.iload 4, 2) := by decide +kernel
theorem dX4_fetchHotAnew_28 : decode cX4_fetchHotAnew 28 = .ok (.invokevirtual 206, 3) := by decide +kernel
theorem dX4_fetchHotAnew_31 : decode cX4_fetchHotAnew 31 = .ok (.istore 5, 2) := by decide +kernel
theorem dX4_fetchHotAnew_33 : decode cX4_fetchHotAnew 33 = .ok (.aload_n 1, 1) := by decide +kernel
theorem dX4_fetchHotAnew_34 : decode cX4_fetchHotAnew 34 = .ok (.iload 5, 2) := by decide +kernel
theorem dX4_fetchHotAnew_36 : decode cX4_fetchHotAnew 36 = .ok (.aload_n 0, 1) := by decide +kernel
theorem dX4_fetchHotAnew_37 : decode cX4_fetchHotAnew 37 = .ok (.getfield 108, 3) := by decide +kernel
theorem dX4_fetchHotAnew_40 : decode cX4_fetchHotAnew 40 = .ok (.invokevirtual 209, 3) := by decide +kernel
theorem dX4_fetchHotAnew_43 : decode cX4_fetchHotAnew 43 = .ok (.ifCond .eq 21, 3) := by decide +kernel
theorem dX4_fetchHotAnew_46 : decode cX4_fetchHotAnew 46 = .ok (.aload_n 0, 1) := by decide +kernel
theorem dX4_fetchHotAnew_47 : decode cX4_fetchHotAnew 47 = .ok (.aload_n 1, 1) := by decide +kernel
theorem dX4_fetchHotAnew_48 : decode cX4_fetchHotAnew 48 = .ok (.iload 5, 2) := by decide +kernel
theorem dX4_fetchHotAnew_50 : decode cX4_fetchHotAnew 50 = .ok (.aload_n 2, 1) := by decide +kernel
theorem dX4_fetchHotAnew_51 : decode cX4_fetchHotAnew 51 = .ok (.invokevirtual 190, 3) := by decide +kernel
theorem dX4_fetchHotAnew_54 : decode cX4_fetchHotAnew 54 = .ok (.aload_n 2, 1) := by decide +kernel
theorem dX4_fetchHotAnew_55 : decode cX4_fetchHotAnew 55 = .ok (.dup, 1) := by decide +kernel
theorem dX4_fetchHotAnew_56 : decode cX4_fetchHotAnew 56 = .ok (.getfield 212, 3) := by decide +kernel
theorem dX4_fetchHotAnew_59 : decode cX4_fetchHotAnew 59 = .ok (.iconst 1, 1) := by decide +kernel
theorem dX4_fetchHotAnew_60 : decode cX4_fetchHotAnew 60 = .ok (.iadd, 1) := by decide +kernel
theorem dX4_fetchHotAnew_61 : decode cX4_fetchHotAnew 61 = .ok (.putfield 212, 3) := by decide +kernel
theorem dX4_fetchHotAnew_64 : decode cX4_fetchHotAnew 64 = .ok (.iinc 4 1, 3) := by decide +kernel
theorem dX4_fetchHotAnew_67 : decode cX4_fetchHotAnew 67 = .ok (.goto (-48), 3) := by decide +kernel
theorem dX4_fetchHotAnew_70 : decode cX4_fetchHotAnew 70 = .ok (.return_, 1) := by decide +kernel
theorem dX4_countQuery_0 : decode cX4_countQuery 0 = .ok (.aload_n 0, 1) := by decide +kernel
theorem dX4_countQuery_1 : decode cX4_countQuery 1 = .ok (.dup, 1) := by decide +kernel
theorem dX4_countQuery_2 : decode cX4_countQuery 2 = .ok (.getfield 158, 3) := by decide +kernel
theorem dX4_countQuery_5 : decode cX4_countQuery 5 = .ok (.iconst 1, 1) := by decide +kernel
theorem dX4_countQuery_6 : decode cX4_countQuery 6 = .ok (.iadd, 1) := by decide +kernel
theorem dX4_countQuery_7 : decode cX4_countQuery 7 = .ok (.putfield 158, 3) := by decide +kernel
theorem dX4_countQuery_10 : decode cX4_countQuery 10 = .ok (.aload_n 0, 1) := by decide +kernel
theorem dX4_countQuery_11 : decode cX4_countQuery 11 = .ok (.dup, 1) := by decide +kernel
theorem dX4_countQuery_12 : decode cX4_countQuery 12 = .ok (.getfield 161, 3) := by decide +kernel
theorem dX4_countQuery_15 : decode cX4_countQuery 15 = .ok (.aload_n 0, 1) := by decide +kernel
theorem dX4_countQuery_16 : decode cX4_countQuery 16 = .ok (.getfield 25, 3) := by decide +kernel
theorem dX4_countQuery_19 : decode cX4_countQuery 19 = .ok (.getfield 139, 3) := by decide +kernel
theorem dX4_countQuery_22 : decode cX4_countQuery 22 = .ok (.iadd, 1) := by decide +kernel
theorem dX4_countQuery_23 : decode cX4_countQuery 23 = .ok (.putfield 161, 3) := by decide +kernel
theorem dX4_countQuery_26 : decode cX4_countQuery 26 = .ok (.aload_n 0, 1) := by decide +kernel
theorem dX4_countQuery_27 : decode cX4_countQuery 27 = .ok (.dup, 1) := by decide +kernel
theorem dX4_countQuery_28 : decode cX4_countQuery 28 = .ok (.getfield 164, 3) := by decide +kernel
theorem dX4_countQuery_31 : decode cX4_countQuery 31 = .ok (.aload_n 0, 1) := by decide +kernel
theorem dX4_countQuery_32 : decode cX4_countQuery 32 = .ok (.getfield 25, 3) := by decide +kernel
theorem dX4_countQuery_35 : decode cX4_countQuery 35 = .ok (.getfield 212, 3) := by decide +kernel
theorem dX4_countQuery_38 : decode cX4_countQuery 38 = .ok (.iadd, 1) := by decide +kernel
theorem dX4_countQuery_39 : decode cX4_countQuery 39 = .ok (.putfield 164, 3) := by decide +kernel
theorem dX4_countQuery_42 : decode cX4_countQuery 42 = .ok (.aload_n 0, 1) := by decide +kernel
theorem dX4_countQuery_43 : decode cX4_countQuery 43 = .ok (.getfield 25, 3) := by decide +kernel
theorem dX4_countQuery_46 : decode cX4_countQuery 46 = .ok (.getfield 133, 3) := by decide +kernel
theorem dX4_countQuery_49 : decode cX4_countQuery 49 = .ok (.ifCond .eq 13, 3) := by decide +kernel
theorem dX4_countQuery_52 : decode cX4_countQuery 52 = .ok (.aload_n 0, 1) := by decide +kernel
theorem dX4_countQuery_53 : decode cX4_countQuery 53 = .ok (.dup, 1) := by decide +kernel
theorem dX4_countQuery_54 : decode cX4_countQuery 54 = .ok (.getfield 167, 3) := by decide +kernel
theorem dX4_countQuery_57 : decode cX4_countQuery 57 = .ok (.iconst 1, 1) := by decide +kernel
theorem dX4_countQuery_58 : decode cX4_countQuery 58 = .ok (.iadd, 1) := by decide +kernel
theorem dX4_countQuery_59 : decode cX4_countQuery 59 = .ok (.putfield 167, 3) := by decide +kernel
theorem dX4_countQuery_62 : decode cX4_countQuery 62 = .ok (.iload_n 1, 1) := by decide +kernel
theorem dX4_countQuery_63 : decode cX4_countQuery 63 = .ok (.bipush (-2), 2) := by decide +kernel
theorem dX4_countQuery_65 : decode cX4_countQuery 65 = .ok (.if_icmp .ne 13, 3) := by decide +kernel
theorem dX4_countQuery_68 : decode cX4_countQuery 68 = .ok (.aload_n 0, 1) := by decide +kernel
theorem dX4_countQuery_69 : decode cX4_countQuery 69 = .ok (.dup, 1) := by decide +kernel
theorem dX4_countQuery_70 : decode cX4_countQuery 70 = .ok (.getfield 170, 3) := by decide +kernel
theorem dX4_countQuery_73 : decode cX4_countQuery 73 = .ok (.iconst 1, 1) := by decide +kernel
theorem dX4_countQuery_74 : decode cX4_countQuery 74 = .ok (.iadd, 1) := by decide +kernel
theorem dX4_countQuery_75 : decode cX4_countQuery 75 = .ok (.putfield 170, 3) := by decide +kernel
theorem dX4_countQuery_78 : decode cX4_countQuery 78 = .ok (.return_, 1) := by decide +kernel
theorem dX4_requireName_0 : decode cX4_requireName 0 = .ok (.iload_n 0, 1) := by decide +kernel
theorem dX4_requireName_1 : decode cX4_requireName 1 = .ok (.ifCond .lt 9, 3) := by decide +kernel
theorem dX4_requireName_4 : decode cX4_requireName 4 = .ok (.iload_n 0, 1) := by decide +kernel
theorem dX4_requireName_5 : decode cX4_requireName 5 = .ok (.bipush 16, 2) := by decide +kernel
theorem dX4_requireName_7 : decode cX4_requireName 7 = .ok (.if_icmp .lt 13, 3) := by decide +kernel
theorem dX4_requireName_10 : decode cX4_requireName 10 = .ok (.new 215, 3) := by decide +kernel
theorem dX4_requireName_13 : decode cX4_requireName 13 = .ok (.dup, 1) := by decide +kernel
theorem dX4_requireName_14 : decode cX4_requireName 14 = .ok (.ldc 217, 2) := by decide +kernel
theorem dX4_requireName_16 : decode cX4_requireName 16 = .ok (.invokespecial 219, 3) := by decide +kernel
theorem dX4_requireName_19 : decode cX4_requireName 19 = .ok (.athrow, 1) := by decide +kernel
theorem dX4_requireName_20 : decode cX4_requireName 20 = .ok (.return_, 1) := by decide +kernel
theorem dX4_requireWithin_0 : decode cX4_requireWithin 0 = .ok (.iload_n 0, 1) := by decide +kernel
theorem dX4_requireWithin_1 : decode cX4_requireWithin 1 = .ok (.iload_n 1, 1) := by decide +kernel
theorem dX4_requireWithin_2 : decode cX4_requireWithin 2 = .ok (.if_icmp .lt 8, 3) := by decide +kernel
theorem dX4_requireWithin_5 : decode cX4_requireWithin 5 = .ok (.iload_n 0, 1) := by decide +kernel
theorem dX4_requireWithin_6 : decode cX4_requireWithin 6 = .ok (.iload_n 2, 1) := by decide +kernel
theorem dX4_requireWithin_7 : decode cX4_requireWithin 7 = .ok (.if_icmp .le 13, 3) := by decide +kernel
theorem dX4_requireWithin_10 : decode cX4_requireWithin 10 = .ok (.new 55, 3) := by decide +kernel
theorem dX4_requireWithin_13 : decode cX4_requireWithin 13 = .ok (.dup, 1) := by decide +kernel
theorem dX4_requireWithin_14 : decode cX4_requireWithin 14 = .ok (.ldc 220, 2) := by decide +kernel
theorem dX4_requireWithin_16 : decode cX4_requireWithin 16 = .ok (.invokespecial 59, 3) := by decide +kernel
theorem dX4_requireWithin_19 : decode cX4_requireWithin 19 = .ok (.athrow, 1) := by decide +kernel
theorem dX4_requireWithin_20 : decode cX4_requireWithin 20 = .ok (.return_, 1) := by decide +kernel
theorem dX4_siteNumbered_0 : decode cX4_siteNumbered 0 = .ok (.iload_n 1, 1) := by decide +kernel
theorem dX4_siteNumbered_1 : decode cX4_siteNumbered 1 = .ok (.ifCond .lt 12, 3) := by decide +kernel
theorem dX4_siteNumbered_4 : decode cX4_siteNumbered 4 = .ok (.iload_n 1, 1) := by decide +kernel
theorem dX4_siteNumbered_5 : decode cX4_siteNumbered 5 = .ok (.aload_n 0, 1) := by decide +kernel
theorem dX4_siteNumbered_6 : decode cX4_siteNumbered 6 = .ok (.getfield 18, 3) := by decide +kernel
theorem dX4_siteNumbered_9 : decode cX4_siteNumbered 9 = .ok (.arraylength, 1) := by decide +kernel
theorem dX4_siteNumbered_10 : decode cX4_siteNumbered 10 = .ok (.if_icmp .lt 7, 3) := by decide +kernel
theorem dX4_siteNumbered_13 : decode cX4_siteNumbered 13 = .ok (.aconst_null, 1) := by decide +kernel
theorem dX4_siteNumbered_14 : decode cX4_siteNumbered 14 = .ok (.goto 9, 3) := by decide +kernel
theorem dX4_siteNumbered_17 : decode cX4_siteNumbered 17 = .ok (.aload_n 0, 1) := by decide +kernel
theorem dX4_siteNumbered_18 : decode cX4_siteNumbered 18 = .ok (.getfield 18, 3) := by decide +kernel
theorem dX4_siteNumbered_21 : decode cX4_siteNumbered 21 = .ok (.iload_n 1, 1) := by decide +kernel
theorem dX4_siteNumbered_22 : decode cX4_siteNumbered 22 = .ok (.aaload, 1) := by decide +kernel
theorem dX4_siteNumbered_23 : decode cX4_siteNumbered 23 = .ok (.astore_n 2, 1) := by decide +kernel
theorem dX4_siteNumbered_24 : decode cX4_siteNumbered 24 = .ok (.aload_n 2, 1) := by decide +kernel
theorem dX4_siteNumbered_25 : decode cX4_siteNumbered 25 = .ok (.ifnonnull 13, 3) := by decide +kernel
theorem dX4_siteNumbered_28 : decode cX4_siteNumbered 28 = .ok (.new 215, 3) := by decide +kernel
theorem dX4_siteNumbered_31 : decode cX4_siteNumbered 31 = .ok (.dup, 1) := by decide +kernel
theorem dX4_siteNumbered_32 : decode cX4_siteNumbered 32 = .ok (.ldc 222, 2) := by decide +kernel
theorem dX4_siteNumbered_34 : decode cX4_siteNumbered 34 = .ok (.invokespecial 219, 3) := by decide +kernel
theorem dX4_siteNumbered_37 : decode cX4_siteNumbered 37 = .ok (.athrow, 1) := by decide +kernel
theorem dX4_siteNumbered_38 : decode cX4_siteNumbered 38 = .ok (.aload_n 2, 1) := by decide +kernel
theorem dX4_siteNumbered_39 : decode cX4_siteNumbered 39 = .ok (.areturn, 1) := by decide +kernel
set_option maxRecDepth 20000 in
theorem ggX4_cacheAsked_X4_siteNumbered : GoodIn wsX4_cacheAsked wsX4_siteNumbered := goodIn_ca (goodIn_r _ [6, 7, 8, 9, 17, 18, 19, 20, 21, 22, 23, 24, 25, 26, 27, 28, 29] (by decide +kernel) (by decide +kernel)) (goodIn_sub (fun _ h => List.mem_cons_of_mem _ (List.mem_append_right _ h)) (by decide +kernel))
set_option maxRecDepth 20000 in
theorem gX4_cacheAsked_X4_siteNumbered : GoodIn wsX4_cacheAsked (wsV RX4 87 RX4 yX4_siteNumbered wsX4_siteNumbered) := goodIn_app (goodIn_of _ (by decide +kernel)) ggX4_cacheAsked_X4_siteNumbered
set_option maxRecDepth 20000 in
theorem ggX4_cacheAsked_X4_requireName : GoodIn wsX4_cacheAsked wsX4_requireName := goodIn_ca (goodIn_r _ [12, 7, 8] (by decide +kernel) (by decide +kernel)) (goodIn_sub (fun _ h => List.mem_cons_of_mem _ (List.mem_append_right _ h)) (by decide +kernel))
set_option maxRecDepth 20000 in
theorem gX4_cacheAsked_X4_requireName : GoodIn wsX4_cacheAsked (va_wsS RX4 43 yX4_requireName wsX4_requireName) := goodIn_app (goodIn_of _ (by decide +kernel)) ggX4_cacheAsked_X4_requireName
theorem dX4_cacheAsked_0 : decode cX4_cacheAsked 0 = .ok (.aload_n 0, 1) := by decide +kernel
theorem dX4_cacheAsked_1 : decode cX4_cacheAsked 1 = .ok (.iload_n 1, 1) := by decide +kernel
theorem dX4_cacheAsked_2 : decode cX4_cacheAsked 2 = .ok (.invokevirtual 87, 3) := by decide +kernel
theorem dX4_cacheAsked_5 : decode cX4_cacheAsked 5 = .ok (.astore_n 3, 1) := by decide +kernel
theorem dX4_cacheAsked_6 : decode cX4_cacheAsked 6 = .ok (.iload_n 2, 1) := by decide +kernel
theorem dX4_cacheAsked_7 : decode cX4_cacheAsked 7 = .ok (.invokestatic 43, 3) := by decide +kernel
theorem dX4_cacheAsked_10 : decode cX4_cacheAsked 10 = .ok (.aload_n 3, 1) := by decide +kernel
theorem dX4_cacheAsked_11 : decode cX4_cacheAsked 11 = .ok (.getfield 115, 3) := by decide +kernel
theorem dX4_cacheAsked_14 : decode cX4_cacheAsked 14 = .ok (.areturn, 1) := by decide +kernel
set_option maxRecDepth 20000 in
theorem ggX4_siteAsked_X4_requireName : GoodIn wsX4_siteAsked wsX4_requireName := goodIn_ca (goodIn_r _ [6, 7, 8] (by decide +kernel) (by decide +kernel)) (goodIn_sub (fun _ h => List.mem_cons_of_mem _ (List.mem_append_left _ (List.mem_append_right _ h))) (by decide +kernel))
set_option maxRecDepth 20000 in
theorem gX4_siteAsked_X4_requireName : GoodIn wsX4_siteAsked (va_wsS RX4 43 yX4_requireName wsX4_requireName) := goodIn_app (goodIn_of _ (by decide +kernel)) ggX4_siteAsked_X4_requireName
set_option maxRecDepth 20000 in
theorem ggX4_siteAsked_X4_requireWithin : GoodIn wsX4_siteAsked wsX4_requireWithin := goodIn_ca (goodIn_r _ [11, 12, 13] (by decide +kernel) (by decide +kernel)) (goodIn_sub (fun _ h => List.mem_cons_of_mem _ (List.mem_append_right _ h)) (by decide +kernel))
set_option maxRecDepth 20000 in
theorem gX4_siteAsked_X4_requireWithin : GoodIn wsX4_siteAsked (va_wsS RX4 47 yX4_requireWithin wsX4_requireWithin) := goodIn_app (goodIn_of _ (by decide +kernel)) ggX4_siteAsked_X4_requireWithin
set_option maxRecDepth 20000 in
theorem ggX4_siteAsked_X4_nearestSite : GoodIn wsX4_siteAsked wsX4_nearestSite := goodIn_r _ [17, 18, 19, 20, 21, 22, 23, 24, 25, 26, 27, 28, 29, 30, 31, 32, 33, 34, 35, 36, 37, 38, 39, 40, 41, 42, 43, 44, 45, 46] (by decide +kernel) (by decide +kernel)
set_option maxRecDepth 20000 in
theorem gX4_siteAsked_X4_nearestSite : GoodIn wsX4_siteAsked (wsV RX4 94 RX4 yX4_nearestSite wsX4_nearestSite) := goodIn_app (goodIn_of _ (by decide +kernel)) ggX4_siteAsked_X4_nearestSite
theorem dX4_siteAsked_0 : decode cX4_siteAsked 0 = .ok (.iload_n 2, 1) := by decide +kernel
theorem dX4_siteAsked_1 : decode cX4_siteAsked 1 = .ok (.invokestatic 43, 3) := by decide +kernel
theorem dX4_siteAsked_4 : decode cX4_siteAsked 4 = .ok (.iload_n 1, 1) := by decide +kernel
theorem dX4_siteAsked_5 : decode cX4_siteAsked 5 = .ok (.iconst 0, 1) := by decide +kernel
theorem dX4_siteAsked_6 : decode cX4_siteAsked 6 = .ok (.bipush 99, 2) := by decide +kernel
theorem dX4_siteAsked_8 : decode cX4_siteAsked 8 = .ok (.invokestatic 47, 3) := by decide +kernel
theorem dX4_siteAsked_11 : decode cX4_siteAsked 11 = .ok (.aload_n 0, 1) := by decide +kernel
theorem dX4_siteAsked_12 : decode cX4_siteAsked 12 = .ok (.iload_n 1, 1) := by decide +kernel
theorem dX4_siteAsked_13 : decode cX4_siteAsked 13 = .ok (.invokevirtual 94, 3) := by decide +kernel
theorem dX4_siteAsked_16 : decode cX4_siteAsked 16 = .ok (.astore_n 3, 1) := by decide +kernel
theorem dX4_siteAsked_17 : decode cX4_siteAsked 17 = .ok (.aload_n 3, 1) := by decide +kernel
theorem dX4_siteAsked_18 : decode cX4_siteAsked 18 = .ok (.ifnonnull 13, 3) := by decide +kernel
theorem dX4_siteAsked_21 : decode cX4_siteAsked 21 = .ok (.new 79, 3) := by decide +kernel
theorem dX4_siteAsked_24 : decode cX4_siteAsked 24 = .ok (.dup, 1) := by decide +kernel
theorem dX4_siteAsked_25 : decode cX4_siteAsked 25 = .ok (.ldc 224, 2) := by decide +kernel
theorem dX4_siteAsked_27 : decode cX4_siteAsked 27 = .ok (.invokespecial 83, 3) := by decide +kernel
theorem dX4_siteAsked_30 : decode cX4_siteAsked 30 = .ok (.athrow, 1) := by decide +kernel
theorem dX4_siteAsked_31 : decode cX4_siteAsked 31 = .ok (.aload_n 3, 1) := by decide +kernel
theorem dX4_siteAsked_32 : decode cX4_siteAsked 32 = .ok (.areturn, 1) := by decide +kernel
set_option maxRecDepth 20000 in
theorem ggX4_nearestSite_X2_distanceTo : GoodIn wsX4_nearestSite wsX2_distanceTo := goodIn_r _ [7, 8, 9, 10, 11, 12, 26, 27, 28, 29] (by decide +kernel) (by decide +kernel)
set_option maxRecDepth 20000 in
theorem gX4_nearestSite_X2_distanceTo : GoodIn wsX4_nearestSite (wsV RX4 226 RX2 yX2_distanceTo wsX2_distanceTo) := goodIn_app (goodIn_of _ (by decide +kernel)) ggX4_nearestSite_X2_distanceTo
theorem dX4_nearestSite_0 : decode cX4_nearestSite 0 = .ok (.aconst_null, 1) := by decide +kernel
theorem dX4_nearestSite_1 : decode cX4_nearestSite 1 = .ok (.astore_n 2, 1) := by decide +kernel
theorem dX4_nearestSite_2 : decode cX4_nearestSite 2 = .ok (.aload_n 0, 1) := by decide +kernel
theorem dX4_nearestSite_3 : decode cX4_nearestSite 3 = .ok (.getfield 18, 3) := by decide +kernel
theorem dX4_nearestSite_6 : decode cX4_nearestSite 6 = .ok (.astore_n 3, 1) := by decide +kernel
theorem dX4_nearestSite_7 : decode cX4_nearestSite 7 = .ok (.aload_n 3, 1) := by decide +kernel
theorem dX4_nearestSite_8 : decode cX4_nearestSite 8 = .ok (.arraylength, 1) := by decide +kernel
theorem dX4_nearestSite_9 : decode cX4_nearestSite 9 = .ok (.istore 4, 2) := by decide +kernel
theorem dX4_nearestSite_11 : decode cX4_nearestSite 11 = .ok (.iconst 0, 1) := by decide +kernel
theorem dX4_nearestSite_12 : decode cX4_nearestSite 12 = .ok (.istore 5, 2) := by decide +kernel
theorem dX4_nearestSite_14 : decode cX4_nearestSite 14 = .ok (.iload 5, 2) := by decide +kernel
theorem dX4_nearestSite_16 : decode cX4_nearestSite 16 = .ok (.iload 4, 2) := by decide +kernel
theorem dX4_nearestSite_18 : decode cX4_nearestSite 18 = .ok (.if_icmp .ge 52, 3) := by decide +kernel
theorem dX4_nearestSite_21 : decode cX4_nearestSite 21 = .ok (.aload_n 3, 1) := by decide +kernel
theorem dX4_nearestSite_22 : decode cX4_nearestSite 22 = .ok (.iload 5, 2) := by decide +kernel
theorem dX4_nearestSite_24 : decode cX4_nearestSite 24 = .ok (.aaload, 1) := by decide +kernel
theorem dX4_nearestSite_25 : decode cX4_nearestSite 25 = .ok (.astore 6, 2) := by decide +kernel
theorem dX4_nearestSite_27 : decode cX4_nearestSite 27 = .ok (.aload 6, 2) := by decide +kernel
theorem dX4_nearestSite_29 : decode cX4_nearestSite 29 = .ok (.ifnull 35, 3) := by decide +kernel
theorem dX4_nearestSite_32 : decode cX4_nearestSite 32 = .ok (.aload 6, 2) := by decide +kernel
theorem dX4_nearestSite_34 : decode cX4_nearestSite 34 = .ok (.getfield 91, 3) := by decide +kernel
theorem dX4_nearestSite_37 : decode cX4_nearestSite 37 = .ok (.ifCond .ne 6, 3) := by decide +kernel
theorem dX4_nearestSite_40 : decode cX4_nearestSite 40 = .ok (.goto 24, 3) := by decide +kernel
theorem dX4_nearestSite_43 : decode cX4_nearestSite 43 = .ok (.aload_n 2, 1) := by decide +kernel
theorem dX4_nearestSite_44 : decode cX4_nearestSite 44 = .ok (.ifnull 17, 3) := by decide +kernel
theorem dX4_nearestSite_47 : decode cX4_nearestSite 47 = .ok (.aload 6, 2) := by decide +kernel
theorem dX4_nearestSite_49 : decode cX4_nearestSite 49 = .ok (.iload_n 1, 1) := by decide +kernel
theorem dX4_nearestSite_50 : decode cX4_nearestSite 50 = .ok (.invokevirtual 226, 3) := by decide +kernel
theorem dX4_nearestSite_53 : decode cX4_nearestSite 53 = .ok (.aload_n 2, 1) := by decide +kernel
theorem dX4_nearestSite_54 : decode cX4_nearestSite 54 = .ok (.iload_n 1, 1) := by decide +kernel
theorem dX4_nearestSite_55 : decode cX4_nearestSite 55 = .ok (.invokevirtual 226, 3) := by decide +kernel
theorem dX4_nearestSite_58 : decode cX4_nearestSite 58 = .ok (.if_icmp .ge 6, 3) := by decide +kernel
theorem dX4_nearestSite_61 : decode cX4_nearestSite 61 = .ok (.aload 6, 2) := by decide +kernel
theorem dX4_nearestSite_63 : decode cX4_nearestSite 63 = .ok (.astore_n 2, 1) := by decide +kernel
theorem dX4_nearestSite_64 : decode cX4_nearestSite 64 = .ok (.iinc 5 1, 3) := by decide +kernel
theorem dX4_nearestSite_67 : decode cX4_nearestSite 67 = .ok (.goto (-53), 3) := by decide +kernel
theorem dX4_nearestSite_70 : decode cX4_nearestSite 70 = .ok (.aload_n 2, 1) := by decide +kernel
theorem dX4_nearestSite_71 : decode cX4_nearestSite 71 = .ok (.areturn, 1) := by decide +kernel
theorem dX5_init_0 : decode cX5_init 0 = .ok (.aload_n 0, 1) := by decide +kernel
theorem dX5_init_1 : decode cX5_init 1 = .ok (.invokespecial 1, 3) := by decide +kernel
theorem dX5_init_4 : decode cX5_init 4 = .ok (.aload_n 0, 1) := by decide +kernel
theorem dX5_init_5 : decode cX5_init 5 = .ok (.bipush 16, 2) := by decide +kernel
theorem dX5_init_7 : decode cX5_init 7 = .ok (.newarray .int, 2) := by decide +kernel
theorem dX5_init_9 : decode cX5_init 9 = .ok (.putfield 7, 3) := by decide +kernel
theorem dX5_init_12 : decode cX5_init 12 = .ok (.aload_n 0, 1) := by decide +kernel
theorem dX5_init_13 : decode cX5_init 13 = .ok (.bipush 16, 2) := by decide +kernel
theorem dX5_init_15 : decode cX5_init 15 = .ok (.newarray .int, 2) := by decide +kernel
theorem dX5_init_17 : decode cX5_init 17 = .ok (.putfield 13, 3) := by decide +kernel
theorem dX5_init_20 : decode cX5_init 20 = .ok (.aload_n 0, 1) := by decide +kernel
theorem dX5_init_21 : decode cX5_init 21 = .ok (.bipush 16, 2) := by decide +kernel
theorem dX5_init_23 : decode cX5_init 23 = .ok (.newarray .int, 2) := by decide +kernel
theorem dX5_init_25 : decode cX5_init 25 = .ok (.putfield 16, 3) := by decide +kernel
theorem dX5_init_28 : decode cX5_init 28 = .ok (.aload_n 0, 1) := by decide +kernel
theorem dX5_init_29 : decode cX5_init 29 = .ok (.iconst 4, 1) := by decide +kernel
theorem dX5_init_30 : decode cX5_init 30 = .ok (.newarray .int, 2) := by decide +kernel
theorem dX5_init_32 : decode cX5_init 32 = .ok (.putfield 19, 3) := by decide +kernel
theorem dX5_init_35 : decode cX5_init 35 = .ok (.aload_n 0, 1) := by decide +kernel
theorem dX5_init_36 : decode cX5_init 36 = .ok (.iconst 4, 1) := by decide +kernel
theorem dX5_init_37 : decode cX5_init 37 = .ok (.newarray .boolean, 2) := by decide +kernel
theorem dX5_init_39 : decode cX5_init 39 = .ok (.putfield 22, 3) := by decide +kernel
theorem dX5_init_42 : decode cX5_init 42 = .ok (.aload_n 0, 1) := by decide +kernel
theorem dX5_init_43 : decode cX5_init 43 = .ok (.bipush 64, 2) := by decide +kernel
theorem dX5_init_45 : decode cX5_init 45 = .ok (.newarray .int, 2) := by decide +kernel
theorem dX5_init_47 : decode cX5_init 47 = .ok (.putfield 26, 3) := by decide +kernel
theorem dX5_init_50 : decode cX5_init 50 = .ok (.aload_n 0, 1) := by decide +kernel
theorem dX5_init_51 : decode cX5_init 51 = .ok (.bipush 64, 2) := by decide +kernel
theorem dX5_init_53 : decode cX5_init 53 = .ok (.newarray .int, 2) := by decide +kernel
theorem dX5_init_55 : decode cX5_init 55 = .ok (.putfield 29, 3) := by decide +kernel
theorem dX5_init_58 : decode cX5_init 58 = .ok (.aload_n 0, 1) := by decide +kernel
theorem dX5_init_59 : decode cX5_init 59 = .ok (.bipush 64, 2) := by decide +kernel
theorem dX5_init_61 : decode cX5_init 61 = .ok (.newarray .int, 2) := by decide +kernel
theorem dX5_init_63 : decode cX5_init 63 = .ok (.putfield 32, 3) := by decide +kernel
theorem dX5_init_66 : decode cX5_init 66 = .ok (.aload_n 0, 1) := by decide +kernel
theorem dX5_init_67 : decode cX5_init 67 = .ok (.bipush 64, 2) := by decide +kernel
theorem dX5_init_69 : decode cX5_init 69 = .ok (.newarray .int, 2) := by decide +kernel
theorem dX5_init_71 : decode cX5_init 71 = .ok (.putfield 35, 3) := by decide +kernel
theorem dX5_init_74 : decode cX5_init 74 = .ok (.aload_n 0, 1) := by decide +kernel
theorem dX5_init_75 : decode cX5_init 75 = .ok (.bipush 64, 2) := by decide +kernel
theorem dX5_init_77 : decode cX5_init 77 = .ok (.newarray .int, 2) := by decide +kernel
theorem dX5_init_79 : decode cX5_init 79 = .ok (.putfield 38, 3) := by decide +kernel
theorem dX5_init_82 : decode cX5_init 82 = .ok (.aload_n 0, 1) := by decide +kernel
theorem dX5_init_83 : decode cX5_init 83 = .ok (.bipush 8, 2) := by decide +kernel
theorem dX5_init_85 : decode cX5_init 85 = .ok (.newarray .int, 2) := by decide +kernel
theorem dX5_init_87 : decode cX5_init 87 = .ok (.putfield 41, 3) := by decide +kernel
theorem dX5_init_90 : decode cX5_init 90 = .ok (.aload_n 0, 1) := by decide +kernel
theorem dX5_init_91 : decode cX5_init 91 = .ok (.bipush 16, 2) := by decide +kernel
theorem dX5_init_93 : decode cX5_init 93 = .ok (.newarray .int, 2) := by decide +kernel
theorem dX5_init_95 : decode cX5_init 95 = .ok (.putfield 44, 3) := by decide +kernel
theorem dX5_init_98 : decode cX5_init 98 = .ok (.aload_n 0, 1) := by decide +kernel
theorem dX5_init_99 : decode cX5_init 99 = .ok (.bipush 16, 2) := by decide +kernel
theorem dX5_init_101 : decode cX5_init 101 = .ok (.newarray .int, 2) := by decide +kernel
theorem dX5_init_103 : decode cX5_init 103 = .ok (.putfield 47, 3) := by decide +kernel
theorem dX5_init_106 : decode cX5_init 106 = .ok (.aload_n 0, 1) := by decide +kernel
theorem dX5_init_107 : decode cX5_init 107 = .ok (.bipush 16, 2) := by decide +kernel
theorem dX5_init_109 : decode cX5_init 109 = .ok (.newarray .int, 2) := by decide +kernel
theorem dX5_init_111 : decode cX5_init 111 = .ok (.putfield 50, 3) := by decide +kernel
theorem dX5_init_114 : decode cX5_init 114 = .ok (.aload_n 0, 1) := by decide +kernel
theorem dX5_init_115 : decode cX5_init 115 = .ok (.bipush 16, 2) := by decide +kernel
theorem dX5_init_117 : decode cX5_init 117 = .ok (.newarray .int, 2) := by decide +kernel
theorem dX5_init_119 : decode cX5_init 119 = .ok (.putfield 53, 3) := by decide +kernel
theorem dX5_init_122 : decode cX5_init 122 = .ok (.aload_n 0, 1) := by decide +kernel
theorem dX5_init_123 : decode cX5_init 123 = .ok (.bipush 16, 2) := by decide +kernel
theorem dX5_init_125 : decode cX5_init 125 = .ok (.newarray .int, 2) := by decide +kernel
theorem dX5_init_127 : decode cX5_init 127 = .ok (.putfield 56, 3) := by decide +kernel
theorem dX5_init_130 : decode cX5_init 130 = .ok (.iconst 0, 1) := by decide +kernel
theorem dX5_init_131 : decode cX5_init 131 = .ok (.istore_n 1, 1) := by decide +kernel
theorem dX5_init_132 : decode cX5_init 132 = .ok (.iload_n 1, 1) := by decide +kernel
theorem dX5_init_133 : decode cX5_init 133 = .ok (.bipush 16, 2) := by decide +kernel
theorem dX5_init_135 : decode cX5_init 135 = .ok (.if_icmp .ge 16, 3) := by decide +kernel
theorem dX5_init_138 : decode cX5_init 138 = .ok (.aload_n 0, 1) := by decide +kernel
theorem dX5_init_139 : decode cX5_init 139 = .ok (.getfield 7, 3) := by decide +kernel
theorem dX5_init_142 : decode cX5_init 142 = .ok (.iload_n 1, 1) := by decide +kernel
theorem dX5_init_143 : decode cX5_init 143 = .ok (.iconst 2, 1) := by decide +kernel
theorem dX5_init_144 : decode cX5_init 144 = .ok (.iastore, 1) := by decide +kernel
theorem dX5_init_145 : decode cX5_init 145 = .ok (.iinc 1 1, 3) := by decide +kernel
theorem dX5_init_148 : decode cX5_init 148 = .ok (.goto (-16), 3) := by decide +kernel
theorem dX5_init_151 : decode cX5_init 151 = .ok (.iconst 0, 1) := by decide +kernel
theorem dX5_init_152 : decode cX5_init 152 = .ok (.istore_n 1, 1) := by decide +kernel
theorem dX5_init_153 : decode cX5_init 153 = .ok (.iload_n 1, 1) := by decide +kernel
theorem dX5_init_154 : decode cX5_init 154 = .ok (.bipush 64, 2) := by decide +kernel
theorem dX5_init_156 : decode cX5_init 156 = .ok (.if_icmp .ge 16, 3) := by decide +kernel
theorem dX5_init_159 : decode cX5_init 159 = .ok (.aload_n 0, 1) := by decide +kernel
theorem dX5_init_160 : decode cX5_init 160 = .ok (.getfield 26, 3) := by decide +kernel
theorem dX5_init_163 : decode cX5_init 163 = .ok (.iload_n 1, 1) := by decide +kernel
theorem dX5_init_164 : decode cX5_init 164 = .ok (.iconst 3, 1) := by decide +kernel
theorem dX5_init_165 : decode cX5_init 165 = .ok (.iastore, 1) := by decide +kernel
theorem dX5_init_166 : decode cX5_init 166 = .ok (.iinc 1 1, 3) := by decide +kernel
theorem dX5_init_169 : decode cX5_init 169 = .ok (.goto (-16), 3) := by decide +kernel
theorem dX5_init_172 : decode cX5_init 172 = .ok (.aload_n 0, 1) := by decide +kernel
theorem dX5_init_173 : decode cX5_init 173 = .ok (.bipush 30, 2) := by decide +kernel
theorem dX5_init_175 : decode cX5_init 175 = .ok (.putfield 59, 3) := by decide +kernel
theorem dX5_init_178 : decode cX5_init 178 = .ok (.aload_n 0, 1) := by decide +kernel
theorem dX5_init_179 : decode cX5_init 179 = .ok (.iconst 1, 1) := by decide +kernel
theorem dX5_init_180 : decode cX5_init 180 = .ok (.putfield 63, 3) := by decide +kernel
theorem dX5_init_183 : decode cX5_init 183 = .ok (.aload_n 0, 1) := by decide +kernel
theorem dX5_init_184 : decode cX5_init 184 = .ok (.bipush (-3), 2) := by decide +kernel
theorem dX5_init_186 : decode cX5_init 186 = .ok (.putfield 67, 3) := by decide +kernel
theorem dX5_init_189 : decode cX5_init 189 = .ok (.return_, 1) := by decide +kernel
theorem dX5_thrown_0 : decode cX5_thrown 0 = .ok (.aload_n 0, 1) := by decide +kernel
theorem dX5_thrown_1 : decode cX5_thrown 1 = .ok (.getfield 70, 3) := by decide +kernel
theorem dX5_thrown_4 : decode cX5_thrown 4 = .ok (.ireturn, 1) := by decide +kernel
theorem dX5_in_0 : decode cX5_in 0 = .ok (.iload_n 0, 1) := by decide +kernel
theorem dX5_in_1 : decode cX5_in 1 = .ok (.iload_n 1, 1) := by decide +kernel
theorem dX5_in_2 : decode cX5_in 2 = .ok (.if_icmp .lt 12, 3) := by decide +kernel
theorem dX5_in_5 : decode cX5_in 5 = .ok (.iload_n 0, 1) := by decide +kernel
theorem dX5_in_6 : decode cX5_in 6 = .ok (.iload_n 2, 1) := by decide +kernel
theorem dX5_in_7 : decode cX5_in 7 = .ok (.if_icmp .gt 7, 3) := by decide +kernel
theorem dX5_in_10 : decode cX5_in 10 = .ok (.iconst 1, 1) := by decide +kernel
theorem dX5_in_11 : decode cX5_in 11 = .ok (.goto 4, 3) := by decide +kernel
theorem dX5_in_14 : decode cX5_in 14 = .ok (.iconst 0, 1) := by decide +kernel
theorem dX5_in_15 : decode cX5_in 15 = .ok (.ireturn, 1) := by decide +kernel
set_option maxRecDepth 20000 in
theorem ggX5_isName_X5_in : GoodIn wsX5_isName wsX5_in := goodIn_r _ [4] (by decide +kernel) (by decide +kernel)
set_option maxRecDepth 20000 in
theorem gX5_isName_X5_in : GoodIn wsX5_isName (va_wsS RX5 73 yX5_in wsX5_in) := goodIn_app (goodIn_of _ (by decide +kernel)) ggX5_isName_X5_in
theorem dX5_isName_0 : decode cX5_isName 0 = .ok (.iload_n 0, 1) := by decide +kernel
theorem dX5_isName_1 : decode cX5_isName 1 = .ok (.iconst 0, 1) := by decide +kernel
theorem dX5_isName_2 : decode cX5_isName 2 = .ok (.bipush 15, 2) := by decide +kernel
theorem dX5_isName_4 : decode cX5_isName 4 = .ok (.invokestatic 73, 3) := by decide +kernel
theorem dX5_isName_7 : decode cX5_isName 7 = .ok (.ireturn, 1) := by decide +kernel
set_option maxRecDepth 20000 in
theorem ggX5_isSite_X5_in : GoodIn wsX5_isSite wsX5_in := goodIn_r _ [5] (by decide +kernel) (by decide +kernel)
set_option maxRecDepth 20000 in
theorem gX5_isSite_X5_in : GoodIn wsX5_isSite (va_wsS RX5 73 yX5_in wsX5_in) := goodIn_app (goodIn_of _ (by decide +kernel)) ggX5_isSite_X5_in
theorem dX5_isSite_0 : decode cX5_isSite 0 = .ok (.iload_n 1, 1) := by decide +kernel
theorem dX5_isSite_1 : decode cX5_isSite 1 = .ok (.iconst 0, 1) := by decide +kernel
theorem dX5_isSite_2 : decode cX5_isSite 2 = .ok (.aload_n 0, 1) := by decide +kernel
theorem dX5_isSite_3 : decode cX5_isSite 3 = .ok (.getfield 77, 3) := by decide +kernel
theorem dX5_isSite_6 : decode cX5_isSite 6 = .ok (.iconst 1, 1) := by decide +kernel
theorem dX5_isSite_7 : decode cX5_isSite 7 = .ok (.isub, 1) := by decide +kernel
theorem dX5_isSite_8 : decode cX5_isSite 8 = .ok (.invokestatic 73, 3) := by decide +kernel
theorem dX5_isSite_11 : decode cX5_isSite 11 = .ok (.ireturn, 1) := by decide +kernel
set_option maxRecDepth 20000 in
theorem ggX5_setAddress_X5_isName : GoodIn wsX5_setAddress wsX5_isName := goodIn_r _ [8, 9, 10, 7, 11] (by decide +kernel) (by decide +kernel)
set_option maxRecDepth 20000 in
theorem gX5_setAddress_X5_isName : GoodIn wsX5_setAddress (va_wsS RX5 80 yX5_isName wsX5_isName) := goodIn_app (goodIn_of _ (by decide +kernel)) ggX5_setAddress_X5_isName
set_option maxRecDepth 20000 in
theorem ggX5_setAddress_X5_in : GoodIn wsX5_setAddress wsX5_in := goodIn_r _ [11] (by decide +kernel) (by decide +kernel)
set_option maxRecDepth 20000 in
theorem gX5_setAddress_X5_in : GoodIn wsX5_setAddress (va_wsS RX5 73 yX5_in wsX5_in) := goodIn_app (goodIn_of _ (by decide +kernel)) ggX5_setAddress_X5_in
theorem dX5_setAddress_0 : decode cX5_setAddress 0 = .ok (.aload_n 0, 1) := by decide +kernel
theorem dX5_setAddress_1 : decode cX5_setAddress 1 = .ok (.iload_n 1, 1) := by decide +kernel
theorem dX5_setAddress_2 : decode cX5_setAddress 2 = .ok (.invokestatic 80, 3) := by decide +kernel
theorem dX5_setAddress_5 : decode cX5_setAddress 5 = .ok (.ifCond .ne 7, 3) := by decide +kernel
theorem dX5_setAddress_8 : decode cX5_setAddress 8 = .ok (.iconst 1, 1) := by decide +kernel
theorem dX5_setAddress_9 : decode cX5_setAddress 9 = .ok (.goto 30, 3) := by decide +kernel
theorem dX5_setAddress_12 : decode cX5_setAddress 12 = .ok (.iload_n 2, 1) := by decide +kernel
theorem dX5_setAddress_13 : decode cX5_setAddress 13 = .ok (.iconst 1, 1) := by decide +kernel
theorem dX5_setAddress_14 : decode cX5_setAddress 14 = .ok (.sipush 9999, 3) := by decide +kernel
theorem dX5_setAddress_17 : decode cX5_setAddress 17 = .ok (.invokestatic 73, 3) := by decide +kernel
theorem dX5_setAddress_20 : decode cX5_setAddress 20 = .ok (.ifCond .eq 14, 3) := by decide +kernel
theorem dX5_setAddress_23 : decode cX5_setAddress 23 = .ok (.iload_n 3, 1) := by decide +kernel
theorem dX5_setAddress_24 : decode cX5_setAddress 24 = .ok (.iconst 1, 1) := by decide +kernel
theorem dX5_setAddress_25 : decode cX5_setAddress 25 = .ok (.sipush 1000, 3) := by decide +kernel
theorem dX5_setAddress_28 : decode cX5_setAddress 28 = .ok (.invokestatic 73, 3) := by decide +kernel
theorem dX5_setAddress_31 : decode cX5_setAddress 31 = .ok (.ifCond .ne 7, 3) := by decide +kernel
theorem dX5_setAddress_34 : decode cX5_setAddress 34 = .ok (.iconst 2, 1) := by decide +kernel
theorem dX5_setAddress_35 : decode cX5_setAddress 35 = .ok (.goto 4, 3) := by decide +kernel
theorem dX5_setAddress_38 : decode cX5_setAddress 38 = .ok (.iconst 0, 1) := by decide +kernel
theorem dX5_setAddress_39 : decode cX5_setAddress 39 = .ok (.putfield 70, 3) := by decide +kernel
theorem dX5_setAddress_42 : decode cX5_setAddress 42 = .ok (.aload_n 0, 1) := by decide +kernel
theorem dX5_setAddress_43 : decode cX5_setAddress 43 = .ok (.getfield 70, 3) := by decide +kernel
theorem dX5_setAddress_46 : decode cX5_setAddress 46 = .ok (.ifCond .ne 24, 3) := by decide +kernel
theorem dX5_setAddress_49 : decode cX5_setAddress 49 = .ok (.aload_n 0, 1) := by decide +kernel
theorem dX5_setAddress_50 : decode cX5_setAddress 50 = .ok (.getfield 7, 3) := by decide +kernel
theorem dX5_setAddress_53 : decode cX5_setAddress 53 = .ok (.iload_n 1, 1) := by decide +kernel
theorem dX5_setAddress_54 : decode cX5_setAddress 54 = .ok (.iconst 0, 1) := by decide +kernel
theorem dX5_setAddress_55 : decode cX5_setAddress 55 = .ok (.iastore, 1) := by decide +kernel
theorem dX5_setAddress_56 : decode cX5_setAddress 56 = .ok (.aload_n 0, 1) := by decide +kernel
theorem dX5_setAddress_57 : decode cX5_setAddress 57 = .ok (.getfield 13, 3) := by decide +kernel
theorem dX5_setAddress_60 : decode cX5_setAddress 60 = .ok (.iload_n 1, 1) := by decide +kernel
theorem dX5_setAddress_61 : decode cX5_setAddress 61 = .ok (.iload_n 2, 1) := by decide +kernel
theorem dX5_setAddress_62 : decode cX5_setAddress 62 = .ok (.iastore, 1) := by decide +kernel
theorem dX5_setAddress_63 : decode cX5_setAddress 63 = .ok (.aload_n 0, 1) := by decide +kernel
theorem dX5_setAddress_64 : decode cX5_setAddress 64 = .ok (.getfield 16, 3) := by decide +kernel
theorem dX5_setAddress_67 : decode cX5_setAddress 67 = .ok (.iload_n 1, 1) := by decide +kernel
theorem dX5_setAddress_68 : decode cX5_setAddress 68 = .ok (.iload_n 3, 1) := by decide +kernel
theorem dX5_setAddress_69 : decode cX5_setAddress 69 = .ok (.iastore, 1) := by decide +kernel
theorem dX5_setAddress_70 : decode cX5_setAddress 70 = .ok (.return_, 1) := by decide +kernel
set_option maxRecDepth 20000 in
theorem ggX5_setAlias_X5_isName : GoodIn wsX5_setAlias wsX5_isName := goodIn_r _ [8, 9, 10, 7, 11] (by decide +kernel) (by decide +kernel)
set_option maxRecDepth 20000 in
theorem gX5_setAlias_X5_isName : GoodIn wsX5_setAlias (va_wsS RX5 80 yX5_isName wsX5_isName) := goodIn_app (goodIn_of _ (by decide +kernel)) ggX5_setAlias_X5_isName
set_option maxRecDepth 20000 in
theorem ggX5_setAlias_X5_in : GoodIn wsX5_setAlias wsX5_in := goodIn_r _ [11] (by decide +kernel) (by decide +kernel)
set_option maxRecDepth 20000 in
theorem gX5_setAlias_X5_in : GoodIn wsX5_setAlias (va_wsS RX5 73 yX5_in wsX5_in) := goodIn_app (goodIn_of _ (by decide +kernel)) ggX5_setAlias_X5_in
theorem dX5_setAlias_0 : decode cX5_setAlias 0 = .ok (.aload_n 0, 1) := by decide +kernel
theorem dX5_setAlias_1 : decode cX5_setAlias 1 = .ok (.iload_n 1, 1) := by decide +kernel
theorem dX5_setAlias_2 : decode cX5_setAlias 2 = .ok (.invokestatic 80, 3) := by decide +kernel
theorem dX5_setAlias_5 : decode cX5_setAlias 5 = .ok (.ifCond .eq 10, 3) := by decide +kernel
theorem dX5_setAlias_8 : decode cX5_setAlias 8 = .ok (.iload_n 2, 1) := by decide +kernel
theorem dX5_setAlias_9 : decode cX5_setAlias 9 = .ok (.invokestatic 80, 3) := by decide +kernel
theorem dX5_setAlias_12 : decode cX5_setAlias 12 = .ok (.ifCond .ne 7, 3) := by decide +kernel
theorem dX5_setAlias_15 : decode cX5_setAlias 15 = .ok (.iconst 1, 1) := by decide +kernel
theorem dX5_setAlias_16 : decode cX5_setAlias 16 = .ok (.goto 24, 3) := by decide +kernel
theorem dX5_setAlias_19 : decode cX5_setAlias 19 = .ok (.iload_n 2, 1) := by decide +kernel
theorem dX5_setAlias_20 : decode cX5_setAlias 20 = .ok (.iload_n 1, 1) := by decide +kernel
theorem dX5_setAlias_21 : decode cX5_setAlias 21 = .ok (.if_icmp .eq 14, 3) := by decide +kernel
theorem dX5_setAlias_24 : decode cX5_setAlias 24 = .ok (.iload_n 3, 1) := by decide +kernel
theorem dX5_setAlias_25 : decode cX5_setAlias 25 = .ok (.iconst 1, 1) := by decide +kernel
theorem dX5_setAlias_26 : decode cX5_setAlias 26 = .ok (.sipush 1000, 3) := by decide +kernel
theorem dX5_setAlias_29 : decode cX5_setAlias 29 = .ok (.invokestatic 73, 3) := by decide +kernel
theorem dX5_setAlias_32 : decode cX5_setAlias 32 = .ok (.ifCond .ne 7, 3) := by decide +kernel
theorem dX5_setAlias_35 : decode cX5_setAlias 35 = .ok (.iconst 2, 1) := by decide +kernel
theorem dX5_setAlias_36 : decode cX5_setAlias 36 = .ok (.goto 4, 3) := by decide +kernel
theorem dX5_setAlias_39 : decode cX5_setAlias 39 = .ok (.iconst 0, 1) := by decide +kernel
theorem dX5_setAlias_40 : decode cX5_setAlias 40 = .ok (.putfield 70, 3) := by decide +kernel
theorem dX5_setAlias_43 : decode cX5_setAlias 43 = .ok (.aload_n 0, 1) := by decide +kernel
theorem dX5_setAlias_44 : decode cX5_setAlias 44 = .ok (.getfield 70, 3) := by decide +kernel
theorem dX5_setAlias_47 : decode cX5_setAlias 47 = .ok (.ifCond .ne 24, 3) := by decide +kernel
theorem dX5_setAlias_50 : decode cX5_setAlias 50 = .ok (.aload_n 0, 1) := by decide +kernel
theorem dX5_setAlias_51 : decode cX5_setAlias 51 = .ok (.getfield 7, 3) := by decide +kernel
theorem dX5_setAlias_54 : decode cX5_setAlias 54 = .ok (.iload_n 1, 1) := by decide +kernel
theorem dX5_setAlias_55 : decode cX5_setAlias 55 = .ok (.iconst 1, 1) := by decide +kernel
theorem dX5_setAlias_56 : decode cX5_setAlias 56 = .ok (.iastore, 1) := by decide +kernel
theorem dX5_setAlias_57 : decode cX5_setAlias 57 = .ok (.aload_n 0, 1) := by decide +kernel
theorem dX5_setAlias_58 : decode cX5_setAlias 58 = .ok (.getfield 13, 3) := by decide +kernel
theorem dX5_setAlias_61 : decode cX5_setAlias 61 = .ok (.iload_n 1, 1) := by decide +kernel
theorem dX5_setAlias_62 : decode cX5_setAlias 62 = .ok (.iload_n 2, 1) := by decide +kernel
theorem dX5_setAlias_63 : decode cX5_setAlias 63 = .ok (.iastore, 1) := by decide +kernel
theorem dX5_setAlias_64 : decode cX5_setAlias 64 = .ok (.aload_n 0, 1) := by decide +kernel
theorem dX5_setAlias_65 : decode cX5_setAlias 65 = .ok (.getfield 16, 3) := by decide +kernel
theorem dX5_setAlias_68 : decode cX5_setAlias 68 = .ok (.iload_n 1, 1) := by decide +kernel
theorem dX5_setAlias_69 : decode cX5_setAlias 69 = .ok (.iload_n 3, 1) := by decide +kernel
theorem dX5_setAlias_70 : decode cX5_setAlias 70 = .ok (.iastore, 1) := by decide +kernel
theorem dX5_setAlias_71 : decode cX5_setAlias 71 = .ok (.return_, 1) := by decide +kernel
set_option maxRecDepth 20000 in
theorem ggX5_remove_X5_isName : GoodIn wsX5_remove wsX5_isName := goodIn_r _ [6, 7, 8, 5, 9] (by decide +kernel) (by decide +kernel)
set_option maxRecDepth 20000 in
theorem gX5_remove_X5_isName : GoodIn wsX5_remove (va_wsS RX5 80 yX5_isName wsX5_isName) := goodIn_app (goodIn_of _ (by decide +kernel)) ggX5_remove_X5_isName
theorem dX5_remove_0 : decode cX5_remove 0 = .ok (.aload_n 0, 1) := by decide +kernel
theorem dX5_remove_1 : decode cX5_remove 1 = .ok (.iload_n 1, 1) := by decide +kernel
theorem dX5_remove_2 : decode cX5_remove 2 = .ok (.invokestatic 80, 3) := by decide +kernel
theorem dX5_remove_5 : decode cX5_remove 5 = .ok (.ifCond .eq 7, 3) := by decide +kernel
theorem dX5_remove_8 : decode cX5_remove 8 = .ok (.iconst 0, 1) := by decide +kernel
theorem dX5_remove_9 : decode cX5_remove 9 = .ok (.goto 4, 3) := by decide +kernel
theorem dX5_remove_12 : decode cX5_remove 12 = .ok (.iconst 1, 1) := by decide +kernel
theorem dX5_remove_13 : decode cX5_remove 13 = .ok (.putfield 70, 3) := by decide +kernel
theorem dX5_remove_16 : decode cX5_remove 16 = .ok (.aload_n 0, 1) := by decide +kernel
theorem dX5_remove_17 : decode cX5_remove 17 = .ok (.getfield 70, 3) := by decide +kernel
theorem dX5_remove_20 : decode cX5_remove 20 = .ok (.ifCond .ne 17, 3) := by decide +kernel
theorem dX5_remove_23 : decode cX5_remove 23 = .ok (.aload_n 0, 1) := by decide +kernel
theorem dX5_remove_24 : decode cX5_remove 24 = .ok (.getfield 7, 3) := by decide +kernel
theorem dX5_remove_27 : decode cX5_remove 27 = .ok (.iload_n 1, 1) := by decide +kernel
theorem dX5_remove_28 : decode cX5_remove 28 = .ok (.iaload, 1) := by decide +kernel
theorem dX5_remove_29 : decode cX5_remove 29 = .ok (.iconst 2, 1) := by decide +kernel
theorem dX5_remove_30 : decode cX5_remove 30 = .ok (.if_icmp .eq 7, 3) := by decide +kernel
theorem dX5_remove_33 : decode cX5_remove 33 = .ok (.iconst 1, 1) := by decide +kernel
theorem dX5_remove_34 : decode cX5_remove 34 = .ok (.goto 4, 3) := by decide +kernel
theorem dX5_remove_37 : decode cX5_remove 37 = .ok (.iconst 0, 1) := by decide +kernel
theorem dX5_remove_38 : decode cX5_remove 38 = .ok (.istore_n 2, 1) := by decide +kernel
theorem dX5_remove_39 : decode cX5_remove 39 = .ok (.iload_n 2, 1) := by decide +kernel
theorem dX5_remove_40 : decode cX5_remove 40 = .ok (.ifCond .eq 10, 3) := by decide +kernel
theorem dX5_remove_43 : decode cX5_remove 43 = .ok (.aload_n 0, 1) := by decide +kernel
theorem dX5_remove_44 : decode cX5_remove 44 = .ok (.getfield 7, 3) := by decide +kernel
theorem dX5_remove_47 : decode cX5_remove 47 = .ok (.iload_n 1, 1) := by decide +kernel
theorem dX5_remove_48 : decode cX5_remove 48 = .ok (.iconst 2, 1) := by decide +kernel
theorem dX5_remove_49 : decode cX5_remove 49 = .ok (.iastore, 1) := by decide +kernel
theorem dX5_remove_50 : decode cX5_remove 50 = .ok (.iload_n 2, 1) := by decide +kernel
theorem dX5_remove_51 : decode cX5_remove 51 = .ok (.ireturn, 1) := by decide +kernel
set_option maxRecDepth 20000 in
theorem ggX5_setBound_X5_in : GoodIn wsX5_setBound wsX5_in := goodIn_r _ [6] (by decide +kernel) (by decide +kernel)
set_option maxRecDepth 20000 in
theorem gX5_setBound_X5_in : GoodIn wsX5_setBound (va_wsS RX5 73 yX5_in wsX5_in) := goodIn_app (goodIn_of _ (by decide +kernel)) ggX5_setBound_X5_in
theorem dX5_setBound_0 : decode cX5_setBound 0 = .ok (.aload_n 0, 1) := by decide +kernel
theorem dX5_setBound_1 : decode cX5_setBound 1 = .ok (.iload_n 1, 1) := by decide +kernel
theorem dX5_setBound_2 : decode cX5_setBound 2 = .ok (.iconst 1, 1) := by decide +kernel
theorem dX5_setBound_3 : decode cX5_setBound 3 = .ok (.sipush 300, 3) := by decide +kernel
theorem dX5_setBound_6 : decode cX5_setBound 6 = .ok (.invokestatic 73, 3) := by decide +kernel
theorem dX5_setBound_9 : decode cX5_setBound 9 = .ok (.ifCond .eq 7, 3) := by decide +kernel
theorem dX5_setBound_12 : decode cX5_setBound 12 = .ok (.iconst 0, 1) := by decide +kernel
theorem dX5_setBound_13 : decode cX5_setBound 13 = .ok (.goto 4, 3) := by decide +kernel
theorem dX5_setBound_16 : decode cX5_setBound 16 = .ok (.iconst 1, 1) := by decide +kernel
theorem dX5_setBound_17 : decode cX5_setBound 17 = .ok (.putfield 70, 3) := by decide +kernel
theorem dX5_setBound_20 : decode cX5_setBound 20 = .ok (.aload_n 0, 1) := by decide +kernel
theorem dX5_setBound_21 : decode cX5_setBound 21 = .ok (.getfield 70, 3) := by decide +kernel
theorem dX5_setBound_24 : decode cX5_setBound 24 = .ok (.ifCond .le 5, 3) := by decide +kernel
theorem dX5_setBound_27 : decode cX5_setBound 27 = .ok (.iconst 0, 1) := by decide +kernel
theorem dX5_setBound_28 : decode cX5_setBound 28 = .ok (.ireturn, 1) := by decide +kernel
theorem dX5_setBound_29 : decode cX5_setBound 29 = .ok (.aload_n 0, 1) := by decide +kernel
theorem dX5_setBound_30 : decode cX5_setBound 30 = .ok (.getfield 59, 3) := by decide +kernel
theorem dX5_setBound_33 : decode cX5_setBound 33 = .ok (.istore_n 2, 1) := by decide +kernel
theorem dX5_setBound_34 : decode cX5_setBound 34 = .ok (.aload_n 0, 1) := by decide +kernel
theorem dX5_setBound_35 : decode cX5_setBound 35 = .ok (.iload_n 1, 1) := by decide +kernel
theorem dX5_setBound_36 : decode cX5_setBound 36 = .ok (.putfield 59, 3) := by decide +kernel
theorem dX5_setBound_39 : decode cX5_setBound 39 = .ok (.iload_n 2, 1) := by decide +kernel
theorem dX5_setBound_40 : decode cX5_setBound 40 = .ok (.ireturn, 1) := by decide +kernel
theorem dX5_setAuthority_0 : decode cX5_setAuthority 0 = .ok (.aload_n 0, 1) := by decide +kernel
theorem dX5_setAuthority_1 : decode cX5_setAuthority 1 = .ok (.iconst 0, 1) := by decide +kernel
theorem dX5_setAuthority_2 : decode cX5_setAuthority 2 = .ok (.putfield 70, 3) := by decide +kernel
theorem dX5_setAuthority_5 : decode cX5_setAuthority 5 = .ok (.aload_n 0, 1) := by decide +kernel
theorem dX5_setAuthority_6 : decode cX5_setAuthority 6 = .ok (.getfield 63, 3) := by decide +kernel
theorem dX5_setAuthority_9 : decode cX5_setAuthority 9 = .ok (.istore_n 2, 1) := by decide +kernel
theorem dX5_setAuthority_10 : decode cX5_setAuthority 10 = .ok (.aload_n 0, 1) := by decide +kernel
theorem dX5_setAuthority_11 : decode cX5_setAuthority 11 = .ok (.iload_n 1, 1) := by decide +kernel
theorem dX5_setAuthority_12 : decode cX5_setAuthority 12 = .ok (.putfield 63, 3) := by decide +kernel
theorem dX5_setAuthority_15 : decode cX5_setAuthority 15 = .ok (.iload_n 2, 1) := by decide +kernel
theorem dX5_setAuthority_16 : decode cX5_setAuthority 16 = .ok (.ireturn, 1) := by decide +kernel
set_option maxRecDepth 20000 in
theorem ggX5_truth_X5_isName : GoodIn wsX5_truth wsX5_isName := goodIn_r _ [7, 8, 9, 6, 10] (by decide +kernel) (by decide +kernel)
set_option maxRecDepth 20000 in
theorem gX5_truth_X5_isName : GoodIn wsX5_truth (va_wsS RX5 80 yX5_isName wsX5_isName) := goodIn_app (goodIn_of _ (by decide +kernel)) ggX5_truth_X5_isName
theorem dX5_truth_0 : decode cX5_truth 0 = .ok (.aload_n 0, 1) := by decide +kernel
theorem dX5_truth_1 : decode cX5_truth 1 = .ok (.iload_n 1, 1) := by decide +kernel
theorem dX5_truth_2 : decode cX5_truth 2 = .ok (.invokestatic 80, 3) := by decide +kernel
theorem dX5_truth_5 : decode cX5_truth 5 = .ok (.ifCond .eq 7, 3) := by decide +kernel
theorem dX5_truth_8 : decode cX5_truth 8 = .ok (.iconst 0, 1) := by decide +kernel
theorem dX5_truth_9 : decode cX5_truth 9 = .ok (.goto 4, 3) := by decide +kernel
theorem dX5_truth_12 : decode cX5_truth 12 = .ok (.iconst 1, 1) := by decide +kernel
theorem dX5_truth_13 : decode cX5_truth 13 = .ok (.putfield 70, 3) := by decide +kernel
theorem dX5_truth_16 : decode cX5_truth 16 = .ok (.aload_n 0, 1) := by decide +kernel
theorem dX5_truth_17 : decode cX5_truth 17 = .ok (.getfield 70, 3) := by decide +kernel
theorem dX5_truth_20 : decode cX5_truth 20 = .ok (.ifCond .le 5, 3) := by decide +kernel
theorem dX5_truth_23 : decode cX5_truth 23 = .ok (.iconst 0, 1) := by decide +kernel
theorem dX5_truth_24 : decode cX5_truth 24 = .ok (.ireturn, 1) := by decide +kernel
theorem dX5_truth_25 : decode cX5_truth 25 = .ok (.iload_n 1, 1) := by decide +kernel
theorem dX5_truth_26 : decode cX5_truth 26 = .ok (.istore_n 2, 1) := by decide +kernel
theorem dX5_truth_27 : decode cX5_truth 27 = .ok (.iconst 0, 1) := by decide +kernel
theorem dX5_truth_28 : decode cX5_truth 28 = .ok (.istore_n 3, 1) := by decide +kernel
theorem dX5_truth_29 : decode cX5_truth 29 = .ok (.iload_n 3, 1) := by decide +kernel
theorem dX5_truth_30 : decode cX5_truth 30 = .ok (.iconst 4, 1) := by decide +kernel
theorem dX5_truth_31 : decode cX5_truth 31 = .ok (.if_icmp .gt 44, 3) := by decide +kernel
theorem dX5_truth_34 : decode cX5_truth 34 = .ok (.aload_n 0, 1) := by decide +kernel
theorem dX5_truth_35 : decode cX5_truth 35 = .ok (.getfield 7, 3) := by decide +kernel
theorem dX5_truth_38 : decode cX5_truth 38 = .ok (.iload_n 2, 1) := by decide +kernel
theorem dX5_truth_39 : decode cX5_truth 39 = .ok (.iaload, 1) := by decide +kernel
theorem dX5_truth_40 : decode cX5_truth 40 = .ok (.ifCond .ne 10, 3) := by decide +kernel
theorem dX5_truth_43 : decode cX5_truth 43 = .ok (.aload_n 0, 1) := by decide +kernel
theorem dX5_truth_44 : decode cX5_truth 44 = .ok (.getfield 13, 3) := by decide +kernel
theorem dX5_truth_47 : decode cX5_truth 47 = .ok (.iload_n 2, 1) := by decide +kernel
theorem dX5_truth_48 : decode cX5_truth 48 = .ok (.iaload, 1) := by decide +kernel
theorem dX5_truth_49 : decode cX5_truth 49 = .ok (.ireturn, 1) := by decide +kernel
theorem dX5_truth_50 : decode cX5_truth 50 = .ok (.aload_n 0, 1) := by decide +kernel
theorem dX5_truth_51 : decode cX5_truth 51 = .ok (.getfield 7, 3) := by decide +kernel
theorem dX5_truth_54 : decode cX5_truth 54 = .ok (.iload_n 2, 1) := by decide +kernel
theorem dX5_truth_55 : decode cX5_truth 55 = .ok (.iaload, 1) := by decide +kernel
theorem dX5_truth_56 : decode cX5_truth 56 = .ok (.iconst 2, 1) := by decide +kernel
theorem dX5_truth_57 : decode cX5_truth 57 = .ok (.if_icmp .ne 5, 3) := by decide +kernel
theorem dX5_truth_60 : decode cX5_truth 60 = .ok (.iconst (-1), 1) := by decide +kernel
theorem dX5_truth_61 : decode cX5_truth 61 = .ok (.ireturn, 1) := by decide +kernel
theorem dX5_truth_62 : decode cX5_truth 62 = .ok (.aload_n 0, 1) := by decide +kernel
theorem dX5_truth_63 : decode cX5_truth 63 = .ok (.getfield 13, 3) := by decide +kernel
theorem dX5_truth_66 : decode cX5_truth 66 = .ok (.iload_n 2, 1) := by decide +kernel
theorem dX5_truth_67 : decode cX5_truth 67 = .ok (.iaload, 1) := by decide +kernel
theorem dX5_truth_68 : decode cX5_truth 68 = .ok (.istore_n 2, 1) := by decide +kernel
theorem dX5_truth_69 : decode cX5_truth 69 = .ok (.iinc 3 1, 3) := by decide +kernel
theorem dX5_truth_72 : decode cX5_truth 72 = .ok (.goto (-43), 3) := by decide +kernel
theorem dX5_truth_75 : decode cX5_truth 75 = .ok (.bipush (-2), 2) := by decide +kernel
theorem dX5_truth_77 : decode cX5_truth 77 = .ok (.ireturn, 1) := by decide +kernel
set_option maxRecDepth 20000 in
theorem ggX5_addSite_X5_in : GoodIn wsX5_addSite wsX5_in := goodIn_r _ [8] (by decide +kernel) (by decide +kernel)
set_option maxRecDepth 20000 in
theorem gX5_addSite_X5_in : GoodIn wsX5_addSite (va_wsS RX5 73 yX5_in wsX5_in) := goodIn_app (goodIn_of _ (by decide +kernel)) ggX5_addSite_X5_in
theorem dX5_addSite_0 : decode cX5_addSite 0 = .ok (.aload_n 0, 1) := by decide +kernel
theorem dX5_addSite_1 : decode cX5_addSite 1 = .ok (.iload_n 1, 1) := by decide +kernel
theorem dX5_addSite_2 : decode cX5_addSite 2 = .ok (.iconst 0, 1) := by decide +kernel
theorem dX5_addSite_3 : decode cX5_addSite 3 = .ok (.bipush 99, 2) := by decide +kernel
theorem dX5_addSite_5 : decode cX5_addSite 5 = .ok (.invokestatic 73, 3) := by decide +kernel
theorem dX5_addSite_8 : decode cX5_addSite 8 = .ok (.ifCond .ne 7, 3) := by decide +kernel
theorem dX5_addSite_11 : decode cX5_addSite 11 = .ok (.iconst 1, 1) := by decide +kernel
theorem dX5_addSite_12 : decode cX5_addSite 12 = .ok (.goto 16, 3) := by decide +kernel
theorem dX5_addSite_15 : decode cX5_addSite 15 = .ok (.aload_n 0, 1) := by decide +kernel
theorem dX5_addSite_16 : decode cX5_addSite 16 = .ok (.getfield 77, 3) := by decide +kernel
theorem dX5_addSite_19 : decode cX5_addSite 19 = .ok (.iconst 4, 1) := by decide +kernel
theorem dX5_addSite_20 : decode cX5_addSite 20 = .ok (.if_icmp .ne 7, 3) := by decide +kernel
theorem dX5_addSite_23 : decode cX5_addSite 23 = .ok (.iconst 2, 1) := by decide +kernel
theorem dX5_addSite_24 : decode cX5_addSite 24 = .ok (.goto 4, 3) := by decide +kernel
theorem dX5_addSite_27 : decode cX5_addSite 27 = .ok (.iconst 0, 1) := by decide +kernel
theorem dX5_addSite_28 : decode cX5_addSite 28 = .ok (.putfield 70, 3) := by decide +kernel
theorem dX5_addSite_31 : decode cX5_addSite 31 = .ok (.aload_n 0, 1) := by decide +kernel
theorem dX5_addSite_32 : decode cX5_addSite 32 = .ok (.getfield 70, 3) := by decide +kernel
theorem dX5_addSite_35 : decode cX5_addSite 35 = .ok (.ifCond .le 5, 3) := by decide +kernel
theorem dX5_addSite_38 : decode cX5_addSite 38 = .ok (.iconst 0, 1) := by decide +kernel
theorem dX5_addSite_39 : decode cX5_addSite 39 = .ok (.ireturn, 1) := by decide +kernel
theorem dX5_addSite_40 : decode cX5_addSite 40 = .ok (.aload_n 0, 1) := by decide +kernel
theorem dX5_addSite_41 : decode cX5_addSite 41 = .ok (.getfield 19, 3) := by decide +kernel
theorem dX5_addSite_44 : decode cX5_addSite 44 = .ok (.aload_n 0, 1) := by decide +kernel
theorem dX5_addSite_45 : decode cX5_addSite 45 = .ok (.getfield 77, 3) := by decide +kernel
theorem dX5_addSite_48 : decode cX5_addSite 48 = .ok (.iload_n 1, 1) := by decide +kernel
theorem dX5_addSite_49 : decode cX5_addSite 49 = .ok (.iastore, 1) := by decide +kernel
theorem dX5_addSite_50 : decode cX5_addSite 50 = .ok (.aload_n 0, 1) := by decide +kernel
theorem dX5_addSite_51 : decode cX5_addSite 51 = .ok (.getfield 22, 3) := by decide +kernel
theorem dX5_addSite_54 : decode cX5_addSite 54 = .ok (.aload_n 0, 1) := by decide +kernel
theorem dX5_addSite_55 : decode cX5_addSite 55 = .ok (.getfield 77, 3) := by decide +kernel
theorem dX5_addSite_58 : decode cX5_addSite 58 = .ok (.iconst 1, 1) := by decide +kernel
theorem dX5_addSite_59 : decode cX5_addSite 59 = .ok (.bastore, 1) := by decide +kernel
theorem dX5_addSite_60 : decode cX5_addSite 60 = .ok (.aload_n 0, 1) := by decide +kernel
theorem dX5_addSite_61 : decode cX5_addSite 61 = .ok (.dup, 1) := by decide +kernel
theorem dX5_addSite_62 : decode cX5_addSite 62 = .ok (.getfield 77, 3) := by decide +kernel
theorem dX5_addSite_65 : decode cX5_addSite 65 = .ok (.iconst 1, 1) := by decide +kernel
theorem dX5_addSite_66 : decode cX5_addSite 66 = .ok (.iadd, 1) := by decide +kernel
theorem dX5_addSite_67 : decode cX5_addSite 67 = .ok (.putfield 77, 3) := by decide +kernel
theorem dX5_addSite_70 : decode cX5_addSite 70 = .ok (.aload_n 0, 1) := by decide +kernel
theorem dX5_addSite_71 : decode cX5_addSite 71 = .ok (.getfield 77, 3) := by decide +kernel
theorem dX5_addSite_74 : decode cX5_addSite 74 = .ok (.iconst 1, 1) := by decide +kernel
theorem dX5_addSite_75 : decode cX5_addSite 75 = .ok (.isub, 1) := by decide +kernel
theorem dX5_addSite_76 : decode cX5_addSite 76 = .ok (.ireturn, 1) := by decide +kernel
set_option maxRecDepth 20000 in
theorem ggX5_announce_X5_isSite : GoodIn wsX5_announce wsX5_isSite := goodIn_r _ [7, 8, 9, 10, 6, 11, 12, 13, 14, 15, 16, 17, 18, 19, 20, 21, 22, 23, 24, 25, 26, 27, 28, 29, 30, 31, 32, 33, 34, 35, 36, 37, 38, 39, 40, 41, 42] (by decide +kernel) (by decide +kernel)
set_option maxRecDepth 20000 in
theorem gX5_announce_X5_isSite : GoodIn wsX5_announce (wsV RX5 84 RX5 yX5_isSite wsX5_isSite) := goodIn_app (goodIn_of _ (by decide +kernel)) ggX5_announce_X5_isSite
theorem dX5_announce_0 : decode cX5_announce 0 = .ok (.aload_n 0, 1) := by decide +kernel
theorem dX5_announce_1 : decode cX5_announce 1 = .ok (.aload_n 0, 1) := by decide +kernel
theorem dX5_announce_2 : decode cX5_announce 2 = .ok (.iload_n 1, 1) := by decide +kernel
theorem dX5_announce_3 : decode cX5_announce 3 = .ok (.invokevirtual 84, 3) := by decide +kernel
theorem dX5_announce_6 : decode cX5_announce 6 = .ok (.ifCond .eq 7, 3) := by decide +kernel
theorem dX5_announce_9 : decode cX5_announce 9 = .ok (.iconst 0, 1) := by decide +kernel
theorem dX5_announce_10 : decode cX5_announce 10 = .ok (.goto 4, 3) := by decide +kernel
theorem dX5_announce_13 : decode cX5_announce 13 = .ok (.iconst 1, 1) := by decide +kernel
theorem dX5_announce_14 : decode cX5_announce 14 = .ok (.putfield 70, 3) := by decide +kernel
theorem dX5_announce_17 : decode cX5_announce 17 = .ok (.aload_n 0, 1) := by decide +kernel
theorem dX5_announce_18 : decode cX5_announce 18 = .ok (.getfield 70, 3) := by decide +kernel
theorem dX5_announce_21 : decode cX5_announce 21 = .ok (.ifCond .le 5, 3) := by decide +kernel
theorem dX5_announce_24 : decode cX5_announce 24 = .ok (.iconst 0, 1) := by decide +kernel
theorem dX5_announce_25 : decode cX5_announce 25 = .ok (.ireturn, 1) := by decide +kernel
theorem dX5_announce_26 : decode cX5_announce 26 = .ok (.aload_n 0, 1) := by decide +kernel
theorem dX5_announce_27 : decode cX5_announce 27 = .ok (.getfield 22, 3) := by decide +kernel
theorem dX5_announce_30 : decode cX5_announce 30 = .ok (.iload_n 1, 1) := by decide +kernel
theorem dX5_announce_31 : decode cX5_announce 31 = .ok (.baload, 1) := by decide +kernel
theorem dX5_announce_32 : decode cX5_announce 32 = .ok (.istore_n 3, 1) := by decide +kernel
theorem dX5_announce_33 : decode cX5_announce 33 = .ok (.aload_n 0, 1) := by decide +kernel
theorem dX5_announce_34 : decode cX5_announce 34 = .ok (.getfield 22, 3) := by decide +kernel
theorem dX5_announce_37 : decode cX5_announce 37 = .ok (.iload_n 1, 1) := by decide +kernel
theorem dX5_announce_38 : decode cX5_announce 38 = .ok (.iload_n 2, 1) := by decide +kernel
theorem dX5_announce_39 : decode cX5_announce 39 = .ok (.bastore, 1) := by decide +kernel
theorem dX5_announce_40 : decode cX5_announce 40 = .ok (.iload_n 3, 1) := by decide +kernel
theorem dX5_announce_41 : decode cX5_announce 41 = .ok (.ireturn, 1) := by decide +kernel
theorem dX5_nearest_0 : decode cX5_nearest 0 = .ok (.bipush (-3), 2) := by decide +kernel
theorem dX5_nearest_2 : decode cX5_nearest 2 = .ok (.istore_n 2, 1) := by decide +kernel
theorem dX5_nearest_3 : decode cX5_nearest 3 = .ok (.bipush 100, 2) := by decide +kernel
theorem dX5_nearest_5 : decode cX5_nearest 5 = .ok (.istore_n 3, 1) := by decide +kernel
theorem dX5_nearest_6 : decode cX5_nearest 6 = .ok (.iconst 0, 1) := by decide +kernel
theorem dX5_nearest_7 : decode cX5_nearest 7 = .ok (.istore 4, 2) := by decide +kernel
theorem dX5_nearest_9 : decode cX5_nearest 9 = .ok (.iload 4, 2) := by decide +kernel
theorem dX5_nearest_11 : decode cX5_nearest 11 = .ok (.aload_n 0, 1) := by decide +kernel
theorem dX5_nearest_12 : decode cX5_nearest 12 = .ok (.getfield 77, 3) := by decide +kernel
theorem dX5_nearest_15 : decode cX5_nearest 15 = .ok (.if_icmp .ge 65, 3) := by decide +kernel
theorem dX5_nearest_18 : decode cX5_nearest 18 = .ok (.aload_n 0, 1) := by decide +kernel
theorem dX5_nearest_19 : decode cX5_nearest 19 = .ok (.getfield 19, 3) := by decide +kernel
theorem dX5_nearest_22 : decode cX5_nearest 22 = .ok (.iload 4, 2) := by decide +kernel
theorem dX5_nearest_24 : decode cX5_nearest 24 = .ok (.iaload, 1) := by decide +kernel
theorem dX5_nearest_25 : decode cX5_nearest 25 = .ok (.iload_n 1, 1) := by decide +kernel
theorem dX5_nearest_26 : decode cX5_nearest 26 = .ok (.if_icmp .ge 15, 3) := by decide +kernel
theorem dX5_nearest_29 : decode cX5_nearest 29 = .ok (.iload_n 1, 1) := by decide +kernel
theorem dX5_nearest_30 : decode cX5_nearest 30 = .ok (.aload_n 0, 1) := by decide +kernel
theorem dX5_nearest_31 : decode cX5_nearest 31 = .ok (.getfield 19, 3) := by decide +kernel
theorem dX5_nearest_34 : decode cX5_nearest 34 = .ok (.iload 4, 2) := by decide +kernel
theorem dX5_nearest_36 : decode cX5_nearest 36 = .ok (.iaload, 1) := by decide +kernel
theorem dX5_nearest_37 : decode cX5_nearest 37 = .ok (.isub, 1) := by decide +kernel
theorem dX5_nearest_38 : decode cX5_nearest 38 = .ok (.goto 12, 3) := by decide +kernel
theorem dX5_nearest_41 : decode cX5_nearest 41 = .ok (.aload_n 0, 1) := by decide +kernel
theorem dX5_nearest_42 : decode cX5_nearest 42 = .ok (.getfield 19, 3) := by decide +kernel
theorem dX5_nearest_45 : decode cX5_nearest 45 = .ok (.iload 4, 2) := by decide +kernel
theorem dX5_nearest_47 : decode cX5_nearest 47 = .ok (.iaload, 1) := by decide +kernel
theorem dX5_nearest_48 : decode cX5_nearest 48 = .ok (.iload_n 1, 1) := by decide +kernel
theorem dX5_nearest_49 : decode cX5_nearest 49 = .ok (.isub, 1) := by decide +kernel
theorem dX5_nearest_50 : decode cX5_nearest 50 = .ok (.istore 5, 2) := by decide +kernel
theorem dX5_nearest_52 : decode cX5_nearest 52 = .ok (.aload_n 0, 1) := by decide +kernel
theorem dX5_nearest_53 : decode cX5_nearest 53 = .ok (.getfield 22, 3) := by decide +kernel
theorem dX5_nearest_56 : decode cX5_nearest 56 = .ok (.iload 4, 2) := by decide +kernel
theorem dX5_nearest_58 : decode cX5_nearest 58 = .ok (.baload, 1) := by decide +kernel
theorem dX5_nearest_59 : decode cX5_nearest 59 = .ok (.ifCond .eq 15, 3) := by decide +kernel
theorem dX5_nearest_62 : decode cX5_nearest 62 = .ok (.iload 5, 2) := by decide +kernel
theorem dX5_nearest_64 : decode cX5_nearest 64 = .ok (.iload_n 3, 1) := by decide +kernel
theorem dX5_nearest_65 : decode cX5_nearest 65 = .ok (.if_icmp .ge 9, 3) := by decide +kernel
theorem dX5_nearest_68 : decode cX5_nearest 68 = .ok (.iload 4, 2) := by decide +kernel
theorem dX5_nearest_70 : decode cX5_nearest 70 = .ok (.istore_n 2, 1) := by decide +kernel
theorem dX5_nearest_71 : decode cX5_nearest 71 = .ok (.iload 5, 2) := by decide +kernel
theorem dX5_nearest_73 : decode cX5_nearest 73 = .ok (.istore_n 3, 1) := by decide +kernel
theorem dX5_nearest_74 : decode cX5_nearest 74 = .ok (.iinc 4 1, 3) := by decide +kernel
theorem dX5_nearest_77 : decode cX5_nearest 77 = .ok (.goto (-68), 3) := by decide +kernel
theorem dX5_nearest_80 : decode cX5_nearest 80 = .ok (.iload_n 2, 1) := by decide +kernel
theorem dX5_nearest_81 : decode cX5_nearest 81 = .ok (.ireturn, 1) := by decide +kernel
set_option maxRecDepth 20000 in
theorem ggX5_siteFor_X5_in : GoodIn wsX5_siteFor wsX5_in := goodIn_r _ [5] (by decide +kernel) (by decide +kernel)
set_option maxRecDepth 20000 in
theorem gX5_siteFor_X5_in : GoodIn wsX5_siteFor (va_wsS RX5 73 yX5_in wsX5_in) := goodIn_app (goodIn_of _ (by decide +kernel)) ggX5_siteFor_X5_in
set_option maxRecDepth 20000 in
theorem ggX5_siteFor_X5_nearest : GoodIn wsX5_siteFor wsX5_nearest := goodIn_r _ [9, 10, 11, 12, 13, 14, 15, 16, 17, 18, 19, 20, 21, 22, 23, 24, 25, 26, 27, 28, 29, 30, 31, 32, 33, 34, 35, 36, 37, 38, 39, 40, 41, 42, 43] (by decide +kernel) (by decide +kernel)
set_option maxRecDepth 20000 in
theorem gX5_siteFor_X5_nearest : GoodIn wsX5_siteFor (wsV RX5 87 RX5 yX5_nearest wsX5_nearest) := goodIn_app (goodIn_of _ (by decide +kernel)) ggX5_siteFor_X5_nearest
theorem dX5_siteFor_0 : decode cX5_siteFor 0 = .ok (.aload_n 0, 1) := by decide +kernel
theorem dX5_siteFor_1 : decode cX5_siteFor 1 = .ok (.iload_n 1, 1) := by decide +kernel
theorem dX5_siteFor_2 : decode cX5_siteFor 2 = .ok (.iconst 0, 1) := by decide +kernel
theorem dX5_siteFor_3 : decode cX5_siteFor 3 = .ok (.bipush 99, 2) := by decide +kernel
theorem dX5_siteFor_5 : decode cX5_siteFor 5 = .ok (.invokestatic 73, 3) := by decide +kernel
theorem dX5_siteFor_8 : decode cX5_siteFor 8 = .ok (.ifCond .eq 7, 3) := by decide +kernel
theorem dX5_siteFor_11 : decode cX5_siteFor 11 = .ok (.iconst 0, 1) := by decide +kernel
theorem dX5_siteFor_12 : decode cX5_siteFor 12 = .ok (.goto 4, 3) := by decide +kernel
theorem dX5_siteFor_15 : decode cX5_siteFor 15 = .ok (.iconst 1, 1) := by decide +kernel
theorem dX5_siteFor_16 : decode cX5_siteFor 16 = .ok (.putfield 70, 3) := by decide +kernel
theorem dX5_siteFor_19 : decode cX5_siteFor 19 = .ok (.aload_n 0, 1) := by decide +kernel
theorem dX5_siteFor_20 : decode cX5_siteFor 20 = .ok (.getfield 70, 3) := by decide +kernel
theorem dX5_siteFor_23 : decode cX5_siteFor 23 = .ok (.ifCond .ne 11, 3) := by decide +kernel
theorem dX5_siteFor_26 : decode cX5_siteFor 26 = .ok (.aload_n 0, 1) := by decide +kernel
theorem dX5_siteFor_27 : decode cX5_siteFor 27 = .ok (.iload_n 1, 1) := by decide +kernel
theorem dX5_siteFor_28 : decode cX5_siteFor 28 = .ok (.invokevirtual 87, 3) := by decide +kernel
theorem dX5_siteFor_31 : decode cX5_siteFor 31 = .ok (.goto 4, 3) := by decide +kernel
theorem dX5_siteFor_34 : decode cX5_siteFor 34 = .ok (.iconst 0, 1) := by decide +kernel
theorem dX5_siteFor_35 : decode cX5_siteFor 35 = .ok (.ireturn, 1) := by decide +kernel
set_option maxRecDepth 20000 in
theorem ggX5_isEntry_X5_isSite : GoodIn wsX5_isEntry wsX5_isSite := goodIn_r _ [6, 7, 8, 9, 5, 10, 14, 15, 16, 17, 18, 19, 20, 21, 22, 23, 24, 25, 26, 27, 28, 29, 30, 31, 32, 33, 34, 35, 36, 37, 38, 39, 40, 41, 42, 43, 44] (by decide +kernel) (by decide +kernel)
set_option maxRecDepth 20000 in
theorem gX5_isEntry_X5_isSite : GoodIn wsX5_isEntry (wsV RX5 84 RX5 yX5_isSite wsX5_isSite) := goodIn_app (goodIn_of _ (by decide +kernel)) ggX5_isEntry_X5_isSite
set_option maxRecDepth 20000 in
theorem ggX5_isEntry_X5_isName : GoodIn wsX5_isEntry wsX5_isName := goodIn_r _ [13, 8, 9, 5, 10] (by decide +kernel) (by decide +kernel)
set_option maxRecDepth 20000 in
theorem gX5_isEntry_X5_isName : GoodIn wsX5_isEntry (va_wsS RX5 80 yX5_isName wsX5_isName) := goodIn_app (goodIn_of _ (by decide +kernel)) ggX5_isEntry_X5_isName
theorem dX5_isEntry_0 : decode cX5_isEntry 0 = .ok (.aload_n 0, 1) := by decide +kernel
theorem dX5_isEntry_1 : decode cX5_isEntry 1 = .ok (.aload_n 0, 1) := by decide +kernel
theorem dX5_isEntry_2 : decode cX5_isEntry 2 = .ok (.iload_n 1, 1) := by decide +kernel
theorem dX5_isEntry_3 : decode cX5_isEntry 3 = .ok (.invokevirtual 84, 3) := by decide +kernel
theorem dX5_isEntry_6 : decode cX5_isEntry 6 = .ok (.ifCond .eq 14, 3) := by decide +kernel
theorem dX5_isEntry_9 : decode cX5_isEntry 9 = .ok (.iload_n 2, 1) := by decide +kernel
theorem dX5_isEntry_10 : decode cX5_isEntry 10 = .ok (.invokestatic 80, 3) := by decide +kernel
theorem dX5_isEntry_13 : decode cX5_isEntry 13 = .ok (.ifCond .eq 7, 3) := by decide +kernel
theorem dX5_isEntry_16 : decode cX5_isEntry 16 = .ok (.iconst 0, 1) := by decide +kernel
theorem dX5_isEntry_17 : decode cX5_isEntry 17 = .ok (.goto 4, 3) := by decide +kernel
theorem dX5_isEntry_20 : decode cX5_isEntry 20 = .ok (.iconst 1, 1) := by decide +kernel
theorem dX5_isEntry_21 : decode cX5_isEntry 21 = .ok (.putfield 70, 3) := by decide +kernel
theorem dX5_isEntry_24 : decode cX5_isEntry 24 = .ok (.aload_n 0, 1) := by decide +kernel
theorem dX5_isEntry_25 : decode cX5_isEntry 25 = .ok (.getfield 70, 3) := by decide +kernel
theorem dX5_isEntry_28 : decode cX5_isEntry 28 = .ok (.ifCond .ne 7, 3) := by decide +kernel
theorem dX5_isEntry_31 : decode cX5_isEntry 31 = .ok (.iconst 1, 1) := by decide +kernel
theorem dX5_isEntry_32 : decode cX5_isEntry 32 = .ok (.goto 4, 3) := by decide +kernel
theorem dX5_isEntry_35 : decode cX5_isEntry 35 = .ok (.iconst 0, 1) := by decide +kernel
theorem dX5_isEntry_36 : decode cX5_isEntry 36 = .ok (.ireturn, 1) := by decide +kernel
set_option maxRecDepth 20000 in
theorem ggX5_flush_X5_isEntry : GoodIn wsX5_flush wsX5_isEntry := goodIn_r _ [6, 7, 8, 9, 10, 5, 11, 12, 13, 14, 15, 16, 17, 18, 19, 20, 21, 22, 23, 24, 25, 26, 27, 28, 29, 30, 31, 32, 33, 34, 35, 36, 37, 38, 39, 40, 41, 42, 43, 44, 45, 46, 47, 48, 49] (by decide +kernel) (by decide +kernel)
set_option maxRecDepth 20000 in
theorem gX5_flush_X5_isEntry : GoodIn wsX5_flush (wsV RX5 91 RX5 yX5_isEntry wsX5_isEntry) := goodIn_app (goodIn_of _ (by decide +kernel)) ggX5_flush_X5_isEntry
theorem dX5_flush_0 : decode cX5_flush 0 = .ok (.aload_n 0, 1) := by decide +kernel
theorem dX5_flush_1 : decode cX5_flush 1 = .ok (.iload_n 1, 1) := by decide +kernel
theorem dX5_flush_2 : decode cX5_flush 2 = .ok (.iload_n 2, 1) := by decide +kernel
theorem dX5_flush_3 : decode cX5_flush 3 = .ok (.invokevirtual 91, 3) := by decide +kernel
theorem dX5_flush_6 : decode cX5_flush 6 = .ok (.ifCond .ne 5, 3) := by decide +kernel
theorem dX5_flush_9 : decode cX5_flush 9 = .ok (.iconst 0, 1) := by decide +kernel
theorem dX5_flush_10 : decode cX5_flush 10 = .ok (.ireturn, 1) := by decide +kernel
theorem dX5_flush_11 : decode cX5_flush 11 = .ok (.aload_n 0, 1) := by decide +kernel
theorem dX5_flush_12 : decode cX5_flush 12 = .ok (.getfield 26, 3) := by decide +kernel
theorem dX5_flush_15 : decode cX5_flush 15 = .ok (.bipush 16, 2) := by decide +kernel
theorem dX5_flush_17 : decode cX5_flush 17 = .ok (.iload_n 1, 1) := by decide +kernel
theorem dX5_flush_18 : decode cX5_flush 18 = .ok (.imul, 1) := by decide +kernel
theorem dX5_flush_19 : decode cX5_flush 19 = .ok (.iload_n 2, 1) := by decide +kernel
theorem dX5_flush_20 : decode cX5_flush 20 = .ok (.iadd, 1) := by decide +kernel
theorem dX5_flush_21 : decode cX5_flush 21 = .ok (.iaload, 1) := by decide +kernel
theorem dX5_flush_22 : decode cX5_flush 22 = .ok (.iconst 3, 1) := by decide +kernel
theorem dX5_flush_23 : decode cX5_flush 23 = .ok (.if_icmp .eq 7, 3) := by decide +kernel
theorem dX5_flush_26 : decode cX5_flush 26 = .ok (.iconst 1, 1) := by decide +kernel
theorem dX5_flush_27 : decode cX5_flush 27 = .ok (.goto 4, 3) := by decide +kernel
theorem dX5_flush_30 : decode cX5_flush 30 = .ok (.iconst 0, 1) := by decide +kernel
theorem dX5_flush_31 : decode cX5_flush 31 = .ok (.istore_n 3, 1) := by decide +kernel
theorem dX5_flush_32 : decode cX5_flush 32 = .ok (.aload_n 0, 1) := by decide +kernel
theorem dX5_flush_33 : decode cX5_flush 33 = .ok (.getfield 26, 3) := by decide +kernel
theorem dX5_flush_36 : decode cX5_flush 36 = .ok (.bipush 16, 2) := by decide +kernel
theorem dX5_flush_38 : decode cX5_flush 38 = .ok (.iload_n 1, 1) := by decide +kernel
theorem dX5_flush_39 : decode cX5_flush 39 = .ok (.imul, 1) := by decide +kernel
theorem dX5_flush_40 : decode cX5_flush 40 = .ok (.iload_n 2, 1) := by decide +kernel
theorem dX5_flush_41 : decode cX5_flush 41 = .ok (.iadd, 1) := by decide +kernel
theorem dX5_flush_42 : decode cX5_flush 42 = .ok (.iconst 3, 1) := by decide +kernel
theorem dX5_flush_43 : decode cX5_flush 43 = .ok (.iastore, 1) := by decide +kernel
theorem dX5_flush_44 : decode cX5_flush 44 = .ok (.iload_n 3, 1) := by decide +kernel
theorem dX5_flush_45 : decode cX5_flush 45 = .ok (.ireturn, 1) := by decide +kernel
set_option maxRecDepth 20000 in
theorem ggX5_pass_X5_in : GoodIn wsX5_pass wsX5_in := goodIn_r _ [6] (by decide +kernel) (by decide +kernel)
set_option maxRecDepth 20000 in
theorem gX5_pass_X5_in : GoodIn wsX5_pass (va_wsS RX5 73 yX5_in wsX5_in) := goodIn_app (goodIn_of _ (by decide +kernel)) ggX5_pass_X5_in
theorem dX5_pass_0 : decode cX5_pass 0 = .ok (.aload_n 0, 1) := by decide +kernel
theorem dX5_pass_1 : decode cX5_pass 1 = .ok (.iload_n 1, 1) := by decide +kernel
theorem dX5_pass_2 : decode cX5_pass 2 = .ok (.iconst 1, 1) := by decide +kernel
theorem dX5_pass_3 : decode cX5_pass 3 = .ok (.sipush 1000, 3) := by decide +kernel
theorem dX5_pass_6 : decode cX5_pass 6 = .ok (.invokestatic 73, 3) := by decide +kernel
theorem dX5_pass_9 : decode cX5_pass 9 = .ok (.ifCond .eq 7, 3) := by decide +kernel
theorem dX5_pass_12 : decode cX5_pass 12 = .ok (.iconst 0, 1) := by decide +kernel
theorem dX5_pass_13 : decode cX5_pass 13 = .ok (.goto 4, 3) := by decide +kernel
theorem dX5_pass_16 : decode cX5_pass 16 = .ok (.iconst 1, 1) := by decide +kernel
theorem dX5_pass_17 : decode cX5_pass 17 = .ok (.putfield 70, 3) := by decide +kernel
theorem dX5_pass_20 : decode cX5_pass 20 = .ok (.aload_n 0, 1) := by decide +kernel
theorem dX5_pass_21 : decode cX5_pass 21 = .ok (.getfield 70, 3) := by decide +kernel
theorem dX5_pass_24 : decode cX5_pass 24 = .ok (.ifCond .le 5, 3) := by decide +kernel
theorem dX5_pass_27 : decode cX5_pass 27 = .ok (.iconst 0, 1) := by decide +kernel
theorem dX5_pass_28 : decode cX5_pass 28 = .ok (.ireturn, 1) := by decide +kernel
theorem dX5_pass_29 : decode cX5_pass 29 = .ok (.aload_n 0, 1) := by decide +kernel
theorem dX5_pass_30 : decode cX5_pass 30 = .ok (.dup, 1) := by decide +kernel
theorem dX5_pass_31 : decode cX5_pass 31 = .ok (.getfield 95, 3) := by decide +kernel
theorem dX5_pass_34 : decode cX5_pass 34 = .ok (.iload_n 1, 1) := by decide +kernel
theorem dX5_pass_35 : decode cX5_pass 35 = .ok (.iadd, 1) := by decide +kernel
theorem dX5_pass_36 : decode cX5_pass 36 = .ok (.putfield 95, 3) := by decide +kernel
theorem dX5_pass_39 : decode cX5_pass 39 = .ok (.aload_n 0, 1) := by decide +kernel
theorem dX5_pass_40 : decode cX5_pass 40 = .ok (.getfield 95, 3) := by decide +kernel
theorem dX5_pass_43 : decode cX5_pass 43 = .ok (.ireturn, 1) := by decide +kernel
theorem dX5_time_0 : decode cX5_time 0 = .ok (.aload_n 0, 1) := by decide +kernel
theorem dX5_time_1 : decode cX5_time 1 = .ok (.iconst 0, 1) := by decide +kernel
theorem dX5_time_2 : decode cX5_time 2 = .ok (.putfield 70, 3) := by decide +kernel
theorem dX5_time_5 : decode cX5_time 5 = .ok (.aload_n 0, 1) := by decide +kernel
theorem dX5_time_6 : decode cX5_time 6 = .ok (.getfield 95, 3) := by decide +kernel
theorem dX5_time_9 : decode cX5_time 9 = .ok (.ireturn, 1) := by decide +kernel
theorem dX5_size_0 : decode cX5_size 0 = .ok (.iconst 0, 1) := by decide +kernel
theorem dX5_size_1 : decode cX5_size 1 = .ok (.istore_n 2, 1) := by decide +kernel
theorem dX5_size_2 : decode cX5_size 2 = .ok (.iconst 0, 1) := by decide +kernel
theorem dX5_size_3 : decode cX5_size 3 = .ok (.istore_n 3, 1) := by decide +kernel
theorem dX5_size_4 : decode cX5_size 4 = .ok (.iload_n 3, 1) := by decide +kernel
theorem dX5_size_5 : decode cX5_size 5 = .ok (.bipush 16, 2) := by decide +kernel
theorem dX5_size_7 : decode cX5_size 7 = .ok (.if_icmp .ge 32, 3) := by decide +kernel
theorem dX5_size_10 : decode cX5_size 10 = .ok (.iload_n 2, 1) := by decide +kernel
theorem dX5_size_11 : decode cX5_size 11 = .ok (.aload_n 0, 1) := by decide +kernel
theorem dX5_size_12 : decode cX5_size 12 = .ok (.getfield 26, 3) := by decide +kernel
theorem dX5_size_15 : decode cX5_size 15 = .ok (.bipush 16, 2) := by decide +kernel
theorem dX5_size_17 : decode cX5_size 17 = .ok (.iload_n 1, 1) := by decide +kernel
theorem dX5_size_18 : decode cX5_size 18 = .ok (.imul, 1) := by decide +kernel
theorem dX5_size_19 : decode cX5_size 19 = .ok (.iload_n 3, 1) := by decide +kernel
theorem dX5_size_20 : decode cX5_size 20 = .ok (.iadd, 1) := by decide +kernel
theorem dX5_size_21 : decode cX5_size 21 = .ok (.iaload, 1) := by decide +kernel
theorem dX5_size_22 : decode cX5_size 22 = .ok (.iconst 3, 1) := by decide +kernel
theorem dX5_size_23 : decode cX5_size 23 = .ok (.if_icmp .eq 7, 3) := by decide +kernel
theorem dX5_size_26 : decode cX5_size 26 = .ok (.iconst 1, 1) := by decide +kernel
theorem dX5_size_27 : decode cX5_size 27 = .ok (.goto 4, 3) := by decide +kernel
theorem dX5_size_30 : decode cX5_size 30 = .ok (.iconst 0, 1) := by decide +kernel
theorem dX5_size_31 : decode cX5_size 31 = .ok (.iadd, 1) := by decide +kernel
theorem dX5_size_32 : decode cX5_size 32 = .ok (.istore_n 2, 1) := by decide +kernel
theorem dX5_size_33 : decode cX5_size 33 = .ok (.iinc 3 1, 3) := by decide +kernel
theorem dX5_size_36 : decode cX5_size 36 = .ok (.goto (-32), 3) := by decide +kernel
theorem dX5_size_39 : decode cX5_size 39 = .ok (.iload_n 2, 1) := by decide +kernel
theorem dX5_size_40 : decode cX5_size 40 = .ok (.ireturn, 1) := by decide +kernel
theorem dX5_makeRoom_0 : decode cX5_makeRoom 0 = .ok (.bipush (-3), 2) := by decide +kernel
theorem dX5_makeRoom_2 : decode cX5_makeRoom 2 = .ok (.istore_n 2, 1) := by decide +kernel
theorem dX5_makeRoom_3 : decode cX5_makeRoom 3 = .ok (.bipush 16, 2) := by decide +kernel
theorem dX5_makeRoom_5 : decode cX5_makeRoom 5 = .ok (.iload_n 1, 1) := by decide +kernel
theorem dX5_makeRoom_6 : decode cX5_makeRoom 6 = .ok (.imul, 1) := by decide +kernel
theorem dX5_makeRoom_7 : decode cX5_makeRoom 7 = .ok (.istore_n 3, 1) := by decide +kernel
theorem dX5_makeRoom_8 : decode cX5_makeRoom 8 = .ok (.iload_n 3, 1) := by decide +kernel
theorem dX5_makeRoom_9 : decode cX5_makeRoom 9 = .ok (.bipush 16, 2) := by decide +kernel
theorem dX5_makeRoom_11 : decode cX5_makeRoom 11 = .ok (.iload_n 1, 1) := by decide +kernel
theorem dX5_makeRoom_12 : decode cX5_makeRoom 12 = .ok (.imul, 1) := by decide +kernel
theorem dX5_makeRoom_13 : decode cX5_makeRoom 13 = .ok (.bipush 16, 2) := by decide +kernel
theorem dX5_makeRoom_15 : decode cX5_makeRoom 15 = .ok (.iadd, 1) := by decide +kernel
theorem dX5_makeRoom_16 : decode cX5_makeRoom 16 = .ok (.if_icmp .ge 46, 3) := by decide +kernel
theorem dX5_makeRoom_19 : decode cX5_makeRoom 19 = .ok (.aload_n 0, 1) := by decide +kernel
theorem dX5_makeRoom_20 : decode cX5_makeRoom 20 = .ok (.getfield 26, 3) := by decide +kernel
theorem dX5_makeRoom_23 : decode cX5_makeRoom 23 = .ok (.iload_n 3, 1) := by decide +kernel
theorem dX5_makeRoom_24 : decode cX5_makeRoom 24 = .ok (.iaload, 1) := by decide +kernel
theorem dX5_makeRoom_25 : decode cX5_makeRoom 25 = .ok (.iconst 3, 1) := by decide +kernel
theorem dX5_makeRoom_26 : decode cX5_makeRoom 26 = .ok (.if_icmp .eq 28, 3) := by decide +kernel
theorem dX5_makeRoom_29 : decode cX5_makeRoom 29 = .ok (.iload_n 2, 1) := by decide +kernel
theorem dX5_makeRoom_30 : decode cX5_makeRoom 30 = .ok (.bipush (-3), 2) := by decide +kernel
theorem dX5_makeRoom_32 : decode cX5_makeRoom 32 = .ok (.if_icmp .eq 18, 3) := by decide +kernel
theorem dX5_makeRoom_35 : decode cX5_makeRoom 35 = .ok (.aload_n 0, 1) := by decide +kernel
theorem dX5_makeRoom_36 : decode cX5_makeRoom 36 = .ok (.getfield 35, 3) := by decide +kernel
theorem dX5_makeRoom_39 : decode cX5_makeRoom 39 = .ok (.iload_n 3, 1) := by decide +kernel
theorem dX5_makeRoom_40 : decode cX5_makeRoom 40 = .ok (.iaload, 1) := by decide +kernel
theorem dX5_makeRoom_41 : decode cX5_makeRoom 41 = .ok (.aload_n 0, 1) := by decide +kernel
theorem dX5_makeRoom_42 : decode cX5_makeRoom 42 = .ok (.getfield 35, 3) := by decide +kernel
theorem dX5_makeRoom_45 : decode cX5_makeRoom 45 = .ok (.iload_n 2, 1) := by decide +kernel
theorem dX5_makeRoom_46 : decode cX5_makeRoom 46 = .ok (.iaload, 1) := by decide +kernel
theorem dX5_makeRoom_47 : decode cX5_makeRoom 47 = .ok (.if_icmp .ge 7, 3) := by decide +kernel
theorem dX5_makeRoom_50 : decode cX5_makeRoom 50 = .ok (.iload_n 3, 1) := by decide +kernel
theorem dX5_makeRoom_51 : decode cX5_makeRoom 51 = .ok (.goto 4, 3) := by decide +kernel
theorem dX5_makeRoom_54 : decode cX5_makeRoom 54 = .ok (.iload_n 2, 1) := by decide +kernel
theorem dX5_makeRoom_55 : decode cX5_makeRoom 55 = .ok (.istore_n 2, 1) := by decide +kernel
theorem dX5_makeRoom_56 : decode cX5_makeRoom 56 = .ok (.iinc 3 1, 3) := by decide +kernel
theorem dX5_makeRoom_59 : decode cX5_makeRoom 59 = .ok (.goto (-51), 3) := by decide +kernel
theorem dX5_makeRoom_62 : decode cX5_makeRoom 62 = .ok (.aload_n 0, 1) := by decide +kernel
theorem dX5_makeRoom_63 : decode cX5_makeRoom 63 = .ok (.getfield 26, 3) := by decide +kernel
theorem dX5_makeRoom_66 : decode cX5_makeRoom 66 = .ok (.iload_n 2, 1) := by decide +kernel
theorem dX5_makeRoom_67 : decode cX5_makeRoom 67 = .ok (.iconst 3, 1) := by decide +kernel
theorem dX5_makeRoom_68 : decode cX5_makeRoom 68 = .ok (.iastore, 1) := by decide +kernel
theorem dX5_makeRoom_69 : decode cX5_makeRoom 69 = .ok (.return_, 1) := by decide +kernel
set_option maxRecDepth 20000 in
theorem ggX5_fetch_X5_size : GoodIn wsX5_fetch wsX5_size := goodIn_r _ [17, 1, 22, 23, 24, 25, 26, 27, 28, 29, 30, 31, 32, 33, 34, 35, 36, 37, 38, 39, 40, 41, 42, 43, 44, 45, 46, 47, 48, 49, 50, 51, 52] (by decide +kernel) (by decide +kernel)
set_option maxRecDepth 20000 in
theorem gX5_fetch_X5_size : GoodIn wsX5_fetch (wsV RX5 98 RX5 yX5_size wsX5_size) := goodIn_app (goodIn_of _ (by decide +kernel)) ggX5_fetch_X5_size
set_option maxRecDepth 20000 in
theorem ggX5_fetch_X5_makeRoom : GoodIn wsX5_fetch wsX5_makeRoom := goodIn_r _ [21, 1, 8, 22, 23, 24, 25, 26, 27, 28, 29, 30, 31, 32, 33, 34, 35, 36, 37, 38, 39, 40, 41, 42, 43, 44, 45, 46, 47, 48, 49, 50, 51, 52] (by decide +kernel) (by decide +kernel)
set_option maxRecDepth 20000 in
theorem gX5_fetch_X5_makeRoom : GoodIn wsX5_fetch (wsV RX5 101 RX5 yX5_makeRoom wsX5_makeRoom) := goodIn_app (goodIn_of _ (by decide +kernel)) ggX5_fetch_X5_makeRoom
theorem dX5_fetch_0 : decode cX5_fetch 0 = .ok (.bipush 16, 2) := by decide +kernel
theorem dX5_fetch_2 : decode cX5_fetch 2 = .ok (.iload_n 1, 1) := by decide +kernel
theorem dX5_fetch_3 : decode cX5_fetch 3 = .ok (.imul, 1) := by decide +kernel
theorem dX5_fetch_4 : decode cX5_fetch 4 = .ok (.iload_n 2, 1) := by decide +kernel
theorem dX5_fetch_5 : decode cX5_fetch 5 = .ok (.iadd, 1) := by decide +kernel
theorem dX5_fetch_6 : decode cX5_fetch 6 = .ok (.istore_n 3, 1) := by decide +kernel
theorem dX5_fetch_7 : decode cX5_fetch 7 = .ok (.aload_n 0, 1) := by decide +kernel
theorem dX5_fetch_8 : decode cX5_fetch 8 = .ok (.getfield 26, 3) := by decide +kernel
theorem dX5_fetch_11 : decode cX5_fetch 11 = .ok (.iload_n 3, 1) := by decide +kernel
theorem dX5_fetch_12 : decode cX5_fetch 12 = .ok (.iaload, 1) := by decide +kernel
theorem dX5_fetch_13 : decode cX5_fetch 13 = .ok (.iconst 3, 1) := by decide +kernel
theorem dX5_fetch_14 : decode cX5_fetch 14 = .ok (.if_icmp .ne 18, 3) := by decide +kernel
theorem dX5_fetch_17 : decode cX5_fetch 17 = .ok (.aload_n 0, 1) := by decide +kernel
theorem dX5_fetch_18 : decode cX5_fetch 18 = .ok (.iload_n 1, 1) := by decide +kernel
theorem dX5_fetch_19 : decode cX5_fetch 19 = .ok (.invokevirtual 98, 3) := by decide +kernel
theorem dX5_fetch_22 : decode cX5_fetch 22 = .ok (.bipush 6, 2) := by decide +kernel
theorem dX5_fetch_24 : decode cX5_fetch 24 = .ok (.if_icmp .ne 8, 3) := by decide +kernel
theorem dX5_fetch_27 : decode cX5_fetch 27 = .ok (.aload_n 0, 1) := by decide +kernel
theorem dX5_fetch_28 : decode cX5_fetch 28 = .ok (.iload_n 1, 1) := by decide +kernel
theorem dX5_fetch_29 : decode cX5_fetch 29 = .ok (.invokevirtual 101, 3) := by decide +kernel
theorem dX5_fetch_32 : decode cX5_fetch 32 = .ok (.aload_n 0, 1) := by decide +kernel
theorem dX5_fetch_33 : decode cX5_fetch 33 = .ok (.getfield 26, 3) := by decide +kernel
theorem dX5_fetch_36 : decode cX5_fetch 36 = .ok (.iload_n 3, 1) := by decide +kernel
theorem dX5_fetch_37 : decode cX5_fetch 37 = .ok (.aload_n 0, 1) := by decide +kernel
theorem dX5_fetch_38 : decode cX5_fetch 38 = .ok (.getfield 7, 3) := by decide +kernel
theorem dX5_fetch_41 : decode cX5_fetch 41 = .ok (.iload_n 2, 1) := by decide +kernel
theorem dX5_fetch_42 : decode cX5_fetch 42 = .ok (.iaload, 1) := by decide +kernel
theorem dX5_fetch_43 : decode cX5_fetch 43 = .ok (.iastore, 1) := by decide +kernel
theorem dX5_fetch_44 : decode cX5_fetch 44 = .ok (.aload_n 0, 1) := by decide +kernel
theorem dX5_fetch_45 : decode cX5_fetch 45 = .ok (.getfield 29, 3) := by decide +kernel
theorem dX5_fetch_48 : decode cX5_fetch 48 = .ok (.iload_n 3, 1) := by decide +kernel
theorem dX5_fetch_49 : decode cX5_fetch 49 = .ok (.aload_n 0, 1) := by decide +kernel
theorem dX5_fetch_50 : decode cX5_fetch 50 = .ok (.getfield 7, 3) := by decide +kernel
theorem dX5_fetch_53 : decode cX5_fetch 53 = .ok (.iload_n 2, 1) := by decide +kernel
theorem dX5_fetch_54 : decode cX5_fetch 54 = .ok (.iaload, 1) := by decide +kernel
theorem dX5_fetch_55 : decode cX5_fetch 55 = .ok (.iconst 2, 1) := by decide +kernel
theorem dX5_fetch_56 : decode cX5_fetch 56 = .ok (.if_icmp .ne 8, 3) := by decide +kernel
theorem dX5_fetch_59 : decode cX5_fetch 59 = .ok (.bipush (-3), 2) := by decide +kernel
theorem dX5_fetch_61 : decode cX5_fetch 61 = .ok (.goto 9, 3) := by decide +kernel
theorem dX5_fetch_64 : decode cX5_fetch 64 = .ok (.aload_n 0, 1) := by decide +kernel
theorem dX5_fetch_65 : decode cX5_fetch 65 = .ok (.getfield 13, 3) := by decide +kernel
theorem dX5_fetch_68 : decode cX5_fetch 68 = .ok (.iload_n 2, 1) := by decide +kernel
theorem dX5_fetch_69 : decode cX5_fetch 69 = .ok (.iaload, 1) := by decide +kernel
theorem dX5_fetch_70 : decode cX5_fetch 70 = .ok (.iastore, 1) := by decide +kernel
theorem dX5_fetch_71 : decode cX5_fetch 71 = .ok (.aload_n 0, 1) := by decide +kernel
theorem dX5_fetch_72 : decode cX5_fetch 72 = .ok (.getfield 32, 3) := by decide +kernel
theorem dX5_fetch_75 : decode cX5_fetch 75 = .ok (.iload_n 3, 1) := by decide +kernel
theorem dX5_fetch_76 : decode cX5_fetch 76 = .ok (.aload_n 0, 1) := by decide +kernel
theorem dX5_fetch_77 : decode cX5_fetch 77 = .ok (.getfield 7, 3) := by decide +kernel
theorem dX5_fetch_80 : decode cX5_fetch 80 = .ok (.iload_n 2, 1) := by decide +kernel
theorem dX5_fetch_81 : decode cX5_fetch 81 = .ok (.iaload, 1) := by decide +kernel
theorem dX5_fetch_82 : decode cX5_fetch 82 = .ok (.iconst 2, 1) := by decide +kernel
theorem dX5_fetch_83 : decode cX5_fetch 83 = .ok (.if_icmp .ne 10, 3) := by decide +kernel
theorem dX5_fetch_86 : decode cX5_fetch 86 = .ok (.aload_n 0, 1) := by decide +kernel
theorem dX5_fetch_87 : decode cX5_fetch 87 = .ok (.getfield 59, 3) := by decide +kernel
theorem dX5_fetch_90 : decode cX5_fetch 90 = .ok (.goto 9, 3) := by decide +kernel
theorem dX5_fetch_93 : decode cX5_fetch 93 = .ok (.aload_n 0, 1) := by decide +kernel
theorem dX5_fetch_94 : decode cX5_fetch 94 = .ok (.getfield 16, 3) := by decide +kernel
theorem dX5_fetch_97 : decode cX5_fetch 97 = .ok (.iload_n 2, 1) := by decide +kernel
theorem dX5_fetch_98 : decode cX5_fetch 98 = .ok (.iaload, 1) := by decide +kernel
theorem dX5_fetch_99 : decode cX5_fetch 99 = .ok (.iastore, 1) := by decide +kernel
theorem dX5_fetch_100 : decode cX5_fetch 100 = .ok (.aload_n 0, 1) := by decide +kernel
theorem dX5_fetch_101 : decode cX5_fetch 101 = .ok (.getfield 35, 3) := by decide +kernel
theorem dX5_fetch_104 : decode cX5_fetch 104 = .ok (.iload_n 3, 1) := by decide +kernel
theorem dX5_fetch_105 : decode cX5_fetch 105 = .ok (.aload_n 0, 1) := by decide +kernel
theorem dX5_fetch_106 : decode cX5_fetch 106 = .ok (.getfield 95, 3) := by decide +kernel
theorem dX5_fetch_109 : decode cX5_fetch 109 = .ok (.aload_n 0, 1) := by decide +kernel
theorem dX5_fetch_110 : decode cX5_fetch 110 = .ok (.getfield 32, 3) := by decide +kernel
theorem dX5_fetch_113 : decode cX5_fetch 113 = .ok (.iload_n 3, 1) := by decide +kernel
theorem dX5_fetch_114 : decode cX5_fetch 114 = .ok (.iaload, 1) := by decide +kernel
theorem dX5_fetch_115 : decode cX5_fetch 115 = .ok (.iadd, 1) := by decide +kernel
theorem dX5_fetch_116 : decode cX5_fetch 116 = .ok (.iastore, 1) := by decide +kernel
theorem dX5_fetch_117 : decode cX5_fetch 117 = .ok (.aload_n 0, 1) := by decide +kernel
theorem dX5_fetch_118 : decode cX5_fetch 118 = .ok (.getfield 38, 3) := by decide +kernel
theorem dX5_fetch_121 : decode cX5_fetch 121 = .ok (.iload_n 3, 1) := by decide +kernel
theorem dX5_fetch_122 : decode cX5_fetch 122 = .ok (.iconst 0, 1) := by decide +kernel
theorem dX5_fetch_123 : decode cX5_fetch 123 = .ok (.iastore, 1) := by decide +kernel
theorem dX5_fetch_124 : decode cX5_fetch 124 = .ok (.aload_n 0, 1) := by decide +kernel
theorem dX5_fetch_125 : decode cX5_fetch 125 = .ok (.dup, 1) := by decide +kernel
theorem dX5_fetch_126 : decode cX5_fetch 126 = .ok (.getfield 105, 3) := by decide +kernel
theorem dX5_fetch_129 : decode cX5_fetch 129 = .ok (.iconst 1, 1) := by decide +kernel
theorem dX5_fetch_130 : decode cX5_fetch 130 = .ok (.iadd, 1) := by decide +kernel
theorem dX5_fetch_131 : decode cX5_fetch 131 = .ok (.putfield 105, 3) := by decide +kernel
theorem dX5_fetch_134 : decode cX5_fetch 134 = .ok (.aload_n 0, 1) := by decide +kernel
theorem dX5_fetch_135 : decode cX5_fetch 135 = .ok (.dup, 1) := by decide +kernel
theorem dX5_fetch_136 : decode cX5_fetch 136 = .ok (.getfield 108, 3) := by decide +kernel
theorem dX5_fetch_139 : decode cX5_fetch 139 = .ok (.iconst 1, 1) := by decide +kernel
theorem dX5_fetch_140 : decode cX5_fetch 140 = .ok (.iadd, 1) := by decide +kernel
theorem dX5_fetch_141 : decode cX5_fetch 141 = .ok (.putfield 108, 3) := by decide +kernel
theorem dX5_fetch_144 : decode cX5_fetch 144 = .ok (.return_, 1) := by decide +kernel
set_option maxRecDepth 20000 in
theorem ggX5_looksUp_X5_fetch : GoodIn wsX5_looksUp wsX5_fetch := goodIn_r _ [14, 2, 15, 16, 17, 18, 19, 20, 4, 3, 5, 21, 22, 23, 24, 25, 13, 26, 27, 28, 29, 30, 31, 32, 33, 34, 35, 36, 37, 38, 39, 40, 41, 42, 43, 44, 45, 46, 47, 48, 49, 50, 51, 52, 53, 54, 55, 56, 57, 58, 59, 60, 61] (by decide +kernel) (by decide +kernel)
set_option maxRecDepth 20000 in
theorem gX5_looksUp_X5_fetch : GoodIn wsX5_looksUp (wsV RX5 117 RX5 yX5_fetch wsX5_fetch) := goodIn_app (goodIn_of _ (by decide +kernel)) ggX5_looksUp_X5_fetch
theorem dX5_looksUp_0 : decode cX5_looksUp 0 = .ok (.bipush 16, 2) := by decide +kernel
theorem dX5_looksUp_2 : decode cX5_looksUp 2 = .ok (.iload_n 1, 1) := by decide +kernel
theorem dX5_looksUp_3 : decode cX5_looksUp 3 = .ok (.imul, 1) := by decide +kernel
theorem dX5_looksUp_4 : decode cX5_looksUp 4 = .ok (.iload_n 2, 1) := by decide +kernel
theorem dX5_looksUp_5 : decode cX5_looksUp 5 = .ok (.iadd, 1) := by decide +kernel
theorem dX5_looksUp_6 : decode cX5_looksUp 6 = .ok (.istore_n 3, 1) := by decide +kernel
theorem dX5_looksUp_7 : decode cX5_looksUp 7 = .ok (.aload_n 0, 1) := by decide +kernel
theorem dX5_looksUp_8 : decode cX5_looksUp 8 = .ok (.dup, 1) := by decide +kernel
theorem dX5_looksUp_9 : decode cX5_looksUp 9 = .ok (.getfield 111, 3) := by decide +kernel
theorem dX5_looksUp_12 : decode cX5_looksUp 12 = .ok (.iconst 1, 1) := by decide +kernel
theorem dX5_looksUp_13 : decode cX5_looksUp 13 = .ok (.iadd, 1) := by decide +kernel
theorem dX5_looksUp_14 : decode cX5_looksUp 14 = .ok (.putfield 111, 3) := by decide +kernel
theorem dX5_looksUp_17 : decode cX5_looksUp 17 = .ok (.aload_n 0, 1) := by decide +kernel
theorem dX5_looksUp_18 : decode cX5_looksUp 18 = .ok (.getfield 26, 3) := by decide +kernel
theorem dX5_looksUp_21 : decode cX5_looksUp 21 = .ok (.iload_n 3, 1) := by decide +kernel
theorem dX5_looksUp_22 : decode cX5_looksUp 22 = .ok (.iaload, 1) := by decide +kernel
theorem dX5_looksUp_23 : decode cX5_looksUp 23 = .ok (.iconst 3, 1) := by decide +kernel
theorem dX5_looksUp_24 : decode cX5_looksUp 24 = .ok (.if_icmp .eq 48, 3) := by decide +kernel
theorem dX5_looksUp_27 : decode cX5_looksUp 27 = .ok (.aload_n 0, 1) := by decide +kernel
theorem dX5_looksUp_28 : decode cX5_looksUp 28 = .ok (.getfield 95, 3) := by decide +kernel
theorem dX5_looksUp_31 : decode cX5_looksUp 31 = .ok (.aload_n 0, 1) := by decide +kernel
theorem dX5_looksUp_32 : decode cX5_looksUp 32 = .ok (.getfield 35, 3) := by decide +kernel
theorem dX5_looksUp_35 : decode cX5_looksUp 35 = .ok (.iload_n 3, 1) := by decide +kernel
theorem dX5_looksUp_36 : decode cX5_looksUp 36 = .ok (.iaload, 1) := by decide +kernel
theorem dX5_looksUp_37 : decode cX5_looksUp 37 = .ok (.if_icmp .ge 35, 3) := by decide +kernel
theorem dX5_looksUp_40 : decode cX5_looksUp 40 = .ok (.aload_n 0, 1) := by decide +kernel
theorem dX5_looksUp_41 : decode cX5_looksUp 41 = .ok (.getfield 38, 3) := by decide +kernel
theorem dX5_looksUp_44 : decode cX5_looksUp 44 = .ok (.iload_n 3, 1) := by decide +kernel
theorem dX5_looksUp_45 : decode cX5_looksUp 45 = .ok (.dup2, 1) := by decide +kernel
theorem dX5_looksUp_46 : decode cX5_looksUp 46 = .ok (.iaload, 1) := by decide +kernel
theorem dX5_looksUp_47 : decode cX5_looksUp 47 = .ok (.iconst 1, 1) := by decide +kernel
theorem dX5_looksUp_48 : decode cX5_looksUp 48 = .ok (.iadd, 1) := by decide +kernel
theorem dX5_looksUp_49 : decode cX5_looksUp 49 = .ok (.iastore, 1) := by decide +kernel
theorem dX5_looksUp_50 : decode cX5_looksUp 50 = .ok (.aload_n 0, 1) := by decide +kernel
theorem dX5_looksUp_51 : decode cX5_looksUp 51 = .ok (.getfield 41, 3) := by decide +kernel
theorem dX5_looksUp_54 : decode cX5_looksUp 54 = .ok (.aload_n 0, 1) := by decide +kernel
theorem dX5_looksUp_55 : decode cX5_looksUp 55 = .ok (.getfield 114, 3) := by decide +kernel
theorem dX5_looksUp_58 : decode cX5_looksUp 58 = .ok (.iload_n 2, 1) := by decide +kernel
theorem dX5_looksUp_59 : decode cX5_looksUp 59 = .ok (.iastore, 1) := by decide +kernel
theorem dX5_looksUp_60 : decode cX5_looksUp 60 = .ok (.aload_n 0, 1) := by decide +kernel
theorem dX5_looksUp_61 : decode cX5_looksUp 61 = .ok (.dup, 1) := by decide +kernel
theorem dX5_looksUp_62 : decode cX5_looksUp 62 = .ok (.getfield 114, 3) := by decide +kernel
theorem dX5_looksUp_65 : decode cX5_looksUp 65 = .ok (.iconst 1, 1) := by decide +kernel
theorem dX5_looksUp_66 : decode cX5_looksUp 66 = .ok (.iadd, 1) := by decide +kernel
theorem dX5_looksUp_67 : decode cX5_looksUp 67 = .ok (.putfield 114, 3) := by decide +kernel
theorem dX5_looksUp_70 : decode cX5_looksUp 70 = .ok (.iconst 1, 1) := by decide +kernel
theorem dX5_looksUp_71 : decode cX5_looksUp 71 = .ok (.ireturn, 1) := by decide +kernel
theorem dX5_looksUp_72 : decode cX5_looksUp 72 = .ok (.aload_n 0, 1) := by decide +kernel
theorem dX5_looksUp_73 : decode cX5_looksUp 73 = .ok (.getfield 63, 3) := by decide +kernel
theorem dX5_looksUp_76 : decode cX5_looksUp 76 = .ok (.ifCond .eq 11, 3) := by decide +kernel
theorem dX5_looksUp_79 : decode cX5_looksUp 79 = .ok (.aload_n 0, 1) := by decide +kernel
theorem dX5_looksUp_80 : decode cX5_looksUp 80 = .ok (.iload_n 1, 1) := by decide +kernel
theorem dX5_looksUp_81 : decode cX5_looksUp 81 = .ok (.iload_n 2, 1) := by decide +kernel
theorem dX5_looksUp_82 : decode cX5_looksUp 82 = .ok (.invokevirtual 117, 3) := by decide +kernel
theorem dX5_looksUp_85 : decode cX5_looksUp 85 = .ok (.iconst 1, 1) := by decide +kernel
theorem dX5_looksUp_86 : decode cX5_looksUp 86 = .ok (.ireturn, 1) := by decide +kernel
theorem dX5_looksUp_87 : decode cX5_looksUp 87 = .ok (.aload_n 0, 1) := by decide +kernel
theorem dX5_looksUp_88 : decode cX5_looksUp 88 = .ok (.getfield 26, 3) := by decide +kernel
theorem dX5_looksUp_91 : decode cX5_looksUp 91 = .ok (.iload_n 3, 1) := by decide +kernel
theorem dX5_looksUp_92 : decode cX5_looksUp 92 = .ok (.iaload, 1) := by decide +kernel
theorem dX5_looksUp_93 : decode cX5_looksUp 93 = .ok (.iconst 3, 1) := by decide +kernel
theorem dX5_looksUp_94 : decode cX5_looksUp 94 = .ok (.if_icmp .eq 23, 3) := by decide +kernel
theorem dX5_looksUp_97 : decode cX5_looksUp 97 = .ok (.aload_n 0, 1) := by decide +kernel
theorem dX5_looksUp_98 : decode cX5_looksUp 98 = .ok (.getfield 95, 3) := by decide +kernel
theorem dX5_looksUp_101 : decode cX5_looksUp 101 = .ok (.aload_n 0, 1) := by decide +kernel
theorem dX5_looksUp_102 : decode cX5_looksUp 102 = .ok (.getfield 35, 3) := by decide +kernel
theorem dX5_looksUp_105 : decode cX5_looksUp 105 = .ok (.iload_n 3, 1) := by decide +kernel
theorem dX5_looksUp_106 : decode cX5_looksUp 106 = .ok (.iaload, 1) := by decide +kernel
theorem dX5_looksUp_107 : decode cX5_looksUp 107 = .ok (.isub, 1) := by decide +kernel
theorem dX5_looksUp_108 : decode cX5_looksUp 108 = .ok (.bipush 100, 2) := by decide +kernel
theorem dX5_looksUp_110 : decode cX5_looksUp 110 = .ok (.if_icmp .ge 7, 3) := by decide +kernel
theorem dX5_looksUp_113 : decode cX5_looksUp 113 = .ok (.iconst 1, 1) := by decide +kernel
theorem dX5_looksUp_114 : decode cX5_looksUp 114 = .ok (.goto 4, 3) := by decide +kernel
theorem dX5_looksUp_117 : decode cX5_looksUp 117 = .ok (.iconst 0, 1) := by decide +kernel
theorem dX5_looksUp_118 : decode cX5_looksUp 118 = .ok (.istore 4, 2) := by decide +kernel
theorem dX5_looksUp_120 : decode cX5_looksUp 120 = .ok (.aload_n 0, 1) := by decide +kernel
theorem dX5_looksUp_121 : decode cX5_looksUp 121 = .ok (.aload_n 0, 1) := by decide +kernel
theorem dX5_looksUp_122 : decode cX5_looksUp 122 = .ok (.getfield 121, 3) := by decide +kernel
theorem dX5_looksUp_125 : decode cX5_looksUp 125 = .ok (.ifCond .ne 8, 3) := by decide +kernel
theorem dX5_looksUp_128 : decode cX5_looksUp 128 = .ok (.iload 4, 2) := by decide +kernel
theorem dX5_looksUp_130 : decode cX5_looksUp 130 = .ok (.ifCond .eq 7, 3) := by decide +kernel
theorem dX5_looksUp_133 : decode cX5_looksUp 133 = .ok (.iconst 1, 1) := by decide +kernel
theorem dX5_looksUp_134 : decode cX5_looksUp 134 = .ok (.goto 4, 3) := by decide +kernel
theorem dX5_looksUp_137 : decode cX5_looksUp 137 = .ok (.iconst 0, 1) := by decide +kernel
theorem dX5_looksUp_138 : decode cX5_looksUp 138 = .ok (.putfield 121, 3) := by decide +kernel
theorem dX5_looksUp_141 : decode cX5_looksUp 141 = .ok (.iload 4, 2) := by decide +kernel
theorem dX5_looksUp_143 : decode cX5_looksUp 143 = .ok (.ireturn, 1) := by decide +kernel
set_option maxRecDepth 20000 in
theorem ggX5_resolve_X5_looksUp : GoodIn wsX5_resolve wsX5_looksUp := goodIn_r _ [7, 8, 1, 9, 10, 11, 12, 13, 14, 15, 16, 17, 18, 6, 19, 20, 2, 21, 22, 23, 24, 25, 26, 27, 28, 29, 30, 31, 32, 33, 34, 35, 36, 37, 38, 39, 40, 41, 42, 43, 44, 45, 46, 47, 48, 49, 50, 51, 52, 53, 54, 55, 56, 57, 58, 59, 60, 61, 62, 63, 64, 65] (by decide +kernel) (by decide +kernel)
set_option maxRecDepth 20000 in
theorem gX5_resolve_X5_looksUp : GoodIn wsX5_resolve (wsV RX5 124 RX5 yX5_looksUp wsX5_looksUp) := goodIn_app (goodIn_of _ (by decide +kernel)) ggX5_resolve_X5_looksUp
theorem dX5_resolve_0 : decode cX5_resolve 0 = .ok (.iload_n 2, 1) := by decide +kernel
theorem dX5_resolve_1 : decode cX5_resolve 1 = .ok (.istore_n 3, 1) := by decide +kernel
theorem dX5_resolve_2 : decode cX5_resolve 2 = .ok (.iconst 0, 1) := by decide +kernel
theorem dX5_resolve_3 : decode cX5_resolve 3 = .ok (.istore 4, 2) := by decide +kernel
theorem dX5_resolve_5 : decode cX5_resolve 5 = .ok (.iload 4, 2) := by decide +kernel
theorem dX5_resolve_7 : decode cX5_resolve 7 = .ok (.iconst 4, 1) := by decide +kernel
theorem dX5_resolve_8 : decode cX5_resolve 8 = .ok (.if_icmp .gt 70, 3) := by decide +kernel
theorem dX5_resolve_11 : decode cX5_resolve 11 = .ok (.aload_n 0, 1) := by decide +kernel
theorem dX5_resolve_12 : decode cX5_resolve 12 = .ok (.iload_n 1, 1) := by decide +kernel
theorem dX5_resolve_13 : decode cX5_resolve 13 = .ok (.iload_n 3, 1) := by decide +kernel
theorem dX5_resolve_14 : decode cX5_resolve 14 = .ok (.invokevirtual 124, 3) := by decide +kernel
theorem dX5_resolve_17 : decode cX5_resolve 17 = .ok (.ifCond .ne 6, 3) := by decide +kernel
theorem dX5_resolve_20 : decode cX5_resolve 20 = .ok (.bipush (-2), 2) := by decide +kernel
theorem dX5_resolve_22 : decode cX5_resolve 22 = .ok (.ireturn, 1) := by decide +kernel
theorem dX5_resolve_23 : decode cX5_resolve 23 = .ok (.bipush 16, 2) := by decide +kernel
theorem dX5_resolve_25 : decode cX5_resolve 25 = .ok (.iload_n 1, 1) := by decide +kernel
theorem dX5_resolve_26 : decode cX5_resolve 26 = .ok (.imul, 1) := by decide +kernel
theorem dX5_resolve_27 : decode cX5_resolve 27 = .ok (.iload_n 3, 1) := by decide +kernel
theorem dX5_resolve_28 : decode cX5_resolve 28 = .ok (.iadd, 1) := by decide +kernel
theorem dX5_resolve_29 : decode cX5_resolve 29 = .ok (.istore 5, 2) := by decide +kernel
theorem dX5_resolve_31 : decode cX5_resolve 31 = .ok (.aload_n 0, 1) := by decide +kernel
theorem dX5_resolve_32 : decode cX5_resolve 32 = .ok (.getfield 26, 3) := by decide +kernel
theorem dX5_resolve_35 : decode cX5_resolve 35 = .ok (.iload 5, 2) := by decide +kernel
theorem dX5_resolve_37 : decode cX5_resolve 37 = .ok (.iaload, 1) := by decide +kernel
theorem dX5_resolve_38 : decode cX5_resolve 38 = .ok (.iconst 1, 1) := by decide +kernel
theorem dX5_resolve_39 : decode cX5_resolve 39 = .ok (.if_icmp .eq 25, 3) := by decide +kernel
theorem dX5_resolve_42 : decode cX5_resolve 42 = .ok (.aload_n 0, 1) := by decide +kernel
theorem dX5_resolve_43 : decode cX5_resolve 43 = .ok (.getfield 26, 3) := by decide +kernel
theorem dX5_resolve_46 : decode cX5_resolve 46 = .ok (.iload 5, 2) := by decide +kernel
theorem dX5_resolve_48 : decode cX5_resolve 48 = .ok (.iaload, 1) := by decide +kernel
theorem dX5_resolve_49 : decode cX5_resolve 49 = .ok (.ifCond .ne 13, 3) := by decide +kernel
theorem dX5_resolve_52 : decode cX5_resolve 52 = .ok (.aload_n 0, 1) := by decide +kernel
theorem dX5_resolve_53 : decode cX5_resolve 53 = .ok (.getfield 29, 3) := by decide +kernel
theorem dX5_resolve_56 : decode cX5_resolve 56 = .ok (.iload 5, 2) := by decide +kernel
theorem dX5_resolve_58 : decode cX5_resolve 58 = .ok (.iaload, 1) := by decide +kernel
theorem dX5_resolve_59 : decode cX5_resolve 59 = .ok (.goto 4, 3) := by decide +kernel
theorem dX5_resolve_62 : decode cX5_resolve 62 = .ok (.iconst (-1), 1) := by decide +kernel
theorem dX5_resolve_63 : decode cX5_resolve 63 = .ok (.ireturn, 1) := by decide +kernel
theorem dX5_resolve_64 : decode cX5_resolve 64 = .ok (.aload_n 0, 1) := by decide +kernel
theorem dX5_resolve_65 : decode cX5_resolve 65 = .ok (.getfield 29, 3) := by decide +kernel
theorem dX5_resolve_68 : decode cX5_resolve 68 = .ok (.iload 5, 2) := by decide +kernel
theorem dX5_resolve_70 : decode cX5_resolve 70 = .ok (.iaload, 1) := by decide +kernel
theorem dX5_resolve_71 : decode cX5_resolve 71 = .ok (.istore_n 3, 1) := by decide +kernel
theorem dX5_resolve_72 : decode cX5_resolve 72 = .ok (.iinc 4 1, 3) := by decide +kernel
theorem dX5_resolve_75 : decode cX5_resolve 75 = .ok (.goto (-70), 3) := by decide +kernel
theorem dX5_resolve_78 : decode cX5_resolve 78 = .ok (.bipush (-2), 2) := by decide +kernel
theorem dX5_resolve_80 : decode cX5_resolve 80 = .ok (.ireturn, 1) := by decide +kernel
set_option maxRecDepth 20000 in
theorem ggX5_fetchHot_X5_fetch : GoodIn wsX5_fetchHot wsX5_fetch := goodIn_r _ [14, 4, 15, 16, 17, 8, 18, 19, 6, 7, 5, 20, 21, 22, 23, 24, 13, 25, 26, 27, 28, 29, 30, 31, 32, 33, 34, 35, 36, 37, 38, 39, 40, 41, 42, 43, 44, 45, 46, 47, 48, 49, 50, 51, 52, 53, 54, 55, 56, 57, 58, 59, 60] (by decide +kernel) (by decide +kernel)
set_option maxRecDepth 20000 in
theorem gX5_fetchHot_X5_fetch : GoodIn wsX5_fetchHot (wsV RX5 117 RX5 yX5_fetch wsX5_fetch) := goodIn_app (goodIn_of _ (by decide +kernel)) ggX5_fetchHot_X5_fetch
theorem dX5_fetchHot_0 : decode cX5_fetchHot 0 = .ok (.iconst 0, 1) := by decide +kernel
theorem dX5_fetchHot_1 : decode cX5_fetchHot 1 = .ok (.istore_n 2, 1) := by decide +kernel
theorem dX5_fetchHot_2 : decode cX5_fetchHot 2 = .ok (.iload_n 2, 1) := by decide +kernel
theorem dX5_fetchHot_3 : decode cX5_fetchHot 3 = .ok (.aload_n 0, 1) := by decide +kernel
theorem dX5_fetchHot_4 : decode cX5_fetchHot 4 = .ok (.getfield 114, 3) := by decide +kernel
theorem dX5_fetchHot_7 : decode cX5_fetchHot 7 = .ok (.if_icmp .ge 91, 3) := by decide +kernel
theorem dX5_fetchHot_10 : decode cX5_fetchHot 10 = .ok (.bipush 16, 2) := by decide +kernel
theorem dX5_fetchHot_12 : decode cX5_fetchHot 12 = .ok (.iload_n 1, 1) := by decide +kernel
theorem dX5_fetchHot_13 : decode cX5_fetchHot 13 = .ok (.imul, 1) := by decide +kernel
theorem dX5_fetchHot_14 : decode cX5_fetchHot 14 = .ok (.aload_n 0, 1) := by decide +kernel
theorem dX5_fetchHot_15 : decode cX5_fetchHot 15 = .ok (.getfield 41, 3) := by decide +kernel
theorem dX5_fetchHot_18 : decode cX5_fetchHot 18 = .ok (.iload_n 2, 1) := by decide +kernel
theorem dX5_fetchHot_19 : decode cX5_fetchHot 19 = .ok (.iaload, 1) := by decide +kernel
theorem dX5_fetchHot_20 : decode cX5_fetchHot 20 = .ok (.iadd, 1) := by decide +kernel
theorem dX5_fetchHot_21 : decode cX5_fetchHot 21 = .ok (.istore_n 3, 1) := by decide +kernel
theorem dX5_fetchHot_22 : decode cX5_fetchHot 22 = .ok (.aload_n 0, 1) := by decide +kernel
theorem dX5_fetchHot_23 : decode cX5_fetchHot 23 = .ok (.getfield 63, 3) := by decide +kernel
theorem dX5_fetchHot_26 : decode cX5_fetchHot 26 = .ok (.ifCond .eq 66, 3) := by decide +kernel
theorem dX5_fetchHot_29 : decode cX5_fetchHot 29 = .ok (.aload_n 0, 1) := by decide +kernel
theorem dX5_fetchHot_30 : decode cX5_fetchHot 30 = .ok (.getfield 26, 3) := by decide +kernel
theorem dX5_fetchHot_33 : decode cX5_fetchHot 33 = .ok (.iload_n 3, 1) := by decide +kernel
theorem dX5_fetchHot_34 : decode cX5_fetchHot 34 = .ok (.iaload, 1) := by decide +kernel
theorem dX5_fetchHot_35 : decode cX5_fetchHot 35 = .ok (.iconst 3, 1) := by decide +kernel
theorem dX5_fetchHot_36 : decode cX5_fetchHot 36 = .ok (.if_icmp .eq 56, 3) := by decide +kernel
theorem dX5_fetchHot_39 : decode cX5_fetchHot 39 = .ok (.aload_n 0, 1) := by decide +kernel
theorem dX5_fetchHot_40 : decode cX5_fetchHot 40 = .ok (.getfield 38, 3) := by decide +kernel
theorem dX5_fetchHot_43 : decode cX5_fetchHot 43 = .ok (.iload_n 3, 1) := by decide +kernel
theorem dX5_fetchHot_44 : decode cX5_fetchHot 44 = .ok (.iaload, 1) := by decide +kernel
theorem dX5_fetchHot_45 : decode cX5_fetchHot 45 = .ok (.iconst 3, 1) := by decide +kernel
theorem dX5_fetchHot_46 : decode cX5_fetchHot 46 = .ok (.if_icmp .lt 46, 3) := by decide +kernel
theorem dX5_fetchHot_49 : decode cX5_fetchHot 49 = .ok (.iconst 4, 1) := by decide +kernel
theorem dX5_fetchHot_50 : decode cX5_fetchHot 50 = .ok (.aload_n 0, 1) := by decide +kernel
theorem dX5_fetchHot_51 : decode cX5_fetchHot 51 = .ok (.getfield 35, 3) := by decide +kernel
theorem dX5_fetchHot_54 : decode cX5_fetchHot 54 = .ok (.iload_n 3, 1) := by decide +kernel
theorem dX5_fetchHot_55 : decode cX5_fetchHot 55 = .ok (.iaload, 1) := by decide +kernel
theorem dX5_fetchHot_56 : decode cX5_fetchHot 56 = .ok (.aload_n 0, 1) := by decide +kernel
theorem dX5_fetchHot_57 : decode cX5_fetchHot 57 = .ok (.getfield 95, 3) := by decide +kernel
theorem dX5_fetchHot_60 : decode cX5_fetchHot 60 = .ok (.isub, 1) := by decide +kernel
theorem dX5_fetchHot_61 : decode cX5_fetchHot 61 = .ok (.imul, 1) := by decide +kernel
theorem dX5_fetchHot_62 : decode cX5_fetchHot 62 = .ok (.aload_n 0, 1) := by decide +kernel
theorem dX5_fetchHot_63 : decode cX5_fetchHot 63 = .ok (.getfield 32, 3) := by decide +kernel
theorem dX5_fetchHot_66 : decode cX5_fetchHot 66 = .ok (.iload_n 3, 1) := by decide +kernel
theorem dX5_fetchHot_67 : decode cX5_fetchHot 67 = .ok (.iaload, 1) := by decide +kernel
theorem dX5_fetchHot_68 : decode cX5_fetchHot 68 = .ok (.if_icmp .gt 24, 3) := by decide +kernel
theorem dX5_fetchHot_71 : decode cX5_fetchHot 71 = .ok (.aload_n 0, 1) := by decide +kernel
theorem dX5_fetchHot_72 : decode cX5_fetchHot 72 = .ok (.iload_n 1, 1) := by decide +kernel
theorem dX5_fetchHot_73 : decode cX5_fetchHot 73 = .ok (.aload_n 0, 1) := by decide +kernel
theorem dX5_fetchHot_74 : decode cX5_fetchHot 74 = .ok (.getfield 41, 3) := by decide +kernel
theorem dX5_fetchHot_77 : decode cX5_fetchHot 77 = .ok (.iload_n 2, 1) := by decide +kernel
theorem dX5_fetchHot_78 : decode cX5_fetchHot 78 = .ok (.iaload, 1) := by decide +kernel
theorem dX5_fetchHot_79 : decode cX5_fetchHot 79 = .ok (.invokevirtual 117, 3) := by decide +kernel
theorem dX5_fetchHot_82 : decode cX5_fetchHot 82 = .ok (.aload_n 0, 1) := by decide +kernel
theorem dX5_fetchHot_83 : decode cX5_fetchHot 83 = .ok (.dup, 1) := by decide +kernel
theorem dX5_fetchHot_84 : decode cX5_fetchHot 84 = .ok (.getfield 127, 3) := by decide +kernel
theorem dX5_fetchHot_87 : decode cX5_fetchHot 87 = .ok (.iconst 1, 1) := by decide +kernel
theorem dX5_fetchHot_88 : decode cX5_fetchHot 88 = .ok (.iadd, 1) := by decide +kernel
theorem dX5_fetchHot_89 : decode cX5_fetchHot 89 = .ok (.putfield 127, 3) := by decide +kernel
theorem dX5_fetchHot_92 : decode cX5_fetchHot 92 = .ok (.iinc 2 1, 3) := by decide +kernel
theorem dX5_fetchHot_95 : decode cX5_fetchHot 95 = .ok (.goto (-93), 3) := by decide +kernel
theorem dX5_fetchHot_98 : decode cX5_fetchHot 98 = .ok (.return_, 1) := by decide +kernel
set_option maxRecDepth 20000 in
theorem ggX5_canAsk_X5_isName : GoodIn wsX5_canAsk wsX5_isName := goodIn_r _ [5, 6, 7, 4, 8] (by decide +kernel) (by decide +kernel)
set_option maxRecDepth 20000 in
theorem gX5_canAsk_X5_isName : GoodIn wsX5_canAsk (va_wsS RX5 80 yX5_isName wsX5_isName) := goodIn_app (goodIn_of _ (by decide +kernel)) ggX5_canAsk_X5_isName
set_option maxRecDepth 20000 in
theorem ggX5_canAsk_X5_in : GoodIn wsX5_canAsk wsX5_in := goodIn_r _ [8] (by decide +kernel) (by decide +kernel)
set_option maxRecDepth 20000 in
theorem gX5_canAsk_X5_in : GoodIn wsX5_canAsk (va_wsS RX5 73 yX5_in wsX5_in) := goodIn_app (goodIn_of _ (by decide +kernel)) ggX5_canAsk_X5_in
set_option maxRecDepth 20000 in
theorem ggX5_canAsk_X5_nearest : GoodIn wsX5_canAsk wsX5_nearest := goodIn_r _ [12, 13, 14, 15, 16, 17, 18, 19, 20, 21, 22, 23, 24, 25, 26, 27, 28, 29, 30, 31, 32, 33, 34, 35, 36, 37, 38, 39, 40, 41, 42, 43, 44, 45, 46] (by decide +kernel) (by decide +kernel)
set_option maxRecDepth 20000 in
theorem gX5_canAsk_X5_nearest : GoodIn wsX5_canAsk (wsV RX5 87 RX5 yX5_nearest wsX5_nearest) := goodIn_app (goodIn_of _ (by decide +kernel)) ggX5_canAsk_X5_nearest
theorem dX5_canAsk_0 : decode cX5_canAsk 0 = .ok (.aload_n 0, 1) := by decide +kernel
theorem dX5_canAsk_1 : decode cX5_canAsk 1 = .ok (.iload_n 2, 1) := by decide +kernel
theorem dX5_canAsk_2 : decode cX5_canAsk 2 = .ok (.invokestatic 80, 3) := by decide +kernel
theorem dX5_canAsk_5 : decode cX5_canAsk 5 = .ok (.ifCond .ne 7, 3) := by decide +kernel
theorem dX5_canAsk_8 : decode cX5_canAsk 8 = .ok (.iconst 1, 1) := by decide +kernel
theorem dX5_canAsk_9 : decode cX5_canAsk 9 = .ok (.goto 32, 3) := by decide +kernel
theorem dX5_canAsk_12 : decode cX5_canAsk 12 = .ok (.iload_n 1, 1) := by decide +kernel
theorem dX5_canAsk_13 : decode cX5_canAsk 13 = .ok (.iconst 0, 1) := by decide +kernel
theorem dX5_canAsk_14 : decode cX5_canAsk 14 = .ok (.bipush 99, 2) := by decide +kernel
theorem dX5_canAsk_16 : decode cX5_canAsk 16 = .ok (.invokestatic 73, 3) := by decide +kernel
theorem dX5_canAsk_19 : decode cX5_canAsk 19 = .ok (.ifCond .ne 7, 3) := by decide +kernel
theorem dX5_canAsk_22 : decode cX5_canAsk 22 = .ok (.iconst 2, 1) := by decide +kernel
theorem dX5_canAsk_23 : decode cX5_canAsk 23 = .ok (.goto 18, 3) := by decide +kernel
theorem dX5_canAsk_26 : decode cX5_canAsk 26 = .ok (.aload_n 0, 1) := by decide +kernel
theorem dX5_canAsk_27 : decode cX5_canAsk 27 = .ok (.iload_n 1, 1) := by decide +kernel
theorem dX5_canAsk_28 : decode cX5_canAsk 28 = .ok (.invokevirtual 87, 3) := by decide +kernel
theorem dX5_canAsk_31 : decode cX5_canAsk 31 = .ok (.bipush (-3), 2) := by decide +kernel
theorem dX5_canAsk_33 : decode cX5_canAsk 33 = .ok (.if_icmp .ne 7, 3) := by decide +kernel
theorem dX5_canAsk_36 : decode cX5_canAsk 36 = .ok (.iconst 3, 1) := by decide +kernel
theorem dX5_canAsk_37 : decode cX5_canAsk 37 = .ok (.goto 4, 3) := by decide +kernel
theorem dX5_canAsk_40 : decode cX5_canAsk 40 = .ok (.iconst 0, 1) := by decide +kernel
theorem dX5_canAsk_41 : decode cX5_canAsk 41 = .ok (.putfield 70, 3) := by decide +kernel
theorem dX5_canAsk_44 : decode cX5_canAsk 44 = .ok (.aload_n 0, 1) := by decide +kernel
theorem dX5_canAsk_45 : decode cX5_canAsk 45 = .ok (.getfield 70, 3) := by decide +kernel
theorem dX5_canAsk_48 : decode cX5_canAsk 48 = .ok (.ifCond .ne 7, 3) := by decide +kernel
theorem dX5_canAsk_51 : decode cX5_canAsk 51 = .ok (.iconst 1, 1) := by decide +kernel
theorem dX5_canAsk_52 : decode cX5_canAsk 52 = .ok (.goto 4, 3) := by decide +kernel
theorem dX5_canAsk_55 : decode cX5_canAsk 55 = .ok (.iconst 0, 1) := by decide +kernel
theorem dX5_canAsk_56 : decode cX5_canAsk 56 = .ok (.ireturn, 1) := by decide +kernel
set_option maxRecDepth 20000 in
theorem ggX5_query_X5_canAsk : GoodIn wsX5_query wsX5_canAsk := goodIn_r _ [13, 14, 15, 16, 12, 17, 18, 19, 20, 21, 22, 23, 24, 25, 26, 27, 66, 67, 68, 69, 70, 71, 72, 73, 74, 75, 76, 77, 78, 79, 80, 81, 82, 83, 84, 85, 86, 87, 88, 89, 90, 91, 92, 93, 94, 95, 96] (by decide +kernel) (by decide +kernel)
set_option maxRecDepth 20000 in
theorem gX5_query_X5_canAsk : GoodIn wsX5_query (wsV RX5 130 RX5 yX5_canAsk wsX5_canAsk) := goodIn_app (goodIn_of _ (by decide +kernel)) ggX5_query_X5_canAsk
set_option maxRecDepth 20000 in
theorem ggX5_query_X5_nearest : GoodIn wsX5_query wsX5_nearest := goodIn_r _ [24, 25, 26, 27, 66, 67, 68, 69, 70, 71, 72, 73, 74, 75, 76, 77, 78, 79, 80, 81, 82, 83, 84, 85, 86, 87, 88, 89, 90, 91, 92, 93, 94, 95, 96] (by decide +kernel) (by decide +kernel)
set_option maxRecDepth 20000 in
theorem gX5_query_X5_nearest : GoodIn wsX5_query (wsV RX5 87 RX5 yX5_nearest wsX5_nearest) := goodIn_app (goodIn_of _ (by decide +kernel)) ggX5_query_X5_nearest
set_option maxRecDepth 20000 in
theorem ggX5_query_X5_resolve : GoodIn wsX5_query wsX5_resolve := goodIn_r _ [31, 32, 33, 34, 35, 36, 12, 37, 3, 38, 39, 40, 41, 5, 42, 2, 43, 44, 45, 46, 47, 48, 49, 50, 51, 52, 4, 53, 54, 55, 56, 57, 58, 59, 60, 66, 67, 68, 69, 70, 71, 72, 73, 74, 75, 76, 77, 78, 79, 80, 81, 82, 83, 84, 85, 86, 87, 88, 89, 90, 91, 92, 93, 94, 95, 96] (by decide +kernel) (by decide +kernel)
set_option maxRecDepth 20000 in
theorem gX5_query_X5_resolve : GoodIn wsX5_query (wsV RX5 133 RX5 yX5_resolve wsX5_resolve) := goodIn_app (goodIn_of _ (by decide +kernel)) ggX5_query_X5_resolve
set_option maxRecDepth 20000 in
theorem ggX5_query_X5_fetchHot : GoodIn wsX5_query wsX5_fetchHot := goodIn_r _ [64, 5, 41, 42, 32, 40, 39, 38, 49, 65, 43, 44, 45, 12, 46, 47, 33, 48, 50, 51, 52, 4, 53, 54, 55, 56, 57, 58, 59, 60, 66, 67, 68, 69, 70, 71, 72, 73, 74, 75, 76, 77, 78, 79, 80, 81, 82, 83, 84, 85, 86, 87, 88, 89, 90, 91, 92, 93, 94, 95, 96] (by decide +kernel) (by decide +kernel)
set_option maxRecDepth 20000 in
theorem gX5_query_X5_fetchHot : GoodIn wsX5_query (wsV RX5 137 RX5 yX5_fetchHot wsX5_fetchHot) := goodIn_app (goodIn_of _ (by decide +kernel)) ggX5_query_X5_fetchHot
theorem dX5_query_0 : decode cX5_query 0 = .ok (.aload_n 0, 1) := by decide +kernel
theorem dX5_query_1 : decode cX5_query 1 = .ok (.iload_n 1, 1) := by decide +kernel
theorem dX5_query_2 : decode cX5_query 2 = .ok (.iload_n 2, 1) := by decide +kernel
theorem dX5_query_3 : decode cX5_query 3 = .ok (.invokevirtual 130, 3) := by decide +kernel
theorem dX5_query_6 : decode cX5_query 6 = .ok (.ifCond .ne 5, 3) := by decide +kernel
theorem dX5_query_9 : decode cX5_query 9 = .ok (.iconst 0, 1) := by decide +kernel
theorem dX5_query_10 : decode cX5_query 10 = .ok (.ireturn, 1) := by decide +kernel
theorem dX5_query_11 : decode cX5_query 11 = .ok (.aload_n 0, 1) := by decide +kernel
theorem dX5_query_12 : decode cX5_query 12 = .ok (.iload_n 1, 1) := by decide +kernel
theorem dX5_query_13 : decode cX5_query 13 = .ok (.invokevirtual 87, 3) := by decide +kernel
theorem dX5_query_16 : decode cX5_query 16 = .ok (.istore_n 3, 1) := by decide +kernel
theorem dX5_query_17 : decode cX5_query 17 = .ok (.aload_n 0, 1) := by decide +kernel
theorem dX5_query_18 : decode cX5_query 18 = .ok (.iload_n 3, 1) := by decide +kernel
theorem dX5_query_19 : decode cX5_query 19 = .ok (.putfield 67, 3) := by decide +kernel
theorem dX5_query_22 : decode cX5_query 22 = .ok (.aload_n 0, 1) := by decide +kernel
theorem dX5_query_23 : decode cX5_query 23 = .ok (.iconst 0, 1) := by decide +kernel
theorem dX5_query_24 : decode cX5_query 24 = .ok (.putfield 121, 3) := by decide +kernel
theorem dX5_query_27 : decode cX5_query 27 = .ok (.aload_n 0, 1) := by decide +kernel
theorem dX5_query_28 : decode cX5_query 28 = .ok (.iconst 0, 1) := by decide +kernel
theorem dX5_query_29 : decode cX5_query 29 = .ok (.putfield 111, 3) := by decide +kernel
theorem dX5_query_32 : decode cX5_query 32 = .ok (.aload_n 0, 1) := by decide +kernel
theorem dX5_query_33 : decode cX5_query 33 = .ok (.iconst 0, 1) := by decide +kernel
theorem dX5_query_34 : decode cX5_query 34 = .ok (.putfield 108, 3) := by decide +kernel
theorem dX5_query_37 : decode cX5_query 37 = .ok (.aload_n 0, 1) := by decide +kernel
theorem dX5_query_38 : decode cX5_query 38 = .ok (.iconst 0, 1) := by decide +kernel
theorem dX5_query_39 : decode cX5_query 39 = .ok (.putfield 114, 3) := by decide +kernel
theorem dX5_query_42 : decode cX5_query 42 = .ok (.aload_n 0, 1) := by decide +kernel
theorem dX5_query_43 : decode cX5_query 43 = .ok (.iload_n 3, 1) := by decide +kernel
theorem dX5_query_44 : decode cX5_query 44 = .ok (.iload_n 2, 1) := by decide +kernel
theorem dX5_query_45 : decode cX5_query 45 = .ok (.invokevirtual 133, 3) := by decide +kernel
theorem dX5_query_48 : decode cX5_query 48 = .ok (.istore 4, 2) := by decide +kernel
theorem dX5_query_50 : decode cX5_query 50 = .ok (.aload_n 0, 1) := by decide +kernel
theorem dX5_query_51 : decode cX5_query 51 = .ok (.iload_n 3, 1) := by decide +kernel
theorem dX5_query_52 : decode cX5_query 52 = .ok (.invokevirtual 137, 3) := by decide +kernel
theorem dX5_query_55 : decode cX5_query 55 = .ok (.aload_n 0, 1) := by decide +kernel
theorem dX5_query_56 : decode cX5_query 56 = .ok (.dup, 1) := by decide +kernel
theorem dX5_query_57 : decode cX5_query 57 = .ok (.getfield 140, 3) := by decide +kernel
theorem dX5_query_60 : decode cX5_query 60 = .ok (.iconst 1, 1) := by decide +kernel
theorem dX5_query_61 : decode cX5_query 61 = .ok (.iadd, 1) := by decide +kernel
theorem dX5_query_62 : decode cX5_query 62 = .ok (.putfield 140, 3) := by decide +kernel
theorem dX5_query_65 : decode cX5_query 65 = .ok (.aload_n 0, 1) := by decide +kernel
theorem dX5_query_66 : decode cX5_query 66 = .ok (.dup, 1) := by decide +kernel
theorem dX5_query_67 : decode cX5_query 67 = .ok (.getfield 143, 3) := by decide +kernel
theorem dX5_query_70 : decode cX5_query 70 = .ok (.aload_n 0, 1) := by decide +kernel
theorem dX5_query_71 : decode cX5_query 71 = .ok (.getfield 121, 3) := by decide +kernel
theorem dX5_query_74 : decode cX5_query 74 = .ok (.ifCond .eq 7, 3) := by decide +kernel
theorem dX5_query_77 : decode cX5_query 77 = .ok (.iconst 1, 1) := by decide +kernel
theorem dX5_query_78 : decode cX5_query 78 = .ok (.goto 4, 3) := by decide +kernel
theorem dX5_query_81 : decode cX5_query 81 = .ok (.iconst 0, 1) := by decide +kernel
theorem dX5_query_82 : decode cX5_query 82 = .ok (.iadd, 1) := by decide +kernel
theorem dX5_query_83 : decode cX5_query 83 = .ok (.putfield 143, 3) := by decide +kernel
theorem dX5_query_86 : decode cX5_query 86 = .ok (.aload_n 0, 1) := by decide +kernel
theorem dX5_query_87 : decode cX5_query 87 = .ok (.dup, 1) := by decide +kernel
theorem dX5_query_88 : decode cX5_query 88 = .ok (.getfield 146, 3) := by decide +kernel
theorem dX5_query_91 : decode cX5_query 91 = .ok (.iload 4, 2) := by decide +kernel
theorem dX5_query_93 : decode cX5_query 93 = .ok (.bipush (-2), 2) := by decide +kernel
theorem dX5_query_95 : decode cX5_query 95 = .ok (.if_icmp .ne 7, 3) := by decide +kernel
theorem dX5_query_98 : decode cX5_query 98 = .ok (.iconst 1, 1) := by decide +kernel
theorem dX5_query_99 : decode cX5_query 99 = .ok (.goto 4, 3) := by decide +kernel
theorem dX5_query_102 : decode cX5_query 102 = .ok (.iconst 0, 1) := by decide +kernel
theorem dX5_query_103 : decode cX5_query 103 = .ok (.iadd, 1) := by decide +kernel
theorem dX5_query_104 : decode cX5_query 104 = .ok (.putfield 146, 3) := by decide +kernel
theorem dX5_query_107 : decode cX5_query 107 = .ok (.iload 4, 2) := by decide +kernel
theorem dX5_query_109 : decode cX5_query 109 = .ok (.ireturn, 1) := by decide +kernel
set_option maxRecDepth 20000 in
theorem ggX5_wouldAnswer_X5_canAsk : GoodIn wsX5_wouldAnswer wsX5_canAsk := goodIn_r _ [20, 21, 22, 23, 19, 24, 25, 26, 27, 28, 29, 30, 31, 32, 33, 34, 62, 63, 64, 65, 66, 67, 68, 69, 70, 71, 72, 73, 74, 75, 76, 77, 78, 79, 80, 81, 82, 83, 84, 85, 86, 87, 88, 89, 90, 91, 92] (by decide +kernel) (by decide +kernel)
set_option maxRecDepth 20000 in
theorem gX5_wouldAnswer_X5_canAsk : GoodIn wsX5_wouldAnswer (wsV RX5 130 RX5 yX5_canAsk wsX5_canAsk) := goodIn_app (goodIn_of _ (by decide +kernel)) ggX5_wouldAnswer_X5_canAsk
set_option maxRecDepth 20000 in
theorem ggX5_wouldAnswer_X5_nearest : GoodIn wsX5_wouldAnswer wsX5_nearest := goodIn_r _ [31, 32, 33, 34, 62, 63, 64, 65, 66, 67, 68, 69, 70, 71, 72, 73, 74, 75, 76, 77, 78, 79, 80, 81, 82, 83, 84, 85, 86, 87, 88, 89, 90, 91, 92] (by decide +kernel) (by decide +kernel)
set_option maxRecDepth 20000 in
theorem gX5_wouldAnswer_X5_nearest : GoodIn wsX5_wouldAnswer (wsV RX5 87 RX5 yX5_nearest wsX5_nearest) := goodIn_app (goodIn_of _ (by decide +kernel)) ggX5_wouldAnswer_X5_nearest
set_option maxRecDepth 20000 in
theorem ggX5_wouldAnswer_X5_resolve : GoodIn wsX5_wouldAnswer wsX5_resolve := goodIn_r _ [38, 6, 8, 39, 40, 41, 19, 42, 2, 43, 12, 14, 44, 15, 45, 1, 46, 47, 48, 49, 50, 51, 10, 52, 53, 4, 3, 54, 55, 56, 57, 58, 59, 60, 61, 62, 63, 64, 65, 66, 67, 68, 69, 70, 71, 72, 73, 74, 75, 76, 77, 78, 79, 80, 81, 82, 83, 84, 85, 86, 87, 88, 89, 90, 91, 92] (by decide +kernel) (by decide +kernel)
set_option maxRecDepth 20000 in
theorem gX5_wouldAnswer_X5_resolve : GoodIn wsX5_wouldAnswer (wsV RX5 133 RX5 yX5_resolve wsX5_resolve) := goodIn_app (goodIn_of _ (by decide +kernel)) ggX5_wouldAnswer_X5_resolve
theorem dX5_wouldAnswer_0 : decode cX5_wouldAnswer 0 = .ok (.aload_n 0, 1) := by decide +kernel
theorem dX5_wouldAnswer_1 : decode cX5_wouldAnswer 1 = .ok (.iload_n 1, 1) := by decide +kernel
theorem dX5_wouldAnswer_2 : decode cX5_wouldAnswer 2 = .ok (.iload_n 2, 1) := by decide +kernel
theorem dX5_wouldAnswer_3 : decode cX5_wouldAnswer 3 = .ok (.invokevirtual 130, 3) := by decide +kernel
theorem dX5_wouldAnswer_6 : decode cX5_wouldAnswer 6 = .ok (.ifCond .ne 5, 3) := by decide +kernel
theorem dX5_wouldAnswer_9 : decode cX5_wouldAnswer 9 = .ok (.iconst 0, 1) := by decide +kernel
theorem dX5_wouldAnswer_10 : decode cX5_wouldAnswer 10 = .ok (.ireturn, 1) := by decide +kernel
theorem dX5_wouldAnswer_11 : decode cX5_wouldAnswer 11 = .ok (.aload_n 0, 1) := by decide +kernel
theorem dX5_wouldAnswer_12 : decode cX5_wouldAnswer 12 = .ok (.iload_n 1, 1) := by decide +kernel
theorem dX5_wouldAnswer_13 : decode cX5_wouldAnswer 13 = .ok (.invokevirtual 87, 3) := by decide +kernel
theorem dX5_wouldAnswer_16 : decode cX5_wouldAnswer 16 = .ok (.istore_n 3, 1) := by decide +kernel
theorem dX5_wouldAnswer_17 : decode cX5_wouldAnswer 17 = .ok (.aload_n 0, 1) := by decide +kernel
theorem dX5_wouldAnswer_18 : decode cX5_wouldAnswer 18 = .ok (.getfield 121, 3) := by decide +kernel
theorem dX5_wouldAnswer_21 : decode cX5_wouldAnswer 21 = .ok (.istore 4, 2) := by decide +kernel
theorem dX5_wouldAnswer_23 : decode cX5_wouldAnswer 23 = .ok (.aload_n 0, 1) := by decide +kernel
theorem dX5_wouldAnswer_24 : decode cX5_wouldAnswer 24 = .ok (.getfield 111, 3) := by decide +kernel
theorem dX5_wouldAnswer_27 : decode cX5_wouldAnswer 27 = .ok (.istore 5, 2) := by decide +kernel
theorem dX5_wouldAnswer_29 : decode cX5_wouldAnswer 29 = .ok (.aload_n 0, 1) := by decide +kernel
theorem dX5_wouldAnswer_30 : decode cX5_wouldAnswer 30 = .ok (.getfield 108, 3) := by decide +kernel
theorem dX5_wouldAnswer_33 : decode cX5_wouldAnswer 33 = .ok (.istore 6, 2) := by decide +kernel
theorem dX5_wouldAnswer_35 : decode cX5_wouldAnswer 35 = .ok (.aload_n 0, 1) := by decide +kernel
theorem dX5_wouldAnswer_36 : decode cX5_wouldAnswer 36 = .ok (.getfield 105, 3) := by decide +kernel
theorem dX5_wouldAnswer_39 : decode cX5_wouldAnswer 39 = .ok (.istore 7, 2) := by decide +kernel
theorem dX5_wouldAnswer_41 : decode cX5_wouldAnswer 41 = .ok (.iconst 0, 1) := by decide +kernel
theorem dX5_wouldAnswer_42 : decode cX5_wouldAnswer 42 = .ok (.istore 8, 2) := by decide +kernel
theorem dX5_wouldAnswer_44 : decode cX5_wouldAnswer 44 = .ok (.iload 8, 2) := by decide +kernel
theorem dX5_wouldAnswer_46 : decode cX5_wouldAnswer 46 = .ok (.bipush 16, 2) := by decide +kernel
theorem dX5_wouldAnswer_48 : decode cX5_wouldAnswer 48 = .ok (.if_icmp .ge 104, 3) := by decide +kernel
theorem dX5_wouldAnswer_51 : decode cX5_wouldAnswer 51 = .ok (.aload_n 0, 1) := by decide +kernel
theorem dX5_wouldAnswer_52 : decode cX5_wouldAnswer 52 = .ok (.getfield 44, 3) := by decide +kernel
theorem dX5_wouldAnswer_55 : decode cX5_wouldAnswer 55 = .ok (.iload 8, 2) := by decide +kernel
theorem dX5_wouldAnswer_57 : decode cX5_wouldAnswer 57 = .ok (.aload_n 0, 1) := by decide +kernel
theorem dX5_wouldAnswer_58 : decode cX5_wouldAnswer 58 = .ok (.getfield 26, 3) := by decide +kernel
theorem dX5_wouldAnswer_61 : decode cX5_wouldAnswer 61 = .ok (.bipush 16, 2) := by decide +kernel
theorem dX5_wouldAnswer_63 : decode cX5_wouldAnswer 63 = .ok (.iload_n 3, 1) := by decide +kernel
theorem dX5_wouldAnswer_64 : decode cX5_wouldAnswer 64 = .ok (.imul, 1) := by decide +kernel
theorem dX5_wouldAnswer_65 : decode cX5_wouldAnswer 65 = .ok (.iload 8, 2) := by decide +kernel
theorem dX5_wouldAnswer_67 : decode cX5_wouldAnswer 67 = .ok (.iadd, 1) := by decide +kernel
theorem dX5_wouldAnswer_68 : decode cX5_wouldAnswer 68 = .ok (.iaload, 1) := by decide +kernel
theorem dX5_wouldAnswer_69 : decode cX5_wouldAnswer 69 = .ok (.iastore, 1) := by decide +kernel
theorem dX5_wouldAnswer_70 : decode cX5_wouldAnswer 70 = .ok (.aload_n 0, 1) := by decide +kernel
theorem dX5_wouldAnswer_71 : decode cX5_wouldAnswer 71 = .ok (.getfield 47, 3) := by decide +kernel
theorem dX5_wouldAnswer_74 : decode cX5_wouldAnswer 74 = .ok (.iload 8, 2) := by decide +kernel
theorem dX5_wouldAnswer_76 : decode cX5_wouldAnswer 76 = .ok (.aload_n 0, 1) := by decide +kernel
theorem dX5_wouldAnswer_77 : decode cX5_wouldAnswer 77 = .ok (.getfield 29, 3) := by decide +kernel
theorem dX5_wouldAnswer_80 : decode cX5_wouldAnswer 80 = .ok (.bipush 16, 2) := by decide +kernel
theorem dX5_wouldAnswer_82 : decode cX5_wouldAnswer 82 = .ok (.iload_n 3, 1) := by decide +kernel
theorem dX5_wouldAnswer_83 : decode cX5_wouldAnswer 83 = .ok (.imul, 1) := by decide +kernel
theorem dX5_wouldAnswer_84 : decode cX5_wouldAnswer 84 = .ok (.iload 8, 2) := by decide +kernel
theorem dX5_wouldAnswer_86 : decode cX5_wouldAnswer 86 = .ok (.iadd, 1) := by decide +kernel
theorem dX5_wouldAnswer_87 : decode cX5_wouldAnswer 87 = .ok (.iaload, 1) := by decide +kernel
theorem dX5_wouldAnswer_88 : decode cX5_wouldAnswer 88 = .ok (.iastore, 1) := by decide +kernel
theorem dX5_wouldAnswer_89 : decode cX5_wouldAnswer 89 = .ok (.aload_n 0, 1) := by decide +kernel
theorem dX5_wouldAnswer_90 : decode cX5_wouldAnswer 90 = .ok (.getfield 50, 3) := by decide +kernel
theorem dX5_wouldAnswer_93 : decode cX5_wouldAnswer 93 = .ok (.iload 8, 2) := by decide +kernel
theorem dX5_wouldAnswer_95 : decode cX5_wouldAnswer 95 = .ok (.aload_n 0, 1) := by decide +kernel
theorem dX5_wouldAnswer_96 : decode cX5_wouldAnswer 96 = .ok (.getfield 32, 3) := by decide +kernel
theorem dX5_wouldAnswer_99 : decode cX5_wouldAnswer 99 = .ok (.bipush 16, 2) := by decide +kernel
theorem dX5_wouldAnswer_101 : decode cX5_wouldAnswer 101 = .ok (.iload_n 3, 1) := by decide +kernel
theorem dX5_wouldAnswer_102 : decode cX5_wouldAnswer 102 = .ok (.imul, 1) := by decide +kernel
theorem dX5_wouldAnswer_103 : decode cX5_wouldAnswer 103 = .ok (.iload 8, 2) := by decide +kernel
theorem dX5_wouldAnswer_105 : decode cX5_wouldAnswer 105 = .ok (.iadd, 1) := by decide +kernel
theorem dX5_wouldAnswer_106 : decode cX5_wouldAnswer 106 = .ok (.iaload, 1) := by decide +kernel
theorem dX5_wouldAnswer_107 : decode cX5_wouldAnswer 107 = .ok (.iastore, 1) := by decide +kernel
theorem dX5_wouldAnswer_108 : decode cX5_wouldAnswer 108 = .ok (.aload_n 0, 1) := by decide +kernel
theorem dX5_wouldAnswer_109 : decode cX5_wouldAnswer 109 = .ok (.getfield 53, 3) := by decide +kernel
theorem dX5_wouldAnswer_112 : decode cX5_wouldAnswer 112 = .ok (.iload 8, 2) := by decide +kernel
theorem dX5_wouldAnswer_114 : decode cX5_wouldAnswer 114 = .ok (.aload_n 0, 1) := by decide +kernel
theorem dX5_wouldAnswer_115 : decode cX5_wouldAnswer 115 = .ok (.getfield 35, 3) := by decide +kernel
theorem dX5_wouldAnswer_118 : decode cX5_wouldAnswer 118 = .ok (.bipush 16, 2) := by decide +kernel
theorem dX5_wouldAnswer_120 : decode cX5_wouldAnswer 120 = .ok (.iload_n 3, 1) := by decide +kernel
theorem dX5_wouldAnswer_121 : decode cX5_wouldAnswer 121 = .ok (.imul, 1) := by decide +kernel
theorem dX5_wouldAnswer_122 : decode cX5_wouldAnswer 122 = .ok (.iload 8, 2) := by decide +kernel
theorem dX5_wouldAnswer_124 : decode cX5_wouldAnswer 124 = .ok (.iadd, 1) := by decide +kernel
theorem dX5_wouldAnswer_125 : decode cX5_wouldAnswer 125 = .ok (.iaload, 1) := by decide +kernel
theorem dX5_wouldAnswer_126 : decode cX5_wouldAnswer 126 = .ok (.iastore, 1) := by decide +kernel
theorem dX5_wouldAnswer_127 : decode cX5_wouldAnswer 127 = .ok (.aload_n 0, 1) := by decide +kernel
theorem dX5_wouldAnswer_128 : decode cX5_wouldAnswer 128 = .ok (.getfield 56, 3) := by decide +kernel
theorem dX5_wouldAnswer_131 : decode cX5_wouldAnswer 131 = .ok (.iload 8, 2) := by decide +kernel
theorem dX5_wouldAnswer_133 : decode cX5_wouldAnswer 133 = .ok (.aload_n 0, 1) := by decide +kernel
theorem dX5_wouldAnswer_134 : decode cX5_wouldAnswer 134 = .ok (.getfield 38, 3) := by decide +kernel
theorem dX5_wouldAnswer_137 : decode cX5_wouldAnswer 137 = .ok (.bipush 16, 2) := by decide +kernel
theorem dX5_wouldAnswer_139 : decode cX5_wouldAnswer 139 = .ok (.iload_n 3, 1) := by decide +kernel
theorem dX5_wouldAnswer_140 : decode cX5_wouldAnswer 140 = .ok (.imul, 1) := by decide +kernel
theorem dX5_wouldAnswer_141 : decode cX5_wouldAnswer 141 = .ok (.iload 8, 2) := by decide +kernel
theorem dX5_wouldAnswer_143 : decode cX5_wouldAnswer 143 = .ok (.iadd, 1) := by decide +kernel
theorem dX5_wouldAnswer_144 : decode cX5_wouldAnswer 144 = .ok (.iaload, 1) := by decide +kernel
theorem dX5_wouldAnswer_145 : decode cX5_wouldAnswer 145 = .ok (.iastore, 1) := by decide +kernel
theorem dX5_wouldAnswer_146 : decode cX5_wouldAnswer 146 = .ok (.iinc 8 1, 3) := by decide +kernel
theorem dX5_wouldAnswer_149 : decode cX5_wouldAnswer 149 = .ok (.goto (-105), 3) := by decide +kernel
theorem dX5_wouldAnswer_152 : decode cX5_wouldAnswer 152 = .ok (.aload_n 0, 1) := by decide +kernel
theorem dX5_wouldAnswer_153 : decode cX5_wouldAnswer 153 = .ok (.iconst 0, 1) := by decide +kernel
theorem dX5_wouldAnswer_154 : decode cX5_wouldAnswer 154 = .ok (.putfield 114, 3) := by decide +kernel
theorem dX5_wouldAnswer_157 : decode cX5_wouldAnswer 157 = .ok (.aload_n 0, 1) := by decide +kernel
theorem dX5_wouldAnswer_158 : decode cX5_wouldAnswer 158 = .ok (.iload_n 3, 1) := by decide +kernel
theorem dX5_wouldAnswer_159 : decode cX5_wouldAnswer 159 = .ok (.iload_n 2, 1) := by decide +kernel
theorem dX5_wouldAnswer_160 : decode cX5_wouldAnswer 160 = .ok (.invokevirtual 133, 3) := by decide +kernel
theorem dX5_wouldAnswer_163 : decode cX5_wouldAnswer 163 = .ok (.istore 8, 2) := by decide +kernel
theorem dX5_wouldAnswer_165 : decode cX5_wouldAnswer 165 = .ok (.iconst 0, 1) := by decide +kernel
theorem dX5_wouldAnswer_166 : decode cX5_wouldAnswer 166 = .ok (.istore 9, 2) := by decide +kernel
theorem dX5_wouldAnswer_168 : decode cX5_wouldAnswer 168 = .ok (.iload 9, 2) := by decide +kernel
theorem dX5_wouldAnswer_170 : decode cX5_wouldAnswer 170 = .ok (.bipush 16, 2) := by decide +kernel
theorem dX5_wouldAnswer_172 : decode cX5_wouldAnswer 172 = .ok (.if_icmp .ge 104, 3) := by decide +kernel
theorem dX5_wouldAnswer_175 : decode cX5_wouldAnswer 175 = .ok (.aload_n 0, 1) := by decide +kernel
theorem dX5_wouldAnswer_176 : decode cX5_wouldAnswer 176 = .ok (.getfield 26, 3) := by decide +kernel
theorem dX5_wouldAnswer_179 : decode cX5_wouldAnswer 179 = .ok (.bipush 16, 2) := by decide +kernel
theorem dX5_wouldAnswer_181 : decode cX5_wouldAnswer 181 = .ok (.iload_n 3, 1) := by decide +kernel
theorem dX5_wouldAnswer_182 : decode cX5_wouldAnswer 182 = .ok (.imul, 1) := by decide +kernel
theorem dX5_wouldAnswer_183 : decode cX5_wouldAnswer 183 = .ok (.iload 9, 2) := by decide +kernel
theorem dX5_wouldAnswer_185 : decode cX5_wouldAnswer 185 = .ok (.iadd, 1) := by decide +kernel
theorem dX5_wouldAnswer_186 : decode cX5_wouldAnswer 186 = .ok (.aload_n 0, 1) := by decide +kernel
theorem dX5_wouldAnswer_187 : decode cX5_wouldAnswer 187 = .ok (.getfield 44, 3) := by decide +kernel
theorem dX5_wouldAnswer_190 : decode cX5_wouldAnswer 190 = .ok (.iload 9, 2) := by decide +kernel
theorem dX5_wouldAnswer_192 : decode cX5_wouldAnswer 192 = .ok (.iaload, 1) := by decide +kernel
theorem dX5_wouldAnswer_193 : decode cX5_wouldAnswer 193 = .ok (.iastore, 1) := by decide +kernel
theorem dX5_wouldAnswer_194 : decode cX5_wouldAnswer 194 = .ok (.aload_n 0, 1) := by decide +kernel
theorem dX5_wouldAnswer_195 : decode cX5_wouldAnswer 195 = .ok (.getfield 29, 3) := by decide +kernel
theorem dX5_wouldAnswer_198 : decode cX5_wouldAnswer 198 = .ok (.bipush 16, 2) := by decide +kernel
theorem dX5_wouldAnswer_200 : decode cX5_wouldAnswer 200 = .ok (.iload_n 3, 1) := by decide +kernel
theorem dX5_wouldAnswer_201 : decode cX5_wouldAnswer 201 = .ok (.imul, 1) := by decide +kernel
theorem dX5_wouldAnswer_202 : decode cX5_wouldAnswer 202 = .ok (.iload 9, 2) := by decide +kernel
theorem dX5_wouldAnswer_204 : decode cX5_wouldAnswer 204 = .ok (.iadd, 1) := by decide +kernel
theorem dX5_wouldAnswer_205 : decode cX5_wouldAnswer 205 = .ok (.aload_n 0, 1) := by decide +kernel
theorem dX5_wouldAnswer_206 : decode cX5_wouldAnswer 206 = .ok (.getfield 47, 3) := by decide +kernel
theorem dX5_wouldAnswer_209 : decode cX5_wouldAnswer 209 = .ok (.iload 9, 2) := by decide +kernel
theorem dX5_wouldAnswer_211 : decode cX5_wouldAnswer 211 = .ok (.iaload, 1) := by decide +kernel
theorem dX5_wouldAnswer_212 : decode cX5_wouldAnswer 212 = .ok (.iastore, 1) := by decide +kernel
theorem dX5_wouldAnswer_213 : decode cX5_wouldAnswer 213 = .ok (.aload_n 0, 1) := by decide +kernel
theorem dX5_wouldAnswer_214 : decode cX5_wouldAnswer 214 = .ok (.getfield 32, 3) := by decide +kernel
theorem dX5_wouldAnswer_217 : decode cX5_wouldAnswer 217 = .ok (.bipush 16, 2) := by decide +kernel
theorem dX5_wouldAnswer_219 : decode cX5_wouldAnswer 219 = .ok (.iload_n 3, 1) := by decide +kernel
theorem dX5_wouldAnswer_220 : decode cX5_wouldAnswer 220 = .ok (.imul, 1) := by decide +kernel
theorem dX5_wouldAnswer_221 : decode cX5_wouldAnswer 221 = .ok (.iload 9, 2) := by decide +kernel
theorem dX5_wouldAnswer_223 : decode cX5_wouldAnswer 223 = .ok (.iadd, 1) := by decide +kernel
theorem dX5_wouldAnswer_224 : decode cX5_wouldAnswer 224 = .ok (.aload_n 0, 1) := by decide +kernel
theorem dX5_wouldAnswer_225 : decode cX5_wouldAnswer 225 = .ok (.getfield 50, 3) := by decide +kernel
theorem dX5_wouldAnswer_228 : decode cX5_wouldAnswer 228 = .ok (.iload 9, 2) := by decide +kernel
theorem dX5_wouldAnswer_230 : decode cX5_wouldAnswer 230 = .ok (.iaload, 1) := by decide +kernel
theorem dX5_wouldAnswer_231 : decode cX5_wouldAnswer 231 = .ok (.iastore, 1) := by decide +kernel
theorem dX5_wouldAnswer_232 : decode cX5_wouldAnswer 232 = .ok (.aload_n 0, 1) := by decide +kernel
theorem dX5_wouldAnswer_233 : decode cX5_wouldAnswer 233 = .ok (.getfield 35, 3) := by decide +kernel
theorem dX5_wouldAnswer_236 : decode cX5_wouldAnswer 236 = .ok (.bipush 16, 2) := by decide +kernel
theorem dX5_wouldAnswer_238 : decode cX5_wouldAnswer 238 = .ok (.iload_n 3, 1) := by decide +kernel
theorem dX5_wouldAnswer_239 : decode cX5_wouldAnswer 239 = .ok (.imul, 1) := by decide +kernel
theorem dX5_wouldAnswer_240 : decode cX5_wouldAnswer 240 = .ok (.iload 9, 2) := by decide +kernel
theorem dX5_wouldAnswer_242 : decode cX5_wouldAnswer 242 = .ok (.iadd, 1) := by decide +kernel
theorem dX5_wouldAnswer_243 : decode cX5_wouldAnswer 243 = .ok (.aload_n 0, 1) := by decide +kernel
theorem dX5_wouldAnswer_244 : decode cX5_wouldAnswer 244 = .ok (.getfield 53, 3) := by decide +kernel
theorem dX5_wouldAnswer_247 : decode cX5_wouldAnswer 247 = .ok (.iload 9, 2) := by decide +kernel
theorem dX5_wouldAnswer_249 : decode cX5_wouldAnswer 249 = .ok (.iaload, 1) := by decide +kernel
theorem dX5_wouldAnswer_250 : decode cX5_wouldAnswer 250 = .ok (.iastore, 1) := by decide +kernel
theorem dX5_wouldAnswer_251 : decode cX5_wouldAnswer 251 = .ok (.aload_n 0, 1) := by decide +kernel
theorem dX5_wouldAnswer_252 : decode cX5_wouldAnswer 252 = .ok (.getfield 38, 3) := by decide +kernel
theorem dX5_wouldAnswer_255 : decode cX5_wouldAnswer 255 = .ok (.bipush 16, 2) := by decide +kernel
theorem dX5_wouldAnswer_257 : decode cX5_wouldAnswer 257 = .ok (.iload_n 3, 1) := by decide +kernel
theorem dX5_wouldAnswer_258 : decode cX5_wouldAnswer 258 = .ok (.imul, 1) := by decide +kernel
theorem dX5_wouldAnswer_259 : decode cX5_wouldAnswer 259 = .ok (.iload 9, 2) := by decide +kernel
theorem dX5_wouldAnswer_261 : decode cX5_wouldAnswer 261 = .ok (.iadd, 1) := by decide +kernel
theorem dX5_wouldAnswer_262 : decode cX5_wouldAnswer 262 = .ok (.aload_n 0, 1) := by decide +kernel
theorem dX5_wouldAnswer_263 : decode cX5_wouldAnswer 263 = .ok (.getfield 56, 3) := by decide +kernel
theorem dX5_wouldAnswer_266 : decode cX5_wouldAnswer 266 = .ok (.iload 9, 2) := by decide +kernel
theorem dX5_wouldAnswer_268 : decode cX5_wouldAnswer 268 = .ok (.iaload, 1) := by decide +kernel
theorem dX5_wouldAnswer_269 : decode cX5_wouldAnswer 269 = .ok (.iastore, 1) := by decide +kernel
theorem dX5_wouldAnswer_270 : decode cX5_wouldAnswer 270 = .ok (.iinc 9 1, 3) := by decide +kernel
theorem dX5_wouldAnswer_273 : decode cX5_wouldAnswer 273 = .ok (.goto (-105), 3) := by decide +kernel
theorem dX5_wouldAnswer_276 : decode cX5_wouldAnswer 276 = .ok (.aload_n 0, 1) := by decide +kernel
theorem dX5_wouldAnswer_277 : decode cX5_wouldAnswer 277 = .ok (.iload 4, 2) := by decide +kernel
theorem dX5_wouldAnswer_279 : decode cX5_wouldAnswer 279 = .ok (.putfield 121, 3) := by decide +kernel
theorem dX5_wouldAnswer_282 : decode cX5_wouldAnswer 282 = .ok (.aload_n 0, 1) := by decide +kernel
theorem dX5_wouldAnswer_283 : decode cX5_wouldAnswer 283 = .ok (.iload 5, 2) := by decide +kernel
theorem dX5_wouldAnswer_285 : decode cX5_wouldAnswer 285 = .ok (.putfield 111, 3) := by decide +kernel
theorem dX5_wouldAnswer_288 : decode cX5_wouldAnswer 288 = .ok (.aload_n 0, 1) := by decide +kernel
theorem dX5_wouldAnswer_289 : decode cX5_wouldAnswer 289 = .ok (.iload 6, 2) := by decide +kernel
theorem dX5_wouldAnswer_291 : decode cX5_wouldAnswer 291 = .ok (.putfield 108, 3) := by decide +kernel
theorem dX5_wouldAnswer_294 : decode cX5_wouldAnswer 294 = .ok (.aload_n 0, 1) := by decide +kernel
theorem dX5_wouldAnswer_295 : decode cX5_wouldAnswer 295 = .ok (.iload 7, 2) := by decide +kernel
theorem dX5_wouldAnswer_297 : decode cX5_wouldAnswer 297 = .ok (.putfield 105, 3) := by decide +kernel
theorem dX5_wouldAnswer_300 : decode cX5_wouldAnswer 300 = .ok (.iload 8, 2) := by decide +kernel
theorem dX5_wouldAnswer_302 : decode cX5_wouldAnswer 302 = .ok (.ireturn, 1) := by decide +kernel
theorem dX5_lastSite_0 : decode cX5_lastSite 0 = .ok (.aload_n 0, 1) := by decide +kernel
theorem dX5_lastSite_1 : decode cX5_lastSite 1 = .ok (.iconst 0, 1) := by decide +kernel
theorem dX5_lastSite_2 : decode cX5_lastSite 2 = .ok (.putfield 70, 3) := by decide +kernel
theorem dX5_lastSite_5 : decode cX5_lastSite 5 = .ok (.aload_n 0, 1) := by decide +kernel
theorem dX5_lastSite_6 : decode cX5_lastSite 6 = .ok (.getfield 67, 3) := by decide +kernel
theorem dX5_lastSite_9 : decode cX5_lastSite 9 = .ok (.ireturn, 1) := by decide +kernel
theorem dX5_lastWasStale_0 : decode cX5_lastWasStale 0 = .ok (.aload_n 0, 1) := by decide +kernel
theorem dX5_lastWasStale_1 : decode cX5_lastWasStale 1 = .ok (.iconst 0, 1) := by decide +kernel
theorem dX5_lastWasStale_2 : decode cX5_lastWasStale 2 = .ok (.putfield 70, 3) := by decide +kernel
theorem dX5_lastWasStale_5 : decode cX5_lastWasStale 5 = .ok (.aload_n 0, 1) := by decide +kernel
theorem dX5_lastWasStale_6 : decode cX5_lastWasStale 6 = .ok (.getfield 121, 3) := by decide +kernel
theorem dX5_lastWasStale_9 : decode cX5_lastWasStale 9 = .ok (.ireturn, 1) := by decide +kernel
theorem dX5_lastLookUps_0 : decode cX5_lastLookUps 0 = .ok (.aload_n 0, 1) := by decide +kernel
theorem dX5_lastLookUps_1 : decode cX5_lastLookUps 1 = .ok (.iconst 0, 1) := by decide +kernel
theorem dX5_lastLookUps_2 : decode cX5_lastLookUps 2 = .ok (.putfield 70, 3) := by decide +kernel
theorem dX5_lastLookUps_5 : decode cX5_lastLookUps 5 = .ok (.aload_n 0, 1) := by decide +kernel
theorem dX5_lastLookUps_6 : decode cX5_lastLookUps 6 = .ok (.getfield 111, 3) := by decide +kernel
theorem dX5_lastLookUps_9 : decode cX5_lastLookUps 9 = .ok (.ireturn, 1) := by decide +kernel
theorem dX5_lastFetches_0 : decode cX5_lastFetches 0 = .ok (.aload_n 0, 1) := by decide +kernel
theorem dX5_lastFetches_1 : decode cX5_lastFetches 1 = .ok (.iconst 0, 1) := by decide +kernel
theorem dX5_lastFetches_2 : decode cX5_lastFetches 2 = .ok (.putfield 70, 3) := by decide +kernel
theorem dX5_lastFetches_5 : decode cX5_lastFetches 5 = .ok (.aload_n 0, 1) := by decide +kernel
theorem dX5_lastFetches_6 : decode cX5_lastFetches 6 = .ok (.getfield 108, 3) := by decide +kernel
theorem dX5_lastFetches_9 : decode cX5_lastFetches 9 = .ok (.ireturn, 1) := by decide +kernel
set_option maxRecDepth 20000 in
theorem ggX5_entries_X5_isSite : GoodIn wsX5_entries wsX5_isSite := goodIn_r _ [6, 7, 8, 9, 5, 10, 16, 17, 18, 19, 20, 21, 22, 23, 24, 25, 26, 27, 28, 29, 30, 31, 32, 33, 34, 35, 36, 37, 38, 39, 40, 41, 42, 43, 44, 45, 46] (by decide +kernel) (by decide +kernel)
set_option maxRecDepth 20000 in
theorem gX5_entries_X5_isSite : GoodIn wsX5_entries (wsV RX5 84 RX5 yX5_isSite wsX5_isSite) := goodIn_app (goodIn_of _ (by decide +kernel)) ggX5_entries_X5_isSite
set_option maxRecDepth 20000 in
theorem ggX5_entries_X5_size : GoodIn wsX5_entries wsX5_size := goodIn_r _ [14, 15, 16, 17, 18, 19, 20, 21, 22, 23, 24, 25, 26, 27, 28, 29, 30, 31, 32, 33, 34, 35, 36, 37, 38, 39, 40, 41, 42, 43, 44, 45, 46] (by decide +kernel) (by decide +kernel)
set_option maxRecDepth 20000 in
theorem gX5_entries_X5_size : GoodIn wsX5_entries (wsV RX5 98 RX5 yX5_size wsX5_size) := goodIn_app (goodIn_of _ (by decide +kernel)) ggX5_entries_X5_size
theorem dX5_entries_0 : decode cX5_entries 0 = .ok (.aload_n 0, 1) := by decide +kernel
theorem dX5_entries_1 : decode cX5_entries 1 = .ok (.aload_n 0, 1) := by decide +kernel
theorem dX5_entries_2 : decode cX5_entries 2 = .ok (.iload_n 1, 1) := by decide +kernel
theorem dX5_entries_3 : decode cX5_entries 3 = .ok (.invokevirtual 84, 3) := by decide +kernel
theorem dX5_entries_6 : decode cX5_entries 6 = .ok (.ifCond .eq 7, 3) := by decide +kernel
theorem dX5_entries_9 : decode cX5_entries 9 = .ok (.iconst 0, 1) := by decide +kernel
theorem dX5_entries_10 : decode cX5_entries 10 = .ok (.goto 4, 3) := by decide +kernel
theorem dX5_entries_13 : decode cX5_entries 13 = .ok (.iconst 1, 1) := by decide +kernel
theorem dX5_entries_14 : decode cX5_entries 14 = .ok (.putfield 70, 3) := by decide +kernel
theorem dX5_entries_17 : decode cX5_entries 17 = .ok (.aload_n 0, 1) := by decide +kernel
theorem dX5_entries_18 : decode cX5_entries 18 = .ok (.getfield 70, 3) := by decide +kernel
theorem dX5_entries_21 : decode cX5_entries 21 = .ok (.ifCond .ne 11, 3) := by decide +kernel
theorem dX5_entries_24 : decode cX5_entries 24 = .ok (.aload_n 0, 1) := by decide +kernel
theorem dX5_entries_25 : decode cX5_entries 25 = .ok (.iload_n 1, 1) := by decide +kernel
theorem dX5_entries_26 : decode cX5_entries 26 = .ok (.invokevirtual 98, 3) := by decide +kernel
theorem dX5_entries_29 : decode cX5_entries 29 = .ok (.goto 4, 3) := by decide +kernel
theorem dX5_entries_32 : decode cX5_entries 32 = .ok (.iconst 0, 1) := by decide +kernel
theorem dX5_entries_33 : decode cX5_entries 33 = .ok (.ireturn, 1) := by decide +kernel
set_option maxRecDepth 20000 in
theorem ggX5_cachedKind_X5_isEntry : GoodIn wsX5_cachedKind wsX5_isEntry := goodIn_r _ [6, 7, 8, 9, 10, 5, 11, 12, 13, 14, 15, 16, 17, 18, 19, 20, 21, 22, 23, 24, 25, 26, 27, 28, 29, 30, 31, 32, 33, 34, 35, 36, 37, 38, 39, 40, 41, 42, 43, 44, 45, 46, 47, 48, 49] (by decide +kernel) (by decide +kernel)
set_option maxRecDepth 20000 in
theorem gX5_cachedKind_X5_isEntry : GoodIn wsX5_cachedKind (wsV RX5 91 RX5 yX5_isEntry wsX5_isEntry) := goodIn_app (goodIn_of _ (by decide +kernel)) ggX5_cachedKind_X5_isEntry
theorem dX5_cachedKind_0 : decode cX5_cachedKind 0 = .ok (.aload_n 0, 1) := by decide +kernel
theorem dX5_cachedKind_1 : decode cX5_cachedKind 1 = .ok (.iload_n 1, 1) := by decide +kernel
theorem dX5_cachedKind_2 : decode cX5_cachedKind 2 = .ok (.iload_n 2, 1) := by decide +kernel
theorem dX5_cachedKind_3 : decode cX5_cachedKind 3 = .ok (.invokevirtual 91, 3) := by decide +kernel
theorem dX5_cachedKind_6 : decode cX5_cachedKind 6 = .ok (.ifCond .eq 17, 3) := by decide +kernel
theorem dX5_cachedKind_9 : decode cX5_cachedKind 9 = .ok (.aload_n 0, 1) := by decide +kernel
theorem dX5_cachedKind_10 : decode cX5_cachedKind 10 = .ok (.getfield 26, 3) := by decide +kernel
theorem dX5_cachedKind_13 : decode cX5_cachedKind 13 = .ok (.bipush 16, 2) := by decide +kernel
theorem dX5_cachedKind_15 : decode cX5_cachedKind 15 = .ok (.iload_n 1, 1) := by decide +kernel
theorem dX5_cachedKind_16 : decode cX5_cachedKind 16 = .ok (.imul, 1) := by decide +kernel
theorem dX5_cachedKind_17 : decode cX5_cachedKind 17 = .ok (.iload_n 2, 1) := by decide +kernel
theorem dX5_cachedKind_18 : decode cX5_cachedKind 18 = .ok (.iadd, 1) := by decide +kernel
theorem dX5_cachedKind_19 : decode cX5_cachedKind 19 = .ok (.iaload, 1) := by decide +kernel
theorem dX5_cachedKind_20 : decode cX5_cachedKind 20 = .ok (.goto 4, 3) := by decide +kernel
theorem dX5_cachedKind_23 : decode cX5_cachedKind 23 = .ok (.iconst 0, 1) := by decide +kernel
theorem dX5_cachedKind_24 : decode cX5_cachedKind 24 = .ok (.ireturn, 1) := by decide +kernel
set_option maxRecDepth 20000 in
theorem ggX5_cachedValue_X5_isEntry : GoodIn wsX5_cachedValue wsX5_isEntry := goodIn_r _ [7, 8, 9, 10, 11, 6, 12, 13, 14, 15, 16, 17, 18, 19, 20, 21, 22, 23, 24, 25, 26, 27, 28, 29, 30, 31, 32, 33, 34, 35, 36, 37, 38, 39, 40, 41, 42, 43, 44, 45, 46, 47, 48, 49, 50] (by decide +kernel) (by decide +kernel)
set_option maxRecDepth 20000 in
theorem gX5_cachedValue_X5_isEntry : GoodIn wsX5_cachedValue (wsV RX5 91 RX5 yX5_isEntry wsX5_isEntry) := goodIn_app (goodIn_of _ (by decide +kernel)) ggX5_cachedValue_X5_isEntry
theorem dX5_cachedValue_0 : decode cX5_cachedValue 0 = .ok (.aload_n 0, 1) := by decide +kernel
theorem dX5_cachedValue_1 : decode cX5_cachedValue 1 = .ok (.iload_n 1, 1) := by decide +kernel
theorem dX5_cachedValue_2 : decode cX5_cachedValue 2 = .ok (.iload_n 2, 1) := by decide +kernel
theorem dX5_cachedValue_3 : decode cX5_cachedValue 3 = .ok (.invokevirtual 91, 3) := by decide +kernel
theorem dX5_cachedValue_6 : decode cX5_cachedValue 6 = .ok (.ifCond .ne 5, 3) := by decide +kernel
theorem dX5_cachedValue_9 : decode cX5_cachedValue 9 = .ok (.iconst 0, 1) := by decide +kernel
theorem dX5_cachedValue_10 : decode cX5_cachedValue 10 = .ok (.ireturn, 1) := by decide +kernel
theorem dX5_cachedValue_11 : decode cX5_cachedValue 11 = .ok (.bipush 16, 2) := by decide +kernel
theorem dX5_cachedValue_13 : decode cX5_cachedValue 13 = .ok (.iload_n 1, 1) := by decide +kernel
theorem dX5_cachedValue_14 : decode cX5_cachedValue 14 = .ok (.imul, 1) := by decide +kernel
theorem dX5_cachedValue_15 : decode cX5_cachedValue 15 = .ok (.iload_n 2, 1) := by decide +kernel
theorem dX5_cachedValue_16 : decode cX5_cachedValue 16 = .ok (.iadd, 1) := by decide +kernel
theorem dX5_cachedValue_17 : decode cX5_cachedValue 17 = .ok (.istore_n 3, 1) := by decide +kernel
theorem dX5_cachedValue_18 : decode cX5_cachedValue 18 = .ok (.aload_n 0, 1) := by decide +kernel
theorem dX5_cachedValue_19 : decode cX5_cachedValue 19 = .ok (.getfield 26, 3) := by decide +kernel
theorem dX5_cachedValue_22 : decode cX5_cachedValue 22 = .ok (.iload_n 3, 1) := by decide +kernel
theorem dX5_cachedValue_23 : decode cX5_cachedValue 23 = .ok (.iaload, 1) := by decide +kernel
theorem dX5_cachedValue_24 : decode cX5_cachedValue 24 = .ok (.ifCond .eq 13, 3) := by decide +kernel
theorem dX5_cachedValue_27 : decode cX5_cachedValue 27 = .ok (.aload_n 0, 1) := by decide +kernel
theorem dX5_cachedValue_28 : decode cX5_cachedValue 28 = .ok (.getfield 26, 3) := by decide +kernel
theorem dX5_cachedValue_31 : decode cX5_cachedValue 31 = .ok (.iload_n 3, 1) := by decide +kernel
theorem dX5_cachedValue_32 : decode cX5_cachedValue 32 = .ok (.iaload, 1) := by decide +kernel
theorem dX5_cachedValue_33 : decode cX5_cachedValue 33 = .ok (.iconst 1, 1) := by decide +kernel
theorem dX5_cachedValue_34 : decode cX5_cachedValue 34 = .ok (.if_icmp .ne 12, 3) := by decide +kernel
theorem dX5_cachedValue_37 : decode cX5_cachedValue 37 = .ok (.aload_n 0, 1) := by decide +kernel
theorem dX5_cachedValue_38 : decode cX5_cachedValue 38 = .ok (.getfield 29, 3) := by decide +kernel
theorem dX5_cachedValue_41 : decode cX5_cachedValue 41 = .ok (.iload_n 3, 1) := by decide +kernel
theorem dX5_cachedValue_42 : decode cX5_cachedValue 42 = .ok (.iaload, 1) := by decide +kernel
theorem dX5_cachedValue_43 : decode cX5_cachedValue 43 = .ok (.goto 5, 3) := by decide +kernel
theorem dX5_cachedValue_46 : decode cX5_cachedValue 46 = .ok (.bipush (-3), 2) := by decide +kernel
theorem dX5_cachedValue_48 : decode cX5_cachedValue 48 = .ok (.ireturn, 1) := by decide +kernel
set_option maxRecDepth 20000 in
theorem ggX5_left_X5_isEntry : GoodIn wsX5_left wsX5_isEntry := goodIn_r _ [9, 2, 10, 11, 12, 8, 13, 14, 15, 16, 17, 18, 19, 20, 21, 22, 23, 24, 25, 26, 27, 28, 29, 30, 31, 32, 33, 34, 35, 36, 37, 38, 39, 40, 41, 42, 43, 44, 45, 46, 47, 48, 49, 50, 51] (by decide +kernel) (by decide +kernel)
set_option maxRecDepth 20000 in
theorem gX5_left_X5_isEntry : GoodIn wsX5_left (wsV RX5 91 RX5 yX5_isEntry wsX5_isEntry) := goodIn_app (goodIn_of _ (by decide +kernel)) ggX5_left_X5_isEntry
theorem dX5_left_0 : decode cX5_left 0 = .ok (.aload_n 0, 1) := by decide +kernel
theorem dX5_left_1 : decode cX5_left 1 = .ok (.iload_n 1, 1) := by decide +kernel
theorem dX5_left_2 : decode cX5_left 2 = .ok (.iload_n 2, 1) := by decide +kernel
theorem dX5_left_3 : decode cX5_left 3 = .ok (.invokevirtual 91, 3) := by decide +kernel
theorem dX5_left_6 : decode cX5_left 6 = .ok (.ifCond .ne 5, 3) := by decide +kernel
theorem dX5_left_9 : decode cX5_left 9 = .ok (.iconst 0, 1) := by decide +kernel
theorem dX5_left_10 : decode cX5_left 10 = .ok (.ireturn, 1) := by decide +kernel
theorem dX5_left_11 : decode cX5_left 11 = .ok (.bipush 16, 2) := by decide +kernel
theorem dX5_left_13 : decode cX5_left 13 = .ok (.iload_n 1, 1) := by decide +kernel
theorem dX5_left_14 : decode cX5_left 14 = .ok (.imul, 1) := by decide +kernel
theorem dX5_left_15 : decode cX5_left 15 = .ok (.iload_n 2, 1) := by decide +kernel
theorem dX5_left_16 : decode cX5_left 16 = .ok (.iadd, 1) := by decide +kernel
theorem dX5_left_17 : decode cX5_left 17 = .ok (.istore_n 3, 1) := by decide +kernel
theorem dX5_left_18 : decode cX5_left 18 = .ok (.aload_n 0, 1) := by decide +kernel
theorem dX5_left_19 : decode cX5_left 19 = .ok (.aload_n 0, 1) := by decide +kernel
theorem dX5_left_20 : decode cX5_left 20 = .ok (.getfield 26, 3) := by decide +kernel
theorem dX5_left_23 : decode cX5_left 23 = .ok (.iload_n 3, 1) := by decide +kernel
theorem dX5_left_24 : decode cX5_left 24 = .ok (.iaload, 1) := by decide +kernel
theorem dX5_left_25 : decode cX5_left 25 = .ok (.iconst 3, 1) := by decide +kernel
theorem dX5_left_26 : decode cX5_left 26 = .ok (.if_icmp .ne 7, 3) := by decide +kernel
theorem dX5_left_29 : decode cX5_left 29 = .ok (.iconst 2, 1) := by decide +kernel
theorem dX5_left_30 : decode cX5_left 30 = .ok (.goto 4, 3) := by decide +kernel
theorem dX5_left_33 : decode cX5_left 33 = .ok (.iconst 0, 1) := by decide +kernel
theorem dX5_left_34 : decode cX5_left 34 = .ok (.putfield 70, 3) := by decide +kernel
theorem dX5_left_37 : decode cX5_left 37 = .ok (.aload_n 0, 1) := by decide +kernel
theorem dX5_left_38 : decode cX5_left 38 = .ok (.getfield 70, 3) := by decide +kernel
theorem dX5_left_41 : decode cX5_left 41 = .ok (.ifCond .ne 17, 3) := by decide +kernel
theorem dX5_left_44 : decode cX5_left 44 = .ok (.aload_n 0, 1) := by decide +kernel
theorem dX5_left_45 : decode cX5_left 45 = .ok (.getfield 35, 3) := by decide +kernel
theorem dX5_left_48 : decode cX5_left 48 = .ok (.iload_n 3, 1) := by decide +kernel
theorem dX5_left_49 : decode cX5_left 49 = .ok (.iaload, 1) := by decide +kernel
theorem dX5_left_50 : decode cX5_left 50 = .ok (.aload_n 0, 1) := by decide +kernel
theorem dX5_left_51 : decode cX5_left 51 = .ok (.getfield 95, 3) := by decide +kernel
theorem dX5_left_54 : decode cX5_left 54 = .ok (.isub, 1) := by decide +kernel
theorem dX5_left_55 : decode cX5_left 55 = .ok (.goto 4, 3) := by decide +kernel
theorem dX5_left_58 : decode cX5_left 58 = .ok (.iconst 0, 1) := by decide +kernel
theorem dX5_left_59 : decode cX5_left 59 = .ok (.ireturn, 1) := by decide +kernel
set_option maxRecDepth 20000 in
theorem ggX5_hitsOf_X5_isEntry : GoodIn wsX5_hitsOf wsX5_isEntry := goodIn_r _ [7, 8, 9, 10, 11, 6, 12, 13, 14, 15, 16, 17, 18, 19, 20, 21, 22, 23, 24, 25, 26, 27, 28, 29, 30, 31, 32, 33, 34, 35, 36, 37, 38, 39, 40, 41, 42, 43, 44, 45, 46, 47, 48, 49, 50] (by decide +kernel) (by decide +kernel)
set_option maxRecDepth 20000 in
theorem gX5_hitsOf_X5_isEntry : GoodIn wsX5_hitsOf (wsV RX5 91 RX5 yX5_isEntry wsX5_isEntry) := goodIn_app (goodIn_of _ (by decide +kernel)) ggX5_hitsOf_X5_isEntry
theorem dX5_hitsOf_0 : decode cX5_hitsOf 0 = .ok (.aload_n 0, 1) := by decide +kernel
theorem dX5_hitsOf_1 : decode cX5_hitsOf 1 = .ok (.iload_n 1, 1) := by decide +kernel
theorem dX5_hitsOf_2 : decode cX5_hitsOf 2 = .ok (.iload_n 2, 1) := by decide +kernel
theorem dX5_hitsOf_3 : decode cX5_hitsOf 3 = .ok (.invokevirtual 91, 3) := by decide +kernel
theorem dX5_hitsOf_6 : decode cX5_hitsOf 6 = .ok (.ifCond .eq 32, 3) := by decide +kernel
theorem dX5_hitsOf_9 : decode cX5_hitsOf 9 = .ok (.aload_n 0, 1) := by decide +kernel
theorem dX5_hitsOf_10 : decode cX5_hitsOf 10 = .ok (.getfield 26, 3) := by decide +kernel
theorem dX5_hitsOf_13 : decode cX5_hitsOf 13 = .ok (.bipush 16, 2) := by decide +kernel
theorem dX5_hitsOf_15 : decode cX5_hitsOf 15 = .ok (.iload_n 1, 1) := by decide +kernel
theorem dX5_hitsOf_16 : decode cX5_hitsOf 16 = .ok (.imul, 1) := by decide +kernel
theorem dX5_hitsOf_17 : decode cX5_hitsOf 17 = .ok (.iload_n 2, 1) := by decide +kernel
theorem dX5_hitsOf_18 : decode cX5_hitsOf 18 = .ok (.iadd, 1) := by decide +kernel
theorem dX5_hitsOf_19 : decode cX5_hitsOf 19 = .ok (.iaload, 1) := by decide +kernel
theorem dX5_hitsOf_20 : decode cX5_hitsOf 20 = .ok (.iconst 3, 1) := by decide +kernel
theorem dX5_hitsOf_21 : decode cX5_hitsOf 21 = .ok (.if_icmp .eq 17, 3) := by decide +kernel
theorem dX5_hitsOf_24 : decode cX5_hitsOf 24 = .ok (.aload_n 0, 1) := by decide +kernel
theorem dX5_hitsOf_25 : decode cX5_hitsOf 25 = .ok (.getfield 38, 3) := by decide +kernel
theorem dX5_hitsOf_28 : decode cX5_hitsOf 28 = .ok (.bipush 16, 2) := by decide +kernel
theorem dX5_hitsOf_30 : decode cX5_hitsOf 30 = .ok (.iload_n 1, 1) := by decide +kernel
theorem dX5_hitsOf_31 : decode cX5_hitsOf 31 = .ok (.imul, 1) := by decide +kernel
theorem dX5_hitsOf_32 : decode cX5_hitsOf 32 = .ok (.iload_n 2, 1) := by decide +kernel
theorem dX5_hitsOf_33 : decode cX5_hitsOf 33 = .ok (.iadd, 1) := by decide +kernel
theorem dX5_hitsOf_34 : decode cX5_hitsOf 34 = .ok (.iaload, 1) := by decide +kernel
theorem dX5_hitsOf_35 : decode cX5_hitsOf 35 = .ok (.goto 4, 3) := by decide +kernel
theorem dX5_hitsOf_38 : decode cX5_hitsOf 38 = .ok (.iconst 0, 1) := by decide +kernel
theorem dX5_hitsOf_39 : decode cX5_hitsOf 39 = .ok (.ireturn, 1) := by decide +kernel
theorem dX5_queries_0 : decode cX5_queries 0 = .ok (.aload_n 0, 1) := by decide +kernel
theorem dX5_queries_1 : decode cX5_queries 1 = .ok (.iconst 0, 1) := by decide +kernel
theorem dX5_queries_2 : decode cX5_queries 2 = .ok (.putfield 70, 3) := by decide +kernel
theorem dX5_queries_5 : decode cX5_queries 5 = .ok (.aload_n 0, 1) := by decide +kernel
theorem dX5_queries_6 : decode cX5_queries 6 = .ok (.getfield 140, 3) := by decide +kernel
theorem dX5_queries_9 : decode cX5_queries 9 = .ok (.ireturn, 1) := by decide +kernel
theorem dX5_fetches_0 : decode cX5_fetches 0 = .ok (.aload_n 0, 1) := by decide +kernel
theorem dX5_fetches_1 : decode cX5_fetches 1 = .ok (.iconst 0, 1) := by decide +kernel
theorem dX5_fetches_2 : decode cX5_fetches 2 = .ok (.putfield 70, 3) := by decide +kernel
theorem dX5_fetches_5 : decode cX5_fetches 5 = .ok (.aload_n 0, 1) := by decide +kernel
theorem dX5_fetches_6 : decode cX5_fetches 6 = .ok (.getfield 105, 3) := by decide +kernel
theorem dX5_fetches_9 : decode cX5_fetches 9 = .ok (.ireturn, 1) := by decide +kernel
theorem dX5_prefetches_0 : decode cX5_prefetches 0 = .ok (.aload_n 0, 1) := by decide +kernel
theorem dX5_prefetches_1 : decode cX5_prefetches 1 = .ok (.iconst 0, 1) := by decide +kernel
theorem dX5_prefetches_2 : decode cX5_prefetches 2 = .ok (.putfield 70, 3) := by decide +kernel
theorem dX5_prefetches_5 : decode cX5_prefetches 5 = .ok (.aload_n 0, 1) := by decide +kernel
theorem dX5_prefetches_6 : decode cX5_prefetches 6 = .ok (.getfield 127, 3) := by decide +kernel
theorem dX5_prefetches_9 : decode cX5_prefetches 9 = .ok (.ireturn, 1) := by decide +kernel
theorem dX5_staleAnswers_0 : decode cX5_staleAnswers 0 = .ok (.aload_n 0, 1) := by decide +kernel
theorem dX5_staleAnswers_1 : decode cX5_staleAnswers 1 = .ok (.iconst 0, 1) := by decide +kernel
theorem dX5_staleAnswers_2 : decode cX5_staleAnswers 2 = .ok (.putfield 70, 3) := by decide +kernel
theorem dX5_staleAnswers_5 : decode cX5_staleAnswers 5 = .ok (.aload_n 0, 1) := by decide +kernel
theorem dX5_staleAnswers_6 : decode cX5_staleAnswers 6 = .ok (.getfield 143, 3) := by decide +kernel
theorem dX5_staleAnswers_9 : decode cX5_staleAnswers 9 = .ok (.ireturn, 1) := by decide +kernel
theorem dX5_failures_0 : decode cX5_failures 0 = .ok (.aload_n 0, 1) := by decide +kernel
theorem dX5_failures_1 : decode cX5_failures 1 = .ok (.iconst 0, 1) := by decide +kernel
theorem dX5_failures_2 : decode cX5_failures 2 = .ok (.putfield 70, 3) := by decide +kernel
theorem dX5_failures_5 : decode cX5_failures 5 = .ok (.aload_n 0, 1) := by decide +kernel
theorem dX5_failures_6 : decode cX5_failures 6 = .ok (.getfield 146, 3) := by decide +kernel
theorem dX5_failures_9 : decode cX5_failures 9 = .ok (.ireturn, 1) := by decide +kernel
theorem dJ9_abs_0f7a4_0 : decode cJ9_abs_0f7a4 0 = .ok (.iload_n 0, 1) := by decide +kernel
theorem dJ9_abs_0f7a4_1 : decode cJ9_abs_0f7a4 1 = .ok (.ifCond .ge 8, 3) := by decide +kernel
theorem dJ9_abs_0f7a4_4 : decode cJ9_abs_0f7a4 4 = .ok (.iload_n 0, 1) := by decide +kernel
theorem dJ9_abs_0f7a4_5 : decode cJ9_abs_0f7a4 5 = .ok (.ineg, 1) := by decide +kernel
theorem dJ9_abs_0f7a4_6 : decode cJ9_abs_0f7a4 6 = .ok (.goto 4, 3) := by decide +kernel
theorem dJ9_abs_0f7a4_9 : decode cJ9_abs_0f7a4 9 = .ok (.iload_n 0, 1) := by decide +kernel
theorem dJ9_abs_0f7a4_10 : decode cJ9_abs_0f7a4 10 = .ok (.ireturn, 1) := by decide +kernel
theorem dJ7_fill_53178_0 : decode cJ7_fill_53178 0 = .ok (.iconst 0, 1) := by decide +kernel
theorem dJ7_fill_53178_1 : decode cJ7_fill_53178 1 = .ok (.istore_n 2, 1) := by decide +kernel
theorem dJ7_fill_53178_2 : decode cJ7_fill_53178 2 = .ok (.aload_n 0, 1) := by decide +kernel
theorem dJ7_fill_53178_3 : decode cJ7_fill_53178 3 = .ok (.arraylength, 1) := by decide +kernel
theorem dJ7_fill_53178_4 : decode cJ7_fill_53178 4 = .ok (.istore_n 3, 1) := by decide +kernel
theorem dJ7_fill_53178_5 : decode cJ7_fill_53178 5 = .ok (.iload_n 2, 1) := by decide +kernel
theorem dJ7_fill_53178_6 : decode cJ7_fill_53178 6 = .ok (.iload_n 3, 1) := by decide +kernel
theorem dJ7_fill_53178_7 : decode cJ7_fill_53178 7 = .ok (.if_icmp .ge 13, 3) := by decide +kernel
theorem dJ7_fill_53178_10 : decode cJ7_fill_53178 10 = .ok (.aload_n 0, 1) := by decide +kernel
theorem dJ7_fill_53178_11 : decode cJ7_fill_53178 11 = .ok (.iload_n 2, 1) := by decide +kernel
theorem dJ7_fill_53178_12 : decode cJ7_fill_53178 12 = .ok (.iload_n 1, 1) := by decide +kernel
theorem dJ7_fill_53178_13 : decode cJ7_fill_53178 13 = .ok (.iastore, 1) := by decide +kernel
theorem dJ7_fill_53178_14 : decode cJ7_fill_53178 14 = .ok (.iinc 2 1, 3) := by decide +kernel
theorem dJ7_fill_53178_17 : decode cJ7_fill_53178 17 = .ok (.goto (-12), 3) := by decide +kernel
theorem dJ7_fill_53178_20 : decode cJ7_fill_53178 20 = .ok (.return_, 1) := by decide +kernel
