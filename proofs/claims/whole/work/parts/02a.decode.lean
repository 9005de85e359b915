theorem dX0_init_0 : decode cX0_init 0 = .ok (.aload_n 0, 1) := by decide +kernel
theorem dX0_init_1 : decode cX0_init 1 = .ok (.invokespecial 3, 3) := by decide +kernel
theorem dX0_init_4 : decode cX0_init 4 = .ok (.aload_n 0, 1) := by decide +kernel
theorem dX0_init_5 : decode cX0_init 5 = .ok (.bipush 12, 2) := by decide +kernel
theorem dX0_init_7 : decode cX0_init 7 = .ok (.newarray .int, 2) := by decide +kernel
theorem dX0_init_9 : decode cX0_init 9 = .ok (.putfield 9, 3) := by decide +kernel
theorem dX0_init_12 : decode cX0_init 12 = .ok (.aload_n 0, 1) := by decide +kernel
theorem dX0_init_13 : decode cX0_init 13 = .ok (.bipush 12, 2) := by decide +kernel
theorem dX0_init_15 : decode cX0_init 15 = .ok (.newarray .int, 2) := by decide +kernel
theorem dX0_init_17 : decode cX0_init 17 = .ok (.putfield 15, 3) := by decide +kernel
theorem dX0_init_20 : decode cX0_init 20 = .ok (.aload_n 0, 1) := by decide +kernel
theorem dX0_init_21 : decode cX0_init 21 = .ok (.bipush 6, 2) := by decide +kernel
theorem dX0_init_23 : decode cX0_init 23 = .ok (.putfield 18, 3) := by decide +kernel
theorem dX0_init_26 : decode cX0_init 26 = .ok (.aload_n 0, 1) := by decide +kernel
theorem dX0_init_27 : decode cX0_init 27 = .ok (.bipush (-8), 2) := by decide +kernel
theorem dX0_init_29 : decode cX0_init 29 = .ok (.putfield 22, 3) := by decide +kernel
theorem dX0_init_32 : decode cX0_init 32 = .ok (.aload_n 0, 1) := by decide +kernel
theorem dX0_init_33 : decode cX0_init 33 = .ok (.bipush (-8), 2) := by decide +kernel
theorem dX0_init_35 : decode cX0_init 35 = .ok (.putfield 25, 3) := by decide +kernel
theorem dX0_init_38 : decode cX0_init 38 = .ok (.aload_n 0, 1) := by decide +kernel
theorem dX0_init_39 : decode cX0_init 39 = .ok (.iconst 0, 1) := by decide +kernel
theorem dX0_init_40 : decode cX0_init 40 = .ok (.putfield 28, 3) := by decide +kernel
theorem dX0_init_43 : decode cX0_init 43 = .ok (.aload_n 0, 1) := by decide +kernel
theorem dX0_init_44 : decode cX0_init 44 = .ok (.iconst 0, 1) := by decide +kernel
theorem dX0_init_45 : decode cX0_init 45 = .ok (.putfield 32, 3) := by decide +kernel
theorem dX0_init_48 : decode cX0_init 48 = .ok (.aload_n 0, 1) := by decide +kernel
theorem dX0_init_49 : decode cX0_init 49 = .ok (.iconst 0, 1) := by decide +kernel
theorem dX0_init_50 : decode cX0_init 50 = .ok (.putfield 35, 3) := by decide +kernel
theorem dX0_init_53 : decode cX0_init 53 = .ok (.aload_n 0, 1) := by decide +kernel
theorem dX0_init_54 : decode cX0_init 54 = .ok (.iconst 3, 1) := by decide +kernel
theorem dX0_init_55 : decode cX0_init 55 = .ok (.putfield 38, 3) := by decide +kernel
theorem dX0_init_58 : decode cX0_init 58 = .ok (.aload_n 0, 1) := by decide +kernel
theorem dX0_init_59 : decode cX0_init 59 = .ok (.iconst 3, 1) := by decide +kernel
theorem dX0_init_60 : decode cX0_init 60 = .ok (.putfield 41, 3) := by decide +kernel
theorem dX0_init_63 : decode cX0_init 63 = .ok (.return_, 1) := by decide +kernel
theorem dX0_copyFrom_0 : decode cX0_copyFrom 0 = .ok (.iconst 0, 1) := by decide +kernel
theorem dX0_copyFrom_1 : decode cX0_copyFrom 1 = .ok (.istore_n 2, 1) := by decide +kernel
theorem dX0_copyFrom_2 : decode cX0_copyFrom 2 = .ok (.iload_n 2, 1) := by decide +kernel
theorem dX0_copyFrom_3 : decode cX0_copyFrom 3 = .ok (.bipush 12, 2) := by decide +kernel
theorem dX0_copyFrom_5 : decode cX0_copyFrom 5 = .ok (.if_icmp .ge 24, 3) := by decide +kernel
theorem dX0_copyFrom_8 : decode cX0_copyFrom 8 = .ok (.aload_n 0, 1) := by decide +kernel
theorem dX0_copyFrom_9 : decode cX0_copyFrom 9 = .ok (.iload_n 2, 1) := by decide +kernel
theorem dX0_copyFrom_10 : decode cX0_copyFrom 10 = .ok (.aload_n 1, 1) := by decide +kernel
theorem dX0_copyFrom_11 : decode cX0_copyFrom 11 = .ok (.iload_n 2, 1) := by decide +kernel
theorem dX0_copyFrom_12 : decode cX0_copyFrom 12 = .ok (.invokevirtual 44, 3) := by decide +kernel
theorem dX0_copyFrom_15 : decode cX0_copyFrom 15 = .ok (.aload_n 1, 1) := by decide +kernel
theorem dX0_copyFrom_16 : decode cX0_copyFrom 16 = .ok (.iload_n 2, 1) := by decide +kernel
theorem dX0_copyFrom_17 : decode cX0_copyFrom 17 = .ok (.invokevirtual 48, 3) := by decide +kernel
theorem dX0_copyFrom_20 : decode cX0_copyFrom 20 = .ok (.invokevirtual 51, 3) := by decide +kernel
theorem dX0_copyFrom_23 : decode cX0_copyFrom 23 = .ok (.iinc 2 1, 3) := by decide +kernel
theorem dX0_copyFrom_26 : decode cX0_copyFrom 26 = .ok (.goto (-24), 3) := by decide +kernel
theorem dX0_copyFrom_29 : decode cX0_copyFrom 29 = .ok (.aload_n 0, 1) := by decide +kernel
theorem dX0_copyFrom_30 : decode cX0_copyFrom 30 = .ok (.aload_n 1, 1) := by decide +kernel
theorem dX0_copyFrom_31 : decode cX0_copyFrom 31 = .ok (.getfield 18, 3) := by decide +kernel
theorem dX0_copyFrom_34 : decode cX0_copyFrom 34 = .ok (.putfield 18, 3) := by decide +kernel
theorem dX0_copyFrom_37 : decode cX0_copyFrom 37 = .ok (.aload_n 0, 1) := by decide +kernel
theorem dX0_copyFrom_38 : decode cX0_copyFrom 38 = .ok (.aload_n 1, 1) := by decide +kernel
theorem dX0_copyFrom_39 : decode cX0_copyFrom 39 = .ok (.getfield 22, 3) := by decide +kernel
theorem dX0_copyFrom_42 : decode cX0_copyFrom 42 = .ok (.putfield 22, 3) := by decide +kernel
theorem dX0_copyFrom_45 : decode cX0_copyFrom 45 = .ok (.aload_n 0, 1) := by decide +kernel
theorem dX0_copyFrom_46 : decode cX0_copyFrom 46 = .ok (.aload_n 1, 1) := by decide +kernel
theorem dX0_copyFrom_47 : decode cX0_copyFrom 47 = .ok (.getfield 25, 3) := by decide +kernel
theorem dX0_copyFrom_50 : decode cX0_copyFrom 50 = .ok (.putfield 25, 3) := by decide +kernel
theorem dX0_copyFrom_53 : decode cX0_copyFrom 53 = .ok (.aload_n 0, 1) := by decide +kernel
theorem dX0_copyFrom_54 : decode cX0_copyFrom 54 = .ok (.aload_n 1, 1) := by decide +kernel
theorem dX0_copyFrom_55 : decode cX0_copyFrom 55 = .ok (.getfield 28, 3) := by decide +kernel
theorem dX0_copyFrom_58 : decode cX0_copyFrom 58 = .ok (.putfield 28, 3) := by decide +kernel
theorem dX0_copyFrom_61 : decode cX0_copyFrom 61 = .ok (.aload_n 0, 1) := by decide +kernel
theorem dX0_copyFrom_62 : decode cX0_copyFrom 62 = .ok (.aload_n 1, 1) := by decide +kernel
theorem dX0_copyFrom_63 : decode cX0_copyFrom 63 = .ok (.getfield 32, 3) := by decide +kernel
theorem dX0_copyFrom_66 : decode cX0_copyFrom 66 = .ok (.putfield 32, 3) := by decide +kernel
theorem dX0_copyFrom_69 : decode cX0_copyFrom 69 = .ok (.aload_n 0, 1) := by decide +kernel
theorem dX0_copyFrom_70 : decode cX0_copyFrom 70 = .ok (.aload_n 1, 1) := by decide +kernel
theorem dX0_copyFrom_71 : decode cX0_copyFrom 71 = .ok (.getfield 35, 3) := by decide +kernel
theorem dX0_copyFrom_74 : decode cX0_copyFrom 74 = .ok (.putfield 35, 3) := by decide +kernel
theorem dX0_copyFrom_77 : decode cX0_copyFrom 77 = .ok (.aload_n 0, 1) := by decide +kernel
theorem dX0_copyFrom_78 : decode cX0_copyFrom 78 = .ok (.aload_n 1, 1) := by decide +kernel
theorem dX0_copyFrom_79 : decode cX0_copyFrom 79 = .ok (.getfield 38, 3) := by decide +kernel
theorem dX0_copyFrom_82 : decode cX0_copyFrom 82 = .ok (.putfield 38, 3) := by decide +kernel
theorem dX0_copyFrom_85 : decode cX0_copyFrom 85 = .ok (.aload_n 0, 1) := by decide +kernel
theorem dX0_copyFrom_86 : decode cX0_copyFrom 86 = .ok (.aload_n 1, 1) := by decide +kernel
theorem dX0_copyFrom_87 : decode cX0_copyFrom 87 = .ok (.getfield 41, 3) := by decide +kernel
theorem dX0_copyFrom_90 : decode cX0_copyFrom 90 = .ok (.putfield 41, 3) := by decide +kernel
theorem dX0_copyFrom_93 : decode cX0_copyFrom 93 = .ok (.return_, 1) := by decide +kernel
theorem dX0_hasInch_0 : decode cX0_hasInch 0 = .ok (.iload_n 1, 1) := by decide +kernel
theorem dX0_hasInch_1 : decode cX0_hasInch 1 = .ok (.ifCond .lt 15, 3) := by decide +kernel
theorem dX0_hasInch_4 : decode cX0_hasInch 4 = .ok (.iload_n 1, 1) := by decide +kernel
theorem dX0_hasInch_5 : decode cX0_hasInch 5 = .ok (.aload_n 0, 1) := by decide +kernel
theorem dX0_hasInch_6 : decode cX0_hasInch 6 = .ok (.getfield 18, 3) := by decide +kernel
theorem dX0_hasInch_9 : decode cX0_hasInch 9 = .ok (.if_icmp .ge 7, 3) := by decide +kernel
theorem dX0_hasInch_12 : decode cX0_hasInch 12 = .ok (.iconst 1, 1) := by decide +kernel
theorem dX0_hasInch_13 : decode cX0_hasInch 13 = .ok (.goto 4, 3) := by decide +kernel
theorem dX0_hasInch_16 : decode cX0_hasInch 16 = .ok (.iconst 0, 1) := by decide +kernel
theorem dX0_hasInch_17 : decode cX0_hasInch 17 = .ok (.ireturn, 1) := by decide +kernel
theorem dX0_kindAt_0 : decode cX0_kindAt 0 = .ok (.iload_n 1, 1) := by decide +kernel
theorem dX0_kindAt_1 : decode cX0_kindAt 1 = .ok (.ifCond .lt 21, 3) := by decide +kernel
theorem dX0_kindAt_4 : decode cX0_kindAt 4 = .ok (.iload_n 1, 1) := by decide +kernel
theorem dX0_kindAt_5 : decode cX0_kindAt 5 = .ok (.aload_n 0, 1) := by decide +kernel
theorem dX0_kindAt_6 : decode cX0_kindAt 6 = .ok (.getfield 9, 3) := by decide +kernel
theorem dX0_kindAt_9 : decode cX0_kindAt 9 = .ok (.arraylength, 1) := by decide +kernel
theorem dX0_kindAt_10 : decode cX0_kindAt 10 = .ok (.if_icmp .ge 12, 3) := by decide +kernel
theorem dX0_kindAt_13 : decode cX0_kindAt 13 = .ok (.aload_n 0, 1) := by decide +kernel
theorem dX0_kindAt_14 : decode cX0_kindAt 14 = .ok (.getfield 9, 3) := by decide +kernel
theorem dX0_kindAt_17 : decode cX0_kindAt 17 = .ok (.iload_n 1, 1) := by decide +kernel
theorem dX0_kindAt_18 : decode cX0_kindAt 18 = .ok (.iaload, 1) := by decide +kernel
theorem dX0_kindAt_19 : decode cX0_kindAt 19 = .ok (.goto 4, 3) := by decide +kernel
theorem dX0_kindAt_22 : decode cX0_kindAt 22 = .ok (.iconst 0, 1) := by decide +kernel
theorem dX0_kindAt_23 : decode cX0_kindAt 23 = .ok (.ireturn, 1) := by decide +kernel
theorem dX0_figureAt_0 : decode cX0_figureAt 0 = .ok (.iload_n 1, 1) := by decide +kernel
theorem dX0_figureAt_1 : decode cX0_figureAt 1 = .ok (.ifCond .lt 21, 3) := by decide +kernel
theorem dX0_figureAt_4 : decode cX0_figureAt 4 = .ok (.iload_n 1, 1) := by decide +kernel
theorem dX0_figureAt_5 : decode cX0_figureAt 5 = .ok (.aload_n 0, 1) := by decide +kernel
theorem dX0_figureAt_6 : decode cX0_figureAt 6 = .ok (.getfield 15, 3) := by decide +kernel
theorem dX0_figureAt_9 : decode cX0_figureAt 9 = .ok (.arraylength, 1) := by decide +kernel
theorem dX0_figureAt_10 : decode cX0_figureAt 10 = .ok (.if_icmp .ge 12, 3) := by decide +kernel
theorem dX0_figureAt_13 : decode cX0_figureAt 13 = .ok (.aload_n 0, 1) := by decide +kernel
theorem dX0_figureAt_14 : decode cX0_figureAt 14 = .ok (.getfield 15, 3) := by decide +kernel
theorem dX0_figureAt_17 : decode cX0_figureAt 17 = .ok (.iload_n 1, 1) := by decide +kernel
theorem dX0_figureAt_18 : decode cX0_figureAt 18 = .ok (.iaload, 1) := by decide +kernel
theorem dX0_figureAt_19 : decode cX0_figureAt 19 = .ok (.goto 4, 3) := by decide +kernel
theorem dX0_figureAt_22 : decode cX0_figureAt 22 = .ok (.iconst 0, 1) := by decide +kernel
theorem dX0_figureAt_23 : decode cX0_figureAt 23 = .ok (.ireturn, 1) := by decide +kernel
theorem dX0_make_0 : decode cX0_make 0 = .ok (.iload_n 1, 1) := by decide +kernel
theorem dX0_make_1 : decode cX0_make 1 = .ok (.ifCond .lt 35, 3) := by decide +kernel
theorem dX0_make_4 : decode cX0_make 4 = .ok (.iload_n 1, 1) := by decide +kernel
theorem dX0_make_5 : decode cX0_make 5 = .ok (.aload_n 0, 1) := by decide +kernel
theorem dX0_make_6 : decode cX0_make 6 = .ok (.getfield 9, 3) := by decide +kernel
theorem dX0_make_9 : decode cX0_make 9 = .ok (.arraylength, 1) := by decide +kernel
theorem dX0_make_10 : decode cX0_make 10 = .ok (.if_icmp .ge 26, 3) := by decide +kernel
theorem dX0_make_13 : decode cX0_make 13 = .ok (.iload_n 1, 1) := by decide +kernel
theorem dX0_make_14 : decode cX0_make 14 = .ok (.aload_n 0, 1) := by decide +kernel
theorem dX0_make_15 : decode cX0_make 15 = .ok (.getfield 15, 3) := by decide +kernel
theorem dX0_make_18 : decode cX0_make 18 = .ok (.arraylength, 1) := by decide +kernel
theorem dX0_make_19 : decode cX0_make 19 = .ok (.if_icmp .ge 17, 3) := by decide +kernel
theorem dX0_make_22 : decode cX0_make 22 = .ok (.aload_n 0, 1) := by decide +kernel
theorem dX0_make_23 : decode cX0_make 23 = .ok (.getfield 9, 3) := by decide +kernel
theorem dX0_make_26 : decode cX0_make 26 = .ok (.iload_n 1, 1) := by decide +kernel
theorem dX0_make_27 : decode cX0_make 27 = .ok (.iload_n 2, 1) := by decide +kernel
theorem dX0_make_28 : decode cX0_make 28 = .ok (.iastore, 1) := by decide +kernel
theorem dX0_make_29 : decode cX0_make 29 = .ok (.aload_n 0, 1) := by decide +kernel
theorem dX0_make_30 : decode cX0_make 30 = .ok (.getfield 15, 3) := by decide +kernel
theorem dX0_make_33 : decode cX0_make 33 = .ok (.iload_n 1, 1) := by decide +kernel
theorem dX0_make_34 : decode cX0_make 34 = .ok (.iload_n 3, 1) := by decide +kernel
theorem dX0_make_35 : decode cX0_make 35 = .ok (.iastore, 1) := by decide +kernel
theorem dX0_make_36 : decode cX0_make 36 = .ok (.return_, 1) := by decide +kernel
theorem dX0_bunchMove_0 : decode cX0_bunchMove 0 = .ok (.aload_n 0, 1) := by decide +kernel
theorem dX0_bunchMove_1 : decode cX0_bunchMove 1 = .ok (.iload_n 1, 1) := by decide +kernel
theorem dX0_bunchMove_2 : decode cX0_bunchMove 2 = .ok (.invokevirtual 44, 3) := by decide +kernel
theorem dX0_bunchMove_5 : decode cX0_bunchMove 5 = .ok (.invokestatic 57, 3) := by decide +kernel
theorem dX0_bunchMove_8 : decode cX0_bunchMove 8 = .ok (.ireturn, 1) := by decide +kernel
theorem dX0_bunchSeconds_0 : decode cX0_bunchSeconds 0 = .ok (.aload_n 0, 1) := by decide +kernel
theorem dX0_bunchSeconds_1 : decode cX0_bunchSeconds 1 = .ok (.iload_n 1, 1) := by decide +kernel
theorem dX0_bunchSeconds_2 : decode cX0_bunchSeconds 2 = .ok (.invokevirtual 44, 3) := by decide +kernel
theorem dX0_bunchSeconds_5 : decode cX0_bunchSeconds 5 = .ok (.aload_n 0, 1) := by decide +kernel
theorem dX0_bunchSeconds_6 : decode cX0_bunchSeconds 6 = .ok (.iload_n 1, 1) := by decide +kernel
theorem dX0_bunchSeconds_7 : decode cX0_bunchSeconds 7 = .ok (.invokevirtual 48, 3) := by decide +kernel
theorem dX0_bunchSeconds_10 : decode cX0_bunchSeconds 10 = .ok (.invokestatic 60, 3) := by decide +kernel
theorem dX0_bunchSeconds_13 : decode cX0_bunchSeconds 13 = .ok (.ireturn, 1) := by decide +kernel
theorem dX0_threadSeconds_0 : decode cX0_threadSeconds 0 = .ok (.aload_n 0, 1) := by decide +kernel
theorem dX0_threadSeconds_1 : decode cX0_threadSeconds 1 = .ok (.iload_n 1, 1) := by decide +kernel
theorem dX0_threadSeconds_2 : decode cX0_threadSeconds 2 = .ok (.invokevirtual 44, 3) := by decide +kernel
theorem dX0_threadSeconds_5 : decode cX0_threadSeconds 5 = .ok (.aload_n 0, 1) := by decide +kernel
theorem dX0_threadSeconds_6 : decode cX0_threadSeconds 6 = .ok (.iload_n 1, 1) := by decide +kernel
theorem dX0_threadSeconds_7 : decode cX0_threadSeconds 7 = .ok (.invokevirtual 48, 3) := by decide +kernel
theorem dX0_threadSeconds_10 : decode cX0_threadSeconds 10 = .ok (.invokestatic 64, 3) := by decide +kernel
theorem dX0_threadSeconds_13 : decode cX0_threadSeconds 13 = .ok (.ireturn, 1) := by decide +kernel
theorem dX0_washDraw_0 : decode cX0_washDraw 0 = .ok (.aload_n 0, 1) := by decide +kernel
theorem dX0_washDraw_1 : decode cX0_washDraw 1 = .ok (.iload_n 1, 1) := by decide +kernel
theorem dX0_washDraw_2 : decode cX0_washDraw 2 = .ok (.invokevirtual 44, 3) := by decide +kernel
theorem dX0_washDraw_5 : decode cX0_washDraw 5 = .ok (.aload_n 0, 1) := by decide +kernel
theorem dX0_washDraw_6 : decode cX0_washDraw 6 = .ok (.getfield 41, 3) := by decide +kernel
theorem dX0_washDraw_9 : decode cX0_washDraw 9 = .ok (.invokestatic 67, 3) := by decide +kernel
theorem dX0_washDraw_12 : decode cX0_washDraw 12 = .ok (.ireturn, 1) := by decide +kernel
theorem dX0_seams_0 : decode cX0_seams 0 = .ok (.iconst 0, 1) := by decide +kernel
theorem dX0_seams_1 : decode cX0_seams 1 = .ok (.istore_n 1, 1) := by decide +kernel
theorem dX0_seams_2 : decode cX0_seams 2 = .ok (.iconst 0, 1) := by decide +kernel
theorem dX0_seams_3 : decode cX0_seams 3 = .ok (.istore_n 2, 1) := by decide +kernel
theorem dX0_seams_4 : decode cX0_seams 4 = .ok (.iload_n 2, 1) := by decide +kernel
theorem dX0_seams_5 : decode cX0_seams 5 = .ok (.aload_n 0, 1) := by decide +kernel
theorem dX0_seams_6 : decode cX0_seams 6 = .ok (.getfield 18, 3) := by decide +kernel
theorem dX0_seams_9 : decode cX0_seams 9 = .ok (.if_icmp .ge 28, 3) := by decide +kernel
theorem dX0_seams_12 : decode cX0_seams 12 = .ok (.iload_n 1, 1) := by decide +kernel
theorem dX0_seams_13 : decode cX0_seams 13 = .ok (.aload_n 0, 1) := by decide +kernel
theorem dX0_seams_14 : decode cX0_seams 14 = .ok (.iload_n 2, 1) := by decide +kernel
theorem dX0_seams_15 : decode cX0_seams 15 = .ok (.invokevirtual 44, 3) := by decide +kernel
theorem dX0_seams_18 : decode cX0_seams 18 = .ok (.invokestatic 70, 3) := by decide +kernel
theorem dX0_seams_21 : decode cX0_seams 21 = .ok (.ifCond .eq 7, 3) := by decide +kernel
theorem dX0_seams_24 : decode cX0_seams 24 = .ok (.iconst 1, 1) := by decide +kernel
theorem dX0_seams_25 : decode cX0_seams 25 = .ok (.goto 4, 3) := by decide +kernel
theorem dX0_seams_28 : decode cX0_seams 28 = .ok (.iconst 0, 1) := by decide +kernel
theorem dX0_seams_29 : decode cX0_seams 29 = .ok (.iadd, 1) := by decide +kernel
theorem dX0_seams_30 : decode cX0_seams 30 = .ok (.istore_n 1, 1) := by decide +kernel
theorem dX0_seams_31 : decode cX0_seams 31 = .ok (.iinc 2 1, 3) := by decide +kernel
theorem dX0_seams_34 : decode cX0_seams 34 = .ok (.goto (-30), 3) := by decide +kernel
theorem dX0_seams_37 : decode cX0_seams 37 = .ok (.iload_n 1, 1) := by decide +kernel
theorem dX0_seams_38 : decode cX0_seams 38 = .ok (.ireturn, 1) := by decide +kernel
theorem dX0_secondsAnewOf_0 : decode cX0_secondsAnewOf 0 = .ok (.aload_n 0, 1) := by decide +kernel
theorem dX0_secondsAnewOf_1 : decode cX0_secondsAnewOf 1 = .ok (.iload_n 1, 1) := by decide +kernel
theorem dX0_secondsAnewOf_2 : decode cX0_secondsAnewOf 2 = .ok (.invokevirtual 74, 3) := by decide +kernel
theorem dX0_secondsAnewOf_5 : decode cX0_secondsAnewOf 5 = .ok (.aload_n 0, 1) := by decide +kernel
theorem dX0_secondsAnewOf_6 : decode cX0_secondsAnewOf 6 = .ok (.iload_n 1, 1) := by decide +kernel
theorem dX0_secondsAnewOf_7 : decode cX0_secondsAnewOf 7 = .ok (.invokevirtual 44, 3) := by decide +kernel
theorem dX0_secondsAnewOf_10 : decode cX0_secondsAnewOf 10 = .ok (.invokestatic 70, 3) := by decide +kernel
theorem dX0_secondsAnewOf_13 : decode cX0_secondsAnewOf 13 = .ok (.ifCond .eq 10, 3) := by decide +kernel
theorem dX0_secondsAnewOf_16 : decode cX0_secondsAnewOf 16 = .ok (.bipush 10, 2) := by decide +kernel
theorem dX0_secondsAnewOf_18 : decode cX0_secondsAnewOf 18 = .ok (.iload_n 2, 1) := by decide +kernel
theorem dX0_secondsAnewOf_19 : decode cX0_secondsAnewOf 19 = .ok (.isub, 1) := by decide +kernel
theorem dX0_secondsAnewOf_20 : decode cX0_secondsAnewOf 20 = .ok (.goto 4, 3) := by decide +kernel
theorem dX0_secondsAnewOf_23 : decode cX0_secondsAnewOf 23 = .ok (.iconst 0, 1) := by decide +kernel
theorem dX0_secondsAnewOf_24 : decode cX0_secondsAnewOf 24 = .ok (.iadd, 1) := by decide +kernel
theorem dX0_secondsAnewOf_25 : decode cX0_secondsAnewOf 25 = .ok (.ireturn, 1) := by decide +kernel
theorem dX0_secondsAnew_0 : decode cX0_secondsAnew 0 = .ok (.iconst 0, 1) := by decide +kernel
theorem dX0_secondsAnew_1 : decode cX0_secondsAnew 1 = .ok (.istore_n 2, 1) := by decide +kernel
theorem dX0_secondsAnew_2 : decode cX0_secondsAnew 2 = .ok (.iconst 0, 1) := by decide +kernel
theorem dX0_secondsAnew_3 : decode cX0_secondsAnew 3 = .ok (.istore_n 3, 1) := by decide +kernel
theorem dX0_secondsAnew_4 : decode cX0_secondsAnew 4 = .ok (.iload_n 3, 1) := by decide +kernel
theorem dX0_secondsAnew_5 : decode cX0_secondsAnew 5 = .ok (.aload_n 0, 1) := by decide +kernel
theorem dX0_secondsAnew_6 : decode cX0_secondsAnew 6 = .ok (.getfield 18, 3) := by decide +kernel
theorem dX0_secondsAnew_9 : decode cX0_secondsAnew 9 = .ok (.if_icmp .ge 18, 3) := by decide +kernel
theorem dX0_secondsAnew_12 : decode cX0_secondsAnew 12 = .ok (.iload_n 2, 1) := by decide +kernel
theorem dX0_secondsAnew_13 : decode cX0_secondsAnew 13 = .ok (.aload_n 0, 1) := by decide +kernel
theorem dX0_secondsAnew_14 : decode cX0_secondsAnew 14 = .ok (.iload_n 3, 1) := by decide +kernel
theorem dX0_secondsAnew_15 : decode cX0_secondsAnew 15 = .ok (.iload_n 1, 1) := by decide +kernel
theorem dX0_secondsAnew_16 : decode cX0_secondsAnew 16 = .ok (.invokevirtual 76, 3) := by decide +kernel
theorem dX0_secondsAnew_19 : decode cX0_secondsAnew 19 = .ok (.iadd, 1) := by decide +kernel
theorem dX0_secondsAnew_20 : decode cX0_secondsAnew 20 = .ok (.istore_n 2, 1) := by decide +kernel
theorem dX0_secondsAnew_21 : decode cX0_secondsAnew 21 = .ok (.iinc 3 1, 3) := by decide +kernel
theorem dX0_secondsAnew_24 : decode cX0_secondsAnew 24 = .ok (.goto (-20), 3) := by decide +kernel
theorem dX0_secondsAnew_27 : decode cX0_secondsAnew 27 = .ok (.iload_n 2, 1) := by decide +kernel
theorem dX0_secondsAnew_28 : decode cX0_secondsAnew 28 = .ok (.ireturn, 1) := by decide +kernel
theorem dX0_threadAnew_0 : decode cX0_threadAnew 0 = .ok (.aload_n 0, 1) := by decide +kernel
theorem dX0_threadAnew_1 : decode cX0_threadAnew 1 = .ok (.bipush (-8), 2) := by decide +kernel
theorem dX0_threadAnew_3 : decode cX0_threadAnew 3 = .ok (.putfield 22, 3) := by decide +kernel
theorem dX0_threadAnew_6 : decode cX0_threadAnew 6 = .ok (.aload_n 0, 1) := by decide +kernel
theorem dX0_threadAnew_7 : decode cX0_threadAnew 7 = .ok (.bipush (-8), 2) := by decide +kernel
theorem dX0_threadAnew_9 : decode cX0_threadAnew 9 = .ok (.putfield 25, 3) := by decide +kernel
theorem dX0_threadAnew_12 : decode cX0_threadAnew 12 = .ok (.return_, 1) := by decide +kernel
theorem dX0_depth_0 : decode cX0_depth 0 = .ok (.iload_n 1, 1) := by decide +kernel
theorem dX0_depth_1 : decode cX0_depth 1 = .ok (.ifCond .ne 10, 3) := by decide +kernel
theorem dX0_depth_4 : decode cX0_depth 4 = .ok (.aload_n 0, 1) := by decide +kernel
theorem dX0_depth_5 : decode cX0_depth 5 = .ok (.getfield 22, 3) := by decide +kernel
theorem dX0_depth_8 : decode cX0_depth 8 = .ok (.goto 7, 3) := by decide +kernel
theorem dX0_depth_11 : decode cX0_depth 11 = .ok (.aload_n 0, 1) := by decide +kernel
theorem dX0_depth_12 : decode cX0_depth 12 = .ok (.getfield 25, 3) := by decide +kernel
theorem dX0_depth_15 : decode cX0_depth 15 = .ok (.ireturn, 1) := by decide +kernel
theorem dX0_place_0 : decode cX0_place 0 = .ok (.iload_n 1, 1) := by decide +kernel
theorem dX0_place_1 : decode cX0_place 1 = .ok (.ifCond .ne 11, 3) := by decide +kernel
theorem dX0_place_4 : decode cX0_place 4 = .ok (.aload_n 0, 1) := by decide +kernel
theorem dX0_place_5 : decode cX0_place 5 = .ok (.iload_n 2, 1) := by decide +kernel
theorem dX0_place_6 : decode cX0_place 6 = .ok (.putfield 22, 3) := by decide +kernel
theorem dX0_place_9 : decode cX0_place 9 = .ok (.goto 8, 3) := by decide +kernel
theorem dX0_place_12 : decode cX0_place 12 = .ok (.aload_n 0, 1) := by decide +kernel
theorem dX0_place_13 : decode cX0_place 13 = .ok (.iload_n 2, 1) := by decide +kernel
theorem dX0_place_14 : decode cX0_place 14 = .ok (.putfield 25, 3) := by decide +kernel
theorem dX0_place_17 : decode cX0_place 17 = .ok (.return_, 1) := by decide +kernel
theorem dX0_isKnotted_0 : decode cX0_isKnotted 0 = .ok (.iload_n 1, 1) := by decide +kernel
theorem dX0_isKnotted_1 : decode cX0_isKnotted 1 = .ok (.ifCond .ne 10, 3) := by decide +kernel
theorem dX0_isKnotted_4 : decode cX0_isKnotted 4 = .ok (.aload_n 0, 1) := by decide +kernel
theorem dX0_isKnotted_5 : decode cX0_isKnotted 5 = .ok (.getfield 28, 3) := by decide +kernel
theorem dX0_isKnotted_8 : decode cX0_isKnotted 8 = .ok (.goto 7, 3) := by decide +kernel
theorem dX0_isKnotted_11 : decode cX0_isKnotted 11 = .ok (.aload_n 0, 1) := by decide +kernel
theorem dX0_isKnotted_12 : decode cX0_isKnotted 12 = .ok (.getfield 32, 3) := by decide +kernel
theorem dX0_isKnotted_15 : decode cX0_isKnotted 15 = .ok (.ireturn, 1) := by decide +kernel
theorem dX0_knot_0 : decode cX0_knot 0 = .ok (.iload_n 1, 1) := by decide +kernel
theorem dX0_knot_1 : decode cX0_knot 1 = .ok (.ifCond .ne 11, 3) := by decide +kernel
theorem dX0_knot_4 : decode cX0_knot 4 = .ok (.aload_n 0, 1) := by decide +kernel
theorem dX0_knot_5 : decode cX0_knot 5 = .ok (.iload_n 2, 1) := by decide +kernel
theorem dX0_knot_6 : decode cX0_knot 6 = .ok (.putfield 28, 3) := by decide +kernel
theorem dX0_knot_9 : decode cX0_knot 9 = .ok (.goto 8, 3) := by decide +kernel
theorem dX0_knot_12 : decode cX0_knot 12 = .ok (.aload_n 0, 1) := by decide +kernel
theorem dX0_knot_13 : decode cX0_knot 13 = .ok (.iload_n 2, 1) := by decide +kernel
theorem dX0_knot_14 : decode cX0_knot 14 = .ok (.putfield 32, 3) := by decide +kernel
theorem dX0_knot_17 : decode cX0_knot 17 = .ok (.return_, 1) := by decide +kernel
theorem dX0_isLost_0 : decode cX0_isLost 0 = .ok (.aload_n 0, 1) := by decide +kernel
theorem dX0_isLost_1 : decode cX0_isLost 1 = .ok (.iload_n 1, 1) := by decide +kernel
theorem dX0_isLost_2 : decode cX0_isLost 2 = .ok (.invokevirtual 79, 3) := by decide +kernel
theorem dX0_isLost_5 : decode cX0_isLost 5 = .ok (.iconst 1, 1) := by decide +kernel
theorem dX0_isLost_6 : decode cX0_isLost 6 = .ok (.if_icmp .lt 7, 3) := by decide +kernel
theorem dX0_isLost_9 : decode cX0_isLost 9 = .ok (.iconst 1, 1) := by decide +kernel
theorem dX0_isLost_10 : decode cX0_isLost 10 = .ok (.goto 4, 3) := by decide +kernel
theorem dX0_isLost_13 : decode cX0_isLost 13 = .ok (.iconst 0, 1) := by decide +kernel
theorem dX0_isLost_14 : decode cX0_isLost 14 = .ok (.ireturn, 1) := by decide +kernel
theorem dX0_lostEnds_0 : decode cX0_lostEnds 0 = .ok (.aload_n 0, 1) := by decide +kernel
theorem dX0_lostEnds_1 : decode cX0_lostEnds 1 = .ok (.iconst 0, 1) := by decide +kernel
theorem dX0_lostEnds_2 : decode cX0_lostEnds 2 = .ok (.invokevirtual 82, 3) := by decide +kernel
theorem dX0_lostEnds_5 : decode cX0_lostEnds 5 = .ok (.ifCond .eq 7, 3) := by decide +kernel
theorem dX0_lostEnds_8 : decode cX0_lostEnds 8 = .ok (.iconst 1, 1) := by decide +kernel
theorem dX0_lostEnds_9 : decode cX0_lostEnds 9 = .ok (.goto 4, 3) := by decide +kernel
theorem dX0_lostEnds_12 : decode cX0_lostEnds 12 = .ok (.iconst 0, 1) := by decide +kernel
theorem dX0_lostEnds_13 : decode cX0_lostEnds 13 = .ok (.aload_n 0, 1) := by decide +kernel
theorem dX0_lostEnds_14 : decode cX0_lostEnds 14 = .ok (.iconst 1, 1) := by decide +kernel
theorem dX0_lostEnds_15 : decode cX0_lostEnds 15 = .ok (.invokevirtual 82, 3) := by decide +kernel
theorem dX0_lostEnds_18 : decode cX0_lostEnds 18 = .ok (.ifCond .eq 7, 3) := by decide +kernel
theorem dX0_lostEnds_21 : decode cX0_lostEnds 21 = .ok (.iconst 1, 1) := by decide +kernel
theorem dX0_lostEnds_22 : decode cX0_lostEnds 22 = .ok (.goto 4, 3) := by decide +kernel
theorem dX0_lostEnds_25 : decode cX0_lostEnds 25 = .ok (.iconst 0, 1) := by decide +kernel
theorem dX0_lostEnds_26 : decode cX0_lostEnds 26 = .ok (.iadd, 1) := by decide +kernel
theorem dX0_lostEnds_27 : decode cX0_lostEnds 27 = .ok (.ireturn, 1) := by decide +kernel
theorem dX0_inchAt_0 : decode cX0_inchAt 0 = .ok (.iload_n 2, 1) := by decide +kernel
theorem dX0_inchAt_1 : decode cX0_inchAt 1 = .ok (.iconst 1, 1) := by decide +kernel
theorem dX0_inchAt_2 : decode cX0_inchAt 2 = .ok (.if_icmp .lt 20, 3) := by decide +kernel
theorem dX0_inchAt_5 : decode cX0_inchAt 5 = .ok (.iload_n 2, 1) := by decide +kernel
theorem dX0_inchAt_6 : decode cX0_inchAt 6 = .ok (.iconst 1, 1) := by decide +kernel
theorem dX0_inchAt_7 : decode cX0_inchAt 7 = .ok (.isub, 1) := by decide +kernel
theorem dX0_inchAt_8 : decode cX0_inchAt 8 = .ok (.iconst 2, 1) := by decide +kernel
theorem dX0_inchAt_9 : decode cX0_inchAt 9 = .ok (.idiv, 1) := by decide +kernel
theorem dX0_inchAt_10 : decode cX0_inchAt 10 = .ok (.aload_n 0, 1) := by decide +kernel
theorem dX0_inchAt_11 : decode cX0_inchAt 11 = .ok (.getfield 18, 3) := by decide +kernel
theorem dX0_inchAt_14 : decode cX0_inchAt 14 = .ok (.iconst 1, 1) := by decide +kernel
theorem dX0_inchAt_15 : decode cX0_inchAt 15 = .ok (.isub, 1) := by decide +kernel
theorem dX0_inchAt_16 : decode cX0_inchAt 16 = .ok (.invokestatic 85, 3) := by decide +kernel
theorem dX0_inchAt_19 : decode cX0_inchAt 19 = .ok (.goto 4, 3) := by decide +kernel
theorem dX0_inchAt_22 : decode cX0_inchAt 22 = .ok (.iconst 0, 1) := by decide +kernel
theorem dX0_inchAt_23 : decode cX0_inchAt 23 = .ok (.istore_n 3, 1) := by decide +kernel
theorem dX0_inchAt_24 : decode cX0_inchAt 24 = .ok (.iload_n 1, 1) := by decide +kernel
theorem dX0_inchAt_25 : decode cX0_inchAt 25 = .ok (.ifCond .ne 7, 3) := by decide +kernel
theorem dX0_inchAt_28 : decode cX0_inchAt 28 = .ok (.iload_n 3, 1) := by decide +kernel
theorem dX0_inchAt_29 : decode cX0_inchAt 29 = .ok (.goto 11, 3) := by decide +kernel
theorem dX0_inchAt_32 : decode cX0_inchAt 32 = .ok (.aload_n 0, 1) := by decide +kernel
theorem dX0_inchAt_33 : decode cX0_inchAt 33 = .ok (.getfield 18, 3) := by decide +kernel
theorem dX0_inchAt_36 : decode cX0_inchAt 36 = .ok (.iconst 1, 1) := by decide +kernel
theorem dX0_inchAt_37 : decode cX0_inchAt 37 = .ok (.isub, 1) := by decide +kernel
theorem dX0_inchAt_38 : decode cX0_inchAt 38 = .ok (.iload_n 3, 1) := by decide +kernel
theorem dX0_inchAt_39 : decode cX0_inchAt 39 = .ok (.isub, 1) := by decide +kernel
theorem dX0_inchAt_40 : decode cX0_inchAt 40 = .ok (.ireturn, 1) := by decide +kernel
theorem dX0_canDraw_0 : decode cX0_canDraw 0 = .ok (.aload_n 0, 1) := by decide +kernel
theorem dX0_canDraw_1 : decode cX0_canDraw 1 = .ok (.getfield 35, 3) := by decide +kernel
theorem dX0_canDraw_4 : decode cX0_canDraw 4 = .ok (.ifCond .eq 5, 3) := by decide +kernel
theorem dX0_canDraw_7 : decode cX0_canDraw 7 = .ok (.iconst 0, 1) := by decide +kernel
theorem dX0_canDraw_8 : decode cX0_canDraw 8 = .ok (.ireturn, 1) := by decide +kernel
theorem dX0_canDraw_9 : decode cX0_canDraw 9 = .ok (.iload_n 1, 1) := by decide +kernel
theorem dX0_canDraw_10 : decode cX0_canDraw 10 = .ok (.ifCond .ne 10, 3) := by decide +kernel
theorem dX0_canDraw_13 : decode cX0_canDraw 13 = .ok (.aload_n 0, 1) := by decide +kernel
theorem dX0_canDraw_14 : decode cX0_canDraw 14 = .ok (.getfield 22, 3) := by decide +kernel
theorem dX0_canDraw_17 : decode cX0_canDraw 17 = .ok (.goto 7, 3) := by decide +kernel
theorem dX0_canDraw_20 : decode cX0_canDraw 20 = .ok (.aload_n 0, 1) := by decide +kernel
theorem dX0_canDraw_21 : decode cX0_canDraw 21 = .ok (.getfield 25, 3) := by decide +kernel
theorem dX0_canDraw_24 : decode cX0_canDraw 24 = .ok (.istore_n 3, 1) := by decide +kernel
theorem dX0_canDraw_25 : decode cX0_canDraw 25 = .ok (.iload_n 1, 1) := by decide +kernel
theorem dX0_canDraw_26 : decode cX0_canDraw 26 = .ok (.ifCond .ne 10, 3) := by decide +kernel
theorem dX0_canDraw_29 : decode cX0_canDraw 29 = .ok (.aload_n 0, 1) := by decide +kernel
theorem dX0_canDraw_30 : decode cX0_canDraw 30 = .ok (.getfield 25, 3) := by decide +kernel
theorem dX0_canDraw_33 : decode cX0_canDraw 33 = .ok (.goto 7, 3) := by decide +kernel
theorem dX0_canDraw_36 : decode cX0_canDraw 36 = .ok (.aload_n 0, 1) := by decide +kernel
theorem dX0_canDraw_37 : decode cX0_canDraw 37 = .ok (.getfield 22, 3) := by decide +kernel
theorem dX0_canDraw_40 : decode cX0_canDraw 40 = .ok (.istore 4, 2) := by decide +kernel
theorem dX0_canDraw_42 : decode cX0_canDraw 42 = .ok (.iload_n 1, 1) := by decide +kernel
theorem dX0_canDraw_43 : decode cX0_canDraw 43 = .ok (.ifCond .ne 10, 3) := by decide +kernel
theorem dX0_canDraw_46 : decode cX0_canDraw 46 = .ok (.aload_n 0, 1) := by decide +kernel
theorem dX0_canDraw_47 : decode cX0_canDraw 47 = .ok (.getfield 32, 3) := by decide +kernel
theorem dX0_canDraw_50 : decode cX0_canDraw 50 = .ok (.goto 7, 3) := by decide +kernel
theorem dX0_canDraw_53 : decode cX0_canDraw 53 = .ok (.aload_n 0, 1) := by decide +kernel
theorem dX0_canDraw_54 : decode cX0_canDraw 54 = .ok (.getfield 28, 3) := by decide +kernel
theorem dX0_canDraw_57 : decode cX0_canDraw 57 = .ok (.istore 5, 2) := by decide +kernel
theorem dX0_canDraw_59 : decode cX0_canDraw 59 = .ok (.iload_n 3, 1) := by decide +kernel
theorem dX0_canDraw_60 : decode cX0_canDraw 60 = .ok (.bipush (-40), 2) := by decide +kernel
theorem dX0_canDraw_62 : decode cX0_canDraw 62 = .ok (.isub, 1) := by decide +kernel
theorem dX0_canDraw_63 : decode cX0_canDraw 63 = .ok (.iload 5, 2) := by decide +kernel
theorem dX0_canDraw_65 : decode cX0_canDraw 65 = .ok (.ifCond .eq 7, 3) := by decide +kernel
theorem dX0_canDraw_68 : decode cX0_canDraw 68 = .ok (.iconst 0, 1) := by decide +kernel
theorem dX0_canDraw_69 : decode cX0_canDraw 69 = .ok (.goto 5, 3) := by decide +kernel
theorem dX0_canDraw_72 : decode cX0_canDraw 72 = .ok (.bipush 24, 2) := by decide +kernel
theorem dX0_canDraw_74 : decode cX0_canDraw 74 = .ok (.iload 4, 2) := by decide +kernel
theorem dX0_canDraw_76 : decode cX0_canDraw 76 = .ok (.isub, 1) := by decide +kernel
theorem dX0_canDraw_77 : decode cX0_canDraw 77 = .ok (.invokestatic 85, 3) := by decide +kernel
theorem dX0_canDraw_80 : decode cX0_canDraw 80 = .ok (.istore 6, 2) := by decide +kernel
theorem dX0_canDraw_82 : decode cX0_canDraw 82 = .ok (.iconst 0, 1) := by decide +kernel
theorem dX0_canDraw_83 : decode cX0_canDraw 83 = .ok (.iload_n 2, 1) := by decide +kernel
theorem dX0_canDraw_84 : decode cX0_canDraw 84 = .ok (.iload 6, 2) := by decide +kernel
theorem dX0_canDraw_86 : decode cX0_canDraw 86 = .ok (.invokestatic 85, 3) := by decide +kernel
theorem dX0_canDraw_89 : decode cX0_canDraw 89 = .ok (.invokestatic 90, 3) := by decide +kernel
theorem dX0_canDraw_92 : decode cX0_canDraw 92 = .ok (.ireturn, 1) := by decide +kernel
theorem dX0_draw_0 : decode cX0_draw 0 = .ok (.aload_n 0, 1) := by decide +kernel
theorem dX0_draw_1 : decode cX0_draw 1 = .ok (.iload_n 1, 1) := by decide +kernel
theorem dX0_draw_2 : decode cX0_draw 2 = .ok (.iload_n 2, 1) := by decide +kernel
theorem dX0_draw_3 : decode cX0_draw 3 = .ok (.invokevirtual 93, 3) := by decide +kernel
theorem dX0_draw_6 : decode cX0_draw 6 = .ok (.istore_n 3, 1) := by decide +kernel
theorem dX0_draw_7 : decode cX0_draw 7 = .ok (.iconst 1, 1) := by decide +kernel
theorem dX0_draw_8 : decode cX0_draw 8 = .ok (.iload_n 1, 1) := by decide +kernel
theorem dX0_draw_9 : decode cX0_draw 9 = .ok (.isub, 1) := by decide +kernel
theorem dX0_draw_10 : decode cX0_draw 10 = .ok (.istore 4, 2) := by decide +kernel
theorem dX0_draw_12 : decode cX0_draw 12 = .ok (.aload_n 0, 1) := by decide +kernel
theorem dX0_draw_13 : decode cX0_draw 13 = .ok (.iload_n 1, 1) := by decide +kernel
theorem dX0_draw_14 : decode cX0_draw 14 = .ok (.aload_n 0, 1) := by decide +kernel
theorem dX0_draw_15 : decode cX0_draw 15 = .ok (.iload_n 1, 1) := by decide +kernel
theorem dX0_draw_16 : decode cX0_draw 16 = .ok (.invokevirtual 79, 3) := by decide +kernel
theorem dX0_draw_19 : decode cX0_draw 19 = .ok (.iload_n 3, 1) := by decide +kernel
theorem dX0_draw_20 : decode cX0_draw 20 = .ok (.isub, 1) := by decide +kernel
theorem dX0_draw_21 : decode cX0_draw 21 = .ok (.invokevirtual 96, 3) := by decide +kernel
theorem dX0_draw_24 : decode cX0_draw 24 = .ok (.aload_n 0, 1) := by decide +kernel
theorem dX0_draw_25 : decode cX0_draw 25 = .ok (.iload 4, 2) := by decide +kernel
theorem dX0_draw_27 : decode cX0_draw 27 = .ok (.aload_n 0, 1) := by decide +kernel
theorem dX0_draw_28 : decode cX0_draw 28 = .ok (.iload 4, 2) := by decide +kernel
theorem dX0_draw_30 : decode cX0_draw 30 = .ok (.invokevirtual 79, 3) := by decide +kernel
theorem dX0_draw_33 : decode cX0_draw 33 = .ok (.iload_n 3, 1) := by decide +kernel
theorem dX0_draw_34 : decode cX0_draw 34 = .ok (.iadd, 1) := by decide +kernel
theorem dX0_draw_35 : decode cX0_draw 35 = .ok (.invokevirtual 96, 3) := by decide +kernel
theorem dX0_draw_38 : decode cX0_draw 38 = .ok (.iload_n 3, 1) := by decide +kernel
theorem dX0_draw_39 : decode cX0_draw 39 = .ok (.ireturn, 1) := by decide +kernel
theorem dX0_washOnce_0 : decode cX0_washOnce 0 = .ok (.aload_n 0, 1) := by decide +kernel
theorem dX0_washOnce_1 : decode cX0_washOnce 1 = .ok (.getfield 25, 3) := by decide +kernel
theorem dX0_washOnce_4 : decode cX0_washOnce 4 = .ok (.aload_n 0, 1) := by decide +kernel
theorem dX0_washOnce_5 : decode cX0_washOnce 5 = .ok (.getfield 22, 3) := by decide +kernel
theorem dX0_washOnce_8 : decode cX0_washOnce 8 = .ok (.if_icmp .le 7, 3) := by decide +kernel
theorem dX0_washOnce_11 : decode cX0_washOnce 11 = .ok (.iconst 1, 1) := by decide +kernel
theorem dX0_washOnce_12 : decode cX0_washOnce 12 = .ok (.goto 4, 3) := by decide +kernel
theorem dX0_washOnce_15 : decode cX0_washOnce 15 = .ok (.iconst 0, 1) := by decide +kernel
theorem dX0_washOnce_16 : decode cX0_washOnce 16 = .ok (.istore_n 1, 1) := by decide +kernel
theorem dX0_washOnce_17 : decode cX0_washOnce 17 = .ok (.aload_n 0, 1) := by decide +kernel
theorem dX0_washOnce_18 : decode cX0_washOnce 18 = .ok (.iconst 1, 1) := by decide +kernel
theorem dX0_washOnce_19 : decode cX0_washOnce 19 = .ok (.iload_n 1, 1) := by decide +kernel
theorem dX0_washOnce_20 : decode cX0_washOnce 20 = .ok (.isub, 1) := by decide +kernel
theorem dX0_washOnce_21 : decode cX0_washOnce 21 = .ok (.aload_n 0, 1) := by decide +kernel
theorem dX0_washOnce_22 : decode cX0_washOnce 22 = .ok (.aload_n 0, 1) := by decide +kernel
theorem dX0_washOnce_23 : decode cX0_washOnce 23 = .ok (.iload_n 1, 1) := by decide +kernel
theorem dX0_washOnce_24 : decode cX0_washOnce 24 = .ok (.aload_n 0, 1) := by decide +kernel
theorem dX0_washOnce_25 : decode cX0_washOnce 25 = .ok (.iload_n 1, 1) := by decide +kernel
theorem dX0_washOnce_26 : decode cX0_washOnce 26 = .ok (.invokevirtual 79, 3) := by decide +kernel
theorem dX0_washOnce_29 : decode cX0_washOnce 29 = .ok (.invokevirtual 100, 3) := by decide +kernel
theorem dX0_washOnce_32 : decode cX0_washOnce 32 = .ok (.invokevirtual 103, 3) := by decide +kernel
theorem dX0_washOnce_35 : decode cX0_washOnce 35 = .ok (.invokevirtual 105, 3) := by decide +kernel
theorem dX0_washOnce_38 : decode cX0_washOnce 38 = .ok (.ireturn, 1) := by decide +kernel
theorem dX0_washTimes_0 : decode cX0_washTimes 0 = .ok (.iconst 0, 1) := by decide +kernel
theorem dX0_washTimes_1 : decode cX0_washTimes 1 = .ok (.istore_n 2, 1) := by decide +kernel
theorem dX0_washTimes_2 : decode cX0_washTimes 2 = .ok (.iload_n 2, 1) := by decide +kernel
theorem dX0_washTimes_3 : decode cX0_washTimes 3 = .ok (.iload_n 1, 1) := by decide +kernel
theorem dX0_washTimes_4 : decode cX0_washTimes 4 = .ok (.if_icmp .ge 17, 3) := by decide +kernel
theorem dX0_washTimes_7 : decode cX0_washTimes 7 = .ok (.aload_n 0, 1) := by decide +kernel
theorem dX0_washTimes_8 : decode cX0_washTimes 8 = .ok (.invokevirtual 108, 3) := by decide +kernel
theorem dX0_washTimes_11 : decode cX0_washTimes 11 = .ok (.ifCond .ne 4, 3) := by decide +kernel
theorem dX0_washTimes_14 : decode cX0_washTimes 14 = .ok (.return_, 1) := by decide +kernel
theorem dX0_washTimes_15 : decode cX0_washTimes 15 = .ok (.iinc 2 1, 3) := by decide +kernel
theorem dX0_washTimes_18 : decode cX0_washTimes 18 = .ok (.goto (-16), 3) := by decide +kernel
theorem dX0_washTimes_21 : decode cX0_washTimes 21 = .ok (.return_, 1) := by decide +kernel
theorem dX1_isSign_0 : decode cX1_isSign 0 = .ok (.ldc 9, 2) := by decide +kernel
theorem dX1_isSign_2 : decode cX1_isSign 2 = .ok (.iload_n 0, 1) := by decide +kernel
theorem dX1_isSign_3 : decode cX1_isSign 3 = .ok (.i2c, 1) := by decide +kernel
theorem dX1_isSign_4 : decode cX1_isSign 4 = .ok (.invokevirtual 11, 3) := by decide +kernel
theorem dX1_isSign_7 : decode cX1_isSign 7 = .ok (.ifCond .lt 7, 3) := by decide +kernel
theorem dX1_isSign_10 : decode cX1_isSign 10 = .ok (.iconst 1, 1) := by decide +kernel
theorem dX1_isSign_11 : decode cX1_isSign 11 = .ok (.goto 4, 3) := by decide +kernel
theorem dX1_isSign_14 : decode cX1_isSign 14 = .ok (.iconst 0, 1) := by decide +kernel
theorem dX1_isSign_15 : decode cX1_isSign 15 = .ok (.ireturn, 1) := by decide +kernel
theorem dX1_ofSign_0 : decode cX1_ofSign 0 = .ok (.iconst 0, 1) := by decide +kernel
theorem dX1_ofSign_1 : decode cX1_ofSign 1 = .ok (.ldc 9, 2) := by decide +kernel
theorem dX1_ofSign_3 : decode cX1_ofSign 3 = .ok (.iload_n 0, 1) := by decide +kernel
theorem dX1_ofSign_4 : decode cX1_ofSign 4 = .ok (.i2c, 1) := by decide +kernel
theorem dX1_ofSign_5 : decode cX1_ofSign 5 = .ok (.invokevirtual 11, 3) := by decide +kernel
theorem dX1_ofSign_8 : decode cX1_ofSign 8 = .ok (.invokestatic 17, 3) := by decide +kernel
theorem dX1_ofSign_11 : decode cX1_ofSign 11 = .ok (.ireturn, 1) := by decide +kernel
theorem dX1_isSeam_0 : decode cX1_isSeam 0 = .ok (.iload_n 0, 1) := by decide +kernel
theorem dX1_isSeam_1 : decode cX1_isSeam 1 = .ok (.iconst 1, 1) := by decide +kernel
theorem dX1_isSeam_2 : decode cX1_isSeam 2 = .ok (.if_icmp .eq 13, 3) := by decide +kernel
theorem dX1_isSeam_5 : decode cX1_isSeam 5 = .ok (.iload_n 0, 1) := by decide +kernel
theorem dX1_isSeam_6 : decode cX1_isSeam 6 = .ok (.iconst 3, 1) := by decide +kernel
theorem dX1_isSeam_7 : decode cX1_isSeam 7 = .ok (.if_icmp .eq 8, 3) := by decide +kernel
theorem dX1_isSeam_10 : decode cX1_isSeam 10 = .ok (.iload_n 0, 1) := by decide +kernel
theorem dX1_isSeam_11 : decode cX1_isSeam 11 = .ok (.iconst 5, 1) := by decide +kernel
theorem dX1_isSeam_12 : decode cX1_isSeam 12 = .ok (.if_icmp .ne 7, 3) := by decide +kernel
theorem dX1_isSeam_15 : decode cX1_isSeam 15 = .ok (.iconst 1, 1) := by decide +kernel
theorem dX1_isSeam_16 : decode cX1_isSeam 16 = .ok (.goto 4, 3) := by decide +kernel
theorem dX1_isSeam_19 : decode cX1_isSeam 19 = .ok (.iconst 0, 1) := by decide +kernel
theorem dX1_isSeam_20 : decode cX1_isSeam 20 = .ok (.ireturn, 1) := by decide +kernel
theorem dX1_bunchMove_0 : decode cX1_bunchMove 0 = .ok (.iload_n 0, 1) := by decide +kernel
theorem dX1_bunchMove_1 : decode cX1_bunchMove 1 = .ok (.tableswitch 41 1 5 #[35, 39, 37, 41, 35], 35) := by decide +kernel
theorem dX1_bunchMove_36 : decode cX1_bunchMove 36 = .ok (.iconst 1, 1) := by decide +kernel
theorem dX1_bunchMove_37 : decode cX1_bunchMove 37 = .ok (.ireturn, 1) := by decide +kernel
theorem dX1_bunchMove_38 : decode cX1_bunchMove 38 = .ok (.iconst 0, 1) := by decide +kernel
theorem dX1_bunchMove_39 : decode cX1_bunchMove 39 = .ok (.ireturn, 1) := by decide +kernel
theorem dX1_bunchMove_40 : decode cX1_bunchMove 40 = .ok (.iconst 3, 1) := by decide +kernel
theorem dX1_bunchMove_41 : decode cX1_bunchMove 41 = .ok (.ireturn, 1) := by decide +kernel
theorem dX1_bunchMove_42 : decode cX1_bunchMove 42 = .ok (.iconst 2, 1) := by decide +kernel
theorem dX1_bunchMove_43 : decode cX1_bunchMove 43 = .ok (.ireturn, 1) := by decide +kernel
theorem dX1_bunchSeconds_0 : decode cX1_bunchSeconds 0 = .ok (.iload_n 0, 1) := by decide +kernel
theorem dX1_bunchSeconds_1 : decode cX1_bunchSeconds 1 = .ok (.tableswitch 41 1 5 #[35, 41, 35, 37, 35], 35) := by decide +kernel
theorem dX1_bunchSeconds_36 : decode cX1_bunchSeconds 36 = .ok (.iconst 5, 1) := by decide +kernel
theorem dX1_bunchSeconds_37 : decode cX1_bunchSeconds 37 = .ok (.ireturn, 1) := by decide +kernel
theorem dX1_bunchSeconds_38 : decode cX1_bunchSeconds 38 = .ok (.iconst 3, 1) := by decide +kernel
theorem dX1_bunchSeconds_39 : decode cX1_bunchSeconds 39 = .ok (.iload_n 1, 1) := by decide +kernel
theorem dX1_bunchSeconds_40 : decode cX1_bunchSeconds 40 = .ok (.iadd, 1) := by decide +kernel
theorem dX1_bunchSeconds_41 : decode cX1_bunchSeconds 41 = .ok (.ireturn, 1) := by decide +kernel
theorem dX1_bunchSeconds_42 : decode cX1_bunchSeconds 42 = .ok (.iconst 3, 1) := by decide +kernel
theorem dX1_bunchSeconds_43 : decode cX1_bunchSeconds 43 = .ok (.ireturn, 1) := by decide +kernel
theorem dX1_threadSeconds_0 : decode cX1_threadSeconds 0 = .ok (.iload_n 0, 1) := by decide +kernel
theorem dX1_threadSeconds_1 : decode cX1_threadSeconds 1 = .ok (.tableswitch 46 1 5 #[35, 46, 38, 43, 35], 35) := by decide +kernel
theorem dX1_threadSeconds_36 : decode cX1_threadSeconds 36 = .ok (.bipush 9, 2) := by decide +kernel
theorem dX1_threadSeconds_38 : decode cX1_threadSeconds 38 = .ok (.ireturn, 1) := by decide +kernel
theorem dX1_threadSeconds_39 : decode cX1_threadSeconds 39 = .ok (.bipush 9, 2) := by decide +kernel
theorem dX1_threadSeconds_41 : decode cX1_threadSeconds 41 = .ok (.iload_n 1, 1) := by decide +kernel
theorem dX1_threadSeconds_42 : decode cX1_threadSeconds 42 = .ok (.iadd, 1) := by decide +kernel
theorem dX1_threadSeconds_43 : decode cX1_threadSeconds 43 = .ok (.ireturn, 1) := by decide +kernel
theorem dX1_threadSeconds_44 : decode cX1_threadSeconds 44 = .ok (.bipush 6, 2) := by decide +kernel
theorem dX1_threadSeconds_46 : decode cX1_threadSeconds 46 = .ok (.ireturn, 1) := by decide +kernel
theorem dX1_threadSeconds_47 : decode cX1_threadSeconds 47 = .ok (.iconst 4, 1) := by decide +kernel
theorem dX1_threadSeconds_48 : decode cX1_threadSeconds 48 = .ok (.ireturn, 1) := by decide +kernel
theorem dX1_washDraw_0 : decode cX1_washDraw 0 = .ok (.iload_n 0, 1) := by decide +kernel
theorem dX1_washDraw_1 : decode cX1_washDraw 1 = .ok (.tableswitch 45 1 5 #[35, 41, 35, 45, 39], 35) := by decide +kernel
theorem dX1_washDraw_36 : decode cX1_washDraw 36 = .ok (.iload_n 1, 1) := by decide +kernel
theorem dX1_washDraw_37 : decode cX1_washDraw 37 = .ok (.iconst 2, 1) := by decide +kernel
theorem dX1_washDraw_38 : decode cX1_washDraw 38 = .ok (.idiv, 1) := by decide +kernel
theorem dX1_washDraw_39 : decode cX1_washDraw 39 = .ok (.ireturn, 1) := by decide +kernel
theorem dX1_washDraw_40 : decode cX1_washDraw 40 = .ok (.iconst 0, 1) := by decide +kernel
theorem dX1_washDraw_41 : decode cX1_washDraw 41 = .ok (.ireturn, 1) := by decide +kernel
theorem dX1_washDraw_42 : decode cX1_washDraw 42 = .ok (.iload_n 1, 1) := by decide +kernel
theorem dX1_washDraw_43 : decode cX1_washDraw 43 = .ok (.iconst 1, 1) := by decide +kernel
theorem dX1_washDraw_44 : decode cX1_washDraw 44 = .ok (.iadd, 1) := by decide +kernel
theorem dX1_washDraw_45 : decode cX1_washDraw 45 = .ok (.ireturn, 1) := by decide +kernel
theorem dX1_washDraw_46 : decode cX1_washDraw 46 = .ok (.iload_n 1, 1) := by decide +kernel
theorem dX1_washDraw_47 : decode cX1_washDraw 47 = .ok (.ireturn, 1) := by decide +kernel
theorem dX2_init_0 : decode cX2_init 0 = .ok (.aload_n 0, 1) := by decide +kernel
theorem dX2_init_1 : decode cX2_init 1 = .ok (.invokespecial 3, 3) := by decide +kernel
theorem dX2_init_4 : decode cX2_init 4 = .ok (.aload_n 0, 1) := by decide +kernel
theorem dX2_init_5 : decode cX2_init 5 = .ok (.bipush 96, 2) := by decide +kernel
theorem dX2_init_7 : decode cX2_init 7 = .ok (.newarray .int, 2) := by decide +kernel
theorem dX2_init_9 : decode cX2_init 9 = .ok (.putfield 11, 3) := by decide +kernel
theorem dX2_init_12 : decode cX2_init 12 = .ok (.aload_n 0, 1) := by decide +kernel
theorem dX2_init_13 : decode cX2_init 13 = .ok (.iconst 0, 1) := by decide +kernel
theorem dX2_init_14 : decode cX2_init 14 = .ok (.putfield 15, 3) := by decide +kernel
theorem dX2_init_17 : decode cX2_init 17 = .ok (.return_, 1) := by decide +kernel
theorem dX2_isFull_0 : decode cX2_isFull 0 = .ok (.aload_n 0, 1) := by decide +kernel
theorem dX2_isFull_1 : decode cX2_isFull 1 = .ok (.getfield 15, 3) := by decide +kernel
theorem dX2_isFull_4 : decode cX2_isFull 4 = .ok (.aload_n 0, 1) := by decide +kernel
theorem dX2_isFull_5 : decode cX2_isFull 5 = .ok (.getfield 11, 3) := by decide +kernel
theorem dX2_isFull_8 : decode cX2_isFull 8 = .ok (.arraylength, 1) := by decide +kernel
theorem dX2_isFull_9 : decode cX2_isFull 9 = .ok (.if_icmp .lt 7, 3) := by decide +kernel
theorem dX2_isFull_12 : decode cX2_isFull 12 = .ok (.iconst 1, 1) := by decide +kernel
theorem dX2_isFull_13 : decode cX2_isFull 13 = .ok (.goto 4, 3) := by decide +kernel
theorem dX2_isFull_16 : decode cX2_isFull 16 = .ok (.iconst 0, 1) := by decide +kernel
theorem dX2_isFull_17 : decode cX2_isFull 17 = .ok (.ireturn, 1) := by decide +kernel
theorem dX2_add_0 : decode cX2_add 0 = .ok (.aload_n 0, 1) := by decide +kernel
theorem dX2_add_1 : decode cX2_add 1 = .ok (.getfield 15, 3) := by decide +kernel
theorem dX2_add_4 : decode cX2_add 4 = .ok (.ifCond .lt 35, 3) := by decide +kernel
theorem dX2_add_7 : decode cX2_add 7 = .ok (.aload_n 0, 1) := by decide +kernel
theorem dX2_add_8 : decode cX2_add 8 = .ok (.getfield 15, 3) := by decide +kernel
theorem dX2_add_11 : decode cX2_add 11 = .ok (.aload_n 0, 1) := by decide +kernel
theorem dX2_add_12 : decode cX2_add 12 = .ok (.getfield 11, 3) := by decide +kernel
theorem dX2_add_15 : decode cX2_add 15 = .ok (.arraylength, 1) := by decide +kernel
theorem dX2_add_16 : decode cX2_add 16 = .ok (.if_icmp .ge 23, 3) := by decide +kernel
theorem dX2_add_19 : decode cX2_add 19 = .ok (.aload_n 0, 1) := by decide +kernel
theorem dX2_add_20 : decode cX2_add 20 = .ok (.getfield 11, 3) := by decide +kernel
theorem dX2_add_23 : decode cX2_add 23 = .ok (.aload_n 0, 1) := by decide +kernel
theorem dX2_add_24 : decode cX2_add 24 = .ok (.getfield 15, 3) := by decide +kernel
theorem dX2_add_27 : decode cX2_add 27 = .ok (.iload_n 1, 1) := by decide +kernel
theorem dX2_add_28 : decode cX2_add 28 = .ok (.iastore, 1) := by decide +kernel
theorem dX2_add_29 : decode cX2_add 29 = .ok (.aload_n 0, 1) := by decide +kernel
theorem dX2_add_30 : decode cX2_add 30 = .ok (.dup, 1) := by decide +kernel
theorem dX2_add_31 : decode cX2_add 31 = .ok (.getfield 15, 3) := by decide +kernel
theorem dX2_add_34 : decode cX2_add 34 = .ok (.iconst 1, 1) := by decide +kernel
theorem dX2_add_35 : decode cX2_add 35 = .ok (.iadd, 1) := by decide +kernel
theorem dX2_add_36 : decode cX2_add 36 = .ok (.putfield 15, 3) := by decide +kernel
theorem dX2_add_39 : decode cX2_add 39 = .ok (.return_, 1) := by decide +kernel
theorem dX2_clear_0 : decode cX2_clear 0 = .ok (.aload_n 0, 1) := by decide +kernel
theorem dX2_clear_1 : decode cX2_clear 1 = .ok (.iconst 0, 1) := by decide +kernel
theorem dX2_clear_2 : decode cX2_clear 2 = .ok (.putfield 15, 3) := by decide +kernel
theorem dX2_clear_5 : decode cX2_clear 5 = .ok (.return_, 1) := by decide +kernel
theorem dX2_signAt_0 : decode cX2_signAt 0 = .ok (.iload_n 1, 1) := by decide +kernel
theorem dX2_signAt_1 : decode cX2_signAt 1 = .ok (.ifCond .lt 29, 3) := by decide +kernel
theorem dX2_signAt_4 : decode cX2_signAt 4 = .ok (.iload_n 1, 1) := by decide +kernel
theorem dX2_signAt_5 : decode cX2_signAt 5 = .ok (.aload_n 0, 1) := by decide +kernel
theorem dX2_signAt_6 : decode cX2_signAt 6 = .ok (.getfield 15, 3) := by decide +kernel
theorem dX2_signAt_9 : decode cX2_signAt 9 = .ok (.if_icmp .ge 21, 3) := by decide +kernel
theorem dX2_signAt_12 : decode cX2_signAt 12 = .ok (.iload_n 1, 1) := by decide +kernel
theorem dX2_signAt_13 : decode cX2_signAt 13 = .ok (.aload_n 0, 1) := by decide +kernel
theorem dX2_signAt_14 : decode cX2_signAt 14 = .ok (.getfield 11, 3) := by decide +kernel
theorem dX2_signAt_17 : decode cX2_signAt 17 = .ok (.arraylength, 1) := by decide +kernel
theorem dX2_signAt_18 : decode cX2_signAt 18 = .ok (.if_icmp .ge 12, 3) := by decide +kernel
theorem dX2_signAt_21 : decode cX2_signAt 21 = .ok (.aload_n 0, 1) := by decide +kernel
theorem dX2_signAt_22 : decode cX2_signAt 22 = .ok (.getfield 11, 3) := by decide +kernel
theorem dX2_signAt_25 : decode cX2_signAt 25 = .ok (.iload_n 1, 1) := by decide +kernel
theorem dX2_signAt_26 : decode cX2_signAt 26 = .ok (.iaload, 1) := by decide +kernel
theorem dX2_signAt_27 : decode cX2_signAt 27 = .ok (.goto 4, 3) := by decide +kernel
theorem dX2_signAt_30 : decode cX2_signAt 30 = .ok (.iconst 0, 1) := by decide +kernel
theorem dX2_signAt_31 : decode cX2_signAt 31 = .ok (.ireturn, 1) := by decide +kernel
theorem dX2_digit_0 : decode cX2_digit 0 = .ok (.aload_n 0, 1) := by decide +kernel
theorem dX2_digit_1 : decode cX2_digit 1 = .ok (.iload_n 1, 1) := by decide +kernel
theorem dX2_digit_2 : decode cX2_digit 2 = .ok (.invokevirtual 19, 3) := by decide +kernel
theorem dX2_digit_5 : decode cX2_digit 5 = .ok (.bipush 48, 2) := by decide +kernel
theorem dX2_digit_7 : decode cX2_digit 7 = .ok (.isub, 1) := by decide +kernel
theorem dX2_digit_8 : decode cX2_digit 8 = .ok (.ireturn, 1) := by decide +kernel
theorem dX2_number_0 : decode cX2_number 0 = .ok (.bipush 10, 2) := by decide +kernel
theorem dX2_number_2 : decode cX2_number 2 = .ok (.aload_n 0, 1) := by decide +kernel
theorem dX2_number_3 : decode cX2_number 3 = .ok (.iload_n 1, 1) := by decide +kernel
theorem dX2_number_4 : decode cX2_number 4 = .ok (.invokevirtual 23, 3) := by decide +kernel
theorem dX2_number_7 : decode cX2_number 7 = .ok (.imul, 1) := by decide +kernel
theorem dX2_number_8 : decode cX2_number 8 = .ok (.aload_n 0, 1) := by decide +kernel
theorem dX2_number_9 : decode cX2_number 9 = .ok (.iload_n 1, 1) := by decide +kernel
theorem dX2_number_10 : decode cX2_number 10 = .ok (.iconst 1, 1) := by decide +kernel
theorem dX2_number_11 : decode cX2_number 11 = .ok (.iadd, 1) := by decide +kernel
theorem dX2_number_12 : decode cX2_number 12 = .ok (.invokevirtual 23, 3) := by decide +kernel
theorem dX2_number_15 : decode cX2_number 15 = .ok (.iadd, 1) := by decide +kernel
theorem dX2_number_16 : decode cX2_number 16 = .ok (.ireturn, 1) := by decide +kernel
theorem dX2_signed_0 : decode cX2_signed 0 = .ok (.aload_n 0, 1) := by decide +kernel
theorem dX2_signed_1 : decode cX2_signed 1 = .ok (.iload_n 1, 1) := by decide +kernel
theorem dX2_signed_2 : decode cX2_signed 2 = .ok (.invokevirtual 19, 3) := by decide +kernel
theorem dX2_signed_5 : decode cX2_signed 5 = .ok (.bipush 45, 2) := by decide +kernel
theorem dX2_signed_7 : decode cX2_signed 7 = .ok (.if_icmp .ne 14, 3) := by decide +kernel
theorem dX2_signed_10 : decode cX2_signed 10 = .ok (.aload_n 0, 1) := by decide +kernel
theorem dX2_signed_11 : decode cX2_signed 11 = .ok (.iload_n 1, 1) := by decide +kernel
theorem dX2_signed_12 : decode cX2_signed 12 = .ok (.iconst 1, 1) := by decide +kernel
theorem dX2_signed_13 : decode cX2_signed 13 = .ok (.iadd, 1) := by decide +kernel
theorem dX2_signed_14 : decode cX2_signed 14 = .ok (.invokevirtual 26, 3) := by decide +kernel
theorem dX2_signed_17 : decode cX2_signed 17 = .ok (.ineg, 1) := by decide +kernel
theorem dX2_signed_18 : decode cX2_signed 18 = .ok (.goto 10, 3) := by decide +kernel
theorem dX2_signed_21 : decode cX2_signed 21 = .ok (.aload_n 0, 1) := by decide +kernel
theorem dX2_signed_22 : decode cX2_signed 22 = .ok (.iload_n 1, 1) := by decide +kernel
theorem dX2_signed_23 : decode cX2_signed 23 = .ok (.iconst 1, 1) := by decide +kernel
theorem dX2_signed_24 : decode cX2_signed 24 = .ok (.iadd, 1) := by decide +kernel
theorem dX2_signed_25 : decode cX2_signed 25 = .ok (.invokevirtual 26, 3) := by decide +kernel
theorem dX2_signed_28 : decode cX2_signed 28 = .ok (.ireturn, 1) := by decide +kernel
theorem dX2_lengthBehind_0 : decode cX2_lengthBehind 0 = .ok (.aload_n 0, 1) := by decide +kernel
theorem dX2_lengthBehind_1 : decode cX2_lengthBehind 1 = .ok (.iload_n 1, 1) := by decide +kernel
theorem dX2_lengthBehind_2 : decode cX2_lengthBehind 2 = .ok (.invokevirtual 19, 3) := by decide +kernel
theorem dX2_lengthBehind_5 : decode cX2_lengthBehind 5 = .ok (.invokestatic 29, 3) := by decide +kernel
theorem dX2_lengthBehind_8 : decode cX2_lengthBehind 8 = .ok (.invokevirtual 33, 3) := by decide +kernel
theorem dX2_lengthBehind_11 : decode cX2_lengthBehind 11 = .ok (.ireturn, 1) := by decide +kernel
theorem dX2_firstUnfit_0 : decode cX2_firstUnfit 0 = .ok (.iconst 0, 1) := by decide +kernel
theorem dX2_firstUnfit_1 : decode cX2_firstUnfit 1 = .ok (.istore_n 1, 1) := by decide +kernel
theorem dX2_firstUnfit_2 : decode cX2_firstUnfit 2 = .ok (.aload_n 0, 1) := by decide +kernel
theorem dX2_firstUnfit_3 : decode cX2_firstUnfit 3 = .ok (.iload_n 1, 1) := by decide +kernel
theorem dX2_firstUnfit_4 : decode cX2_firstUnfit 4 = .ok (.invokevirtual 19, 3) := by decide +kernel
theorem dX2_firstUnfit_7 : decode cX2_firstUnfit 7 = .ok (.invokestatic 29, 3) := by decide +kernel
theorem dX2_firstUnfit_10 : decode cX2_firstUnfit 10 = .ok (.astore_n 2, 1) := by decide +kernel
theorem dX2_firstUnfit_11 : decode cX2_firstUnfit 11 = .ok (.iload_n 1, 1) := by decide +kernel
theorem dX2_firstUnfit_12 : decode cX2_firstUnfit 12 = .ok (.aload_n 0, 1) := by decide +kernel
theorem dX2_firstUnfit_13 : decode cX2_firstUnfit 13 = .ok (.getfield 15, 3) := by decide +kernel
theorem dX2_firstUnfit_16 : decode cX2_firstUnfit 16 = .ok (.if_icmp .ge 10, 3) := by decide +kernel
theorem dX2_firstUnfit_19 : decode cX2_firstUnfit 19 = .ok (.aload_n 2, 1) := by decide +kernel
theorem dX2_firstUnfit_20 : decode cX2_firstUnfit 20 = .ok (.invokevirtual 39, 3) := by decide +kernel
theorem dX2_firstUnfit_23 : decode cX2_firstUnfit 23 = .ok (.ifCond .eq 5, 3) := by decide +kernel
theorem dX2_firstUnfit_26 : decode cX2_firstUnfit 26 = .ok (.iload_n 1, 1) := by decide +kernel
theorem dX2_firstUnfit_27 : decode cX2_firstUnfit 27 = .ok (.ireturn, 1) := by decide +kernel
theorem dX2_firstUnfit_28 : decode cX2_firstUnfit 28 = .ok (.iinc 1 1, 3) := by decide +kernel
theorem dX2_firstUnfit_31 : decode cX2_firstUnfit 31 = .ok (.iconst 0, 1) := by decide +kernel
theorem dX2_firstUnfit_32 : decode cX2_firstUnfit 32 = .ok (.istore_n 3, 1) := by decide +kernel
theorem dX2_firstUnfit_33 : decode cX2_firstUnfit 33 = .ok (.iload_n 3, 1) := by decide +kernel
theorem dX2_firstUnfit_34 : decode cX2_firstUnfit 34 = .ok (.aload_n 2, 1) := by decide +kernel
theorem dX2_firstUnfit_35 : decode cX2_firstUnfit 35 = .ok (.invokevirtual 33, 3) := by decide +kernel
theorem dX2_firstUnfit_38 : decode cX2_firstUnfit 38 = .ok (.if_icmp .ge 38, 3) := by decide +kernel
theorem dX2_firstUnfit_41 : decode cX2_firstUnfit 41 = .ok (.iload_n 1, 1) := by decide +kernel
theorem dX2_firstUnfit_42 : decode cX2_firstUnfit 42 = .ok (.aload_n 0, 1) := by decide +kernel
theorem dX2_firstUnfit_43 : decode cX2_firstUnfit 43 = .ok (.getfield 15, 3) := by decide +kernel
theorem dX2_firstUnfit_46 : decode cX2_firstUnfit 46 = .ok (.if_icmp .ge 19, 3) := by decide +kernel
theorem dX2_firstUnfit_49 : decode cX2_firstUnfit 49 = .ok (.aload_n 2, 1) := by decide +kernel
theorem dX2_firstUnfit_50 : decode cX2_firstUnfit 50 = .ok (.iload_n 3, 1) := by decide +kernel
theorem dX2_firstUnfit_51 : decode cX2_firstUnfit 51 = .ok (.invokevirtual 43, 3) := by decide +kernel
theorem dX2_firstUnfit_54 : decode cX2_firstUnfit 54 = .ok (.aload_n 0, 1) := by decide +kernel
theorem dX2_firstUnfit_55 : decode cX2_firstUnfit 55 = .ok (.iload_n 1, 1) := by decide +kernel
theorem dX2_firstUnfit_56 : decode cX2_firstUnfit 56 = .ok (.invokevirtual 19, 3) := by decide +kernel
theorem dX2_firstUnfit_59 : decode cX2_firstUnfit 59 = .ok (.invokestatic 47, 3) := by decide +kernel
theorem dX2_firstUnfit_62 : decode cX2_firstUnfit 62 = .ok (.ifCond .ne 5, 3) := by decide +kernel
theorem dX2_firstUnfit_65 : decode cX2_firstUnfit 65 = .ok (.iload_n 1, 1) := by decide +kernel
theorem dX2_firstUnfit_66 : decode cX2_firstUnfit 66 = .ok (.ireturn, 1) := by decide +kernel
theorem dX2_firstUnfit_67 : decode cX2_firstUnfit 67 = .ok (.iinc 1 1, 3) := by decide +kernel
theorem dX2_firstUnfit_70 : decode cX2_firstUnfit 70 = .ok (.iinc 3 1, 3) := by decide +kernel
theorem dX2_firstUnfit_73 : decode cX2_firstUnfit 73 = .ok (.goto (-40), 3) := by decide +kernel
theorem dX2_firstUnfit_76 : decode cX2_firstUnfit 76 = .ok (.iload_n 1, 1) := by decide +kernel
theorem dX2_firstUnfit_77 : decode cX2_firstUnfit 77 = .ok (.aload_n 0, 1) := by decide +kernel
theorem dX2_firstUnfit_78 : decode cX2_firstUnfit 78 = .ok (.getfield 15, 3) := by decide +kernel
theorem dX2_firstUnfit_81 : decode cX2_firstUnfit 81 = .ok (.if_icmp .lt (-79), 3) := by decide +kernel
theorem dX2_firstUnfit_84 : decode cX2_firstUnfit 84 = .ok (.bipush (-9), 2) := by decide +kernel
theorem dX2_firstUnfit_86 : decode cX2_firstUnfit 86 = .ok (.ireturn, 1) := by decide +kernel
theorem dX2_formBehind_0 : decode cX2_formBehind 0 = .ok (.iload_n 0, 1) := by decide +kernel
theorem dX2_formBehind_1 : decode cX2_formBehind 1 = .ok (.tableswitch 106 101 119 #[97, 106, 106, 106, 94, 106, 100, 106, 106, 91, 106, 91, 106, 106, 103, 106, 106, 106, 91], 91) := by decide +kernel
theorem dX2_formBehind_92 : decode cX2_formBehind 92 = .ok (.ldc 51, 2) := by decide +kernel
theorem dX2_formBehind_94 : decode cX2_formBehind 94 = .ok (.areturn, 1) := by decide +kernel
theorem dX2_formBehind_95 : decode cX2_formBehind 95 = .ok (.ldc 53, 2) := by decide +kernel
theorem dX2_formBehind_97 : decode cX2_formBehind 97 = .ok (.areturn, 1) := by decide +kernel
theorem dX2_formBehind_98 : decode cX2_formBehind 98 = .ok (.ldc 55, 2) := by decide +kernel
theorem dX2_formBehind_100 : decode cX2_formBehind 100 = .ok (.areturn, 1) := by decide +kernel
theorem dX2_formBehind_101 : decode cX2_formBehind 101 = .ok (.ldc 57, 2) := by decide +kernel
theorem dX2_formBehind_103 : decode cX2_formBehind 103 = .ok (.areturn, 1) := by decide +kernel
theorem dX2_formBehind_104 : decode cX2_formBehind 104 = .ok (.ldc 59, 2) := by decide +kernel
theorem dX2_formBehind_106 : decode cX2_formBehind 106 = .ok (.areturn, 1) := by decide +kernel
theorem dX2_formBehind_107 : decode cX2_formBehind 107 = .ok (.ldc 61, 2) := by decide +kernel
theorem dX2_formBehind_109 : decode cX2_formBehind 109 = .ok (.areturn, 1) := by decide +kernel
theorem dX2_fits_0 : decode cX2_fits 0 = .ok (.iload_n 0, 1) := by decide +kernel
theorem dX2_fits_1 : decode cX2_fits 1 = .ok (.lookupswitch 76 #[(35, 35), (43, 58), (107, 53)], 35) := by decide +kernel
theorem dX2_fits_36 : decode cX2_fits 36 = .ok (.iload_n 1, 1) := by decide +kernel
theorem dX2_fits_37 : decode cX2_fits 37 = .ok (.bipush 48, 2) := by decide +kernel
theorem dX2_fits_39 : decode cX2_fits 39 = .ok (.if_icmp .lt 13, 3) := by decide +kernel
theorem dX2_fits_42 : decode cX2_fits 42 = .ok (.iload_n 1, 1) := by decide +kernel
theorem dX2_fits_43 : decode cX2_fits 43 = .ok (.bipush 57, 2) := by decide +kernel
theorem dX2_fits_45 : decode cX2_fits 45 = .ok (.if_icmp .gt 7, 3) := by decide +kernel
theorem dX2_fits_48 : decode cX2_fits 48 = .ok (.iconst 1, 1) := by decide +kernel
theorem dX2_fits_49 : decode cX2_fits 49 = .ok (.goto 4, 3) := by decide +kernel
theorem dX2_fits_52 : decode cX2_fits 52 = .ok (.iconst 0, 1) := by decide +kernel
theorem dX2_fits_53 : decode cX2_fits 53 = .ok (.ireturn, 1) := by decide +kernel
theorem dX2_fits_54 : decode cX2_fits 54 = .ok (.iload_n 1, 1) := by decide +kernel
theorem dX2_fits_55 : decode cX2_fits 55 = .ok (.invokestatic 63, 3) := by decide +kernel
theorem dX2_fits_58 : decode cX2_fits 58 = .ok (.ireturn, 1) := by decide +kernel
theorem dX2_fits_59 : decode cX2_fits 59 = .ok (.iload_n 1, 1) := by decide +kernel
theorem dX2_fits_60 : decode cX2_fits 60 = .ok (.bipush 43, 2) := by decide +kernel
theorem dX2_fits_62 : decode cX2_fits 62 = .ok (.if_icmp .eq 9, 3) := by decide +kernel
theorem dX2_fits_65 : decode cX2_fits 65 = .ok (.iload_n 1, 1) := by decide +kernel
theorem dX2_fits_66 : decode cX2_fits 66 = .ok (.bipush 45, 2) := by decide +kernel
theorem dX2_fits_68 : decode cX2_fits 68 = .ok (.if_icmp .ne 7, 3) := by decide +kernel
theorem dX2_fits_71 : decode cX2_fits 71 = .ok (.iconst 1, 1) := by decide +kernel
theorem dX2_fits_72 : decode cX2_fits 72 = .ok (.goto 4, 3) := by decide +kernel
theorem dX2_fits_75 : decode cX2_fits 75 = .ok (.iconst 0, 1) := by decide +kernel
theorem dX2_fits_76 : decode cX2_fits 76 = .ok (.ireturn, 1) := by decide +kernel
theorem dX2_fits_77 : decode cX2_fits 77 = .ok (.iload_n 1, 1) := by decide +kernel
theorem dX2_fits_78 : decode cX2_fits 78 = .ok (.iload_n 0, 1) := by decide +kernel
theorem dX2_fits_79 : decode cX2_fits 79 = .ok (.if_icmp .ne 7, 3) := by decide +kernel
theorem dX2_fits_82 : decode cX2_fits 82 = .ok (.iconst 1, 1) := by decide +kernel
theorem dX2_fits_83 : decode cX2_fits 83 = .ok (.goto 4, 3) := by decide +kernel
theorem dX2_fits_86 : decode cX2_fits 86 = .ok (.iconst 0, 1) := by decide +kernel
theorem dX2_fits_87 : decode cX2_fits 87 = .ok (.ireturn, 1) := by decide +kernel
theorem dX3_init_0 : decode cX3_init 0 = .ok (.aload_n 0, 1) := by decide +kernel
theorem dX3_init_1 : decode cX3_init 1 = .ok (.invokespecial 1, 3) := by decide +kernel
theorem dX3_init_4 : decode cX3_init 4 = .ok (.aload_n 0, 1) := by decide +kernel
theorem dX3_init_5 : decode cX3_init 5 = .ok (.iconst 0, 1) := by decide +kernel
theorem dX3_init_6 : decode cX3_init 6 = .ok (.putfield 7, 3) := by decide +kernel
theorem dX3_init_9 : decode cX3_init 9 = .ok (.aload_n 0, 1) := by decide +kernel
theorem dX3_init_10 : decode cX3_init 10 = .ok (.iconst 0, 1) := by decide +kernel
theorem dX3_init_11 : decode cX3_init 11 = .ok (.putfield 13, 3) := by decide +kernel
theorem dX3_init_14 : decode cX3_init 14 = .ok (.return_, 1) := by decide +kernel
theorem dX3_goOn_0 : decode cX3_goOn 0 = .ok (.aload_n 0, 1) := by decide +kernel
theorem dX3_goOn_1 : decode cX3_goOn 1 = .ok (.iconst 0, 1) := by decide +kernel
theorem dX3_goOn_2 : decode cX3_goOn 2 = .ok (.putfield 7, 3) := by decide +kernel
theorem dX3_goOn_5 : decode cX3_goOn 5 = .ok (.aload_n 0, 1) := by decide +kernel
theorem dX3_goOn_6 : decode cX3_goOn 6 = .ok (.iconst 0, 1) := by decide +kernel
theorem dX3_goOn_7 : decode cX3_goOn 7 = .ok (.putfield 13, 3) := by decide +kernel
theorem dX3_goOn_10 : decode cX3_goOn 10 = .ok (.aload_n 1, 1) := by decide +kernel
theorem dX3_goOn_11 : decode cX3_goOn 11 = .ok (.aload_n 1, 1) := by decide +kernel
theorem dX3_goOn_12 : decode cX3_goOn 12 = .ok (.getfield 16, 3) := by decide +kernel
theorem dX3_goOn_15 : decode cX3_goOn 15 = .ok (.invokevirtual 21, 3) := by decide +kernel
theorem dX3_goOn_18 : decode cX3_goOn 18 = .ok (.istore 4, 2) := by decide +kernel
theorem dX3_goOn_20 : decode cX3_goOn 20 = .ok (.iconst 0, 1) := by decide +kernel
theorem dX3_goOn_21 : decode cX3_goOn 21 = .ok (.istore 5, 2) := by decide +kernel
theorem dX3_goOn_23 : decode cX3_goOn 23 = .ok (.iload 5, 2) := by decide +kernel
theorem dX3_goOn_25 : decode cX3_goOn 25 = .ok (.iload_n 3, 1) := by decide +kernel
theorem dX3_goOn_26 : decode cX3_goOn 26 = .ok (.if_icmp .ge 54, 3) := by decide +kernel
theorem dX3_goOn_29 : decode cX3_goOn 29 = .ok (.aload_n 0, 1) := by decide +kernel
theorem dX3_goOn_30 : decode cX3_goOn 30 = .ok (.getfield 7, 3) := by decide +kernel
theorem dX3_goOn_33 : decode cX3_goOn 33 = .ok (.istore 6, 2) := by decide +kernel
theorem dX3_goOn_35 : decode cX3_goOn 35 = .ok (.aload_n 1, 1) := by decide +kernel
theorem dX3_goOn_36 : decode cX3_goOn 36 = .ok (.invokevirtual 25, 3) := by decide +kernel
theorem dX3_goOn_39 : decode cX3_goOn 39 = .ok (.istore 7, 2) := by decide +kernel
theorem dX3_goOn_41 : decode cX3_goOn 41 = .ok (.aload_n 0, 1) := by decide +kernel
theorem dX3_goOn_42 : decode cX3_goOn 42 = .ok (.aload_n 1, 1) := by decide +kernel
theorem dX3_goOn_43 : decode cX3_goOn 43 = .ok (.aload_n 2, 1) := by decide +kernel
theorem dX3_goOn_44 : decode cX3_goOn 44 = .ok (.iconst 0, 1) := by decide +kernel
theorem dX3_goOn_45 : decode cX3_goOn 45 = .ok (.iload 4, 2) := by decide +kernel
theorem dX3_goOn_47 : decode cX3_goOn 47 = .ok (.invokevirtual 29, 3) := by decide +kernel
theorem dX3_goOn_50 : decode cX3_goOn 50 = .ok (.aload_n 0, 1) := by decide +kernel
theorem dX3_goOn_51 : decode cX3_goOn 51 = .ok (.aload_n 1, 1) := by decide +kernel
theorem dX3_goOn_52 : decode cX3_goOn 52 = .ok (.aload_n 2, 1) := by decide +kernel
theorem dX3_goOn_53 : decode cX3_goOn 53 = .ok (.iconst 1, 1) := by decide +kernel
theorem dX3_goOn_54 : decode cX3_goOn 54 = .ok (.iload 4, 2) := by decide +kernel
theorem dX3_goOn_56 : decode cX3_goOn 56 = .ok (.invokevirtual 29, 3) := by decide +kernel
theorem dX3_goOn_59 : decode cX3_goOn 59 = .ok (.iload 7, 2) := by decide +kernel
theorem dX3_goOn_61 : decode cX3_goOn 61 = .ok (.ifCond .ne 13, 3) := by decide +kernel
theorem dX3_goOn_64 : decode cX3_goOn 64 = .ok (.aload_n 0, 1) := by decide +kernel
theorem dX3_goOn_65 : decode cX3_goOn 65 = .ok (.getfield 7, 3) := by decide +kernel
theorem dX3_goOn_68 : decode cX3_goOn 68 = .ok (.iload 6, 2) := by decide +kernel
theorem dX3_goOn_70 : decode cX3_goOn 70 = .ok (.if_icmp .ne 4, 3) := by decide +kernel
theorem dX3_goOn_73 : decode cX3_goOn 73 = .ok (.return_, 1) := by decide +kernel
theorem dX3_goOn_74 : decode cX3_goOn 74 = .ok (.iinc 5 1, 3) := by decide +kernel
theorem dX3_goOn_77 : decode cX3_goOn 77 = .ok (.goto (-54), 3) := by decide +kernel
theorem dX3_goOn_80 : decode cX3_goOn 80 = .ok (.return_, 1) := by decide +kernel
theorem dX3_mend_0 : decode cX3_mend 0 = .ok (.aload_n 1, 1) := by decide +kernel
theorem dX3_mend_1 : decode cX3_mend 1 = .ok (.iload_n 3, 1) := by decide +kernel
theorem dX3_mend_2 : decode cX3_mend 2 = .ok (.invokevirtual 33, 3) := by decide +kernel
theorem dX3_mend_5 : decode cX3_mend 5 = .ok (.ifCond .ne 4, 3) := by decide +kernel
theorem dX3_mend_8 : decode cX3_mend 8 = .ok (.return_, 1) := by decide +kernel
theorem dX3_mend_9 : decode cX3_mend 9 = .ok (.aload_n 0, 1) := by decide +kernel
theorem dX3_mend_10 : decode cX3_mend 10 = .ok (.dup, 1) := by decide +kernel
theorem dX3_mend_11 : decode cX3_mend 11 = .ok (.getfield 7, 3) := by decide +kernel
theorem dX3_mend_14 : decode cX3_mend 14 = .ok (.iconst 1, 1) := by decide +kernel
theorem dX3_mend_15 : decode cX3_mend 15 = .ok (.iadd, 1) := by decide +kernel
theorem dX3_mend_16 : decode cX3_mend 16 = .ok (.putfield 7, 3) := by decide +kernel
theorem dX3_mend_19 : decode cX3_mend 19 = .ok (.aload_n 2, 1) := by decide +kernel
theorem dX3_mend_20 : decode cX3_mend 20 = .ok (.aload_n 1, 1) := by decide +kernel
theorem dX3_mend_21 : decode cX3_mend 21 = .ok (.iload_n 3, 1) := by decide +kernel
theorem dX3_mend_22 : decode cX3_mend 22 = .ok (.aload_n 1, 1) := by decide +kernel
theorem dX3_mend_23 : decode cX3_mend 23 = .ok (.iload_n 3, 1) := by decide +kernel
theorem dX3_mend_24 : decode cX3_mend 24 = .ok (.invokevirtual 37, 3) := by decide +kernel
theorem dX3_mend_27 : decode cX3_mend 27 = .ok (.invokevirtual 40, 3) := by decide +kernel
theorem dX3_mend_30 : decode cX3_mend 30 = .ok (.aload_n 2, 1) := by decide +kernel
theorem dX3_mend_31 : decode cX3_mend 31 = .ok (.invokevirtual 46, 3) := by decide +kernel
theorem dX3_mend_34 : decode cX3_mend 34 = .ok (.ifCond .eq 12, 3) := by decide +kernel
theorem dX3_mend_37 : decode cX3_mend 37 = .ok (.iload 4, 2) := by decide +kernel
theorem dX3_mend_39 : decode cX3_mend 39 = .ok (.aload_n 2, 1) := by decide +kernel
theorem dX3_mend_40 : decode cX3_mend 40 = .ok (.getfield 50, 3) := by decide +kernel
theorem dX3_mend_43 : decode cX3_mend 43 = .ok (.if_icmp .ge 21, 3) := by decide +kernel
theorem dX3_mend_46 : decode cX3_mend 46 = .ok (.aload_n 1, 1) := by decide +kernel
theorem dX3_mend_47 : decode cX3_mend 47 = .ok (.invokevirtual 51, 3) := by decide +kernel
theorem dX3_mend_50 : decode cX3_mend 50 = .ok (.aload_n 0, 1) := by decide +kernel
theorem dX3_mend_51 : decode cX3_mend 51 = .ok (.dup, 1) := by decide +kernel
theorem dX3_mend_52 : decode cX3_mend 52 = .ok (.getfield 13, 3) := by decide +kernel
theorem dX3_mend_55 : decode cX3_mend 55 = .ok (.iload 4, 2) := by decide +kernel
theorem dX3_mend_57 : decode cX3_mend 57 = .ok (.iadd, 1) := by decide +kernel
theorem dX3_mend_58 : decode cX3_mend 58 = .ok (.putfield 13, 3) := by decide +kernel
theorem dX3_mend_61 : decode cX3_mend 61 = .ok (.goto 22, 3) := by decide +kernel
theorem dX3_mend_64 : decode cX3_mend 64 = .ok (.aload_n 1, 1) := by decide +kernel
theorem dX3_mend_65 : decode cX3_mend 65 = .ok (.iload_n 3, 1) := by decide +kernel
theorem dX3_mend_66 : decode cX3_mend 66 = .ok (.iconst 0, 1) := by decide +kernel
theorem dX3_mend_67 : decode cX3_mend 67 = .ok (.invokevirtual 54, 3) := by decide +kernel
theorem dX3_mend_70 : decode cX3_mend 70 = .ok (.aload_n 0, 1) := by decide +kernel
theorem dX3_mend_71 : decode cX3_mend 71 = .ok (.dup, 1) := by decide +kernel
theorem dX3_mend_72 : decode cX3_mend 72 = .ok (.getfield 13, 3) := by decide +kernel
theorem dX3_mend_75 : decode cX3_mend 75 = .ok (.aload_n 2, 1) := by decide +kernel
theorem dX3_mend_76 : decode cX3_mend 76 = .ok (.getfield 50, 3) := by decide +kernel
theorem dX3_mend_79 : decode cX3_mend 79 = .ok (.iadd, 1) := by decide +kernel
theorem dX3_mend_80 : decode cX3_mend 80 = .ok (.putfield 13, 3) := by decide +kernel
theorem dX3_mend_83 : decode cX3_mend 83 = .ok (.return_, 1) := by decide +kernel
theorem dX4_init_0 : decode cX4_init 0 = .ok (.aload_n 0, 1) := by decide +kernel
theorem dX4_init_1 : decode cX4_init 1 = .ok (.invokespecial 3, 3) := by decide +kernel
theorem dX4_init_4 : decode cX4_init 4 = .ok (.aload_n 0, 1) := by decide +kernel
theorem dX4_init_5 : decode cX4_init 5 = .ok (.bipush 12, 2) := by decide +kernel
theorem dX4_init_7 : decode cX4_init 7 = .ok (.newarray .int, 2) := by decide +kernel
theorem dX4_init_9 : decode cX4_init 9 = .ok (.putfield 11, 3) := by decide +kernel
theorem dX4_init_12 : decode cX4_init 12 = .ok (.aload_n 0, 1) := by decide +kernel
theorem dX4_init_13 : decode cX4_init 13 = .ok (.iconst 0, 1) := by decide +kernel
theorem dX4_init_14 : decode cX4_init 14 = .ok (.putfield 15, 3) := by decide +kernel
theorem dX4_init_17 : decode cX4_init 17 = .ok (.return_, 1) := by decide +kernel
theorem dX4_isFull_0 : decode cX4_isFull 0 = .ok (.aload_n 0, 1) := by decide +kernel
theorem dX4_isFull_1 : decode cX4_isFull 1 = .ok (.getfield 15, 3) := by decide +kernel
theorem dX4_isFull_4 : decode cX4_isFull 4 = .ok (.aload_n 0, 1) := by decide +kernel
theorem dX4_isFull_5 : decode cX4_isFull 5 = .ok (.getfield 11, 3) := by decide +kernel
theorem dX4_isFull_8 : decode cX4_isFull 8 = .ok (.arraylength, 1) := by decide +kernel
theorem dX4_isFull_9 : decode cX4_isFull 9 = .ok (.if_icmp .lt 7, 3) := by decide +kernel
theorem dX4_isFull_12 : decode cX4_isFull 12 = .ok (.iconst 1, 1) := by decide +kernel
theorem dX4_isFull_13 : decode cX4_isFull 13 = .ok (.goto 4, 3) := by decide +kernel
theorem dX4_isFull_16 : decode cX4_isFull 16 = .ok (.iconst 0, 1) := by decide +kernel
theorem dX4_isFull_17 : decode cX4_isFull 17 = .ok (.ireturn, 1) := by decide +kernel
theorem dX4_add_0 : decode cX4_add 0 = .ok (.aload_n 0, 1) := by decide +kernel
theorem dX4_add_1 : decode cX4_add 1 = .ok (.getfield 15, 3) := by decide +kernel
theorem dX4_add_4 : decode cX4_add 4 = .ok (.ifCond .lt 35, 3) := by decide +kernel
theorem dX4_add_7 : decode cX4_add 7 = .ok (.aload_n 0, 1) := by decide +kernel
theorem dX4_add_8 : decode cX4_add 8 = .ok (.getfield 15, 3) := by decide +kernel
theorem dX4_add_11 : decode cX4_add 11 = .ok (.aload_n 0, 1) := by decide +kernel
theorem dX4_add_12 : decode cX4_add 12 = .ok (.getfield 11, 3) := by decide +kernel
theorem dX4_add_15 : decode cX4_add 15 = .ok (.arraylength, 1) := by decide +kernel
theorem dX4_add_16 : decode cX4_add 16 = .ok (.if_icmp .ge 23, 3) := by decide +kernel
theorem dX4_add_19 : decode cX4_add 19 = .ok (.aload_n 0, 1) := by decide +kernel
theorem dX4_add_20 : decode cX4_add 20 = .ok (.getfield 11, 3) := by decide +kernel
theorem dX4_add_23 : decode cX4_add 23 = .ok (.aload_n 0, 1) := by decide +kernel
theorem dX4_add_24 : decode cX4_add 24 = .ok (.getfield 15, 3) := by decide +kernel
theorem dX4_add_27 : decode cX4_add 27 = .ok (.iload_n 1, 1) := by decide +kernel
theorem dX4_add_28 : decode cX4_add 28 = .ok (.iastore, 1) := by decide +kernel
theorem dX4_add_29 : decode cX4_add 29 = .ok (.aload_n 0, 1) := by decide +kernel
theorem dX4_add_30 : decode cX4_add 30 = .ok (.dup, 1) := by decide +kernel
theorem dX4_add_31 : decode cX4_add 31 = .ok (.getfield 15, 3) := by decide +kernel
theorem dX4_add_34 : decode cX4_add 34 = .ok (.iconst 1, 1) := by decide +kernel
theorem dX4_add_35 : decode cX4_add 35 = .ok (.iadd, 1) := by decide +kernel
theorem dX4_add_36 : decode cX4_add 36 = .ok (.putfield 15, 3) := by decide +kernel
theorem dX4_add_39 : decode cX4_add 39 = .ok (.return_, 1) := by decide +kernel
theorem dX4_clear_0 : decode cX4_clear 0 = .ok (.aload_n 0, 1) := by decide +kernel
theorem dX4_clear_1 : decode cX4_clear 1 = .ok (.iconst 0, 1) := by decide +kernel
theorem dX4_clear_2 : decode cX4_clear 2 = .ok (.putfield 15, 3) := by decide +kernel
theorem dX4_clear_5 : decode cX4_clear 5 = .ok (.return_, 1) := by decide +kernel
theorem dX4_firstNotSo_0 : decode cX4_firstNotSo 0 = .ok (.iconst 0, 1) := by decide +kernel
theorem dX4_firstNotSo_1 : decode cX4_firstNotSo 1 = .ok (.istore_n 3, 1) := by decide +kernel
theorem dX4_firstNotSo_2 : decode cX4_firstNotSo 2 = .ok (.iload_n 3, 1) := by decide +kernel
theorem dX4_firstNotSo_3 : decode cX4_firstNotSo 3 = .ok (.aload_n 0, 1) := by decide +kernel
theorem dX4_firstNotSo_4 : decode cX4_firstNotSo 4 = .ok (.getfield 15, 3) := by decide +kernel
theorem dX4_firstNotSo_7 : decode cX4_firstNotSo 7 = .ok (.if_icmp .ge 42, 3) := by decide +kernel
theorem dX4_firstNotSo_10 : decode cX4_firstNotSo 10 = .ok (.iload_n 3, 1) := by decide +kernel
theorem dX4_firstNotSo_11 : decode cX4_firstNotSo 11 = .ok (.aload_n 0, 1) := by decide +kernel
theorem dX4_firstNotSo_12 : decode cX4_firstNotSo 12 = .ok (.getfield 11, 3) := by decide +kernel
theorem dX4_firstNotSo_15 : decode cX4_firstNotSo 15 = .ok (.arraylength, 1) := by decide +kernel
theorem dX4_firstNotSo_16 : decode cX4_firstNotSo 16 = .ok (.if_icmp .ge 33, 3) := by decide +kernel
theorem dX4_firstNotSo_19 : decode cX4_firstNotSo 19 = .ok (.aload_n 0, 1) := by decide +kernel
theorem dX4_firstNotSo_20 : decode cX4_firstNotSo 20 = .ok (.getfield 11, 3) := by decide +kernel
theorem dX4_firstNotSo_23 : decode cX4_firstNotSo 23 = .ok (.iload_n 3, 1) := by decide +kernel
theorem dX4_firstNotSo_24 : decode cX4_firstNotSo 24 = .ok (.iaload, 1) := by decide +kernel
theorem dX4_firstNotSo_25 : decode cX4_firstNotSo 25 = .ok (.aload_n 1, 1) := by decide +kernel
theorem dX4_firstNotSo_26 : decode cX4_firstNotSo 26 = .ok (.iload_n 2, 1) := by decide +kernel
theorem dX4_firstNotSo_27 : decode cX4_firstNotSo 27 = .ok (.invokevirtual 19, 3) := by decide +kernel
theorem dX4_firstNotSo_30 : decode cX4_firstNotSo 30 = .ok (.bipush 50, 2) := by decide +kernel
theorem dX4_firstNotSo_32 : decode cX4_firstNotSo 32 = .ok (.iadd, 1) := by decide +kernel
theorem dX4_firstNotSo_33 : decode cX4_firstNotSo 33 = .ok (.if_icmp .eq 5, 3) := by decide +kernel
theorem dX4_firstNotSo_36 : decode cX4_firstNotSo 36 = .ok (.iload_n 3, 1) := by decide +kernel
theorem dX4_firstNotSo_37 : decode cX4_firstNotSo 37 = .ok (.ireturn, 1) := by decide +kernel
theorem dX4_firstNotSo_38 : decode cX4_firstNotSo 38 = .ok (.aload_n 1, 1) := by decide +kernel
theorem dX4_firstNotSo_39 : decode cX4_firstNotSo 39 = .ok (.invokevirtual 25, 3) := by decide +kernel
theorem dX4_firstNotSo_42 : decode cX4_firstNotSo 42 = .ok (.pop, 1) := by decide +kernel
theorem dX4_firstNotSo_43 : decode cX4_firstNotSo 43 = .ok (.iinc 3 1, 3) := by decide +kernel
theorem dX4_firstNotSo_46 : decode cX4_firstNotSo 46 = .ok (.goto (-44), 3) := by decide +kernel
theorem dX4_firstNotSo_49 : decode cX4_firstNotSo 49 = .ok (.bipush (-9), 2) := by decide +kernel
theorem dX4_firstNotSo_51 : decode cX4_firstNotSo 51 = .ok (.ireturn, 1) := by decide +kernel
theorem dX5_init_0 : decode cX5_init 0 = .ok (.aload_n 0, 1) := by decide +kernel
theorem dX5_init_1 : decode cX5_init 1 = .ok (.invokespecial 3, 3) := by decide +kernel
theorem dX5_init_4 : decode cX5_init 4 = .ok (.aload_n 0, 1) := by decide +kernel
theorem dX5_init_5 : decode cX5_init 5 = .ok (.iconst 0, 1) := by decide +kernel
theorem dX5_init_6 : decode cX5_init 6 = .ok (.putfield 9, 3) := by decide +kernel
theorem dX5_init_9 : decode cX5_init 9 = .ok (.aload_n 0, 1) := by decide +kernel
theorem dX5_init_10 : decode cX5_init 10 = .ok (.iconst 0, 1) := by decide +kernel
theorem dX5_init_11 : decode cX5_init 11 = .ok (.putfield 15, 3) := by decide +kernel
theorem dX5_init_14 : decode cX5_init 14 = .ok (.aload_n 0, 1) := by decide +kernel
theorem dX5_init_15 : decode cX5_init 15 = .ok (.bipush (-9), 2) := by decide +kernel
theorem dX5_init_17 : decode cX5_init 17 = .ok (.putfield 18, 3) := by decide +kernel
theorem dX5_init_20 : decode cX5_init 20 = .ok (.return_, 1) := by decide +kernel
theorem dX5_measure_0 : decode cX5_measure 0 = .ok (.aload_n 0, 1) := by decide +kernel
theorem dX5_measure_1 : decode cX5_measure 1 = .ok (.iconst 0, 1) := by decide +kernel
theorem dX5_measure_2 : decode cX5_measure 2 = .ok (.putfield 9, 3) := by decide +kernel
theorem dX5_measure_5 : decode cX5_measure 5 = .ok (.aload_n 0, 1) := by decide +kernel
theorem dX5_measure_6 : decode cX5_measure 6 = .ok (.iconst 0, 1) := by decide +kernel
theorem dX5_measure_7 : decode cX5_measure 7 = .ok (.putfield 15, 3) := by decide +kernel
theorem dX5_measure_10 : decode cX5_measure 10 = .ok (.aload_n 0, 1) := by decide +kernel
theorem dX5_measure_11 : decode cX5_measure 11 = .ok (.bipush (-9), 2) := by decide +kernel
theorem dX5_measure_13 : decode cX5_measure 13 = .ok (.putfield 18, 3) := by decide +kernel
theorem dX5_measure_16 : decode cX5_measure 16 = .ok (.iload_n 3, 1) := by decide +kernel
theorem dX5_measure_17 : decode cX5_measure 17 = .ok (.istore 4, 2) := by decide +kernel
theorem dX5_measure_19 : decode cX5_measure 19 = .ok (.iconst 0, 1) := by decide +kernel
theorem dX5_measure_20 : decode cX5_measure 20 = .ok (.istore 5, 2) := by decide +kernel
theorem dX5_measure_22 : decode cX5_measure 22 = .ok (.iconst 0, 1) := by decide +kernel
theorem dX5_measure_23 : decode cX5_measure 23 = .ok (.istore 6, 2) := by decide +kernel
theorem dX5_measure_25 : decode cX5_measure 25 = .ok (.bipush (-9), 2) := by decide +kernel
theorem dX5_measure_27 : decode cX5_measure 27 = .ok (.istore 7, 2) := by decide +kernel
theorem dX5_measure_29 : decode cX5_measure 29 = .ok (.iconst 0, 1) := by decide +kernel
theorem dX5_measure_30 : decode cX5_measure 30 = .ok (.istore 8, 2) := by decide +kernel
theorem dX5_measure_32 : decode cX5_measure 32 = .ok (.iload 8, 2) := by decide +kernel
theorem dX5_measure_34 : decode cX5_measure 34 = .ok (.bipush 24, 2) := by decide +kernel
theorem dX5_measure_36 : decode cX5_measure 36 = .ok (.if_icmp .ge 122, 3) := by decide +kernel
theorem dX5_measure_39 : decode cX5_measure 39 = .ok (.iload 4, 2) := by decide +kernel
theorem dX5_measure_41 : decode cX5_measure 41 = .ok (.iconst 1, 1) := by decide +kernel
theorem dX5_measure_42 : decode cX5_measure 42 = .ok (.if_icmp .lt 116, 3) := by decide +kernel
theorem dX5_measure_45 : decode cX5_measure 45 = .ok (.aload_n 1, 1) := by decide +kernel
theorem dX5_measure_46 : decode cX5_measure 46 = .ok (.iload_n 2, 1) := by decide +kernel
theorem dX5_measure_47 : decode cX5_measure 47 = .ok (.iload 4, 2) := by decide +kernel
theorem dX5_measure_49 : decode cX5_measure 49 = .ok (.invokevirtual 21, 3) := by decide +kernel
theorem dX5_measure_52 : decode cX5_measure 52 = .ok (.istore 9, 2) := by decide +kernel
theorem dX5_measure_54 : decode cX5_measure 54 = .ok (.aload_n 1, 1) := by decide +kernel
theorem dX5_measure_55 : decode cX5_measure 55 = .ok (.iload 9, 2) := by decide +kernel
theorem dX5_measure_57 : decode cX5_measure 57 = .ok (.invokevirtual 27, 3) := by decide +kernel
theorem dX5_measure_60 : decode cX5_measure 60 = .ok (.istore 10, 2) := by decide +kernel
theorem dX5_measure_62 : decode cX5_measure 62 = .ok (.iload 10, 2) := by decide +kernel
theorem dX5_measure_64 : decode cX5_measure 64 = .ok (.ifCond .gt 8, 3) := by decide +kernel
theorem dX5_measure_67 : decode cX5_measure 67 = .ok (.aload_n 0, 1) := by decide +kernel
theorem dX5_measure_68 : decode cX5_measure 68 = .ok (.invokevirtual 31, 3) := by decide +kernel
theorem dX5_measure_71 : decode cX5_measure 71 = .ok (.return_, 1) := by decide +kernel
theorem dX5_measure_72 : decode cX5_measure 72 = .ok (.iload 9, 2) := by decide +kernel
theorem dX5_measure_74 : decode cX5_measure 74 = .ok (.iload 7, 2) := by decide +kernel
theorem dX5_measure_76 : decode cX5_measure 76 = .ok (.if_icmp .ne 15, 3) := by decide +kernel
theorem dX5_measure_79 : decode cX5_measure 79 = .ok (.iload 6, 2) := by decide +kernel
theorem dX5_measure_81 : decode cX5_measure 81 = .ok (.aload_n 1, 1) := by decide +kernel
theorem dX5_measure_82 : decode cX5_measure 82 = .ok (.iload 9, 2) := by decide +kernel
theorem dX5_measure_84 : decode cX5_measure 84 = .ok (.invokevirtual 34, 3) := by decide +kernel
theorem dX5_measure_87 : decode cX5_measure 87 = .ok (.iadd, 1) := by decide +kernel
theorem dX5_measure_88 : decode cX5_measure 88 = .ok (.goto 9, 3) := by decide +kernel
theorem dX5_measure_91 : decode cX5_measure 91 = .ok (.aload_n 1, 1) := by decide +kernel
theorem dX5_measure_92 : decode cX5_measure 92 = .ok (.iload 9, 2) := by decide +kernel
theorem dX5_measure_94 : decode cX5_measure 94 = .ok (.invokevirtual 34, 3) := by decide +kernel
theorem dX5_measure_97 : decode cX5_measure 97 = .ok (.istore 6, 2) := by decide +kernel
theorem dX5_measure_99 : decode cX5_measure 99 = .ok (.iload 9, 2) := by decide +kernel
theorem dX5_measure_101 : decode cX5_measure 101 = .ok (.istore 7, 2) := by decide +kernel
theorem dX5_measure_103 : decode cX5_measure 103 = .ok (.iload 6, 2) := by decide +kernel
theorem dX5_measure_105 : decode cX5_measure 105 = .ok (.iload 5, 2) := by decide +kernel
theorem dX5_measure_107 : decode cX5_measure 107 = .ok (.if_icmp .lt 13, 3) := by decide +kernel
theorem dX5_measure_110 : decode cX5_measure 110 = .ok (.iload 6, 2) := by decide +kernel
theorem dX5_measure_112 : decode cX5_measure 112 = .ok (.istore 5, 2) := by decide +kernel
theorem dX5_measure_114 : decode cX5_measure 114 = .ok (.aload_n 0, 1) := by decide +kernel
theorem dX5_measure_115 : decode cX5_measure 115 = .ok (.iload 9, 2) := by decide +kernel
theorem dX5_measure_117 : decode cX5_measure 117 = .ok (.putfield 18, 3) := by decide +kernel
theorem dX5_measure_120 : decode cX5_measure 120 = .ok (.aload_n 0, 1) := by decide +kernel
theorem dX5_measure_121 : decode cX5_measure 121 = .ok (.dup, 1) := by decide +kernel
theorem dX5_measure_122 : decode cX5_measure 122 = .ok (.getfield 9, 3) := by decide +kernel
theorem dX5_measure_125 : decode cX5_measure 125 = .ok (.iconst 1, 1) := by decide +kernel
theorem dX5_measure_126 : decode cX5_measure 126 = .ok (.iadd, 1) := by decide +kernel
theorem dX5_measure_127 : decode cX5_measure 127 = .ok (.putfield 9, 3) := by decide +kernel
theorem dX5_measure_130 : decode cX5_measure 130 = .ok (.aload_n 0, 1) := by decide +kernel
theorem dX5_measure_131 : decode cX5_measure 131 = .ok (.dup, 1) := by decide +kernel
theorem dX5_measure_132 : decode cX5_measure 132 = .ok (.getfield 15, 3) := by decide +kernel
theorem dX5_measure_135 : decode cX5_measure 135 = .ok (.aload_n 1, 1) := by decide +kernel
theorem dX5_measure_136 : decode cX5_measure 136 = .ok (.iload 9, 2) := by decide +kernel
theorem dX5_measure_138 : decode cX5_measure 138 = .ok (.invokevirtual 34, 3) := by decide +kernel
theorem dX5_measure_141 : decode cX5_measure 141 = .ok (.iadd, 1) := by decide +kernel
theorem dX5_measure_142 : decode cX5_measure 142 = .ok (.putfield 15, 3) := by decide +kernel
theorem dX5_measure_145 : decode cX5_measure 145 = .ok (.iload 4, 2) := by decide +kernel
theorem dX5_measure_147 : decode cX5_measure 147 = .ok (.iload 10, 2) := by decide +kernel
theorem dX5_measure_149 : decode cX5_measure 149 = .ok (.isub, 1) := by decide +kernel
theorem dX5_measure_150 : decode cX5_measure 150 = .ok (.istore 4, 2) := by decide +kernel
theorem dX5_measure_152 : decode cX5_measure 152 = .ok (.iinc 8 1, 3) := by decide +kernel
theorem dX5_measure_155 : decode cX5_measure 155 = .ok (.goto (-123), 3) := by decide +kernel
theorem dX5_measure_158 : decode cX5_measure 158 = .ok (.return_, 1) := by decide +kernel
theorem dX5_neverIsOut_0 : decode cX5_neverIsOut 0 = .ok (.aload_n 0, 1) := by decide +kernel
theorem dX5_neverIsOut_1 : decode cX5_neverIsOut 1 = .ok (.bipush (-9), 2) := by decide +kernel
theorem dX5_neverIsOut_3 : decode cX5_neverIsOut 3 = .ok (.putfield 9, 3) := by decide +kernel
theorem dX5_neverIsOut_6 : decode cX5_neverIsOut 6 = .ok (.aload_n 0, 1) := by decide +kernel
theorem dX5_neverIsOut_7 : decode cX5_neverIsOut 7 = .ok (.bipush (-9), 2) := by decide +kernel
theorem dX5_neverIsOut_9 : decode cX5_neverIsOut 9 = .ok (.putfield 15, 3) := by decide +kernel
theorem dX5_neverIsOut_12 : decode cX5_neverIsOut 12 = .ok (.aload_n 0, 1) := by decide +kernel
theorem dX5_neverIsOut_13 : decode cX5_neverIsOut 13 = .ok (.bipush (-9), 2) := by decide +kernel
theorem dX5_neverIsOut_15 : decode cX5_neverIsOut 15 = .ok (.putfield 18, 3) := by decide +kernel
theorem dX5_neverIsOut_18 : decode cX5_neverIsOut 18 = .ok (.return_, 1) := by decide +kernel
theorem dX5_isAWay_0 : decode cX5_isAWay 0 = .ok (.aload_n 0, 1) := by decide +kernel
theorem dX5_isAWay_1 : decode cX5_isAWay 1 = .ok (.getfield 15, 3) := by decide +kernel
theorem dX5_isAWay_4 : decode cX5_isAWay 4 = .ok (.bipush (-9), 2) := by decide +kernel
theorem dX5_isAWay_6 : decode cX5_isAWay 6 = .ok (.if_icmp .eq 7, 3) := by decide +kernel
theorem dX5_isAWay_9 : decode cX5_isAWay 9 = .ok (.iconst 1, 1) := by decide +kernel
theorem dX5_isAWay_10 : decode cX5_isAWay 10 = .ok (.goto 4, 3) := by decide +kernel
theorem dX5_isAWay_13 : decode cX5_isAWay 13 = .ok (.iconst 0, 1) := by decide +kernel
theorem dX5_isAWay_14 : decode cX5_isAWay 14 = .ok (.ireturn, 1) := by decide +kernel
theorem dX5_rank_0 : decode cX5_rank 0 = .ok (.aload_n 0, 1) := by decide +kernel
theorem dX5_rank_1 : decode cX5_rank 1 = .ok (.invokevirtual 37, 3) := by decide +kernel
theorem dX5_rank_4 : decode cX5_rank 4 = .ok (.ifCond .eq 10, 3) := by decide +kernel
theorem dX5_rank_7 : decode cX5_rank 7 = .ok (.aload_n 0, 1) := by decide +kernel
theorem dX5_rank_8 : decode cX5_rank 8 = .ok (.getfield 15, 3) := by decide +kernel
theorem dX5_rank_11 : decode cX5_rank 11 = .ok (.goto 5, 3) := by decide +kernel
theorem dX5_rank_14 : decode cX5_rank 14 = .ok (.ldc 41, 2) := by decide +kernel
theorem dX5_rank_16 : decode cX5_rank 16 = .ok (.ireturn, 1) := by decide +kernel
theorem dX5_secondsOfAll_0 : decode cX5_secondsOfAll 0 = .ok (.iconst 0, 1) := by decide +kernel
theorem dX5_secondsOfAll_1 : decode cX5_secondsOfAll 1 = .ok (.istore_n 2, 1) := by decide +kernel
theorem dX5_secondsOfAll_2 : decode cX5_secondsOfAll 2 = .ok (.iconst 0, 1) := by decide +kernel
theorem dX5_secondsOfAll_3 : decode cX5_secondsOfAll 3 = .ok (.istore_n 3, 1) := by decide +kernel
theorem dX5_secondsOfAll_4 : decode cX5_secondsOfAll 4 = .ok (.iload_n 3, 1) := by decide +kernel
theorem dX5_secondsOfAll_5 : decode cX5_secondsOfAll 5 = .ok (.iconst 1, 1) := by decide +kernel
theorem dX5_secondsOfAll_6 : decode cX5_secondsOfAll 6 = .ok (.if_icmp .gt 37, 3) := by decide +kernel
theorem dX5_secondsOfAll_9 : decode cX5_secondsOfAll 9 = .ok (.aload_n 0, 1) := by decide +kernel
theorem dX5_secondsOfAll_10 : decode cX5_secondsOfAll 10 = .ok (.aload_n 1, 1) := by decide +kernel
theorem dX5_secondsOfAll_11 : decode cX5_secondsOfAll 11 = .ok (.iload_n 3, 1) := by decide +kernel
theorem dX5_secondsOfAll_12 : decode cX5_secondsOfAll 12 = .ok (.aload_n 1, 1) := by decide +kernel
theorem dX5_secondsOfAll_13 : decode cX5_secondsOfAll 13 = .ok (.iload_n 3, 1) := by decide +kernel
theorem dX5_secondsOfAll_14 : decode cX5_secondsOfAll 14 = .ok (.invokevirtual 42, 3) := by decide +kernel
theorem dX5_secondsOfAll_17 : decode cX5_secondsOfAll 17 = .ok (.invokevirtual 45, 3) := by decide +kernel
theorem dX5_secondsOfAll_20 : decode cX5_secondsOfAll 20 = .ok (.aload_n 0, 1) := by decide +kernel
theorem dX5_secondsOfAll_21 : decode cX5_secondsOfAll 21 = .ok (.invokevirtual 37, 3) := by decide +kernel
theorem dX5_secondsOfAll_24 : decode cX5_secondsOfAll 24 = .ok (.ifCond .ne 6, 3) := by decide +kernel
theorem dX5_secondsOfAll_27 : decode cX5_secondsOfAll 27 = .ok (.bipush (-9), 2) := by decide +kernel
theorem dX5_secondsOfAll_29 : decode cX5_secondsOfAll 29 = .ok (.ireturn, 1) := by decide +kernel
theorem dX5_secondsOfAll_30 : decode cX5_secondsOfAll 30 = .ok (.iload_n 2, 1) := by decide +kernel
theorem dX5_secondsOfAll_31 : decode cX5_secondsOfAll 31 = .ok (.aload_n 0, 1) := by decide +kernel
theorem dX5_secondsOfAll_32 : decode cX5_secondsOfAll 32 = .ok (.getfield 15, 3) := by decide +kernel
theorem dX5_secondsOfAll_35 : decode cX5_secondsOfAll 35 = .ok (.iadd, 1) := by decide +kernel
theorem dX5_secondsOfAll_36 : decode cX5_secondsOfAll 36 = .ok (.istore_n 2, 1) := by decide +kernel
theorem dX5_secondsOfAll_37 : decode cX5_secondsOfAll 37 = .ok (.iinc 3 1, 3) := by decide +kernel
theorem dX5_secondsOfAll_40 : decode cX5_secondsOfAll 40 = .ok (.goto (-36), 3) := by decide +kernel
theorem dX5_secondsOfAll_43 : decode cX5_secondsOfAll 43 = .ok (.iload_n 2, 1) := by decide +kernel
theorem dX5_secondsOfAll_44 : decode cX5_secondsOfAll 44 = .ok (.ireturn, 1) := by decide +kernel
theorem dX6_init_0 : decode cX6_init 0 = .ok (.aload_n 0, 1) := by decide +kernel
theorem dX6_init_1 : decode cX6_init 1 = .ok (.invokespecial 1, 3) := by decide +kernel
theorem dX6_init_4 : decode cX6_init 4 = .ok (.aload_n 0, 1) := by decide +kernel
theorem dX6_init_5 : decode cX6_init 5 = .ok (.new 7, 3) := by decide +kernel
theorem dX6_init_8 : decode cX6_init 8 = .ok (.dup, 1) := by decide +kernel
theorem dX6_init_9 : decode cX6_init 9 = .ok (.invokespecial 9, 3) := by decide +kernel
theorem dX6_init_12 : decode cX6_init 12 = .ok (.putfield 10, 3) := by decide +kernel
theorem dX6_init_15 : decode cX6_init 15 = .ok (.aload_n 0, 1) := by decide +kernel
theorem dX6_init_16 : decode cX6_init 16 = .ok (.new 7, 3) := by decide +kernel
theorem dX6_init_19 : decode cX6_init 19 = .ok (.dup, 1) := by decide +kernel
theorem dX6_init_20 : decode cX6_init 20 = .ok (.invokespecial 9, 3) := by decide +kernel
theorem dX6_init_23 : decode cX6_init 23 = .ok (.putfield 16, 3) := by decide +kernel
theorem dX6_init_26 : decode cX6_init 26 = .ok (.aload_n 0, 1) := by decide +kernel
theorem dX6_init_27 : decode cX6_init 27 = .ok (.new 7, 3) := by decide +kernel
theorem dX6_init_30 : decode cX6_init 30 = .ok (.dup, 1) := by decide +kernel
theorem dX6_init_31 : decode cX6_init 31 = .ok (.invokespecial 9, 3) := by decide +kernel
theorem dX6_init_34 : decode cX6_init 34 = .ok (.putfield 19, 3) := by decide +kernel
theorem dX6_init_37 : decode cX6_init 37 = .ok (.aload_n 0, 1) := by decide +kernel
theorem dX6_init_38 : decode cX6_init 38 = .ok (.iconst 0, 1) := by decide +kernel
theorem dX6_init_39 : decode cX6_init 39 = .ok (.putfield 22, 3) := by decide +kernel
theorem dX6_init_42 : decode cX6_init 42 = .ok (.aload_n 0, 1) := by decide +kernel
theorem dX6_init_43 : decode cX6_init 43 = .ok (.new 26, 3) := by decide +kernel
theorem dX6_init_46 : decode cX6_init 46 = .ok (.dup, 1) := by decide +kernel
theorem dX6_init_47 : decode cX6_init 47 = .ok (.invokespecial 28, 3) := by decide +kernel
theorem dX6_init_50 : decode cX6_init 50 = .ok (.putfield 29, 3) := by decide +kernel
theorem dX6_init_53 : decode cX6_init 53 = .ok (.aload_n 0, 1) := by decide +kernel
theorem dX6_init_54 : decode cX6_init 54 = .ok (.new 33, 3) := by decide +kernel
theorem dX6_init_57 : decode cX6_init 57 = .ok (.dup, 1) := by decide +kernel
theorem dX6_init_58 : decode cX6_init 58 = .ok (.invokespecial 35, 3) := by decide +kernel
theorem dX6_init_61 : decode cX6_init 61 = .ok (.putfield 36, 3) := by decide +kernel
theorem dX6_init_64 : decode cX6_init 64 = .ok (.aload_n 0, 1) := by decide +kernel
theorem dX6_init_65 : decode cX6_init 65 = .ok (.new 40, 3) := by decide +kernel
theorem dX6_init_68 : decode cX6_init 68 = .ok (.dup, 1) := by decide +kernel
theorem dX6_init_69 : decode cX6_init 69 = .ok (.invokespecial 42, 3) := by decide +kernel
theorem dX6_init_72 : decode cX6_init 72 = .ok (.putfield 43, 3) := by decide +kernel
theorem dX6_init_75 : decode cX6_init 75 = .ok (.aload_n 0, 1) := by decide +kernel
theorem dX6_init_76 : decode cX6_init 76 = .ok (.new 47, 3) := by decide +kernel
theorem dX6_init_79 : decode cX6_init 79 = .ok (.dup, 1) := by decide +kernel
theorem dX6_init_80 : decode cX6_init 80 = .ok (.invokespecial 49, 3) := by decide +kernel
theorem dX6_init_83 : decode cX6_init 83 = .ok (.putfield 50, 3) := by decide +kernel
theorem dX6_init_86 : decode cX6_init 86 = .ok (.aload_n 0, 1) := by decide +kernel
theorem dX6_init_87 : decode cX6_init 87 = .ok (.bipush 7, 2) := by decide +kernel
theorem dX6_init_89 : decode cX6_init 89 = .ok (.newarray .int, 2) := by decide +kernel
theorem dX6_init_91 : decode cX6_init 91 = .ok (.putfield 54, 3) := by decide +kernel
theorem dX6_init_94 : decode cX6_init 94 = .ok (.return_, 1) := by decide +kernel
theorem dX6_letter_0 : decode cX6_letter 0 = .ok (.iload_n 1, 1) := by decide +kernel
theorem dX6_letter_1 : decode cX6_letter 1 = .ok (.iconst 0, 1) := by decide +kernel
theorem dX6_letter_2 : decode cX6_letter 2 = .ok (.sipush 255, 3) := by decide +kernel
theorem dX6_letter_5 : decode cX6_letter 5 = .ok (.invokestatic 58, 3) := by decide +kernel
theorem dX6_letter_8 : decode cX6_letter 8 = .ok (.istore_n 2, 1) := by decide +kernel
theorem dX6_letter_9 : decode cX6_letter 9 = .ok (.iload_n 2, 1) := by decide +kernel
theorem dX6_letter_10 : decode cX6_letter 10 = .ok (.ifCond .eq 9, 3) := by decide +kernel
theorem dX6_letter_13 : decode cX6_letter 13 = .ok (.aload_n 0, 1) := by decide +kernel
theorem dX6_letter_14 : decode cX6_letter 14 = .ok (.iload_n 2, 1) := by decide +kernel
theorem dX6_letter_15 : decode cX6_letter 15 = .ok (.invokevirtual 62, 3) := by decide +kernel
theorem dX6_letter_18 : decode cX6_letter 18 = .ok (.ireturn, 1) := by decide +kernel
theorem dX6_letter_19 : decode cX6_letter 19 = .ok (.aload_n 0, 1) := by decide +kernel
theorem dX6_letter_20 : decode cX6_letter 20 = .ok (.getfield 43, 3) := by decide +kernel
theorem dX6_letter_23 : decode cX6_letter 23 = .ok (.invokevirtual 66, 3) := by decide +kernel
theorem dX6_letter_26 : decode cX6_letter 26 = .ok (.ifCond .eq 10, 3) := by decide +kernel
theorem dX6_letter_29 : decode cX6_letter 29 = .ok (.aload_n 0, 1) := by decide +kernel
theorem dX6_letter_30 : decode cX6_letter 30 = .ok (.bipush (-6), 2) := by decide +kernel
theorem dX6_letter_32 : decode cX6_letter 32 = .ok (.invokevirtual 62, 3) := by decide +kernel
theorem dX6_letter_35 : decode cX6_letter 35 = .ok (.ireturn, 1) := by decide +kernel
theorem dX6_letter_36 : decode cX6_letter 36 = .ok (.aload_n 0, 1) := by decide +kernel
theorem dX6_letter_37 : decode cX6_letter 37 = .ok (.getfield 43, 3) := by decide +kernel
theorem dX6_letter_40 : decode cX6_letter 40 = .ok (.iload_n 1, 1) := by decide +kernel
theorem dX6_letter_41 : decode cX6_letter 41 = .ok (.invokevirtual 70, 3) := by decide +kernel
theorem dX6_letter_44 : decode cX6_letter 44 = .ok (.aload_n 0, 1) := by decide +kernel
theorem dX6_letter_45 : decode cX6_letter 45 = .ok (.getfield 43, 3) := by decide +kernel
theorem dX6_letter_48 : decode cX6_letter 48 = .ok (.getfield 74, 3) := by decide +kernel
theorem dX6_letter_51 : decode cX6_letter 51 = .ok (.ireturn, 1) := by decide +kernel
theorem dX6_hem_0 : decode cX6_hem 0 = .ok (.aload_n 0, 1) := by decide +kernel
theorem dX6_hem_1 : decode cX6_hem 1 = .ok (.getfield 43, 3) := by decide +kernel
theorem dX6_hem_4 : decode cX6_hem 4 = .ok (.invokevirtual 78, 3) := by decide +kernel
theorem dX6_hem_7 : decode cX6_hem 7 = .ok (.istore_n 1, 1) := by decide +kernel
theorem dX6_hem_8 : decode cX6_hem 8 = .ok (.iload_n 1, 1) := by decide +kernel
theorem dX6_hem_9 : decode cX6_hem 9 = .ok (.bipush (-9), 2) := by decide +kernel
theorem dX6_hem_11 : decode cX6_hem 11 = .ok (.if_icmp .ne 10, 3) := by decide +kernel
theorem dX6_hem_14 : decode cX6_hem 14 = .ok (.aload_n 0, 1) := by decide +kernel
theorem dX6_hem_15 : decode cX6_hem 15 = .ok (.invokevirtual 82, 3) := by decide +kernel
theorem dX6_hem_18 : decode cX6_hem 18 = .ok (.goto 8, 3) := by decide +kernel
theorem dX6_hem_21 : decode cX6_hem 21 = .ok (.sipush (-1000), 3) := by decide +kernel
theorem dX6_hem_24 : decode cX6_hem 24 = .ok (.iload_n 1, 1) := by decide +kernel
theorem dX6_hem_25 : decode cX6_hem 25 = .ok (.isub, 1) := by decide +kernel
theorem dX6_hem_26 : decode cX6_hem 26 = .ok (.istore_n 2, 1) := by decide +kernel
theorem dX6_hem_27 : decode cX6_hem 27 = .ok (.aload_n 0, 1) := by decide +kernel
theorem dX6_hem_28 : decode cX6_hem 28 = .ok (.getfield 43, 3) := by decide +kernel
theorem dX6_hem_31 : decode cX6_hem 31 = .ok (.invokevirtual 85, 3) := by decide +kernel
theorem dX6_hem_34 : decode cX6_hem 34 = .ok (.iload_n 2, 1) := by decide +kernel
theorem dX6_hem_35 : decode cX6_hem 35 = .ok (.ireturn, 1) := by decide +kernel
theorem dX6_inch_0 : decode cX6_inch 0 = .ok (.aload_n 0, 1) := by decide +kernel
theorem dX6_inch_1 : decode cX6_inch 1 = .ok (.getfield 10, 3) := by decide +kernel
theorem dX6_inch_4 : decode cX6_inch 4 = .ok (.iload_n 1, 1) := by decide +kernel
theorem dX6_inch_5 : decode cX6_inch 5 = .ok (.invokevirtual 88, 3) := by decide +kernel
theorem dX6_inch_8 : decode cX6_inch 8 = .ok (.ifCond .ne 9, 3) := by decide +kernel
theorem dX6_inch_11 : decode cX6_inch 11 = .ok (.aload_n 0, 1) := by decide +kernel
theorem dX6_inch_12 : decode cX6_inch 12 = .ok (.iconst (-1), 1) := by decide +kernel
theorem dX6_inch_13 : decode cX6_inch 13 = .ok (.invokevirtual 62, 3) := by decide +kernel
theorem dX6_inch_16 : decode cX6_inch 16 = .ok (.ireturn, 1) := by decide +kernel
theorem dX6_inch_17 : decode cX6_inch 17 = .ok (.iload_n 2, 1) := by decide +kernel
theorem dX6_inch_18 : decode cX6_inch 18 = .ok (.tableswitch 92 0 5 #[38, 47, 56, 65, 74, 83], 38) := by decide +kernel
theorem dX6_inch_56 : decode cX6_inch 56 = .ok (.aload_n 0, 1) := by decide +kernel
theorem dX6_inch_57 : decode cX6_inch 57 = .ok (.getfield 10, 3) := by decide +kernel
theorem dX6_inch_60 : decode cX6_inch 60 = .ok (.iload_n 1, 1) := by decide +kernel
theorem dX6_inch_61 : decode cX6_inch 61 = .ok (.invokevirtual 92, 3) := by decide +kernel
theorem dX6_inch_64 : decode cX6_inch 64 = .ok (.ireturn, 1) := by decide +kernel
theorem dX6_inch_65 : decode cX6_inch 65 = .ok (.aload_n 0, 1) := by decide +kernel
theorem dX6_inch_66 : decode cX6_inch 66 = .ok (.getfield 10, 3) := by decide +kernel
theorem dX6_inch_69 : decode cX6_inch 69 = .ok (.iload_n 1, 1) := by decide +kernel
theorem dX6_inch_70 : decode cX6_inch 70 = .ok (.invokevirtual 95, 3) := by decide +kernel
theorem dX6_inch_73 : decode cX6_inch 73 = .ok (.ireturn, 1) := by decide +kernel
theorem dX6_inch_74 : decode cX6_inch 74 = .ok (.aload_n 0, 1) := by decide +kernel
theorem dX6_inch_75 : decode cX6_inch 75 = .ok (.getfield 10, 3) := by decide +kernel
theorem dX6_inch_78 : decode cX6_inch 78 = .ok (.iload_n 1, 1) := by decide +kernel
theorem dX6_inch_79 : decode cX6_inch 79 = .ok (.invokevirtual 98, 3) := by decide +kernel
theorem dX6_inch_82 : decode cX6_inch 82 = .ok (.ireturn, 1) := by decide +kernel
theorem dX6_inch_83 : decode cX6_inch 83 = .ok (.aload_n 0, 1) := by decide +kernel
theorem dX6_inch_84 : decode cX6_inch 84 = .ok (.getfield 10, 3) := by decide +kernel
theorem dX6_inch_87 : decode cX6_inch 87 = .ok (.iload_n 1, 1) := by decide +kernel
theorem dX6_inch_88 : decode cX6_inch 88 = .ok (.invokevirtual 101, 3) := by decide +kernel
theorem dX6_inch_91 : decode cX6_inch 91 = .ok (.ireturn, 1) := by decide +kernel
theorem dX6_inch_92 : decode cX6_inch 92 = .ok (.aload_n 0, 1) := by decide +kernel
theorem dX6_inch_93 : decode cX6_inch 93 = .ok (.getfield 10, 3) := by decide +kernel
theorem dX6_inch_96 : decode cX6_inch 96 = .ok (.iload_n 1, 1) := by decide +kernel
theorem dX6_inch_97 : decode cX6_inch 97 = .ok (.invokevirtual 104, 3) := by decide +kernel
theorem dX6_inch_100 : decode cX6_inch 100 = .ok (.ireturn, 1) := by decide +kernel
theorem dX6_inch_101 : decode cX6_inch 101 = .ok (.aload_n 0, 1) := by decide +kernel
theorem dX6_inch_102 : decode cX6_inch 102 = .ok (.getfield 10, 3) := by decide +kernel
theorem dX6_inch_105 : decode cX6_inch 105 = .ok (.iload_n 1, 1) := by decide +kernel
theorem dX6_inch_106 : decode cX6_inch 106 = .ok (.invokevirtual 107, 3) := by decide +kernel
theorem dX6_inch_109 : decode cX6_inch 109 = .ok (.ireturn, 1) := by decide +kernel
theorem dX6_inch_110 : decode cX6_inch 110 = .ok (.aload_n 0, 1) := by decide +kernel
theorem dX6_inch_111 : decode cX6_inch 111 = .ok (.bipush (-2), 2) := by decide +kernel
theorem dX6_inch_113 : decode cX6_inch 113 = .ok (.invokevirtual 62, 3) := by decide +kernel
theorem dX6_inch_116 : decode cX6_inch 116 = .ok (.ireturn, 1) := by decide +kernel
theorem dX6_turn_0 : decode cX6_turn 0 = .ok (.aload_n 0, 1) := by decide +kernel
theorem dX6_turn_1 : decode cX6_turn 1 = .ok (.getfield 10, 3) := by decide +kernel
theorem dX6_turn_4 : decode cX6_turn 4 = .ok (.iload_n 1, 1) := by decide +kernel
theorem dX6_turn_5 : decode cX6_turn 5 = .ok (.invokevirtual 88, 3) := by decide +kernel
theorem dX6_turn_8 : decode cX6_turn 8 = .ok (.ifCond .ne 9, 3) := by decide +kernel
theorem dX6_turn_11 : decode cX6_turn 11 = .ok (.aload_n 0, 1) := by decide +kernel
theorem dX6_turn_12 : decode cX6_turn 12 = .ok (.iconst (-1), 1) := by decide +kernel
theorem dX6_turn_13 : decode cX6_turn 13 = .ok (.invokevirtual 62, 3) := by decide +kernel
theorem dX6_turn_16 : decode cX6_turn 16 = .ok (.ireturn, 1) := by decide +kernel
theorem dX6_turn_17 : decode cX6_turn 17 = .ok (.iload_n 2, 1) := by decide +kernel
theorem dX6_turn_18 : decode cX6_turn 18 = .ok (.ifCond .lt 9, 3) := by decide +kernel
theorem dX6_turn_21 : decode cX6_turn 21 = .ok (.iload_n 2, 1) := by decide +kernel
theorem dX6_turn_22 : decode cX6_turn 22 = .ok (.bipush 6, 2) := by decide +kernel
theorem dX6_turn_24 : decode cX6_turn 24 = .ok (.if_icmp .lt 10, 3) := by decide +kernel
theorem dX6_turn_27 : decode cX6_turn 27 = .ok (.aload_n 0, 1) := by decide +kernel
theorem dX6_turn_28 : decode cX6_turn 28 = .ok (.bipush (-2), 2) := by decide +kernel
theorem dX6_turn_30 : decode cX6_turn 30 = .ok (.invokevirtual 62, 3) := by decide +kernel
theorem dX6_turn_33 : decode cX6_turn 33 = .ok (.ireturn, 1) := by decide +kernel
theorem dX6_turn_34 : decode cX6_turn 34 = .ok (.iload_n 3, 1) := by decide +kernel
theorem dX6_turn_35 : decode cX6_turn 35 = .ok (.iconst 0, 1) := by decide +kernel
theorem dX6_turn_36 : decode cX6_turn 36 = .ok (.bipush 9, 2) := by decide +kernel
theorem dX6_turn_38 : decode cX6_turn 38 = .ok (.invokestatic 58, 3) := by decide +kernel
theorem dX6_turn_41 : decode cX6_turn 41 = .ok (.istore 4, 2) := by decide +kernel
theorem dX6_turn_43 : decode cX6_turn 43 = .ok (.iload 4, 2) := by decide +kernel
theorem dX6_turn_45 : decode cX6_turn 45 = .ok (.ifCond .eq 10, 3) := by decide +kernel
theorem dX6_turn_48 : decode cX6_turn 48 = .ok (.aload_n 0, 1) := by decide +kernel
theorem dX6_turn_49 : decode cX6_turn 49 = .ok (.iload 4, 2) := by decide +kernel
theorem dX6_turn_51 : decode cX6_turn 51 = .ok (.invokevirtual 62, 3) := by decide +kernel
theorem dX6_turn_54 : decode cX6_turn 54 = .ok (.ireturn, 1) := by decide +kernel
theorem dX6_turn_55 : decode cX6_turn 55 = .ok (.bipush 10, 2) := by decide +kernel
theorem dX6_turn_57 : decode cX6_turn 57 = .ok (.aload_n 0, 1) := by decide +kernel
theorem dX6_turn_58 : decode cX6_turn 58 = .ok (.getfield 10, 3) := by decide +kernel
theorem dX6_turn_61 : decode cX6_turn 61 = .ok (.iload_n 1, 1) := by decide +kernel
theorem dX6_turn_62 : decode cX6_turn 62 = .ok (.invokevirtual 92, 3) := by decide +kernel
theorem dX6_turn_65 : decode cX6_turn 65 = .ok (.imul, 1) := by decide +kernel
theorem dX6_turn_66 : decode cX6_turn 66 = .ok (.aload_n 0, 1) := by decide +kernel
theorem dX6_turn_67 : decode cX6_turn 67 = .ok (.getfield 10, 3) := by decide +kernel
theorem dX6_turn_70 : decode cX6_turn 70 = .ok (.iload_n 1, 1) := by decide +kernel
theorem dX6_turn_71 : decode cX6_turn 71 = .ok (.invokevirtual 95, 3) := by decide +kernel
theorem dX6_turn_74 : decode cX6_turn 74 = .ok (.iadd, 1) := by decide +kernel
theorem dX6_turn_75 : decode cX6_turn 75 = .ok (.istore 5, 2) := by decide +kernel
theorem dX6_turn_77 : decode cX6_turn 77 = .ok (.aload_n 0, 1) := by decide +kernel
theorem dX6_turn_78 : decode cX6_turn 78 = .ok (.getfield 10, 3) := by decide +kernel
theorem dX6_turn_81 : decode cX6_turn 81 = .ok (.iload_n 1, 1) := by decide +kernel
theorem dX6_turn_82 : decode cX6_turn 82 = .ok (.iload_n 2, 1) := by decide +kernel
theorem dX6_turn_83 : decode cX6_turn 83 = .ok (.iload_n 3, 1) := by decide +kernel
theorem dX6_turn_84 : decode cX6_turn 84 = .ok (.invokevirtual 112, 3) := by decide +kernel
theorem dX6_turn_87 : decode cX6_turn 87 = .ok (.iload 5, 2) := by decide +kernel
theorem dX6_turn_89 : decode cX6_turn 89 = .ok (.ireturn, 1) := by decide +kernel
theorem dX6_inches_0 : decode cX6_inches 0 = .ok (.iload_n 1, 1) := by decide +kernel
theorem dX6_inches_1 : decode cX6_inches 1 = .ok (.iconst 2, 1) := by decide +kernel
theorem dX6_inches_2 : decode cX6_inches 2 = .ok (.bipush 12, 2) := by decide +kernel
theorem dX6_inches_4 : decode cX6_inches 4 = .ok (.invokestatic 58, 3) := by decide +kernel
theorem dX6_inches_7 : decode cX6_inches 7 = .ok (.istore_n 2, 1) := by decide +kernel
theorem dX6_inches_8 : decode cX6_inches 8 = .ok (.iload_n 2, 1) := by decide +kernel
theorem dX6_inches_9 : decode cX6_inches 9 = .ok (.ifCond .eq 9, 3) := by decide +kernel
theorem dX6_inches_12 : decode cX6_inches 12 = .ok (.aload_n 0, 1) := by decide +kernel
theorem dX6_inches_13 : decode cX6_inches 13 = .ok (.iload_n 2, 1) := by decide +kernel
theorem dX6_inches_14 : decode cX6_inches 14 = .ok (.invokevirtual 62, 3) := by decide +kernel
theorem dX6_inches_17 : decode cX6_inches 17 = .ok (.ireturn, 1) := by decide +kernel
theorem dX6_inches_18 : decode cX6_inches 18 = .ok (.aload_n 0, 1) := by decide +kernel
theorem dX6_inches_19 : decode cX6_inches 19 = .ok (.getfield 10, 3) := by decide +kernel
theorem dX6_inches_22 : decode cX6_inches 22 = .ok (.getfield 116, 3) := by decide +kernel
theorem dX6_inches_25 : decode cX6_inches 25 = .ok (.istore_n 3, 1) := by decide +kernel
theorem dX6_inches_26 : decode cX6_inches 26 = .ok (.aload_n 0, 1) := by decide +kernel
theorem dX6_inches_27 : decode cX6_inches 27 = .ok (.getfield 10, 3) := by decide +kernel
theorem dX6_inches_30 : decode cX6_inches 30 = .ok (.iload_n 1, 1) := by decide +kernel
theorem dX6_inches_31 : decode cX6_inches 31 = .ok (.putfield 116, 3) := by decide +kernel
theorem dX6_inches_34 : decode cX6_inches 34 = .ok (.iload_n 3, 1) := by decide +kernel
theorem dX6_inches_35 : decode cX6_inches 35 = .ok (.ireturn, 1) := by decide +kernel
theorem dX6_end_0 : decode cX6_end 0 = .ok (.iload_n 1, 1) := by decide +kernel
theorem dX6_end_1 : decode cX6_end 1 = .ok (.invokestatic 119, 3) := by decide +kernel
theorem dX6_end_4 : decode cX6_end 4 = .ok (.ifCond .ne 9, 3) := by decide +kernel
theorem dX6_end_7 : decode cX6_end 7 = .ok (.aload_n 0, 1) := by decide +kernel
theorem dX6_end_8 : decode cX6_end 8 = .ok (.iconst (-1), 1) := by decide +kernel
theorem dX6_end_9 : decode cX6_end 9 = .ok (.invokevirtual 122, 3) := by decide +kernel
theorem dX6_end_12 : decode cX6_end 12 = .ok (.ireturn, 1) := by decide +kernel
theorem dX6_end_13 : decode cX6_end 13 = .ok (.iload_n 2, 1) := by decide +kernel
theorem dX6_end_14 : decode cX6_end 14 = .ok (.bipush (-40), 2) := by decide +kernel
theorem dX6_end_16 : decode cX6_end 16 = .ok (.bipush 24, 2) := by decide +kernel
theorem dX6_end_18 : decode cX6_end 18 = .ok (.invokestatic 58, 3) := by decide +kernel
theorem dX6_end_21 : decode cX6_end 21 = .ok (.istore_n 3, 1) := by decide +kernel
theorem dX6_end_22 : decode cX6_end 22 = .ok (.iload_n 3, 1) := by decide +kernel
theorem dX6_end_23 : decode cX6_end 23 = .ok (.ifCond .eq 9, 3) := by decide +kernel
theorem dX6_end_26 : decode cX6_end 26 = .ok (.aload_n 0, 1) := by decide +kernel
theorem dX6_end_27 : decode cX6_end 27 = .ok (.iload_n 3, 1) := by decide +kernel
theorem dX6_end_28 : decode cX6_end 28 = .ok (.invokevirtual 122, 3) := by decide +kernel
theorem dX6_end_31 : decode cX6_end 31 = .ok (.ireturn, 1) := by decide +kernel
theorem dX6_end_32 : decode cX6_end 32 = .ok (.aload_n 0, 1) := by decide +kernel
theorem dX6_end_33 : decode cX6_end 33 = .ok (.getfield 10, 3) := by decide +kernel
theorem dX6_end_36 : decode cX6_end 36 = .ok (.iload_n 1, 1) := by decide +kernel
theorem dX6_end_37 : decode cX6_end 37 = .ok (.invokevirtual 125, 3) := by decide +kernel
theorem dX6_end_40 : decode cX6_end 40 = .ok (.istore 4, 2) := by decide +kernel
theorem dX6_end_42 : decode cX6_end 42 = .ok (.aload_n 0, 1) := by decide +kernel
theorem dX6_end_43 : decode cX6_end 43 = .ok (.getfield 10, 3) := by decide +kernel
theorem dX6_end_46 : decode cX6_end 46 = .ok (.iload_n 1, 1) := by decide +kernel
theorem dX6_end_47 : decode cX6_end 47 = .ok (.iload_n 2, 1) := by decide +kernel
theorem dX6_end_48 : decode cX6_end 48 = .ok (.invokevirtual 128, 3) := by decide +kernel
theorem dX6_end_51 : decode cX6_end 51 = .ok (.iload 4, 2) := by decide +kernel
theorem dX6_end_53 : decode cX6_end 53 = .ok (.ireturn, 1) := by decide +kernel
theorem dX6_tie_0 : decode cX6_tie 0 = .ok (.iload_n 1, 1) := by decide +kernel
theorem dX6_tie_1 : decode cX6_tie 1 = .ok (.invokestatic 119, 3) := by decide +kernel
theorem dX6_tie_4 : decode cX6_tie 4 = .ok (.ifCond .ne 9, 3) := by decide +kernel
theorem dX6_tie_7 : decode cX6_tie 7 = .ok (.aload_n 0, 1) := by decide +kernel
theorem dX6_tie_8 : decode cX6_tie 8 = .ok (.iconst (-1), 1) := by decide +kernel
theorem dX6_tie_9 : decode cX6_tie 9 = .ok (.invokevirtual 62, 3) := by decide +kernel
theorem dX6_tie_12 : decode cX6_tie 12 = .ok (.ireturn, 1) := by decide +kernel
theorem dX6_tie_13 : decode cX6_tie 13 = .ok (.aload_n 0, 1) := by decide +kernel
theorem dX6_tie_14 : decode cX6_tie 14 = .ok (.getfield 10, 3) := by decide +kernel
theorem dX6_tie_17 : decode cX6_tie 17 = .ok (.iload_n 1, 1) := by decide +kernel
theorem dX6_tie_18 : decode cX6_tie 18 = .ok (.aload_n 0, 1) := by decide +kernel
theorem dX6_tie_19 : decode cX6_tie 19 = .ok (.getfield 10, 3) := by decide +kernel
theorem dX6_tie_22 : decode cX6_tie 22 = .ok (.iload_n 1, 1) := by decide +kernel
theorem dX6_tie_23 : decode cX6_tie 23 = .ok (.invokevirtual 132, 3) := by decide +kernel
theorem dX6_tie_26 : decode cX6_tie 26 = .ok (.ifCond .ne 7, 3) := by decide +kernel
theorem dX6_tie_29 : decode cX6_tie 29 = .ok (.iconst 1, 1) := by decide +kernel
theorem dX6_tie_30 : decode cX6_tie 30 = .ok (.goto 4, 3) := by decide +kernel
theorem dX6_tie_33 : decode cX6_tie 33 = .ok (.iconst 0, 1) := by decide +kernel
theorem dX6_tie_34 : decode cX6_tie 34 = .ok (.invokevirtual 135, 3) := by decide +kernel
theorem dX6_tie_37 : decode cX6_tie 37 = .ok (.aload_n 0, 1) := by decide +kernel
theorem dX6_tie_38 : decode cX6_tie 38 = .ok (.getfield 10, 3) := by decide +kernel
theorem dX6_tie_41 : decode cX6_tie 41 = .ok (.iload_n 1, 1) := by decide +kernel
theorem dX6_tie_42 : decode cX6_tie 42 = .ok (.invokevirtual 132, 3) := by decide +kernel
theorem dX6_tie_45 : decode cX6_tie 45 = .ok (.ifCond .eq 7, 3) := by decide +kernel
theorem dX6_tie_48 : decode cX6_tie 48 = .ok (.iconst 1, 1) := by decide +kernel
theorem dX6_tie_49 : decode cX6_tie 49 = .ok (.goto 4, 3) := by decide +kernel
theorem dX6_tie_52 : decode cX6_tie 52 = .ok (.iconst 0, 1) := by decide +kernel
theorem dX6_tie_53 : decode cX6_tie 53 = .ok (.ireturn, 1) := by decide +kernel
theorem dX6_sew_0 : decode cX6_sew 0 = .ok (.aload_n 0, 1) := by decide +kernel
theorem dX6_sew_1 : decode cX6_sew 1 = .ok (.getfield 10, 3) := by decide +kernel
theorem dX6_sew_4 : decode cX6_sew 4 = .ok (.aload_n 0, 1) := by decide +kernel
theorem dX6_sew_5 : decode cX6_sew 5 = .ok (.getfield 10, 3) := by decide +kernel
theorem dX6_sew_8 : decode cX6_sew 8 = .ok (.getfield 139, 3) := by decide +kernel
