theorem dX6_washesTillLost_17 : decode cX6_washesTillLost 17 = .ok (.if_icmp .gt 29, 3) := by decide +kernel
theorem dX6_washesTillLost_20 : decode cX6_washesTillLost 20 = .ok (.aload_n 0, 1) := by decide +kernel
theorem dX6_washesTillLost_21 : decode cX6_washesTillLost 21 = .ok (.getfield 16, 3) := by decide +kernel
theorem dX6_washesTillLost_24 : decode cX6_washesTillLost 24 = .ok (.invokevirtual 172, 3) := by decide +kernel
theorem dX6_washesTillLost_27 : decode cX6_washesTillLost 27 = .ok (.ifCond .le 5, 3) := by decide +kernel
theorem dX6_washesTillLost_30 : decode cX6_washesTillLost 30 = .ok (.iload_n 1, 1) := by decide +kernel
theorem dX6_washesTillLost_31 : decode cX6_washesTillLost 31 = .ok (.ireturn, 1) := by decide +kernel
theorem dX6_washesTillLost_32 : decode cX6_washesTillLost 32 = .ok (.aload_n 0, 1) := by decide +kernel
theorem dX6_washesTillLost_33 : decode cX6_washesTillLost 33 = .ok (.getfield 16, 3) := by decide +kernel
theorem dX6_washesTillLost_36 : decode cX6_washesTillLost 36 = .ok (.invokevirtual 202, 3) := by decide +kernel
theorem dX6_washesTillLost_39 : decode cX6_washesTillLost 39 = .ok (.pop, 1) := by decide +kernel
theorem dX6_washesTillLost_40 : decode cX6_washesTillLost 40 = .ok (.iinc 1 1, 3) := by decide +kernel
theorem dX6_washesTillLost_43 : decode cX6_washesTillLost 43 = .ok (.goto (-30), 3) := by decide +kernel
theorem dX6_washesTillLost_46 : decode cX6_washesTillLost 46 = .ok (.bipush (-9), 2) := by decide +kernel
theorem dX6_washesTillLost_48 : decode cX6_washesTillLost 48 = .ok (.ireturn, 1) := by decide +kernel
theorem dX6_secondsWithStop_0 : decode cX6_secondsWithStop 0 = .ok (.aload_n 0, 1) := by decide +kernel
theorem dX6_secondsWithStop_1 : decode cX6_secondsWithStop 1 = .ok (.getfield 16, 3) := by decide +kernel
theorem dX6_secondsWithStop_4 : decode cX6_secondsWithStop 4 = .ok (.aload_n 0, 1) := by decide +kernel
theorem dX6_secondsWithStop_5 : decode cX6_secondsWithStop 5 = .ok (.getfield 10, 3) := by decide +kernel
theorem dX6_secondsWithStop_8 : decode cX6_secondsWithStop 8 = .ok (.invokevirtual 195, 3) := by decide +kernel
theorem dX6_secondsWithStop_11 : decode cX6_secondsWithStop 11 = .ok (.iconst 0, 1) := by decide +kernel
theorem dX6_secondsWithStop_12 : decode cX6_secondsWithStop 12 = .ok (.istore_n 3, 1) := by decide +kernel
theorem dX6_secondsWithStop_13 : decode cX6_secondsWithStop 13 = .ok (.iload_n 1, 1) := by decide +kernel
theorem dX6_secondsWithStop_14 : decode cX6_secondsWithStop 14 = .ok (.iconst 1, 1) := by decide +kernel
theorem dX6_secondsWithStop_15 : decode cX6_secondsWithStop 15 = .ok (.if_icmp .eq 8, 3) := by decide +kernel
theorem dX6_secondsWithStop_18 : decode cX6_secondsWithStop 18 = .ok (.iload_n 1, 1) := by decide +kernel
theorem dX6_secondsWithStop_19 : decode cX6_secondsWithStop 19 = .ok (.iconst 3, 1) := by decide +kernel
theorem dX6_secondsWithStop_20 : decode cX6_secondsWithStop 20 = .ok (.if_icmp .ne 15, 3) := by decide +kernel
theorem dX6_secondsWithStop_23 : decode cX6_secondsWithStop 23 = .ok (.aload_n 0, 1) := by decide +kernel
theorem dX6_secondsWithStop_24 : decode cX6_secondsWithStop 24 = .ok (.getfield 16, 3) := by decide +kernel
theorem dX6_secondsWithStop_27 : decode cX6_secondsWithStop 27 = .ok (.iconst 0, 1) := by decide +kernel
theorem dX6_secondsWithStop_28 : decode cX6_secondsWithStop 28 = .ok (.iconst 1, 1) := by decide +kernel
theorem dX6_secondsWithStop_29 : decode cX6_secondsWithStop 29 = .ok (.invokevirtual 135, 3) := by decide +kernel
theorem dX6_secondsWithStop_32 : decode cX6_secondsWithStop 32 = .ok (.iinc 3 20, 3) := by decide +kernel
theorem dX6_secondsWithStop_35 : decode cX6_secondsWithStop 35 = .ok (.iload_n 1, 1) := by decide +kernel
theorem dX6_secondsWithStop_36 : decode cX6_secondsWithStop 36 = .ok (.iconst 2, 1) := by decide +kernel
theorem dX6_secondsWithStop_37 : decode cX6_secondsWithStop 37 = .ok (.if_icmp .eq 8, 3) := by decide +kernel
theorem dX6_secondsWithStop_40 : decode cX6_secondsWithStop 40 = .ok (.iload_n 1, 1) := by decide +kernel
theorem dX6_secondsWithStop_41 : decode cX6_secondsWithStop 41 = .ok (.iconst 3, 1) := by decide +kernel
theorem dX6_secondsWithStop_42 : decode cX6_secondsWithStop 42 = .ok (.if_icmp .ne 15, 3) := by decide +kernel
theorem dX6_secondsWithStop_45 : decode cX6_secondsWithStop 45 = .ok (.aload_n 0, 1) := by decide +kernel
theorem dX6_secondsWithStop_46 : decode cX6_secondsWithStop 46 = .ok (.getfield 16, 3) := by decide +kernel
theorem dX6_secondsWithStop_49 : decode cX6_secondsWithStop 49 = .ok (.iconst 1, 1) := by decide +kernel
theorem dX6_secondsWithStop_50 : decode cX6_secondsWithStop 50 = .ok (.iconst 1, 1) := by decide +kernel
theorem dX6_secondsWithStop_51 : decode cX6_secondsWithStop 51 = .ok (.invokevirtual 135, 3) := by decide +kernel
theorem dX6_secondsWithStop_54 : decode cX6_secondsWithStop 54 = .ok (.iinc 3 20, 3) := by decide +kernel
theorem dX6_secondsWithStop_57 : decode cX6_secondsWithStop 57 = .ok (.iload_n 1, 1) := by decide +kernel
theorem dX6_secondsWithStop_58 : decode cX6_secondsWithStop 58 = .ok (.iconst 4, 1) := by decide +kernel
theorem dX6_secondsWithStop_59 : decode cX6_secondsWithStop 59 = .ok (.if_icmp .ne 14, 3) := by decide +kernel
theorem dX6_secondsWithStop_62 : decode cX6_secondsWithStop 62 = .ok (.aload_n 0, 1) := by decide +kernel
theorem dX6_secondsWithStop_63 : decode cX6_secondsWithStop 63 = .ok (.getfield 16, 3) := by decide +kernel
theorem dX6_secondsWithStop_66 : decode cX6_secondsWithStop 66 = .ok (.iconst 1, 1) := by decide +kernel
theorem dX6_secondsWithStop_67 : decode cX6_secondsWithStop 67 = .ok (.putfield 139, 3) := by decide +kernel
theorem dX6_secondsWithStop_70 : decode cX6_secondsWithStop 70 = .ok (.iinc 3 50, 3) := by decide +kernel
theorem dX6_secondsWithStop_73 : decode cX6_secondsWithStop 73 = .ok (.aload_n 0, 1) := by decide +kernel
theorem dX6_secondsWithStop_74 : decode cX6_secondsWithStop 74 = .ok (.getfield 36, 3) := by decide +kernel
theorem dX6_secondsWithStop_77 : decode cX6_secondsWithStop 77 = .ok (.aload_n 0, 1) := by decide +kernel
theorem dX6_secondsWithStop_78 : decode cX6_secondsWithStop 78 = .ok (.getfield 16, 3) := by decide +kernel
theorem dX6_secondsWithStop_81 : decode cX6_secondsWithStop 81 = .ok (.aload_n 0, 1) := by decide +kernel
theorem dX6_secondsWithStop_82 : decode cX6_secondsWithStop 82 = .ok (.getfield 29, 3) := by decide +kernel
theorem dX6_secondsWithStop_85 : decode cX6_secondsWithStop 85 = .ok (.iload_n 2, 1) := by decide +kernel
theorem dX6_secondsWithStop_86 : decode cX6_secondsWithStop 86 = .ok (.invokevirtual 211, 3) := by decide +kernel
theorem dX6_secondsWithStop_89 : decode cX6_secondsWithStop 89 = .ok (.iload_n 3, 1) := by decide +kernel
theorem dX6_secondsWithStop_90 : decode cX6_secondsWithStop 90 = .ok (.aload_n 0, 1) := by decide +kernel
theorem dX6_secondsWithStop_91 : decode cX6_secondsWithStop 91 = .ok (.getfield 36, 3) := by decide +kernel
theorem dX6_secondsWithStop_94 : decode cX6_secondsWithStop 94 = .ok (.getfield 284, 3) := by decide +kernel
theorem dX6_secondsWithStop_97 : decode cX6_secondsWithStop 97 = .ok (.iadd, 1) := by decide +kernel
theorem dX6_secondsWithStop_98 : decode cX6_secondsWithStop 98 = .ok (.ireturn, 1) := by decide +kernel
theorem dX6_rankWithCloth_0 : decode cX6_rankWithCloth 0 = .ok (.aload_n 0, 1) := by decide +kernel
theorem dX6_rankWithCloth_1 : decode cX6_rankWithCloth 1 = .ok (.getfield 16, 3) := by decide +kernel
theorem dX6_rankWithCloth_4 : decode cX6_rankWithCloth 4 = .ok (.aload_n 0, 1) := by decide +kernel
theorem dX6_rankWithCloth_5 : decode cX6_rankWithCloth 5 = .ok (.getfield 10, 3) := by decide +kernel
theorem dX6_rankWithCloth_8 : decode cX6_rankWithCloth 8 = .ok (.invokevirtual 195, 3) := by decide +kernel
theorem dX6_rankWithCloth_11 : decode cX6_rankWithCloth 11 = .ok (.aload_n 0, 1) := by decide +kernel
theorem dX6_rankWithCloth_12 : decode cX6_rankWithCloth 12 = .ok (.getfield 16, 3) := by decide +kernel
theorem dX6_rankWithCloth_15 : decode cX6_rankWithCloth 15 = .ok (.iload_n 1, 1) := by decide +kernel
theorem dX6_rankWithCloth_16 : decode cX6_rankWithCloth 16 = .ok (.iconst 0, 1) := by decide +kernel
theorem dX6_rankWithCloth_17 : decode cX6_rankWithCloth 17 = .ok (.iconst 0, 1) := by decide +kernel
theorem dX6_rankWithCloth_18 : decode cX6_rankWithCloth 18 = .ok (.invokevirtual 112, 3) := by decide +kernel
theorem dX6_rankWithCloth_21 : decode cX6_rankWithCloth 21 = .ok (.aload_n 0, 1) := by decide +kernel
theorem dX6_rankWithCloth_22 : decode cX6_rankWithCloth 22 = .ok (.getfield 29, 3) := by decide +kernel
theorem dX6_rankWithCloth_25 : decode cX6_rankWithCloth 25 = .ok (.aload_n 0, 1) := by decide +kernel
theorem dX6_rankWithCloth_26 : decode cX6_rankWithCloth 26 = .ok (.getfield 16, 3) := by decide +kernel
theorem dX6_rankWithCloth_29 : decode cX6_rankWithCloth 29 = .ok (.iload_n 2, 1) := by decide +kernel
theorem dX6_rankWithCloth_30 : decode cX6_rankWithCloth 30 = .ok (.aload_n 0, 1) := by decide +kernel
theorem dX6_rankWithCloth_31 : decode cX6_rankWithCloth 31 = .ok (.getfield 16, 3) := by decide +kernel
theorem dX6_rankWithCloth_34 : decode cX6_rankWithCloth 34 = .ok (.iload_n 2, 1) := by decide +kernel
theorem dX6_rankWithCloth_35 : decode cX6_rankWithCloth 35 = .ok (.invokevirtual 125, 3) := by decide +kernel
theorem dX6_rankWithCloth_38 : decode cX6_rankWithCloth 38 = .ok (.invokevirtual 175, 3) := by decide +kernel
theorem dX6_rankWithCloth_41 : decode cX6_rankWithCloth 41 = .ok (.aload_n 0, 1) := by decide +kernel
theorem dX6_rankWithCloth_42 : decode cX6_rankWithCloth 42 = .ok (.getfield 29, 3) := by decide +kernel
theorem dX6_rankWithCloth_45 : decode cX6_rankWithCloth 45 = .ok (.invokevirtual 218, 3) := by decide +kernel
theorem dX6_rankWithCloth_48 : decode cX6_rankWithCloth 48 = .ok (.ireturn, 1) := by decide +kernel
theorem dX6_kindsByRow_0 : decode cX6_kindsByRow 0 = .ok (.iconst 0, 1) := by decide +kernel
theorem dX6_kindsByRow_1 : decode cX6_kindsByRow 1 = .ok (.istore_n 2, 1) := by decide +kernel
theorem dX6_kindsByRow_2 : decode cX6_kindsByRow 2 = .ok (.iconst 0, 1) := by decide +kernel
theorem dX6_kindsByRow_3 : decode cX6_kindsByRow 3 = .ok (.istore_n 3, 1) := by decide +kernel
theorem dX6_kindsByRow_4 : decode cX6_kindsByRow 4 = .ok (.iload_n 3, 1) := by decide +kernel
theorem dX6_kindsByRow_5 : decode cX6_kindsByRow 5 = .ok (.bipush 6, 2) := by decide +kernel
theorem dX6_kindsByRow_7 : decode cX6_kindsByRow 7 = .ok (.if_icmp .ge 60, 3) := by decide +kernel
theorem dX6_kindsByRow_10 : decode cX6_kindsByRow 10 = .ok (.aload_n 0, 1) := by decide +kernel
theorem dX6_kindsByRow_11 : decode cX6_kindsByRow 11 = .ok (.getfield 16, 3) := by decide +kernel
theorem dX6_kindsByRow_14 : decode cX6_kindsByRow 14 = .ok (.aload_n 0, 1) := by decide +kernel
theorem dX6_kindsByRow_15 : decode cX6_kindsByRow 15 = .ok (.getfield 10, 3) := by decide +kernel
theorem dX6_kindsByRow_18 : decode cX6_kindsByRow 18 = .ok (.invokevirtual 195, 3) := by decide +kernel
theorem dX6_kindsByRow_21 : decode cX6_kindsByRow 21 = .ok (.aload_n 0, 1) := by decide +kernel
theorem dX6_kindsByRow_22 : decode cX6_kindsByRow 22 = .ok (.getfield 16, 3) := by decide +kernel
theorem dX6_kindsByRow_25 : decode cX6_kindsByRow 25 = .ok (.iload_n 1, 1) := by decide +kernel
theorem dX6_kindsByRow_26 : decode cX6_kindsByRow 26 = .ok (.iload_n 3, 1) := by decide +kernel
theorem dX6_kindsByRow_27 : decode cX6_kindsByRow 27 = .ok (.aload_n 0, 1) := by decide +kernel
theorem dX6_kindsByRow_28 : decode cX6_kindsByRow 28 = .ok (.getfield 10, 3) := by decide +kernel
theorem dX6_kindsByRow_31 : decode cX6_kindsByRow 31 = .ok (.iload_n 1, 1) := by decide +kernel
theorem dX6_kindsByRow_32 : decode cX6_kindsByRow 32 = .ok (.invokevirtual 95, 3) := by decide +kernel
theorem dX6_kindsByRow_35 : decode cX6_kindsByRow 35 = .ok (.invokevirtual 112, 3) := by decide +kernel
theorem dX6_kindsByRow_38 : decode cX6_kindsByRow 38 = .ok (.aload_n 0, 1) := by decide +kernel
theorem dX6_kindsByRow_39 : decode cX6_kindsByRow 39 = .ok (.getfield 50, 3) := by decide +kernel
theorem dX6_kindsByRow_42 : decode cX6_kindsByRow 42 = .ok (.aload_n 0, 1) := by decide +kernel
theorem dX6_kindsByRow_43 : decode cX6_kindsByRow 43 = .ok (.getfield 16, 3) := by decide +kernel
theorem dX6_kindsByRow_46 : decode cX6_kindsByRow 46 = .ok (.iconst 0, 1) := by decide +kernel
theorem dX6_kindsByRow_47 : decode cX6_kindsByRow 47 = .ok (.invokevirtual 242, 3) := by decide +kernel
theorem dX6_kindsByRow_50 : decode cX6_kindsByRow 50 = .ok (.bipush (-9), 2) := by decide +kernel
theorem dX6_kindsByRow_52 : decode cX6_kindsByRow 52 = .ok (.if_icmp .ne 9, 3) := by decide +kernel
theorem dX6_kindsByRow_55 : decode cX6_kindsByRow 55 = .ok (.iload_n 2, 1) := by decide +kernel
theorem dX6_kindsByRow_56 : decode cX6_kindsByRow 56 = .ok (.iconst 1, 1) := by decide +kernel
theorem dX6_kindsByRow_57 : decode cX6_kindsByRow 57 = .ok (.iload_n 3, 1) := by decide +kernel
theorem dX6_kindsByRow_58 : decode cX6_kindsByRow 58 = .ok (.ishl, 1) := by decide +kernel
theorem dX6_kindsByRow_59 : decode cX6_kindsByRow 59 = .ok (.ior, 1) := by decide +kernel
theorem dX6_kindsByRow_60 : decode cX6_kindsByRow 60 = .ok (.istore_n 2, 1) := by decide +kernel
theorem dX6_kindsByRow_61 : decode cX6_kindsByRow 61 = .ok (.iinc 3 1, 3) := by decide +kernel
theorem dX6_kindsByRow_64 : decode cX6_kindsByRow 64 = .ok (.goto (-60), 3) := by decide +kernel
theorem dX6_kindsByRow_67 : decode cX6_kindsByRow 67 = .ok (.iload_n 2, 1) := by decide +kernel
theorem dX6_kindsByRow_68 : decode cX6_kindsByRow 68 = .ok (.ireturn, 1) := by decide +kernel
theorem dX6_strengthsByRow_0 : decode cX6_strengthsByRow 0 = .ok (.iconst 0, 1) := by decide +kernel
theorem dX6_strengthsByRow_1 : decode cX6_strengthsByRow 1 = .ok (.istore_n 1, 1) := by decide +kernel
theorem dX6_strengthsByRow_2 : decode cX6_strengthsByRow 2 = .ok (.iconst 0, 1) := by decide +kernel
theorem dX6_strengthsByRow_3 : decode cX6_strengthsByRow 3 = .ok (.istore_n 2, 1) := by decide +kernel
theorem dX6_strengthsByRow_4 : decode cX6_strengthsByRow 4 = .ok (.iload_n 2, 1) := by decide +kernel
theorem dX6_strengthsByRow_5 : decode cX6_strengthsByRow 5 = .ok (.bipush 9, 2) := by decide +kernel
theorem dX6_strengthsByRow_7 : decode cX6_strengthsByRow 7 = .ok (.if_icmp .gt 51, 3) := by decide +kernel
theorem dX6_strengthsByRow_10 : decode cX6_strengthsByRow 10 = .ok (.aload_n 0, 1) := by decide +kernel
theorem dX6_strengthsByRow_11 : decode cX6_strengthsByRow 11 = .ok (.getfield 16, 3) := by decide +kernel
theorem dX6_strengthsByRow_14 : decode cX6_strengthsByRow 14 = .ok (.aload_n 0, 1) := by decide +kernel
theorem dX6_strengthsByRow_15 : decode cX6_strengthsByRow 15 = .ok (.getfield 10, 3) := by decide +kernel
theorem dX6_strengthsByRow_18 : decode cX6_strengthsByRow 18 = .ok (.invokevirtual 195, 3) := by decide +kernel
theorem dX6_strengthsByRow_21 : decode cX6_strengthsByRow 21 = .ok (.aload_n 0, 1) := by decide +kernel
theorem dX6_strengthsByRow_22 : decode cX6_strengthsByRow 22 = .ok (.getfield 16, 3) := by decide +kernel
theorem dX6_strengthsByRow_25 : decode cX6_strengthsByRow 25 = .ok (.iload_n 2, 1) := by decide +kernel
theorem dX6_strengthsByRow_26 : decode cX6_strengthsByRow 26 = .ok (.putfield 145, 3) := by decide +kernel
theorem dX6_strengthsByRow_29 : decode cX6_strengthsByRow 29 = .ok (.aload_n 0, 1) := by decide +kernel
theorem dX6_strengthsByRow_30 : decode cX6_strengthsByRow 30 = .ok (.getfield 50, 3) := by decide +kernel
theorem dX6_strengthsByRow_33 : decode cX6_strengthsByRow 33 = .ok (.aload_n 0, 1) := by decide +kernel
theorem dX6_strengthsByRow_34 : decode cX6_strengthsByRow 34 = .ok (.getfield 16, 3) := by decide +kernel
theorem dX6_strengthsByRow_37 : decode cX6_strengthsByRow 37 = .ok (.iconst 0, 1) := by decide +kernel
theorem dX6_strengthsByRow_38 : decode cX6_strengthsByRow 38 = .ok (.invokevirtual 242, 3) := by decide +kernel
theorem dX6_strengthsByRow_41 : decode cX6_strengthsByRow 41 = .ok (.bipush (-9), 2) := by decide +kernel
theorem dX6_strengthsByRow_43 : decode cX6_strengthsByRow 43 = .ok (.if_icmp .ne 9, 3) := by decide +kernel
theorem dX6_strengthsByRow_46 : decode cX6_strengthsByRow 46 = .ok (.iload_n 1, 1) := by decide +kernel
theorem dX6_strengthsByRow_47 : decode cX6_strengthsByRow 47 = .ok (.iconst 1, 1) := by decide +kernel
theorem dX6_strengthsByRow_48 : decode cX6_strengthsByRow 48 = .ok (.iload_n 2, 1) := by decide +kernel
theorem dX6_strengthsByRow_49 : decode cX6_strengthsByRow 49 = .ok (.ishl, 1) := by decide +kernel
theorem dX6_strengthsByRow_50 : decode cX6_strengthsByRow 50 = .ok (.ior, 1) := by decide +kernel
theorem dX6_strengthsByRow_51 : decode cX6_strengthsByRow 51 = .ok (.istore_n 1, 1) := by decide +kernel
theorem dX6_strengthsByRow_52 : decode cX6_strengthsByRow 52 = .ok (.iinc 2 1, 3) := by decide +kernel
theorem dX6_strengthsByRow_55 : decode cX6_strengthsByRow 55 = .ok (.goto (-51), 3) := by decide +kernel
theorem dX6_strengthsByRow_58 : decode cX6_strengthsByRow 58 = .ok (.iload_n 1, 1) := by decide +kernel
theorem dX6_strengthsByRow_59 : decode cX6_strengthsByRow 59 = .ok (.ireturn, 1) := by decide +kernel
theorem dX6_lotSeconds_0 : decode cX6_lotSeconds 0 = .ok (.aload_n 0, 1) := by decide +kernel
theorem dX6_lotSeconds_1 : decode cX6_lotSeconds 1 = .ok (.getfield 29, 3) := by decide +kernel
theorem dX6_lotSeconds_4 : decode cX6_lotSeconds 4 = .ok (.aload_n 0, 1) := by decide +kernel
theorem dX6_lotSeconds_5 : decode cX6_lotSeconds 5 = .ok (.getfield 16, 3) := by decide +kernel
theorem dX6_lotSeconds_8 : decode cX6_lotSeconds 8 = .ok (.iload_n 1, 1) := by decide +kernel
theorem dX6_lotSeconds_9 : decode cX6_lotSeconds 9 = .ok (.aload_n 0, 1) := by decide +kernel
theorem dX6_lotSeconds_10 : decode cX6_lotSeconds 10 = .ok (.getfield 16, 3) := by decide +kernel
theorem dX6_lotSeconds_13 : decode cX6_lotSeconds 13 = .ok (.iload_n 1, 1) := by decide +kernel
theorem dX6_lotSeconds_14 : decode cX6_lotSeconds 14 = .ok (.invokevirtual 125, 3) := by decide +kernel
theorem dX6_lotSeconds_17 : decode cX6_lotSeconds 17 = .ok (.invokevirtual 175, 3) := by decide +kernel
theorem dX6_lotSeconds_20 : decode cX6_lotSeconds 20 = .ok (.aload_n 0, 1) := by decide +kernel
theorem dX6_lotSeconds_21 : decode cX6_lotSeconds 21 = .ok (.getfield 29, 3) := by decide +kernel
theorem dX6_lotSeconds_24 : decode cX6_lotSeconds 24 = .ok (.invokevirtual 205, 3) := by decide +kernel
theorem dX6_lotSeconds_27 : decode cX6_lotSeconds 27 = .ok (.ifCond .eq 13, 3) := by decide +kernel
theorem dX6_lotSeconds_30 : decode cX6_lotSeconds 30 = .ok (.aload_n 0, 1) := by decide +kernel
theorem dX6_lotSeconds_31 : decode cX6_lotSeconds 31 = .ok (.getfield 29, 3) := by decide +kernel
theorem dX6_lotSeconds_34 : decode cX6_lotSeconds 34 = .ok (.getfield 182, 3) := by decide +kernel
theorem dX6_lotSeconds_37 : decode cX6_lotSeconds 37 = .ok (.goto 5, 3) := by decide +kernel
theorem dX6_lotSeconds_40 : decode cX6_lotSeconds 40 = .ok (.bipush 100, 2) := by decide +kernel
theorem dX6_lotSeconds_42 : decode cX6_lotSeconds 42 = .ok (.ireturn, 1) := by decide +kernel
theorem dX7_init_0 : decode cX7_init 0 = .ok (.aload_n 0, 1) := by decide +kernel
theorem dX7_init_1 : decode cX7_init 1 = .ok (.invokespecial 1, 3) := by decide +kernel
theorem dX7_init_4 : decode cX7_init 4 = .ok (.aload_n 0, 1) := by decide +kernel
theorem dX7_init_5 : decode cX7_init 5 = .ok (.bipush 32, 2) := by decide +kernel
theorem dX7_init_7 : decode cX7_init 7 = .ok (.newarray .int, 2) := by decide +kernel
theorem dX7_init_9 : decode cX7_init 9 = .ok (.putfield 9, 3) := by decide +kernel
theorem dX7_init_12 : decode cX7_init 12 = .ok (.aload_n 0, 1) := by decide +kernel
theorem dX7_init_13 : decode cX7_init 13 = .ok (.bipush 32, 2) := by decide +kernel
theorem dX7_init_15 : decode cX7_init 15 = .ok (.newarray .int, 2) := by decide +kernel
theorem dX7_init_17 : decode cX7_init 17 = .ok (.putfield 13, 3) := by decide +kernel
theorem dX7_init_20 : decode cX7_init 20 = .ok (.aload_n 0, 1) := by decide +kernel
theorem dX7_init_21 : decode cX7_init 21 = .ok (.bipush 32, 2) := by decide +kernel
theorem dX7_init_23 : decode cX7_init 23 = .ok (.newarray .int, 2) := by decide +kernel
theorem dX7_init_25 : decode cX7_init 25 = .ok (.putfield 16, 3) := by decide +kernel
theorem dX7_init_28 : decode cX7_init 28 = .ok (.aload_n 0, 1) := by decide +kernel
theorem dX7_init_29 : decode cX7_init 29 = .ok (.bipush 32, 2) := by decide +kernel
theorem dX7_init_31 : decode cX7_init 31 = .ok (.newarray .int, 2) := by decide +kernel
theorem dX7_init_33 : decode cX7_init 33 = .ok (.putfield 19, 3) := by decide +kernel
theorem dX7_init_36 : decode cX7_init 36 = .ok (.aload_n 0, 1) := by decide +kernel
theorem dX7_init_37 : decode cX7_init 37 = .ok (.bipush 96, 2) := by decide +kernel
theorem dX7_init_39 : decode cX7_init 39 = .ok (.newarray .int, 2) := by decide +kernel
theorem dX7_init_41 : decode cX7_init 41 = .ok (.putfield 22, 3) := by decide +kernel
theorem dX7_init_44 : decode cX7_init 44 = .ok (.aload_n 0, 1) := by decide +kernel
theorem dX7_init_45 : decode cX7_init 45 = .ok (.bipush 12, 2) := by decide +kernel
theorem dX7_init_47 : decode cX7_init 47 = .ok (.newarray .int, 2) := by decide +kernel
theorem dX7_init_49 : decode cX7_init 49 = .ok (.putfield 25, 3) := by decide +kernel
theorem dX7_init_52 : decode cX7_init 52 = .ok (.aload_n 0, 1) := by decide +kernel
theorem dX7_init_53 : decode cX7_init 53 = .ok (.bipush 7, 2) := by decide +kernel
theorem dX7_init_55 : decode cX7_init 55 = .ok (.newarray .int, 2) := by decide +kernel
theorem dX7_init_57 : decode cX7_init 57 = .ok (.putfield 28, 3) := by decide +kernel
theorem dX7_init_60 : decode cX7_init 60 = .ok (.aload_n 0, 1) := by decide +kernel
theorem dX7_init_61 : decode cX7_init 61 = .ok (.bipush 12, 2) := by decide +kernel
theorem dX7_init_63 : decode cX7_init 63 = .ok (.newarray .int, 2) := by decide +kernel
theorem dX7_init_65 : decode cX7_init 65 = .ok (.putfield 31, 3) := by decide +kernel
theorem dX7_init_68 : decode cX7_init 68 = .ok (.aload_n 0, 1) := by decide +kernel
theorem dX7_init_69 : decode cX7_init 69 = .ok (.iconst 3, 1) := by decide +kernel
theorem dX7_init_70 : decode cX7_init 70 = .ok (.newarray .int, 2) := by decide +kernel
theorem dX7_init_72 : decode cX7_init 72 = .ok (.putfield 34, 3) := by decide +kernel
theorem dX7_init_75 : decode cX7_init 75 = .ok (.aload_n 0, 1) := by decide +kernel
theorem dX7_init_76 : decode cX7_init 76 = .ok (.getfield 9, 3) := by decide +kernel
theorem dX7_init_79 : decode cX7_init 79 = .ok (.iconst 0, 1) := by decide +kernel
theorem dX7_init_80 : decode cX7_init 80 = .ok (.bipush 6, 2) := by decide +kernel
theorem dX7_init_82 : decode cX7_init 82 = .ok (.iastore, 1) := by decide +kernel
theorem dX7_init_83 : decode cX7_init 83 = .ok (.aload_n 0, 1) := by decide +kernel
theorem dX7_init_84 : decode cX7_init 84 = .ok (.getfield 9, 3) := by decide +kernel
theorem dX7_init_87 : decode cX7_init 87 = .ok (.iconst 1, 1) := by decide +kernel
theorem dX7_init_88 : decode cX7_init 88 = .ok (.bipush (-8), 2) := by decide +kernel
theorem dX7_init_90 : decode cX7_init 90 = .ok (.iastore, 1) := by decide +kernel
theorem dX7_init_91 : decode cX7_init 91 = .ok (.aload_n 0, 1) := by decide +kernel
theorem dX7_init_92 : decode cX7_init 92 = .ok (.getfield 9, 3) := by decide +kernel
theorem dX7_init_95 : decode cX7_init 95 = .ok (.iconst 2, 1) := by decide +kernel
theorem dX7_init_96 : decode cX7_init 96 = .ok (.bipush (-8), 2) := by decide +kernel
theorem dX7_init_98 : decode cX7_init 98 = .ok (.iastore, 1) := by decide +kernel
theorem dX7_init_99 : decode cX7_init 99 = .ok (.aload_n 0, 1) := by decide +kernel
theorem dX7_init_100 : decode cX7_init 100 = .ok (.getfield 9, 3) := by decide +kernel
theorem dX7_init_103 : decode cX7_init 103 = .ok (.bipush 6, 2) := by decide +kernel
theorem dX7_init_105 : decode cX7_init 105 = .ok (.iconst 3, 1) := by decide +kernel
theorem dX7_init_106 : decode cX7_init 106 = .ok (.iastore, 1) := by decide +kernel
theorem dX7_init_107 : decode cX7_init 107 = .ok (.aload_n 0, 1) := by decide +kernel
theorem dX7_init_108 : decode cX7_init 108 = .ok (.getfield 9, 3) := by decide +kernel
theorem dX7_init_111 : decode cX7_init 111 = .ok (.bipush 7, 2) := by decide +kernel
theorem dX7_init_113 : decode cX7_init 113 = .ok (.iconst 3, 1) := by decide +kernel
theorem dX7_init_114 : decode cX7_init 114 = .ok (.iastore, 1) := by decide +kernel
theorem dX7_init_115 : decode cX7_init 115 = .ok (.return_, 1) := by decide +kernel
theorem dX7_isIn_0 : decode cX7_isIn 0 = .ok (.iload_n 0, 1) := by decide +kernel
theorem dX7_isIn_1 : decode cX7_isIn 1 = .ok (.iload_n 1, 1) := by decide +kernel
theorem dX7_isIn_2 : decode cX7_isIn 2 = .ok (.if_icmp .lt 12, 3) := by decide +kernel
theorem dX7_isIn_5 : decode cX7_isIn 5 = .ok (.iload_n 0, 1) := by decide +kernel
theorem dX7_isIn_6 : decode cX7_isIn 6 = .ok (.iload_n 2, 1) := by decide +kernel
theorem dX7_isIn_7 : decode cX7_isIn 7 = .ok (.if_icmp .gt 7, 3) := by decide +kernel
theorem dX7_isIn_10 : decode cX7_isIn 10 = .ok (.iconst 1, 1) := by decide +kernel
theorem dX7_isIn_11 : decode cX7_isIn 11 = .ok (.goto 4, 3) := by decide +kernel
theorem dX7_isIn_14 : decode cX7_isIn 14 = .ok (.iconst 0, 1) := by decide +kernel
theorem dX7_isIn_15 : decode cX7_isIn 15 = .ok (.ireturn, 1) := by decide +kernel
theorem dX7_least_0 : decode cX7_least 0 = .ok (.iload_n 0, 1) := by decide +kernel
theorem dX7_least_1 : decode cX7_least 1 = .ok (.iload_n 1, 1) := by decide +kernel
theorem dX7_least_2 : decode cX7_least 2 = .ok (.if_icmp .ge 7, 3) := by decide +kernel
theorem dX7_least_5 : decode cX7_least 5 = .ok (.iload_n 0, 1) := by decide +kernel
theorem dX7_least_6 : decode cX7_least 6 = .ok (.goto 4, 3) := by decide +kernel
theorem dX7_least_9 : decode cX7_least 9 = .ok (.iload_n 1, 1) := by decide +kernel
theorem dX7_least_10 : decode cX7_least 10 = .ok (.ireturn, 1) := by decide +kernel
theorem dX7_most_0 : decode cX7_most 0 = .ok (.iload_n 0, 1) := by decide +kernel
theorem dX7_most_1 : decode cX7_most 1 = .ok (.iload_n 1, 1) := by decide +kernel
theorem dX7_most_2 : decode cX7_most 2 = .ok (.if_icmp .le 7, 3) := by decide +kernel
theorem dX7_most_5 : decode cX7_most 5 = .ok (.iload_n 0, 1) := by decide +kernel
theorem dX7_most_6 : decode cX7_most 6 = .ok (.goto 4, 3) := by decide +kernel
theorem dX7_most_9 : decode cX7_most 9 = .ok (.iload_n 1, 1) := by decide +kernel
theorem dX7_most_10 : decode cX7_most 10 = .ok (.ireturn, 1) := by decide +kernel
theorem dX7_lays_0 : decode cX7_lays 0 = .ok (.iconst 0, 1) := by decide +kernel
theorem dX7_lays_1 : decode cX7_lays 1 = .ok (.istore_n 2, 1) := by decide +kernel
theorem dX7_lays_2 : decode cX7_lays 2 = .ok (.iload_n 2, 1) := by decide +kernel
theorem dX7_lays_3 : decode cX7_lays 3 = .ok (.bipush 32, 2) := by decide +kernel
theorem dX7_lays_5 : decode cX7_lays 5 = .ok (.if_icmp .ge 15, 3) := by decide +kernel
theorem dX7_lays_8 : decode cX7_lays 8 = .ok (.aload_n 1, 1) := by decide +kernel
theorem dX7_lays_9 : decode cX7_lays 9 = .ok (.iload_n 2, 1) := by decide +kernel
theorem dX7_lays_10 : decode cX7_lays 10 = .ok (.aload_n 0, 1) := by decide +kernel
theorem dX7_lays_11 : decode cX7_lays 11 = .ok (.iload_n 2, 1) := by decide +kernel
theorem dX7_lays_12 : decode cX7_lays 12 = .ok (.iaload, 1) := by decide +kernel
theorem dX7_lays_13 : decode cX7_lays 13 = .ok (.iastore, 1) := by decide +kernel
theorem dX7_lays_14 : decode cX7_lays 14 = .ok (.iinc 2 1, 3) := by decide +kernel
theorem dX7_lays_17 : decode cX7_lays 17 = .ok (.goto (-15), 3) := by decide +kernel
theorem dX7_lays_20 : decode cX7_lays 20 = .ok (.return_, 1) := by decide +kernel
theorem dX7_no_0 : decode cX7_no 0 = .ok (.aload_n 0, 1) := by decide +kernel
theorem dX7_no_1 : decode cX7_no 1 = .ok (.getfield 28, 3) := by decide +kernel
theorem dX7_no_4 : decode cX7_no 4 = .ok (.iload_n 1, 1) := by decide +kernel
theorem dX7_no_5 : decode cX7_no 5 = .ok (.ineg, 1) := by decide +kernel
theorem dX7_no_6 : decode cX7_no 6 = .ok (.dup2, 1) := by decide +kernel
theorem dX7_no_7 : decode cX7_no 7 = .ok (.iaload, 1) := by decide +kernel
theorem dX7_no_8 : decode cX7_no 8 = .ok (.iconst 1, 1) := by decide +kernel
theorem dX7_no_9 : decode cX7_no 9 = .ok (.iadd, 1) := by decide +kernel
theorem dX7_no_10 : decode cX7_no 10 = .ok (.iastore, 1) := by decide +kernel
theorem dX7_no_11 : decode cX7_no 11 = .ok (.iload_n 1, 1) := by decide +kernel
theorem dX7_no_12 : decode cX7_no 12 = .ok (.ireturn, 1) := by decide +kernel
theorem dX7_noFar_0 : decode cX7_noFar 0 = .ok (.ldc 37, 2) := by decide +kernel
theorem dX7_noFar_2 : decode cX7_noFar 2 = .ok (.aload_n 0, 1) := by decide +kernel
theorem dX7_noFar_3 : decode cX7_noFar 3 = .ok (.iload_n 1, 1) := by decide +kernel
theorem dX7_noFar_4 : decode cX7_noFar 4 = .ok (.invokevirtual 38, 3) := by decide +kernel
theorem dX7_noFar_7 : decode cX7_noFar 7 = .ok (.isub, 1) := by decide +kernel
theorem dX7_noFar_8 : decode cX7_noFar 8 = .ok (.ireturn, 1) := by decide +kernel
theorem dX7_isInch_0 : decode cX7_isInch 0 = .ok (.iload_n 1, 1) := by decide +kernel
theorem dX7_isInch_1 : decode cX7_isInch 1 = .ok (.iconst 0, 1) := by decide +kernel
theorem dX7_isInch_2 : decode cX7_isInch 2 = .ok (.aload_n 0, 1) := by decide +kernel
theorem dX7_isInch_3 : decode cX7_isInch 3 = .ok (.getfield 9, 3) := by decide +kernel
theorem dX7_isInch_6 : decode cX7_isInch 6 = .ok (.iconst 0, 1) := by decide +kernel
theorem dX7_isInch_7 : decode cX7_isInch 7 = .ok (.iaload, 1) := by decide +kernel
theorem dX7_isInch_8 : decode cX7_isInch 8 = .ok (.iconst 1, 1) := by decide +kernel
theorem dX7_isInch_9 : decode cX7_isInch 9 = .ok (.isub, 1) := by decide +kernel
theorem dX7_isInch_10 : decode cX7_isInch 10 = .ok (.invokestatic 42, 3) := by decide +kernel
theorem dX7_isInch_13 : decode cX7_isInch 13 = .ok (.ireturn, 1) := by decide +kernel
theorem dX7_isEnd_0 : decode cX7_isEnd 0 = .ok (.iload_n 0, 1) := by decide +kernel
theorem dX7_isEnd_1 : decode cX7_isEnd 1 = .ok (.iconst 0, 1) := by decide +kernel
theorem dX7_isEnd_2 : decode cX7_isEnd 2 = .ok (.iconst 1, 1) := by decide +kernel
theorem dX7_isEnd_3 : decode cX7_isEnd 3 = .ok (.invokestatic 42, 3) := by decide +kernel
theorem dX7_isEnd_6 : decode cX7_isEnd 6 = .ok (.ireturn, 1) := by decide +kernel
theorem dX7_kindOf_0 : decode cX7_kindOf 0 = .ok (.aload_n 0, 1) := by decide +kernel
theorem dX7_kindOf_1 : decode cX7_kindOf 1 = .ok (.bipush 8, 2) := by decide +kernel
theorem dX7_kindOf_3 : decode cX7_kindOf 3 = .ok (.iconst 2, 1) := by decide +kernel
theorem dX7_kindOf_4 : decode cX7_kindOf 4 = .ok (.iload_n 1, 1) := by decide +kernel
theorem dX7_kindOf_5 : decode cX7_kindOf 5 = .ok (.imul, 1) := by decide +kernel
theorem dX7_kindOf_6 : decode cX7_kindOf 6 = .ok (.iadd, 1) := by decide +kernel
theorem dX7_kindOf_7 : decode cX7_kindOf 7 = .ok (.iaload, 1) := by decide +kernel
theorem dX7_kindOf_8 : decode cX7_kindOf 8 = .ok (.ireturn, 1) := by decide +kernel
theorem dX7_figureOf_0 : decode cX7_figureOf 0 = .ok (.aload_n 0, 1) := by decide +kernel
theorem dX7_figureOf_1 : decode cX7_figureOf 1 = .ok (.bipush 8, 2) := by decide +kernel
theorem dX7_figureOf_3 : decode cX7_figureOf 3 = .ok (.iconst 2, 1) := by decide +kernel
theorem dX7_figureOf_4 : decode cX7_figureOf 4 = .ok (.iload_n 1, 1) := by decide +kernel
theorem dX7_figureOf_5 : decode cX7_figureOf 5 = .ok (.imul, 1) := by decide +kernel
theorem dX7_figureOf_6 : decode cX7_figureOf 6 = .ok (.iadd, 1) := by decide +kernel
theorem dX7_figureOf_7 : decode cX7_figureOf 7 = .ok (.iconst 1, 1) := by decide +kernel
theorem dX7_figureOf_8 : decode cX7_figureOf 8 = .ok (.iadd, 1) := by decide +kernel
theorem dX7_figureOf_9 : decode cX7_figureOf 9 = .ok (.iaload, 1) := by decide +kernel
theorem dX7_figureOf_10 : decode cX7_figureOf 10 = .ok (.ireturn, 1) := by decide +kernel
theorem dX7_isSeam_0 : decode cX7_isSeam 0 = .ok (.iload_n 0, 1) := by decide +kernel
theorem dX7_isSeam_1 : decode cX7_isSeam 1 = .ok (.iconst 1, 1) := by decide +kernel
theorem dX7_isSeam_2 : decode cX7_isSeam 2 = .ok (.if_icmp .eq 13, 3) := by decide +kernel
theorem dX7_isSeam_5 : decode cX7_isSeam 5 = .ok (.iload_n 0, 1) := by decide +kernel
theorem dX7_isSeam_6 : decode cX7_isSeam 6 = .ok (.iconst 3, 1) := by decide +kernel
theorem dX7_isSeam_7 : decode cX7_isSeam 7 = .ok (.if_icmp .eq 8, 3) := by decide +kernel
theorem dX7_isSeam_10 : decode cX7_isSeam 10 = .ok (.iload_n 0, 1) := by decide +kernel
theorem dX7_isSeam_11 : decode cX7_isSeam 11 = .ok (.iconst 5, 1) := by decide +kernel
theorem dX7_isSeam_12 : decode cX7_isSeam 12 = .ok (.if_icmp .ne 7, 3) := by decide +kernel
theorem dX7_isSeam_15 : decode cX7_isSeam 15 = .ok (.iconst 1, 1) := by decide +kernel
theorem dX7_isSeam_16 : decode cX7_isSeam 16 = .ok (.goto 4, 3) := by decide +kernel
theorem dX7_isSeam_19 : decode cX7_isSeam 19 = .ok (.iconst 0, 1) := by decide +kernel
theorem dX7_isSeam_20 : decode cX7_isSeam 20 = .ok (.ireturn, 1) := by decide +kernel
theorem dX7_movesAt_0 : decode cX7_movesAt 0 = .ok (.aload_n 0, 1) := by decide +kernel
theorem dX7_movesAt_1 : decode cX7_movesAt 1 = .ok (.iload_n 1, 1) := by decide +kernel
theorem dX7_movesAt_2 : decode cX7_movesAt 2 = .ok (.invokestatic 46, 3) := by decide +kernel
theorem dX7_movesAt_5 : decode cX7_movesAt 5 = .ok (.istore_n 2, 1) := by decide +kernel
theorem dX7_movesAt_6 : decode cX7_movesAt 6 = .ok (.iload_n 2, 1) := by decide +kernel
theorem dX7_movesAt_7 : decode cX7_movesAt 7 = .ok (.iconst 3, 1) := by decide +kernel
theorem dX7_movesAt_8 : decode cX7_movesAt 8 = .ok (.if_icmp .ne 7, 3) := by decide +kernel
theorem dX7_movesAt_11 : decode cX7_movesAt 11 = .ok (.iconst 0, 1) := by decide +kernel
theorem dX7_movesAt_12 : decode cX7_movesAt 12 = .ok (.goto 24, 3) := by decide +kernel
theorem dX7_movesAt_15 : decode cX7_movesAt 15 = .ok (.iload_n 2, 1) := by decide +kernel
theorem dX7_movesAt_16 : decode cX7_movesAt 16 = .ok (.invokestatic 50, 3) := by decide +kernel
theorem dX7_movesAt_19 : decode cX7_movesAt 19 = .ok (.ifCond .eq 7, 3) := by decide +kernel
theorem dX7_movesAt_22 : decode cX7_movesAt 22 = .ok (.iconst 1, 1) := by decide +kernel
theorem dX7_movesAt_23 : decode cX7_movesAt 23 = .ok (.goto 13, 3) := by decide +kernel
theorem dX7_movesAt_26 : decode cX7_movesAt 26 = .ok (.iload_n 2, 1) := by decide +kernel
theorem dX7_movesAt_27 : decode cX7_movesAt 27 = .ok (.iconst 2, 1) := by decide +kernel
theorem dX7_movesAt_28 : decode cX7_movesAt 28 = .ok (.if_icmp .ne 7, 3) := by decide +kernel
theorem dX7_movesAt_31 : decode cX7_movesAt 31 = .ok (.iconst 3, 1) := by decide +kernel
theorem dX7_movesAt_32 : decode cX7_movesAt 32 = .ok (.goto 4, 3) := by decide +kernel
theorem dX7_movesAt_35 : decode cX7_movesAt 35 = .ok (.iconst 2, 1) := by decide +kernel
theorem dX7_movesAt_36 : decode cX7_movesAt 36 = .ok (.ireturn, 1) := by decide +kernel
theorem dX7_bunchAt_0 : decode cX7_bunchAt 0 = .ok (.aload_n 0, 1) := by decide +kernel
theorem dX7_bunchAt_1 : decode cX7_bunchAt 1 = .ok (.iload_n 1, 1) := by decide +kernel
theorem dX7_bunchAt_2 : decode cX7_bunchAt 2 = .ok (.invokestatic 46, 3) := by decide +kernel
theorem dX7_bunchAt_5 : decode cX7_bunchAt 5 = .ok (.istore_n 2, 1) := by decide +kernel
theorem dX7_bunchAt_6 : decode cX7_bunchAt 6 = .ok (.iload_n 2, 1) := by decide +kernel
theorem dX7_bunchAt_7 : decode cX7_bunchAt 7 = .ok (.invokestatic 50, 3) := by decide +kernel
theorem dX7_bunchAt_10 : decode cX7_bunchAt 10 = .ok (.ifCond .eq 7, 3) := by decide +kernel
theorem dX7_bunchAt_13 : decode cX7_bunchAt 13 = .ok (.iconst 5, 1) := by decide +kernel
theorem dX7_bunchAt_14 : decode cX7_bunchAt 14 = .ok (.goto 19, 3) := by decide +kernel
theorem dX7_bunchAt_17 : decode cX7_bunchAt 17 = .ok (.iload_n 2, 1) := by decide +kernel
theorem dX7_bunchAt_18 : decode cX7_bunchAt 18 = .ok (.iconst 4, 1) := by decide +kernel
theorem dX7_bunchAt_19 : decode cX7_bunchAt 19 = .ok (.if_icmp .ne 13, 3) := by decide +kernel
theorem dX7_bunchAt_22 : decode cX7_bunchAt 22 = .ok (.iconst 3, 1) := by decide +kernel
theorem dX7_bunchAt_23 : decode cX7_bunchAt 23 = .ok (.aload_n 0, 1) := by decide +kernel
theorem dX7_bunchAt_24 : decode cX7_bunchAt 24 = .ok (.iload_n 1, 1) := by decide +kernel
theorem dX7_bunchAt_25 : decode cX7_bunchAt 25 = .ok (.invokestatic 54, 3) := by decide +kernel
theorem dX7_bunchAt_28 : decode cX7_bunchAt 28 = .ok (.iadd, 1) := by decide +kernel
theorem dX7_bunchAt_29 : decode cX7_bunchAt 29 = .ok (.goto 4, 3) := by decide +kernel
theorem dX7_bunchAt_32 : decode cX7_bunchAt 32 = .ok (.iconst 3, 1) := by decide +kernel
theorem dX7_bunchAt_33 : decode cX7_bunchAt 33 = .ok (.ireturn, 1) := by decide +kernel
theorem dX7_threadAt_0 : decode cX7_threadAt 0 = .ok (.aload_n 0, 1) := by decide +kernel
theorem dX7_threadAt_1 : decode cX7_threadAt 1 = .ok (.iload_n 1, 1) := by decide +kernel
theorem dX7_threadAt_2 : decode cX7_threadAt 2 = .ok (.invokestatic 46, 3) := by decide +kernel
theorem dX7_threadAt_5 : decode cX7_threadAt 5 = .ok (.istore_n 2, 1) := by decide +kernel
theorem dX7_threadAt_6 : decode cX7_threadAt 6 = .ok (.iload_n 2, 1) := by decide +kernel
theorem dX7_threadAt_7 : decode cX7_threadAt 7 = .ok (.iconst 3, 1) := by decide +kernel
theorem dX7_threadAt_8 : decode cX7_threadAt 8 = .ok (.if_icmp .ne 14, 3) := by decide +kernel
theorem dX7_threadAt_11 : decode cX7_threadAt 11 = .ok (.bipush 9, 2) := by decide +kernel
theorem dX7_threadAt_13 : decode cX7_threadAt 13 = .ok (.aload_n 0, 1) := by decide +kernel
theorem dX7_threadAt_14 : decode cX7_threadAt 14 = .ok (.iload_n 1, 1) := by decide +kernel
theorem dX7_threadAt_15 : decode cX7_threadAt 15 = .ok (.invokestatic 54, 3) := by decide +kernel
theorem dX7_threadAt_18 : decode cX7_threadAt 18 = .ok (.iadd, 1) := by decide +kernel
theorem dX7_threadAt_19 : decode cX7_threadAt 19 = .ok (.goto 26, 3) := by decide +kernel
theorem dX7_threadAt_22 : decode cX7_threadAt 22 = .ok (.iload_n 2, 1) := by decide +kernel
theorem dX7_threadAt_23 : decode cX7_threadAt 23 = .ok (.invokestatic 50, 3) := by decide +kernel
theorem dX7_threadAt_26 : decode cX7_threadAt 26 = .ok (.ifCond .eq 8, 3) := by decide +kernel
theorem dX7_threadAt_29 : decode cX7_threadAt 29 = .ok (.bipush 9, 2) := by decide +kernel
theorem dX7_threadAt_31 : decode cX7_threadAt 31 = .ok (.goto 14, 3) := by decide +kernel
theorem dX7_threadAt_34 : decode cX7_threadAt 34 = .ok (.iload_n 2, 1) := by decide +kernel
theorem dX7_threadAt_35 : decode cX7_threadAt 35 = .ok (.iconst 4, 1) := by decide +kernel
theorem dX7_threadAt_36 : decode cX7_threadAt 36 = .ok (.if_icmp .ne 8, 3) := by decide +kernel
theorem dX7_threadAt_39 : decode cX7_threadAt 39 = .ok (.bipush 6, 2) := by decide +kernel
theorem dX7_threadAt_41 : decode cX7_threadAt 41 = .ok (.goto 4, 3) := by decide +kernel
theorem dX7_threadAt_44 : decode cX7_threadAt 44 = .ok (.iconst 4, 1) := by decide +kernel
theorem dX7_threadAt_45 : decode cX7_threadAt 45 = .ok (.ireturn, 1) := by decide +kernel
theorem dX7_drawsAt_0 : decode cX7_drawsAt 0 = .ok (.aload_n 0, 1) := by decide +kernel
theorem dX7_drawsAt_1 : decode cX7_drawsAt 1 = .ok (.iload_n 1, 1) := by decide +kernel
theorem dX7_drawsAt_2 : decode cX7_drawsAt 2 = .ok (.invokestatic 46, 3) := by decide +kernel
theorem dX7_drawsAt_5 : decode cX7_drawsAt 5 = .ok (.istore_n 2, 1) := by decide +kernel
theorem dX7_drawsAt_6 : decode cX7_drawsAt 6 = .ok (.iload_n 2, 1) := by decide +kernel
theorem dX7_drawsAt_7 : decode cX7_drawsAt 7 = .ok (.iconst 5, 1) := by decide +kernel
theorem dX7_drawsAt_8 : decode cX7_drawsAt 8 = .ok (.if_icmp .ne 7, 3) := by decide +kernel
theorem dX7_drawsAt_11 : decode cX7_drawsAt 11 = .ok (.iconst 0, 1) := by decide +kernel
theorem dX7_drawsAt_12 : decode cX7_drawsAt 12 = .ok (.goto 37, 3) := by decide +kernel
theorem dX7_drawsAt_15 : decode cX7_drawsAt 15 = .ok (.iload_n 2, 1) := by decide +kernel
theorem dX7_drawsAt_16 : decode cX7_drawsAt 16 = .ok (.invokestatic 50, 3) := by decide +kernel
theorem dX7_drawsAt_19 : decode cX7_drawsAt 19 = .ok (.ifCond .eq 12, 3) := by decide +kernel
theorem dX7_drawsAt_22 : decode cX7_drawsAt 22 = .ok (.aload_n 0, 1) := by decide +kernel
theorem dX7_drawsAt_23 : decode cX7_drawsAt 23 = .ok (.bipush 7, 2) := by decide +kernel
theorem dX7_drawsAt_25 : decode cX7_drawsAt 25 = .ok (.iaload, 1) := by decide +kernel
theorem dX7_drawsAt_26 : decode cX7_drawsAt 26 = .ok (.iconst 2, 1) := by decide +kernel
theorem dX7_drawsAt_27 : decode cX7_drawsAt 27 = .ok (.idiv, 1) := by decide +kernel
theorem dX7_drawsAt_28 : decode cX7_drawsAt 28 = .ok (.goto 21, 3) := by decide +kernel
theorem dX7_drawsAt_31 : decode cX7_drawsAt 31 = .ok (.iload_n 2, 1) := by decide +kernel
theorem dX7_drawsAt_32 : decode cX7_drawsAt 32 = .ok (.iconst 2, 1) := by decide +kernel
theorem dX7_drawsAt_33 : decode cX7_drawsAt 33 = .ok (.if_icmp .ne 12, 3) := by decide +kernel
theorem dX7_drawsAt_36 : decode cX7_drawsAt 36 = .ok (.aload_n 0, 1) := by decide +kernel
theorem dX7_drawsAt_37 : decode cX7_drawsAt 37 = .ok (.bipush 7, 2) := by decide +kernel
theorem dX7_drawsAt_39 : decode cX7_drawsAt 39 = .ok (.iaload, 1) := by decide +kernel
theorem dX7_drawsAt_40 : decode cX7_drawsAt 40 = .ok (.iconst 1, 1) := by decide +kernel
theorem dX7_drawsAt_41 : decode cX7_drawsAt 41 = .ok (.iadd, 1) := by decide +kernel
theorem dX7_drawsAt_42 : decode cX7_drawsAt 42 = .ok (.goto 7, 3) := by decide +kernel
theorem dX7_drawsAt_45 : decode cX7_drawsAt 45 = .ok (.aload_n 0, 1) := by decide +kernel
theorem dX7_drawsAt_46 : decode cX7_drawsAt 46 = .ok (.bipush 7, 2) := by decide +kernel
theorem dX7_drawsAt_48 : decode cX7_drawsAt 48 = .ok (.iaload, 1) := by decide +kernel
theorem dX7_drawsAt_49 : decode cX7_drawsAt 49 = .ok (.ireturn, 1) := by decide +kernel
theorem dX7_inchOf_0 : decode cX7_inchOf 0 = .ok (.aload_n 0, 1) := by decide +kernel
theorem dX7_inchOf_1 : decode cX7_inchOf 1 = .ok (.iconst 1, 1) := by decide +kernel
theorem dX7_inchOf_2 : decode cX7_inchOf 2 = .ok (.iload_n 1, 1) := by decide +kernel
theorem dX7_inchOf_3 : decode cX7_inchOf 3 = .ok (.iadd, 1) := by decide +kernel
theorem dX7_inchOf_4 : decode cX7_inchOf 4 = .ok (.iaload, 1) := by decide +kernel
theorem dX7_inchOf_5 : decode cX7_inchOf 5 = .ok (.iconst 1, 1) := by decide +kernel
theorem dX7_inchOf_6 : decode cX7_inchOf 6 = .ok (.if_icmp .ge 7, 3) := by decide +kernel
theorem dX7_inchOf_9 : decode cX7_inchOf 9 = .ok (.iconst 0, 1) := by decide +kernel
theorem dX7_inchOf_10 : decode cX7_inchOf 10 = .ok (.goto 20, 3) := by decide +kernel
theorem dX7_inchOf_13 : decode cX7_inchOf 13 = .ok (.aload_n 0, 1) := by decide +kernel
theorem dX7_inchOf_14 : decode cX7_inchOf 14 = .ok (.iconst 0, 1) := by decide +kernel
theorem dX7_inchOf_15 : decode cX7_inchOf 15 = .ok (.iaload, 1) := by decide +kernel
theorem dX7_inchOf_16 : decode cX7_inchOf 16 = .ok (.iconst 1, 1) := by decide +kernel
theorem dX7_inchOf_17 : decode cX7_inchOf 17 = .ok (.isub, 1) := by decide +kernel
theorem dX7_inchOf_18 : decode cX7_inchOf 18 = .ok (.aload_n 0, 1) := by decide +kernel
theorem dX7_inchOf_19 : decode cX7_inchOf 19 = .ok (.iconst 1, 1) := by decide +kernel
theorem dX7_inchOf_20 : decode cX7_inchOf 20 = .ok (.iload_n 1, 1) := by decide +kernel
theorem dX7_inchOf_21 : decode cX7_inchOf 21 = .ok (.iadd, 1) := by decide +kernel
theorem dX7_inchOf_22 : decode cX7_inchOf 22 = .ok (.iaload, 1) := by decide +kernel
theorem dX7_inchOf_23 : decode cX7_inchOf 23 = .ok (.iconst 1, 1) := by decide +kernel
theorem dX7_inchOf_24 : decode cX7_inchOf 24 = .ok (.isub, 1) := by decide +kernel
theorem dX7_inchOf_25 : decode cX7_inchOf 25 = .ok (.iconst 2, 1) := by decide +kernel
theorem dX7_inchOf_26 : decode cX7_inchOf 26 = .ok (.idiv, 1) := by decide +kernel
theorem dX7_inchOf_27 : decode cX7_inchOf 27 = .ok (.invokestatic 57, 3) := by decide +kernel
theorem dX7_inchOf_30 : decode cX7_inchOf 30 = .ok (.istore_n 2, 1) := by decide +kernel
theorem dX7_inchOf_31 : decode cX7_inchOf 31 = .ok (.iload_n 1, 1) := by decide +kernel
theorem dX7_inchOf_32 : decode cX7_inchOf 32 = .ok (.ifCond .ne 7, 3) := by decide +kernel
theorem dX7_inchOf_35 : decode cX7_inchOf 35 = .ok (.iload_n 2, 1) := by decide +kernel
theorem dX7_inchOf_36 : decode cX7_inchOf 36 = .ok (.goto 10, 3) := by decide +kernel
theorem dX7_inchOf_39 : decode cX7_inchOf 39 = .ok (.aload_n 0, 1) := by decide +kernel
theorem dX7_inchOf_40 : decode cX7_inchOf 40 = .ok (.iconst 0, 1) := by decide +kernel
theorem dX7_inchOf_41 : decode cX7_inchOf 41 = .ok (.iaload, 1) := by decide +kernel
theorem dX7_inchOf_42 : decode cX7_inchOf 42 = .ok (.iconst 1, 1) := by decide +kernel
theorem dX7_inchOf_43 : decode cX7_inchOf 43 = .ok (.isub, 1) := by decide +kernel
theorem dX7_inchOf_44 : decode cX7_inchOf 44 = .ok (.iload_n 2, 1) := by decide +kernel
theorem dX7_inchOf_45 : decode cX7_inchOf 45 = .ok (.isub, 1) := by decide +kernel
theorem dX7_inchOf_46 : decode cX7_inchOf 46 = .ok (.ireturn, 1) := by decide +kernel
theorem dX7_isLost_0 : decode cX7_isLost 0 = .ok (.aload_n 0, 1) := by decide +kernel
theorem dX7_isLost_1 : decode cX7_isLost 1 = .ok (.iconst 1, 1) := by decide +kernel
theorem dX7_isLost_2 : decode cX7_isLost 2 = .ok (.iload_n 1, 1) := by decide +kernel
theorem dX7_isLost_3 : decode cX7_isLost 3 = .ok (.iadd, 1) := by decide +kernel
theorem dX7_isLost_4 : decode cX7_isLost 4 = .ok (.iaload, 1) := by decide +kernel
theorem dX7_isLost_5 : decode cX7_isLost 5 = .ok (.ifCond .le 7, 3) := by decide +kernel
theorem dX7_isLost_8 : decode cX7_isLost 8 = .ok (.iconst 1, 1) := by decide +kernel
theorem dX7_isLost_9 : decode cX7_isLost 9 = .ok (.goto 4, 3) := by decide +kernel
theorem dX7_isLost_12 : decode cX7_isLost 12 = .ok (.iconst 0, 1) := by decide +kernel
theorem dX7_isLost_13 : decode cX7_isLost 13 = .ok (.ireturn, 1) := by decide +kernel
theorem dX7_canPull_0 : decode cX7_canPull 0 = .ok (.aload_n 0, 1) := by decide +kernel
theorem dX7_canPull_1 : decode cX7_canPull 1 = .ok (.iconst 5, 1) := by decide +kernel
theorem dX7_canPull_2 : decode cX7_canPull 2 = .ok (.iaload, 1) := by decide +kernel
theorem dX7_canPull_3 : decode cX7_canPull 3 = .ok (.iconst 1, 1) := by decide +kernel
theorem dX7_canPull_4 : decode cX7_canPull 4 = .ok (.if_icmp .ne 5, 3) := by decide +kernel
theorem dX7_canPull_7 : decode cX7_canPull 7 = .ok (.iconst 0, 1) := by decide +kernel
theorem dX7_canPull_8 : decode cX7_canPull 8 = .ok (.ireturn, 1) := by decide +kernel
theorem dX7_canPull_9 : decode cX7_canPull 9 = .ok (.aload_n 0, 1) := by decide +kernel
theorem dX7_canPull_10 : decode cX7_canPull 10 = .ok (.iconst 2, 1) := by decide +kernel
theorem dX7_canPull_11 : decode cX7_canPull 11 = .ok (.iload_n 1, 1) := by decide +kernel
theorem dX7_canPull_12 : decode cX7_canPull 12 = .ok (.isub, 1) := by decide +kernel
theorem dX7_canPull_13 : decode cX7_canPull 13 = .ok (.iaload, 1) := by decide +kernel
theorem dX7_canPull_14 : decode cX7_canPull 14 = .ok (.istore_n 3, 1) := by decide +kernel
theorem dX7_canPull_15 : decode cX7_canPull 15 = .ok (.aload_n 0, 1) := by decide +kernel
theorem dX7_canPull_16 : decode cX7_canPull 16 = .ok (.iconst 4, 1) := by decide +kernel
theorem dX7_canPull_17 : decode cX7_canPull 17 = .ok (.iload_n 1, 1) := by decide +kernel
theorem dX7_canPull_18 : decode cX7_canPull 18 = .ok (.isub, 1) := by decide +kernel
theorem dX7_canPull_19 : decode cX7_canPull 19 = .ok (.iaload, 1) := by decide +kernel
theorem dX7_canPull_20 : decode cX7_canPull 20 = .ok (.iconst 1, 1) := by decide +kernel
theorem dX7_canPull_21 : decode cX7_canPull 21 = .ok (.if_icmp .ne 12, 3) := by decide +kernel
theorem dX7_canPull_24 : decode cX7_canPull 24 = .ok (.iconst 0, 1) := by decide +kernel
theorem dX7_canPull_25 : decode cX7_canPull 25 = .ok (.iload_n 3, 1) := by decide +kernel
theorem dX7_canPull_26 : decode cX7_canPull 26 = .ok (.ineg, 1) := by decide +kernel
theorem dX7_canPull_27 : decode cX7_canPull 27 = .ok (.invokestatic 61, 3) := by decide +kernel
theorem dX7_canPull_30 : decode cX7_canPull 30 = .ok (.goto 7, 3) := by decide +kernel
theorem dX7_canPull_33 : decode cX7_canPull 33 = .ok (.bipush 24, 2) := by decide +kernel
theorem dX7_canPull_35 : decode cX7_canPull 35 = .ok (.iload_n 3, 1) := by decide +kernel
theorem dX7_canPull_36 : decode cX7_canPull 36 = .ok (.isub, 1) := by decide +kernel
theorem dX7_canPull_37 : decode cX7_canPull 37 = .ok (.istore 4, 2) := by decide +kernel
theorem dX7_canPull_39 : decode cX7_canPull 39 = .ok (.iconst 0, 1) := by decide +kernel
theorem dX7_canPull_40 : decode cX7_canPull 40 = .ok (.iload_n 2, 1) := by decide +kernel
theorem dX7_canPull_41 : decode cX7_canPull 41 = .ok (.aload_n 0, 1) := by decide +kernel
theorem dX7_canPull_42 : decode cX7_canPull 42 = .ok (.iconst 1, 1) := by decide +kernel
theorem dX7_canPull_43 : decode cX7_canPull 43 = .ok (.iload_n 1, 1) := by decide +kernel
theorem dX7_canPull_44 : decode cX7_canPull 44 = .ok (.iadd, 1) := by decide +kernel
theorem dX7_canPull_45 : decode cX7_canPull 45 = .ok (.iaload, 1) := by decide +kernel
theorem dX7_canPull_46 : decode cX7_canPull 46 = .ok (.bipush (-40), 2) := by decide +kernel
theorem dX7_canPull_48 : decode cX7_canPull 48 = .ok (.isub, 1) := by decide +kernel
theorem dX7_canPull_49 : decode cX7_canPull 49 = .ok (.iload 4, 2) := by decide +kernel
theorem dX7_canPull_51 : decode cX7_canPull 51 = .ok (.invokestatic 57, 3) := by decide +kernel
theorem dX7_canPull_54 : decode cX7_canPull 54 = .ok (.invokestatic 57, 3) := by decide +kernel
theorem dX7_canPull_57 : decode cX7_canPull 57 = .ok (.invokestatic 61, 3) := by decide +kernel
theorem dX7_canPull_60 : decode cX7_canPull 60 = .ok (.ireturn, 1) := by decide +kernel
theorem dX7_pulls_0 : decode cX7_pulls 0 = .ok (.aload_n 0, 1) := by decide +kernel
theorem dX7_pulls_1 : decode cX7_pulls 1 = .ok (.iload_n 1, 1) := by decide +kernel
theorem dX7_pulls_2 : decode cX7_pulls 2 = .ok (.iload_n 2, 1) := by decide +kernel
theorem dX7_pulls_3 : decode cX7_pulls 3 = .ok (.invokestatic 64, 3) := by decide +kernel
theorem dX7_pulls_6 : decode cX7_pulls 6 = .ok (.istore_n 3, 1) := by decide +kernel
theorem dX7_pulls_7 : decode cX7_pulls 7 = .ok (.aload_n 0, 1) := by decide +kernel
theorem dX7_pulls_8 : decode cX7_pulls 8 = .ok (.iconst 1, 1) := by decide +kernel
theorem dX7_pulls_9 : decode cX7_pulls 9 = .ok (.iload_n 1, 1) := by decide +kernel
theorem dX7_pulls_10 : decode cX7_pulls 10 = .ok (.iadd, 1) := by decide +kernel
theorem dX7_pulls_11 : decode cX7_pulls 11 = .ok (.dup2, 1) := by decide +kernel
theorem dX7_pulls_12 : decode cX7_pulls 12 = .ok (.iaload, 1) := by decide +kernel
theorem dX7_pulls_13 : decode cX7_pulls 13 = .ok (.iload_n 3, 1) := by decide +kernel
theorem dX7_pulls_14 : decode cX7_pulls 14 = .ok (.isub, 1) := by decide +kernel
theorem dX7_pulls_15 : decode cX7_pulls 15 = .ok (.iastore, 1) := by decide +kernel
theorem dX7_pulls_16 : decode cX7_pulls 16 = .ok (.aload_n 0, 1) := by decide +kernel
theorem dX7_pulls_17 : decode cX7_pulls 17 = .ok (.iconst 2, 1) := by decide +kernel
theorem dX7_pulls_18 : decode cX7_pulls 18 = .ok (.iload_n 1, 1) := by decide +kernel
theorem dX7_pulls_19 : decode cX7_pulls 19 = .ok (.isub, 1) := by decide +kernel
theorem dX7_pulls_20 : decode cX7_pulls 20 = .ok (.dup2, 1) := by decide +kernel
theorem dX7_pulls_21 : decode cX7_pulls 21 = .ok (.iaload, 1) := by decide +kernel
theorem dX7_pulls_22 : decode cX7_pulls 22 = .ok (.iload_n 3, 1) := by decide +kernel
theorem dX7_pulls_23 : decode cX7_pulls 23 = .ok (.iadd, 1) := by decide +kernel
theorem dX7_pulls_24 : decode cX7_pulls 24 = .ok (.iastore, 1) := by decide +kernel
theorem dX7_pulls_25 : decode cX7_pulls 25 = .ok (.iload_n 3, 1) := by decide +kernel
theorem dX7_pulls_26 : decode cX7_pulls 26 = .ok (.ireturn, 1) := by decide +kernel
theorem dX7_washes_0 : decode cX7_washes 0 = .ok (.aload_n 0, 1) := by decide +kernel
theorem dX7_washes_1 : decode cX7_washes 1 = .ok (.iconst 2, 1) := by decide +kernel
theorem dX7_washes_2 : decode cX7_washes 2 = .ok (.iaload, 1) := by decide +kernel
theorem dX7_washes_3 : decode cX7_washes 3 = .ok (.aload_n 0, 1) := by decide +kernel
theorem dX7_washes_4 : decode cX7_washes 4 = .ok (.iconst 1, 1) := by decide +kernel
theorem dX7_washes_5 : decode cX7_washes 5 = .ok (.iaload, 1) := by decide +kernel
theorem dX7_washes_6 : decode cX7_washes 6 = .ok (.if_icmp .le 7, 3) := by decide +kernel
theorem dX7_washes_9 : decode cX7_washes 9 = .ok (.iconst 1, 1) := by decide +kernel
theorem dX7_washes_10 : decode cX7_washes 10 = .ok (.goto 4, 3) := by decide +kernel
theorem dX7_washes_13 : decode cX7_washes 13 = .ok (.iconst 0, 1) := by decide +kernel
theorem dX7_washes_14 : decode cX7_washes 14 = .ok (.istore_n 1, 1) := by decide +kernel
theorem dX7_washes_15 : decode cX7_washes 15 = .ok (.aload_n 0, 1) := by decide +kernel
theorem dX7_washes_16 : decode cX7_washes 16 = .ok (.iconst 1, 1) := by decide +kernel
theorem dX7_washes_17 : decode cX7_washes 17 = .ok (.iload_n 1, 1) := by decide +kernel
theorem dX7_washes_18 : decode cX7_washes 18 = .ok (.isub, 1) := by decide +kernel
theorem dX7_washes_19 : decode cX7_washes 19 = .ok (.aload_n 0, 1) := by decide +kernel
theorem dX7_washes_20 : decode cX7_washes 20 = .ok (.aload_n 0, 1) := by decide +kernel
theorem dX7_washes_21 : decode cX7_washes 21 = .ok (.iload_n 1, 1) := by decide +kernel
theorem dX7_washes_22 : decode cX7_washes 22 = .ok (.invokestatic 68, 3) := by decide +kernel
theorem dX7_washes_25 : decode cX7_washes 25 = .ok (.invokestatic 71, 3) := by decide +kernel
theorem dX7_washes_28 : decode cX7_washes 28 = .ok (.invokestatic 74, 3) := by decide +kernel
theorem dX7_washes_31 : decode cX7_washes 31 = .ok (.ireturn, 1) := by decide +kernel
theorem dX7_washesOn_0 : decode cX7_washesOn 0 = .ok (.iconst 0, 1) := by decide +kernel
theorem dX7_washesOn_1 : decode cX7_washesOn 1 = .ok (.istore_n 2, 1) := by decide +kernel
theorem dX7_washesOn_2 : decode cX7_washesOn 2 = .ok (.iconst 0, 1) := by decide +kernel
theorem dX7_washesOn_3 : decode cX7_washesOn 3 = .ok (.istore_n 3, 1) := by decide +kernel
theorem dX7_washesOn_4 : decode cX7_washesOn 4 = .ok (.iload_n 3, 1) := by decide +kernel
theorem dX7_washesOn_5 : decode cX7_washesOn 5 = .ok (.iload_n 1, 1) := by decide +kernel
theorem dX7_washesOn_6 : decode cX7_washesOn 6 = .ok (.if_icmp .ge 16, 3) := by decide +kernel
theorem dX7_washesOn_9 : decode cX7_washesOn 9 = .ok (.iload_n 2, 1) := by decide +kernel
theorem dX7_washesOn_10 : decode cX7_washesOn 10 = .ok (.aload_n 0, 1) := by decide +kernel
theorem dX7_washesOn_11 : decode cX7_washesOn 11 = .ok (.invokestatic 77, 3) := by decide +kernel
theorem dX7_washesOn_14 : decode cX7_washesOn 14 = .ok (.iadd, 1) := by decide +kernel
theorem dX7_washesOn_15 : decode cX7_washesOn 15 = .ok (.istore_n 2, 1) := by decide +kernel
theorem dX7_washesOn_16 : decode cX7_washesOn 16 = .ok (.iinc 3 1, 3) := by decide +kernel
theorem dX7_washesOn_19 : decode cX7_washesOn 19 = .ok (.goto (-15), 3) := by decide +kernel
theorem dX7_washesOn_22 : decode cX7_washesOn 22 = .ok (.return_, 1) := by decide +kernel
theorem dX7_bunches_0 : decode cX7_bunches 0 = .ok (.aload_n 0, 1) := by decide +kernel
theorem dX7_bunches_1 : decode cX7_bunches 1 = .ok (.iconst 1, 1) := by decide +kernel
theorem dX7_bunches_2 : decode cX7_bunches 2 = .ok (.iload_n 1, 1) := by decide +kernel
theorem dX7_bunches_3 : decode cX7_bunches 3 = .ok (.iadd, 1) := by decide +kernel
theorem dX7_bunches_4 : decode cX7_bunches 4 = .ok (.iconst 0, 1) := by decide +kernel
theorem dX7_bunches_5 : decode cX7_bunches 5 = .ok (.aload_n 0, 1) := by decide +kernel
theorem dX7_bunches_6 : decode cX7_bunches 6 = .ok (.iconst 1, 1) := by decide +kernel
theorem dX7_bunches_7 : decode cX7_bunches 7 = .ok (.iload_n 1, 1) := by decide +kernel
theorem dX7_bunches_8 : decode cX7_bunches 8 = .ok (.iadd, 1) := by decide +kernel
theorem dX7_bunches_9 : decode cX7_bunches 9 = .ok (.iaload, 1) := by decide +kernel
theorem dX7_bunches_10 : decode cX7_bunches 10 = .ok (.aload_n 0, 1) := by decide +kernel
theorem dX7_bunches_11 : decode cX7_bunches 11 = .ok (.aload_n 0, 1) := by decide +kernel
theorem dX7_bunches_12 : decode cX7_bunches 12 = .ok (.iload_n 1, 1) := by decide +kernel
theorem dX7_bunches_13 : decode cX7_bunches 13 = .ok (.invokestatic 68, 3) := by decide +kernel
theorem dX7_bunches_16 : decode cX7_bunches 16 = .ok (.invokestatic 81, 3) := by decide +kernel
theorem dX7_bunches_19 : decode cX7_bunches 19 = .ok (.isub, 1) := by decide +kernel
theorem dX7_bunches_20 : decode cX7_bunches 20 = .ok (.invokestatic 61, 3) := by decide +kernel
theorem dX7_bunches_23 : decode cX7_bunches 23 = .ok (.iastore, 1) := by decide +kernel
theorem dX7_bunches_24 : decode cX7_bunches 24 = .ok (.return_, 1) := by decide +kernel
theorem dX7_anewSeconds_0 : decode cX7_anewSeconds 0 = .ok (.iconst 0, 1) := by decide +kernel
theorem dX7_anewSeconds_1 : decode cX7_anewSeconds 1 = .ok (.istore_n 1, 1) := by decide +kernel
theorem dX7_anewSeconds_2 : decode cX7_anewSeconds 2 = .ok (.iconst 0, 1) := by decide +kernel
theorem dX7_anewSeconds_3 : decode cX7_anewSeconds 3 = .ok (.istore_n 2, 1) := by decide +kernel
theorem dX7_anewSeconds_4 : decode cX7_anewSeconds 4 = .ok (.iload_n 2, 1) := by decide +kernel
theorem dX7_anewSeconds_5 : decode cX7_anewSeconds 5 = .ok (.aload_n 0, 1) := by decide +kernel
theorem dX7_anewSeconds_6 : decode cX7_anewSeconds 6 = .ok (.iconst 0, 1) := by decide +kernel
theorem dX7_anewSeconds_7 : decode cX7_anewSeconds 7 = .ok (.iaload, 1) := by decide +kernel
theorem dX7_anewSeconds_8 : decode cX7_anewSeconds 8 = .ok (.if_icmp .ge 17, 3) := by decide +kernel
theorem dX7_anewSeconds_11 : decode cX7_anewSeconds 11 = .ok (.iload_n 1, 1) := by decide +kernel
theorem dX7_anewSeconds_12 : decode cX7_anewSeconds 12 = .ok (.aload_n 0, 1) := by decide +kernel
theorem dX7_anewSeconds_13 : decode cX7_anewSeconds 13 = .ok (.iload_n 2, 1) := by decide +kernel
theorem dX7_anewSeconds_14 : decode cX7_anewSeconds 14 = .ok (.invokestatic 84, 3) := by decide +kernel
theorem dX7_anewSeconds_17 : decode cX7_anewSeconds 17 = .ok (.iadd, 1) := by decide +kernel
theorem dX7_anewSeconds_18 : decode cX7_anewSeconds 18 = .ok (.istore_n 1, 1) := by decide +kernel
theorem dX7_anewSeconds_19 : decode cX7_anewSeconds 19 = .ok (.iinc 2 1, 3) := by decide +kernel
theorem dX7_anewSeconds_22 : decode cX7_anewSeconds 22 = .ok (.goto (-18), 3) := by decide +kernel
theorem dX7_anewSeconds_25 : decode cX7_anewSeconds 25 = .ok (.iload_n 1, 1) := by decide +kernel
theorem dX7_anewSeconds_26 : decode cX7_anewSeconds 26 = .ok (.ireturn, 1) := by decide +kernel
theorem dX7_threadBy_0 : decode cX7_threadBy 0 = .ok (.aload_n 0, 1) := by decide +kernel
theorem dX7_threadBy_1 : decode cX7_threadBy 1 = .ok (.iload_n 1, 1) := by decide +kernel
theorem dX7_threadBy_2 : decode cX7_threadBy 2 = .ok (.invokestatic 87, 3) := by decide +kernel
theorem dX7_threadBy_5 : decode cX7_threadBy 5 = .ok (.aload_n 0, 1) := by decide +kernel
theorem dX7_threadBy_6 : decode cX7_threadBy 6 = .ok (.iload_n 1, 1) := by decide +kernel
theorem dX7_threadBy_7 : decode cX7_threadBy 7 = .ok (.invokestatic 46, 3) := by decide +kernel
theorem dX7_threadBy_10 : decode cX7_threadBy 10 = .ok (.invokestatic 50, 3) := by decide +kernel
theorem dX7_threadBy_13 : decode cX7_threadBy 13 = .ok (.ifCond .eq 13, 3) := by decide +kernel
theorem dX7_threadBy_16 : decode cX7_threadBy 16 = .ok (.bipush 10, 2) := by decide +kernel
theorem dX7_threadBy_18 : decode cX7_threadBy 18 = .ok (.aload_n 0, 1) := by decide +kernel
theorem dX7_threadBy_19 : decode cX7_threadBy 19 = .ok (.bipush 6, 2) := by decide +kernel
theorem dX7_threadBy_21 : decode cX7_threadBy 21 = .ok (.iaload, 1) := by decide +kernel
theorem dX7_threadBy_22 : decode cX7_threadBy 22 = .ok (.isub, 1) := by decide +kernel
theorem dX7_threadBy_23 : decode cX7_threadBy 23 = .ok (.goto 4, 3) := by decide +kernel
theorem dX7_threadBy_26 : decode cX7_threadBy 26 = .ok (.iconst 0, 1) := by decide +kernel
theorem dX7_threadBy_27 : decode cX7_threadBy 27 = .ok (.iadd, 1) := by decide +kernel
theorem dX7_threadBy_28 : decode cX7_threadBy 28 = .ok (.ireturn, 1) := by decide +kernel
theorem dX7_threads_0 : decode cX7_threads 0 = .ok (.aload_n 0, 1) := by decide +kernel
theorem dX7_threads_1 : decode cX7_threads 1 = .ok (.iconst 1, 1) := by decide +kernel
theorem dX7_threads_2 : decode cX7_threads 2 = .ok (.bipush (-8), 2) := by decide +kernel
theorem dX7_threads_4 : decode cX7_threads 4 = .ok (.iastore, 1) := by decide +kernel
theorem dX7_threads_5 : decode cX7_threads 5 = .ok (.aload_n 0, 1) := by decide +kernel
theorem dX7_threads_6 : decode cX7_threads 6 = .ok (.iconst 2, 1) := by decide +kernel
theorem dX7_threads_7 : decode cX7_threads 7 = .ok (.bipush (-8), 2) := by decide +kernel
theorem dX7_threads_9 : decode cX7_threads 9 = .ok (.iastore, 1) := by decide +kernel
theorem dX7_threads_10 : decode cX7_threads 10 = .ok (.return_, 1) := by decide +kernel
theorem dX7_outSeconds_0 : decode cX7_outSeconds 0 = .ok (.aload_n 1, 1) := by decide +kernel
theorem dX7_outSeconds_1 : decode cX7_outSeconds 1 = .ok (.iconst 1, 1) := by decide +kernel
theorem dX7_outSeconds_2 : decode cX7_outSeconds 2 = .ok (.iload_n 2, 1) := by decide +kernel
theorem dX7_outSeconds_3 : decode cX7_outSeconds 3 = .ok (.iadd, 1) := by decide +kernel
theorem dX7_outSeconds_4 : decode cX7_outSeconds 4 = .ok (.iaload, 1) := by decide +kernel
theorem dX7_outSeconds_5 : decode cX7_outSeconds 5 = .ok (.istore_n 3, 1) := by decide +kernel
theorem dX7_outSeconds_6 : decode cX7_outSeconds 6 = .ok (.iconst 0, 1) := by decide +kernel
theorem dX7_outSeconds_7 : decode cX7_outSeconds 7 = .ok (.istore 4, 2) := by decide +kernel
theorem dX7_outSeconds_9 : decode cX7_outSeconds 9 = .ok (.aload_n 0, 1) := by decide +kernel
theorem dX7_outSeconds_10 : decode cX7_outSeconds 10 = .ok (.iconst 0, 1) := by decide +kernel
theorem dX7_outSeconds_11 : decode cX7_outSeconds 11 = .ok (.putfield 90, 3) := by decide +kernel
theorem dX7_outSeconds_14 : decode cX7_outSeconds 14 = .ok (.iconst 0, 1) := by decide +kernel
theorem dX7_outSeconds_15 : decode cX7_outSeconds 15 = .ok (.istore 5, 2) := by decide +kernel
theorem dX7_outSeconds_17 : decode cX7_outSeconds 17 = .ok (.iload 5, 2) := by decide +kernel
theorem dX7_outSeconds_19 : decode cX7_outSeconds 19 = .ok (.bipush 12, 2) := by decide +kernel
theorem dX7_outSeconds_21 : decode cX7_outSeconds 21 = .ok (.if_icmp .ge 17, 3) := by decide +kernel
theorem dX7_outSeconds_24 : decode cX7_outSeconds 24 = .ok (.aload_n 0, 1) := by decide +kernel
theorem dX7_outSeconds_25 : decode cX7_outSeconds 25 = .ok (.getfield 31, 3) := by decide +kernel
theorem dX7_outSeconds_28 : decode cX7_outSeconds 28 = .ok (.iload 5, 2) := by decide +kernel
theorem dX7_outSeconds_30 : decode cX7_outSeconds 30 = .ok (.iconst 0, 1) := by decide +kernel
theorem dX7_outSeconds_31 : decode cX7_outSeconds 31 = .ok (.iastore, 1) := by decide +kernel
theorem dX7_outSeconds_32 : decode cX7_outSeconds 32 = .ok (.iinc 5 1, 3) := by decide +kernel
theorem dX7_outSeconds_35 : decode cX7_outSeconds 35 = .ok (.goto (-18), 3) := by decide +kernel
theorem dX7_outSeconds_38 : decode cX7_outSeconds 38 = .ok (.iload 4, 2) := by decide +kernel
theorem dX7_outSeconds_40 : decode cX7_outSeconds 40 = .ok (.ifCond .lt 79, 3) := by decide +kernel
theorem dX7_outSeconds_43 : decode cX7_outSeconds 43 = .ok (.aload_n 1, 1) := by decide +kernel
theorem dX7_outSeconds_44 : decode cX7_outSeconds 44 = .ok (.iload_n 2, 1) := by decide +kernel
theorem dX7_outSeconds_45 : decode cX7_outSeconds 45 = .ok (.invokestatic 94, 3) := by decide +kernel
theorem dX7_outSeconds_48 : decode cX7_outSeconds 48 = .ok (.ifCond .eq 71, 3) := by decide +kernel
theorem dX7_outSeconds_51 : decode cX7_outSeconds 51 = .ok (.aload_n 1, 1) := by decide +kernel
theorem dX7_outSeconds_52 : decode cX7_outSeconds 52 = .ok (.iload_n 2, 1) := by decide +kernel
theorem dX7_outSeconds_53 : decode cX7_outSeconds 53 = .ok (.invokestatic 68, 3) := by decide +kernel
theorem dX7_outSeconds_56 : decode cX7_outSeconds 56 = .ok (.istore 5, 2) := by decide +kernel
theorem dX7_outSeconds_58 : decode cX7_outSeconds 58 = .ok (.aload_n 0, 1) := by decide +kernel
theorem dX7_outSeconds_59 : decode cX7_outSeconds 59 = .ok (.getfield 31, 3) := by decide +kernel
theorem dX7_outSeconds_62 : decode cX7_outSeconds 62 = .ok (.iload 5, 2) := by decide +kernel
theorem dX7_outSeconds_64 : decode cX7_outSeconds 64 = .ok (.dup2, 1) := by decide +kernel
theorem dX7_outSeconds_65 : decode cX7_outSeconds 65 = .ok (.iaload, 1) := by decide +kernel
theorem dX7_outSeconds_66 : decode cX7_outSeconds 66 = .ok (.aload_n 1, 1) := by decide +kernel
theorem dX7_outSeconds_67 : decode cX7_outSeconds 67 = .ok (.iload 5, 2) := by decide +kernel
theorem dX7_outSeconds_69 : decode cX7_outSeconds 69 = .ok (.invokestatic 98, 3) := by decide +kernel
theorem dX7_outSeconds_72 : decode cX7_outSeconds 72 = .ok (.iadd, 1) := by decide +kernel
theorem dX7_outSeconds_73 : decode cX7_outSeconds 73 = .ok (.iastore, 1) := by decide +kernel
theorem dX7_outSeconds_74 : decode cX7_outSeconds 74 = .ok (.iload 4, 2) := by decide +kernel
theorem dX7_outSeconds_76 : decode cX7_outSeconds 76 = .ok (.aload_n 1, 1) := by decide +kernel
theorem dX7_outSeconds_77 : decode cX7_outSeconds 77 = .ok (.iload 5, 2) := by decide +kernel
theorem dX7_outSeconds_79 : decode cX7_outSeconds 79 = .ok (.invokestatic 98, 3) := by decide +kernel
theorem dX7_outSeconds_82 : decode cX7_outSeconds 82 = .ok (.iadd, 1) := by decide +kernel
theorem dX7_outSeconds_83 : decode cX7_outSeconds 83 = .ok (.istore 4, 2) := by decide +kernel
theorem dX7_outSeconds_85 : decode cX7_outSeconds 85 = .ok (.aload_n 0, 1) := by decide +kernel
theorem dX7_outSeconds_86 : decode cX7_outSeconds 86 = .ok (.dup, 1) := by decide +kernel
theorem dX7_outSeconds_87 : decode cX7_outSeconds 87 = .ok (.getfield 90, 3) := by decide +kernel
theorem dX7_outSeconds_90 : decode cX7_outSeconds 90 = .ok (.iconst 1, 1) := by decide +kernel
theorem dX7_outSeconds_91 : decode cX7_outSeconds 91 = .ok (.iadd, 1) := by decide +kernel
theorem dX7_outSeconds_92 : decode cX7_outSeconds 92 = .ok (.putfield 90, 3) := by decide +kernel
theorem dX7_outSeconds_95 : decode cX7_outSeconds 95 = .ok (.aload_n 1, 1) := by decide +kernel
theorem dX7_outSeconds_96 : decode cX7_outSeconds 96 = .ok (.iload 5, 2) := by decide +kernel
theorem dX7_outSeconds_98 : decode cX7_outSeconds 98 = .ok (.invokestatic 81, 3) := by decide +kernel
theorem dX7_outSeconds_101 : decode cX7_outSeconds 101 = .ok (.ifCond .ne 10, 3) := by decide +kernel
theorem dX7_outSeconds_104 : decode cX7_outSeconds 104 = .ok (.bipush (-9), 2) := by decide +kernel
theorem dX7_outSeconds_106 : decode cX7_outSeconds 106 = .ok (.istore 4, 2) := by decide +kernel
theorem dX7_outSeconds_108 : decode cX7_outSeconds 108 = .ok (.goto 8, 3) := by decide +kernel
theorem dX7_outSeconds_111 : decode cX7_outSeconds 111 = .ok (.aload_n 1, 1) := by decide +kernel
theorem dX7_outSeconds_112 : decode cX7_outSeconds 112 = .ok (.iload_n 2, 1) := by decide +kernel
theorem dX7_outSeconds_113 : decode cX7_outSeconds 113 = .ok (.invokestatic 101, 3) := by decide +kernel
theorem dX7_outSeconds_116 : decode cX7_outSeconds 116 = .ok (.goto (-78), 3) := by decide +kernel
theorem dX7_outSeconds_119 : decode cX7_outSeconds 119 = .ok (.aload_n 1, 1) := by decide +kernel
theorem dX7_outSeconds_120 : decode cX7_outSeconds 120 = .ok (.iconst 1, 1) := by decide +kernel
theorem dX7_outSeconds_121 : decode cX7_outSeconds 121 = .ok (.iload_n 2, 1) := by decide +kernel
theorem dX7_outSeconds_122 : decode cX7_outSeconds 122 = .ok (.iadd, 1) := by decide +kernel
theorem dX7_outSeconds_123 : decode cX7_outSeconds 123 = .ok (.iload_n 3, 1) := by decide +kernel
theorem dX7_outSeconds_124 : decode cX7_outSeconds 124 = .ok (.iastore, 1) := by decide +kernel
theorem dX7_outSeconds_125 : decode cX7_outSeconds 125 = .ok (.iload 4, 2) := by decide +kernel
theorem dX7_outSeconds_127 : decode cX7_outSeconds 127 = .ok (.ireturn, 1) := by decide +kernel
theorem dX7_allSeconds_0 : decode cX7_allSeconds 0 = .ok (.aload_n 0, 1) := by decide +kernel
theorem dX7_allSeconds_1 : decode cX7_allSeconds 1 = .ok (.aload_n 1, 1) := by decide +kernel
theorem dX7_allSeconds_2 : decode cX7_allSeconds 2 = .ok (.iconst 0, 1) := by decide +kernel
theorem dX7_allSeconds_3 : decode cX7_allSeconds 3 = .ok (.invokevirtual 105, 3) := by decide +kernel
theorem dX7_allSeconds_6 : decode cX7_allSeconds 6 = .ok (.istore_n 2, 1) := by decide +kernel
theorem dX7_allSeconds_7 : decode cX7_allSeconds 7 = .ok (.aload_n 0, 1) := by decide +kernel
theorem dX7_allSeconds_8 : decode cX7_allSeconds 8 = .ok (.aload_n 1, 1) := by decide +kernel
theorem dX7_allSeconds_9 : decode cX7_allSeconds 9 = .ok (.iconst 1, 1) := by decide +kernel
theorem dX7_allSeconds_10 : decode cX7_allSeconds 10 = .ok (.invokevirtual 105, 3) := by decide +kernel
theorem dX7_allSeconds_13 : decode cX7_allSeconds 13 = .ok (.istore_n 3, 1) := by decide +kernel
theorem dX7_allSeconds_14 : decode cX7_allSeconds 14 = .ok (.iload_n 2, 1) := by decide +kernel
theorem dX7_allSeconds_15 : decode cX7_allSeconds 15 = .ok (.ifCond .lt 7, 3) := by decide +kernel
theorem dX7_allSeconds_18 : decode cX7_allSeconds 18 = .ok (.iload_n 3, 1) := by decide +kernel
theorem dX7_allSeconds_19 : decode cX7_allSeconds 19 = .ok (.ifCond .ge 8, 3) := by decide +kernel
theorem dX7_allSeconds_22 : decode cX7_allSeconds 22 = .ok (.bipush (-9), 2) := by decide +kernel
theorem dX7_allSeconds_24 : decode cX7_allSeconds 24 = .ok (.goto 6, 3) := by decide +kernel
theorem dX7_allSeconds_27 : decode cX7_allSeconds 27 = .ok (.iload_n 2, 1) := by decide +kernel
theorem dX7_allSeconds_28 : decode cX7_allSeconds 28 = .ok (.iload_n 3, 1) := by decide +kernel
theorem dX7_allSeconds_29 : decode cX7_allSeconds 29 = .ok (.iadd, 1) := by decide +kernel
theorem dX7_allSeconds_30 : decode cX7_allSeconds 30 = .ok (.ireturn, 1) := by decide +kernel
theorem dX7_lostMany_0 : decode cX7_lostMany 0 = .ok (.aload_n 0, 1) := by decide +kernel
theorem dX7_lostMany_1 : decode cX7_lostMany 1 = .ok (.iconst 0, 1) := by decide +kernel
theorem dX7_lostMany_2 : decode cX7_lostMany 2 = .ok (.invokestatic 94, 3) := by decide +kernel
theorem dX7_lostMany_5 : decode cX7_lostMany 5 = .ok (.ifCond .eq 7, 3) := by decide +kernel
theorem dX7_lostMany_8 : decode cX7_lostMany 8 = .ok (.iconst 1, 1) := by decide +kernel
theorem dX7_lostMany_9 : decode cX7_lostMany 9 = .ok (.goto 4, 3) := by decide +kernel
theorem dX7_lostMany_12 : decode cX7_lostMany 12 = .ok (.iconst 0, 1) := by decide +kernel
theorem dX7_lostMany_13 : decode cX7_lostMany 13 = .ok (.aload_n 0, 1) := by decide +kernel
theorem dX7_lostMany_14 : decode cX7_lostMany 14 = .ok (.iconst 1, 1) := by decide +kernel
theorem dX7_lostMany_15 : decode cX7_lostMany 15 = .ok (.invokestatic 94, 3) := by decide +kernel
theorem dX7_lostMany_18 : decode cX7_lostMany 18 = .ok (.ifCond .eq 7, 3) := by decide +kernel
theorem dX7_lostMany_21 : decode cX7_lostMany 21 = .ok (.iconst 1, 1) := by decide +kernel
theorem dX7_lostMany_22 : decode cX7_lostMany 22 = .ok (.goto 4, 3) := by decide +kernel
theorem dX7_lostMany_25 : decode cX7_lostMany 25 = .ok (.iconst 0, 1) := by decide +kernel
theorem dX7_lostMany_26 : decode cX7_lostMany 26 = .ok (.iadd, 1) := by decide +kernel
theorem dX7_lostMany_27 : decode cX7_lostMany 27 = .ok (.ireturn, 1) := by decide +kernel
theorem dX7_letter_0 : decode cX7_letter 0 = .ok (.iload_n 1, 1) := by decide +kernel
theorem dX7_letter_1 : decode cX7_letter 1 = .ok (.ifCond .ge 10, 3) := by decide +kernel
theorem dX7_letter_4 : decode cX7_letter 4 = .ok (.aload_n 0, 1) := by decide +kernel
theorem dX7_letter_5 : decode cX7_letter 5 = .ok (.bipush (-4), 2) := by decide +kernel
theorem dX7_letter_7 : decode cX7_letter 7 = .ok (.invokevirtual 38, 3) := by decide +kernel
theorem dX7_letter_10 : decode cX7_letter 10 = .ok (.ireturn, 1) := by decide +kernel
theorem dX7_letter_11 : decode cX7_letter 11 = .ok (.iload_n 1, 1) := by decide +kernel
theorem dX7_letter_12 : decode cX7_letter 12 = .ok (.sipush 255, 3) := by decide +kernel
theorem dX7_letter_15 : decode cX7_letter 15 = .ok (.if_icmp .gt 12, 3) := by decide +kernel
theorem dX7_letter_18 : decode cX7_letter 18 = .ok (.aload_n 0, 1) := by decide +kernel
theorem dX7_letter_19 : decode cX7_letter 19 = .ok (.getfield 108, 3) := by decide +kernel
theorem dX7_letter_22 : decode cX7_letter 22 = .ok (.bipush 96, 2) := by decide +kernel
theorem dX7_letter_24 : decode cX7_letter 24 = .ok (.if_icmp .ne 10, 3) := by decide +kernel
theorem dX7_letter_27 : decode cX7_letter 27 = .ok (.aload_n 0, 1) := by decide +kernel
theorem dX7_letter_28 : decode cX7_letter 28 = .ok (.bipush (-6), 2) := by decide +kernel
theorem dX7_letter_30 : decode cX7_letter 30 = .ok (.invokevirtual 38, 3) := by decide +kernel
theorem dX7_letter_33 : decode cX7_letter 33 = .ok (.ireturn, 1) := by decide +kernel
theorem dX7_letter_34 : decode cX7_letter 34 = .ok (.aload_n 0, 1) := by decide +kernel
theorem dX7_letter_35 : decode cX7_letter 35 = .ok (.getfield 22, 3) := by decide +kernel
theorem dX7_letter_38 : decode cX7_letter 38 = .ok (.aload_n 0, 1) := by decide +kernel
theorem dX7_letter_39 : decode cX7_letter 39 = .ok (.getfield 108, 3) := by decide +kernel
theorem dX7_letter_42 : decode cX7_letter 42 = .ok (.iload_n 1, 1) := by decide +kernel
theorem dX7_letter_43 : decode cX7_letter 43 = .ok (.iastore, 1) := by decide +kernel
theorem dX7_letter_44 : decode cX7_letter 44 = .ok (.aload_n 0, 1) := by decide +kernel
theorem dX7_letter_45 : decode cX7_letter 45 = .ok (.dup, 1) := by decide +kernel
theorem dX7_letter_46 : decode cX7_letter 46 = .ok (.getfield 108, 3) := by decide +kernel
theorem dX7_letter_49 : decode cX7_letter 49 = .ok (.iconst 1, 1) := by decide +kernel
theorem dX7_letter_50 : decode cX7_letter 50 = .ok (.iadd, 1) := by decide +kernel
theorem dX7_letter_51 : decode cX7_letter 51 = .ok (.putfield 108, 3) := by decide +kernel
theorem dX7_letter_54 : decode cX7_letter 54 = .ok (.aload_n 0, 1) := by decide +kernel
theorem dX7_letter_55 : decode cX7_letter 55 = .ok (.getfield 108, 3) := by decide +kernel
theorem dX7_letter_58 : decode cX7_letter 58 = .ok (.ireturn, 1) := by decide +kernel
theorem dX7_here_0 : decode cX7_here 0 = .ok (.aload_n 0, 1) := by decide +kernel
theorem dX7_here_1 : decode cX7_here 1 = .ok (.getfield 111, 3) := by decide +kernel
theorem dX7_here_4 : decode cX7_here 4 = .ok (.aload_n 0, 1) := by decide +kernel
theorem dX7_here_5 : decode cX7_here 5 = .ok (.getfield 108, 3) := by decide +kernel
theorem dX7_here_8 : decode cX7_here 8 = .ok (.if_icmp .ge 15, 3) := by decide +kernel
theorem dX7_here_11 : decode cX7_here 11 = .ok (.aload_n 0, 1) := by decide +kernel
theorem dX7_here_12 : decode cX7_here 12 = .ok (.getfield 22, 3) := by decide +kernel
theorem dX7_here_15 : decode cX7_here 15 = .ok (.aload_n 0, 1) := by decide +kernel
theorem dX7_here_16 : decode cX7_here 16 = .ok (.getfield 111, 3) := by decide +kernel
theorem dX7_here_19 : decode cX7_here 19 = .ok (.iaload, 1) := by decide +kernel
theorem dX7_here_20 : decode cX7_here 20 = .ok (.goto 4, 3) := by decide +kernel
theorem dX7_here_23 : decode cX7_here 23 = .ok (.iconst (-1), 1) := by decide +kernel
theorem dX7_here_24 : decode cX7_here 24 = .ok (.ireturn, 1) := by decide +kernel
theorem dX7_readsNumber_0 : decode cX7_readsNumber 0 = .ok (.aload_n 0, 1) := by decide +kernel
theorem dX7_readsNumber_1 : decode cX7_readsNumber 1 = .ok (.getfield 34, 3) := by decide +kernel
theorem dX7_readsNumber_4 : decode cX7_readsNumber 4 = .ok (.iload_n 1, 1) := by decide +kernel
theorem dX7_readsNumber_5 : decode cX7_readsNumber 5 = .ok (.iconst 0, 1) := by decide +kernel
theorem dX7_readsNumber_6 : decode cX7_readsNumber 6 = .ok (.iastore, 1) := by decide +kernel
theorem dX7_readsNumber_7 : decode cX7_readsNumber 7 = .ok (.iconst 0, 1) := by decide +kernel
theorem dX7_readsNumber_8 : decode cX7_readsNumber 8 = .ok (.istore_n 3, 1) := by decide +kernel
theorem dX7_readsNumber_9 : decode cX7_readsNumber 9 = .ok (.iload_n 3, 1) := by decide +kernel
theorem dX7_readsNumber_10 : decode cX7_readsNumber 10 = .ok (.iload_n 2, 1) := by decide +kernel
theorem dX7_readsNumber_11 : decode cX7_readsNumber 11 = .ok (.if_icmp .ge 58, 3) := by decide +kernel
theorem dX7_readsNumber_14 : decode cX7_readsNumber 14 = .ok (.aload_n 0, 1) := by decide +kernel
theorem dX7_readsNumber_15 : decode cX7_readsNumber 15 = .ok (.invokevirtual 114, 3) := by decide +kernel
theorem dX7_readsNumber_18 : decode cX7_readsNumber 18 = .ok (.bipush 48, 2) := by decide +kernel
theorem dX7_readsNumber_20 : decode cX7_readsNumber 20 = .ok (.bipush 57, 2) := by decide +kernel
theorem dX7_readsNumber_22 : decode cX7_readsNumber 22 = .ok (.invokestatic 42, 3) := by decide +kernel
theorem dX7_readsNumber_25 : decode cX7_readsNumber 25 = .ok (.ifCond .ne 5, 3) := by decide +kernel
theorem dX7_readsNumber_28 : decode cX7_readsNumber 28 = .ok (.iconst 0, 1) := by decide +kernel
theorem dX7_readsNumber_29 : decode cX7_readsNumber 29 = .ok (.ireturn, 1) := by decide +kernel
theorem dX7_readsNumber_30 : decode cX7_readsNumber 30 = .ok (.aload_n 0, 1) := by decide +kernel
theorem dX7_readsNumber_31 : decode cX7_readsNumber 31 = .ok (.getfield 34, 3) := by decide +kernel
theorem dX7_readsNumber_34 : decode cX7_readsNumber 34 = .ok (.iload_n 1, 1) := by decide +kernel
theorem dX7_readsNumber_35 : decode cX7_readsNumber 35 = .ok (.bipush 10, 2) := by decide +kernel
theorem dX7_readsNumber_37 : decode cX7_readsNumber 37 = .ok (.aload_n 0, 1) := by decide +kernel
theorem dX7_readsNumber_38 : decode cX7_readsNumber 38 = .ok (.getfield 34, 3) := by decide +kernel
theorem dX7_readsNumber_41 : decode cX7_readsNumber 41 = .ok (.iload_n 1, 1) := by decide +kernel
theorem dX7_readsNumber_42 : decode cX7_readsNumber 42 = .ok (.iaload, 1) := by decide +kernel
theorem dX7_readsNumber_43 : decode cX7_readsNumber 43 = .ok (.imul, 1) := by decide +kernel
theorem dX7_readsNumber_44 : decode cX7_readsNumber 44 = .ok (.aload_n 0, 1) := by decide +kernel
theorem dX7_readsNumber_45 : decode cX7_readsNumber 45 = .ok (.invokevirtual 114, 3) := by decide +kernel
theorem dX7_readsNumber_48 : decode cX7_readsNumber 48 = .ok (.iadd, 1) := by decide +kernel
theorem dX7_readsNumber_49 : decode cX7_readsNumber 49 = .ok (.bipush 48, 2) := by decide +kernel
theorem dX7_readsNumber_51 : decode cX7_readsNumber 51 = .ok (.isub, 1) := by decide +kernel
theorem dX7_readsNumber_52 : decode cX7_readsNumber 52 = .ok (.iastore, 1) := by decide +kernel
theorem dX7_readsNumber_53 : decode cX7_readsNumber 53 = .ok (.aload_n 0, 1) := by decide +kernel
theorem dX7_readsNumber_54 : decode cX7_readsNumber 54 = .ok (.dup, 1) := by decide +kernel
theorem dX7_readsNumber_55 : decode cX7_readsNumber 55 = .ok (.getfield 111, 3) := by decide +kernel
theorem dX7_readsNumber_58 : decode cX7_readsNumber 58 = .ok (.iconst 1, 1) := by decide +kernel
theorem dX7_readsNumber_59 : decode cX7_readsNumber 59 = .ok (.iadd, 1) := by decide +kernel
theorem dX7_readsNumber_60 : decode cX7_readsNumber 60 = .ok (.putfield 111, 3) := by decide +kernel
theorem dX7_readsNumber_63 : decode cX7_readsNumber 63 = .ok (.iinc 3 1, 3) := by decide +kernel
theorem dX7_readsNumber_66 : decode cX7_readsNumber 66 = .ok (.goto (-57), 3) := by decide +kernel
theorem dX7_readsNumber_69 : decode cX7_readsNumber 69 = .ok (.iconst 1, 1) := by decide +kernel
theorem dX7_readsNumber_70 : decode cX7_readsNumber 70 = .ok (.ireturn, 1) := by decide +kernel
theorem dX7_kindBy_0 : decode cX7_kindBy 0 = .ok (.iload_n 0, 1) := by decide +kernel
theorem dX7_kindBy_1 : decode cX7_kindBy 1 = .ok (.lookupswitch 71 #[(98, 69), (99, 59), (101, 63), (108, 65), (115, 61), (118, 67)], 59) := by decide +kernel
theorem dX7_kindBy_60 : decode cX7_kindBy 60 = .ok (.iconst 0, 1) := by decide +kernel
theorem dX7_kindBy_61 : decode cX7_kindBy 61 = .ok (.ireturn, 1) := by decide +kernel
theorem dX7_kindBy_62 : decode cX7_kindBy 62 = .ok (.iconst 1, 1) := by decide +kernel
theorem dX7_kindBy_63 : decode cX7_kindBy 63 = .ok (.ireturn, 1) := by decide +kernel
theorem dX7_kindBy_64 : decode cX7_kindBy 64 = .ok (.iconst 2, 1) := by decide +kernel
theorem dX7_kindBy_65 : decode cX7_kindBy 65 = .ok (.ireturn, 1) := by decide +kernel
theorem dX7_kindBy_66 : decode cX7_kindBy 66 = .ok (.iconst 3, 1) := by decide +kernel
theorem dX7_kindBy_67 : decode cX7_kindBy 67 = .ok (.ireturn, 1) := by decide +kernel
theorem dX7_kindBy_68 : decode cX7_kindBy 68 = .ok (.iconst 4, 1) := by decide +kernel
theorem dX7_kindBy_69 : decode cX7_kindBy 69 = .ok (.ireturn, 1) := by decide +kernel
theorem dX7_kindBy_70 : decode cX7_kindBy 70 = .ok (.iconst 5, 1) := by decide +kernel
theorem dX7_kindBy_71 : decode cX7_kindBy 71 = .ok (.ireturn, 1) := by decide +kernel
theorem dX7_kindBy_72 : decode cX7_kindBy 72 = .ok (.bipush (-9), 2) := by decide +kernel
theorem dX7_kindBy_74 : decode cX7_kindBy 74 = .ok (.ireturn, 1) := by decide +kernel
theorem dX7_readsKind_0 : decode cX7_readsKind 0 = .ok (.aload_n 0, 1) := by decide +kernel
theorem dX7_readsKind_1 : decode cX7_readsKind 1 = .ok (.getfield 34, 3) := by decide +kernel
theorem dX7_readsKind_4 : decode cX7_readsKind 4 = .ok (.iconst 0, 1) := by decide +kernel
theorem dX7_readsKind_5 : decode cX7_readsKind 5 = .ok (.aload_n 0, 1) := by decide +kernel
theorem dX7_readsKind_6 : decode cX7_readsKind 6 = .ok (.invokevirtual 114, 3) := by decide +kernel
theorem dX7_readsKind_9 : decode cX7_readsKind 9 = .ok (.invokestatic 118, 3) := by decide +kernel
theorem dX7_readsKind_12 : decode cX7_readsKind 12 = .ok (.iastore, 1) := by decide +kernel
theorem dX7_readsKind_13 : decode cX7_readsKind 13 = .ok (.aload_n 0, 1) := by decide +kernel
theorem dX7_readsKind_14 : decode cX7_readsKind 14 = .ok (.dup, 1) := by decide +kernel
theorem dX7_readsKind_15 : decode cX7_readsKind 15 = .ok (.getfield 111, 3) := by decide +kernel
theorem dX7_readsKind_18 : decode cX7_readsKind 18 = .ok (.aload_n 0, 1) := by decide +kernel
theorem dX7_readsKind_19 : decode cX7_readsKind 19 = .ok (.getfield 34, 3) := by decide +kernel
theorem dX7_readsKind_22 : decode cX7_readsKind 22 = .ok (.iconst 0, 1) := by decide +kernel
theorem dX7_readsKind_23 : decode cX7_readsKind 23 = .ok (.iaload, 1) := by decide +kernel
theorem dX7_readsKind_24 : decode cX7_readsKind 24 = .ok (.ifCond .ge 7, 3) := by decide +kernel
theorem dX7_readsKind_27 : decode cX7_readsKind 27 = .ok (.iconst 0, 1) := by decide +kernel
theorem dX7_readsKind_28 : decode cX7_readsKind 28 = .ok (.goto 4, 3) := by decide +kernel
theorem dX7_readsKind_31 : decode cX7_readsKind 31 = .ok (.iconst 1, 1) := by decide +kernel
theorem dX7_readsKind_32 : decode cX7_readsKind 32 = .ok (.iadd, 1) := by decide +kernel
theorem dX7_readsKind_33 : decode cX7_readsKind 33 = .ok (.putfield 111, 3) := by decide +kernel
theorem dX7_readsKind_36 : decode cX7_readsKind 36 = .ok (.aload_n 0, 1) := by decide +kernel
theorem dX7_readsKind_37 : decode cX7_readsKind 37 = .ok (.getfield 34, 3) := by decide +kernel
theorem dX7_readsKind_40 : decode cX7_readsKind 40 = .ok (.iconst 0, 1) := by decide +kernel
theorem dX7_readsKind_41 : decode cX7_readsKind 41 = .ok (.iaload, 1) := by decide +kernel
theorem dX7_readsKind_42 : decode cX7_readsKind 42 = .ok (.ifCond .lt 7, 3) := by decide +kernel
theorem dX7_readsKind_45 : decode cX7_readsKind 45 = .ok (.iconst 1, 1) := by decide +kernel
theorem dX7_readsKind_46 : decode cX7_readsKind 46 = .ok (.goto 4, 3) := by decide +kernel
theorem dX7_readsKind_49 : decode cX7_readsKind 49 = .ok (.iconst 0, 1) := by decide +kernel
theorem dX7_readsKind_50 : decode cX7_readsKind 50 = .ok (.ireturn, 1) := by decide +kernel
theorem dX7_readsSigned_0 : decode cX7_readsSigned 0 = .ok (.aload_n 0, 1) := by decide +kernel
theorem dX7_readsSigned_1 : decode cX7_readsSigned 1 = .ok (.invokevirtual 114, 3) := by decide +kernel
theorem dX7_readsSigned_4 : decode cX7_readsSigned 4 = .ok (.istore_n 1, 1) := by decide +kernel
theorem dX7_readsSigned_5 : decode cX7_readsSigned 5 = .ok (.iload_n 1, 1) := by decide +kernel
theorem dX7_readsSigned_6 : decode cX7_readsSigned 6 = .ok (.bipush 43, 2) := by decide +kernel
theorem dX7_readsSigned_8 : decode cX7_readsSigned 8 = .ok (.if_icmp .eq 11, 3) := by decide +kernel
theorem dX7_readsSigned_11 : decode cX7_readsSigned 11 = .ok (.iload_n 1, 1) := by decide +kernel
theorem dX7_readsSigned_12 : decode cX7_readsSigned 12 = .ok (.bipush 45, 2) := by decide +kernel
theorem dX7_readsSigned_14 : decode cX7_readsSigned 14 = .ok (.if_icmp .eq 5, 3) := by decide +kernel
theorem dX7_readsSigned_17 : decode cX7_readsSigned 17 = .ok (.iconst 0, 1) := by decide +kernel
theorem dX7_readsSigned_18 : decode cX7_readsSigned 18 = .ok (.ireturn, 1) := by decide +kernel
theorem dX7_readsSigned_19 : decode cX7_readsSigned 19 = .ok (.aload_n 0, 1) := by decide +kernel
theorem dX7_readsSigned_20 : decode cX7_readsSigned 20 = .ok (.dup, 1) := by decide +kernel
theorem dX7_readsSigned_21 : decode cX7_readsSigned 21 = .ok (.getfield 111, 3) := by decide +kernel
theorem dX7_readsSigned_24 : decode cX7_readsSigned 24 = .ok (.iconst 1, 1) := by decide +kernel
theorem dX7_readsSigned_25 : decode cX7_readsSigned 25 = .ok (.iadd, 1) := by decide +kernel
theorem dX7_readsSigned_26 : decode cX7_readsSigned 26 = .ok (.putfield 111, 3) := by decide +kernel
theorem dX7_readsSigned_29 : decode cX7_readsSigned 29 = .ok (.aload_n 0, 1) := by decide +kernel
theorem dX7_readsSigned_30 : decode cX7_readsSigned 30 = .ok (.iconst 1, 1) := by decide +kernel
theorem dX7_readsSigned_31 : decode cX7_readsSigned 31 = .ok (.iconst 2, 1) := by decide +kernel
theorem dX7_readsSigned_32 : decode cX7_readsSigned 32 = .ok (.invokevirtual 121, 3) := by decide +kernel
theorem dX7_readsSigned_35 : decode cX7_readsSigned 35 = .ok (.istore_n 2, 1) := by decide +kernel
theorem dX7_readsSigned_36 : decode cX7_readsSigned 36 = .ok (.aload_n 0, 1) := by decide +kernel
theorem dX7_readsSigned_37 : decode cX7_readsSigned 37 = .ok (.getfield 34, 3) := by decide +kernel
theorem dX7_readsSigned_40 : decode cX7_readsSigned 40 = .ok (.iconst 1, 1) := by decide +kernel
theorem dX7_readsSigned_41 : decode cX7_readsSigned 41 = .ok (.iload_n 1, 1) := by decide +kernel
theorem dX7_readsSigned_42 : decode cX7_readsSigned 42 = .ok (.bipush 45, 2) := by decide +kernel
theorem dX7_readsSigned_44 : decode cX7_readsSigned 44 = .ok (.if_icmp .ne 13, 3) := by decide +kernel
theorem dX7_readsSigned_47 : decode cX7_readsSigned 47 = .ok (.aload_n 0, 1) := by decide +kernel
theorem dX7_readsSigned_48 : decode cX7_readsSigned 48 = .ok (.getfield 34, 3) := by decide +kernel
theorem dX7_readsSigned_51 : decode cX7_readsSigned 51 = .ok (.iconst 1, 1) := by decide +kernel
theorem dX7_readsSigned_52 : decode cX7_readsSigned 52 = .ok (.iaload, 1) := by decide +kernel
theorem dX7_readsSigned_53 : decode cX7_readsSigned 53 = .ok (.ineg, 1) := by decide +kernel
theorem dX7_readsSigned_54 : decode cX7_readsSigned 54 = .ok (.goto 9, 3) := by decide +kernel
theorem dX7_readsSigned_57 : decode cX7_readsSigned 57 = .ok (.aload_n 0, 1) := by decide +kernel
theorem dX7_readsSigned_58 : decode cX7_readsSigned 58 = .ok (.getfield 34, 3) := by decide +kernel
theorem dX7_readsSigned_61 : decode cX7_readsSigned 61 = .ok (.iconst 1, 1) := by decide +kernel
theorem dX7_readsSigned_62 : decode cX7_readsSigned 62 = .ok (.iaload, 1) := by decide +kernel
theorem dX7_readsSigned_63 : decode cX7_readsSigned 63 = .ok (.iastore, 1) := by decide +kernel
theorem dX7_readsSigned_64 : decode cX7_readsSigned 64 = .ok (.iload_n 2, 1) := by decide +kernel
theorem dX7_readsSigned_65 : decode cX7_readsSigned 65 = .ok (.ireturn, 1) := by decide +kernel
theorem dX7_readsStatement_0 : decode cX7_readsStatement 0 = .ok (.aload_n 0, 1) := by decide +kernel
theorem dX7_readsStatement_1 : decode cX7_readsStatement 1 = .ok (.invokevirtual 114, 3) := by decide +kernel
theorem dX7_readsStatement_4 : decode cX7_readsStatement 4 = .ok (.istore_n 1, 1) := by decide +kernel
theorem dX7_readsStatement_5 : decode cX7_readsStatement 5 = .ok (.iconst 1, 1) := by decide +kernel
theorem dX7_readsStatement_6 : decode cX7_readsStatement 6 = .ok (.istore_n 2, 1) := by decide +kernel
theorem dX7_readsStatement_7 : decode cX7_readsStatement 7 = .ok (.aload_n 0, 1) := by decide +kernel
theorem dX7_readsStatement_8 : decode cX7_readsStatement 8 = .ok (.dup, 1) := by decide +kernel
theorem dX7_readsStatement_9 : decode cX7_readsStatement 9 = .ok (.getfield 111, 3) := by decide +kernel
theorem dX7_readsStatement_12 : decode cX7_readsStatement 12 = .ok (.iconst 1, 1) := by decide +kernel
theorem dX7_readsStatement_13 : decode cX7_readsStatement 13 = .ok (.iadd, 1) := by decide +kernel
theorem dX7_readsStatement_14 : decode cX7_readsStatement 14 = .ok (.putfield 111, 3) := by decide +kernel
theorem dX7_readsStatement_17 : decode cX7_readsStatement 17 = .ok (.iload_n 1, 1) := by decide +kernel
theorem dX7_readsStatement_18 : decode cX7_readsStatement 18 = .ok (.tableswitch 199 101 119 #[134, 199, 199, 199, 100, 199, 159, 199, 199, 90, 199, 172, 199, 199, 169, 199, 199, 199, 90], 90) := by decide +kernel
theorem dX7_readsStatement_108 : decode cX7_readsStatement 108 = .ok (.aload_n 0, 1) := by decide +kernel
theorem dX7_readsStatement_109 : decode cX7_readsStatement 109 = .ok (.iconst 0, 1) := by decide +kernel
theorem dX7_readsStatement_110 : decode cX7_readsStatement 110 = .ok (.iconst 2, 1) := by decide +kernel
theorem dX7_readsStatement_111 : decode cX7_readsStatement 111 = .ok (.invokevirtual 121, 3) := by decide +kernel
theorem dX7_readsStatement_114 : decode cX7_readsStatement 114 = .ok (.istore_n 2, 1) := by decide +kernel
theorem dX7_readsStatement_115 : decode cX7_readsStatement 115 = .ok (.goto 114, 3) := by decide +kernel
theorem dX7_readsStatement_118 : decode cX7_readsStatement 118 = .ok (.aload_n 0, 1) := by decide +kernel
theorem dX7_readsStatement_119 : decode cX7_readsStatement 119 = .ok (.invokevirtual 125, 3) := by decide +kernel
theorem dX7_readsStatement_122 : decode cX7_readsStatement 122 = .ok (.ifCond .eq 25, 3) := by decide +kernel
theorem dX7_readsStatement_125 : decode cX7_readsStatement 125 = .ok (.aload_n 0, 1) := by decide +kernel
theorem dX7_readsStatement_126 : decode cX7_readsStatement 126 = .ok (.iconst 1, 1) := by decide +kernel
theorem dX7_readsStatement_127 : decode cX7_readsStatement 127 = .ok (.iconst 2, 1) := by decide +kernel
theorem dX7_readsStatement_128 : decode cX7_readsStatement 128 = .ok (.invokevirtual 121, 3) := by decide +kernel
theorem dX7_readsStatement_131 : decode cX7_readsStatement 131 = .ok (.ifCond .eq 16, 3) := by decide +kernel
theorem dX7_readsStatement_134 : decode cX7_readsStatement 134 = .ok (.aload_n 0, 1) := by decide +kernel
theorem dX7_readsStatement_135 : decode cX7_readsStatement 135 = .ok (.iconst 2, 1) := by decide +kernel
theorem dX7_readsStatement_136 : decode cX7_readsStatement 136 = .ok (.iconst 1, 1) := by decide +kernel
theorem dX7_readsStatement_137 : decode cX7_readsStatement 137 = .ok (.invokevirtual 121, 3) := by decide +kernel
theorem dX7_readsStatement_140 : decode cX7_readsStatement 140 = .ok (.ifCond .eq 7, 3) := by decide +kernel
theorem dX7_readsStatement_143 : decode cX7_readsStatement 143 = .ok (.iconst 1, 1) := by decide +kernel
theorem dX7_readsStatement_144 : decode cX7_readsStatement 144 = .ok (.goto 4, 3) := by decide +kernel
theorem dX7_readsStatement_147 : decode cX7_readsStatement 147 = .ok (.iconst 0, 1) := by decide +kernel
theorem dX7_readsStatement_148 : decode cX7_readsStatement 148 = .ok (.istore_n 2, 1) := by decide +kernel
theorem dX7_readsStatement_149 : decode cX7_readsStatement 149 = .ok (.goto 80, 3) := by decide +kernel
theorem dX7_readsStatement_152 : decode cX7_readsStatement 152 = .ok (.aload_n 0, 1) := by decide +kernel
theorem dX7_readsStatement_153 : decode cX7_readsStatement 153 = .ok (.iconst 0, 1) := by decide +kernel
theorem dX7_readsStatement_154 : decode cX7_readsStatement 154 = .ok (.iconst 1, 1) := by decide +kernel
theorem dX7_readsStatement_155 : decode cX7_readsStatement 155 = .ok (.invokevirtual 121, 3) := by decide +kernel
theorem dX7_readsStatement_158 : decode cX7_readsStatement 158 = .ok (.ifCond .eq 14, 3) := by decide +kernel
theorem dX7_readsStatement_161 : decode cX7_readsStatement 161 = .ok (.aload_n 0, 1) := by decide +kernel
theorem dX7_readsStatement_162 : decode cX7_readsStatement 162 = .ok (.invokevirtual 129, 3) := by decide +kernel
theorem dX7_readsStatement_165 : decode cX7_readsStatement 165 = .ok (.ifCond .eq 7, 3) := by decide +kernel
theorem dX7_readsStatement_168 : decode cX7_readsStatement 168 = .ok (.iconst 1, 1) := by decide +kernel
theorem dX7_readsStatement_169 : decode cX7_readsStatement 169 = .ok (.goto 4, 3) := by decide +kernel
theorem dX7_readsStatement_172 : decode cX7_readsStatement 172 = .ok (.iconst 0, 1) := by decide +kernel
theorem dX7_readsStatement_173 : decode cX7_readsStatement 173 = .ok (.istore_n 2, 1) := by decide +kernel
theorem dX7_readsStatement_174 : decode cX7_readsStatement 174 = .ok (.goto 55, 3) := by decide +kernel
theorem dX7_readsStatement_177 : decode cX7_readsStatement 177 = .ok (.aload_n 0, 1) := by decide +kernel
theorem dX7_readsStatement_178 : decode cX7_readsStatement 178 = .ok (.iconst 0, 1) := by decide +kernel
theorem dX7_readsStatement_179 : decode cX7_readsStatement 179 = .ok (.iconst 1, 1) := by decide +kernel
theorem dX7_readsStatement_180 : decode cX7_readsStatement 180 = .ok (.invokevirtual 121, 3) := by decide +kernel
theorem dX7_readsStatement_183 : decode cX7_readsStatement 183 = .ok (.istore_n 2, 1) := by decide +kernel
theorem dX7_readsStatement_184 : decode cX7_readsStatement 184 = .ok (.goto 45, 3) := by decide +kernel
theorem dX7_readsStatement_187 : decode cX7_readsStatement 187 = .ok (.goto 42, 3) := by decide +kernel
theorem dX7_readsStatement_190 : decode cX7_readsStatement 190 = .ok (.aload_n 0, 1) := by decide +kernel
theorem dX7_readsStatement_191 : decode cX7_readsStatement 191 = .ok (.iconst 0, 1) := by decide +kernel
theorem dX7_readsStatement_192 : decode cX7_readsStatement 192 = .ok (.iconst 1, 1) := by decide +kernel
theorem dX7_readsStatement_193 : decode cX7_readsStatement 193 = .ok (.invokevirtual 121, 3) := by decide +kernel
theorem dX7_readsStatement_196 : decode cX7_readsStatement 196 = .ok (.ifCond .eq 16, 3) := by decide +kernel
theorem dX7_readsStatement_199 : decode cX7_readsStatement 199 = .ok (.aload_n 0, 1) := by decide +kernel
theorem dX7_readsStatement_200 : decode cX7_readsStatement 200 = .ok (.iconst 1, 1) := by decide +kernel
theorem dX7_readsStatement_201 : decode cX7_readsStatement 201 = .ok (.iconst 1, 1) := by decide +kernel
theorem dX7_readsStatement_202 : decode cX7_readsStatement 202 = .ok (.invokevirtual 121, 3) := by decide +kernel
theorem dX7_readsStatement_205 : decode cX7_readsStatement 205 = .ok (.ifCond .eq 7, 3) := by decide +kernel
theorem dX7_readsStatement_208 : decode cX7_readsStatement 208 = .ok (.iconst 1, 1) := by decide +kernel
theorem dX7_readsStatement_209 : decode cX7_readsStatement 209 = .ok (.goto 4, 3) := by decide +kernel
theorem dX7_readsStatement_212 : decode cX7_readsStatement 212 = .ok (.iconst 0, 1) := by decide +kernel
theorem dX7_readsStatement_213 : decode cX7_readsStatement 213 = .ok (.istore_n 2, 1) := by decide +kernel
theorem dX7_readsStatement_214 : decode cX7_readsStatement 214 = .ok (.goto 15, 3) := by decide +kernel
theorem dX7_readsStatement_217 : decode cX7_readsStatement 217 = .ok (.aload_n 0, 1) := by decide +kernel
theorem dX7_readsStatement_218 : decode cX7_readsStatement 218 = .ok (.dup, 1) := by decide +kernel
theorem dX7_readsStatement_219 : decode cX7_readsStatement 219 = .ok (.getfield 111, 3) := by decide +kernel
theorem dX7_readsStatement_222 : decode cX7_readsStatement 222 = .ok (.iconst 1, 1) := by decide +kernel
theorem dX7_readsStatement_223 : decode cX7_readsStatement 223 = .ok (.isub, 1) := by decide +kernel
theorem dX7_readsStatement_224 : decode cX7_readsStatement 224 = .ok (.putfield 111, 3) := by decide +kernel
theorem dX7_readsStatement_227 : decode cX7_readsStatement 227 = .ok (.iconst 0, 1) := by decide +kernel
theorem dX7_readsStatement_228 : decode cX7_readsStatement 228 = .ok (.ireturn, 1) := by decide +kernel
theorem dX7_readsStatement_229 : decode cX7_readsStatement 229 = .ok (.iload_n 2, 1) := by decide +kernel
theorem dX7_readsStatement_230 : decode cX7_readsStatement 230 = .ok (.ifCond .eq 12, 3) := by decide +kernel
theorem dX7_readsStatement_233 : decode cX7_readsStatement 233 = .ok (.aload_n 0, 1) := by decide +kernel
theorem dX7_readsStatement_234 : decode cX7_readsStatement 234 = .ok (.invokevirtual 114, 3) := by decide +kernel
theorem dX7_readsStatement_237 : decode cX7_readsStatement 237 = .ok (.bipush 59, 2) := by decide +kernel
theorem dX7_readsStatement_239 : decode cX7_readsStatement 239 = .ok (.if_icmp .eq 5, 3) := by decide +kernel
theorem dX7_readsStatement_242 : decode cX7_readsStatement 242 = .ok (.iconst 0, 1) := by decide +kernel
theorem dX7_readsStatement_243 : decode cX7_readsStatement 243 = .ok (.ireturn, 1) := by decide +kernel
theorem dX7_readsStatement_244 : decode cX7_readsStatement 244 = .ok (.aload_n 0, 1) := by decide +kernel
theorem dX7_readsStatement_245 : decode cX7_readsStatement 245 = .ok (.dup, 1) := by decide +kernel
theorem dX7_readsStatement_246 : decode cX7_readsStatement 246 = .ok (.getfield 111, 3) := by decide +kernel
theorem dX7_readsStatement_249 : decode cX7_readsStatement 249 = .ok (.iconst 1, 1) := by decide +kernel
theorem dX7_readsStatement_250 : decode cX7_readsStatement 250 = .ok (.iadd, 1) := by decide +kernel
theorem dX7_readsStatement_251 : decode cX7_readsStatement 251 = .ok (.putfield 111, 3) := by decide +kernel
theorem dX7_readsStatement_254 : decode cX7_readsStatement 254 = .ok (.iconst 1, 1) := by decide +kernel
theorem dX7_readsStatement_255 : decode cX7_readsStatement 255 = .ok (.ireturn, 1) := by decide +kernel
theorem dX7_isDone_0 : decode cX7_isDone 0 = .ok (.aload_n 0, 1) := by decide +kernel
theorem dX7_isDone_1 : decode cX7_isDone 1 = .ok (.getfield 34, 3) := by decide +kernel
theorem dX7_isDone_4 : decode cX7_isDone 4 = .ok (.iconst 0, 1) := by decide +kernel
theorem dX7_isDone_5 : decode cX7_isDone 5 = .ok (.iaload, 1) := by decide +kernel
theorem dX7_isDone_6 : decode cX7_isDone 6 = .ok (.istore_n 2, 1) := by decide +kernel
theorem dX7_isDone_7 : decode cX7_isDone 7 = .ok (.aload_n 0, 1) := by decide +kernel
theorem dX7_isDone_8 : decode cX7_isDone 8 = .ok (.getfield 34, 3) := by decide +kernel
theorem dX7_isDone_11 : decode cX7_isDone 11 = .ok (.iconst 1, 1) := by decide +kernel
theorem dX7_isDone_12 : decode cX7_isDone 12 = .ok (.iaload, 1) := by decide +kernel
theorem dX7_isDone_13 : decode cX7_isDone 13 = .ok (.istore_n 3, 1) := by decide +kernel
theorem dX7_isDone_14 : decode cX7_isDone 14 = .ok (.iload_n 1, 1) := by decide +kernel
theorem dX7_isDone_15 : decode cX7_isDone 15 = .ok (.tableswitch 224 101 115 #[131, 224, 224, 224, 88, 224, 162, 224, 224, 73, 224, 197, 224, 224, 185], 73) := by decide +kernel
theorem dX7_isDone_88 : decode cX7_isDone 88 = .ok (.aload_n 0, 1) := by decide +kernel
theorem dX7_isDone_89 : decode cX7_isDone 89 = .ok (.getfield 9, 3) := by decide +kernel
theorem dX7_isDone_92 : decode cX7_isDone 92 = .ok (.iconst 0, 1) := by decide +kernel
theorem dX7_isDone_93 : decode cX7_isDone 93 = .ok (.iload_n 2, 1) := by decide +kernel
theorem dX7_isDone_94 : decode cX7_isDone 94 = .ok (.iastore, 1) := by decide +kernel
theorem dX7_isDone_95 : decode cX7_isDone 95 = .ok (.iload_n 2, 1) := by decide +kernel
theorem dX7_isDone_96 : decode cX7_isDone 96 = .ok (.iconst 2, 1) := by decide +kernel
theorem dX7_isDone_97 : decode cX7_isDone 97 = .ok (.bipush 12, 2) := by decide +kernel
theorem dX7_isDone_99 : decode cX7_isDone 99 = .ok (.invokestatic 42, 3) := by decide +kernel
theorem dX7_isDone_102 : decode cX7_isDone 102 = .ok (.ireturn, 1) := by decide +kernel
theorem dX7_isDone_103 : decode cX7_isDone 103 = .ok (.aload_n 0, 1) := by decide +kernel
theorem dX7_isDone_104 : decode cX7_isDone 104 = .ok (.iload_n 3, 1) := by decide +kernel
theorem dX7_isDone_105 : decode cX7_isDone 105 = .ok (.invokevirtual 132, 3) := by decide +kernel
theorem dX7_isDone_108 : decode cX7_isDone 108 = .ok (.ifCond .ne 5, 3) := by decide +kernel
theorem dX7_isDone_111 : decode cX7_isDone 111 = .ok (.iconst 0, 1) := by decide +kernel
theorem dX7_isDone_112 : decode cX7_isDone 112 = .ok (.ireturn, 1) := by decide +kernel
theorem dX7_isDone_113 : decode cX7_isDone 113 = .ok (.aload_n 0, 1) := by decide +kernel
theorem dX7_isDone_114 : decode cX7_isDone 114 = .ok (.getfield 9, 3) := by decide +kernel
theorem dX7_isDone_117 : decode cX7_isDone 117 = .ok (.bipush 8, 2) := by decide +kernel
theorem dX7_isDone_119 : decode cX7_isDone 119 = .ok (.iconst 2, 1) := by decide +kernel
theorem dX7_isDone_120 : decode cX7_isDone 120 = .ok (.iload_n 3, 1) := by decide +kernel
theorem dX7_isDone_121 : decode cX7_isDone 121 = .ok (.imul, 1) := by decide +kernel
theorem dX7_isDone_122 : decode cX7_isDone 122 = .ok (.iadd, 1) := by decide +kernel
theorem dX7_isDone_123 : decode cX7_isDone 123 = .ok (.iload_n 2, 1) := by decide +kernel
theorem dX7_isDone_124 : decode cX7_isDone 124 = .ok (.iastore, 1) := by decide +kernel
theorem dX7_isDone_125 : decode cX7_isDone 125 = .ok (.aload_n 0, 1) := by decide +kernel
theorem dX7_isDone_126 : decode cX7_isDone 126 = .ok (.getfield 9, 3) := by decide +kernel
theorem dX7_isDone_129 : decode cX7_isDone 129 = .ok (.bipush 8, 2) := by decide +kernel
theorem dX7_isDone_131 : decode cX7_isDone 131 = .ok (.iconst 2, 1) := by decide +kernel
theorem dX7_isDone_132 : decode cX7_isDone 132 = .ok (.iload_n 3, 1) := by decide +kernel
theorem dX7_isDone_133 : decode cX7_isDone 133 = .ok (.imul, 1) := by decide +kernel
theorem dX7_isDone_134 : decode cX7_isDone 134 = .ok (.iadd, 1) := by decide +kernel
theorem dX7_isDone_135 : decode cX7_isDone 135 = .ok (.iconst 1, 1) := by decide +kernel
theorem dX7_isDone_136 : decode cX7_isDone 136 = .ok (.iadd, 1) := by decide +kernel
theorem dX7_isDone_137 : decode cX7_isDone 137 = .ok (.aload_n 0, 1) := by decide +kernel
theorem dX7_isDone_138 : decode cX7_isDone 138 = .ok (.getfield 34, 3) := by decide +kernel
theorem dX7_isDone_141 : decode cX7_isDone 141 = .ok (.iconst 2, 1) := by decide +kernel
theorem dX7_isDone_142 : decode cX7_isDone 142 = .ok (.iaload, 1) := by decide +kernel
theorem dX7_isDone_143 : decode cX7_isDone 143 = .ok (.iastore, 1) := by decide +kernel
theorem dX7_isDone_144 : decode cX7_isDone 144 = .ok (.iconst 1, 1) := by decide +kernel
theorem dX7_isDone_145 : decode cX7_isDone 145 = .ok (.ireturn, 1) := by decide +kernel
theorem dX7_isDone_146 : decode cX7_isDone 146 = .ok (.iload_n 2, 1) := by decide +kernel
theorem dX7_isDone_147 : decode cX7_isDone 147 = .ok (.invokestatic 135, 3) := by decide +kernel
theorem dX7_isDone_150 : decode cX7_isDone 150 = .ok (.ifCond .eq 14, 3) := by decide +kernel
theorem dX7_isDone_153 : decode cX7_isDone 153 = .ok (.iload_n 3, 1) := by decide +kernel
theorem dX7_isDone_154 : decode cX7_isDone 154 = .ok (.bipush (-40), 2) := by decide +kernel
theorem dX7_isDone_156 : decode cX7_isDone 156 = .ok (.bipush 24, 2) := by decide +kernel
theorem dX7_isDone_158 : decode cX7_isDone 158 = .ok (.invokestatic 42, 3) := by decide +kernel
theorem dX7_isDone_161 : decode cX7_isDone 161 = .ok (.ifCond .ne 5, 3) := by decide +kernel
theorem dX7_isDone_164 : decode cX7_isDone 164 = .ok (.iconst 0, 1) := by decide +kernel
theorem dX7_isDone_165 : decode cX7_isDone 165 = .ok (.ireturn, 1) := by decide +kernel
theorem dX7_isDone_166 : decode cX7_isDone 166 = .ok (.aload_n 0, 1) := by decide +kernel
theorem dX7_isDone_167 : decode cX7_isDone 167 = .ok (.getfield 9, 3) := by decide +kernel
theorem dX7_isDone_170 : decode cX7_isDone 170 = .ok (.iconst 1, 1) := by decide +kernel
theorem dX7_isDone_171 : decode cX7_isDone 171 = .ok (.iload_n 2, 1) := by decide +kernel
theorem dX7_isDone_172 : decode cX7_isDone 172 = .ok (.iadd, 1) := by decide +kernel
theorem dX7_isDone_173 : decode cX7_isDone 173 = .ok (.iload_n 3, 1) := by decide +kernel
theorem dX7_isDone_174 : decode cX7_isDone 174 = .ok (.iastore, 1) := by decide +kernel
theorem dX7_isDone_175 : decode cX7_isDone 175 = .ok (.iconst 1, 1) := by decide +kernel
theorem dX7_isDone_176 : decode cX7_isDone 176 = .ok (.ireturn, 1) := by decide +kernel
theorem dX7_isDone_177 : decode cX7_isDone 177 = .ok (.iload_n 2, 1) := by decide +kernel
theorem dX7_isDone_178 : decode cX7_isDone 178 = .ok (.invokestatic 135, 3) := by decide +kernel
theorem dX7_isDone_181 : decode cX7_isDone 181 = .ok (.ifCond .ne 5, 3) := by decide +kernel
theorem dX7_isDone_184 : decode cX7_isDone 184 = .ok (.iconst 0, 1) := by decide +kernel
theorem dX7_isDone_185 : decode cX7_isDone 185 = .ok (.ireturn, 1) := by decide +kernel
theorem dX7_isDone_186 : decode cX7_isDone 186 = .ok (.aload_n 0, 1) := by decide +kernel
theorem dX7_isDone_187 : decode cX7_isDone 187 = .ok (.getfield 9, 3) := by decide +kernel
theorem dX7_isDone_190 : decode cX7_isDone 190 = .ok (.iconst 3, 1) := by decide +kernel
theorem dX7_isDone_191 : decode cX7_isDone 191 = .ok (.iload_n 2, 1) := by decide +kernel
theorem dX7_isDone_192 : decode cX7_isDone 192 = .ok (.iadd, 1) := by decide +kernel
theorem dX7_isDone_193 : decode cX7_isDone 193 = .ok (.dup2, 1) := by decide +kernel
theorem dX7_isDone_194 : decode cX7_isDone 194 = .ok (.iaload, 1) := by decide +kernel
theorem dX7_isDone_195 : decode cX7_isDone 195 = .ok (.iconst 1, 1) := by decide +kernel
theorem dX7_isDone_196 : decode cX7_isDone 196 = .ok (.ixor, 1) := by decide +kernel
theorem dX7_isDone_197 : decode cX7_isDone 197 = .ok (.iastore, 1) := by decide +kernel
theorem dX7_isDone_198 : decode cX7_isDone 198 = .ok (.iconst 1, 1) := by decide +kernel
theorem dX7_isDone_199 : decode cX7_isDone 199 = .ok (.ireturn, 1) := by decide +kernel
theorem dX7_isDone_200 : decode cX7_isDone 200 = .ok (.aload_n 0, 1) := by decide +kernel
theorem dX7_isDone_201 : decode cX7_isDone 201 = .ok (.getfield 9, 3) := by decide +kernel
theorem dX7_isDone_204 : decode cX7_isDone 204 = .ok (.iconst 5, 1) := by decide +kernel
theorem dX7_isDone_205 : decode cX7_isDone 205 = .ok (.dup2, 1) := by decide +kernel
theorem dX7_isDone_206 : decode cX7_isDone 206 = .ok (.iaload, 1) := by decide +kernel
theorem dX7_isDone_207 : decode cX7_isDone 207 = .ok (.iconst 1, 1) := by decide +kernel
theorem dX7_isDone_208 : decode cX7_isDone 208 = .ok (.ixor, 1) := by decide +kernel
theorem dX7_isDone_209 : decode cX7_isDone 209 = .ok (.iastore, 1) := by decide +kernel
theorem dX7_isDone_210 : decode cX7_isDone 210 = .ok (.iconst 1, 1) := by decide +kernel
theorem dX7_isDone_211 : decode cX7_isDone 211 = .ok (.ireturn, 1) := by decide +kernel
theorem dX7_isDone_212 : decode cX7_isDone 212 = .ok (.aload_n 0, 1) := by decide +kernel
theorem dX7_isDone_213 : decode cX7_isDone 213 = .ok (.getfield 9, 3) := by decide +kernel
theorem dX7_isDone_216 : decode cX7_isDone 216 = .ok (.bipush 6, 2) := by decide +kernel
theorem dX7_isDone_218 : decode cX7_isDone 218 = .ok (.iload_n 2, 1) := by decide +kernel
theorem dX7_isDone_219 : decode cX7_isDone 219 = .ok (.iastore, 1) := by decide +kernel
theorem dX7_isDone_220 : decode cX7_isDone 220 = .ok (.aload_n 0, 1) := by decide +kernel
theorem dX7_isDone_221 : decode cX7_isDone 221 = .ok (.getfield 9, 3) := by decide +kernel
theorem dX7_isDone_224 : decode cX7_isDone 224 = .ok (.bipush 7, 2) := by decide +kernel
theorem dX7_isDone_226 : decode cX7_isDone 226 = .ok (.iload_n 3, 1) := by decide +kernel
theorem dX7_isDone_227 : decode cX7_isDone 227 = .ok (.iastore, 1) := by decide +kernel
theorem dX7_isDone_228 : decode cX7_isDone 228 = .ok (.iload_n 2, 1) := by decide +kernel
theorem dX7_isDone_229 : decode cX7_isDone 229 = .ok (.iconst 1, 1) := by decide +kernel
theorem dX7_isDone_230 : decode cX7_isDone 230 = .ok (.if_icmp .lt 7, 3) := by decide +kernel
theorem dX7_isDone_233 : decode cX7_isDone 233 = .ok (.iconst 1, 1) := by decide +kernel
theorem dX7_isDone_234 : decode cX7_isDone 234 = .ok (.goto 4, 3) := by decide +kernel
theorem dX7_isDone_237 : decode cX7_isDone 237 = .ok (.iconst 0, 1) := by decide +kernel
theorem dX7_isDone_238 : decode cX7_isDone 238 = .ok (.ireturn, 1) := by decide +kernel
theorem dX7_isDone_239 : decode cX7_isDone 239 = .ok (.iload_n 2, 1) := by decide +kernel
theorem dX7_isDone_240 : decode cX7_isDone 240 = .ok (.iconst 1, 1) := by decide +kernel
theorem dX7_isDone_241 : decode cX7_isDone 241 = .ok (.bipush 40, 2) := by decide +kernel
theorem dX7_isDone_243 : decode cX7_isDone 243 = .ok (.invokestatic 42, 3) := by decide +kernel
theorem dX7_isDone_246 : decode cX7_isDone 246 = .ok (.ifCond .ne 5, 3) := by decide +kernel
theorem dX7_isDone_249 : decode cX7_isDone 249 = .ok (.iconst 0, 1) := by decide +kernel
theorem dX7_isDone_250 : decode cX7_isDone 250 = .ok (.ireturn, 1) := by decide +kernel
theorem dX7_isDone_251 : decode cX7_isDone 251 = .ok (.aload_n 0, 1) := by decide +kernel
theorem dX7_isDone_252 : decode cX7_isDone 252 = .ok (.getfield 9, 3) := by decide +kernel
theorem dX7_isDone_255 : decode cX7_isDone 255 = .ok (.iload_n 2, 1) := by decide +kernel
theorem dX7_isDone_256 : decode cX7_isDone 256 = .ok (.invokestatic 138, 3) := by decide +kernel
theorem dX7_isDone_259 : decode cX7_isDone 259 = .ok (.iconst 1, 1) := by decide +kernel
theorem dX7_isDone_260 : decode cX7_isDone 260 = .ok (.ireturn, 1) := by decide +kernel
theorem dX7_hem_0 : decode cX7_hem 0 = .ok (.aload_n 0, 1) := by decide +kernel
theorem dX7_hem_1 : decode cX7_hem 1 = .ok (.iconst 0, 1) := by decide +kernel
theorem dX7_hem_2 : decode cX7_hem 2 = .ok (.putfield 111, 3) := by decide +kernel
theorem dX7_hem_5 : decode cX7_hem 5 = .ok (.iconst 0, 1) := by decide +kernel
theorem dX7_hem_6 : decode cX7_hem 6 = .ok (.istore_n 1, 1) := by decide +kernel
theorem dX7_hem_7 : decode cX7_hem 7 = .ok (.bipush (-9), 2) := by decide +kernel
theorem dX7_hem_9 : decode cX7_hem 9 = .ok (.istore_n 2, 1) := by decide +kernel
theorem dX7_hem_10 : decode cX7_hem 10 = .ok (.aload_n 0, 1) := by decide +kernel
theorem dX7_hem_11 : decode cX7_hem 11 = .ok (.invokevirtual 141, 3) := by decide +kernel
theorem dX7_hem_14 : decode cX7_hem 14 = .ok (.ifCond .ne 12, 3) := by decide +kernel
theorem dX7_hem_17 : decode cX7_hem 17 = .ok (.sipush (-1000), 3) := by decide +kernel
theorem dX7_hem_20 : decode cX7_hem 20 = .ok (.aload_n 0, 1) := by decide +kernel
theorem dX7_hem_21 : decode cX7_hem 21 = .ok (.getfield 111, 3) := by decide +kernel
theorem dX7_hem_24 : decode cX7_hem 24 = .ok (.isub, 1) := by decide +kernel
theorem dX7_hem_25 : decode cX7_hem 25 = .ok (.istore_n 2, 1) := by decide +kernel
theorem dX7_hem_26 : decode cX7_hem 26 = .ok (.iinc 1 1, 3) := by decide +kernel
theorem dX7_hem_29 : decode cX7_hem 29 = .ok (.iload_n 2, 1) := by decide +kernel
theorem dX7_hem_30 : decode cX7_hem 30 = .ok (.bipush (-9), 2) := by decide +kernel
theorem dX7_hem_32 : decode cX7_hem 32 = .ok (.if_icmp .ne 14, 3) := by decide +kernel
theorem dX7_hem_35 : decode cX7_hem 35 = .ok (.aload_n 0, 1) := by decide +kernel
theorem dX7_hem_36 : decode cX7_hem 36 = .ok (.getfield 111, 3) := by decide +kernel
theorem dX7_hem_39 : decode cX7_hem 39 = .ok (.aload_n 0, 1) := by decide +kernel
theorem dX7_hem_40 : decode cX7_hem 40 = .ok (.getfield 108, 3) := by decide +kernel
theorem dX7_hem_43 : decode cX7_hem 43 = .ok (.if_icmp .lt (-33), 3) := by decide +kernel
theorem dX7_hem_46 : decode cX7_hem 46 = .ok (.aload_n 0, 1) := by decide +kernel
theorem dX7_hem_47 : decode cX7_hem 47 = .ok (.getfield 9, 3) := by decide +kernel
theorem dX7_hem_50 : decode cX7_hem 50 = .ok (.aload_n 0, 1) := by decide +kernel
theorem dX7_hem_51 : decode cX7_hem 51 = .ok (.getfield 19, 3) := by decide +kernel
theorem dX7_hem_54 : decode cX7_hem 54 = .ok (.invokestatic 144, 3) := by decide +kernel
theorem dX7_hem_57 : decode cX7_hem 57 = .ok (.aload_n 0, 1) := by decide +kernel
theorem dX7_hem_58 : decode cX7_hem 58 = .ok (.iconst 0, 1) := by decide +kernel
theorem dX7_hem_59 : decode cX7_hem 59 = .ok (.putfield 111, 3) := by decide +kernel
theorem dX7_hem_62 : decode cX7_hem 62 = .ok (.iload_n 2, 1) := by decide +kernel
theorem dX7_hem_63 : decode cX7_hem 63 = .ok (.bipush (-9), 2) := by decide +kernel
theorem dX7_hem_65 : decode cX7_hem 65 = .ok (.if_icmp .ne 63, 3) := by decide +kernel
theorem dX7_hem_68 : decode cX7_hem 68 = .ok (.aload_n 0, 1) := by decide +kernel
theorem dX7_hem_69 : decode cX7_hem 69 = .ok (.getfield 111, 3) := by decide +kernel
theorem dX7_hem_72 : decode cX7_hem 72 = .ok (.aload_n 0, 1) := by decide +kernel
theorem dX7_hem_73 : decode cX7_hem 73 = .ok (.getfield 108, 3) := by decide +kernel
theorem dX7_hem_76 : decode cX7_hem 76 = .ok (.if_icmp .ge 52, 3) := by decide +kernel
theorem dX7_hem_79 : decode cX7_hem 79 = .ok (.aload_n 0, 1) := by decide +kernel
theorem dX7_hem_80 : decode cX7_hem 80 = .ok (.getfield 111, 3) := by decide +kernel
theorem dX7_hem_83 : decode cX7_hem 83 = .ok (.istore_n 3, 1) := by decide +kernel
theorem dX7_hem_84 : decode cX7_hem 84 = .ok (.aload_n 0, 1) := by decide +kernel
theorem dX7_hem_85 : decode cX7_hem 85 = .ok (.invokevirtual 114, 3) := by decide +kernel
theorem dX7_hem_88 : decode cX7_hem 88 = .ok (.istore 4, 2) := by decide +kernel
theorem dX7_hem_90 : decode cX7_hem 90 = .ok (.aload_n 0, 1) := by decide +kernel
theorem dX7_hem_91 : decode cX7_hem 91 = .ok (.invokevirtual 141, 3) := by decide +kernel
theorem dX7_hem_94 : decode cX7_hem 94 = .ok (.istore 5, 2) := by decide +kernel
theorem dX7_hem_96 : decode cX7_hem 96 = .ok (.aload_n 0, 1) := by decide +kernel
theorem dX7_hem_97 : decode cX7_hem 97 = .ok (.iload 4, 2) := by decide +kernel
theorem dX7_hem_99 : decode cX7_hem 99 = .ok (.invokevirtual 148, 3) := by decide +kernel
theorem dX7_hem_102 : decode cX7_hem 102 = .ok (.ifCond .eq 6, 3) := by decide +kernel
theorem dX7_hem_105 : decode cX7_hem 105 = .ok (.goto (-43), 3) := by decide +kernel
theorem dX7_hem_108 : decode cX7_hem 108 = .ok (.sipush (-2000), 3) := by decide +kernel
theorem dX7_hem_111 : decode cX7_hem 111 = .ok (.iload_n 3, 1) := by decide +kernel
theorem dX7_hem_112 : decode cX7_hem 112 = .ok (.isub, 1) := by decide +kernel
theorem dX7_hem_113 : decode cX7_hem 113 = .ok (.istore_n 2, 1) := by decide +kernel
theorem dX7_hem_114 : decode cX7_hem 114 = .ok (.aload_n 0, 1) := by decide +kernel
theorem dX7_hem_115 : decode cX7_hem 115 = .ok (.getfield 19, 3) := by decide +kernel
theorem dX7_hem_118 : decode cX7_hem 118 = .ok (.aload_n 0, 1) := by decide +kernel
theorem dX7_hem_119 : decode cX7_hem 119 = .ok (.getfield 9, 3) := by decide +kernel
theorem dX7_hem_122 : decode cX7_hem 122 = .ok (.invokestatic 144, 3) := by decide +kernel
theorem dX7_hem_125 : decode cX7_hem 125 = .ok (.goto (-63), 3) := by decide +kernel
theorem dX7_hem_128 : decode cX7_hem 128 = .ok (.aload_n 0, 1) := by decide +kernel
theorem dX7_hem_129 : decode cX7_hem 129 = .ok (.iconst 0, 1) := by decide +kernel
theorem dX7_hem_130 : decode cX7_hem 130 = .ok (.putfield 108, 3) := by decide +kernel
theorem dX7_hem_133 : decode cX7_hem 133 = .ok (.iload_n 2, 1) := by decide +kernel
theorem dX7_hem_134 : decode cX7_hem 134 = .ok (.bipush (-9), 2) := by decide +kernel
theorem dX7_hem_136 : decode cX7_hem 136 = .ok (.if_icmp .ne 7, 3) := by decide +kernel
theorem dX7_hem_139 : decode cX7_hem 139 = .ok (.iload_n 1, 1) := by decide +kernel
theorem dX7_hem_140 : decode cX7_hem 140 = .ok (.goto 4, 3) := by decide +kernel
theorem dX7_hem_143 : decode cX7_hem 143 = .ok (.iload_n 2, 1) := by decide +kernel
theorem dX7_hem_144 : decode cX7_hem 144 = .ok (.ireturn, 1) := by decide +kernel
theorem dX7_inch_0 : decode cX7_inch 0 = .ok (.aload_n 0, 1) := by decide +kernel
theorem dX7_inch_1 : decode cX7_inch 1 = .ok (.iload_n 1, 1) := by decide +kernel
theorem dX7_inch_2 : decode cX7_inch 2 = .ok (.invokevirtual 132, 3) := by decide +kernel
theorem dX7_inch_5 : decode cX7_inch 5 = .ok (.ifCond .ne 9, 3) := by decide +kernel
theorem dX7_inch_8 : decode cX7_inch 8 = .ok (.aload_n 0, 1) := by decide +kernel
theorem dX7_inch_9 : decode cX7_inch 9 = .ok (.iconst (-1), 1) := by decide +kernel
theorem dX7_inch_10 : decode cX7_inch 10 = .ok (.invokevirtual 38, 3) := by decide +kernel
theorem dX7_inch_13 : decode cX7_inch 13 = .ok (.ireturn, 1) := by decide +kernel
theorem dX7_inch_14 : decode cX7_inch 14 = .ok (.iload_n 2, 1) := by decide +kernel
theorem dX7_inch_15 : decode cX7_inch 15 = .ok (.tableswitch 91 0 5 #[37, 46, 55, 64, 73, 82], 37) := by decide +kernel
theorem dX7_inch_52 : decode cX7_inch 52 = .ok (.aload_n 0, 1) := by decide +kernel
theorem dX7_inch_53 : decode cX7_inch 53 = .ok (.getfield 9, 3) := by decide +kernel
theorem dX7_inch_56 : decode cX7_inch 56 = .ok (.iload_n 1, 1) := by decide +kernel
theorem dX7_inch_57 : decode cX7_inch 57 = .ok (.invokestatic 46, 3) := by decide +kernel
theorem dX7_inch_60 : decode cX7_inch 60 = .ok (.ireturn, 1) := by decide +kernel
theorem dX7_inch_61 : decode cX7_inch 61 = .ok (.aload_n 0, 1) := by decide +kernel
theorem dX7_inch_62 : decode cX7_inch 62 = .ok (.getfield 9, 3) := by decide +kernel
theorem dX7_inch_65 : decode cX7_inch 65 = .ok (.iload_n 1, 1) := by decide +kernel
theorem dX7_inch_66 : decode cX7_inch 66 = .ok (.invokestatic 54, 3) := by decide +kernel
theorem dX7_inch_69 : decode cX7_inch 69 = .ok (.ireturn, 1) := by decide +kernel
theorem dX7_inch_70 : decode cX7_inch 70 = .ok (.aload_n 0, 1) := by decide +kernel
theorem dX7_inch_71 : decode cX7_inch 71 = .ok (.getfield 9, 3) := by decide +kernel
theorem dX7_inch_74 : decode cX7_inch 74 = .ok (.iload_n 1, 1) := by decide +kernel
theorem dX7_inch_75 : decode cX7_inch 75 = .ok (.invokestatic 81, 3) := by decide +kernel
theorem dX7_inch_78 : decode cX7_inch 78 = .ok (.ireturn, 1) := by decide +kernel
theorem dX7_inch_79 : decode cX7_inch 79 = .ok (.aload_n 0, 1) := by decide +kernel
theorem dX7_inch_80 : decode cX7_inch 80 = .ok (.getfield 9, 3) := by decide +kernel
theorem dX7_inch_83 : decode cX7_inch 83 = .ok (.iload_n 1, 1) := by decide +kernel
theorem dX7_inch_84 : decode cX7_inch 84 = .ok (.invokestatic 98, 3) := by decide +kernel
theorem dX7_inch_87 : decode cX7_inch 87 = .ok (.ireturn, 1) := by decide +kernel
theorem dX7_inch_88 : decode cX7_inch 88 = .ok (.aload_n 0, 1) := by decide +kernel
theorem dX7_inch_89 : decode cX7_inch 89 = .ok (.getfield 9, 3) := by decide +kernel
theorem dX7_inch_92 : decode cX7_inch 92 = .ok (.iload_n 1, 1) := by decide +kernel
theorem dX7_inch_93 : decode cX7_inch 93 = .ok (.invokestatic 87, 3) := by decide +kernel
theorem dX7_inch_96 : decode cX7_inch 96 = .ok (.ireturn, 1) := by decide +kernel
theorem dX7_inch_97 : decode cX7_inch 97 = .ok (.aload_n 0, 1) := by decide +kernel
theorem dX7_inch_98 : decode cX7_inch 98 = .ok (.getfield 9, 3) := by decide +kernel
theorem dX7_inch_101 : decode cX7_inch 101 = .ok (.iload_n 1, 1) := by decide +kernel
theorem dX7_inch_102 : decode cX7_inch 102 = .ok (.invokestatic 71, 3) := by decide +kernel
theorem dX7_inch_105 : decode cX7_inch 105 = .ok (.ireturn, 1) := by decide +kernel
theorem dX7_inch_106 : decode cX7_inch 106 = .ok (.aload_n 0, 1) := by decide +kernel
theorem dX7_inch_107 : decode cX7_inch 107 = .ok (.bipush (-2), 2) := by decide +kernel
theorem dX7_inch_109 : decode cX7_inch 109 = .ok (.invokevirtual 38, 3) := by decide +kernel
theorem dX7_inch_112 : decode cX7_inch 112 = .ok (.ireturn, 1) := by decide +kernel
theorem dX7_turn_0 : decode cX7_turn 0 = .ok (.aload_n 0, 1) := by decide +kernel
theorem dX7_turn_1 : decode cX7_turn 1 = .ok (.iload_n 1, 1) := by decide +kernel
theorem dX7_turn_2 : decode cX7_turn 2 = .ok (.invokevirtual 132, 3) := by decide +kernel
theorem dX7_turn_5 : decode cX7_turn 5 = .ok (.ifCond .ne 9, 3) := by decide +kernel
theorem dX7_turn_8 : decode cX7_turn 8 = .ok (.aload_n 0, 1) := by decide +kernel
theorem dX7_turn_9 : decode cX7_turn 9 = .ok (.iconst (-1), 1) := by decide +kernel
theorem dX7_turn_10 : decode cX7_turn 10 = .ok (.invokevirtual 38, 3) := by decide +kernel
theorem dX7_turn_13 : decode cX7_turn 13 = .ok (.ireturn, 1) := by decide +kernel
theorem dX7_turn_14 : decode cX7_turn 14 = .ok (.iload_n 2, 1) := by decide +kernel
