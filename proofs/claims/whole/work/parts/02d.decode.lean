theorem dX7_turn_15 : decode cX7_turn 15 = .ok (.iconst 0, 1) := by decide +kernel
theorem dX7_turn_16 : decode cX7_turn 16 = .ok (.iconst 5, 1) := by decide +kernel
theorem dX7_turn_17 : decode cX7_turn 17 = .ok (.invokestatic 42, 3) := by decide +kernel
theorem dX7_turn_20 : decode cX7_turn 20 = .ok (.ifCond .ne 10, 3) := by decide +kernel
theorem dX7_turn_23 : decode cX7_turn 23 = .ok (.aload_n 0, 1) := by decide +kernel
theorem dX7_turn_24 : decode cX7_turn 24 = .ok (.bipush (-2), 2) := by decide +kernel
theorem dX7_turn_26 : decode cX7_turn 26 = .ok (.invokevirtual 38, 3) := by decide +kernel
theorem dX7_turn_29 : decode cX7_turn 29 = .ok (.ireturn, 1) := by decide +kernel
theorem dX7_turn_30 : decode cX7_turn 30 = .ok (.iload_n 3, 1) := by decide +kernel
theorem dX7_turn_31 : decode cX7_turn 31 = .ok (.ifCond .ge 10, 3) := by decide +kernel
theorem dX7_turn_34 : decode cX7_turn 34 = .ok (.aload_n 0, 1) := by decide +kernel
theorem dX7_turn_35 : decode cX7_turn 35 = .ok (.bipush (-4), 2) := by decide +kernel
theorem dX7_turn_37 : decode cX7_turn 37 = .ok (.invokevirtual 38, 3) := by decide +kernel
theorem dX7_turn_40 : decode cX7_turn 40 = .ok (.ireturn, 1) := by decide +kernel
theorem dX7_turn_41 : decode cX7_turn 41 = .ok (.iload_n 3, 1) := by decide +kernel
theorem dX7_turn_42 : decode cX7_turn 42 = .ok (.bipush 9, 2) := by decide +kernel
theorem dX7_turn_44 : decode cX7_turn 44 = .ok (.if_icmp .le 10, 3) := by decide +kernel
theorem dX7_turn_47 : decode cX7_turn 47 = .ok (.aload_n 0, 1) := by decide +kernel
theorem dX7_turn_48 : decode cX7_turn 48 = .ok (.bipush (-6), 2) := by decide +kernel
theorem dX7_turn_50 : decode cX7_turn 50 = .ok (.invokevirtual 38, 3) := by decide +kernel
theorem dX7_turn_53 : decode cX7_turn 53 = .ok (.ireturn, 1) := by decide +kernel
theorem dX7_turn_54 : decode cX7_turn 54 = .ok (.bipush 10, 2) := by decide +kernel
theorem dX7_turn_56 : decode cX7_turn 56 = .ok (.aload_n 0, 1) := by decide +kernel
theorem dX7_turn_57 : decode cX7_turn 57 = .ok (.getfield 9, 3) := by decide +kernel
theorem dX7_turn_60 : decode cX7_turn 60 = .ok (.iload_n 1, 1) := by decide +kernel
theorem dX7_turn_61 : decode cX7_turn 61 = .ok (.invokestatic 46, 3) := by decide +kernel
theorem dX7_turn_64 : decode cX7_turn 64 = .ok (.imul, 1) := by decide +kernel
theorem dX7_turn_65 : decode cX7_turn 65 = .ok (.aload_n 0, 1) := by decide +kernel
theorem dX7_turn_66 : decode cX7_turn 66 = .ok (.getfield 9, 3) := by decide +kernel
theorem dX7_turn_69 : decode cX7_turn 69 = .ok (.iload_n 1, 1) := by decide +kernel
theorem dX7_turn_70 : decode cX7_turn 70 = .ok (.invokestatic 54, 3) := by decide +kernel
theorem dX7_turn_73 : decode cX7_turn 73 = .ok (.iadd, 1) := by decide +kernel
theorem dX7_turn_74 : decode cX7_turn 74 = .ok (.istore 4, 2) := by decide +kernel
theorem dX7_turn_76 : decode cX7_turn 76 = .ok (.aload_n 0, 1) := by decide +kernel
theorem dX7_turn_77 : decode cX7_turn 77 = .ok (.getfield 9, 3) := by decide +kernel
theorem dX7_turn_80 : decode cX7_turn 80 = .ok (.bipush 8, 2) := by decide +kernel
theorem dX7_turn_82 : decode cX7_turn 82 = .ok (.iconst 2, 1) := by decide +kernel
theorem dX7_turn_83 : decode cX7_turn 83 = .ok (.iload_n 1, 1) := by decide +kernel
theorem dX7_turn_84 : decode cX7_turn 84 = .ok (.imul, 1) := by decide +kernel
theorem dX7_turn_85 : decode cX7_turn 85 = .ok (.iadd, 1) := by decide +kernel
theorem dX7_turn_86 : decode cX7_turn 86 = .ok (.iload_n 2, 1) := by decide +kernel
theorem dX7_turn_87 : decode cX7_turn 87 = .ok (.iastore, 1) := by decide +kernel
theorem dX7_turn_88 : decode cX7_turn 88 = .ok (.aload_n 0, 1) := by decide +kernel
theorem dX7_turn_89 : decode cX7_turn 89 = .ok (.getfield 9, 3) := by decide +kernel
theorem dX7_turn_92 : decode cX7_turn 92 = .ok (.bipush 8, 2) := by decide +kernel
theorem dX7_turn_94 : decode cX7_turn 94 = .ok (.iconst 2, 1) := by decide +kernel
theorem dX7_turn_95 : decode cX7_turn 95 = .ok (.iload_n 1, 1) := by decide +kernel
theorem dX7_turn_96 : decode cX7_turn 96 = .ok (.imul, 1) := by decide +kernel
theorem dX7_turn_97 : decode cX7_turn 97 = .ok (.iadd, 1) := by decide +kernel
theorem dX7_turn_98 : decode cX7_turn 98 = .ok (.iconst 1, 1) := by decide +kernel
theorem dX7_turn_99 : decode cX7_turn 99 = .ok (.iadd, 1) := by decide +kernel
theorem dX7_turn_100 : decode cX7_turn 100 = .ok (.iload_n 3, 1) := by decide +kernel
theorem dX7_turn_101 : decode cX7_turn 101 = .ok (.iastore, 1) := by decide +kernel
theorem dX7_turn_102 : decode cX7_turn 102 = .ok (.iload 4, 2) := by decide +kernel
theorem dX7_turn_104 : decode cX7_turn 104 = .ok (.ireturn, 1) := by decide +kernel
theorem dX7_inches_0 : decode cX7_inches 0 = .ok (.iload_n 1, 1) := by decide +kernel
theorem dX7_inches_1 : decode cX7_inches 1 = .ok (.iconst 2, 1) := by decide +kernel
theorem dX7_inches_2 : decode cX7_inches 2 = .ok (.if_icmp .ge 10, 3) := by decide +kernel
theorem dX7_inches_5 : decode cX7_inches 5 = .ok (.aload_n 0, 1) := by decide +kernel
theorem dX7_inches_6 : decode cX7_inches 6 = .ok (.bipush (-4), 2) := by decide +kernel
theorem dX7_inches_8 : decode cX7_inches 8 = .ok (.invokevirtual 38, 3) := by decide +kernel
theorem dX7_inches_11 : decode cX7_inches 11 = .ok (.ireturn, 1) := by decide +kernel
theorem dX7_inches_12 : decode cX7_inches 12 = .ok (.iload_n 1, 1) := by decide +kernel
theorem dX7_inches_13 : decode cX7_inches 13 = .ok (.bipush 12, 2) := by decide +kernel
theorem dX7_inches_15 : decode cX7_inches 15 = .ok (.if_icmp .le 10, 3) := by decide +kernel
theorem dX7_inches_18 : decode cX7_inches 18 = .ok (.aload_n 0, 1) := by decide +kernel
theorem dX7_inches_19 : decode cX7_inches 19 = .ok (.bipush (-6), 2) := by decide +kernel
theorem dX7_inches_21 : decode cX7_inches 21 = .ok (.invokevirtual 38, 3) := by decide +kernel
theorem dX7_inches_24 : decode cX7_inches 24 = .ok (.ireturn, 1) := by decide +kernel
theorem dX7_inches_25 : decode cX7_inches 25 = .ok (.aload_n 0, 1) := by decide +kernel
theorem dX7_inches_26 : decode cX7_inches 26 = .ok (.getfield 9, 3) := by decide +kernel
theorem dX7_inches_29 : decode cX7_inches 29 = .ok (.iconst 0, 1) := by decide +kernel
theorem dX7_inches_30 : decode cX7_inches 30 = .ok (.iaload, 1) := by decide +kernel
theorem dX7_inches_31 : decode cX7_inches 31 = .ok (.istore_n 2, 1) := by decide +kernel
theorem dX7_inches_32 : decode cX7_inches 32 = .ok (.aload_n 0, 1) := by decide +kernel
theorem dX7_inches_33 : decode cX7_inches 33 = .ok (.getfield 9, 3) := by decide +kernel
theorem dX7_inches_36 : decode cX7_inches 36 = .ok (.iconst 0, 1) := by decide +kernel
theorem dX7_inches_37 : decode cX7_inches 37 = .ok (.iload_n 1, 1) := by decide +kernel
theorem dX7_inches_38 : decode cX7_inches 38 = .ok (.iastore, 1) := by decide +kernel
theorem dX7_inches_39 : decode cX7_inches 39 = .ok (.iload_n 2, 1) := by decide +kernel
theorem dX7_inches_40 : decode cX7_inches 40 = .ok (.ireturn, 1) := by decide +kernel
theorem dX7_end_0 : decode cX7_end 0 = .ok (.iload_n 1, 1) := by decide +kernel
theorem dX7_end_1 : decode cX7_end 1 = .ok (.invokestatic 135, 3) := by decide +kernel
theorem dX7_end_4 : decode cX7_end 4 = .ok (.ifCond .ne 9, 3) := by decide +kernel
theorem dX7_end_7 : decode cX7_end 7 = .ok (.aload_n 0, 1) := by decide +kernel
theorem dX7_end_8 : decode cX7_end 8 = .ok (.iconst (-1), 1) := by decide +kernel
theorem dX7_end_9 : decode cX7_end 9 = .ok (.invokevirtual 151, 3) := by decide +kernel
theorem dX7_end_12 : decode cX7_end 12 = .ok (.ireturn, 1) := by decide +kernel
theorem dX7_end_13 : decode cX7_end 13 = .ok (.iload_n 2, 1) := by decide +kernel
theorem dX7_end_14 : decode cX7_end 14 = .ok (.bipush (-40), 2) := by decide +kernel
theorem dX7_end_16 : decode cX7_end 16 = .ok (.if_icmp .ge 10, 3) := by decide +kernel
theorem dX7_end_19 : decode cX7_end 19 = .ok (.aload_n 0, 1) := by decide +kernel
theorem dX7_end_20 : decode cX7_end 20 = .ok (.bipush (-4), 2) := by decide +kernel
theorem dX7_end_22 : decode cX7_end 22 = .ok (.invokevirtual 151, 3) := by decide +kernel
theorem dX7_end_25 : decode cX7_end 25 = .ok (.ireturn, 1) := by decide +kernel
theorem dX7_end_26 : decode cX7_end 26 = .ok (.iload_n 2, 1) := by decide +kernel
theorem dX7_end_27 : decode cX7_end 27 = .ok (.bipush 24, 2) := by decide +kernel
theorem dX7_end_29 : decode cX7_end 29 = .ok (.if_icmp .le 10, 3) := by decide +kernel
theorem dX7_end_32 : decode cX7_end 32 = .ok (.aload_n 0, 1) := by decide +kernel
theorem dX7_end_33 : decode cX7_end 33 = .ok (.bipush (-6), 2) := by decide +kernel
theorem dX7_end_35 : decode cX7_end 35 = .ok (.invokevirtual 151, 3) := by decide +kernel
theorem dX7_end_38 : decode cX7_end 38 = .ok (.ireturn, 1) := by decide +kernel
theorem dX7_end_39 : decode cX7_end 39 = .ok (.aload_n 0, 1) := by decide +kernel
theorem dX7_end_40 : decode cX7_end 40 = .ok (.getfield 9, 3) := by decide +kernel
theorem dX7_end_43 : decode cX7_end 43 = .ok (.iconst 1, 1) := by decide +kernel
theorem dX7_end_44 : decode cX7_end 44 = .ok (.iload_n 1, 1) := by decide +kernel
theorem dX7_end_45 : decode cX7_end 45 = .ok (.iadd, 1) := by decide +kernel
theorem dX7_end_46 : decode cX7_end 46 = .ok (.iaload, 1) := by decide +kernel
theorem dX7_end_47 : decode cX7_end 47 = .ok (.istore_n 3, 1) := by decide +kernel
theorem dX7_end_48 : decode cX7_end 48 = .ok (.aload_n 0, 1) := by decide +kernel
theorem dX7_end_49 : decode cX7_end 49 = .ok (.getfield 9, 3) := by decide +kernel
theorem dX7_end_52 : decode cX7_end 52 = .ok (.iconst 1, 1) := by decide +kernel
theorem dX7_end_53 : decode cX7_end 53 = .ok (.iload_n 1, 1) := by decide +kernel
theorem dX7_end_54 : decode cX7_end 54 = .ok (.iadd, 1) := by decide +kernel
theorem dX7_end_55 : decode cX7_end 55 = .ok (.iload_n 2, 1) := by decide +kernel
theorem dX7_end_56 : decode cX7_end 56 = .ok (.iastore, 1) := by decide +kernel
theorem dX7_end_57 : decode cX7_end 57 = .ok (.iload_n 3, 1) := by decide +kernel
theorem dX7_end_58 : decode cX7_end 58 = .ok (.ireturn, 1) := by decide +kernel
theorem dX7_tie_0 : decode cX7_tie 0 = .ok (.iload_n 1, 1) := by decide +kernel
theorem dX7_tie_1 : decode cX7_tie 1 = .ok (.invokestatic 135, 3) := by decide +kernel
theorem dX7_tie_4 : decode cX7_tie 4 = .ok (.ifCond .ne 9, 3) := by decide +kernel
theorem dX7_tie_7 : decode cX7_tie 7 = .ok (.aload_n 0, 1) := by decide +kernel
theorem dX7_tie_8 : decode cX7_tie 8 = .ok (.iconst (-1), 1) := by decide +kernel
theorem dX7_tie_9 : decode cX7_tie 9 = .ok (.invokevirtual 38, 3) := by decide +kernel
theorem dX7_tie_12 : decode cX7_tie 12 = .ok (.ireturn, 1) := by decide +kernel
theorem dX7_tie_13 : decode cX7_tie 13 = .ok (.aload_n 0, 1) := by decide +kernel
theorem dX7_tie_14 : decode cX7_tie 14 = .ok (.getfield 9, 3) := by decide +kernel
theorem dX7_tie_17 : decode cX7_tie 17 = .ok (.iconst 3, 1) := by decide +kernel
theorem dX7_tie_18 : decode cX7_tie 18 = .ok (.iload_n 1, 1) := by decide +kernel
theorem dX7_tie_19 : decode cX7_tie 19 = .ok (.iadd, 1) := by decide +kernel
theorem dX7_tie_20 : decode cX7_tie 20 = .ok (.dup2, 1) := by decide +kernel
theorem dX7_tie_21 : decode cX7_tie 21 = .ok (.iaload, 1) := by decide +kernel
theorem dX7_tie_22 : decode cX7_tie 22 = .ok (.iconst 1, 1) := by decide +kernel
theorem dX7_tie_23 : decode cX7_tie 23 = .ok (.ixor, 1) := by decide +kernel
theorem dX7_tie_24 : decode cX7_tie 24 = .ok (.iastore, 1) := by decide +kernel
theorem dX7_tie_25 : decode cX7_tie 25 = .ok (.aload_n 0, 1) := by decide +kernel
theorem dX7_tie_26 : decode cX7_tie 26 = .ok (.getfield 9, 3) := by decide +kernel
theorem dX7_tie_29 : decode cX7_tie 29 = .ok (.iconst 3, 1) := by decide +kernel
theorem dX7_tie_30 : decode cX7_tie 30 = .ok (.iload_n 1, 1) := by decide +kernel
theorem dX7_tie_31 : decode cX7_tie 31 = .ok (.iadd, 1) := by decide +kernel
theorem dX7_tie_32 : decode cX7_tie 32 = .ok (.iaload, 1) := by decide +kernel
theorem dX7_tie_33 : decode cX7_tie 33 = .ok (.ireturn, 1) := by decide +kernel
theorem dX7_sew_0 : decode cX7_sew 0 = .ok (.aload_n 0, 1) := by decide +kernel
theorem dX7_sew_1 : decode cX7_sew 1 = .ok (.getfield 9, 3) := by decide +kernel
theorem dX7_sew_4 : decode cX7_sew 4 = .ok (.iconst 5, 1) := by decide +kernel
theorem dX7_sew_5 : decode cX7_sew 5 = .ok (.dup2, 1) := by decide +kernel
theorem dX7_sew_6 : decode cX7_sew 6 = .ok (.iaload, 1) := by decide +kernel
theorem dX7_sew_7 : decode cX7_sew 7 = .ok (.iconst 1, 1) := by decide +kernel
theorem dX7_sew_8 : decode cX7_sew 8 = .ok (.ixor, 1) := by decide +kernel
theorem dX7_sew_9 : decode cX7_sew 9 = .ok (.iastore, 1) := by decide +kernel
theorem dX7_sew_10 : decode cX7_sew 10 = .ok (.aload_n 0, 1) := by decide +kernel
theorem dX7_sew_11 : decode cX7_sew 11 = .ok (.getfield 9, 3) := by decide +kernel
theorem dX7_sew_14 : decode cX7_sew 14 = .ok (.iconst 5, 1) := by decide +kernel
theorem dX7_sew_15 : decode cX7_sew 15 = .ok (.iaload, 1) := by decide +kernel
theorem dX7_sew_16 : decode cX7_sew 16 = .ok (.ireturn, 1) := by decide +kernel
theorem dX7_set_0 : decode cX7_set 0 = .ok (.iload_n 1, 1) := by decide +kernel
theorem dX7_set_1 : decode cX7_set 1 = .ok (.iconst 0, 1) := by decide +kernel
theorem dX7_set_2 : decode cX7_set 2 = .ok (.iconst 1, 1) := by decide +kernel
theorem dX7_set_3 : decode cX7_set 3 = .ok (.invokestatic 42, 3) := by decide +kernel
theorem dX7_set_6 : decode cX7_set 6 = .ok (.ifCond .ne 10, 3) := by decide +kernel
theorem dX7_set_9 : decode cX7_set 9 = .ok (.aload_n 0, 1) := by decide +kernel
theorem dX7_set_10 : decode cX7_set 10 = .ok (.bipush (-2), 2) := by decide +kernel
theorem dX7_set_12 : decode cX7_set 12 = .ok (.invokevirtual 38, 3) := by decide +kernel
theorem dX7_set_15 : decode cX7_set 15 = .ok (.ireturn, 1) := by decide +kernel
theorem dX7_set_16 : decode cX7_set 16 = .ok (.iload_n 2, 1) := by decide +kernel
theorem dX7_set_17 : decode cX7_set 17 = .ok (.iconst 1, 1) := by decide +kernel
theorem dX7_set_18 : decode cX7_set 18 = .ok (.iload_n 1, 1) := by decide +kernel
theorem dX7_set_19 : decode cX7_set 19 = .ok (.isub, 1) := by decide +kernel
theorem dX7_set_20 : decode cX7_set 20 = .ok (.if_icmp .ge 10, 3) := by decide +kernel
theorem dX7_set_23 : decode cX7_set 23 = .ok (.aload_n 0, 1) := by decide +kernel
theorem dX7_set_24 : decode cX7_set 24 = .ok (.bipush (-4), 2) := by decide +kernel
theorem dX7_set_26 : decode cX7_set 26 = .ok (.invokevirtual 38, 3) := by decide +kernel
theorem dX7_set_29 : decode cX7_set 29 = .ok (.ireturn, 1) := by decide +kernel
theorem dX7_set_30 : decode cX7_set 30 = .ok (.iload_n 2, 1) := by decide +kernel
theorem dX7_set_31 : decode cX7_set 31 = .ok (.bipush 9, 2) := by decide +kernel
theorem dX7_set_33 : decode cX7_set 33 = .ok (.if_icmp .le 10, 3) := by decide +kernel
theorem dX7_set_36 : decode cX7_set 36 = .ok (.aload_n 0, 1) := by decide +kernel
theorem dX7_set_37 : decode cX7_set 37 = .ok (.bipush (-6), 2) := by decide +kernel
theorem dX7_set_39 : decode cX7_set 39 = .ok (.invokevirtual 38, 3) := by decide +kernel
theorem dX7_set_42 : decode cX7_set 42 = .ok (.ireturn, 1) := by decide +kernel
theorem dX7_set_43 : decode cX7_set 43 = .ok (.aload_n 0, 1) := by decide +kernel
theorem dX7_set_44 : decode cX7_set 44 = .ok (.getfield 9, 3) := by decide +kernel
theorem dX7_set_47 : decode cX7_set 47 = .ok (.bipush 6, 2) := by decide +kernel
theorem dX7_set_49 : decode cX7_set 49 = .ok (.iload_n 1, 1) := by decide +kernel
theorem dX7_set_50 : decode cX7_set 50 = .ok (.iadd, 1) := by decide +kernel
theorem dX7_set_51 : decode cX7_set 51 = .ok (.iaload, 1) := by decide +kernel
theorem dX7_set_52 : decode cX7_set 52 = .ok (.istore_n 3, 1) := by decide +kernel
theorem dX7_set_53 : decode cX7_set 53 = .ok (.aload_n 0, 1) := by decide +kernel
theorem dX7_set_54 : decode cX7_set 54 = .ok (.getfield 9, 3) := by decide +kernel
theorem dX7_set_57 : decode cX7_set 57 = .ok (.bipush 6, 2) := by decide +kernel
theorem dX7_set_59 : decode cX7_set 59 = .ok (.iload_n 1, 1) := by decide +kernel
theorem dX7_set_60 : decode cX7_set 60 = .ok (.iadd, 1) := by decide +kernel
theorem dX7_set_61 : decode cX7_set 61 = .ok (.iload_n 2, 1) := by decide +kernel
theorem dX7_set_62 : decode cX7_set 62 = .ok (.iastore, 1) := by decide +kernel
theorem dX7_set_63 : decode cX7_set 63 = .ok (.iload_n 3, 1) := by decide +kernel
theorem dX7_set_64 : decode cX7_set 64 = .ok (.ireturn, 1) := by decide +kernel
theorem dX7_pull_0 : decode cX7_pull 0 = .ok (.iload_n 1, 1) := by decide +kernel
theorem dX7_pull_1 : decode cX7_pull 1 = .ok (.invokestatic 135, 3) := by decide +kernel
theorem dX7_pull_4 : decode cX7_pull 4 = .ok (.ifCond .ne 9, 3) := by decide +kernel
theorem dX7_pull_7 : decode cX7_pull 7 = .ok (.aload_n 0, 1) := by decide +kernel
theorem dX7_pull_8 : decode cX7_pull 8 = .ok (.iconst (-1), 1) := by decide +kernel
theorem dX7_pull_9 : decode cX7_pull 9 = .ok (.invokevirtual 151, 3) := by decide +kernel
theorem dX7_pull_12 : decode cX7_pull 12 = .ok (.ireturn, 1) := by decide +kernel
theorem dX7_pull_13 : decode cX7_pull 13 = .ok (.iload_n 2, 1) := by decide +kernel
theorem dX7_pull_14 : decode cX7_pull 14 = .ok (.iconst 1, 1) := by decide +kernel
theorem dX7_pull_15 : decode cX7_pull 15 = .ok (.if_icmp .ge 10, 3) := by decide +kernel
theorem dX7_pull_18 : decode cX7_pull 18 = .ok (.aload_n 0, 1) := by decide +kernel
theorem dX7_pull_19 : decode cX7_pull 19 = .ok (.bipush (-4), 2) := by decide +kernel
theorem dX7_pull_21 : decode cX7_pull 21 = .ok (.invokevirtual 151, 3) := by decide +kernel
theorem dX7_pull_24 : decode cX7_pull 24 = .ok (.ireturn, 1) := by decide +kernel
theorem dX7_pull_25 : decode cX7_pull 25 = .ok (.iload_n 2, 1) := by decide +kernel
theorem dX7_pull_26 : decode cX7_pull 26 = .ok (.bipush 40, 2) := by decide +kernel
theorem dX7_pull_28 : decode cX7_pull 28 = .ok (.if_icmp .le 10, 3) := by decide +kernel
theorem dX7_pull_31 : decode cX7_pull 31 = .ok (.aload_n 0, 1) := by decide +kernel
theorem dX7_pull_32 : decode cX7_pull 32 = .ok (.bipush (-6), 2) := by decide +kernel
theorem dX7_pull_34 : decode cX7_pull 34 = .ok (.invokevirtual 151, 3) := by decide +kernel
theorem dX7_pull_37 : decode cX7_pull 37 = .ok (.ireturn, 1) := by decide +kernel
theorem dX7_pull_38 : decode cX7_pull 38 = .ok (.aload_n 0, 1) := by decide +kernel
theorem dX7_pull_39 : decode cX7_pull 39 = .ok (.getfield 9, 3) := by decide +kernel
theorem dX7_pull_42 : decode cX7_pull 42 = .ok (.iload_n 1, 1) := by decide +kernel
theorem dX7_pull_43 : decode cX7_pull 43 = .ok (.iload_n 2, 1) := by decide +kernel
theorem dX7_pull_44 : decode cX7_pull 44 = .ok (.invokestatic 64, 3) := by decide +kernel
theorem dX7_pull_47 : decode cX7_pull 47 = .ok (.ifCond .ne 10, 3) := by decide +kernel
theorem dX7_pull_50 : decode cX7_pull 50 = .ok (.aload_n 0, 1) := by decide +kernel
theorem dX7_pull_51 : decode cX7_pull 51 = .ok (.bipush (-3), 2) := by decide +kernel
theorem dX7_pull_53 : decode cX7_pull 53 = .ok (.invokevirtual 151, 3) := by decide +kernel
theorem dX7_pull_56 : decode cX7_pull 56 = .ok (.ireturn, 1) := by decide +kernel
theorem dX7_pull_57 : decode cX7_pull 57 = .ok (.aload_n 0, 1) := by decide +kernel
theorem dX7_pull_58 : decode cX7_pull 58 = .ok (.getfield 9, 3) := by decide +kernel
theorem dX7_pull_61 : decode cX7_pull 61 = .ok (.iload_n 1, 1) := by decide +kernel
theorem dX7_pull_62 : decode cX7_pull 62 = .ok (.iload_n 2, 1) := by decide +kernel
theorem dX7_pull_63 : decode cX7_pull 63 = .ok (.invokestatic 74, 3) := by decide +kernel
theorem dX7_pull_66 : decode cX7_pull 66 = .ok (.istore_n 3, 1) := by decide +kernel
theorem dX7_pull_67 : decode cX7_pull 67 = .ok (.aload_n 0, 1) := by decide +kernel
theorem dX7_pull_68 : decode cX7_pull 68 = .ok (.getfield 9, 3) := by decide +kernel
theorem dX7_pull_71 : decode cX7_pull 71 = .ok (.iconst 1, 1) := by decide +kernel
theorem dX7_pull_72 : decode cX7_pull 72 = .ok (.iload_n 1, 1) := by decide +kernel
theorem dX7_pull_73 : decode cX7_pull 73 = .ok (.iadd, 1) := by decide +kernel
theorem dX7_pull_74 : decode cX7_pull 74 = .ok (.iaload, 1) := by decide +kernel
theorem dX7_pull_75 : decode cX7_pull 75 = .ok (.ireturn, 1) := by decide +kernel
theorem dX7_bunch_0 : decode cX7_bunch 0 = .ok (.iload_n 1, 1) := by decide +kernel
theorem dX7_bunch_1 : decode cX7_bunch 1 = .ok (.invokestatic 135, 3) := by decide +kernel
theorem dX7_bunch_4 : decode cX7_bunch 4 = .ok (.ifCond .ne 9, 3) := by decide +kernel
theorem dX7_bunch_7 : decode cX7_bunch 7 = .ok (.aload_n 0, 1) := by decide +kernel
theorem dX7_bunch_8 : decode cX7_bunch 8 = .ok (.iconst (-1), 1) := by decide +kernel
theorem dX7_bunch_9 : decode cX7_bunch 9 = .ok (.invokevirtual 151, 3) := by decide +kernel
theorem dX7_bunch_12 : decode cX7_bunch 12 = .ok (.ireturn, 1) := by decide +kernel
theorem dX7_bunch_13 : decode cX7_bunch 13 = .ok (.aload_n 0, 1) := by decide +kernel
theorem dX7_bunch_14 : decode cX7_bunch 14 = .ok (.getfield 9, 3) := by decide +kernel
theorem dX7_bunch_17 : decode cX7_bunch 17 = .ok (.iload_n 1, 1) := by decide +kernel
theorem dX7_bunch_18 : decode cX7_bunch 18 = .ok (.invokestatic 94, 3) := by decide +kernel
theorem dX7_bunch_21 : decode cX7_bunch 21 = .ok (.ifCond .ne 10, 3) := by decide +kernel
theorem dX7_bunch_24 : decode cX7_bunch 24 = .ok (.aload_n 0, 1) := by decide +kernel
theorem dX7_bunch_25 : decode cX7_bunch 25 = .ok (.bipush (-3), 2) := by decide +kernel
theorem dX7_bunch_27 : decode cX7_bunch 27 = .ok (.invokevirtual 151, 3) := by decide +kernel
theorem dX7_bunch_30 : decode cX7_bunch 30 = .ok (.ireturn, 1) := by decide +kernel
theorem dX7_bunch_31 : decode cX7_bunch 31 = .ok (.aload_n 0, 1) := by decide +kernel
theorem dX7_bunch_32 : decode cX7_bunch 32 = .ok (.getfield 9, 3) := by decide +kernel
theorem dX7_bunch_35 : decode cX7_bunch 35 = .ok (.iload_n 1, 1) := by decide +kernel
theorem dX7_bunch_36 : decode cX7_bunch 36 = .ok (.invokestatic 101, 3) := by decide +kernel
theorem dX7_bunch_39 : decode cX7_bunch 39 = .ok (.aload_n 0, 1) := by decide +kernel
theorem dX7_bunch_40 : decode cX7_bunch 40 = .ok (.getfield 9, 3) := by decide +kernel
theorem dX7_bunch_43 : decode cX7_bunch 43 = .ok (.iconst 1, 1) := by decide +kernel
theorem dX7_bunch_44 : decode cX7_bunch 44 = .ok (.iload_n 1, 1) := by decide +kernel
theorem dX7_bunch_45 : decode cX7_bunch 45 = .ok (.iadd, 1) := by decide +kernel
theorem dX7_bunch_46 : decode cX7_bunch 46 = .ok (.iaload, 1) := by decide +kernel
theorem dX7_bunch_47 : decode cX7_bunch 47 = .ok (.ireturn, 1) := by decide +kernel
theorem dX7_anew_0 : decode cX7_anew 0 = .ok (.aload_n 0, 1) := by decide +kernel
theorem dX7_anew_1 : decode cX7_anew 1 = .ok (.getfield 9, 3) := by decide +kernel
theorem dX7_anew_4 : decode cX7_anew 4 = .ok (.invokestatic 154, 3) := by decide +kernel
theorem dX7_anew_7 : decode cX7_anew 7 = .ok (.aload_n 0, 1) := by decide +kernel
theorem dX7_anew_8 : decode cX7_anew 8 = .ok (.getfield 9, 3) := by decide +kernel
theorem dX7_anew_11 : decode cX7_anew 11 = .ok (.invokestatic 158, 3) := by decide +kernel
theorem dX7_anew_14 : decode cX7_anew 14 = .ok (.ireturn, 1) := by decide +kernel
theorem dX7_wash_0 : decode cX7_wash 0 = .ok (.iload_n 1, 1) := by decide +kernel
theorem dX7_wash_1 : decode cX7_wash 1 = .ok (.iconst 1, 1) := by decide +kernel
theorem dX7_wash_2 : decode cX7_wash 2 = .ok (.if_icmp .ge 10, 3) := by decide +kernel
theorem dX7_wash_5 : decode cX7_wash 5 = .ok (.aload_n 0, 1) := by decide +kernel
theorem dX7_wash_6 : decode cX7_wash 6 = .ok (.bipush (-4), 2) := by decide +kernel
theorem dX7_wash_8 : decode cX7_wash 8 = .ok (.invokevirtual 38, 3) := by decide +kernel
theorem dX7_wash_11 : decode cX7_wash 11 = .ok (.ireturn, 1) := by decide +kernel
theorem dX7_wash_12 : decode cX7_wash 12 = .ok (.iload_n 1, 1) := by decide +kernel
theorem dX7_wash_13 : decode cX7_wash 13 = .ok (.bipush 40, 2) := by decide +kernel
theorem dX7_wash_15 : decode cX7_wash 15 = .ok (.if_icmp .le 10, 3) := by decide +kernel
theorem dX7_wash_18 : decode cX7_wash 18 = .ok (.aload_n 0, 1) := by decide +kernel
theorem dX7_wash_19 : decode cX7_wash 19 = .ok (.bipush (-6), 2) := by decide +kernel
theorem dX7_wash_21 : decode cX7_wash 21 = .ok (.invokevirtual 38, 3) := by decide +kernel
theorem dX7_wash_24 : decode cX7_wash 24 = .ok (.ireturn, 1) := by decide +kernel
theorem dX7_wash_25 : decode cX7_wash 25 = .ok (.aload_n 0, 1) := by decide +kernel
theorem dX7_wash_26 : decode cX7_wash 26 = .ok (.getfield 9, 3) := by decide +kernel
theorem dX7_wash_29 : decode cX7_wash 29 = .ok (.iload_n 1, 1) := by decide +kernel
theorem dX7_wash_30 : decode cX7_wash 30 = .ok (.invokestatic 138, 3) := by decide +kernel
theorem dX7_wash_33 : decode cX7_wash 33 = .ok (.aload_n 0, 1) := by decide +kernel
theorem dX7_wash_34 : decode cX7_wash 34 = .ok (.getfield 9, 3) := by decide +kernel
theorem dX7_wash_37 : decode cX7_wash 37 = .ok (.invokestatic 161, 3) := by decide +kernel
theorem dX7_wash_40 : decode cX7_wash 40 = .ok (.ireturn, 1) := by decide +kernel
theorem dX7_of_0 : decode cX7_of 0 = .ok (.iload_n 1, 1) := by decide +kernel
theorem dX7_of_1 : decode cX7_of 1 = .ok (.invokestatic 135, 3) := by decide +kernel
theorem dX7_of_4 : decode cX7_of 4 = .ok (.ifCond .ne 9, 3) := by decide +kernel
theorem dX7_of_7 : decode cX7_of 7 = .ok (.aload_n 0, 1) := by decide +kernel
theorem dX7_of_8 : decode cX7_of 8 = .ok (.iconst (-1), 1) := by decide +kernel
theorem dX7_of_9 : decode cX7_of 9 = .ok (.invokevirtual 38, 3) := by decide +kernel
theorem dX7_of_12 : decode cX7_of 12 = .ok (.ireturn, 1) := by decide +kernel
theorem dX7_of_13 : decode cX7_of 13 = .ok (.aload_n 0, 1) := by decide +kernel
theorem dX7_of_14 : decode cX7_of 14 = .ok (.getfield 9, 3) := by decide +kernel
theorem dX7_of_17 : decode cX7_of 17 = .ok (.iload_n 1, 1) := by decide +kernel
theorem dX7_of_18 : decode cX7_of 18 = .ok (.invokestatic 68, 3) := by decide +kernel
theorem dX7_of_21 : decode cX7_of 21 = .ok (.istore_n 3, 1) := by decide +kernel
theorem dX7_of_22 : decode cX7_of 22 = .ok (.iload_n 2, 1) := by decide +kernel
theorem dX7_of_23 : decode cX7_of 23 = .ok (.tableswitch 66 0 3 #[29, 31, 48, 57], 29) := by decide +kernel
theorem dX7_of_52 : decode cX7_of 52 = .ok (.iload_n 3, 1) := by decide +kernel
theorem dX7_of_53 : decode cX7_of 53 = .ok (.ireturn, 1) := by decide +kernel
theorem dX7_of_54 : decode cX7_of 54 = .ok (.aload_n 0, 1) := by decide +kernel
theorem dX7_of_55 : decode cX7_of 55 = .ok (.getfield 9, 3) := by decide +kernel
theorem dX7_of_58 : decode cX7_of 58 = .ok (.iload_n 1, 1) := by decide +kernel
theorem dX7_of_59 : decode cX7_of 59 = .ok (.invokestatic 94, 3) := by decide +kernel
theorem dX7_of_62 : decode cX7_of 62 = .ok (.ifCond .eq 7, 3) := by decide +kernel
theorem dX7_of_65 : decode cX7_of 65 = .ok (.iconst 1, 1) := by decide +kernel
theorem dX7_of_66 : decode cX7_of 66 = .ok (.goto 4, 3) := by decide +kernel
theorem dX7_of_69 : decode cX7_of 69 = .ok (.iconst 0, 1) := by decide +kernel
theorem dX7_of_70 : decode cX7_of 70 = .ok (.ireturn, 1) := by decide +kernel
theorem dX7_of_71 : decode cX7_of 71 = .ok (.aload_n 0, 1) := by decide +kernel
theorem dX7_of_72 : decode cX7_of 72 = .ok (.getfield 9, 3) := by decide +kernel
theorem dX7_of_75 : decode cX7_of 75 = .ok (.iload_n 3, 1) := by decide +kernel
theorem dX7_of_76 : decode cX7_of 76 = .ok (.invokestatic 81, 3) := by decide +kernel
theorem dX7_of_79 : decode cX7_of 79 = .ok (.ireturn, 1) := by decide +kernel
theorem dX7_of_80 : decode cX7_of 80 = .ok (.aload_n 0, 1) := by decide +kernel
theorem dX7_of_81 : decode cX7_of 81 = .ok (.getfield 9, 3) := by decide +kernel
theorem dX7_of_84 : decode cX7_of 84 = .ok (.iload_n 3, 1) := by decide +kernel
theorem dX7_of_85 : decode cX7_of 85 = .ok (.invokestatic 71, 3) := by decide +kernel
theorem dX7_of_88 : decode cX7_of 88 = .ok (.ireturn, 1) := by decide +kernel
theorem dX7_of_89 : decode cX7_of 89 = .ok (.aload_n 0, 1) := by decide +kernel
theorem dX7_of_90 : decode cX7_of 90 = .ok (.bipush (-2), 2) := by decide +kernel
theorem dX7_of_92 : decode cX7_of 92 = .ok (.invokevirtual 38, 3) := by decide +kernel
theorem dX7_of_95 : decode cX7_of 95 = .ok (.ireturn, 1) := by decide +kernel
theorem dX7_costliest_0 : decode cX7_costliest 0 = .ok (.bipush (-9), 2) := by decide +kernel
theorem dX7_costliest_2 : decode cX7_costliest 2 = .ok (.istore_n 2, 1) := by decide +kernel
theorem dX7_costliest_3 : decode cX7_costliest 3 = .ok (.iconst 0, 1) := by decide +kernel
theorem dX7_costliest_4 : decode cX7_costliest 4 = .ok (.istore_n 3, 1) := by decide +kernel
theorem dX7_costliest_5 : decode cX7_costliest 5 = .ok (.iload_n 3, 1) := by decide +kernel
theorem dX7_costliest_6 : decode cX7_costliest 6 = .ok (.aload_n 0, 1) := by decide +kernel
theorem dX7_costliest_7 : decode cX7_costliest 7 = .ok (.getfield 9, 3) := by decide +kernel
theorem dX7_costliest_10 : decode cX7_costliest 10 = .ok (.iconst 0, 1) := by decide +kernel
theorem dX7_costliest_11 : decode cX7_costliest 11 = .ok (.iaload, 1) := by decide +kernel
theorem dX7_costliest_12 : decode cX7_costliest 12 = .ok (.if_icmp .ge 62, 3) := by decide +kernel
theorem dX7_costliest_15 : decode cX7_costliest 15 = .ok (.iload_n 1, 1) := by decide +kernel
theorem dX7_costliest_16 : decode cX7_costliest 16 = .ok (.ifCond .ne 7, 3) := by decide +kernel
theorem dX7_costliest_19 : decode cX7_costliest 19 = .ok (.iload_n 3, 1) := by decide +kernel
theorem dX7_costliest_20 : decode cX7_costliest 20 = .ok (.goto 13, 3) := by decide +kernel
theorem dX7_costliest_23 : decode cX7_costliest 23 = .ok (.aload_n 0, 1) := by decide +kernel
theorem dX7_costliest_24 : decode cX7_costliest 24 = .ok (.getfield 9, 3) := by decide +kernel
theorem dX7_costliest_27 : decode cX7_costliest 27 = .ok (.iconst 0, 1) := by decide +kernel
theorem dX7_costliest_28 : decode cX7_costliest 28 = .ok (.iaload, 1) := by decide +kernel
theorem dX7_costliest_29 : decode cX7_costliest 29 = .ok (.iconst 1, 1) := by decide +kernel
theorem dX7_costliest_30 : decode cX7_costliest 30 = .ok (.isub, 1) := by decide +kernel
theorem dX7_costliest_31 : decode cX7_costliest 31 = .ok (.iload_n 3, 1) := by decide +kernel
theorem dX7_costliest_32 : decode cX7_costliest 32 = .ok (.isub, 1) := by decide +kernel
theorem dX7_costliest_33 : decode cX7_costliest 33 = .ok (.istore 4, 2) := by decide +kernel
theorem dX7_costliest_35 : decode cX7_costliest 35 = .ok (.aload_n 0, 1) := by decide +kernel
theorem dX7_costliest_36 : decode cX7_costliest 36 = .ok (.getfield 31, 3) := by decide +kernel
theorem dX7_costliest_39 : decode cX7_costliest 39 = .ok (.iload 4, 2) := by decide +kernel
theorem dX7_costliest_41 : decode cX7_costliest 41 = .ok (.iaload, 1) := by decide +kernel
theorem dX7_costliest_42 : decode cX7_costliest 42 = .ok (.ifCond .le 26, 3) := by decide +kernel
theorem dX7_costliest_45 : decode cX7_costliest 45 = .ok (.iload_n 2, 1) := by decide +kernel
theorem dX7_costliest_46 : decode cX7_costliest 46 = .ok (.ifCond .lt 19, 3) := by decide +kernel
theorem dX7_costliest_49 : decode cX7_costliest 49 = .ok (.aload_n 0, 1) := by decide +kernel
theorem dX7_costliest_50 : decode cX7_costliest 50 = .ok (.getfield 31, 3) := by decide +kernel
theorem dX7_costliest_53 : decode cX7_costliest 53 = .ok (.iload 4, 2) := by decide +kernel
theorem dX7_costliest_55 : decode cX7_costliest 55 = .ok (.iaload, 1) := by decide +kernel
theorem dX7_costliest_56 : decode cX7_costliest 56 = .ok (.aload_n 0, 1) := by decide +kernel
theorem dX7_costliest_57 : decode cX7_costliest 57 = .ok (.getfield 31, 3) := by decide +kernel
theorem dX7_costliest_60 : decode cX7_costliest 60 = .ok (.iload_n 2, 1) := by decide +kernel
theorem dX7_costliest_61 : decode cX7_costliest 61 = .ok (.iaload, 1) := by decide +kernel
theorem dX7_costliest_62 : decode cX7_costliest 62 = .ok (.if_icmp .le 6, 3) := by decide +kernel
theorem dX7_costliest_65 : decode cX7_costliest 65 = .ok (.iload 4, 2) := by decide +kernel
theorem dX7_costliest_67 : decode cX7_costliest 67 = .ok (.istore_n 2, 1) := by decide +kernel
theorem dX7_costliest_68 : decode cX7_costliest 68 = .ok (.iinc 3 1, 3) := by decide +kernel
theorem dX7_costliest_71 : decode cX7_costliest 71 = .ok (.goto (-66), 3) := by decide +kernel
theorem dX7_costliest_74 : decode cX7_costliest 74 = .ok (.iload_n 2, 1) := by decide +kernel
theorem dX7_costliest_75 : decode cX7_costliest 75 = .ok (.ireturn, 1) := by decide +kernel
theorem dX7_out_0 : decode cX7_out 0 = .ok (.iload_n 1, 1) := by decide +kernel
theorem dX7_out_1 : decode cX7_out 1 = .ok (.invokestatic 135, 3) := by decide +kernel
theorem dX7_out_4 : decode cX7_out 4 = .ok (.ifCond .ne 9, 3) := by decide +kernel
theorem dX7_out_7 : decode cX7_out 7 = .ok (.aload_n 0, 1) := by decide +kernel
theorem dX7_out_8 : decode cX7_out 8 = .ok (.iconst (-1), 1) := by decide +kernel
theorem dX7_out_9 : decode cX7_out 9 = .ok (.invokevirtual 38, 3) := by decide +kernel
theorem dX7_out_12 : decode cX7_out 12 = .ok (.ireturn, 1) := by decide +kernel
theorem dX7_out_13 : decode cX7_out 13 = .ok (.iload_n 2, 1) := by decide +kernel
theorem dX7_out_14 : decode cX7_out 14 = .ok (.iconst 0, 1) := by decide +kernel
theorem dX7_out_15 : decode cX7_out 15 = .ok (.iconst 2, 1) := by decide +kernel
theorem dX7_out_16 : decode cX7_out 16 = .ok (.invokestatic 42, 3) := by decide +kernel
theorem dX7_out_19 : decode cX7_out 19 = .ok (.ifCond .ne 10, 3) := by decide +kernel
theorem dX7_out_22 : decode cX7_out 22 = .ok (.aload_n 0, 1) := by decide +kernel
theorem dX7_out_23 : decode cX7_out 23 = .ok (.bipush (-2), 2) := by decide +kernel
theorem dX7_out_25 : decode cX7_out 25 = .ok (.invokevirtual 38, 3) := by decide +kernel
theorem dX7_out_28 : decode cX7_out 28 = .ok (.ireturn, 1) := by decide +kernel
theorem dX7_out_29 : decode cX7_out 29 = .ok (.aload_n 0, 1) := by decide +kernel
theorem dX7_out_30 : decode cX7_out 30 = .ok (.aload_n 0, 1) := by decide +kernel
theorem dX7_out_31 : decode cX7_out 31 = .ok (.getfield 9, 3) := by decide +kernel
theorem dX7_out_34 : decode cX7_out 34 = .ok (.iload_n 1, 1) := by decide +kernel
theorem dX7_out_35 : decode cX7_out 35 = .ok (.invokevirtual 105, 3) := by decide +kernel
theorem dX7_out_38 : decode cX7_out 38 = .ok (.istore_n 3, 1) := by decide +kernel
theorem dX7_out_39 : decode cX7_out 39 = .ok (.iload_n 3, 1) := by decide +kernel
theorem dX7_out_40 : decode cX7_out 40 = .ok (.ifCond .ge 6, 3) := by decide +kernel
theorem dX7_out_43 : decode cX7_out 43 = .ok (.bipush (-9), 2) := by decide +kernel
theorem dX7_out_45 : decode cX7_out 45 = .ok (.ireturn, 1) := by decide +kernel
theorem dX7_out_46 : decode cX7_out 46 = .ok (.iload_n 2, 1) := by decide +kernel
theorem dX7_out_47 : decode cX7_out 47 = .ok (.ifCond .ne 10, 3) := by decide +kernel
theorem dX7_out_50 : decode cX7_out 50 = .ok (.aload_n 0, 1) := by decide +kernel
theorem dX7_out_51 : decode cX7_out 51 = .ok (.getfield 90, 3) := by decide +kernel
theorem dX7_out_54 : decode cX7_out 54 = .ok (.goto 17, 3) := by decide +kernel
theorem dX7_out_57 : decode cX7_out 57 = .ok (.iload_n 2, 1) := by decide +kernel
theorem dX7_out_58 : decode cX7_out 58 = .ok (.iconst 1, 1) := by decide +kernel
theorem dX7_out_59 : decode cX7_out 59 = .ok (.if_icmp .ne 7, 3) := by decide +kernel
theorem dX7_out_62 : decode cX7_out 62 = .ok (.iload_n 3, 1) := by decide +kernel
theorem dX7_out_63 : decode cX7_out 63 = .ok (.goto 8, 3) := by decide +kernel
theorem dX7_out_66 : decode cX7_out 66 = .ok (.aload_n 0, 1) := by decide +kernel
theorem dX7_out_67 : decode cX7_out 67 = .ok (.iload_n 1, 1) := by decide +kernel
theorem dX7_out_68 : decode cX7_out 68 = .ok (.invokevirtual 164, 3) := by decide +kernel
theorem dX7_out_71 : decode cX7_out 71 = .ok (.ireturn, 1) := by decide +kernel
theorem dX7_soonest_0 : decode cX7_soonest 0 = .ok (.aload_n 0, 1) := by decide +kernel
theorem dX7_soonest_1 : decode cX7_soonest 1 = .ok (.getfield 9, 3) := by decide +kernel
theorem dX7_soonest_4 : decode cX7_soonest 4 = .ok (.invokestatic 161, 3) := by decide +kernel
theorem dX7_soonest_7 : decode cX7_soonest 7 = .ok (.ifCond .ne 6, 3) := by decide +kernel
theorem dX7_soonest_10 : decode cX7_soonest 10 = .ok (.bipush (-9), 2) := by decide +kernel
theorem dX7_soonest_12 : decode cX7_soonest 12 = .ok (.ireturn, 1) := by decide +kernel
theorem dX7_soonest_13 : decode cX7_soonest 13 = .ok (.aload_n 0, 1) := by decide +kernel
theorem dX7_soonest_14 : decode cX7_soonest 14 = .ok (.getfield 9, 3) := by decide +kernel
theorem dX7_soonest_17 : decode cX7_soonest 17 = .ok (.iconst 0, 1) := by decide +kernel
theorem dX7_soonest_18 : decode cX7_soonest 18 = .ok (.invokestatic 94, 3) := by decide +kernel
theorem dX7_soonest_21 : decode cX7_soonest 21 = .ok (.ifCond .eq 15, 3) := by decide +kernel
theorem dX7_soonest_24 : decode cX7_soonest 24 = .ok (.aload_n 0, 1) := by decide +kernel
theorem dX7_soonest_25 : decode cX7_soonest 25 = .ok (.aload_n 0, 1) := by decide +kernel
theorem dX7_soonest_26 : decode cX7_soonest 26 = .ok (.getfield 9, 3) := by decide +kernel
theorem dX7_soonest_29 : decode cX7_soonest 29 = .ok (.iconst 0, 1) := by decide +kernel
theorem dX7_soonest_30 : decode cX7_soonest 30 = .ok (.invokevirtual 105, 3) := by decide +kernel
theorem dX7_soonest_33 : decode cX7_soonest 33 = .ok (.goto 5, 3) := by decide +kernel
theorem dX7_soonest_36 : decode cX7_soonest 36 = .ok (.bipush (-9), 2) := by decide +kernel
theorem dX7_soonest_38 : decode cX7_soonest 38 = .ok (.istore_n 1, 1) := by decide +kernel
theorem dX7_soonest_39 : decode cX7_soonest 39 = .ok (.aload_n 0, 1) := by decide +kernel
theorem dX7_soonest_40 : decode cX7_soonest 40 = .ok (.getfield 9, 3) := by decide +kernel
theorem dX7_soonest_43 : decode cX7_soonest 43 = .ok (.iconst 1, 1) := by decide +kernel
theorem dX7_soonest_44 : decode cX7_soonest 44 = .ok (.invokestatic 94, 3) := by decide +kernel
theorem dX7_soonest_47 : decode cX7_soonest 47 = .ok (.ifCond .eq 15, 3) := by decide +kernel
theorem dX7_soonest_50 : decode cX7_soonest 50 = .ok (.aload_n 0, 1) := by decide +kernel
theorem dX7_soonest_51 : decode cX7_soonest 51 = .ok (.aload_n 0, 1) := by decide +kernel
theorem dX7_soonest_52 : decode cX7_soonest 52 = .ok (.getfield 9, 3) := by decide +kernel
theorem dX7_soonest_55 : decode cX7_soonest 55 = .ok (.iconst 1, 1) := by decide +kernel
theorem dX7_soonest_56 : decode cX7_soonest 56 = .ok (.invokevirtual 105, 3) := by decide +kernel
theorem dX7_soonest_59 : decode cX7_soonest 59 = .ok (.goto 5, 3) := by decide +kernel
theorem dX7_soonest_62 : decode cX7_soonest 62 = .ok (.bipush (-9), 2) := by decide +kernel
theorem dX7_soonest_64 : decode cX7_soonest 64 = .ok (.istore_n 2, 1) := by decide +kernel
theorem dX7_soonest_65 : decode cX7_soonest 65 = .ok (.iload_n 1, 1) := by decide +kernel
theorem dX7_soonest_66 : decode cX7_soonest 66 = .ok (.ifCond .ge 10, 3) := by decide +kernel
theorem dX7_soonest_69 : decode cX7_soonest 69 = .ok (.iload_n 2, 1) := by decide +kernel
theorem dX7_soonest_70 : decode cX7_soonest 70 = .ok (.ifCond .ge 6, 3) := by decide +kernel
theorem dX7_soonest_73 : decode cX7_soonest 73 = .ok (.bipush 9, 2) := by decide +kernel
theorem dX7_soonest_75 : decode cX7_soonest 75 = .ok (.ireturn, 1) := by decide +kernel
theorem dX7_soonest_76 : decode cX7_soonest 76 = .ok (.iload_n 1, 1) := by decide +kernel
theorem dX7_soonest_77 : decode cX7_soonest 77 = .ok (.ifCond .lt 12, 3) := by decide +kernel
theorem dX7_soonest_80 : decode cX7_soonest 80 = .ok (.iload_n 2, 1) := by decide +kernel
theorem dX7_soonest_81 : decode cX7_soonest 81 = .ok (.ifCond .lt 12, 3) := by decide +kernel
theorem dX7_soonest_84 : decode cX7_soonest 84 = .ok (.iload_n 2, 1) := by decide +kernel
theorem dX7_soonest_85 : decode cX7_soonest 85 = .ok (.iload_n 1, 1) := by decide +kernel
theorem dX7_soonest_86 : decode cX7_soonest 86 = .ok (.if_icmp .ge 7, 3) := by decide +kernel
theorem dX7_soonest_89 : decode cX7_soonest 89 = .ok (.iconst 1, 1) := by decide +kernel
theorem dX7_soonest_90 : decode cX7_soonest 90 = .ok (.goto 4, 3) := by decide +kernel
theorem dX7_soonest_93 : decode cX7_soonest 93 = .ok (.iconst 0, 1) := by decide +kernel
theorem dX7_soonest_94 : decode cX7_soonest 94 = .ok (.ireturn, 1) := by decide +kernel
theorem dX7_better_0 : decode cX7_better 0 = .ok (.iload_n 1, 1) := by decide +kernel
theorem dX7_better_1 : decode cX7_better 1 = .ok (.iconst 0, 1) := by decide +kernel
theorem dX7_better_2 : decode cX7_better 2 = .ok (.iconst 1, 1) := by decide +kernel
theorem dX7_better_3 : decode cX7_better 3 = .ok (.invokestatic 42, 3) := by decide +kernel
theorem dX7_better_6 : decode cX7_better 6 = .ok (.ifCond .ne 10, 3) := by decide +kernel
theorem dX7_better_9 : decode cX7_better 9 = .ok (.aload_n 0, 1) := by decide +kernel
theorem dX7_better_10 : decode cX7_better 10 = .ok (.bipush (-2), 2) := by decide +kernel
theorem dX7_better_12 : decode cX7_better 12 = .ok (.invokevirtual 38, 3) := by decide +kernel
theorem dX7_better_15 : decode cX7_better 15 = .ok (.ireturn, 1) := by decide +kernel
theorem dX7_better_16 : decode cX7_better 16 = .ok (.aload_n 0, 1) := by decide +kernel
theorem dX7_better_17 : decode cX7_better 17 = .ok (.getfield 9, 3) := by decide +kernel
theorem dX7_better_20 : decode cX7_better 20 = .ok (.invokestatic 158, 3) := by decide +kernel
theorem dX7_better_23 : decode cX7_better 23 = .ok (.istore_n 2, 1) := by decide +kernel
theorem dX7_better_24 : decode cX7_better 24 = .ok (.iload_n 1, 1) := by decide +kernel
theorem dX7_better_25 : decode cX7_better 25 = .ok (.ifCond .ne 5, 3) := by decide +kernel
theorem dX7_better_28 : decode cX7_better 28 = .ok (.iload_n 2, 1) := by decide +kernel
theorem dX7_better_29 : decode cX7_better 29 = .ok (.ireturn, 1) := by decide +kernel
theorem dX7_better_30 : decode cX7_better 30 = .ok (.aload_n 0, 1) := by decide +kernel
theorem dX7_better_31 : decode cX7_better 31 = .ok (.aload_n 0, 1) := by decide +kernel
theorem dX7_better_32 : decode cX7_better 32 = .ok (.getfield 9, 3) := by decide +kernel
theorem dX7_better_35 : decode cX7_better 35 = .ok (.invokevirtual 167, 3) := by decide +kernel
theorem dX7_better_38 : decode cX7_better 38 = .ok (.istore_n 3, 1) := by decide +kernel
theorem dX7_better_39 : decode cX7_better 39 = .ok (.iload_n 3, 1) := by decide +kernel
theorem dX7_better_40 : decode cX7_better 40 = .ok (.ifCond .lt 8, 3) := by decide +kernel
theorem dX7_better_43 : decode cX7_better 43 = .ok (.iload_n 2, 1) := by decide +kernel
theorem dX7_better_44 : decode cX7_better 44 = .ok (.iload_n 3, 1) := by decide +kernel
theorem dX7_better_45 : decode cX7_better 45 = .ok (.if_icmp .ge 7, 3) := by decide +kernel
theorem dX7_better_48 : decode cX7_better 48 = .ok (.iconst 1, 1) := by decide +kernel
theorem dX7_better_49 : decode cX7_better 49 = .ok (.goto 4, 3) := by decide +kernel
theorem dX7_better_52 : decode cX7_better 52 = .ok (.iconst 0, 1) := by decide +kernel
theorem dX7_better_53 : decode cX7_better 53 = .ok (.ireturn, 1) := by decide +kernel
theorem dX7_wrongWashes_0 : decode cX7_wrongWashes 0 = .ok (.iload_n 0, 1) := by decide +kernel
theorem dX7_wrongWashes_1 : decode cX7_wrongWashes 1 = .ok (.ifCond .ge 8, 3) := by decide +kernel
theorem dX7_wrongWashes_4 : decode cX7_wrongWashes 4 = .ok (.bipush (-4), 2) := by decide +kernel
theorem dX7_wrongWashes_6 : decode cX7_wrongWashes 6 = .ok (.goto 16, 3) := by decide +kernel
theorem dX7_wrongWashes_9 : decode cX7_wrongWashes 9 = .ok (.iload_n 0, 1) := by decide +kernel
theorem dX7_wrongWashes_10 : decode cX7_wrongWashes 10 = .ok (.sipush 200, 3) := by decide +kernel
theorem dX7_wrongWashes_13 : decode cX7_wrongWashes 13 = .ok (.if_icmp .le 8, 3) := by decide +kernel
theorem dX7_wrongWashes_16 : decode cX7_wrongWashes 16 = .ok (.bipush (-6), 2) := by decide +kernel
theorem dX7_wrongWashes_18 : decode cX7_wrongWashes 18 = .ok (.goto 4, 3) := by decide +kernel
theorem dX7_wrongWashes_21 : decode cX7_wrongWashes 21 = .ok (.iconst 0, 1) := by decide +kernel
theorem dX7_wrongWashes_22 : decode cX7_wrongWashes 22 = .ok (.ireturn, 1) := by decide +kernel
theorem dX7_inIn_0 : decode cX7_inIn 0 = .ok (.iload_n 1, 1) := by decide +kernel
theorem dX7_inIn_1 : decode cX7_inIn 1 = .ok (.invokestatic 135, 3) := by decide +kernel
theorem dX7_inIn_4 : decode cX7_inIn 4 = .ok (.ifCond .ne 7, 3) := by decide +kernel
theorem dX7_inIn_7 : decode cX7_inIn 7 = .ok (.iconst (-1), 1) := by decide +kernel
theorem dX7_inIn_8 : decode cX7_inIn 8 = .ok (.goto 7, 3) := by decide +kernel
theorem dX7_inIn_11 : decode cX7_inIn 11 = .ok (.iload_n 2, 1) := by decide +kernel
theorem dX7_inIn_12 : decode cX7_inIn 12 = .ok (.invokestatic 170, 3) := by decide +kernel
theorem dX7_inIn_15 : decode cX7_inIn 15 = .ok (.istore_n 3, 1) := by decide +kernel
theorem dX7_inIn_16 : decode cX7_inIn 16 = .ok (.iload_n 3, 1) := by decide +kernel
theorem dX7_inIn_17 : decode cX7_inIn 17 = .ok (.ifCond .eq 9, 3) := by decide +kernel
theorem dX7_inIn_20 : decode cX7_inIn 20 = .ok (.aload_n 0, 1) := by decide +kernel
theorem dX7_inIn_21 : decode cX7_inIn 21 = .ok (.iload_n 3, 1) := by decide +kernel
theorem dX7_inIn_22 : decode cX7_inIn 22 = .ok (.invokevirtual 151, 3) := by decide +kernel
theorem dX7_inIn_25 : decode cX7_inIn 25 = .ok (.ireturn, 1) := by decide +kernel
theorem dX7_inIn_26 : decode cX7_inIn 26 = .ok (.aload_n 0, 1) := by decide +kernel
theorem dX7_inIn_27 : decode cX7_inIn 27 = .ok (.getfield 9, 3) := by decide +kernel
theorem dX7_inIn_30 : decode cX7_inIn 30 = .ok (.aload_n 0, 1) := by decide +kernel
theorem dX7_inIn_31 : decode cX7_inIn 31 = .ok (.getfield 13, 3) := by decide +kernel
theorem dX7_inIn_34 : decode cX7_inIn 34 = .ok (.invokestatic 144, 3) := by decide +kernel
theorem dX7_inIn_37 : decode cX7_inIn 37 = .ok (.aload_n 0, 1) := by decide +kernel
theorem dX7_inIn_38 : decode cX7_inIn 38 = .ok (.getfield 13, 3) := by decide +kernel
theorem dX7_inIn_41 : decode cX7_inIn 41 = .ok (.iload_n 2, 1) := by decide +kernel
theorem dX7_inIn_42 : decode cX7_inIn 42 = .ok (.invokestatic 138, 3) := by decide +kernel
theorem dX7_inIn_45 : decode cX7_inIn 45 = .ok (.aload_n 0, 1) := by decide +kernel
theorem dX7_inIn_46 : decode cX7_inIn 46 = .ok (.getfield 13, 3) := by decide +kernel
theorem dX7_inIn_49 : decode cX7_inIn 49 = .ok (.iconst 1, 1) := by decide +kernel
theorem dX7_inIn_50 : decode cX7_inIn 50 = .ok (.iload_n 1, 1) := by decide +kernel
theorem dX7_inIn_51 : decode cX7_inIn 51 = .ok (.iadd, 1) := by decide +kernel
theorem dX7_inIn_52 : decode cX7_inIn 52 = .ok (.iaload, 1) := by decide +kernel
theorem dX7_inIn_53 : decode cX7_inIn 53 = .ok (.ireturn, 1) := by decide +kernel
theorem dX7_lost_0 : decode cX7_lost 0 = .ok (.iload_n 1, 1) := by decide +kernel
theorem dX7_lost_1 : decode cX7_lost 1 = .ok (.iconst 0, 1) := by decide +kernel
theorem dX7_lost_2 : decode cX7_lost 2 = .ok (.iconst 1, 1) := by decide +kernel
theorem dX7_lost_3 : decode cX7_lost 3 = .ok (.invokestatic 42, 3) := by decide +kernel
theorem dX7_lost_6 : decode cX7_lost 6 = .ok (.ifCond .ne 10, 3) := by decide +kernel
theorem dX7_lost_9 : decode cX7_lost 9 = .ok (.aload_n 0, 1) := by decide +kernel
theorem dX7_lost_10 : decode cX7_lost 10 = .ok (.bipush (-2), 2) := by decide +kernel
theorem dX7_lost_12 : decode cX7_lost 12 = .ok (.invokevirtual 38, 3) := by decide +kernel
theorem dX7_lost_15 : decode cX7_lost 15 = .ok (.ireturn, 1) := by decide +kernel
theorem dX7_lost_16 : decode cX7_lost 16 = .ok (.aload_n 0, 1) := by decide +kernel
theorem dX7_lost_17 : decode cX7_lost 17 = .ok (.getfield 9, 3) := by decide +kernel
theorem dX7_lost_20 : decode cX7_lost 20 = .ok (.aload_n 0, 1) := by decide +kernel
theorem dX7_lost_21 : decode cX7_lost 21 = .ok (.getfield 13, 3) := by decide +kernel
theorem dX7_lost_24 : decode cX7_lost 24 = .ok (.invokestatic 144, 3) := by decide +kernel
theorem dX7_lost_27 : decode cX7_lost 27 = .ok (.iconst 0, 1) := by decide +kernel
theorem dX7_lost_28 : decode cX7_lost 28 = .ok (.istore_n 2, 1) := by decide +kernel
theorem dX7_lost_29 : decode cX7_lost 29 = .ok (.iload_n 2, 1) := by decide +kernel
theorem dX7_lost_30 : decode cX7_lost 30 = .ok (.sipush 200, 3) := by decide +kernel
theorem dX7_lost_33 : decode cX7_lost 33 = .ok (.if_icmp .gt 67, 3) := by decide +kernel
theorem dX7_lost_36 : decode cX7_lost 36 = .ok (.aload_n 0, 1) := by decide +kernel
theorem dX7_lost_37 : decode cX7_lost 37 = .ok (.getfield 13, 3) := by decide +kernel
theorem dX7_lost_40 : decode cX7_lost 40 = .ok (.invokestatic 161, 3) := by decide +kernel
theorem dX7_lost_43 : decode cX7_lost 43 = .ok (.ifCond .le 43, 3) := by decide +kernel
theorem dX7_lost_46 : decode cX7_lost 46 = .ok (.iload_n 1, 1) := by decide +kernel
theorem dX7_lost_47 : decode cX7_lost 47 = .ok (.ifCond .ne 7, 3) := by decide +kernel
theorem dX7_lost_50 : decode cX7_lost 50 = .ok (.iload_n 2, 1) := by decide +kernel
theorem dX7_lost_51 : decode cX7_lost 51 = .ok (.goto 34, 3) := by decide +kernel
theorem dX7_lost_54 : decode cX7_lost 54 = .ok (.aload_n 0, 1) := by decide +kernel
theorem dX7_lost_55 : decode cX7_lost 55 = .ok (.getfield 13, 3) := by decide +kernel
theorem dX7_lost_58 : decode cX7_lost 58 = .ok (.invokestatic 161, 3) := by decide +kernel
theorem dX7_lost_61 : decode cX7_lost 61 = .ok (.iconst 2, 1) := by decide +kernel
theorem dX7_lost_62 : decode cX7_lost 62 = .ok (.if_icmp .ne 7, 3) := by decide +kernel
theorem dX7_lost_65 : decode cX7_lost 65 = .ok (.iconst 2, 1) := by decide +kernel
theorem dX7_lost_66 : decode cX7_lost 66 = .ok (.goto 19, 3) := by decide +kernel
theorem dX7_lost_69 : decode cX7_lost 69 = .ok (.aload_n 0, 1) := by decide +kernel
theorem dX7_lost_70 : decode cX7_lost 70 = .ok (.getfield 13, 3) := by decide +kernel
theorem dX7_lost_73 : decode cX7_lost 73 = .ok (.iconst 0, 1) := by decide +kernel
theorem dX7_lost_74 : decode cX7_lost 74 = .ok (.invokestatic 94, 3) := by decide +kernel
theorem dX7_lost_77 : decode cX7_lost 77 = .ok (.ifCond .eq 7, 3) := by decide +kernel
theorem dX7_lost_80 : decode cX7_lost 80 = .ok (.iconst 0, 1) := by decide +kernel
theorem dX7_lost_81 : decode cX7_lost 81 = .ok (.goto 4, 3) := by decide +kernel
theorem dX7_lost_84 : decode cX7_lost 84 = .ok (.iconst 1, 1) := by decide +kernel
theorem dX7_lost_85 : decode cX7_lost 85 = .ok (.ireturn, 1) := by decide +kernel
theorem dX7_lost_86 : decode cX7_lost 86 = .ok (.aload_n 0, 1) := by decide +kernel
theorem dX7_lost_87 : decode cX7_lost 87 = .ok (.getfield 13, 3) := by decide +kernel
theorem dX7_lost_90 : decode cX7_lost 90 = .ok (.invokestatic 77, 3) := by decide +kernel
theorem dX7_lost_93 : decode cX7_lost 93 = .ok (.istore_n 3, 1) := by decide +kernel
theorem dX7_lost_94 : decode cX7_lost 94 = .ok (.iinc 2 1, 3) := by decide +kernel
theorem dX7_lost_97 : decode cX7_lost 97 = .ok (.goto (-68), 3) := by decide +kernel
theorem dX7_lost_100 : decode cX7_lost 100 = .ok (.bipush (-9), 2) := by decide +kernel
theorem dX7_lost_102 : decode cX7_lost 102 = .ok (.ireturn, 1) := by decide +kernel
theorem dX7_still_0 : decode cX7_still 0 = .ok (.aload_n 0, 1) := by decide +kernel
theorem dX7_still_1 : decode cX7_still 1 = .ok (.getfield 9, 3) := by decide +kernel
theorem dX7_still_4 : decode cX7_still 4 = .ok (.aload_n 0, 1) := by decide +kernel
theorem dX7_still_5 : decode cX7_still 5 = .ok (.getfield 13, 3) := by decide +kernel
theorem dX7_still_8 : decode cX7_still 8 = .ok (.invokestatic 144, 3) := by decide +kernel
theorem dX7_still_11 : decode cX7_still 11 = .ok (.iconst 0, 1) := by decide +kernel
theorem dX7_still_12 : decode cX7_still 12 = .ok (.istore_n 1, 1) := by decide +kernel
theorem dX7_still_13 : decode cX7_still 13 = .ok (.iload_n 1, 1) := by decide +kernel
theorem dX7_still_14 : decode cX7_still 14 = .ok (.sipush 200, 3) := by decide +kernel
theorem dX7_still_17 : decode cX7_still 17 = .ok (.if_icmp .gt 21, 3) := by decide +kernel
theorem dX7_still_20 : decode cX7_still 20 = .ok (.aload_n 0, 1) := by decide +kernel
theorem dX7_still_21 : decode cX7_still 21 = .ok (.getfield 13, 3) := by decide +kernel
theorem dX7_still_24 : decode cX7_still 24 = .ok (.invokestatic 77, 3) := by decide +kernel
theorem dX7_still_27 : decode cX7_still 27 = .ok (.ifCond .ne 5, 3) := by decide +kernel
theorem dX7_still_30 : decode cX7_still 30 = .ok (.iload_n 1, 1) := by decide +kernel
theorem dX7_still_31 : decode cX7_still 31 = .ok (.ireturn, 1) := by decide +kernel
theorem dX7_still_32 : decode cX7_still 32 = .ok (.iinc 1 1, 3) := by decide +kernel
theorem dX7_still_35 : decode cX7_still 35 = .ok (.goto (-22), 3) := by decide +kernel
theorem dX7_still_38 : decode cX7_still 38 = .ok (.bipush (-9), 2) := by decide +kernel
theorem dX7_still_40 : decode cX7_still 40 = .ok (.ireturn, 1) := by decide +kernel
theorem dX7_wrongSeconds_0 : decode cX7_wrongSeconds 0 = .ok (.iload_n 0, 1) := by decide +kernel
theorem dX7_wrongSeconds_1 : decode cX7_wrongSeconds 1 = .ok (.ifCond .ge 8, 3) := by decide +kernel
theorem dX7_wrongSeconds_4 : decode cX7_wrongSeconds 4 = .ok (.bipush (-4), 2) := by decide +kernel
theorem dX7_wrongSeconds_6 : decode cX7_wrongSeconds 6 = .ok (.goto 16, 3) := by decide +kernel
theorem dX7_wrongSeconds_9 : decode cX7_wrongSeconds 9 = .ok (.iload_n 0, 1) := by decide +kernel
theorem dX7_wrongSeconds_10 : decode cX7_wrongSeconds 10 = .ok (.sipush 999, 3) := by decide +kernel
theorem dX7_wrongSeconds_13 : decode cX7_wrongSeconds 13 = .ok (.if_icmp .le 8, 3) := by decide +kernel
theorem dX7_wrongSeconds_16 : decode cX7_wrongSeconds 16 = .ok (.bipush (-6), 2) := by decide +kernel
theorem dX7_wrongSeconds_18 : decode cX7_wrongSeconds 18 = .ok (.goto 4, 3) := by decide +kernel
theorem dX7_wrongSeconds_21 : decode cX7_wrongSeconds 21 = .ok (.iconst 0, 1) := by decide +kernel
theorem dX7_wrongSeconds_22 : decode cX7_wrongSeconds 22 = .ok (.ireturn, 1) := by decide +kernel
theorem dX7_keep_0 : decode cX7_keep 0 = .ok (.iload_n 1, 1) := by decide +kernel
theorem dX7_keep_1 : decode cX7_keep 1 = .ok (.invokestatic 173, 3) := by decide +kernel
theorem dX7_keep_4 : decode cX7_keep 4 = .ok (.istore_n 2, 1) := by decide +kernel
theorem dX7_keep_5 : decode cX7_keep 5 = .ok (.iload_n 2, 1) := by decide +kernel
theorem dX7_keep_6 : decode cX7_keep 6 = .ok (.ifCond .eq 9, 3) := by decide +kernel
theorem dX7_keep_9 : decode cX7_keep 9 = .ok (.aload_n 0, 1) := by decide +kernel
theorem dX7_keep_10 : decode cX7_keep 10 = .ok (.iload_n 2, 1) := by decide +kernel
theorem dX7_keep_11 : decode cX7_keep 11 = .ok (.invokevirtual 38, 3) := by decide +kernel
theorem dX7_keep_14 : decode cX7_keep 14 = .ok (.ireturn, 1) := by decide +kernel
theorem dX7_keep_15 : decode cX7_keep 15 = .ok (.aload_n 0, 1) := by decide +kernel
theorem dX7_keep_16 : decode cX7_keep 16 = .ok (.getfield 9, 3) := by decide +kernel
theorem dX7_keep_19 : decode cX7_keep 19 = .ok (.aload_n 0, 1) := by decide +kernel
theorem dX7_keep_20 : decode cX7_keep 20 = .ok (.getfield 13, 3) := by decide +kernel
theorem dX7_keep_23 : decode cX7_keep 23 = .ok (.invokestatic 144, 3) := by decide +kernel
theorem dX7_keep_26 : decode cX7_keep 26 = .ok (.iconst 0, 1) := by decide +kernel
theorem dX7_keep_27 : decode cX7_keep 27 = .ok (.istore_n 3, 1) := by decide +kernel
theorem dX7_keep_28 : decode cX7_keep 28 = .ok (.iload_n 3, 1) := by decide +kernel
theorem dX7_keep_29 : decode cX7_keep 29 = .ok (.sipush 200, 3) := by decide +kernel
theorem dX7_keep_32 : decode cX7_keep 32 = .ok (.if_icmp .gt 41, 3) := by decide +kernel
theorem dX7_keep_35 : decode cX7_keep 35 = .ok (.aload_n 0, 1) := by decide +kernel
theorem dX7_keep_36 : decode cX7_keep 36 = .ok (.aload_n 0, 1) := by decide +kernel
theorem dX7_keep_37 : decode cX7_keep 37 = .ok (.getfield 13, 3) := by decide +kernel
theorem dX7_keep_40 : decode cX7_keep 40 = .ok (.invokevirtual 167, 3) := by decide +kernel
theorem dX7_keep_43 : decode cX7_keep 43 = .ok (.istore 4, 2) := by decide +kernel
theorem dX7_keep_45 : decode cX7_keep 45 = .ok (.iload 4, 2) := by decide +kernel
theorem dX7_keep_47 : decode cX7_keep 47 = .ok (.ifCond .lt 9, 3) := by decide +kernel
theorem dX7_keep_50 : decode cX7_keep 50 = .ok (.iload 4, 2) := by decide +kernel
theorem dX7_keep_52 : decode cX7_keep 52 = .ok (.iload_n 1, 1) := by decide +kernel
theorem dX7_keep_53 : decode cX7_keep 53 = .ok (.if_icmp .le 5, 3) := by decide +kernel
theorem dX7_keep_56 : decode cX7_keep 56 = .ok (.iload_n 3, 1) := by decide +kernel
theorem dX7_keep_57 : decode cX7_keep 57 = .ok (.ireturn, 1) := by decide +kernel
theorem dX7_keep_58 : decode cX7_keep 58 = .ok (.aload_n 0, 1) := by decide +kernel
theorem dX7_keep_59 : decode cX7_keep 59 = .ok (.getfield 13, 3) := by decide +kernel
theorem dX7_keep_62 : decode cX7_keep 62 = .ok (.invokestatic 77, 3) := by decide +kernel
theorem dX7_keep_65 : decode cX7_keep 65 = .ok (.istore 5, 2) := by decide +kernel
theorem dX7_keep_67 : decode cX7_keep 67 = .ok (.iinc 3 1, 3) := by decide +kernel
theorem dX7_keep_70 : decode cX7_keep 70 = .ok (.goto (-42), 3) := by decide +kernel
theorem dX7_keep_73 : decode cX7_keep 73 = .ok (.bipush (-9), 2) := by decide +kernel
theorem dX7_keep_75 : decode cX7_keep 75 = .ok (.ireturn, 1) := by decide +kernel
theorem dX7_deep_0 : decode cX7_deep 0 = .ok (.iload_n 1, 1) := by decide +kernel
theorem dX7_deep_1 : decode cX7_deep 1 = .ok (.invokestatic 135, 3) := by decide +kernel
theorem dX7_deep_4 : decode cX7_deep 4 = .ok (.ifCond .ne 7, 3) := by decide +kernel
theorem dX7_deep_7 : decode cX7_deep 7 = .ok (.iconst (-1), 1) := by decide +kernel
theorem dX7_deep_8 : decode cX7_deep 8 = .ok (.goto 7, 3) := by decide +kernel
theorem dX7_deep_11 : decode cX7_deep 11 = .ok (.iload_n 2, 1) := by decide +kernel
theorem dX7_deep_12 : decode cX7_deep 12 = .ok (.invokestatic 173, 3) := by decide +kernel
theorem dX7_deep_15 : decode cX7_deep 15 = .ok (.istore_n 3, 1) := by decide +kernel
theorem dX7_deep_16 : decode cX7_deep 16 = .ok (.iload_n 3, 1) := by decide +kernel
theorem dX7_deep_17 : decode cX7_deep 17 = .ok (.ifCond .eq 9, 3) := by decide +kernel
theorem dX7_deep_20 : decode cX7_deep 20 = .ok (.aload_n 0, 1) := by decide +kernel
theorem dX7_deep_21 : decode cX7_deep 21 = .ok (.iload_n 3, 1) := by decide +kernel
theorem dX7_deep_22 : decode cX7_deep 22 = .ok (.invokevirtual 38, 3) := by decide +kernel
theorem dX7_deep_25 : decode cX7_deep 25 = .ok (.ireturn, 1) := by decide +kernel
theorem dX7_deep_26 : decode cX7_deep 26 = .ok (.aload_n 0, 1) := by decide +kernel
theorem dX7_deep_27 : decode cX7_deep 27 = .ok (.getfield 9, 3) := by decide +kernel
theorem dX7_deep_30 : decode cX7_deep 30 = .ok (.aload_n 0, 1) := by decide +kernel
theorem dX7_deep_31 : decode cX7_deep 31 = .ok (.getfield 13, 3) := by decide +kernel
theorem dX7_deep_34 : decode cX7_deep 34 = .ok (.invokestatic 144, 3) := by decide +kernel
theorem dX7_deep_37 : decode cX7_deep 37 = .ok (.bipush 24, 2) := by decide +kernel
theorem dX7_deep_39 : decode cX7_deep 39 = .ok (.istore 4, 2) := by decide +kernel
theorem dX7_deep_41 : decode cX7_deep 41 = .ok (.iload 4, 2) := by decide +kernel
theorem dX7_deep_43 : decode cX7_deep 43 = .ok (.ifCond .le 44, 3) := by decide +kernel
theorem dX7_deep_46 : decode cX7_deep 46 = .ok (.aload_n 0, 1) := by decide +kernel
theorem dX7_deep_47 : decode cX7_deep 47 = .ok (.getfield 13, 3) := by decide +kernel
theorem dX7_deep_50 : decode cX7_deep 50 = .ok (.iconst 1, 1) := by decide +kernel
theorem dX7_deep_51 : decode cX7_deep 51 = .ok (.iload_n 1, 1) := by decide +kernel
theorem dX7_deep_52 : decode cX7_deep 52 = .ok (.iadd, 1) := by decide +kernel
theorem dX7_deep_53 : decode cX7_deep 53 = .ok (.iload 4, 2) := by decide +kernel
theorem dX7_deep_55 : decode cX7_deep 55 = .ok (.iastore, 1) := by decide +kernel
theorem dX7_deep_56 : decode cX7_deep 56 = .ok (.aload_n 0, 1) := by decide +kernel
theorem dX7_deep_57 : decode cX7_deep 57 = .ok (.aload_n 0, 1) := by decide +kernel
theorem dX7_deep_58 : decode cX7_deep 58 = .ok (.getfield 13, 3) := by decide +kernel
theorem dX7_deep_61 : decode cX7_deep 61 = .ok (.iload_n 1, 1) := by decide +kernel
theorem dX7_deep_62 : decode cX7_deep 62 = .ok (.invokevirtual 105, 3) := by decide +kernel
theorem dX7_deep_65 : decode cX7_deep 65 = .ok (.istore 5, 2) := by decide +kernel
theorem dX7_deep_67 : decode cX7_deep 67 = .ok (.iload 5, 2) := by decide +kernel
theorem dX7_deep_69 : decode cX7_deep 69 = .ok (.ifCond .lt 12, 3) := by decide +kernel
theorem dX7_deep_72 : decode cX7_deep 72 = .ok (.iload 5, 2) := by decide +kernel
theorem dX7_deep_74 : decode cX7_deep 74 = .ok (.iload_n 2, 1) := by decide +kernel
theorem dX7_deep_75 : decode cX7_deep 75 = .ok (.if_icmp .gt 6, 3) := by decide +kernel
theorem dX7_deep_78 : decode cX7_deep 78 = .ok (.iload 4, 2) := by decide +kernel
theorem dX7_deep_80 : decode cX7_deep 80 = .ok (.ireturn, 1) := by decide +kernel
theorem dX7_deep_81 : decode cX7_deep 81 = .ok (.iinc 4 (-1), 3) := by decide +kernel
theorem dX7_deep_84 : decode cX7_deep 84 = .ok (.goto (-43), 3) := by decide +kernel
theorem dX7_deep_87 : decode cX7_deep 87 = .ok (.bipush (-9), 2) := by decide +kernel
theorem dX7_deep_89 : decode cX7_deep 89 = .ok (.ireturn, 1) := by decide +kernel
theorem dX7_mended_0 : decode cX7_mended 0 = .ok (.iconst 0, 1) := by decide +kernel
theorem dX7_mended_1 : decode cX7_mended 1 = .ok (.istore_n 2, 1) := by decide +kernel
theorem dX7_mended_2 : decode cX7_mended 2 = .ok (.aload_n 0, 1) := by decide +kernel
theorem dX7_mended_3 : decode cX7_mended 3 = .ok (.iconst 0, 1) := by decide +kernel
theorem dX7_mended_4 : decode cX7_mended 4 = .ok (.putfield 176, 3) := by decide +kernel
theorem dX7_mended_7 : decode cX7_mended 7 = .ok (.iconst 0, 1) := by decide +kernel
theorem dX7_mended_8 : decode cX7_mended 8 = .ok (.istore_n 3, 1) := by decide +kernel
theorem dX7_mended_9 : decode cX7_mended 9 = .ok (.iload_n 3, 1) := by decide +kernel
theorem dX7_mended_10 : decode cX7_mended 10 = .ok (.iload_n 1, 1) := by decide +kernel
theorem dX7_mended_11 : decode cX7_mended 11 = .ok (.if_icmp .ge 122, 3) := by decide +kernel
theorem dX7_mended_14 : decode cX7_mended 14 = .ok (.aload_n 0, 1) := by decide +kernel
theorem dX7_mended_15 : decode cX7_mended 15 = .ok (.getfield 13, 3) := by decide +kernel
theorem dX7_mended_18 : decode cX7_mended 18 = .ok (.invokestatic 77, 3) := by decide +kernel
theorem dX7_mended_21 : decode cX7_mended 21 = .ok (.istore 4, 2) := by decide +kernel
theorem dX7_mended_23 : decode cX7_mended 23 = .ok (.iconst 0, 1) := by decide +kernel
theorem dX7_mended_24 : decode cX7_mended 24 = .ok (.istore 5, 2) := by decide +kernel
theorem dX7_mended_26 : decode cX7_mended 26 = .ok (.iload 5, 2) := by decide +kernel
theorem dX7_mended_28 : decode cX7_mended 28 = .ok (.iconst 2, 1) := by decide +kernel
theorem dX7_mended_29 : decode cX7_mended 29 = .ok (.if_icmp .ge 98, 3) := by decide +kernel
theorem dX7_mended_32 : decode cX7_mended 32 = .ok (.aload_n 0, 1) := by decide +kernel
theorem dX7_mended_33 : decode cX7_mended 33 = .ok (.getfield 13, 3) := by decide +kernel
theorem dX7_mended_36 : decode cX7_mended 36 = .ok (.iload 5, 2) := by decide +kernel
theorem dX7_mended_38 : decode cX7_mended 38 = .ok (.invokestatic 94, 3) := by decide +kernel
theorem dX7_mended_41 : decode cX7_mended 41 = .ok (.ifCond .ne 6, 3) := by decide +kernel
theorem dX7_mended_44 : decode cX7_mended 44 = .ok (.goto 77, 3) := by decide +kernel
theorem dX7_mended_47 : decode cX7_mended 47 = .ok (.aload_n 0, 1) := by decide +kernel
theorem dX7_mended_48 : decode cX7_mended 48 = .ok (.aload_n 0, 1) := by decide +kernel
theorem dX7_mended_49 : decode cX7_mended 49 = .ok (.getfield 13, 3) := by decide +kernel
theorem dX7_mended_52 : decode cX7_mended 52 = .ok (.iload 5, 2) := by decide +kernel
theorem dX7_mended_54 : decode cX7_mended 54 = .ok (.invokevirtual 105, 3) := by decide +kernel
theorem dX7_mended_57 : decode cX7_mended 57 = .ok (.istore 6, 2) := by decide +kernel
theorem dX7_mended_59 : decode cX7_mended 59 = .ok (.aload_n 0, 1) := by decide +kernel
theorem dX7_mended_60 : decode cX7_mended 60 = .ok (.dup, 1) := by decide +kernel
theorem dX7_mended_61 : decode cX7_mended 61 = .ok (.getfield 176, 3) := by decide +kernel
theorem dX7_mended_64 : decode cX7_mended 64 = .ok (.iconst 1, 1) := by decide +kernel
theorem dX7_mended_65 : decode cX7_mended 65 = .ok (.iadd, 1) := by decide +kernel
theorem dX7_mended_66 : decode cX7_mended 66 = .ok (.putfield 176, 3) := by decide +kernel
theorem dX7_mended_69 : decode cX7_mended 69 = .ok (.iload 6, 2) := by decide +kernel
theorem dX7_mended_71 : decode cX7_mended 71 = .ok (.ifCond .lt 15, 3) := by decide +kernel
theorem dX7_mended_74 : decode cX7_mended 74 = .ok (.aload_n 0, 1) := by decide +kernel
theorem dX7_mended_75 : decode cX7_mended 75 = .ok (.getfield 13, 3) := by decide +kernel
theorem dX7_mended_78 : decode cX7_mended 78 = .ok (.invokestatic 158, 3) := by decide +kernel
theorem dX7_mended_81 : decode cX7_mended 81 = .ok (.iload 6, 2) := by decide +kernel
theorem dX7_mended_83 : decode cX7_mended 83 = .ok (.if_icmp .ge 23, 3) := by decide +kernel
theorem dX7_mended_86 : decode cX7_mended 86 = .ok (.iload_n 2, 1) := by decide +kernel
theorem dX7_mended_87 : decode cX7_mended 87 = .ok (.aload_n 0, 1) := by decide +kernel
theorem dX7_mended_88 : decode cX7_mended 88 = .ok (.getfield 13, 3) := by decide +kernel
theorem dX7_mended_91 : decode cX7_mended 91 = .ok (.invokestatic 158, 3) := by decide +kernel
theorem dX7_mended_94 : decode cX7_mended 94 = .ok (.iadd, 1) := by decide +kernel
theorem dX7_mended_95 : decode cX7_mended 95 = .ok (.istore_n 2, 1) := by decide +kernel
theorem dX7_mended_96 : decode cX7_mended 96 = .ok (.aload_n 0, 1) := by decide +kernel
theorem dX7_mended_97 : decode cX7_mended 97 = .ok (.getfield 13, 3) := by decide +kernel
theorem dX7_mended_100 : decode cX7_mended 100 = .ok (.invokestatic 154, 3) := by decide +kernel
theorem dX7_mended_103 : decode cX7_mended 103 = .ok (.goto 18, 3) := by decide +kernel
theorem dX7_mended_106 : decode cX7_mended 106 = .ok (.iload_n 2, 1) := by decide +kernel
theorem dX7_mended_107 : decode cX7_mended 107 = .ok (.iload 6, 2) := by decide +kernel
theorem dX7_mended_109 : decode cX7_mended 109 = .ok (.iadd, 1) := by decide +kernel
theorem dX7_mended_110 : decode cX7_mended 110 = .ok (.istore_n 2, 1) := by decide +kernel
theorem dX7_mended_111 : decode cX7_mended 111 = .ok (.aload_n 0, 1) := by decide +kernel
theorem dX7_mended_112 : decode cX7_mended 112 = .ok (.getfield 13, 3) := by decide +kernel
theorem dX7_mended_115 : decode cX7_mended 115 = .ok (.iconst 1, 1) := by decide +kernel
theorem dX7_mended_116 : decode cX7_mended 116 = .ok (.iload 5, 2) := by decide +kernel
theorem dX7_mended_118 : decode cX7_mended 118 = .ok (.iadd, 1) := by decide +kernel
theorem dX7_mended_119 : decode cX7_mended 119 = .ok (.iconst 0, 1) := by decide +kernel
theorem dX7_mended_120 : decode cX7_mended 120 = .ok (.iastore, 1) := by decide +kernel
theorem dX7_mended_121 : decode cX7_mended 121 = .ok (.iinc 5 1, 3) := by decide +kernel
theorem dX7_mended_124 : decode cX7_mended 124 = .ok (.goto (-98), 3) := by decide +kernel
theorem dX7_mended_127 : decode cX7_mended 127 = .ok (.iinc 3 1, 3) := by decide +kernel
theorem dX7_mended_130 : decode cX7_mended 130 = .ok (.goto (-121), 3) := by decide +kernel
theorem dX7_mended_133 : decode cX7_mended 133 = .ok (.iload_n 2, 1) := by decide +kernel
theorem dX7_mended_134 : decode cX7_mended 134 = .ok (.ireturn, 1) := by decide +kernel
theorem dX7_stops_0 : decode cX7_stops 0 = .ok (.iload_n 1, 1) := by decide +kernel
theorem dX7_stops_1 : decode cX7_stops 1 = .ok (.invokestatic 170, 3) := by decide +kernel
theorem dX7_stops_4 : decode cX7_stops 4 = .ok (.istore_n 3, 1) := by decide +kernel
theorem dX7_stops_5 : decode cX7_stops 5 = .ok (.iload_n 3, 1) := by decide +kernel
theorem dX7_stops_6 : decode cX7_stops 6 = .ok (.ifCond .ne 15, 3) := by decide +kernel
theorem dX7_stops_9 : decode cX7_stops 9 = .ok (.iload_n 2, 1) := by decide +kernel
theorem dX7_stops_10 : decode cX7_stops 10 = .ok (.iconst 0, 1) := by decide +kernel
theorem dX7_stops_11 : decode cX7_stops 11 = .ok (.iconst 1, 1) := by decide +kernel
theorem dX7_stops_12 : decode cX7_stops 12 = .ok (.invokestatic 42, 3) := by decide +kernel
theorem dX7_stops_15 : decode cX7_stops 15 = .ok (.ifCond .ne 6, 3) := by decide +kernel
theorem dX7_stops_18 : decode cX7_stops 18 = .ok (.bipush (-2), 2) := by decide +kernel
theorem dX7_stops_20 : decode cX7_stops 20 = .ok (.istore_n 3, 1) := by decide +kernel
theorem dX7_stops_21 : decode cX7_stops 21 = .ok (.iload_n 3, 1) := by decide +kernel
theorem dX7_stops_22 : decode cX7_stops 22 = .ok (.ifCond .eq 9, 3) := by decide +kernel
theorem dX7_stops_25 : decode cX7_stops 25 = .ok (.aload_n 0, 1) := by decide +kernel
theorem dX7_stops_26 : decode cX7_stops 26 = .ok (.iload_n 3, 1) := by decide +kernel
theorem dX7_stops_27 : decode cX7_stops 27 = .ok (.invokevirtual 38, 3) := by decide +kernel
theorem dX7_stops_30 : decode cX7_stops 30 = .ok (.ireturn, 1) := by decide +kernel
theorem dX7_stops_31 : decode cX7_stops 31 = .ok (.iconst 0, 1) := by decide +kernel
theorem dX7_stops_32 : decode cX7_stops 32 = .ok (.istore 4, 2) := by decide +kernel
theorem dX7_stops_34 : decode cX7_stops 34 = .ok (.ldc 37, 2) := by decide +kernel
theorem dX7_stops_36 : decode cX7_stops 36 = .ok (.istore 5, 2) := by decide +kernel
theorem dX7_stops_38 : decode cX7_stops 38 = .ok (.iconst 0, 1) := by decide +kernel
theorem dX7_stops_39 : decode cX7_stops 39 = .ok (.istore 6, 2) := by decide +kernel
theorem dX7_stops_41 : decode cX7_stops 41 = .ok (.iload 6, 2) := by decide +kernel
theorem dX7_stops_43 : decode cX7_stops 43 = .ok (.iconst 5, 1) := by decide +kernel
theorem dX7_stops_44 : decode cX7_stops 44 = .ok (.if_icmp .ge 130, 3) := by decide +kernel
theorem dX7_stops_47 : decode cX7_stops 47 = .ok (.aload_n 0, 1) := by decide +kernel
theorem dX7_stops_48 : decode cX7_stops 48 = .ok (.getfield 9, 3) := by decide +kernel
theorem dX7_stops_51 : decode cX7_stops 51 = .ok (.aload_n 0, 1) := by decide +kernel
theorem dX7_stops_52 : decode cX7_stops 52 = .ok (.getfield 13, 3) := by decide +kernel
theorem dX7_stops_55 : decode cX7_stops 55 = .ok (.invokestatic 144, 3) := by decide +kernel
theorem dX7_stops_58 : decode cX7_stops 58 = .ok (.iload 6, 2) := by decide +kernel
theorem dX7_stops_60 : decode cX7_stops 60 = .ok (.iconst 1, 1) := by decide +kernel
theorem dX7_stops_61 : decode cX7_stops 61 = .ok (.if_icmp .eq 9, 3) := by decide +kernel
theorem dX7_stops_64 : decode cX7_stops 64 = .ok (.iload 6, 2) := by decide +kernel
theorem dX7_stops_66 : decode cX7_stops 66 = .ok (.iconst 3, 1) := by decide +kernel
theorem dX7_stops_67 : decode cX7_stops 67 = .ok (.if_icmp .ne 10, 3) := by decide +kernel
theorem dX7_stops_70 : decode cX7_stops 70 = .ok (.aload_n 0, 1) := by decide +kernel
theorem dX7_stops_71 : decode cX7_stops 71 = .ok (.getfield 13, 3) := by decide +kernel
theorem dX7_stops_74 : decode cX7_stops 74 = .ok (.iconst 3, 1) := by decide +kernel
theorem dX7_stops_75 : decode cX7_stops 75 = .ok (.iconst 1, 1) := by decide +kernel
theorem dX7_stops_76 : decode cX7_stops 76 = .ok (.iastore, 1) := by decide +kernel
theorem dX7_stops_77 : decode cX7_stops 77 = .ok (.iload 6, 2) := by decide +kernel
theorem dX7_stops_79 : decode cX7_stops 79 = .ok (.iconst 2, 1) := by decide +kernel
theorem dX7_stops_80 : decode cX7_stops 80 = .ok (.if_icmp .eq 9, 3) := by decide +kernel
theorem dX7_stops_83 : decode cX7_stops 83 = .ok (.iload 6, 2) := by decide +kernel
theorem dX7_stops_85 : decode cX7_stops 85 = .ok (.iconst 3, 1) := by decide +kernel
theorem dX7_stops_86 : decode cX7_stops 86 = .ok (.if_icmp .ne 10, 3) := by decide +kernel
theorem dX7_stops_89 : decode cX7_stops 89 = .ok (.aload_n 0, 1) := by decide +kernel
theorem dX7_stops_90 : decode cX7_stops 90 = .ok (.getfield 13, 3) := by decide +kernel
theorem dX7_stops_93 : decode cX7_stops 93 = .ok (.iconst 4, 1) := by decide +kernel
theorem dX7_stops_94 : decode cX7_stops 94 = .ok (.iconst 1, 1) := by decide +kernel
theorem dX7_stops_95 : decode cX7_stops 95 = .ok (.iastore, 1) := by decide +kernel
theorem dX7_stops_96 : decode cX7_stops 96 = .ok (.iload 6, 2) := by decide +kernel
theorem dX7_stops_98 : decode cX7_stops 98 = .ok (.iconst 4, 1) := by decide +kernel
theorem dX7_stops_99 : decode cX7_stops 99 = .ok (.if_icmp .ne 10, 3) := by decide +kernel
theorem dX7_stops_102 : decode cX7_stops 102 = .ok (.aload_n 0, 1) := by decide +kernel
theorem dX7_stops_103 : decode cX7_stops 103 = .ok (.getfield 13, 3) := by decide +kernel
theorem dX7_stops_106 : decode cX7_stops 106 = .ok (.iconst 5, 1) := by decide +kernel
theorem dX7_stops_107 : decode cX7_stops 107 = .ok (.iconst 1, 1) := by decide +kernel
theorem dX7_stops_108 : decode cX7_stops 108 = .ok (.iastore, 1) := by decide +kernel
theorem dX7_stops_109 : decode cX7_stops 109 = .ok (.aload_n 0, 1) := by decide +kernel
theorem dX7_stops_110 : decode cX7_stops 110 = .ok (.iload_n 1, 1) := by decide +kernel
theorem dX7_stops_111 : decode cX7_stops 111 = .ok (.invokevirtual 179, 3) := by decide +kernel
theorem dX7_stops_114 : decode cX7_stops 114 = .ok (.iload 6, 2) := by decide +kernel
theorem dX7_stops_116 : decode cX7_stops 116 = .ok (.ifCond .ne 7, 3) := by decide +kernel
theorem dX7_stops_119 : decode cX7_stops 119 = .ok (.iconst 0, 1) := by decide +kernel
theorem dX7_stops_120 : decode cX7_stops 120 = .ok (.goto 27, 3) := by decide +kernel
theorem dX7_stops_123 : decode cX7_stops 123 = .ok (.iload 6, 2) := by decide +kernel
theorem dX7_stops_125 : decode cX7_stops 125 = .ok (.iconst 3, 1) := by decide +kernel
theorem dX7_stops_126 : decode cX7_stops 126 = .ok (.if_icmp .ge 8, 3) := by decide +kernel
theorem dX7_stops_129 : decode cX7_stops 129 = .ok (.bipush 20, 2) := by decide +kernel
theorem dX7_stops_131 : decode cX7_stops 131 = .ok (.goto 16, 3) := by decide +kernel
theorem dX7_stops_134 : decode cX7_stops 134 = .ok (.iload 6, 2) := by decide +kernel
theorem dX7_stops_136 : decode cX7_stops 136 = .ok (.iconst 3, 1) := by decide +kernel
theorem dX7_stops_137 : decode cX7_stops 137 = .ok (.if_icmp .ne 8, 3) := by decide +kernel
theorem dX7_stops_140 : decode cX7_stops 140 = .ok (.bipush 40, 2) := by decide +kernel
theorem dX7_stops_142 : decode cX7_stops 142 = .ok (.goto 5, 3) := by decide +kernel
theorem dX7_stops_145 : decode cX7_stops 145 = .ok (.bipush 50, 2) := by decide +kernel
theorem dX7_stops_147 : decode cX7_stops 147 = .ok (.iadd, 1) := by decide +kernel
theorem dX7_stops_148 : decode cX7_stops 148 = .ok (.istore 7, 2) := by decide +kernel
theorem dX7_stops_150 : decode cX7_stops 150 = .ok (.iload 7, 2) := by decide +kernel
theorem dX7_stops_152 : decode cX7_stops 152 = .ok (.iload 5, 2) := by decide +kernel
theorem dX7_stops_154 : decode cX7_stops 154 = .ok (.if_icmp .lt 6, 3) := by decide +kernel
theorem dX7_stops_157 : decode cX7_stops 157 = .ok (.goto 11, 3) := by decide +kernel
theorem dX7_stops_160 : decode cX7_stops 160 = .ok (.iload 6, 2) := by decide +kernel
theorem dX7_stops_162 : decode cX7_stops 162 = .ok (.istore 4, 2) := by decide +kernel
theorem dX7_stops_164 : decode cX7_stops 164 = .ok (.iload 7, 2) := by decide +kernel
theorem dX7_stops_166 : decode cX7_stops 166 = .ok (.istore 5, 2) := by decide +kernel
theorem dX7_stops_168 : decode cX7_stops 168 = .ok (.iinc 6 1, 3) := by decide +kernel
theorem dX7_stops_171 : decode cX7_stops 171 = .ok (.goto (-130), 3) := by decide +kernel
theorem dX7_stops_174 : decode cX7_stops 174 = .ok (.iload_n 2, 1) := by decide +kernel
theorem dX7_stops_175 : decode cX7_stops 175 = .ok (.ifCond .ne 8, 3) := by decide +kernel
theorem dX7_stops_178 : decode cX7_stops 178 = .ok (.iload 4, 2) := by decide +kernel
theorem dX7_stops_180 : decode cX7_stops 180 = .ok (.goto 5, 3) := by decide +kernel
theorem dX7_stops_183 : decode cX7_stops 183 = .ok (.iload 5, 2) := by decide +kernel
theorem dX7_stops_185 : decode cX7_stops 185 = .ok (.ireturn, 1) := by decide +kernel
theorem dX7_care_0 : decode cX7_care 0 = .ok (.iload_n 1, 1) := by decide +kernel
theorem dX7_care_1 : decode cX7_care 1 = .ok (.invokestatic 170, 3) := by decide +kernel
theorem dX7_care_4 : decode cX7_care 4 = .ok (.istore_n 2, 1) := by decide +kernel
theorem dX7_care_5 : decode cX7_care 5 = .ok (.iload_n 2, 1) := by decide +kernel
theorem dX7_care_6 : decode cX7_care 6 = .ok (.ifCond .eq 9, 3) := by decide +kernel
theorem dX7_care_9 : decode cX7_care 9 = .ok (.aload_n 0, 1) := by decide +kernel
theorem dX7_care_10 : decode cX7_care 10 = .ok (.iload_n 2, 1) := by decide +kernel
theorem dX7_care_11 : decode cX7_care 11 = .ok (.invokevirtual 38, 3) := by decide +kernel
theorem dX7_care_14 : decode cX7_care 14 = .ok (.ireturn, 1) := by decide +kernel
theorem dX7_care_15 : decode cX7_care 15 = .ok (.aload_n 0, 1) := by decide +kernel
theorem dX7_care_16 : decode cX7_care 16 = .ok (.getfield 9, 3) := by decide +kernel
theorem dX7_care_19 : decode cX7_care 19 = .ok (.aload_n 0, 1) := by decide +kernel
theorem dX7_care_20 : decode cX7_care 20 = .ok (.getfield 13, 3) := by decide +kernel
theorem dX7_care_23 : decode cX7_care 23 = .ok (.invokestatic 144, 3) := by decide +kernel
theorem dX7_care_26 : decode cX7_care 26 = .ok (.aload_n 0, 1) := by decide +kernel
theorem dX7_care_27 : decode cX7_care 27 = .ok (.iload_n 1, 1) := by decide +kernel
theorem dX7_care_28 : decode cX7_care 28 = .ok (.invokevirtual 179, 3) := by decide +kernel
theorem dX7_care_31 : decode cX7_care 31 = .ok (.istore_n 3, 1) := by decide +kernel
theorem dX7_care_32 : decode cX7_care 32 = .ok (.aload_n 0, 1) := by decide +kernel
theorem dX7_care_33 : decode cX7_care 33 = .ok (.getfield 176, 3) := by decide +kernel
theorem dX7_care_36 : decode cX7_care 36 = .ok (.ireturn, 1) := by decide +kernel
theorem dX7_holdsUp_0 : decode cX7_holdsUp 0 = .ok (.iload_n 1, 1) := by decide +kernel
theorem dX7_holdsUp_1 : decode cX7_holdsUp 1 = .ok (.invokestatic 135, 3) := by decide +kernel
theorem dX7_holdsUp_4 : decode cX7_holdsUp 4 = .ok (.ifCond .ne 9, 3) := by decide +kernel
theorem dX7_holdsUp_7 : decode cX7_holdsUp 7 = .ok (.aload_n 0, 1) := by decide +kernel
theorem dX7_holdsUp_8 : decode cX7_holdsUp 8 = .ok (.iconst (-1), 1) := by decide +kernel
theorem dX7_holdsUp_9 : decode cX7_holdsUp 9 = .ok (.invokevirtual 38, 3) := by decide +kernel
theorem dX7_holdsUp_12 : decode cX7_holdsUp 12 = .ok (.ireturn, 1) := by decide +kernel
theorem dX7_holdsUp_13 : decode cX7_holdsUp 13 = .ok (.aload_n 0, 1) := by decide +kernel
theorem dX7_holdsUp_14 : decode cX7_holdsUp 14 = .ok (.aload_n 0, 1) := by decide +kernel
theorem dX7_holdsUp_15 : decode cX7_holdsUp 15 = .ok (.getfield 9, 3) := by decide +kernel
theorem dX7_holdsUp_18 : decode cX7_holdsUp 18 = .ok (.iload_n 1, 1) := by decide +kernel
theorem dX7_holdsUp_19 : decode cX7_holdsUp 19 = .ok (.invokevirtual 105, 3) := by decide +kernel
theorem dX7_holdsUp_22 : decode cX7_holdsUp 22 = .ok (.istore_n 2, 1) := by decide +kernel
theorem dX7_holdsUp_23 : decode cX7_holdsUp 23 = .ok (.bipush (-9), 2) := by decide +kernel
theorem dX7_holdsUp_25 : decode cX7_holdsUp 25 = .ok (.istore_n 3, 1) := by decide +kernel
theorem dX7_holdsUp_26 : decode cX7_holdsUp 26 = .ok (.iconst 0, 1) := by decide +kernel
theorem dX7_holdsUp_27 : decode cX7_holdsUp 27 = .ok (.istore 4, 2) := by decide +kernel
theorem dX7_holdsUp_29 : decode cX7_holdsUp 29 = .ok (.iload 4, 2) := by decide +kernel
theorem dX7_holdsUp_31 : decode cX7_holdsUp 31 = .ok (.aload_n 0, 1) := by decide +kernel
theorem dX7_holdsUp_32 : decode cX7_holdsUp 32 = .ok (.getfield 9, 3) := by decide +kernel
theorem dX7_holdsUp_35 : decode cX7_holdsUp 35 = .ok (.iconst 0, 1) := by decide +kernel
theorem dX7_holdsUp_36 : decode cX7_holdsUp 36 = .ok (.iaload, 1) := by decide +kernel
theorem dX7_holdsUp_37 : decode cX7_holdsUp 37 = .ok (.if_icmp .ge 68, 3) := by decide +kernel
theorem dX7_holdsUp_40 : decode cX7_holdsUp 40 = .ok (.aload_n 0, 1) := by decide +kernel
theorem dX7_holdsUp_41 : decode cX7_holdsUp 41 = .ok (.getfield 9, 3) := by decide +kernel
theorem dX7_holdsUp_44 : decode cX7_holdsUp 44 = .ok (.aload_n 0, 1) := by decide +kernel
theorem dX7_holdsUp_45 : decode cX7_holdsUp 45 = .ok (.getfield 13, 3) := by decide +kernel
theorem dX7_holdsUp_48 : decode cX7_holdsUp 48 = .ok (.invokestatic 144, 3) := by decide +kernel
theorem dX7_holdsUp_51 : decode cX7_holdsUp 51 = .ok (.aload_n 0, 1) := by decide +kernel
theorem dX7_holdsUp_52 : decode cX7_holdsUp 52 = .ok (.getfield 13, 3) := by decide +kernel
theorem dX7_holdsUp_55 : decode cX7_holdsUp 55 = .ok (.bipush 8, 2) := by decide +kernel
theorem dX7_holdsUp_57 : decode cX7_holdsUp 57 = .ok (.iconst 2, 1) := by decide +kernel
theorem dX7_holdsUp_58 : decode cX7_holdsUp 58 = .ok (.iload 4, 2) := by decide +kernel
theorem dX7_holdsUp_60 : decode cX7_holdsUp 60 = .ok (.imul, 1) := by decide +kernel
theorem dX7_holdsUp_61 : decode cX7_holdsUp 61 = .ok (.iadd, 1) := by decide +kernel
theorem dX7_holdsUp_62 : decode cX7_holdsUp 62 = .ok (.iconst 0, 1) := by decide +kernel
theorem dX7_holdsUp_63 : decode cX7_holdsUp 63 = .ok (.iastore, 1) := by decide +kernel
theorem dX7_holdsUp_64 : decode cX7_holdsUp 64 = .ok (.aload_n 0, 1) := by decide +kernel
theorem dX7_holdsUp_65 : decode cX7_holdsUp 65 = .ok (.aload_n 0, 1) := by decide +kernel
theorem dX7_holdsUp_66 : decode cX7_holdsUp 66 = .ok (.getfield 13, 3) := by decide +kernel
theorem dX7_holdsUp_69 : decode cX7_holdsUp 69 = .ok (.iload_n 1, 1) := by decide +kernel
theorem dX7_holdsUp_70 : decode cX7_holdsUp 70 = .ok (.invokevirtual 105, 3) := by decide +kernel
theorem dX7_holdsUp_73 : decode cX7_holdsUp 73 = .ok (.istore 5, 2) := by decide +kernel
theorem dX7_holdsUp_75 : decode cX7_holdsUp 75 = .ok (.iload 5, 2) := by decide +kernel
theorem dX7_holdsUp_77 : decode cX7_holdsUp 77 = .ok (.ifCond .lt 22, 3) := by decide +kernel
theorem dX7_holdsUp_80 : decode cX7_holdsUp 80 = .ok (.iload_n 2, 1) := by decide +kernel
theorem dX7_holdsUp_81 : decode cX7_holdsUp 81 = .ok (.ifCond .lt 12, 3) := by decide +kernel
theorem dX7_holdsUp_84 : decode cX7_holdsUp 84 = .ok (.iload 5, 2) := by decide +kernel
theorem dX7_holdsUp_86 : decode cX7_holdsUp 86 = .ok (.iload_n 2, 1) := by decide +kernel
theorem dX7_holdsUp_87 : decode cX7_holdsUp 87 = .ok (.if_icmp .lt 6, 3) := by decide +kernel
theorem dX7_holdsUp_90 : decode cX7_holdsUp 90 = .ok (.goto 9, 3) := by decide +kernel
theorem dX7_holdsUp_93 : decode cX7_holdsUp 93 = .ok (.iload 4, 2) := by decide +kernel
theorem dX7_holdsUp_95 : decode cX7_holdsUp 95 = .ok (.istore_n 3, 1) := by decide +kernel
theorem dX7_holdsUp_96 : decode cX7_holdsUp 96 = .ok (.iload 5, 2) := by decide +kernel
theorem dX7_holdsUp_98 : decode cX7_holdsUp 98 = .ok (.istore_n 2, 1) := by decide +kernel
theorem dX7_holdsUp_99 : decode cX7_holdsUp 99 = .ok (.iinc 4 1, 3) := by decide +kernel
theorem dX7_holdsUp_102 : decode cX7_holdsUp 102 = .ok (.goto (-73), 3) := by decide +kernel
theorem dX7_holdsUp_105 : decode cX7_holdsUp 105 = .ok (.iload_n 3, 1) := by decide +kernel
theorem dX7_holdsUp_106 : decode cX7_holdsUp 106 = .ok (.ireturn, 1) := by decide +kernel
theorem dX7_middle_0 : decode cX7_middle 0 = .ok (.aload_n 0, 1) := by decide +kernel
theorem dX7_middle_1 : decode cX7_middle 1 = .ok (.getfield 9, 3) := by decide +kernel
theorem dX7_middle_4 : decode cX7_middle 4 = .ok (.iconst 1, 1) := by decide +kernel
theorem dX7_middle_5 : decode cX7_middle 5 = .ok (.iaload, 1) := by decide +kernel
theorem dX7_middle_6 : decode cX7_middle 6 = .ok (.aload_n 0, 1) := by decide +kernel
theorem dX7_middle_7 : decode cX7_middle 7 = .ok (.getfield 9, 3) := by decide +kernel
theorem dX7_middle_10 : decode cX7_middle 10 = .ok (.iconst 2, 1) := by decide +kernel
theorem dX7_middle_11 : decode cX7_middle 11 = .ok (.iaload, 1) := by decide +kernel
theorem dX7_middle_12 : decode cX7_middle 12 = .ok (.isub, 1) := by decide +kernel
theorem dX7_middle_13 : decode cX7_middle 13 = .ok (.iconst 2, 1) := by decide +kernel
theorem dX7_middle_14 : decode cX7_middle 14 = .ok (.idiv, 1) := by decide +kernel
theorem dX7_middle_15 : decode cX7_middle 15 = .ok (.istore_n 1, 1) := by decide +kernel
theorem dX7_middle_16 : decode cX7_middle 16 = .ok (.iload_n 1, 1) := by decide +kernel
theorem dX7_middle_17 : decode cX7_middle 17 = .ok (.ifCond .ne 5, 3) := by decide +kernel
theorem dX7_middle_20 : decode cX7_middle 20 = .ok (.iconst 0, 1) := by decide +kernel
theorem dX7_middle_21 : decode cX7_middle 21 = .ok (.ireturn, 1) := by decide +kernel
theorem dX7_middle_22 : decode cX7_middle 22 = .ok (.iload_n 1, 1) := by decide +kernel
theorem dX7_middle_23 : decode cX7_middle 23 = .ok (.ifCond .le 15, 3) := by decide +kernel
theorem dX7_middle_26 : decode cX7_middle 26 = .ok (.aload_n 0, 1) := by decide +kernel
theorem dX7_middle_27 : decode cX7_middle 27 = .ok (.getfield 9, 3) := by decide +kernel
theorem dX7_middle_30 : decode cX7_middle 30 = .ok (.iconst 0, 1) := by decide +kernel
theorem dX7_middle_31 : decode cX7_middle 31 = .ok (.iload_n 1, 1) := by decide +kernel
theorem dX7_middle_32 : decode cX7_middle 32 = .ok (.invokestatic 64, 3) := by decide +kernel
theorem dX7_middle_35 : decode cX7_middle 35 = .ok (.goto 13, 3) := by decide +kernel
theorem dX7_middle_38 : decode cX7_middle 38 = .ok (.aload_n 0, 1) := by decide +kernel
theorem dX7_middle_39 : decode cX7_middle 39 = .ok (.getfield 9, 3) := by decide +kernel
theorem dX7_middle_42 : decode cX7_middle 42 = .ok (.iconst 1, 1) := by decide +kernel
theorem dX7_middle_43 : decode cX7_middle 43 = .ok (.iload_n 1, 1) := by decide +kernel
theorem dX7_middle_44 : decode cX7_middle 44 = .ok (.ineg, 1) := by decide +kernel
theorem dX7_middle_45 : decode cX7_middle 45 = .ok (.invokestatic 64, 3) := by decide +kernel
theorem dX7_middle_48 : decode cX7_middle 48 = .ok (.istore_n 2, 1) := by decide +kernel
theorem dX7_middle_49 : decode cX7_middle 49 = .ok (.iload_n 2, 1) := by decide +kernel
theorem dX7_middle_50 : decode cX7_middle 50 = .ok (.iload_n 1, 1) := by decide +kernel
theorem dX7_middle_51 : decode cX7_middle 51 = .ok (.ifCond .le 7, 3) := by decide +kernel
theorem dX7_middle_54 : decode cX7_middle 54 = .ok (.iload_n 1, 1) := by decide +kernel
theorem dX7_middle_55 : decode cX7_middle 55 = .ok (.goto 5, 3) := by decide +kernel
theorem dX7_middle_58 : decode cX7_middle 58 = .ok (.iload_n 1, 1) := by decide +kernel
theorem dX7_middle_59 : decode cX7_middle 59 = .ok (.ineg, 1) := by decide +kernel
theorem dX7_middle_60 : decode cX7_middle 60 = .ok (.if_icmp .ne 7, 3) := by decide +kernel
theorem dX7_middle_63 : decode cX7_middle 63 = .ok (.iload_n 1, 1) := by decide +kernel
theorem dX7_middle_64 : decode cX7_middle 64 = .ok (.goto 5, 3) := by decide +kernel
theorem dX7_middle_67 : decode cX7_middle 67 = .ok (.bipush 99, 2) := by decide +kernel
theorem dX7_middle_69 : decode cX7_middle 69 = .ok (.ireturn, 1) := by decide +kernel
theorem dX7_cutOff_0 : decode cX7_cutOff 0 = .ok (.iconst 0, 1) := by decide +kernel
theorem dX7_cutOff_1 : decode cX7_cutOff 1 = .ok (.aload_n 0, 1) := by decide +kernel
theorem dX7_cutOff_2 : decode cX7_cutOff 2 = .ok (.getfield 9, 3) := by decide +kernel
theorem dX7_cutOff_5 : decode cX7_cutOff 5 = .ok (.iconst 1, 1) := by decide +kernel
theorem dX7_cutOff_6 : decode cX7_cutOff 6 = .ok (.iaload, 1) := by decide +kernel
theorem dX7_cutOff_7 : decode cX7_cutOff 7 = .ok (.aload_n 0, 1) := by decide +kernel
theorem dX7_cutOff_8 : decode cX7_cutOff 8 = .ok (.getfield 9, 3) := by decide +kernel
theorem dX7_cutOff_11 : decode cX7_cutOff 11 = .ok (.iconst 2, 1) := by decide +kernel
theorem dX7_cutOff_12 : decode cX7_cutOff 12 = .ok (.iaload, 1) := by decide +kernel
theorem dX7_cutOff_13 : decode cX7_cutOff 13 = .ok (.iadd, 1) := by decide +kernel
theorem dX7_cutOff_14 : decode cX7_cutOff 14 = .ok (.ineg, 1) := by decide +kernel
theorem dX7_cutOff_15 : decode cX7_cutOff 15 = .ok (.invokestatic 61, 3) := by decide +kernel
theorem dX7_cutOff_18 : decode cX7_cutOff 18 = .ok (.ireturn, 1) := by decide +kernel
theorem dX7_bestPin_0 : decode cX7_bestPin 0 = .ok (.iload_n 1, 1) := by decide +kernel
theorem dX7_bestPin_1 : decode cX7_bestPin 1 = .ok (.invokestatic 173, 3) := by decide +kernel
theorem dX7_bestPin_4 : decode cX7_bestPin 4 = .ok (.istore_n 2, 1) := by decide +kernel
theorem dX7_bestPin_5 : decode cX7_bestPin 5 = .ok (.iload_n 2, 1) := by decide +kernel
theorem dX7_bestPin_6 : decode cX7_bestPin 6 = .ok (.ifCond .eq 9, 3) := by decide +kernel
theorem dX7_bestPin_9 : decode cX7_bestPin 9 = .ok (.aload_n 0, 1) := by decide +kernel
theorem dX7_bestPin_10 : decode cX7_bestPin 10 = .ok (.iload_n 2, 1) := by decide +kernel
theorem dX7_bestPin_11 : decode cX7_bestPin 11 = .ok (.invokevirtual 38, 3) := by decide +kernel
theorem dX7_bestPin_14 : decode cX7_bestPin 14 = .ok (.ireturn, 1) := by decide +kernel
theorem dX7_bestPin_15 : decode cX7_bestPin 15 = .ok (.aload_n 0, 1) := by decide +kernel
theorem dX7_bestPin_16 : decode cX7_bestPin 16 = .ok (.getfield 9, 3) := by decide +kernel
theorem dX7_bestPin_19 : decode cX7_bestPin 19 = .ok (.aload_n 0, 1) := by decide +kernel
theorem dX7_bestPin_20 : decode cX7_bestPin 20 = .ok (.getfield 13, 3) := by decide +kernel
theorem dX7_bestPin_23 : decode cX7_bestPin 23 = .ok (.invokestatic 144, 3) := by decide +kernel
theorem dX7_bestPin_26 : decode cX7_bestPin 26 = .ok (.iconst 1, 1) := by decide +kernel
theorem dX7_bestPin_27 : decode cX7_bestPin 27 = .ok (.istore_n 3, 1) := by decide +kernel
theorem dX7_bestPin_28 : decode cX7_bestPin 28 = .ok (.iload_n 3, 1) := by decide +kernel
theorem dX7_bestPin_29 : decode cX7_bestPin 29 = .ok (.bipush 10, 2) := by decide +kernel
theorem dX7_bestPin_31 : decode cX7_bestPin 31 = .ok (.if_icmp .ge 30, 3) := by decide +kernel
theorem dX7_bestPin_34 : decode cX7_bestPin 34 = .ok (.aload_n 0, 1) := by decide +kernel
theorem dX7_bestPin_35 : decode cX7_bestPin 35 = .ok (.getfield 13, 3) := by decide +kernel
theorem dX7_bestPin_38 : decode cX7_bestPin 38 = .ok (.bipush 6, 2) := by decide +kernel
theorem dX7_bestPin_40 : decode cX7_bestPin 40 = .ok (.iload_n 3, 1) := by decide +kernel
theorem dX7_bestPin_41 : decode cX7_bestPin 41 = .ok (.iastore, 1) := by decide +kernel
theorem dX7_bestPin_42 : decode cX7_bestPin 42 = .ok (.aload_n 0, 1) := by decide +kernel
theorem dX7_bestPin_43 : decode cX7_bestPin 43 = .ok (.getfield 13, 3) := by decide +kernel
theorem dX7_bestPin_46 : decode cX7_bestPin 46 = .ok (.invokestatic 158, 3) := by decide +kernel
theorem dX7_bestPin_49 : decode cX7_bestPin 49 = .ok (.iload_n 1, 1) := by decide +kernel
theorem dX7_bestPin_50 : decode cX7_bestPin 50 = .ok (.if_icmp .gt 5, 3) := by decide +kernel
theorem dX7_bestPin_53 : decode cX7_bestPin 53 = .ok (.iload_n 3, 1) := by decide +kernel
theorem dX7_bestPin_54 : decode cX7_bestPin 54 = .ok (.ireturn, 1) := by decide +kernel
theorem dX7_bestPin_55 : decode cX7_bestPin 55 = .ok (.iinc 3 1, 3) := by decide +kernel
theorem dX7_bestPin_58 : decode cX7_bestPin 58 = .ok (.goto (-30), 3) := by decide +kernel
theorem dX7_bestPin_61 : decode cX7_bestPin 61 = .ok (.bipush (-9), 2) := by decide +kernel
theorem dX7_bestPin_63 : decode cX7_bestPin 63 = .ok (.ireturn, 1) := by decide +kernel
theorem dX7_worst_0 : decode cX7_worst 0 = .ok (.iconst 0, 1) := by decide +kernel
theorem dX7_worst_1 : decode cX7_worst 1 = .ok (.istore_n 1, 1) := by decide +kernel
theorem dX7_worst_2 : decode cX7_worst 2 = .ok (.iconst 1, 1) := by decide +kernel
theorem dX7_worst_3 : decode cX7_worst 3 = .ok (.istore_n 2, 1) := by decide +kernel
theorem dX7_worst_4 : decode cX7_worst 4 = .ok (.iload_n 2, 1) := by decide +kernel
theorem dX7_worst_5 : decode cX7_worst 5 = .ok (.aload_n 0, 1) := by decide +kernel
theorem dX7_worst_6 : decode cX7_worst 6 = .ok (.getfield 9, 3) := by decide +kernel
theorem dX7_worst_9 : decode cX7_worst 9 = .ok (.iconst 0, 1) := by decide +kernel
theorem dX7_worst_10 : decode cX7_worst 10 = .ok (.iaload, 1) := by decide +kernel
theorem dX7_worst_11 : decode cX7_worst 11 = .ok (.if_icmp .ge 30, 3) := by decide +kernel
theorem dX7_worst_14 : decode cX7_worst 14 = .ok (.aload_n 0, 1) := by decide +kernel
theorem dX7_worst_15 : decode cX7_worst 15 = .ok (.getfield 9, 3) := by decide +kernel
theorem dX7_worst_18 : decode cX7_worst 18 = .ok (.iload_n 2, 1) := by decide +kernel
theorem dX7_worst_19 : decode cX7_worst 19 = .ok (.invokestatic 84, 3) := by decide +kernel
theorem dX7_worst_22 : decode cX7_worst 22 = .ok (.aload_n 0, 1) := by decide +kernel
theorem dX7_worst_23 : decode cX7_worst 23 = .ok (.getfield 9, 3) := by decide +kernel
theorem dX7_worst_26 : decode cX7_worst 26 = .ok (.iload_n 1, 1) := by decide +kernel
theorem dX7_worst_27 : decode cX7_worst 27 = .ok (.invokestatic 84, 3) := by decide +kernel
theorem dX7_worst_30 : decode cX7_worst 30 = .ok (.if_icmp .le 5, 3) := by decide +kernel
theorem dX7_worst_33 : decode cX7_worst 33 = .ok (.iload_n 2, 1) := by decide +kernel
theorem dX7_worst_34 : decode cX7_worst 34 = .ok (.istore_n 1, 1) := by decide +kernel
theorem dX7_worst_35 : decode cX7_worst 35 = .ok (.iinc 2 1, 3) := by decide +kernel
theorem dX7_worst_38 : decode cX7_worst 38 = .ok (.goto (-34), 3) := by decide +kernel
theorem dX7_worst_41 : decode cX7_worst 41 = .ok (.iload_n 1, 1) := by decide +kernel
theorem dX7_worst_42 : decode cX7_worst 42 = .ok (.ireturn, 1) := by decide +kernel
theorem dX7_row_0 : decode cX7_row 0 = .ok (.iload_n 1, 1) := by decide +kernel
theorem dX7_row_1 : decode cX7_row 1 = .ok (.ifCond .ge 10, 3) := by decide +kernel
theorem dX7_row_4 : decode cX7_row 4 = .ok (.aload_n 0, 1) := by decide +kernel
theorem dX7_row_5 : decode cX7_row 5 = .ok (.bipush (-4), 2) := by decide +kernel
theorem dX7_row_7 : decode cX7_row 7 = .ok (.invokevirtual 38, 3) := by decide +kernel
theorem dX7_row_10 : decode cX7_row 10 = .ok (.ireturn, 1) := by decide +kernel
theorem dX7_row_11 : decode cX7_row 11 = .ok (.iload_n 1, 1) := by decide +kernel
theorem dX7_row_12 : decode cX7_row 12 = .ok (.bipush 99, 2) := by decide +kernel
theorem dX7_row_14 : decode cX7_row 14 = .ok (.if_icmp .gt 12, 3) := by decide +kernel
theorem dX7_row_17 : decode cX7_row 17 = .ok (.aload_n 0, 1) := by decide +kernel
theorem dX7_row_18 : decode cX7_row 18 = .ok (.getfield 182, 3) := by decide +kernel
theorem dX7_row_21 : decode cX7_row 21 = .ok (.bipush 12, 2) := by decide +kernel
theorem dX7_row_23 : decode cX7_row 23 = .ok (.if_icmp .ne 10, 3) := by decide +kernel
theorem dX7_row_26 : decode cX7_row 26 = .ok (.aload_n 0, 1) := by decide +kernel
theorem dX7_row_27 : decode cX7_row 27 = .ok (.bipush (-6), 2) := by decide +kernel
theorem dX7_row_29 : decode cX7_row 29 = .ok (.invokevirtual 38, 3) := by decide +kernel
theorem dX7_row_32 : decode cX7_row 32 = .ok (.ireturn, 1) := by decide +kernel
theorem dX7_row_33 : decode cX7_row 33 = .ok (.aload_n 0, 1) := by decide +kernel
theorem dX7_row_34 : decode cX7_row 34 = .ok (.getfield 25, 3) := by decide +kernel
theorem dX7_row_37 : decode cX7_row 37 = .ok (.aload_n 0, 1) := by decide +kernel
theorem dX7_row_38 : decode cX7_row 38 = .ok (.getfield 182, 3) := by decide +kernel
theorem dX7_row_41 : decode cX7_row 41 = .ok (.iload_n 1, 1) := by decide +kernel
theorem dX7_row_42 : decode cX7_row 42 = .ok (.iastore, 1) := by decide +kernel
theorem dX7_row_43 : decode cX7_row 43 = .ok (.aload_n 0, 1) := by decide +kernel
theorem dX7_row_44 : decode cX7_row 44 = .ok (.dup, 1) := by decide +kernel
theorem dX7_row_45 : decode cX7_row 45 = .ok (.getfield 182, 3) := by decide +kernel
theorem dX7_row_48 : decode cX7_row 48 = .ok (.iconst 1, 1) := by decide +kernel
theorem dX7_row_49 : decode cX7_row 49 = .ok (.iadd, 1) := by decide +kernel
theorem dX7_row_50 : decode cX7_row 50 = .ok (.putfield 182, 3) := by decide +kernel
theorem dX7_row_53 : decode cX7_row 53 = .ok (.aload_n 0, 1) := by decide +kernel
theorem dX7_row_54 : decode cX7_row 54 = .ok (.getfield 182, 3) := by decide +kernel
theorem dX7_row_57 : decode cX7_row 57 = .ok (.ireturn, 1) := by decide +kernel
theorem dX7_firstWrong_0 : decode cX7_firstWrong 0 = .ok (.iconst 0, 1) := by decide +kernel
theorem dX7_firstWrong_1 : decode cX7_firstWrong 1 = .ok (.istore_n 3, 1) := by decide +kernel
theorem dX7_firstWrong_2 : decode cX7_firstWrong 2 = .ok (.iload_n 3, 1) := by decide +kernel
theorem dX7_firstWrong_3 : decode cX7_firstWrong 3 = .ok (.iload_n 2, 1) := by decide +kernel
theorem dX7_firstWrong_4 : decode cX7_firstWrong 4 = .ok (.if_icmp .ge 48, 3) := by decide +kernel
theorem dX7_firstWrong_7 : decode cX7_firstWrong 7 = .ok (.iload_n 3, 1) := by decide +kernel
theorem dX7_firstWrong_8 : decode cX7_firstWrong 8 = .ok (.ifCond .le 13, 3) := by decide +kernel
theorem dX7_firstWrong_11 : decode cX7_firstWrong 11 = .ok (.aload_n 0, 1) := by decide +kernel
theorem dX7_firstWrong_12 : decode cX7_firstWrong 12 = .ok (.getfield 13, 3) := by decide +kernel
theorem dX7_firstWrong_15 : decode cX7_firstWrong 15 = .ok (.invokestatic 77, 3) := by decide +kernel
theorem dX7_firstWrong_18 : decode cX7_firstWrong 18 = .ok (.goto 4, 3) := by decide +kernel
theorem dX7_firstWrong_21 : decode cX7_firstWrong 21 = .ok (.iconst 0, 1) := by decide +kernel
theorem dX7_firstWrong_22 : decode cX7_firstWrong 22 = .ok (.istore 4, 2) := by decide +kernel
theorem dX7_firstWrong_24 : decode cX7_firstWrong 24 = .ok (.aload_n 0, 1) := by decide +kernel
theorem dX7_firstWrong_25 : decode cX7_firstWrong 25 = .ok (.getfield 13, 3) := by decide +kernel
theorem dX7_firstWrong_28 : decode cX7_firstWrong 28 = .ok (.iconst 1, 1) := by decide +kernel
theorem dX7_firstWrong_29 : decode cX7_firstWrong 29 = .ok (.iload_n 1, 1) := by decide +kernel
theorem dX7_firstWrong_30 : decode cX7_firstWrong 30 = .ok (.iadd, 1) := by decide +kernel
theorem dX7_firstWrong_31 : decode cX7_firstWrong 31 = .ok (.iaload, 1) := by decide +kernel
theorem dX7_firstWrong_32 : decode cX7_firstWrong 32 = .ok (.bipush 50, 2) := by decide +kernel
theorem dX7_firstWrong_34 : decode cX7_firstWrong 34 = .ok (.iadd, 1) := by decide +kernel
theorem dX7_firstWrong_35 : decode cX7_firstWrong 35 = .ok (.aload_n 0, 1) := by decide +kernel
theorem dX7_firstWrong_36 : decode cX7_firstWrong 36 = .ok (.getfield 25, 3) := by decide +kernel
theorem dX7_firstWrong_39 : decode cX7_firstWrong 39 = .ok (.iload_n 3, 1) := by decide +kernel
theorem dX7_firstWrong_40 : decode cX7_firstWrong 40 = .ok (.iaload, 1) := by decide +kernel
theorem dX7_firstWrong_41 : decode cX7_firstWrong 41 = .ok (.if_icmp .eq 5, 3) := by decide +kernel
theorem dX7_firstWrong_44 : decode cX7_firstWrong 44 = .ok (.iload_n 3, 1) := by decide +kernel
theorem dX7_firstWrong_45 : decode cX7_firstWrong 45 = .ok (.ireturn, 1) := by decide +kernel
theorem dX7_firstWrong_46 : decode cX7_firstWrong 46 = .ok (.iinc 3 1, 3) := by decide +kernel
theorem dX7_firstWrong_49 : decode cX7_firstWrong 49 = .ok (.goto (-47), 3) := by decide +kernel
theorem dX7_firstWrong_52 : decode cX7_firstWrong 52 = .ok (.bipush (-9), 2) := by decide +kernel
theorem dX7_firstWrong_54 : decode cX7_firstWrong 54 = .ok (.ireturn, 1) := by decide +kernel
theorem dX7_which_0 : decode cX7_which 0 = .ok (.aload_n 0, 1) := by decide +kernel
theorem dX7_which_1 : decode cX7_which 1 = .ok (.iload_n 1, 1) := by decide +kernel
theorem dX7_which_2 : decode cX7_which 2 = .ok (.invokevirtual 132, 3) := by decide +kernel
theorem dX7_which_5 : decode cX7_which 5 = .ok (.ifCond .ne 9, 3) := by decide +kernel
theorem dX7_which_8 : decode cX7_which 8 = .ok (.aload_n 0, 1) := by decide +kernel
theorem dX7_which_9 : decode cX7_which 9 = .ok (.iconst (-1), 1) := by decide +kernel
theorem dX7_which_10 : decode cX7_which 10 = .ok (.invokevirtual 38, 3) := by decide +kernel
theorem dX7_which_13 : decode cX7_which 13 = .ok (.ireturn, 1) := by decide +kernel
theorem dX7_which_14 : decode cX7_which 14 = .ok (.iload_n 2, 1) := by decide +kernel
theorem dX7_which_15 : decode cX7_which 15 = .ok (.iconst 0, 1) := by decide +kernel
theorem dX7_which_16 : decode cX7_which 16 = .ok (.iconst 1, 1) := by decide +kernel
theorem dX7_which_17 : decode cX7_which 17 = .ok (.invokestatic 42, 3) := by decide +kernel
theorem dX7_which_20 : decode cX7_which 20 = .ok (.ifCond .ne 10, 3) := by decide +kernel
theorem dX7_which_23 : decode cX7_which 23 = .ok (.aload_n 0, 1) := by decide +kernel
theorem dX7_which_24 : decode cX7_which 24 = .ok (.bipush (-2), 2) := by decide +kernel
theorem dX7_which_26 : decode cX7_which 26 = .ok (.invokevirtual 38, 3) := by decide +kernel
theorem dX7_which_29 : decode cX7_which 29 = .ok (.ireturn, 1) := by decide +kernel
theorem dX7_which_30 : decode cX7_which 30 = .ok (.iconst 0, 1) := by decide +kernel
theorem dX7_which_31 : decode cX7_which 31 = .ok (.istore_n 3, 1) := by decide +kernel
theorem dX7_which_32 : decode cX7_which 32 = .ok (.iconst 0, 1) := by decide +kernel
theorem dX7_which_33 : decode cX7_which 33 = .ok (.istore 4, 2) := by decide +kernel
theorem dX7_which_35 : decode cX7_which 35 = .ok (.iload 4, 2) := by decide +kernel
theorem dX7_which_37 : decode cX7_which 37 = .ok (.iload_n 2, 1) := by decide +kernel
theorem dX7_which_38 : decode cX7_which 38 = .ok (.ifCond .ne 8, 3) := by decide +kernel
theorem dX7_which_41 : decode cX7_which 41 = .ok (.bipush 6, 2) := by decide +kernel
theorem dX7_which_43 : decode cX7_which 43 = .ok (.goto 5, 3) := by decide +kernel
theorem dX7_which_46 : decode cX7_which 46 = .ok (.bipush 10, 2) := by decide +kernel
theorem dX7_which_48 : decode cX7_which 48 = .ok (.if_icmp .ge 72, 3) := by decide +kernel
theorem dX7_which_51 : decode cX7_which 51 = .ok (.aload_n 0, 1) := by decide +kernel
theorem dX7_which_52 : decode cX7_which 52 = .ok (.getfield 9, 3) := by decide +kernel
theorem dX7_which_55 : decode cX7_which 55 = .ok (.aload_n 0, 1) := by decide +kernel
theorem dX7_which_56 : decode cX7_which 56 = .ok (.getfield 13, 3) := by decide +kernel
theorem dX7_which_59 : decode cX7_which 59 = .ok (.invokestatic 144, 3) := by decide +kernel
theorem dX7_which_62 : decode cX7_which 62 = .ok (.iload_n 2, 1) := by decide +kernel
theorem dX7_which_63 : decode cX7_which 63 = .ok (.ifCond .ne 19, 3) := by decide +kernel
theorem dX7_which_66 : decode cX7_which 66 = .ok (.aload_n 0, 1) := by decide +kernel
theorem dX7_which_67 : decode cX7_which 67 = .ok (.getfield 13, 3) := by decide +kernel
theorem dX7_which_70 : decode cX7_which 70 = .ok (.bipush 8, 2) := by decide +kernel
theorem dX7_which_72 : decode cX7_which 72 = .ok (.iconst 2, 1) := by decide +kernel
theorem dX7_which_73 : decode cX7_which 73 = .ok (.iload_n 1, 1) := by decide +kernel
theorem dX7_which_74 : decode cX7_which 74 = .ok (.imul, 1) := by decide +kernel
theorem dX7_which_75 : decode cX7_which 75 = .ok (.iadd, 1) := by decide +kernel
theorem dX7_which_76 : decode cX7_which 76 = .ok (.iload 4, 2) := by decide +kernel
theorem dX7_which_78 : decode cX7_which 78 = .ok (.iastore, 1) := by decide +kernel
theorem dX7_which_79 : decode cX7_which 79 = .ok (.goto 12, 3) := by decide +kernel
theorem dX7_which_82 : decode cX7_which 82 = .ok (.aload_n 0, 1) := by decide +kernel
theorem dX7_which_83 : decode cX7_which 83 = .ok (.getfield 13, 3) := by decide +kernel
theorem dX7_which_86 : decode cX7_which 86 = .ok (.bipush 7, 2) := by decide +kernel
theorem dX7_which_88 : decode cX7_which 88 = .ok (.iload 4, 2) := by decide +kernel
theorem dX7_which_90 : decode cX7_which 90 = .ok (.iastore, 1) := by decide +kernel
theorem dX7_which_91 : decode cX7_which 91 = .ok (.iload_n 3, 1) := by decide +kernel
theorem dX7_which_92 : decode cX7_which 92 = .ok (.aload_n 0, 1) := by decide +kernel
theorem dX7_which_93 : decode cX7_which 93 = .ok (.iconst 0, 1) := by decide +kernel
theorem dX7_which_94 : decode cX7_which 94 = .ok (.aload_n 0, 1) := by decide +kernel
theorem dX7_which_95 : decode cX7_which 95 = .ok (.getfield 182, 3) := by decide +kernel
theorem dX7_which_98 : decode cX7_which 98 = .ok (.invokevirtual 185, 3) := by decide +kernel
theorem dX7_which_101 : decode cX7_which 101 = .ok (.ifCond .ge 10, 3) := by decide +kernel
theorem dX7_which_104 : decode cX7_which 104 = .ok (.iconst 1, 1) := by decide +kernel
theorem dX7_which_105 : decode cX7_which 105 = .ok (.iload 4, 2) := by decide +kernel
theorem dX7_which_107 : decode cX7_which 107 = .ok (.ishl, 1) := by decide +kernel
theorem dX7_which_108 : decode cX7_which 108 = .ok (.goto 4, 3) := by decide +kernel
theorem dX7_which_111 : decode cX7_which 111 = .ok (.iconst 0, 1) := by decide +kernel
theorem dX7_which_112 : decode cX7_which 112 = .ok (.ior, 1) := by decide +kernel
theorem dX7_which_113 : decode cX7_which 113 = .ok (.istore_n 3, 1) := by decide +kernel
theorem dX7_which_114 : decode cX7_which 114 = .ok (.iinc 4 1, 3) := by decide +kernel
theorem dX7_which_117 : decode cX7_which 117 = .ok (.goto (-82), 3) := by decide +kernel
theorem dX7_which_120 : decode cX7_which 120 = .ok (.iload_n 3, 1) := by decide +kernel
theorem dX7_which_121 : decode cX7_which 121 = .ok (.ireturn, 1) := by decide +kernel
theorem dX7_judge_0 : decode cX7_judge 0 = .ok (.iload_n 1, 1) := by decide +kernel
theorem dX7_judge_1 : decode cX7_judge 1 = .ok (.invokestatic 135, 3) := by decide +kernel
theorem dX7_judge_4 : decode cX7_judge 4 = .ok (.ifCond .ne 9, 3) := by decide +kernel
theorem dX7_judge_7 : decode cX7_judge 7 = .ok (.aload_n 0, 1) := by decide +kernel
theorem dX7_judge_8 : decode cX7_judge 8 = .ok (.iconst (-1), 1) := by decide +kernel
theorem dX7_judge_9 : decode cX7_judge 9 = .ok (.invokevirtual 38, 3) := by decide +kernel
theorem dX7_judge_12 : decode cX7_judge 12 = .ok (.ireturn, 1) := by decide +kernel
theorem dX7_judge_13 : decode cX7_judge 13 = .ok (.aload_n 0, 1) := by decide +kernel
theorem dX7_judge_14 : decode cX7_judge 14 = .ok (.getfield 182, 3) := by decide +kernel
theorem dX7_judge_17 : decode cX7_judge 17 = .ok (.istore_n 2, 1) := by decide +kernel
theorem dX7_judge_18 : decode cX7_judge 18 = .ok (.aload_n 0, 1) := by decide +kernel
theorem dX7_judge_19 : decode cX7_judge 19 = .ok (.iconst 0, 1) := by decide +kernel
theorem dX7_judge_20 : decode cX7_judge 20 = .ok (.putfield 182, 3) := by decide +kernel
theorem dX7_judge_23 : decode cX7_judge 23 = .ok (.aload_n 0, 1) := by decide +kernel
theorem dX7_judge_24 : decode cX7_judge 24 = .ok (.getfield 9, 3) := by decide +kernel
theorem dX7_judge_27 : decode cX7_judge 27 = .ok (.aload_n 0, 1) := by decide +kernel
theorem dX7_judge_28 : decode cX7_judge 28 = .ok (.getfield 13, 3) := by decide +kernel
theorem dX7_judge_31 : decode cX7_judge 31 = .ok (.invokestatic 144, 3) := by decide +kernel
theorem dX7_judge_34 : decode cX7_judge 34 = .ok (.aload_n 0, 1) := by decide +kernel
theorem dX7_judge_35 : decode cX7_judge 35 = .ok (.iload_n 1, 1) := by decide +kernel
theorem dX7_judge_36 : decode cX7_judge 36 = .ok (.iload_n 2, 1) := by decide +kernel
theorem dX7_judge_37 : decode cX7_judge 37 = .ok (.invokevirtual 185, 3) := by decide +kernel
theorem dX7_judge_40 : decode cX7_judge 40 = .ok (.ireturn, 1) := by decide +kernel
theorem dX7_drawn_0 : decode cX7_drawn 0 = .ok (.aload_n 0, 1) := by decide +kernel
theorem dX7_drawn_1 : decode cX7_drawn 1 = .ok (.aload_n 0, 1) := by decide +kernel
theorem dX7_drawn_2 : decode cX7_drawn 2 = .ok (.getfield 188, 3) := by decide +kernel
theorem dX7_drawn_5 : decode cX7_drawn 5 = .ok (.ldc 191, 2) := by decide +kernel
theorem dX7_drawn_7 : decode cX7_drawn 7 = .ok (.imul, 1) := by decide +kernel
theorem dX7_drawn_8 : decode cX7_drawn 8 = .ok (.ldc 192, 2) := by decide +kernel
theorem dX7_drawn_10 : decode cX7_drawn 10 = .ok (.iadd, 1) := by decide +kernel
theorem dX7_drawn_11 : decode cX7_drawn 11 = .ok (.putfield 188, 3) := by decide +kernel
theorem dX7_drawn_14 : decode cX7_drawn 14 = .ok (.aload_n 0, 1) := by decide +kernel
theorem dX7_drawn_15 : decode cX7_drawn 15 = .ok (.getfield 188, 3) := by decide +kernel
theorem dX7_drawn_18 : decode cX7_drawn 18 = .ok (.ldc 193, 2) := by decide +kernel
theorem dX7_drawn_20 : decode cX7_drawn 20 = .ok (.iand, 1) := by decide +kernel
theorem dX7_drawn_21 : decode cX7_drawn 21 = .ok (.sipush 256, 3) := by decide +kernel
theorem dX7_drawn_24 : decode cX7_drawn 24 = .ok (.idiv, 1) := by decide +kernel
theorem dX7_drawn_25 : decode cX7_drawn 25 = .ok (.iload_n 1, 1) := by decide +kernel
theorem dX7_drawn_26 : decode cX7_drawn 26 = .ok (.irem, 1) := by decide +kernel
theorem dX7_drawn_27 : decode cX7_drawn 27 = .ok (.ireturn, 1) := by decide +kernel
theorem dX7_lots_0 : decode cX7_lots 0 = .ok (.iload_n 1, 1) := by decide +kernel
theorem dX7_lots_1 : decode cX7_lots 1 = .ok (.iconst 1, 1) := by decide +kernel
theorem dX7_lots_2 : decode cX7_lots 2 = .ok (.if_icmp .ge 10, 3) := by decide +kernel
theorem dX7_lots_5 : decode cX7_lots 5 = .ok (.aload_n 0, 1) := by decide +kernel
theorem dX7_lots_6 : decode cX7_lots 6 = .ok (.bipush (-4), 2) := by decide +kernel
theorem dX7_lots_8 : decode cX7_lots 8 = .ok (.invokevirtual 38, 3) := by decide +kernel
theorem dX7_lots_11 : decode cX7_lots 11 = .ok (.ireturn, 1) := by decide +kernel
theorem dX7_lots_12 : decode cX7_lots 12 = .ok (.iload_n 1, 1) := by decide +kernel
theorem dX7_lots_13 : decode cX7_lots 13 = .ok (.bipush 20, 2) := by decide +kernel
theorem dX7_lots_15 : decode cX7_lots 15 = .ok (.if_icmp .le 10, 3) := by decide +kernel
theorem dX7_lots_18 : decode cX7_lots 18 = .ok (.aload_n 0, 1) := by decide +kernel
theorem dX7_lots_19 : decode cX7_lots 19 = .ok (.bipush (-6), 2) := by decide +kernel
theorem dX7_lots_21 : decode cX7_lots 21 = .ok (.invokevirtual 38, 3) := by decide +kernel
theorem dX7_lots_24 : decode cX7_lots 24 = .ok (.ireturn, 1) := by decide +kernel
theorem dX7_lots_25 : decode cX7_lots 25 = .ok (.iload_n 3, 1) := by decide +kernel
theorem dX7_lots_26 : decode cX7_lots 26 = .ok (.iconst 0, 1) := by decide +kernel
theorem dX7_lots_27 : decode cX7_lots 27 = .ok (.iconst 1, 1) := by decide +kernel
theorem dX7_lots_28 : decode cX7_lots 28 = .ok (.invokestatic 42, 3) := by decide +kernel
theorem dX7_lots_31 : decode cX7_lots 31 = .ok (.ifCond .ne 10, 3) := by decide +kernel
theorem dX7_lots_34 : decode cX7_lots 34 = .ok (.aload_n 0, 1) := by decide +kernel
theorem dX7_lots_35 : decode cX7_lots 35 = .ok (.bipush (-2), 2) := by decide +kernel
theorem dX7_lots_37 : decode cX7_lots 37 = .ok (.invokevirtual 38, 3) := by decide +kernel
theorem dX7_lots_40 : decode cX7_lots 40 = .ok (.ireturn, 1) := by decide +kernel
theorem dX7_lots_41 : decode cX7_lots 41 = .ok (.aload_n 0, 1) := by decide +kernel
theorem dX7_lots_42 : decode cX7_lots 42 = .ok (.iload_n 2, 1) := by decide +kernel
theorem dX7_lots_43 : decode cX7_lots 43 = .ok (.putfield 188, 3) := by decide +kernel
theorem dX7_lots_46 : decode cX7_lots 46 = .ok (.iconst 0, 1) := by decide +kernel
theorem dX7_lots_47 : decode cX7_lots 47 = .ok (.istore 4, 2) := by decide +kernel
theorem dX7_lots_49 : decode cX7_lots 49 = .ok (.iconst 0, 1) := by decide +kernel
theorem dX7_lots_50 : decode cX7_lots 50 = .ok (.istore 5, 2) := by decide +kernel
theorem dX7_lots_52 : decode cX7_lots 52 = .ok (.iload 5, 2) := by decide +kernel
theorem dX7_lots_54 : decode cX7_lots 54 = .ok (.iload_n 1, 1) := by decide +kernel
theorem dX7_lots_55 : decode cX7_lots 55 = .ok (.if_icmp .ge 119, 3) := by decide +kernel
theorem dX7_lots_58 : decode cX7_lots 58 = .ok (.aload_n 0, 1) := by decide +kernel
theorem dX7_lots_59 : decode cX7_lots 59 = .ok (.getfield 9, 3) := by decide +kernel
theorem dX7_lots_62 : decode cX7_lots 62 = .ok (.aload_n 0, 1) := by decide +kernel
theorem dX7_lots_63 : decode cX7_lots 63 = .ok (.getfield 13, 3) := by decide +kernel
theorem dX7_lots_66 : decode cX7_lots 66 = .ok (.invokestatic 144, 3) := by decide +kernel
theorem dX7_lots_69 : decode cX7_lots 69 = .ok (.aload_n 0, 1) := by decide +kernel
theorem dX7_lots_70 : decode cX7_lots 70 = .ok (.getfield 13, 3) := by decide +kernel
theorem dX7_lots_73 : decode cX7_lots 73 = .ok (.bipush 7, 2) := by decide +kernel
theorem dX7_lots_75 : decode cX7_lots 75 = .ok (.aload_n 0, 1) := by decide +kernel
theorem dX7_lots_76 : decode cX7_lots 76 = .ok (.bipush 10, 2) := by decide +kernel
theorem dX7_lots_78 : decode cX7_lots 78 = .ok (.invokevirtual 194, 3) := by decide +kernel
theorem dX7_lots_81 : decode cX7_lots 81 = .ok (.iastore, 1) := by decide +kernel
theorem dX7_lots_82 : decode cX7_lots 82 = .ok (.aload_n 0, 1) := by decide +kernel
theorem dX7_lots_83 : decode cX7_lots 83 = .ok (.getfield 13, 3) := by decide +kernel
theorem dX7_lots_86 : decode cX7_lots 86 = .ok (.bipush 10, 2) := by decide +kernel
theorem dX7_lots_88 : decode cX7_lots 88 = .ok (.invokestatic 138, 3) := by decide +kernel
theorem dX7_lots_91 : decode cX7_lots 91 = .ok (.iload_n 3, 1) := by decide +kernel
theorem dX7_lots_92 : decode cX7_lots 92 = .ok (.ifCond .ne 23, 3) := by decide +kernel
theorem dX7_lots_95 : decode cX7_lots 95 = .ok (.iload 4, 2) := by decide +kernel
theorem dX7_lots_97 : decode cX7_lots 97 = .ok (.aload_n 0, 1) := by decide +kernel
theorem dX7_lots_98 : decode cX7_lots 98 = .ok (.getfield 13, 3) := by decide +kernel
