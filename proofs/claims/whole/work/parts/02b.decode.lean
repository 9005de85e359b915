theorem dX6_sew_11 : decode cX6_sew 11 = .ok (.ifCond .ne 7, 3) := by decide +kernel
theorem dX6_sew_14 : decode cX6_sew 14 = .ok (.iconst 1, 1) := by decide +kernel
theorem dX6_sew_15 : decode cX6_sew 15 = .ok (.goto 4, 3) := by decide +kernel
theorem dX6_sew_18 : decode cX6_sew 18 = .ok (.iconst 0, 1) := by decide +kernel
theorem dX6_sew_19 : decode cX6_sew 19 = .ok (.putfield 139, 3) := by decide +kernel
theorem dX6_sew_22 : decode cX6_sew 22 = .ok (.aload_n 0, 1) := by decide +kernel
theorem dX6_sew_23 : decode cX6_sew 23 = .ok (.getfield 10, 3) := by decide +kernel
theorem dX6_sew_26 : decode cX6_sew 26 = .ok (.getfield 139, 3) := by decide +kernel
theorem dX6_sew_29 : decode cX6_sew 29 = .ok (.ifCond .eq 7, 3) := by decide +kernel
theorem dX6_sew_32 : decode cX6_sew 32 = .ok (.iconst 1, 1) := by decide +kernel
theorem dX6_sew_33 : decode cX6_sew 33 = .ok (.goto 4, 3) := by decide +kernel
theorem dX6_sew_36 : decode cX6_sew 36 = .ok (.iconst 0, 1) := by decide +kernel
theorem dX6_sew_37 : decode cX6_sew 37 = .ok (.ireturn, 1) := by decide +kernel
theorem dX6_set_0 : decode cX6_set 0 = .ok (.iload_n 1, 1) := by decide +kernel
theorem dX6_set_1 : decode cX6_set 1 = .ok (.ifCond .eq 15, 3) := by decide +kernel
theorem dX6_set_4 : decode cX6_set 4 = .ok (.iload_n 1, 1) := by decide +kernel
theorem dX6_set_5 : decode cX6_set 5 = .ok (.iconst 1, 1) := by decide +kernel
theorem dX6_set_6 : decode cX6_set 6 = .ok (.if_icmp .eq 10, 3) := by decide +kernel
theorem dX6_set_9 : decode cX6_set 9 = .ok (.aload_n 0, 1) := by decide +kernel
theorem dX6_set_10 : decode cX6_set 10 = .ok (.bipush (-2), 2) := by decide +kernel
theorem dX6_set_12 : decode cX6_set 12 = .ok (.invokevirtual 62, 3) := by decide +kernel
theorem dX6_set_15 : decode cX6_set 15 = .ok (.ireturn, 1) := by decide +kernel
theorem dX6_set_16 : decode cX6_set 16 = .ok (.iload_n 2, 1) := by decide +kernel
theorem dX6_set_17 : decode cX6_set 17 = .ok (.iload_n 1, 1) := by decide +kernel
theorem dX6_set_18 : decode cX6_set 18 = .ok (.ifCond .ne 7, 3) := by decide +kernel
theorem dX6_set_21 : decode cX6_set 21 = .ok (.iconst 1, 1) := by decide +kernel
theorem dX6_set_22 : decode cX6_set 22 = .ok (.goto 4, 3) := by decide +kernel
theorem dX6_set_25 : decode cX6_set 25 = .ok (.iconst 0, 1) := by decide +kernel
theorem dX6_set_26 : decode cX6_set 26 = .ok (.bipush 9, 2) := by decide +kernel
theorem dX6_set_28 : decode cX6_set 28 = .ok (.invokestatic 58, 3) := by decide +kernel
theorem dX6_set_31 : decode cX6_set 31 = .ok (.istore_n 3, 1) := by decide +kernel
theorem dX6_set_32 : decode cX6_set 32 = .ok (.iload_n 3, 1) := by decide +kernel
theorem dX6_set_33 : decode cX6_set 33 = .ok (.ifCond .eq 9, 3) := by decide +kernel
theorem dX6_set_36 : decode cX6_set 36 = .ok (.aload_n 0, 1) := by decide +kernel
theorem dX6_set_37 : decode cX6_set 37 = .ok (.iload_n 3, 1) := by decide +kernel
theorem dX6_set_38 : decode cX6_set 38 = .ok (.invokevirtual 62, 3) := by decide +kernel
theorem dX6_set_41 : decode cX6_set 41 = .ok (.ireturn, 1) := by decide +kernel
theorem dX6_set_42 : decode cX6_set 42 = .ok (.iload_n 1, 1) := by decide +kernel
theorem dX6_set_43 : decode cX6_set 43 = .ok (.ifCond .ne 13, 3) := by decide +kernel
theorem dX6_set_46 : decode cX6_set 46 = .ok (.aload_n 0, 1) := by decide +kernel
theorem dX6_set_47 : decode cX6_set 47 = .ok (.getfield 10, 3) := by decide +kernel
theorem dX6_set_50 : decode cX6_set 50 = .ok (.getfield 142, 3) := by decide +kernel
theorem dX6_set_53 : decode cX6_set 53 = .ok (.goto 10, 3) := by decide +kernel
theorem dX6_set_56 : decode cX6_set 56 = .ok (.aload_n 0, 1) := by decide +kernel
theorem dX6_set_57 : decode cX6_set 57 = .ok (.getfield 10, 3) := by decide +kernel
theorem dX6_set_60 : decode cX6_set 60 = .ok (.getfield 145, 3) := by decide +kernel
theorem dX6_set_63 : decode cX6_set 63 = .ok (.istore 4, 2) := by decide +kernel
theorem dX6_set_65 : decode cX6_set 65 = .ok (.iload_n 1, 1) := by decide +kernel
theorem dX6_set_66 : decode cX6_set 66 = .ok (.ifCond .ne 14, 3) := by decide +kernel
theorem dX6_set_69 : decode cX6_set 69 = .ok (.aload_n 0, 1) := by decide +kernel
theorem dX6_set_70 : decode cX6_set 70 = .ok (.getfield 10, 3) := by decide +kernel
theorem dX6_set_73 : decode cX6_set 73 = .ok (.iload_n 2, 1) := by decide +kernel
theorem dX6_set_74 : decode cX6_set 74 = .ok (.putfield 142, 3) := by decide +kernel
theorem dX6_set_77 : decode cX6_set 77 = .ok (.goto 11, 3) := by decide +kernel
theorem dX6_set_80 : decode cX6_set 80 = .ok (.aload_n 0, 1) := by decide +kernel
theorem dX6_set_81 : decode cX6_set 81 = .ok (.getfield 10, 3) := by decide +kernel
theorem dX6_set_84 : decode cX6_set 84 = .ok (.iload_n 2, 1) := by decide +kernel
theorem dX6_set_85 : decode cX6_set 85 = .ok (.putfield 145, 3) := by decide +kernel
theorem dX6_set_88 : decode cX6_set 88 = .ok (.iload 4, 2) := by decide +kernel
theorem dX6_set_90 : decode cX6_set 90 = .ok (.ireturn, 1) := by decide +kernel
theorem dX6_pull_0 : decode cX6_pull 0 = .ok (.iload_n 1, 1) := by decide +kernel
theorem dX6_pull_1 : decode cX6_pull 1 = .ok (.invokestatic 119, 3) := by decide +kernel
theorem dX6_pull_4 : decode cX6_pull 4 = .ok (.ifCond .ne 9, 3) := by decide +kernel
theorem dX6_pull_7 : decode cX6_pull 7 = .ok (.aload_n 0, 1) := by decide +kernel
theorem dX6_pull_8 : decode cX6_pull 8 = .ok (.iconst (-1), 1) := by decide +kernel
theorem dX6_pull_9 : decode cX6_pull 9 = .ok (.invokevirtual 122, 3) := by decide +kernel
theorem dX6_pull_12 : decode cX6_pull 12 = .ok (.ireturn, 1) := by decide +kernel
theorem dX6_pull_13 : decode cX6_pull 13 = .ok (.iload_n 2, 1) := by decide +kernel
theorem dX6_pull_14 : decode cX6_pull 14 = .ok (.iconst 1, 1) := by decide +kernel
theorem dX6_pull_15 : decode cX6_pull 15 = .ok (.bipush 40, 2) := by decide +kernel
theorem dX6_pull_17 : decode cX6_pull 17 = .ok (.invokestatic 58, 3) := by decide +kernel
theorem dX6_pull_20 : decode cX6_pull 20 = .ok (.istore_n 3, 1) := by decide +kernel
theorem dX6_pull_21 : decode cX6_pull 21 = .ok (.iload_n 3, 1) := by decide +kernel
theorem dX6_pull_22 : decode cX6_pull 22 = .ok (.ifCond .eq 9, 3) := by decide +kernel
theorem dX6_pull_25 : decode cX6_pull 25 = .ok (.aload_n 0, 1) := by decide +kernel
theorem dX6_pull_26 : decode cX6_pull 26 = .ok (.iload_n 3, 1) := by decide +kernel
theorem dX6_pull_27 : decode cX6_pull 27 = .ok (.invokevirtual 122, 3) := by decide +kernel
theorem dX6_pull_30 : decode cX6_pull 30 = .ok (.ireturn, 1) := by decide +kernel
theorem dX6_pull_31 : decode cX6_pull 31 = .ok (.aload_n 0, 1) := by decide +kernel
theorem dX6_pull_32 : decode cX6_pull 32 = .ok (.getfield 10, 3) := by decide +kernel
theorem dX6_pull_35 : decode cX6_pull 35 = .ok (.iload_n 1, 1) := by decide +kernel
theorem dX6_pull_36 : decode cX6_pull 36 = .ok (.iload_n 2, 1) := by decide +kernel
theorem dX6_pull_37 : decode cX6_pull 37 = .ok (.invokevirtual 148, 3) := by decide +kernel
theorem dX6_pull_40 : decode cX6_pull 40 = .ok (.ifCond .ne 10, 3) := by decide +kernel
theorem dX6_pull_43 : decode cX6_pull 43 = .ok (.aload_n 0, 1) := by decide +kernel
theorem dX6_pull_44 : decode cX6_pull 44 = .ok (.bipush (-3), 2) := by decide +kernel
theorem dX6_pull_46 : decode cX6_pull 46 = .ok (.invokevirtual 122, 3) := by decide +kernel
theorem dX6_pull_49 : decode cX6_pull 49 = .ok (.ireturn, 1) := by decide +kernel
theorem dX6_pull_50 : decode cX6_pull 50 = .ok (.aload_n 0, 1) := by decide +kernel
theorem dX6_pull_51 : decode cX6_pull 51 = .ok (.getfield 10, 3) := by decide +kernel
theorem dX6_pull_54 : decode cX6_pull 54 = .ok (.iload_n 1, 1) := by decide +kernel
theorem dX6_pull_55 : decode cX6_pull 55 = .ok (.invokevirtual 125, 3) := by decide +kernel
theorem dX6_pull_58 : decode cX6_pull 58 = .ok (.ireturn, 1) := by decide +kernel
theorem dX6_bunch_0 : decode cX6_bunch 0 = .ok (.iload_n 1, 1) := by decide +kernel
theorem dX6_bunch_1 : decode cX6_bunch 1 = .ok (.invokestatic 119, 3) := by decide +kernel
theorem dX6_bunch_4 : decode cX6_bunch 4 = .ok (.ifCond .ne 9, 3) := by decide +kernel
theorem dX6_bunch_7 : decode cX6_bunch 7 = .ok (.aload_n 0, 1) := by decide +kernel
theorem dX6_bunch_8 : decode cX6_bunch 8 = .ok (.iconst (-1), 1) := by decide +kernel
theorem dX6_bunch_9 : decode cX6_bunch 9 = .ok (.invokevirtual 122, 3) := by decide +kernel
theorem dX6_bunch_12 : decode cX6_bunch 12 = .ok (.ireturn, 1) := by decide +kernel
theorem dX6_bunch_13 : decode cX6_bunch 13 = .ok (.aload_n 0, 1) := by decide +kernel
theorem dX6_bunch_14 : decode cX6_bunch 14 = .ok (.getfield 10, 3) := by decide +kernel
theorem dX6_bunch_17 : decode cX6_bunch 17 = .ok (.iload_n 1, 1) := by decide +kernel
theorem dX6_bunch_18 : decode cX6_bunch 18 = .ok (.invokevirtual 152, 3) := by decide +kernel
theorem dX6_bunch_21 : decode cX6_bunch 21 = .ok (.ifCond .ne 10, 3) := by decide +kernel
theorem dX6_bunch_24 : decode cX6_bunch 24 = .ok (.aload_n 0, 1) := by decide +kernel
theorem dX6_bunch_25 : decode cX6_bunch 25 = .ok (.bipush (-3), 2) := by decide +kernel
theorem dX6_bunch_27 : decode cX6_bunch 27 = .ok (.invokevirtual 122, 3) := by decide +kernel
theorem dX6_bunch_30 : decode cX6_bunch 30 = .ok (.ireturn, 1) := by decide +kernel
theorem dX6_bunch_31 : decode cX6_bunch 31 = .ok (.aload_n 0, 1) := by decide +kernel
theorem dX6_bunch_32 : decode cX6_bunch 32 = .ok (.getfield 10, 3) := by decide +kernel
theorem dX6_bunch_35 : decode cX6_bunch 35 = .ok (.iload_n 1, 1) := by decide +kernel
theorem dX6_bunch_36 : decode cX6_bunch 36 = .ok (.aload_n 0, 1) := by decide +kernel
theorem dX6_bunch_37 : decode cX6_bunch 37 = .ok (.getfield 10, 3) := by decide +kernel
theorem dX6_bunch_40 : decode cX6_bunch 40 = .ok (.iload_n 1, 1) := by decide +kernel
theorem dX6_bunch_41 : decode cX6_bunch 41 = .ok (.invokevirtual 125, 3) := by decide +kernel
theorem dX6_bunch_44 : decode cX6_bunch 44 = .ok (.invokevirtual 155, 3) := by decide +kernel
theorem dX6_bunch_47 : decode cX6_bunch 47 = .ok (.istore_n 2, 1) := by decide +kernel
theorem dX6_bunch_48 : decode cX6_bunch 48 = .ok (.aload_n 0, 1) := by decide +kernel
theorem dX6_bunch_49 : decode cX6_bunch 49 = .ok (.getfield 10, 3) := by decide +kernel
theorem dX6_bunch_52 : decode cX6_bunch 52 = .ok (.iload_n 1, 1) := by decide +kernel
theorem dX6_bunch_53 : decode cX6_bunch 53 = .ok (.iconst 0, 1) := by decide +kernel
theorem dX6_bunch_54 : decode cX6_bunch 54 = .ok (.aload_n 0, 1) := by decide +kernel
theorem dX6_bunch_55 : decode cX6_bunch 55 = .ok (.getfield 10, 3) := by decide +kernel
theorem dX6_bunch_58 : decode cX6_bunch 58 = .ok (.iload_n 1, 1) := by decide +kernel
theorem dX6_bunch_59 : decode cX6_bunch 59 = .ok (.invokevirtual 125, 3) := by decide +kernel
theorem dX6_bunch_62 : decode cX6_bunch 62 = .ok (.aload_n 0, 1) := by decide +kernel
theorem dX6_bunch_63 : decode cX6_bunch 63 = .ok (.getfield 10, 3) := by decide +kernel
theorem dX6_bunch_66 : decode cX6_bunch 66 = .ok (.iload_n 2, 1) := by decide +kernel
theorem dX6_bunch_67 : decode cX6_bunch 67 = .ok (.invokevirtual 98, 3) := by decide +kernel
theorem dX6_bunch_70 : decode cX6_bunch 70 = .ok (.isub, 1) := by decide +kernel
theorem dX6_bunch_71 : decode cX6_bunch 71 = .ok (.invokestatic 158, 3) := by decide +kernel
theorem dX6_bunch_74 : decode cX6_bunch 74 = .ok (.invokevirtual 128, 3) := by decide +kernel
theorem dX6_bunch_77 : decode cX6_bunch 77 = .ok (.aload_n 0, 1) := by decide +kernel
theorem dX6_bunch_78 : decode cX6_bunch 78 = .ok (.getfield 10, 3) := by decide +kernel
theorem dX6_bunch_81 : decode cX6_bunch 81 = .ok (.iload_n 1, 1) := by decide +kernel
theorem dX6_bunch_82 : decode cX6_bunch 82 = .ok (.invokevirtual 125, 3) := by decide +kernel
theorem dX6_bunch_85 : decode cX6_bunch 85 = .ok (.ireturn, 1) := by decide +kernel
theorem dX6_anew_0 : decode cX6_anew 0 = .ok (.aload_n 0, 1) := by decide +kernel
theorem dX6_anew_1 : decode cX6_anew 1 = .ok (.getfield 10, 3) := by decide +kernel
theorem dX6_anew_4 : decode cX6_anew 4 = .ok (.invokevirtual 163, 3) := by decide +kernel
theorem dX6_anew_7 : decode cX6_anew 7 = .ok (.aload_n 0, 1) := by decide +kernel
theorem dX6_anew_8 : decode cX6_anew 8 = .ok (.getfield 10, 3) := by decide +kernel
theorem dX6_anew_11 : decode cX6_anew 11 = .ok (.aload_n 0, 1) := by decide +kernel
theorem dX6_anew_12 : decode cX6_anew 12 = .ok (.getfield 10, 3) := by decide +kernel
theorem dX6_anew_15 : decode cX6_anew 15 = .ok (.getfield 142, 3) := by decide +kernel
theorem dX6_anew_18 : decode cX6_anew 18 = .ok (.invokevirtual 166, 3) := by decide +kernel
theorem dX6_anew_21 : decode cX6_anew 21 = .ok (.ireturn, 1) := by decide +kernel
theorem dX6_wash_0 : decode cX6_wash 0 = .ok (.iload_n 1, 1) := by decide +kernel
theorem dX6_wash_1 : decode cX6_wash 1 = .ok (.iconst 1, 1) := by decide +kernel
theorem dX6_wash_2 : decode cX6_wash 2 = .ok (.bipush 40, 2) := by decide +kernel
theorem dX6_wash_4 : decode cX6_wash 4 = .ok (.invokestatic 58, 3) := by decide +kernel
theorem dX6_wash_7 : decode cX6_wash 7 = .ok (.istore_n 2, 1) := by decide +kernel
theorem dX6_wash_8 : decode cX6_wash 8 = .ok (.iload_n 2, 1) := by decide +kernel
theorem dX6_wash_9 : decode cX6_wash 9 = .ok (.ifCond .eq 9, 3) := by decide +kernel
theorem dX6_wash_12 : decode cX6_wash 12 = .ok (.aload_n 0, 1) := by decide +kernel
theorem dX6_wash_13 : decode cX6_wash 13 = .ok (.iload_n 2, 1) := by decide +kernel
theorem dX6_wash_14 : decode cX6_wash 14 = .ok (.invokevirtual 62, 3) := by decide +kernel
theorem dX6_wash_17 : decode cX6_wash 17 = .ok (.ireturn, 1) := by decide +kernel
theorem dX6_wash_18 : decode cX6_wash 18 = .ok (.aload_n 0, 1) := by decide +kernel
theorem dX6_wash_19 : decode cX6_wash 19 = .ok (.getfield 10, 3) := by decide +kernel
theorem dX6_wash_22 : decode cX6_wash 22 = .ok (.iload_n 1, 1) := by decide +kernel
theorem dX6_wash_23 : decode cX6_wash 23 = .ok (.invokevirtual 169, 3) := by decide +kernel
theorem dX6_wash_26 : decode cX6_wash 26 = .ok (.aload_n 0, 1) := by decide +kernel
theorem dX6_wash_27 : decode cX6_wash 27 = .ok (.getfield 10, 3) := by decide +kernel
theorem dX6_wash_30 : decode cX6_wash 30 = .ok (.invokevirtual 172, 3) := by decide +kernel
theorem dX6_wash_33 : decode cX6_wash 33 = .ok (.ireturn, 1) := by decide +kernel
theorem dX6_of_0 : decode cX6_of 0 = .ok (.iload_n 1, 1) := by decide +kernel
theorem dX6_of_1 : decode cX6_of 1 = .ok (.invokestatic 119, 3) := by decide +kernel
theorem dX6_of_4 : decode cX6_of 4 = .ok (.ifCond .ne 9, 3) := by decide +kernel
theorem dX6_of_7 : decode cX6_of 7 = .ok (.aload_n 0, 1) := by decide +kernel
theorem dX6_of_8 : decode cX6_of 8 = .ok (.iconst (-1), 1) := by decide +kernel
theorem dX6_of_9 : decode cX6_of 9 = .ok (.invokevirtual 62, 3) := by decide +kernel
theorem dX6_of_12 : decode cX6_of 12 = .ok (.ireturn, 1) := by decide +kernel
theorem dX6_of_13 : decode cX6_of 13 = .ok (.aload_n 0, 1) := by decide +kernel
theorem dX6_of_14 : decode cX6_of 14 = .ok (.getfield 10, 3) := by decide +kernel
theorem dX6_of_17 : decode cX6_of 17 = .ok (.iload_n 1, 1) := by decide +kernel
theorem dX6_of_18 : decode cX6_of 18 = .ok (.aload_n 0, 1) := by decide +kernel
theorem dX6_of_19 : decode cX6_of 19 = .ok (.getfield 10, 3) := by decide +kernel
theorem dX6_of_22 : decode cX6_of 22 = .ok (.iload_n 1, 1) := by decide +kernel
theorem dX6_of_23 : decode cX6_of 23 = .ok (.invokevirtual 125, 3) := by decide +kernel
theorem dX6_of_26 : decode cX6_of 26 = .ok (.invokevirtual 155, 3) := by decide +kernel
theorem dX6_of_29 : decode cX6_of 29 = .ok (.istore_n 3, 1) := by decide +kernel
theorem dX6_of_30 : decode cX6_of 30 = .ok (.iload_n 2, 1) := by decide +kernel
theorem dX6_of_31 : decode cX6_of 31 = .ok (.tableswitch 66 0 3 #[29, 31, 48, 57], 29) := by decide +kernel
theorem dX6_of_60 : decode cX6_of 60 = .ok (.iload_n 3, 1) := by decide +kernel
theorem dX6_of_61 : decode cX6_of 61 = .ok (.ireturn, 1) := by decide +kernel
theorem dX6_of_62 : decode cX6_of 62 = .ok (.aload_n 0, 1) := by decide +kernel
theorem dX6_of_63 : decode cX6_of 63 = .ok (.getfield 10, 3) := by decide +kernel
theorem dX6_of_66 : decode cX6_of 66 = .ok (.iload_n 1, 1) := by decide +kernel
theorem dX6_of_67 : decode cX6_of 67 = .ok (.invokevirtual 152, 3) := by decide +kernel
theorem dX6_of_70 : decode cX6_of 70 = .ok (.ifCond .eq 7, 3) := by decide +kernel
theorem dX6_of_73 : decode cX6_of 73 = .ok (.iconst 1, 1) := by decide +kernel
theorem dX6_of_74 : decode cX6_of 74 = .ok (.goto 4, 3) := by decide +kernel
theorem dX6_of_77 : decode cX6_of 77 = .ok (.iconst 0, 1) := by decide +kernel
theorem dX6_of_78 : decode cX6_of 78 = .ok (.ireturn, 1) := by decide +kernel
theorem dX6_of_79 : decode cX6_of 79 = .ok (.aload_n 0, 1) := by decide +kernel
theorem dX6_of_80 : decode cX6_of 80 = .ok (.getfield 10, 3) := by decide +kernel
theorem dX6_of_83 : decode cX6_of 83 = .ok (.iload_n 3, 1) := by decide +kernel
theorem dX6_of_84 : decode cX6_of 84 = .ok (.invokevirtual 98, 3) := by decide +kernel
theorem dX6_of_87 : decode cX6_of 87 = .ok (.ireturn, 1) := by decide +kernel
theorem dX6_of_88 : decode cX6_of 88 = .ok (.aload_n 0, 1) := by decide +kernel
theorem dX6_of_89 : decode cX6_of 89 = .ok (.getfield 10, 3) := by decide +kernel
theorem dX6_of_92 : decode cX6_of 92 = .ok (.iload_n 3, 1) := by decide +kernel
theorem dX6_of_93 : decode cX6_of 93 = .ok (.invokevirtual 107, 3) := by decide +kernel
theorem dX6_of_96 : decode cX6_of 96 = .ok (.ireturn, 1) := by decide +kernel
theorem dX6_of_97 : decode cX6_of 97 = .ok (.aload_n 0, 1) := by decide +kernel
theorem dX6_of_98 : decode cX6_of 98 = .ok (.bipush (-2), 2) := by decide +kernel
theorem dX6_of_100 : decode cX6_of 100 = .ok (.invokevirtual 62, 3) := by decide +kernel
theorem dX6_of_103 : decode cX6_of 103 = .ok (.ireturn, 1) := by decide +kernel
theorem dX6_out_0 : decode cX6_out 0 = .ok (.iload_n 1, 1) := by decide +kernel
theorem dX6_out_1 : decode cX6_out 1 = .ok (.invokestatic 119, 3) := by decide +kernel
theorem dX6_out_4 : decode cX6_out 4 = .ok (.ifCond .ne 9, 3) := by decide +kernel
theorem dX6_out_7 : decode cX6_out 7 = .ok (.aload_n 0, 1) := by decide +kernel
theorem dX6_out_8 : decode cX6_out 8 = .ok (.iconst (-1), 1) := by decide +kernel
theorem dX6_out_9 : decode cX6_out 9 = .ok (.invokevirtual 62, 3) := by decide +kernel
theorem dX6_out_12 : decode cX6_out 12 = .ok (.ireturn, 1) := by decide +kernel
theorem dX6_out_13 : decode cX6_out 13 = .ok (.aload_n 0, 1) := by decide +kernel
theorem dX6_out_14 : decode cX6_out 14 = .ok (.getfield 29, 3) := by decide +kernel
theorem dX6_out_17 : decode cX6_out 17 = .ok (.aload_n 0, 1) := by decide +kernel
theorem dX6_out_18 : decode cX6_out 18 = .ok (.getfield 10, 3) := by decide +kernel
theorem dX6_out_21 : decode cX6_out 21 = .ok (.iload_n 1, 1) := by decide +kernel
theorem dX6_out_22 : decode cX6_out 22 = .ok (.aload_n 0, 1) := by decide +kernel
theorem dX6_out_23 : decode cX6_out 23 = .ok (.getfield 10, 3) := by decide +kernel
theorem dX6_out_26 : decode cX6_out 26 = .ok (.iload_n 1, 1) := by decide +kernel
theorem dX6_out_27 : decode cX6_out 27 = .ok (.invokevirtual 125, 3) := by decide +kernel
theorem dX6_out_30 : decode cX6_out 30 = .ok (.invokevirtual 175, 3) := by decide +kernel
theorem dX6_out_33 : decode cX6_out 33 = .ok (.iload_n 2, 1) := by decide +kernel
theorem dX6_out_34 : decode cX6_out 34 = .ok (.tableswitch 50 0 2 #[26, 34, 42], 26) := by decide +kernel
theorem dX6_out_60 : decode cX6_out 60 = .ok (.aload_n 0, 1) := by decide +kernel
theorem dX6_out_61 : decode cX6_out 61 = .ok (.getfield 29, 3) := by decide +kernel
theorem dX6_out_64 : decode cX6_out 64 = .ok (.getfield 179, 3) := by decide +kernel
theorem dX6_out_67 : decode cX6_out 67 = .ok (.ireturn, 1) := by decide +kernel
theorem dX6_out_68 : decode cX6_out 68 = .ok (.aload_n 0, 1) := by decide +kernel
theorem dX6_out_69 : decode cX6_out 69 = .ok (.getfield 29, 3) := by decide +kernel
theorem dX6_out_72 : decode cX6_out 72 = .ok (.getfield 182, 3) := by decide +kernel
theorem dX6_out_75 : decode cX6_out 75 = .ok (.ireturn, 1) := by decide +kernel
theorem dX6_out_76 : decode cX6_out 76 = .ok (.aload_n 0, 1) := by decide +kernel
theorem dX6_out_77 : decode cX6_out 77 = .ok (.getfield 29, 3) := by decide +kernel
theorem dX6_out_80 : decode cX6_out 80 = .ok (.getfield 185, 3) := by decide +kernel
theorem dX6_out_83 : decode cX6_out 83 = .ok (.ireturn, 1) := by decide +kernel
theorem dX6_out_84 : decode cX6_out 84 = .ok (.aload_n 0, 1) := by decide +kernel
theorem dX6_out_85 : decode cX6_out 85 = .ok (.bipush (-2), 2) := by decide +kernel
theorem dX6_out_87 : decode cX6_out 87 = .ok (.invokevirtual 62, 3) := by decide +kernel
theorem dX6_out_90 : decode cX6_out 90 = .ok (.ireturn, 1) := by decide +kernel
theorem dX6_soonest_0 : decode cX6_soonest 0 = .ok (.aload_n 0, 1) := by decide +kernel
theorem dX6_soonest_1 : decode cX6_soonest 1 = .ok (.getfield 10, 3) := by decide +kernel
theorem dX6_soonest_4 : decode cX6_soonest 4 = .ok (.invokevirtual 172, 3) := by decide +kernel
theorem dX6_soonest_7 : decode cX6_soonest 7 = .ok (.ifCond .ne 6, 3) := by decide +kernel
theorem dX6_soonest_10 : decode cX6_soonest 10 = .ok (.bipush (-9), 2) := by decide +kernel
theorem dX6_soonest_12 : decode cX6_soonest 12 = .ok (.ireturn, 1) := by decide +kernel
theorem dX6_soonest_13 : decode cX6_soonest 13 = .ok (.aload_n 0, 1) := by decide +kernel
theorem dX6_soonest_14 : decode cX6_soonest 14 = .ok (.iconst 0, 1) := by decide +kernel
theorem dX6_soonest_15 : decode cX6_soonest 15 = .ok (.invokevirtual 188, 3) := by decide +kernel
theorem dX6_soonest_18 : decode cX6_soonest 18 = .ok (.istore_n 1, 1) := by decide +kernel
theorem dX6_soonest_19 : decode cX6_soonest 19 = .ok (.aload_n 0, 1) := by decide +kernel
theorem dX6_soonest_20 : decode cX6_soonest 20 = .ok (.iconst 1, 1) := by decide +kernel
theorem dX6_soonest_21 : decode cX6_soonest 21 = .ok (.invokevirtual 188, 3) := by decide +kernel
theorem dX6_soonest_24 : decode cX6_soonest 24 = .ok (.istore_n 2, 1) := by decide +kernel
theorem dX6_soonest_25 : decode cX6_soonest 25 = .ok (.iload_n 1, 1) := by decide +kernel
theorem dX6_soonest_26 : decode cX6_soonest 26 = .ok (.bipush (-9), 2) := by decide +kernel
theorem dX6_soonest_28 : decode cX6_soonest 28 = .ok (.if_icmp .ne 12, 3) := by decide +kernel
theorem dX6_soonest_31 : decode cX6_soonest 31 = .ok (.iload_n 2, 1) := by decide +kernel
theorem dX6_soonest_32 : decode cX6_soonest 32 = .ok (.bipush (-9), 2) := by decide +kernel
theorem dX6_soonest_34 : decode cX6_soonest 34 = .ok (.if_icmp .ne 6, 3) := by decide +kernel
theorem dX6_soonest_37 : decode cX6_soonest 37 = .ok (.bipush 9, 2) := by decide +kernel
theorem dX6_soonest_39 : decode cX6_soonest 39 = .ok (.ireturn, 1) := by decide +kernel
theorem dX6_soonest_40 : decode cX6_soonest 40 = .ok (.iload_n 1, 1) := by decide +kernel
theorem dX6_soonest_41 : decode cX6_soonest 41 = .ok (.bipush (-9), 2) := by decide +kernel
theorem dX6_soonest_43 : decode cX6_soonest 43 = .ok (.if_icmp .ne 5, 3) := by decide +kernel
theorem dX6_soonest_46 : decode cX6_soonest 46 = .ok (.iconst 1, 1) := by decide +kernel
theorem dX6_soonest_47 : decode cX6_soonest 47 = .ok (.ireturn, 1) := by decide +kernel
theorem dX6_soonest_48 : decode cX6_soonest 48 = .ok (.iload_n 2, 1) := by decide +kernel
theorem dX6_soonest_49 : decode cX6_soonest 49 = .ok (.bipush (-9), 2) := by decide +kernel
theorem dX6_soonest_51 : decode cX6_soonest 51 = .ok (.if_icmp .eq 12, 3) := by decide +kernel
theorem dX6_soonest_54 : decode cX6_soonest 54 = .ok (.iload_n 2, 1) := by decide +kernel
theorem dX6_soonest_55 : decode cX6_soonest 55 = .ok (.iload_n 1, 1) := by decide +kernel
theorem dX6_soonest_56 : decode cX6_soonest 56 = .ok (.if_icmp .ge 7, 3) := by decide +kernel
theorem dX6_soonest_59 : decode cX6_soonest 59 = .ok (.iconst 1, 1) := by decide +kernel
theorem dX6_soonest_60 : decode cX6_soonest 60 = .ok (.goto 4, 3) := by decide +kernel
theorem dX6_soonest_63 : decode cX6_soonest 63 = .ok (.iconst 0, 1) := by decide +kernel
theorem dX6_soonest_64 : decode cX6_soonest 64 = .ok (.ireturn, 1) := by decide +kernel
theorem dX6_better_0 : decode cX6_better 0 = .ok (.iload_n 1, 1) := by decide +kernel
theorem dX6_better_1 : decode cX6_better 1 = .ok (.ifCond .eq 15, 3) := by decide +kernel
theorem dX6_better_4 : decode cX6_better 4 = .ok (.iload_n 1, 1) := by decide +kernel
theorem dX6_better_5 : decode cX6_better 5 = .ok (.iconst 1, 1) := by decide +kernel
theorem dX6_better_6 : decode cX6_better 6 = .ok (.if_icmp .eq 10, 3) := by decide +kernel
theorem dX6_better_9 : decode cX6_better 9 = .ok (.aload_n 0, 1) := by decide +kernel
theorem dX6_better_10 : decode cX6_better 10 = .ok (.bipush (-2), 2) := by decide +kernel
theorem dX6_better_12 : decode cX6_better 12 = .ok (.invokevirtual 62, 3) := by decide +kernel
theorem dX6_better_15 : decode cX6_better 15 = .ok (.ireturn, 1) := by decide +kernel
theorem dX6_better_16 : decode cX6_better 16 = .ok (.aload_n 0, 1) := by decide +kernel
theorem dX6_better_17 : decode cX6_better 17 = .ok (.getfield 10, 3) := by decide +kernel
theorem dX6_better_20 : decode cX6_better 20 = .ok (.aload_n 0, 1) := by decide +kernel
theorem dX6_better_21 : decode cX6_better 21 = .ok (.getfield 10, 3) := by decide +kernel
theorem dX6_better_24 : decode cX6_better 24 = .ok (.getfield 142, 3) := by decide +kernel
theorem dX6_better_27 : decode cX6_better 27 = .ok (.invokevirtual 166, 3) := by decide +kernel
theorem dX6_better_30 : decode cX6_better 30 = .ok (.istore_n 2, 1) := by decide +kernel
theorem dX6_better_31 : decode cX6_better 31 = .ok (.iload_n 1, 1) := by decide +kernel
theorem dX6_better_32 : decode cX6_better 32 = .ok (.ifCond .ne 5, 3) := by decide +kernel
theorem dX6_better_35 : decode cX6_better 35 = .ok (.iload_n 2, 1) := by decide +kernel
theorem dX6_better_36 : decode cX6_better 36 = .ok (.ireturn, 1) := by decide +kernel
theorem dX6_better_37 : decode cX6_better 37 = .ok (.aload_n 0, 1) := by decide +kernel
theorem dX6_better_38 : decode cX6_better 38 = .ok (.getfield 29, 3) := by decide +kernel
theorem dX6_better_41 : decode cX6_better 41 = .ok (.aload_n 0, 1) := by decide +kernel
theorem dX6_better_42 : decode cX6_better 42 = .ok (.getfield 10, 3) := by decide +kernel
theorem dX6_better_45 : decode cX6_better 45 = .ok (.invokevirtual 191, 3) := by decide +kernel
theorem dX6_better_48 : decode cX6_better 48 = .ok (.istore_n 3, 1) := by decide +kernel
theorem dX6_better_49 : decode cX6_better 49 = .ok (.iload_n 3, 1) := by decide +kernel
theorem dX6_better_50 : decode cX6_better 50 = .ok (.bipush (-9), 2) := by decide +kernel
theorem dX6_better_52 : decode cX6_better 52 = .ok (.if_icmp .eq 8, 3) := by decide +kernel
theorem dX6_better_55 : decode cX6_better 55 = .ok (.iload_n 2, 1) := by decide +kernel
theorem dX6_better_56 : decode cX6_better 56 = .ok (.iload_n 3, 1) := by decide +kernel
theorem dX6_better_57 : decode cX6_better 57 = .ok (.if_icmp .ge 7, 3) := by decide +kernel
theorem dX6_better_60 : decode cX6_better 60 = .ok (.iconst 1, 1) := by decide +kernel
theorem dX6_better_61 : decode cX6_better 61 = .ok (.goto 4, 3) := by decide +kernel
theorem dX6_better_64 : decode cX6_better 64 = .ok (.iconst 0, 1) := by decide +kernel
theorem dX6_better_65 : decode cX6_better 65 = .ok (.ireturn, 1) := by decide +kernel
theorem dX6_inIn_0 : decode cX6_inIn 0 = .ok (.iload_n 1, 1) := by decide +kernel
theorem dX6_inIn_1 : decode cX6_inIn 1 = .ok (.invokestatic 119, 3) := by decide +kernel
theorem dX6_inIn_4 : decode cX6_inIn 4 = .ok (.ifCond .ne 9, 3) := by decide +kernel
theorem dX6_inIn_7 : decode cX6_inIn 7 = .ok (.aload_n 0, 1) := by decide +kernel
theorem dX6_inIn_8 : decode cX6_inIn 8 = .ok (.iconst (-1), 1) := by decide +kernel
theorem dX6_inIn_9 : decode cX6_inIn 9 = .ok (.invokevirtual 122, 3) := by decide +kernel
theorem dX6_inIn_12 : decode cX6_inIn 12 = .ok (.ireturn, 1) := by decide +kernel
theorem dX6_inIn_13 : decode cX6_inIn 13 = .ok (.iload_n 2, 1) := by decide +kernel
theorem dX6_inIn_14 : decode cX6_inIn 14 = .ok (.iconst 0, 1) := by decide +kernel
theorem dX6_inIn_15 : decode cX6_inIn 15 = .ok (.sipush 200, 3) := by decide +kernel
theorem dX6_inIn_18 : decode cX6_inIn 18 = .ok (.invokestatic 58, 3) := by decide +kernel
theorem dX6_inIn_21 : decode cX6_inIn 21 = .ok (.istore_n 3, 1) := by decide +kernel
theorem dX6_inIn_22 : decode cX6_inIn 22 = .ok (.iload_n 3, 1) := by decide +kernel
theorem dX6_inIn_23 : decode cX6_inIn 23 = .ok (.ifCond .eq 9, 3) := by decide +kernel
theorem dX6_inIn_26 : decode cX6_inIn 26 = .ok (.aload_n 0, 1) := by decide +kernel
theorem dX6_inIn_27 : decode cX6_inIn 27 = .ok (.iload_n 3, 1) := by decide +kernel
theorem dX6_inIn_28 : decode cX6_inIn 28 = .ok (.invokevirtual 122, 3) := by decide +kernel
theorem dX6_inIn_31 : decode cX6_inIn 31 = .ok (.ireturn, 1) := by decide +kernel
theorem dX6_inIn_32 : decode cX6_inIn 32 = .ok (.aload_n 0, 1) := by decide +kernel
theorem dX6_inIn_33 : decode cX6_inIn 33 = .ok (.getfield 16, 3) := by decide +kernel
theorem dX6_inIn_36 : decode cX6_inIn 36 = .ok (.aload_n 0, 1) := by decide +kernel
theorem dX6_inIn_37 : decode cX6_inIn 37 = .ok (.getfield 10, 3) := by decide +kernel
theorem dX6_inIn_40 : decode cX6_inIn 40 = .ok (.invokevirtual 195, 3) := by decide +kernel
theorem dX6_inIn_43 : decode cX6_inIn 43 = .ok (.aload_n 0, 1) := by decide +kernel
theorem dX6_inIn_44 : decode cX6_inIn 44 = .ok (.getfield 16, 3) := by decide +kernel
theorem dX6_inIn_47 : decode cX6_inIn 47 = .ok (.iload_n 2, 1) := by decide +kernel
theorem dX6_inIn_48 : decode cX6_inIn 48 = .ok (.invokevirtual 169, 3) := by decide +kernel
theorem dX6_inIn_51 : decode cX6_inIn 51 = .ok (.aload_n 0, 1) := by decide +kernel
theorem dX6_inIn_52 : decode cX6_inIn 52 = .ok (.getfield 16, 3) := by decide +kernel
theorem dX6_inIn_55 : decode cX6_inIn 55 = .ok (.iload_n 1, 1) := by decide +kernel
theorem dX6_inIn_56 : decode cX6_inIn 56 = .ok (.invokevirtual 125, 3) := by decide +kernel
theorem dX6_inIn_59 : decode cX6_inIn 59 = .ok (.ireturn, 1) := by decide +kernel
theorem dX6_lost_0 : decode cX6_lost 0 = .ok (.iload_n 1, 1) := by decide +kernel
theorem dX6_lost_1 : decode cX6_lost 1 = .ok (.ifCond .eq 15, 3) := by decide +kernel
theorem dX6_lost_4 : decode cX6_lost 4 = .ok (.iload_n 1, 1) := by decide +kernel
theorem dX6_lost_5 : decode cX6_lost 5 = .ok (.iconst 1, 1) := by decide +kernel
theorem dX6_lost_6 : decode cX6_lost 6 = .ok (.if_icmp .eq 10, 3) := by decide +kernel
theorem dX6_lost_9 : decode cX6_lost 9 = .ok (.aload_n 0, 1) := by decide +kernel
theorem dX6_lost_10 : decode cX6_lost 10 = .ok (.bipush (-2), 2) := by decide +kernel
theorem dX6_lost_12 : decode cX6_lost 12 = .ok (.invokevirtual 62, 3) := by decide +kernel
theorem dX6_lost_15 : decode cX6_lost 15 = .ok (.ireturn, 1) := by decide +kernel
theorem dX6_lost_16 : decode cX6_lost 16 = .ok (.aload_n 0, 1) := by decide +kernel
theorem dX6_lost_17 : decode cX6_lost 17 = .ok (.invokevirtual 199, 3) := by decide +kernel
theorem dX6_lost_20 : decode cX6_lost 20 = .ok (.istore_n 2, 1) := by decide +kernel
theorem dX6_lost_21 : decode cX6_lost 21 = .ok (.iload_n 1, 1) := by decide +kernel
theorem dX6_lost_22 : decode cX6_lost 22 = .ok (.ifCond .eq 9, 3) := by decide +kernel
theorem dX6_lost_25 : decode cX6_lost 25 = .ok (.iload_n 2, 1) := by decide +kernel
theorem dX6_lost_26 : decode cX6_lost 26 = .ok (.bipush (-9), 2) := by decide +kernel
theorem dX6_lost_28 : decode cX6_lost 28 = .ok (.if_icmp .ne 5, 3) := by decide +kernel
theorem dX6_lost_31 : decode cX6_lost 31 = .ok (.iload_n 2, 1) := by decide +kernel
theorem dX6_lost_32 : decode cX6_lost 32 = .ok (.ireturn, 1) := by decide +kernel
theorem dX6_lost_33 : decode cX6_lost 33 = .ok (.aload_n 0, 1) := by decide +kernel
theorem dX6_lost_34 : decode cX6_lost 34 = .ok (.getfield 16, 3) := by decide +kernel
theorem dX6_lost_37 : decode cX6_lost 37 = .ok (.invokevirtual 172, 3) := by decide +kernel
theorem dX6_lost_40 : decode cX6_lost 40 = .ok (.iconst 2, 1) := by decide +kernel
theorem dX6_lost_41 : decode cX6_lost 41 = .ok (.if_icmp .ne 5, 3) := by decide +kernel
theorem dX6_lost_44 : decode cX6_lost 44 = .ok (.iconst 2, 1) := by decide +kernel
theorem dX6_lost_45 : decode cX6_lost 45 = .ok (.ireturn, 1) := by decide +kernel
theorem dX6_lost_46 : decode cX6_lost 46 = .ok (.aload_n 0, 1) := by decide +kernel
theorem dX6_lost_47 : decode cX6_lost 47 = .ok (.getfield 16, 3) := by decide +kernel
theorem dX6_lost_50 : decode cX6_lost 50 = .ok (.iconst 0, 1) := by decide +kernel
theorem dX6_lost_51 : decode cX6_lost 51 = .ok (.invokevirtual 152, 3) := by decide +kernel
theorem dX6_lost_54 : decode cX6_lost 54 = .ok (.ifCond .eq 7, 3) := by decide +kernel
theorem dX6_lost_57 : decode cX6_lost 57 = .ok (.iconst 0, 1) := by decide +kernel
theorem dX6_lost_58 : decode cX6_lost 58 = .ok (.goto 4, 3) := by decide +kernel
theorem dX6_lost_61 : decode cX6_lost 61 = .ok (.iconst 1, 1) := by decide +kernel
theorem dX6_lost_62 : decode cX6_lost 62 = .ok (.ireturn, 1) := by decide +kernel
theorem dX6_still_0 : decode cX6_still 0 = .ok (.aload_n 0, 1) := by decide +kernel
theorem dX6_still_1 : decode cX6_still 1 = .ok (.getfield 16, 3) := by decide +kernel
theorem dX6_still_4 : decode cX6_still 4 = .ok (.aload_n 0, 1) := by decide +kernel
theorem dX6_still_5 : decode cX6_still 5 = .ok (.getfield 10, 3) := by decide +kernel
theorem dX6_still_8 : decode cX6_still 8 = .ok (.invokevirtual 195, 3) := by decide +kernel
theorem dX6_still_11 : decode cX6_still 11 = .ok (.iconst 0, 1) := by decide +kernel
theorem dX6_still_12 : decode cX6_still 12 = .ok (.istore_n 1, 1) := by decide +kernel
theorem dX6_still_13 : decode cX6_still 13 = .ok (.iload_n 1, 1) := by decide +kernel
theorem dX6_still_14 : decode cX6_still 14 = .ok (.sipush 200, 3) := by decide +kernel
theorem dX6_still_17 : decode cX6_still 17 = .ok (.if_icmp .gt 21, 3) := by decide +kernel
theorem dX6_still_20 : decode cX6_still 20 = .ok (.aload_n 0, 1) := by decide +kernel
theorem dX6_still_21 : decode cX6_still 21 = .ok (.getfield 16, 3) := by decide +kernel
theorem dX6_still_24 : decode cX6_still 24 = .ok (.invokevirtual 202, 3) := by decide +kernel
theorem dX6_still_27 : decode cX6_still 27 = .ok (.ifCond .ne 5, 3) := by decide +kernel
theorem dX6_still_30 : decode cX6_still 30 = .ok (.iload_n 1, 1) := by decide +kernel
theorem dX6_still_31 : decode cX6_still 31 = .ok (.ireturn, 1) := by decide +kernel
theorem dX6_still_32 : decode cX6_still 32 = .ok (.iinc 1 1, 3) := by decide +kernel
theorem dX6_still_35 : decode cX6_still 35 = .ok (.goto (-22), 3) := by decide +kernel
theorem dX6_still_38 : decode cX6_still 38 = .ok (.bipush (-9), 2) := by decide +kernel
theorem dX6_still_40 : decode cX6_still 40 = .ok (.ireturn, 1) := by decide +kernel
theorem dX6_keep_0 : decode cX6_keep 0 = .ok (.iload_n 1, 1) := by decide +kernel
theorem dX6_keep_1 : decode cX6_keep 1 = .ok (.iconst 0, 1) := by decide +kernel
theorem dX6_keep_2 : decode cX6_keep 2 = .ok (.sipush 999, 3) := by decide +kernel
theorem dX6_keep_5 : decode cX6_keep 5 = .ok (.invokestatic 58, 3) := by decide +kernel
theorem dX6_keep_8 : decode cX6_keep 8 = .ok (.istore_n 2, 1) := by decide +kernel
theorem dX6_keep_9 : decode cX6_keep 9 = .ok (.iload_n 2, 1) := by decide +kernel
theorem dX6_keep_10 : decode cX6_keep 10 = .ok (.ifCond .eq 9, 3) := by decide +kernel
theorem dX6_keep_13 : decode cX6_keep 13 = .ok (.aload_n 0, 1) := by decide +kernel
theorem dX6_keep_14 : decode cX6_keep 14 = .ok (.iload_n 2, 1) := by decide +kernel
theorem dX6_keep_15 : decode cX6_keep 15 = .ok (.invokevirtual 62, 3) := by decide +kernel
theorem dX6_keep_18 : decode cX6_keep 18 = .ok (.ireturn, 1) := by decide +kernel
theorem dX6_keep_19 : decode cX6_keep 19 = .ok (.aload_n 0, 1) := by decide +kernel
theorem dX6_keep_20 : decode cX6_keep 20 = .ok (.getfield 16, 3) := by decide +kernel
theorem dX6_keep_23 : decode cX6_keep 23 = .ok (.aload_n 0, 1) := by decide +kernel
theorem dX6_keep_24 : decode cX6_keep 24 = .ok (.getfield 10, 3) := by decide +kernel
theorem dX6_keep_27 : decode cX6_keep 27 = .ok (.invokevirtual 195, 3) := by decide +kernel
theorem dX6_keep_30 : decode cX6_keep 30 = .ok (.iconst 0, 1) := by decide +kernel
theorem dX6_keep_31 : decode cX6_keep 31 = .ok (.istore_n 3, 1) := by decide +kernel
theorem dX6_keep_32 : decode cX6_keep 32 = .ok (.iload_n 3, 1) := by decide +kernel
theorem dX6_keep_33 : decode cX6_keep 33 = .ok (.sipush 200, 3) := by decide +kernel
theorem dX6_keep_36 : decode cX6_keep 36 = .ok (.if_icmp .gt 45, 3) := by decide +kernel
theorem dX6_keep_39 : decode cX6_keep 39 = .ok (.aload_n 0, 1) := by decide +kernel
theorem dX6_keep_40 : decode cX6_keep 40 = .ok (.getfield 29, 3) := by decide +kernel
theorem dX6_keep_43 : decode cX6_keep 43 = .ok (.aload_n 0, 1) := by decide +kernel
theorem dX6_keep_44 : decode cX6_keep 44 = .ok (.getfield 16, 3) := by decide +kernel
theorem dX6_keep_47 : decode cX6_keep 47 = .ok (.invokevirtual 191, 3) := by decide +kernel
theorem dX6_keep_50 : decode cX6_keep 50 = .ok (.istore 4, 2) := by decide +kernel
theorem dX6_keep_52 : decode cX6_keep 52 = .ok (.iload 4, 2) := by decide +kernel
theorem dX6_keep_54 : decode cX6_keep 54 = .ok (.bipush (-9), 2) := by decide +kernel
theorem dX6_keep_56 : decode cX6_keep 56 = .ok (.if_icmp .eq 9, 3) := by decide +kernel
theorem dX6_keep_59 : decode cX6_keep 59 = .ok (.iload 4, 2) := by decide +kernel
theorem dX6_keep_61 : decode cX6_keep 61 = .ok (.iload_n 1, 1) := by decide +kernel
theorem dX6_keep_62 : decode cX6_keep 62 = .ok (.if_icmp .le 5, 3) := by decide +kernel
theorem dX6_keep_65 : decode cX6_keep 65 = .ok (.iload_n 3, 1) := by decide +kernel
theorem dX6_keep_66 : decode cX6_keep 66 = .ok (.ireturn, 1) := by decide +kernel
theorem dX6_keep_67 : decode cX6_keep 67 = .ok (.aload_n 0, 1) := by decide +kernel
theorem dX6_keep_68 : decode cX6_keep 68 = .ok (.getfield 16, 3) := by decide +kernel
theorem dX6_keep_71 : decode cX6_keep 71 = .ok (.invokevirtual 202, 3) := by decide +kernel
theorem dX6_keep_74 : decode cX6_keep 74 = .ok (.pop, 1) := by decide +kernel
theorem dX6_keep_75 : decode cX6_keep 75 = .ok (.iinc 3 1, 3) := by decide +kernel
theorem dX6_keep_78 : decode cX6_keep 78 = .ok (.goto (-46), 3) := by decide +kernel
theorem dX6_keep_81 : decode cX6_keep 81 = .ok (.bipush (-9), 2) := by decide +kernel
theorem dX6_keep_83 : decode cX6_keep 83 = .ok (.ireturn, 1) := by decide +kernel
theorem dX6_deep_0 : decode cX6_deep 0 = .ok (.iload_n 1, 1) := by decide +kernel
theorem dX6_deep_1 : decode cX6_deep 1 = .ok (.invokestatic 119, 3) := by decide +kernel
theorem dX6_deep_4 : decode cX6_deep 4 = .ok (.ifCond .ne 9, 3) := by decide +kernel
theorem dX6_deep_7 : decode cX6_deep 7 = .ok (.aload_n 0, 1) := by decide +kernel
theorem dX6_deep_8 : decode cX6_deep 8 = .ok (.iconst (-1), 1) := by decide +kernel
theorem dX6_deep_9 : decode cX6_deep 9 = .ok (.invokevirtual 62, 3) := by decide +kernel
theorem dX6_deep_12 : decode cX6_deep 12 = .ok (.ireturn, 1) := by decide +kernel
theorem dX6_deep_13 : decode cX6_deep 13 = .ok (.iload_n 2, 1) := by decide +kernel
theorem dX6_deep_14 : decode cX6_deep 14 = .ok (.iconst 0, 1) := by decide +kernel
theorem dX6_deep_15 : decode cX6_deep 15 = .ok (.sipush 999, 3) := by decide +kernel
theorem dX6_deep_18 : decode cX6_deep 18 = .ok (.invokestatic 58, 3) := by decide +kernel
theorem dX6_deep_21 : decode cX6_deep 21 = .ok (.istore_n 3, 1) := by decide +kernel
theorem dX6_deep_22 : decode cX6_deep 22 = .ok (.iload_n 3, 1) := by decide +kernel
theorem dX6_deep_23 : decode cX6_deep 23 = .ok (.ifCond .eq 9, 3) := by decide +kernel
theorem dX6_deep_26 : decode cX6_deep 26 = .ok (.aload_n 0, 1) := by decide +kernel
theorem dX6_deep_27 : decode cX6_deep 27 = .ok (.iload_n 3, 1) := by decide +kernel
theorem dX6_deep_28 : decode cX6_deep 28 = .ok (.invokevirtual 62, 3) := by decide +kernel
theorem dX6_deep_31 : decode cX6_deep 31 = .ok (.ireturn, 1) := by decide +kernel
theorem dX6_deep_32 : decode cX6_deep 32 = .ok (.bipush 24, 2) := by decide +kernel
theorem dX6_deep_34 : decode cX6_deep 34 = .ok (.istore 4, 2) := by decide +kernel
theorem dX6_deep_36 : decode cX6_deep 36 = .ok (.iload 4, 2) := by decide +kernel
theorem dX6_deep_38 : decode cX6_deep 38 = .ok (.iconst 1, 1) := by decide +kernel
theorem dX6_deep_39 : decode cX6_deep 39 = .ok (.if_icmp .lt 47, 3) := by decide +kernel
theorem dX6_deep_42 : decode cX6_deep 42 = .ok (.aload_n 0, 1) := by decide +kernel
theorem dX6_deep_43 : decode cX6_deep 43 = .ok (.getfield 29, 3) := by decide +kernel
theorem dX6_deep_46 : decode cX6_deep 46 = .ok (.aload_n 0, 1) := by decide +kernel
theorem dX6_deep_47 : decode cX6_deep 47 = .ok (.getfield 10, 3) := by decide +kernel
theorem dX6_deep_50 : decode cX6_deep 50 = .ok (.iload_n 1, 1) := by decide +kernel
theorem dX6_deep_51 : decode cX6_deep 51 = .ok (.iload 4, 2) := by decide +kernel
theorem dX6_deep_53 : decode cX6_deep 53 = .ok (.invokevirtual 175, 3) := by decide +kernel
theorem dX6_deep_56 : decode cX6_deep 56 = .ok (.aload_n 0, 1) := by decide +kernel
theorem dX6_deep_57 : decode cX6_deep 57 = .ok (.getfield 29, 3) := by decide +kernel
theorem dX6_deep_60 : decode cX6_deep 60 = .ok (.invokevirtual 205, 3) := by decide +kernel
theorem dX6_deep_63 : decode cX6_deep 63 = .ok (.ifCond .eq 17, 3) := by decide +kernel
theorem dX6_deep_66 : decode cX6_deep 66 = .ok (.aload_n 0, 1) := by decide +kernel
theorem dX6_deep_67 : decode cX6_deep 67 = .ok (.getfield 29, 3) := by decide +kernel
theorem dX6_deep_70 : decode cX6_deep 70 = .ok (.getfield 182, 3) := by decide +kernel
theorem dX6_deep_73 : decode cX6_deep 73 = .ok (.iload_n 2, 1) := by decide +kernel
theorem dX6_deep_74 : decode cX6_deep 74 = .ok (.if_icmp .gt 6, 3) := by decide +kernel
theorem dX6_deep_77 : decode cX6_deep 77 = .ok (.iload 4, 2) := by decide +kernel
theorem dX6_deep_79 : decode cX6_deep 79 = .ok (.ireturn, 1) := by decide +kernel
theorem dX6_deep_80 : decode cX6_deep 80 = .ok (.iinc 4 (-1), 3) := by decide +kernel
theorem dX6_deep_83 : decode cX6_deep 83 = .ok (.goto (-47), 3) := by decide +kernel
theorem dX6_deep_86 : decode cX6_deep 86 = .ok (.bipush (-9), 2) := by decide +kernel
theorem dX6_deep_88 : decode cX6_deep 88 = .ok (.ireturn, 1) := by decide +kernel
theorem dX6_stops_0 : decode cX6_stops 0 = .ok (.iload_n 1, 1) := by decide +kernel
theorem dX6_stops_1 : decode cX6_stops 1 = .ok (.iconst 0, 1) := by decide +kernel
theorem dX6_stops_2 : decode cX6_stops 2 = .ok (.sipush 200, 3) := by decide +kernel
theorem dX6_stops_5 : decode cX6_stops 5 = .ok (.invokestatic 58, 3) := by decide +kernel
theorem dX6_stops_8 : decode cX6_stops 8 = .ok (.istore_n 3, 1) := by decide +kernel
theorem dX6_stops_9 : decode cX6_stops 9 = .ok (.iload_n 3, 1) := by decide +kernel
theorem dX6_stops_10 : decode cX6_stops 10 = .ok (.ifCond .eq 9, 3) := by decide +kernel
theorem dX6_stops_13 : decode cX6_stops 13 = .ok (.aload_n 0, 1) := by decide +kernel
theorem dX6_stops_14 : decode cX6_stops 14 = .ok (.iload_n 3, 1) := by decide +kernel
theorem dX6_stops_15 : decode cX6_stops 15 = .ok (.invokevirtual 62, 3) := by decide +kernel
theorem dX6_stops_18 : decode cX6_stops 18 = .ok (.ireturn, 1) := by decide +kernel
theorem dX6_stops_19 : decode cX6_stops 19 = .ok (.iload_n 2, 1) := by decide +kernel
theorem dX6_stops_20 : decode cX6_stops 20 = .ok (.ifCond .eq 15, 3) := by decide +kernel
theorem dX6_stops_23 : decode cX6_stops 23 = .ok (.iload_n 2, 1) := by decide +kernel
theorem dX6_stops_24 : decode cX6_stops 24 = .ok (.iconst 1, 1) := by decide +kernel
theorem dX6_stops_25 : decode cX6_stops 25 = .ok (.if_icmp .eq 10, 3) := by decide +kernel
theorem dX6_stops_28 : decode cX6_stops 28 = .ok (.aload_n 0, 1) := by decide +kernel
theorem dX6_stops_29 : decode cX6_stops 29 = .ok (.bipush (-2), 2) := by decide +kernel
theorem dX6_stops_31 : decode cX6_stops 31 = .ok (.invokevirtual 62, 3) := by decide +kernel
theorem dX6_stops_34 : decode cX6_stops 34 = .ok (.ireturn, 1) := by decide +kernel
theorem dX6_stops_35 : decode cX6_stops 35 = .ok (.iconst 0, 1) := by decide +kernel
theorem dX6_stops_36 : decode cX6_stops 36 = .ok (.istore 4, 2) := by decide +kernel
theorem dX6_stops_38 : decode cX6_stops 38 = .ok (.aload_n 0, 1) := by decide +kernel
theorem dX6_stops_39 : decode cX6_stops 39 = .ok (.iconst 0, 1) := by decide +kernel
theorem dX6_stops_40 : decode cX6_stops 40 = .ok (.iload_n 1, 1) := by decide +kernel
theorem dX6_stops_41 : decode cX6_stops 41 = .ok (.invokevirtual 208, 3) := by decide +kernel
theorem dX6_stops_44 : decode cX6_stops 44 = .ok (.istore 5, 2) := by decide +kernel
theorem dX6_stops_46 : decode cX6_stops 46 = .ok (.iconst 1, 1) := by decide +kernel
theorem dX6_stops_47 : decode cX6_stops 47 = .ok (.istore 6, 2) := by decide +kernel
theorem dX6_stops_49 : decode cX6_stops 49 = .ok (.iload 6, 2) := by decide +kernel
theorem dX6_stops_51 : decode cX6_stops 51 = .ok (.iconst 5, 1) := by decide +kernel
theorem dX6_stops_52 : decode cX6_stops 52 = .ok (.if_icmp .ge 33, 3) := by decide +kernel
theorem dX6_stops_55 : decode cX6_stops 55 = .ok (.aload_n 0, 1) := by decide +kernel
theorem dX6_stops_56 : decode cX6_stops 56 = .ok (.iload 6, 2) := by decide +kernel
theorem dX6_stops_58 : decode cX6_stops 58 = .ok (.iload_n 1, 1) := by decide +kernel
theorem dX6_stops_59 : decode cX6_stops 59 = .ok (.invokevirtual 208, 3) := by decide +kernel
theorem dX6_stops_62 : decode cX6_stops 62 = .ok (.istore 7, 2) := by decide +kernel
theorem dX6_stops_64 : decode cX6_stops 64 = .ok (.iload 7, 2) := by decide +kernel
theorem dX6_stops_66 : decode cX6_stops 66 = .ok (.iload 5, 2) := by decide +kernel
theorem dX6_stops_68 : decode cX6_stops 68 = .ok (.if_icmp .ge 11, 3) := by decide +kernel
theorem dX6_stops_71 : decode cX6_stops 71 = .ok (.iload 6, 2) := by decide +kernel
theorem dX6_stops_73 : decode cX6_stops 73 = .ok (.istore 4, 2) := by decide +kernel
theorem dX6_stops_75 : decode cX6_stops 75 = .ok (.iload 7, 2) := by decide +kernel
theorem dX6_stops_77 : decode cX6_stops 77 = .ok (.istore 5, 2) := by decide +kernel
theorem dX6_stops_79 : decode cX6_stops 79 = .ok (.iinc 6 1, 3) := by decide +kernel
theorem dX6_stops_82 : decode cX6_stops 82 = .ok (.goto (-33), 3) := by decide +kernel
theorem dX6_stops_85 : decode cX6_stops 85 = .ok (.iload_n 2, 1) := by decide +kernel
theorem dX6_stops_86 : decode cX6_stops 86 = .ok (.ifCond .ne 8, 3) := by decide +kernel
theorem dX6_stops_89 : decode cX6_stops 89 = .ok (.iload 4, 2) := by decide +kernel
theorem dX6_stops_91 : decode cX6_stops 91 = .ok (.goto 5, 3) := by decide +kernel
theorem dX6_stops_94 : decode cX6_stops 94 = .ok (.iload 5, 2) := by decide +kernel
theorem dX6_stops_96 : decode cX6_stops 96 = .ok (.ireturn, 1) := by decide +kernel
theorem dX6_care_0 : decode cX6_care 0 = .ok (.iload_n 1, 1) := by decide +kernel
theorem dX6_care_1 : decode cX6_care 1 = .ok (.iconst 0, 1) := by decide +kernel
theorem dX6_care_2 : decode cX6_care 2 = .ok (.sipush 200, 3) := by decide +kernel
theorem dX6_care_5 : decode cX6_care 5 = .ok (.invokestatic 58, 3) := by decide +kernel
theorem dX6_care_8 : decode cX6_care 8 = .ok (.istore_n 2, 1) := by decide +kernel
theorem dX6_care_9 : decode cX6_care 9 = .ok (.iload_n 2, 1) := by decide +kernel
theorem dX6_care_10 : decode cX6_care 10 = .ok (.ifCond .eq 9, 3) := by decide +kernel
theorem dX6_care_13 : decode cX6_care 13 = .ok (.aload_n 0, 1) := by decide +kernel
theorem dX6_care_14 : decode cX6_care 14 = .ok (.iload_n 2, 1) := by decide +kernel
theorem dX6_care_15 : decode cX6_care 15 = .ok (.invokevirtual 62, 3) := by decide +kernel
theorem dX6_care_18 : decode cX6_care 18 = .ok (.ireturn, 1) := by decide +kernel
theorem dX6_care_19 : decode cX6_care 19 = .ok (.aload_n 0, 1) := by decide +kernel
theorem dX6_care_20 : decode cX6_care 20 = .ok (.getfield 16, 3) := by decide +kernel
theorem dX6_care_23 : decode cX6_care 23 = .ok (.aload_n 0, 1) := by decide +kernel
theorem dX6_care_24 : decode cX6_care 24 = .ok (.getfield 10, 3) := by decide +kernel
theorem dX6_care_27 : decode cX6_care 27 = .ok (.invokevirtual 195, 3) := by decide +kernel
theorem dX6_care_30 : decode cX6_care 30 = .ok (.aload_n 0, 1) := by decide +kernel
theorem dX6_care_31 : decode cX6_care 31 = .ok (.getfield 36, 3) := by decide +kernel
theorem dX6_care_34 : decode cX6_care 34 = .ok (.aload_n 0, 1) := by decide +kernel
theorem dX6_care_35 : decode cX6_care 35 = .ok (.getfield 16, 3) := by decide +kernel
theorem dX6_care_38 : decode cX6_care 38 = .ok (.aload_n 0, 1) := by decide +kernel
theorem dX6_care_39 : decode cX6_care 39 = .ok (.getfield 29, 3) := by decide +kernel
theorem dX6_care_42 : decode cX6_care 42 = .ok (.iload_n 1, 1) := by decide +kernel
theorem dX6_care_43 : decode cX6_care 43 = .ok (.invokevirtual 211, 3) := by decide +kernel
theorem dX6_care_46 : decode cX6_care 46 = .ok (.aload_n 0, 1) := by decide +kernel
theorem dX6_care_47 : decode cX6_care 47 = .ok (.getfield 36, 3) := by decide +kernel
theorem dX6_care_50 : decode cX6_care 50 = .ok (.getfield 215, 3) := by decide +kernel
theorem dX6_care_53 : decode cX6_care 53 = .ok (.ireturn, 1) := by decide +kernel
theorem dX6_holdsUp_0 : decode cX6_holdsUp 0 = .ok (.iload_n 1, 1) := by decide +kernel
theorem dX6_holdsUp_1 : decode cX6_holdsUp 1 = .ok (.invokestatic 119, 3) := by decide +kernel
theorem dX6_holdsUp_4 : decode cX6_holdsUp 4 = .ok (.ifCond .ne 9, 3) := by decide +kernel
theorem dX6_holdsUp_7 : decode cX6_holdsUp 7 = .ok (.aload_n 0, 1) := by decide +kernel
theorem dX6_holdsUp_8 : decode cX6_holdsUp 8 = .ok (.iconst (-1), 1) := by decide +kernel
theorem dX6_holdsUp_9 : decode cX6_holdsUp 9 = .ok (.invokevirtual 62, 3) := by decide +kernel
theorem dX6_holdsUp_12 : decode cX6_holdsUp 12 = .ok (.ireturn, 1) := by decide +kernel
theorem dX6_holdsUp_13 : decode cX6_holdsUp 13 = .ok (.aload_n 0, 1) := by decide +kernel
theorem dX6_holdsUp_14 : decode cX6_holdsUp 14 = .ok (.getfield 29, 3) := by decide +kernel
theorem dX6_holdsUp_17 : decode cX6_holdsUp 17 = .ok (.aload_n 0, 1) := by decide +kernel
theorem dX6_holdsUp_18 : decode cX6_holdsUp 18 = .ok (.getfield 10, 3) := by decide +kernel
theorem dX6_holdsUp_21 : decode cX6_holdsUp 21 = .ok (.iload_n 1, 1) := by decide +kernel
theorem dX6_holdsUp_22 : decode cX6_holdsUp 22 = .ok (.aload_n 0, 1) := by decide +kernel
theorem dX6_holdsUp_23 : decode cX6_holdsUp 23 = .ok (.getfield 10, 3) := by decide +kernel
theorem dX6_holdsUp_26 : decode cX6_holdsUp 26 = .ok (.iload_n 1, 1) := by decide +kernel
theorem dX6_holdsUp_27 : decode cX6_holdsUp 27 = .ok (.invokevirtual 125, 3) := by decide +kernel
theorem dX6_holdsUp_30 : decode cX6_holdsUp 30 = .ok (.invokevirtual 175, 3) := by decide +kernel
theorem dX6_holdsUp_33 : decode cX6_holdsUp 33 = .ok (.bipush (-9), 2) := by decide +kernel
theorem dX6_holdsUp_35 : decode cX6_holdsUp 35 = .ok (.istore_n 2, 1) := by decide +kernel
theorem dX6_holdsUp_36 : decode cX6_holdsUp 36 = .ok (.aload_n 0, 1) := by decide +kernel
theorem dX6_holdsUp_37 : decode cX6_holdsUp 37 = .ok (.getfield 29, 3) := by decide +kernel
theorem dX6_holdsUp_40 : decode cX6_holdsUp 40 = .ok (.invokevirtual 218, 3) := by decide +kernel
theorem dX6_holdsUp_43 : decode cX6_holdsUp 43 = .ok (.istore_n 3, 1) := by decide +kernel
theorem dX6_holdsUp_44 : decode cX6_holdsUp 44 = .ok (.iconst 0, 1) := by decide +kernel
theorem dX6_holdsUp_45 : decode cX6_holdsUp 45 = .ok (.istore 4, 2) := by decide +kernel
theorem dX6_holdsUp_47 : decode cX6_holdsUp 47 = .ok (.iload 4, 2) := by decide +kernel
theorem dX6_holdsUp_49 : decode cX6_holdsUp 49 = .ok (.aload_n 0, 1) := by decide +kernel
theorem dX6_holdsUp_50 : decode cX6_holdsUp 50 = .ok (.getfield 10, 3) := by decide +kernel
theorem dX6_holdsUp_53 : decode cX6_holdsUp 53 = .ok (.getfield 116, 3) := by decide +kernel
theorem dX6_holdsUp_56 : decode cX6_holdsUp 56 = .ok (.if_icmp .ge 30, 3) := by decide +kernel
theorem dX6_holdsUp_59 : decode cX6_holdsUp 59 = .ok (.aload_n 0, 1) := by decide +kernel
theorem dX6_holdsUp_60 : decode cX6_holdsUp 60 = .ok (.iload 4, 2) := by decide +kernel
theorem dX6_holdsUp_62 : decode cX6_holdsUp 62 = .ok (.iload_n 1, 1) := by decide +kernel
theorem dX6_holdsUp_63 : decode cX6_holdsUp 63 = .ok (.invokevirtual 221, 3) := by decide +kernel
theorem dX6_holdsUp_66 : decode cX6_holdsUp 66 = .ok (.istore 5, 2) := by decide +kernel
theorem dX6_holdsUp_68 : decode cX6_holdsUp 68 = .ok (.iload 5, 2) := by decide +kernel
theorem dX6_holdsUp_70 : decode cX6_holdsUp 70 = .ok (.iload_n 3, 1) := by decide +kernel
theorem dX6_holdsUp_71 : decode cX6_holdsUp 71 = .ok (.if_icmp .ge 9, 3) := by decide +kernel
theorem dX6_holdsUp_74 : decode cX6_holdsUp 74 = .ok (.iload 4, 2) := by decide +kernel
theorem dX6_holdsUp_76 : decode cX6_holdsUp 76 = .ok (.istore_n 2, 1) := by decide +kernel
theorem dX6_holdsUp_77 : decode cX6_holdsUp 77 = .ok (.iload 5, 2) := by decide +kernel
theorem dX6_holdsUp_79 : decode cX6_holdsUp 79 = .ok (.istore_n 3, 1) := by decide +kernel
theorem dX6_holdsUp_80 : decode cX6_holdsUp 80 = .ok (.iinc 4 1, 3) := by decide +kernel
theorem dX6_holdsUp_83 : decode cX6_holdsUp 83 = .ok (.goto (-36), 3) := by decide +kernel
theorem dX6_holdsUp_86 : decode cX6_holdsUp 86 = .ok (.iload_n 2, 1) := by decide +kernel
theorem dX6_holdsUp_87 : decode cX6_holdsUp 87 = .ok (.ireturn, 1) := by decide +kernel
theorem dX6_middle_0 : decode cX6_middle 0 = .ok (.aload_n 0, 1) := by decide +kernel
theorem dX6_middle_1 : decode cX6_middle 1 = .ok (.getfield 10, 3) := by decide +kernel
theorem dX6_middle_4 : decode cX6_middle 4 = .ok (.iconst 0, 1) := by decide +kernel
theorem dX6_middle_5 : decode cX6_middle 5 = .ok (.invokevirtual 125, 3) := by decide +kernel
theorem dX6_middle_8 : decode cX6_middle 8 = .ok (.aload_n 0, 1) := by decide +kernel
theorem dX6_middle_9 : decode cX6_middle 9 = .ok (.getfield 10, 3) := by decide +kernel
theorem dX6_middle_12 : decode cX6_middle 12 = .ok (.iconst 1, 1) := by decide +kernel
theorem dX6_middle_13 : decode cX6_middle 13 = .ok (.invokevirtual 125, 3) := by decide +kernel
theorem dX6_middle_16 : decode cX6_middle 16 = .ok (.isub, 1) := by decide +kernel
theorem dX6_middle_17 : decode cX6_middle 17 = .ok (.iconst 2, 1) := by decide +kernel
theorem dX6_middle_18 : decode cX6_middle 18 = .ok (.idiv, 1) := by decide +kernel
theorem dX6_middle_19 : decode cX6_middle 19 = .ok (.istore_n 1, 1) := by decide +kernel
theorem dX6_middle_20 : decode cX6_middle 20 = .ok (.iload_n 1, 1) := by decide +kernel
theorem dX6_middle_21 : decode cX6_middle 21 = .ok (.ifCond .ge 7, 3) := by decide +kernel
theorem dX6_middle_24 : decode cX6_middle 24 = .ok (.iconst 1, 1) := by decide +kernel
theorem dX6_middle_25 : decode cX6_middle 25 = .ok (.goto 4, 3) := by decide +kernel
theorem dX6_middle_28 : decode cX6_middle 28 = .ok (.iconst 0, 1) := by decide +kernel
theorem dX6_middle_29 : decode cX6_middle 29 = .ok (.istore_n 2, 1) := by decide +kernel
theorem dX6_middle_30 : decode cX6_middle 30 = .ok (.iload_n 1, 1) := by decide +kernel
theorem dX6_middle_31 : decode cX6_middle 31 = .ok (.invokestatic 224, 3) := by decide +kernel
theorem dX6_middle_34 : decode cX6_middle 34 = .ok (.istore_n 3, 1) := by decide +kernel
theorem dX6_middle_35 : decode cX6_middle 35 = .ok (.aload_n 0, 1) := by decide +kernel
theorem dX6_middle_36 : decode cX6_middle 36 = .ok (.getfield 10, 3) := by decide +kernel
theorem dX6_middle_39 : decode cX6_middle 39 = .ok (.iload_n 2, 1) := by decide +kernel
theorem dX6_middle_40 : decode cX6_middle 40 = .ok (.iload_n 3, 1) := by decide +kernel
theorem dX6_middle_41 : decode cX6_middle 41 = .ok (.invokevirtual 227, 3) := by decide +kernel
theorem dX6_middle_44 : decode cX6_middle 44 = .ok (.iload_n 3, 1) := by decide +kernel
theorem dX6_middle_45 : decode cX6_middle 45 = .ok (.if_icmp .ge 8, 3) := by decide +kernel
theorem dX6_middle_48 : decode cX6_middle 48 = .ok (.bipush 99, 2) := by decide +kernel
theorem dX6_middle_50 : decode cX6_middle 50 = .ok (.goto 4, 3) := by decide +kernel
theorem dX6_middle_53 : decode cX6_middle 53 = .ok (.iload_n 1, 1) := by decide +kernel
theorem dX6_middle_54 : decode cX6_middle 54 = .ok (.ireturn, 1) := by decide +kernel
theorem dX6_cutOff_0 : decode cX6_cutOff 0 = .ok (.iconst 0, 1) := by decide +kernel
theorem dX6_cutOff_1 : decode cX6_cutOff 1 = .ok (.aload_n 0, 1) := by decide +kernel
theorem dX6_cutOff_2 : decode cX6_cutOff 2 = .ok (.getfield 10, 3) := by decide +kernel
theorem dX6_cutOff_5 : decode cX6_cutOff 5 = .ok (.iconst 0, 1) := by decide +kernel
theorem dX6_cutOff_6 : decode cX6_cutOff 6 = .ok (.invokevirtual 125, 3) := by decide +kernel
theorem dX6_cutOff_9 : decode cX6_cutOff 9 = .ok (.aload_n 0, 1) := by decide +kernel
theorem dX6_cutOff_10 : decode cX6_cutOff 10 = .ok (.getfield 10, 3) := by decide +kernel
theorem dX6_cutOff_13 : decode cX6_cutOff 13 = .ok (.iconst 1, 1) := by decide +kernel
theorem dX6_cutOff_14 : decode cX6_cutOff 14 = .ok (.invokevirtual 125, 3) := by decide +kernel
theorem dX6_cutOff_17 : decode cX6_cutOff 17 = .ok (.iadd, 1) := by decide +kernel
theorem dX6_cutOff_18 : decode cX6_cutOff 18 = .ok (.ineg, 1) := by decide +kernel
theorem dX6_cutOff_19 : decode cX6_cutOff 19 = .ok (.invokestatic 158, 3) := by decide +kernel
theorem dX6_cutOff_22 : decode cX6_cutOff 22 = .ok (.ireturn, 1) := by decide +kernel
theorem dX6_bestPin_0 : decode cX6_bestPin 0 = .ok (.iload_n 1, 1) := by decide +kernel
theorem dX6_bestPin_1 : decode cX6_bestPin 1 = .ok (.iconst 0, 1) := by decide +kernel
theorem dX6_bestPin_2 : decode cX6_bestPin 2 = .ok (.sipush 999, 3) := by decide +kernel
theorem dX6_bestPin_5 : decode cX6_bestPin 5 = .ok (.invokestatic 58, 3) := by decide +kernel
theorem dX6_bestPin_8 : decode cX6_bestPin 8 = .ok (.istore_n 2, 1) := by decide +kernel
theorem dX6_bestPin_9 : decode cX6_bestPin 9 = .ok (.iload_n 2, 1) := by decide +kernel
theorem dX6_bestPin_10 : decode cX6_bestPin 10 = .ok (.ifCond .eq 9, 3) := by decide +kernel
theorem dX6_bestPin_13 : decode cX6_bestPin 13 = .ok (.aload_n 0, 1) := by decide +kernel
theorem dX6_bestPin_14 : decode cX6_bestPin 14 = .ok (.iload_n 2, 1) := by decide +kernel
theorem dX6_bestPin_15 : decode cX6_bestPin 15 = .ok (.invokevirtual 62, 3) := by decide +kernel
theorem dX6_bestPin_18 : decode cX6_bestPin 18 = .ok (.ireturn, 1) := by decide +kernel
theorem dX6_bestPin_19 : decode cX6_bestPin 19 = .ok (.iconst 1, 1) := by decide +kernel
theorem dX6_bestPin_20 : decode cX6_bestPin 20 = .ok (.istore_n 3, 1) := by decide +kernel
theorem dX6_bestPin_21 : decode cX6_bestPin 21 = .ok (.iload_n 3, 1) := by decide +kernel
theorem dX6_bestPin_22 : decode cX6_bestPin 22 = .ok (.bipush 9, 2) := by decide +kernel
theorem dX6_bestPin_24 : decode cX6_bestPin 24 = .ok (.if_icmp .gt 23, 3) := by decide +kernel
theorem dX6_bestPin_27 : decode cX6_bestPin 27 = .ok (.aload_n 0, 1) := by decide +kernel
theorem dX6_bestPin_28 : decode cX6_bestPin 28 = .ok (.getfield 10, 3) := by decide +kernel
theorem dX6_bestPin_31 : decode cX6_bestPin 31 = .ok (.iload_n 3, 1) := by decide +kernel
theorem dX6_bestPin_32 : decode cX6_bestPin 32 = .ok (.invokevirtual 166, 3) := by decide +kernel
theorem dX6_bestPin_35 : decode cX6_bestPin 35 = .ok (.iload_n 1, 1) := by decide +kernel
theorem dX6_bestPin_36 : decode cX6_bestPin 36 = .ok (.if_icmp .gt 5, 3) := by decide +kernel
theorem dX6_bestPin_39 : decode cX6_bestPin 39 = .ok (.iload_n 3, 1) := by decide +kernel
theorem dX6_bestPin_40 : decode cX6_bestPin 40 = .ok (.ireturn, 1) := by decide +kernel
theorem dX6_bestPin_41 : decode cX6_bestPin 41 = .ok (.iinc 3 1, 3) := by decide +kernel
theorem dX6_bestPin_44 : decode cX6_bestPin 44 = .ok (.goto (-23), 3) := by decide +kernel
theorem dX6_bestPin_47 : decode cX6_bestPin 47 = .ok (.bipush (-9), 2) := by decide +kernel
theorem dX6_bestPin_49 : decode cX6_bestPin 49 = .ok (.ireturn, 1) := by decide +kernel
theorem dX6_worst_0 : decode cX6_worst 0 = .ok (.iconst 0, 1) := by decide +kernel
theorem dX6_worst_1 : decode cX6_worst 1 = .ok (.istore_n 1, 1) := by decide +kernel
theorem dX6_worst_2 : decode cX6_worst 2 = .ok (.iconst 1, 1) := by decide +kernel
theorem dX6_worst_3 : decode cX6_worst 3 = .ok (.istore_n 2, 1) := by decide +kernel
theorem dX6_worst_4 : decode cX6_worst 4 = .ok (.iload_n 2, 1) := by decide +kernel
theorem dX6_worst_5 : decode cX6_worst 5 = .ok (.aload_n 0, 1) := by decide +kernel
theorem dX6_worst_6 : decode cX6_worst 6 = .ok (.getfield 10, 3) := by decide +kernel
theorem dX6_worst_9 : decode cX6_worst 9 = .ok (.getfield 116, 3) := by decide +kernel
theorem dX6_worst_12 : decode cX6_worst 12 = .ok (.if_icmp .ge 44, 3) := by decide +kernel
theorem dX6_worst_15 : decode cX6_worst 15 = .ok (.aload_n 0, 1) := by decide +kernel
theorem dX6_worst_16 : decode cX6_worst 16 = .ok (.getfield 10, 3) := by decide +kernel
theorem dX6_worst_19 : decode cX6_worst 19 = .ok (.iload_n 2, 1) := by decide +kernel
theorem dX6_worst_20 : decode cX6_worst 20 = .ok (.aload_n 0, 1) := by decide +kernel
theorem dX6_worst_21 : decode cX6_worst 21 = .ok (.getfield 10, 3) := by decide +kernel
theorem dX6_worst_24 : decode cX6_worst 24 = .ok (.getfield 142, 3) := by decide +kernel
theorem dX6_worst_27 : decode cX6_worst 27 = .ok (.invokevirtual 230, 3) := by decide +kernel
theorem dX6_worst_30 : decode cX6_worst 30 = .ok (.aload_n 0, 1) := by decide +kernel
theorem dX6_worst_31 : decode cX6_worst 31 = .ok (.getfield 10, 3) := by decide +kernel
theorem dX6_worst_34 : decode cX6_worst 34 = .ok (.iload_n 1, 1) := by decide +kernel
theorem dX6_worst_35 : decode cX6_worst 35 = .ok (.aload_n 0, 1) := by decide +kernel
theorem dX6_worst_36 : decode cX6_worst 36 = .ok (.getfield 10, 3) := by decide +kernel
theorem dX6_worst_39 : decode cX6_worst 39 = .ok (.getfield 142, 3) := by decide +kernel
theorem dX6_worst_42 : decode cX6_worst 42 = .ok (.invokevirtual 230, 3) := by decide +kernel
theorem dX6_worst_45 : decode cX6_worst 45 = .ok (.if_icmp .le 5, 3) := by decide +kernel
theorem dX6_worst_48 : decode cX6_worst 48 = .ok (.iload_n 2, 1) := by decide +kernel
theorem dX6_worst_49 : decode cX6_worst 49 = .ok (.istore_n 1, 1) := by decide +kernel
theorem dX6_worst_50 : decode cX6_worst 50 = .ok (.iinc 2 1, 3) := by decide +kernel
theorem dX6_worst_53 : decode cX6_worst 53 = .ok (.goto (-49), 3) := by decide +kernel
theorem dX6_worst_56 : decode cX6_worst 56 = .ok (.iload_n 1, 1) := by decide +kernel
theorem dX6_worst_57 : decode cX6_worst 57 = .ok (.ireturn, 1) := by decide +kernel
theorem dX6_which_0 : decode cX6_which 0 = .ok (.aload_n 0, 1) := by decide +kernel
theorem dX6_which_1 : decode cX6_which 1 = .ok (.getfield 10, 3) := by decide +kernel
theorem dX6_which_4 : decode cX6_which 4 = .ok (.iload_n 1, 1) := by decide +kernel
theorem dX6_which_5 : decode cX6_which 5 = .ok (.invokevirtual 88, 3) := by decide +kernel
theorem dX6_which_8 : decode cX6_which 8 = .ok (.ifCond .ne 9, 3) := by decide +kernel
theorem dX6_which_11 : decode cX6_which 11 = .ok (.aload_n 0, 1) := by decide +kernel
theorem dX6_which_12 : decode cX6_which 12 = .ok (.iconst (-1), 1) := by decide +kernel
theorem dX6_which_13 : decode cX6_which 13 = .ok (.invokevirtual 62, 3) := by decide +kernel
theorem dX6_which_16 : decode cX6_which 16 = .ok (.ireturn, 1) := by decide +kernel
theorem dX6_which_17 : decode cX6_which 17 = .ok (.iload_n 2, 1) := by decide +kernel
theorem dX6_which_18 : decode cX6_which 18 = .ok (.ifCond .eq 15, 3) := by decide +kernel
theorem dX6_which_21 : decode cX6_which 21 = .ok (.iload_n 2, 1) := by decide +kernel
theorem dX6_which_22 : decode cX6_which 22 = .ok (.iconst 1, 1) := by decide +kernel
theorem dX6_which_23 : decode cX6_which 23 = .ok (.if_icmp .eq 10, 3) := by decide +kernel
theorem dX6_which_26 : decode cX6_which 26 = .ok (.aload_n 0, 1) := by decide +kernel
theorem dX6_which_27 : decode cX6_which 27 = .ok (.bipush (-2), 2) := by decide +kernel
theorem dX6_which_29 : decode cX6_which 29 = .ok (.invokevirtual 62, 3) := by decide +kernel
theorem dX6_which_32 : decode cX6_which 32 = .ok (.ireturn, 1) := by decide +kernel
theorem dX6_which_33 : decode cX6_which 33 = .ok (.iload_n 2, 1) := by decide +kernel
theorem dX6_which_34 : decode cX6_which 34 = .ok (.ifCond .ne 11, 3) := by decide +kernel
theorem dX6_which_37 : decode cX6_which 37 = .ok (.aload_n 0, 1) := by decide +kernel
theorem dX6_which_38 : decode cX6_which 38 = .ok (.iload_n 1, 1) := by decide +kernel
theorem dX6_which_39 : decode cX6_which 39 = .ok (.invokevirtual 233, 3) := by decide +kernel
theorem dX6_which_42 : decode cX6_which 42 = .ok (.goto 7, 3) := by decide +kernel
theorem dX6_which_45 : decode cX6_which 45 = .ok (.aload_n 0, 1) := by decide +kernel
theorem dX6_which_46 : decode cX6_which 46 = .ok (.invokevirtual 236, 3) := by decide +kernel
theorem dX6_which_49 : decode cX6_which 49 = .ok (.ireturn, 1) := by decide +kernel
theorem dX6_row_0 : decode cX6_row 0 = .ok (.iload_n 1, 1) := by decide +kernel
theorem dX6_row_1 : decode cX6_row 1 = .ok (.iconst 0, 1) := by decide +kernel
theorem dX6_row_2 : decode cX6_row 2 = .ok (.bipush 99, 2) := by decide +kernel
theorem dX6_row_4 : decode cX6_row 4 = .ok (.invokestatic 58, 3) := by decide +kernel
theorem dX6_row_7 : decode cX6_row 7 = .ok (.istore_n 2, 1) := by decide +kernel
theorem dX6_row_8 : decode cX6_row 8 = .ok (.iload_n 2, 1) := by decide +kernel
theorem dX6_row_9 : decode cX6_row 9 = .ok (.ifCond .eq 9, 3) := by decide +kernel
theorem dX6_row_12 : decode cX6_row 12 = .ok (.aload_n 0, 1) := by decide +kernel
theorem dX6_row_13 : decode cX6_row 13 = .ok (.iload_n 2, 1) := by decide +kernel
theorem dX6_row_14 : decode cX6_row 14 = .ok (.invokevirtual 62, 3) := by decide +kernel
theorem dX6_row_17 : decode cX6_row 17 = .ok (.ireturn, 1) := by decide +kernel
theorem dX6_row_18 : decode cX6_row 18 = .ok (.aload_n 0, 1) := by decide +kernel
theorem dX6_row_19 : decode cX6_row 19 = .ok (.getfield 50, 3) := by decide +kernel
theorem dX6_row_22 : decode cX6_row 22 = .ok (.invokevirtual 239, 3) := by decide +kernel
theorem dX6_row_25 : decode cX6_row 25 = .ok (.ifCond .eq 10, 3) := by decide +kernel
theorem dX6_row_28 : decode cX6_row 28 = .ok (.aload_n 0, 1) := by decide +kernel
theorem dX6_row_29 : decode cX6_row 29 = .ok (.bipush (-6), 2) := by decide +kernel
theorem dX6_row_31 : decode cX6_row 31 = .ok (.invokevirtual 62, 3) := by decide +kernel
theorem dX6_row_34 : decode cX6_row 34 = .ok (.ireturn, 1) := by decide +kernel
theorem dX6_row_35 : decode cX6_row 35 = .ok (.aload_n 0, 1) := by decide +kernel
theorem dX6_row_36 : decode cX6_row 36 = .ok (.getfield 50, 3) := by decide +kernel
theorem dX6_row_39 : decode cX6_row 39 = .ok (.iload_n 1, 1) := by decide +kernel
theorem dX6_row_40 : decode cX6_row 40 = .ok (.invokevirtual 240, 3) := by decide +kernel
theorem dX6_row_43 : decode cX6_row 43 = .ok (.aload_n 0, 1) := by decide +kernel
theorem dX6_row_44 : decode cX6_row 44 = .ok (.getfield 50, 3) := by decide +kernel
theorem dX6_row_47 : decode cX6_row 47 = .ok (.getfield 241, 3) := by decide +kernel
theorem dX6_row_50 : decode cX6_row 50 = .ok (.ireturn, 1) := by decide +kernel
theorem dX6_judge_0 : decode cX6_judge 0 = .ok (.iload_n 1, 1) := by decide +kernel
theorem dX6_judge_1 : decode cX6_judge 1 = .ok (.invokestatic 119, 3) := by decide +kernel
theorem dX6_judge_4 : decode cX6_judge 4 = .ok (.ifCond .ne 9, 3) := by decide +kernel
theorem dX6_judge_7 : decode cX6_judge 7 = .ok (.aload_n 0, 1) := by decide +kernel
theorem dX6_judge_8 : decode cX6_judge 8 = .ok (.iconst (-1), 1) := by decide +kernel
theorem dX6_judge_9 : decode cX6_judge 9 = .ok (.invokevirtual 62, 3) := by decide +kernel
theorem dX6_judge_12 : decode cX6_judge 12 = .ok (.ireturn, 1) := by decide +kernel
theorem dX6_judge_13 : decode cX6_judge 13 = .ok (.aload_n 0, 1) := by decide +kernel
theorem dX6_judge_14 : decode cX6_judge 14 = .ok (.getfield 16, 3) := by decide +kernel
theorem dX6_judge_17 : decode cX6_judge 17 = .ok (.aload_n 0, 1) := by decide +kernel
theorem dX6_judge_18 : decode cX6_judge 18 = .ok (.getfield 10, 3) := by decide +kernel
theorem dX6_judge_21 : decode cX6_judge 21 = .ok (.invokevirtual 195, 3) := by decide +kernel
theorem dX6_judge_24 : decode cX6_judge 24 = .ok (.aload_n 0, 1) := by decide +kernel
theorem dX6_judge_25 : decode cX6_judge 25 = .ok (.getfield 50, 3) := by decide +kernel
theorem dX6_judge_28 : decode cX6_judge 28 = .ok (.aload_n 0, 1) := by decide +kernel
theorem dX6_judge_29 : decode cX6_judge 29 = .ok (.getfield 16, 3) := by decide +kernel
theorem dX6_judge_32 : decode cX6_judge 32 = .ok (.iload_n 1, 1) := by decide +kernel
theorem dX6_judge_33 : decode cX6_judge 33 = .ok (.invokevirtual 242, 3) := by decide +kernel
theorem dX6_judge_36 : decode cX6_judge 36 = .ok (.istore_n 2, 1) := by decide +kernel
theorem dX6_judge_37 : decode cX6_judge 37 = .ok (.aload_n 0, 1) := by decide +kernel
theorem dX6_judge_38 : decode cX6_judge 38 = .ok (.getfield 50, 3) := by decide +kernel
theorem dX6_judge_41 : decode cX6_judge 41 = .ok (.invokevirtual 246, 3) := by decide +kernel
theorem dX6_judge_44 : decode cX6_judge 44 = .ok (.iload_n 2, 1) := by decide +kernel
theorem dX6_judge_45 : decode cX6_judge 45 = .ok (.ireturn, 1) := by decide +kernel
theorem dX6_lots_0 : decode cX6_lots 0 = .ok (.iload_n 1, 1) := by decide +kernel
theorem dX6_lots_1 : decode cX6_lots 1 = .ok (.iconst 1, 1) := by decide +kernel
theorem dX6_lots_2 : decode cX6_lots 2 = .ok (.bipush 20, 2) := by decide +kernel
theorem dX6_lots_4 : decode cX6_lots 4 = .ok (.invokestatic 58, 3) := by decide +kernel
theorem dX6_lots_7 : decode cX6_lots 7 = .ok (.istore 4, 2) := by decide +kernel
theorem dX6_lots_9 : decode cX6_lots 9 = .ok (.iload 4, 2) := by decide +kernel
theorem dX6_lots_11 : decode cX6_lots 11 = .ok (.ifCond .eq 10, 3) := by decide +kernel
theorem dX6_lots_14 : decode cX6_lots 14 = .ok (.aload_n 0, 1) := by decide +kernel
theorem dX6_lots_15 : decode cX6_lots 15 = .ok (.iload 4, 2) := by decide +kernel
theorem dX6_lots_17 : decode cX6_lots 17 = .ok (.invokevirtual 62, 3) := by decide +kernel
theorem dX6_lots_20 : decode cX6_lots 20 = .ok (.ireturn, 1) := by decide +kernel
theorem dX6_lots_21 : decode cX6_lots 21 = .ok (.iload_n 3, 1) := by decide +kernel
theorem dX6_lots_22 : decode cX6_lots 22 = .ok (.ifCond .eq 15, 3) := by decide +kernel
theorem dX6_lots_25 : decode cX6_lots 25 = .ok (.iload_n 3, 1) := by decide +kernel
theorem dX6_lots_26 : decode cX6_lots 26 = .ok (.iconst 1, 1) := by decide +kernel
theorem dX6_lots_27 : decode cX6_lots 27 = .ok (.if_icmp .eq 10, 3) := by decide +kernel
theorem dX6_lots_30 : decode cX6_lots 30 = .ok (.aload_n 0, 1) := by decide +kernel
theorem dX6_lots_31 : decode cX6_lots 31 = .ok (.bipush (-2), 2) := by decide +kernel
theorem dX6_lots_33 : decode cX6_lots 33 = .ok (.invokevirtual 62, 3) := by decide +kernel
theorem dX6_lots_36 : decode cX6_lots 36 = .ok (.ireturn, 1) := by decide +kernel
theorem dX6_lots_37 : decode cX6_lots 37 = .ok (.iload_n 2, 1) := by decide +kernel
theorem dX6_lots_38 : decode cX6_lots 38 = .ok (.istore 5, 2) := by decide +kernel
theorem dX6_lots_40 : decode cX6_lots 40 = .ok (.iconst 0, 1) := by decide +kernel
theorem dX6_lots_41 : decode cX6_lots 41 = .ok (.istore 6, 2) := by decide +kernel
theorem dX6_lots_43 : decode cX6_lots 43 = .ok (.iconst 0, 1) := by decide +kernel
theorem dX6_lots_44 : decode cX6_lots 44 = .ok (.istore 7, 2) := by decide +kernel
theorem dX6_lots_46 : decode cX6_lots 46 = .ok (.iconst 0, 1) := by decide +kernel
theorem dX6_lots_47 : decode cX6_lots 47 = .ok (.istore 8, 2) := by decide +kernel
theorem dX6_lots_49 : decode cX6_lots 49 = .ok (.iload 8, 2) := by decide +kernel
theorem dX6_lots_51 : decode cX6_lots 51 = .ok (.iload_n 1, 1) := by decide +kernel
theorem dX6_lots_52 : decode cX6_lots 52 = .ok (.if_icmp .ge 94, 3) := by decide +kernel
theorem dX6_lots_55 : decode cX6_lots 55 = .ok (.iload 5, 2) := by decide +kernel
theorem dX6_lots_57 : decode cX6_lots 57 = .ok (.ldc 247, 2) := by decide +kernel
theorem dX6_lots_59 : decode cX6_lots 59 = .ok (.imul, 1) := by decide +kernel
theorem dX6_lots_60 : decode cX6_lots 60 = .ok (.ldc 248, 2) := by decide +kernel
theorem dX6_lots_62 : decode cX6_lots 62 = .ok (.iadd, 1) := by decide +kernel
theorem dX6_lots_63 : decode cX6_lots 63 = .ok (.istore 5, 2) := by decide +kernel
theorem dX6_lots_65 : decode cX6_lots 65 = .ok (.aload_n 0, 1) := by decide +kernel
theorem dX6_lots_66 : decode cX6_lots 66 = .ok (.getfield 16, 3) := by decide +kernel
theorem dX6_lots_69 : decode cX6_lots 69 = .ok (.aload_n 0, 1) := by decide +kernel
theorem dX6_lots_70 : decode cX6_lots 70 = .ok (.getfield 10, 3) := by decide +kernel
theorem dX6_lots_73 : decode cX6_lots 73 = .ok (.invokevirtual 195, 3) := by decide +kernel
theorem dX6_lots_76 : decode cX6_lots 76 = .ok (.aload_n 0, 1) := by decide +kernel
theorem dX6_lots_77 : decode cX6_lots 77 = .ok (.getfield 16, 3) := by decide +kernel
theorem dX6_lots_80 : decode cX6_lots 80 = .ok (.iload 5, 2) := by decide +kernel
theorem dX6_lots_82 : decode cX6_lots 82 = .ok (.ldc 249, 2) := by decide +kernel
theorem dX6_lots_84 : decode cX6_lots 84 = .ok (.iand, 1) := by decide +kernel
theorem dX6_lots_85 : decode cX6_lots 85 = .ok (.sipush 256, 3) := by decide +kernel
theorem dX6_lots_88 : decode cX6_lots 88 = .ok (.idiv, 1) := by decide +kernel
theorem dX6_lots_89 : decode cX6_lots 89 = .ok (.bipush 10, 2) := by decide +kernel
theorem dX6_lots_91 : decode cX6_lots 91 = .ok (.irem, 1) := by decide +kernel
theorem dX6_lots_92 : decode cX6_lots 92 = .ok (.putfield 145, 3) := by decide +kernel
theorem dX6_lots_95 : decode cX6_lots 95 = .ok (.aload_n 0, 1) := by decide +kernel
theorem dX6_lots_96 : decode cX6_lots 96 = .ok (.getfield 16, 3) := by decide +kernel
theorem dX6_lots_99 : decode cX6_lots 99 = .ok (.bipush 10, 2) := by decide +kernel
theorem dX6_lots_101 : decode cX6_lots 101 = .ok (.invokevirtual 169, 3) := by decide +kernel
theorem dX6_lots_104 : decode cX6_lots 104 = .ok (.iload 6, 2) := by decide +kernel
theorem dX6_lots_106 : decode cX6_lots 106 = .ok (.aload_n 0, 1) := by decide +kernel
theorem dX6_lots_107 : decode cX6_lots 107 = .ok (.getfield 16, 3) := by decide +kernel
theorem dX6_lots_110 : decode cX6_lots 110 = .ok (.invokevirtual 172, 3) := by decide +kernel
theorem dX6_lots_113 : decode cX6_lots 113 = .ok (.ifCond .le 7, 3) := by decide +kernel
theorem dX6_lots_116 : decode cX6_lots 116 = .ok (.iconst 1, 1) := by decide +kernel
theorem dX6_lots_117 : decode cX6_lots 117 = .ok (.goto 4, 3) := by decide +kernel
theorem dX6_lots_120 : decode cX6_lots 120 = .ok (.iconst 0, 1) := by decide +kernel
theorem dX6_lots_121 : decode cX6_lots 121 = .ok (.iadd, 1) := by decide +kernel
theorem dX6_lots_122 : decode cX6_lots 122 = .ok (.istore 6, 2) := by decide +kernel
theorem dX6_lots_124 : decode cX6_lots 124 = .ok (.iload 7, 2) := by decide +kernel
theorem dX6_lots_126 : decode cX6_lots 126 = .ok (.aload_n 0, 1) := by decide +kernel
theorem dX6_lots_127 : decode cX6_lots 127 = .ok (.iconst 0, 1) := by decide +kernel
theorem dX6_lots_128 : decode cX6_lots 128 = .ok (.invokevirtual 250, 3) := by decide +kernel
theorem dX6_lots_131 : decode cX6_lots 131 = .ok (.aload_n 0, 1) := by decide +kernel
theorem dX6_lots_132 : decode cX6_lots 132 = .ok (.iconst 1, 1) := by decide +kernel
theorem dX6_lots_133 : decode cX6_lots 133 = .ok (.invokevirtual 250, 3) := by decide +kernel
theorem dX6_lots_136 : decode cX6_lots 136 = .ok (.iadd, 1) := by decide +kernel
theorem dX6_lots_137 : decode cX6_lots 137 = .ok (.iadd, 1) := by decide +kernel
theorem dX6_lots_138 : decode cX6_lots 138 = .ok (.istore 7, 2) := by decide +kernel
theorem dX6_lots_140 : decode cX6_lots 140 = .ok (.iinc 8 1, 3) := by decide +kernel
theorem dX6_lots_143 : decode cX6_lots 143 = .ok (.goto (-94), 3) := by decide +kernel
theorem dX6_lots_146 : decode cX6_lots 146 = .ok (.iload_n 3, 1) := by decide +kernel
theorem dX6_lots_147 : decode cX6_lots 147 = .ok (.ifCond .ne 8, 3) := by decide +kernel
theorem dX6_lots_150 : decode cX6_lots 150 = .ok (.iload 6, 2) := by decide +kernel
theorem dX6_lots_152 : decode cX6_lots 152 = .ok (.goto 5, 3) := by decide +kernel
theorem dX6_lots_155 : decode cX6_lots 155 = .ok (.iload 7, 2) := by decide +kernel
theorem dX6_lots_157 : decode cX6_lots 157 = .ok (.ireturn, 1) := by decide +kernel
theorem dX6_image_0 : decode cX6_image 0 = .ok (.aload_n 0, 1) := by decide +kernel
theorem dX6_image_1 : decode cX6_image 1 = .ok (.getfield 19, 3) := by decide +kernel
theorem dX6_image_4 : decode cX6_image 4 = .ok (.aload_n 0, 1) := by decide +kernel
theorem dX6_image_5 : decode cX6_image 5 = .ok (.getfield 10, 3) := by decide +kernel
theorem dX6_image_8 : decode cX6_image 8 = .ok (.invokevirtual 195, 3) := by decide +kernel
theorem dX6_image_11 : decode cX6_image 11 = .ok (.aload_n 0, 1) := by decide +kernel
theorem dX6_image_12 : decode cX6_image 12 = .ok (.iconst 1, 1) := by decide +kernel
theorem dX6_image_13 : decode cX6_image 13 = .ok (.putfield 22, 3) := by decide +kernel
theorem dX6_image_16 : decode cX6_image 16 = .ok (.aload_n 0, 1) := by decide +kernel
theorem dX6_image_17 : decode cX6_image 17 = .ok (.getfield 10, 3) := by decide +kernel
theorem dX6_image_20 : decode cX6_image 20 = .ok (.getfield 116, 3) := by decide +kernel
theorem dX6_image_23 : decode cX6_image 23 = .ok (.ireturn, 1) := by decide +kernel
theorem dX6_on_0 : decode cX6_on 0 = .ok (.aload_n 0, 1) := by decide +kernel
theorem dX6_on_1 : decode cX6_on 1 = .ok (.getfield 22, 3) := by decide +kernel
theorem dX6_on_4 : decode cX6_on 4 = .ok (.ifCond .ne 10, 3) := by decide +kernel
theorem dX6_on_7 : decode cX6_on 7 = .ok (.aload_n 0, 1) := by decide +kernel
theorem dX6_on_8 : decode cX6_on 8 = .ok (.bipush (-3), 2) := by decide +kernel
theorem dX6_on_10 : decode cX6_on 10 = .ok (.invokevirtual 62, 3) := by decide +kernel
theorem dX6_on_13 : decode cX6_on 13 = .ok (.ireturn, 1) := by decide +kernel
theorem dX6_on_14 : decode cX6_on 14 = .ok (.aload_n 0, 1) := by decide +kernel
theorem dX6_on_15 : decode cX6_on 15 = .ok (.getfield 10, 3) := by decide +kernel
theorem dX6_on_18 : decode cX6_on 18 = .ok (.aload_n 0, 1) := by decide +kernel
theorem dX6_on_19 : decode cX6_on 19 = .ok (.getfield 19, 3) := by decide +kernel
theorem dX6_on_22 : decode cX6_on 22 = .ok (.invokevirtual 195, 3) := by decide +kernel
theorem dX6_on_25 : decode cX6_on 25 = .ok (.aload_n 0, 1) := by decide +kernel
theorem dX6_on_26 : decode cX6_on 26 = .ok (.getfield 10, 3) := by decide +kernel
theorem dX6_on_29 : decode cX6_on 29 = .ok (.getfield 116, 3) := by decide +kernel
theorem dX6_on_32 : decode cX6_on 32 = .ok (.ireturn, 1) := by decide +kernel
theorem dX6_count_0 : decode cX6_count 0 = .ok (.iload_n 1, 1) := by decide +kernel
theorem dX6_count_1 : decode cX6_count 1 = .ok (.tableswitch 157 0 8 #[51, 59, 67, 101, 117, 125, 133, 141, 149], 51) := by decide +kernel
theorem dX6_count_52 : decode cX6_count 52 = .ok (.aload_n 0, 1) := by decide +kernel
theorem dX6_count_53 : decode cX6_count 53 = .ok (.getfield 10, 3) := by decide +kernel
theorem dX6_count_56 : decode cX6_count 56 = .ok (.getfield 116, 3) := by decide +kernel
theorem dX6_count_59 : decode cX6_count 59 = .ok (.ireturn, 1) := by decide +kernel
theorem dX6_count_60 : decode cX6_count 60 = .ok (.aload_n 0, 1) := by decide +kernel
theorem dX6_count_61 : decode cX6_count 61 = .ok (.getfield 10, 3) := by decide +kernel
theorem dX6_count_64 : decode cX6_count 64 = .ok (.invokevirtual 172, 3) := by decide +kernel
theorem dX6_count_67 : decode cX6_count 67 = .ok (.ireturn, 1) := by decide +kernel
theorem dX6_count_68 : decode cX6_count 68 = .ok (.aload_n 0, 1) := by decide +kernel
theorem dX6_count_69 : decode cX6_count 69 = .ok (.getfield 10, 3) := by decide +kernel
theorem dX6_count_72 : decode cX6_count 72 = .ok (.iconst 0, 1) := by decide +kernel
theorem dX6_count_73 : decode cX6_count 73 = .ok (.invokevirtual 132, 3) := by decide +kernel
theorem dX6_count_76 : decode cX6_count 76 = .ok (.ifCond .eq 7, 3) := by decide +kernel
theorem dX6_count_79 : decode cX6_count 79 = .ok (.iconst 1, 1) := by decide +kernel
theorem dX6_count_80 : decode cX6_count 80 = .ok (.goto 4, 3) := by decide +kernel
theorem dX6_count_83 : decode cX6_count 83 = .ok (.iconst 0, 1) := by decide +kernel
theorem dX6_count_84 : decode cX6_count 84 = .ok (.aload_n 0, 1) := by decide +kernel
theorem dX6_count_85 : decode cX6_count 85 = .ok (.getfield 10, 3) := by decide +kernel
theorem dX6_count_88 : decode cX6_count 88 = .ok (.iconst 1, 1) := by decide +kernel
theorem dX6_count_89 : decode cX6_count 89 = .ok (.invokevirtual 132, 3) := by decide +kernel
theorem dX6_count_92 : decode cX6_count 92 = .ok (.ifCond .eq 7, 3) := by decide +kernel
theorem dX6_count_95 : decode cX6_count 95 = .ok (.iconst 1, 1) := by decide +kernel
theorem dX6_count_96 : decode cX6_count 96 = .ok (.goto 4, 3) := by decide +kernel
theorem dX6_count_99 : decode cX6_count 99 = .ok (.iconst 0, 1) := by decide +kernel
theorem dX6_count_100 : decode cX6_count 100 = .ok (.iadd, 1) := by decide +kernel
theorem dX6_count_101 : decode cX6_count 101 = .ok (.ireturn, 1) := by decide +kernel
theorem dX6_count_102 : decode cX6_count 102 = .ok (.aload_n 0, 1) := by decide +kernel
theorem dX6_count_103 : decode cX6_count 103 = .ok (.getfield 10, 3) := by decide +kernel
theorem dX6_count_106 : decode cX6_count 106 = .ok (.getfield 139, 3) := by decide +kernel
theorem dX6_count_109 : decode cX6_count 109 = .ok (.ifCond .eq 7, 3) := by decide +kernel
theorem dX6_count_112 : decode cX6_count 112 = .ok (.iconst 1, 1) := by decide +kernel
theorem dX6_count_113 : decode cX6_count 113 = .ok (.goto 4, 3) := by decide +kernel
theorem dX6_count_116 : decode cX6_count 116 = .ok (.iconst 0, 1) := by decide +kernel
theorem dX6_count_117 : decode cX6_count 117 = .ok (.ireturn, 1) := by decide +kernel
theorem dX6_count_118 : decode cX6_count 118 = .ok (.aload_n 0, 1) := by decide +kernel
theorem dX6_count_119 : decode cX6_count 119 = .ok (.getfield 10, 3) := by decide +kernel
theorem dX6_count_122 : decode cX6_count 122 = .ok (.getfield 142, 3) := by decide +kernel
theorem dX6_count_125 : decode cX6_count 125 = .ok (.ireturn, 1) := by decide +kernel
theorem dX6_count_126 : decode cX6_count 126 = .ok (.aload_n 0, 1) := by decide +kernel
theorem dX6_count_127 : decode cX6_count 127 = .ok (.getfield 10, 3) := by decide +kernel
theorem dX6_count_130 : decode cX6_count 130 = .ok (.getfield 145, 3) := by decide +kernel
theorem dX6_count_133 : decode cX6_count 133 = .ok (.ireturn, 1) := by decide +kernel
theorem dX6_count_134 : decode cX6_count 134 = .ok (.aload_n 0, 1) := by decide +kernel
theorem dX6_count_135 : decode cX6_count 135 = .ok (.getfield 10, 3) := by decide +kernel
theorem dX6_count_138 : decode cX6_count 138 = .ok (.invokevirtual 253, 3) := by decide +kernel
theorem dX6_count_141 : decode cX6_count 141 = .ok (.ireturn, 1) := by decide +kernel
theorem dX6_count_142 : decode cX6_count 142 = .ok (.aload_n 0, 1) := by decide +kernel
theorem dX6_count_143 : decode cX6_count 143 = .ok (.getfield 50, 3) := by decide +kernel
theorem dX6_count_146 : decode cX6_count 146 = .ok (.getfield 241, 3) := by decide +kernel
theorem dX6_count_149 : decode cX6_count 149 = .ok (.ireturn, 1) := by decide +kernel
theorem dX6_count_150 : decode cX6_count 150 = .ok (.aload_n 0, 1) := by decide +kernel
theorem dX6_count_151 : decode cX6_count 151 = .ok (.getfield 43, 3) := by decide +kernel
theorem dX6_count_154 : decode cX6_count 154 = .ok (.getfield 74, 3) := by decide +kernel
theorem dX6_count_157 : decode cX6_count 157 = .ok (.ireturn, 1) := by decide +kernel
theorem dX6_count_158 : decode cX6_count 158 = .ok (.aload_n 0, 1) := by decide +kernel
theorem dX6_count_159 : decode cX6_count 159 = .ok (.iload_n 1, 1) := by decide +kernel
theorem dX6_count_160 : decode cX6_count 160 = .ok (.bipush 10, 2) := by decide +kernel
theorem dX6_count_162 : decode cX6_count 162 = .ok (.isub, 1) := by decide +kernel
theorem dX6_count_163 : decode cX6_count 163 = .ok (.invokevirtual 256, 3) := by decide +kernel
theorem dX6_count_166 : decode cX6_count 166 = .ok (.ireturn, 1) := by decide +kernel
theorem dX6_isEnd_0 : decode cX6_isEnd 0 = .ok (.iload_n 0, 1) := by decide +kernel
theorem dX6_isEnd_1 : decode cX6_isEnd 1 = .ok (.ifCond .eq 8, 3) := by decide +kernel
theorem dX6_isEnd_4 : decode cX6_isEnd 4 = .ok (.iload_n 0, 1) := by decide +kernel
theorem dX6_isEnd_5 : decode cX6_isEnd 5 = .ok (.iconst 1, 1) := by decide +kernel
theorem dX6_isEnd_6 : decode cX6_isEnd 6 = .ok (.if_icmp .ne 7, 3) := by decide +kernel
theorem dX6_isEnd_9 : decode cX6_isEnd 9 = .ok (.iconst 1, 1) := by decide +kernel
theorem dX6_isEnd_10 : decode cX6_isEnd 10 = .ok (.goto 4, 3) := by decide +kernel
theorem dX6_isEnd_13 : decode cX6_isEnd 13 = .ok (.iconst 0, 1) := by decide +kernel
theorem dX6_isEnd_14 : decode cX6_isEnd 14 = .ok (.ireturn, 1) := by decide +kernel
theorem dX6_outside_0 : decode cX6_outside 0 = .ok (.iload_n 0, 1) := by decide +kernel
theorem dX6_outside_1 : decode cX6_outside 1 = .ok (.iload_n 1, 1) := by decide +kernel
theorem dX6_outside_2 : decode cX6_outside 2 = .ok (.if_icmp .ge 6, 3) := by decide +kernel
theorem dX6_outside_5 : decode cX6_outside 5 = .ok (.bipush (-4), 2) := by decide +kernel
theorem dX6_outside_7 : decode cX6_outside 7 = .ok (.ireturn, 1) := by decide +kernel
theorem dX6_outside_8 : decode cX6_outside 8 = .ok (.iload_n 0, 1) := by decide +kernel
theorem dX6_outside_9 : decode cX6_outside 9 = .ok (.iload_n 2, 1) := by decide +kernel
theorem dX6_outside_10 : decode cX6_outside 10 = .ok (.if_icmp .le 8, 3) := by decide +kernel
theorem dX6_outside_13 : decode cX6_outside 13 = .ok (.bipush (-6), 2) := by decide +kernel
theorem dX6_outside_15 : decode cX6_outside 15 = .ok (.goto 4, 3) := by decide +kernel
theorem dX6_outside_18 : decode cX6_outside 18 = .ok (.iconst 0, 1) := by decide +kernel
theorem dX6_outside_19 : decode cX6_outside 19 = .ok (.ireturn, 1) := by decide +kernel
theorem dX6_refuse_0 : decode cX6_refuse 0 = .ok (.iload_n 1, 1) := by decide +kernel
theorem dX6_refuse_1 : decode cX6_refuse 1 = .ok (.ineg, 1) := by decide +kernel
theorem dX6_refuse_2 : decode cX6_refuse 2 = .ok (.istore_n 2, 1) := by decide +kernel
theorem dX6_refuse_3 : decode cX6_refuse 3 = .ok (.iload_n 2, 1) := by decide +kernel
theorem dX6_refuse_4 : decode cX6_refuse 4 = .ok (.ifCond .lt 22, 3) := by decide +kernel
theorem dX6_refuse_7 : decode cX6_refuse 7 = .ok (.iload_n 2, 1) := by decide +kernel
theorem dX6_refuse_8 : decode cX6_refuse 8 = .ok (.aload_n 0, 1) := by decide +kernel
theorem dX6_refuse_9 : decode cX6_refuse 9 = .ok (.getfield 54, 3) := by decide +kernel
theorem dX6_refuse_12 : decode cX6_refuse 12 = .ok (.arraylength, 1) := by decide +kernel
theorem dX6_refuse_13 : decode cX6_refuse 13 = .ok (.if_icmp .ge 13, 3) := by decide +kernel
theorem dX6_refuse_16 : decode cX6_refuse 16 = .ok (.aload_n 0, 1) := by decide +kernel
theorem dX6_refuse_17 : decode cX6_refuse 17 = .ok (.getfield 54, 3) := by decide +kernel
theorem dX6_refuse_20 : decode cX6_refuse 20 = .ok (.iload_n 2, 1) := by decide +kernel
theorem dX6_refuse_21 : decode cX6_refuse 21 = .ok (.dup2, 1) := by decide +kernel
theorem dX6_refuse_22 : decode cX6_refuse 22 = .ok (.iaload, 1) := by decide +kernel
theorem dX6_refuse_23 : decode cX6_refuse 23 = .ok (.iconst 1, 1) := by decide +kernel
theorem dX6_refuse_24 : decode cX6_refuse 24 = .ok (.iadd, 1) := by decide +kernel
theorem dX6_refuse_25 : decode cX6_refuse 25 = .ok (.iastore, 1) := by decide +kernel
theorem dX6_refuse_26 : decode cX6_refuse 26 = .ok (.iload_n 1, 1) := by decide +kernel
theorem dX6_refuse_27 : decode cX6_refuse 27 = .ok (.ireturn, 1) := by decide +kernel
theorem dX6_refuseAsTold_0 : decode cX6_refuseAsTold 0 = .ok (.ldc_w 259, 3) := by decide +kernel
theorem dX6_refuseAsTold_3 : decode cX6_refuseAsTold 3 = .ok (.aload_n 0, 1) := by decide +kernel
theorem dX6_refuseAsTold_4 : decode cX6_refuseAsTold 4 = .ok (.iload_n 1, 1) := by decide +kernel
theorem dX6_refuseAsTold_5 : decode cX6_refuseAsTold 5 = .ok (.invokevirtual 62, 3) := by decide +kernel
theorem dX6_refuseAsTold_8 : decode cX6_refuseAsTold 8 = .ok (.isub, 1) := by decide +kernel
theorem dX6_refuseAsTold_9 : decode cX6_refuseAsTold 9 = .ok (.ireturn, 1) := by decide +kernel
theorem dX6_refusalsAt_0 : decode cX6_refusalsAt 0 = .ok (.iload_n 1, 1) := by decide +kernel
theorem dX6_refusalsAt_1 : decode cX6_refusalsAt 1 = .ok (.iconst 1, 1) := by decide +kernel
theorem dX6_refusalsAt_2 : decode cX6_refusalsAt 2 = .ok (.if_icmp .lt 21, 3) := by decide +kernel
theorem dX6_refusalsAt_5 : decode cX6_refusalsAt 5 = .ok (.iload_n 1, 1) := by decide +kernel
theorem dX6_refusalsAt_6 : decode cX6_refusalsAt 6 = .ok (.aload_n 0, 1) := by decide +kernel
theorem dX6_refusalsAt_7 : decode cX6_refusalsAt 7 = .ok (.getfield 54, 3) := by decide +kernel
theorem dX6_refusalsAt_10 : decode cX6_refusalsAt 10 = .ok (.arraylength, 1) := by decide +kernel
theorem dX6_refusalsAt_11 : decode cX6_refusalsAt 11 = .ok (.if_icmp .ge 12, 3) := by decide +kernel
theorem dX6_refusalsAt_14 : decode cX6_refusalsAt 14 = .ok (.aload_n 0, 1) := by decide +kernel
theorem dX6_refusalsAt_15 : decode cX6_refusalsAt 15 = .ok (.getfield 54, 3) := by decide +kernel
theorem dX6_refusalsAt_18 : decode cX6_refusalsAt 18 = .ok (.iload_n 1, 1) := by decide +kernel
theorem dX6_refusalsAt_19 : decode cX6_refusalsAt 19 = .ok (.iaload, 1) := by decide +kernel
theorem dX6_refusalsAt_20 : decode cX6_refusalsAt 20 = .ok (.goto 5, 3) := by decide +kernel
theorem dX6_refusalsAt_23 : decode cX6_refusalsAt 23 = .ok (.bipush (-9), 2) := by decide +kernel
theorem dX6_refusalsAt_25 : decode cX6_refusalsAt 25 = .ok (.ireturn, 1) := by decide +kernel
theorem dX6_statementsCome_0 : decode cX6_statementsCome 0 = .ok (.aload_n 0, 1) := by decide +kernel
theorem dX6_statementsCome_1 : decode cX6_statementsCome 1 = .ok (.getfield 16, 3) := by decide +kernel
theorem dX6_statementsCome_4 : decode cX6_statementsCome 4 = .ok (.aload_n 0, 1) := by decide +kernel
theorem dX6_statementsCome_5 : decode cX6_statementsCome 5 = .ok (.getfield 10, 3) := by decide +kernel
theorem dX6_statementsCome_8 : decode cX6_statementsCome 8 = .ok (.invokevirtual 195, 3) := by decide +kernel
theorem dX6_statementsCome_11 : decode cX6_statementsCome 11 = .ok (.iconst 0, 1) := by decide +kernel
theorem dX6_statementsCome_12 : decode cX6_statementsCome 12 = .ok (.istore_n 1, 1) := by decide +kernel
theorem dX6_statementsCome_13 : decode cX6_statementsCome 13 = .ok (.iconst 0, 1) := by decide +kernel
theorem dX6_statementsCome_14 : decode cX6_statementsCome 14 = .ok (.istore_n 2, 1) := by decide +kernel
theorem dX6_statementsCome_15 : decode cX6_statementsCome 15 = .ok (.iload_n 2, 1) := by decide +kernel
theorem dX6_statementsCome_16 : decode cX6_statementsCome 16 = .ok (.aload_n 0, 1) := by decide +kernel
theorem dX6_statementsCome_17 : decode cX6_statementsCome 17 = .ok (.getfield 43, 3) := by decide +kernel
theorem dX6_statementsCome_20 : decode cX6_statementsCome 20 = .ok (.getfield 74, 3) := by decide +kernel
theorem dX6_statementsCome_23 : decode cX6_statementsCome 23 = .ok (.if_icmp .ge 41, 3) := by decide +kernel
theorem dX6_statementsCome_26 : decode cX6_statementsCome 26 = .ok (.aload_n 0, 1) := by decide +kernel
theorem dX6_statementsCome_27 : decode cX6_statementsCome 27 = .ok (.iload_n 2, 1) := by decide +kernel
theorem dX6_statementsCome_28 : decode cX6_statementsCome 28 = .ok (.invokevirtual 260, 3) := by decide +kernel
theorem dX6_statementsCome_31 : decode cX6_statementsCome 31 = .ok (.ifCond .ne 9, 3) := by decide +kernel
theorem dX6_statementsCome_34 : decode cX6_statementsCome 34 = .ok (.sipush (-2000), 3) := by decide +kernel
theorem dX6_statementsCome_37 : decode cX6_statementsCome 37 = .ok (.iload_n 2, 1) := by decide +kernel
theorem dX6_statementsCome_38 : decode cX6_statementsCome 38 = .ok (.isub, 1) := by decide +kernel
theorem dX6_statementsCome_39 : decode cX6_statementsCome 39 = .ok (.ireturn, 1) := by decide +kernel
theorem dX6_statementsCome_40 : decode cX6_statementsCome 40 = .ok (.aload_n 0, 1) := by decide +kernel
theorem dX6_statementsCome_41 : decode cX6_statementsCome 41 = .ok (.iload_n 2, 1) := by decide +kernel
theorem dX6_statementsCome_42 : decode cX6_statementsCome 42 = .ok (.invokevirtual 263, 3) := by decide +kernel
theorem dX6_statementsCome_45 : decode cX6_statementsCome 45 = .ok (.iinc 1 1, 3) := by decide +kernel
theorem dX6_statementsCome_48 : decode cX6_statementsCome 48 = .ok (.iload_n 2, 1) := by decide +kernel
theorem dX6_statementsCome_49 : decode cX6_statementsCome 49 = .ok (.iconst 1, 1) := by decide +kernel
theorem dX6_statementsCome_50 : decode cX6_statementsCome 50 = .ok (.aload_n 0, 1) := by decide +kernel
theorem dX6_statementsCome_51 : decode cX6_statementsCome 51 = .ok (.getfield 43, 3) := by decide +kernel
theorem dX6_statementsCome_54 : decode cX6_statementsCome 54 = .ok (.iload_n 2, 1) := by decide +kernel
theorem dX6_statementsCome_55 : decode cX6_statementsCome 55 = .ok (.invokevirtual 266, 3) := by decide +kernel
theorem dX6_statementsCome_58 : decode cX6_statementsCome 58 = .ok (.iadd, 1) := by decide +kernel
theorem dX6_statementsCome_59 : decode cX6_statementsCome 59 = .ok (.iadd, 1) := by decide +kernel
theorem dX6_statementsCome_60 : decode cX6_statementsCome 60 = .ok (.istore_n 2, 1) := by decide +kernel
theorem dX6_statementsCome_61 : decode cX6_statementsCome 61 = .ok (.goto (-46), 3) := by decide +kernel
theorem dX6_statementsCome_64 : decode cX6_statementsCome 64 = .ok (.aload_n 0, 1) := by decide +kernel
theorem dX6_statementsCome_65 : decode cX6_statementsCome 65 = .ok (.getfield 10, 3) := by decide +kernel
theorem dX6_statementsCome_68 : decode cX6_statementsCome 68 = .ok (.aload_n 0, 1) := by decide +kernel
theorem dX6_statementsCome_69 : decode cX6_statementsCome 69 = .ok (.getfield 16, 3) := by decide +kernel
theorem dX6_statementsCome_72 : decode cX6_statementsCome 72 = .ok (.invokevirtual 195, 3) := by decide +kernel
theorem dX6_statementsCome_75 : decode cX6_statementsCome 75 = .ok (.iload_n 1, 1) := by decide +kernel
theorem dX6_statementsCome_76 : decode cX6_statementsCome 76 = .ok (.ireturn, 1) := by decide +kernel
theorem dX6_isAsItMustBe_0 : decode cX6_isAsItMustBe 0 = .ok (.aload_n 0, 1) := by decide +kernel
theorem dX6_isAsItMustBe_1 : decode cX6_isAsItMustBe 1 = .ok (.getfield 43, 3) := by decide +kernel
theorem dX6_isAsItMustBe_4 : decode cX6_isAsItMustBe 4 = .ok (.iload_n 1, 1) := by decide +kernel
theorem dX6_isAsItMustBe_5 : decode cX6_isAsItMustBe 5 = .ok (.invokevirtual 269, 3) := by decide +kernel
theorem dX6_isAsItMustBe_8 : decode cX6_isAsItMustBe 8 = .ok (.tableswitch 236 101 119 #[135, 236, 236, 236, 117, 236, 177, 236, 236, 92, 236, 191, 236, 236, 236, 236, 236, 236, 211], 92) := by decide +kernel
theorem dX6_isAsItMustBe_100 : decode cX6_isAsItMustBe 100 = .ok (.aload_n 0, 1) := by decide +kernel
theorem dX6_isAsItMustBe_101 : decode cX6_isAsItMustBe 101 = .ok (.getfield 43, 3) := by decide +kernel
theorem dX6_isAsItMustBe_104 : decode cX6_isAsItMustBe 104 = .ok (.iload_n 1, 1) := by decide +kernel
theorem dX6_isAsItMustBe_105 : decode cX6_isAsItMustBe 105 = .ok (.iconst 1, 1) := by decide +kernel
theorem dX6_isAsItMustBe_106 : decode cX6_isAsItMustBe 106 = .ok (.iadd, 1) := by decide +kernel
theorem dX6_isAsItMustBe_107 : decode cX6_isAsItMustBe 107 = .ok (.invokevirtual 272, 3) := by decide +kernel
theorem dX6_isAsItMustBe_110 : decode cX6_isAsItMustBe 110 = .ok (.iconst 2, 1) := by decide +kernel
theorem dX6_isAsItMustBe_111 : decode cX6_isAsItMustBe 111 = .ok (.bipush 12, 2) := by decide +kernel
theorem dX6_isAsItMustBe_113 : decode cX6_isAsItMustBe 113 = .ok (.invokestatic 58, 3) := by decide +kernel
theorem dX6_isAsItMustBe_116 : decode cX6_isAsItMustBe 116 = .ok (.ifCond .ne 7, 3) := by decide +kernel
theorem dX6_isAsItMustBe_119 : decode cX6_isAsItMustBe 119 = .ok (.iconst 1, 1) := by decide +kernel
theorem dX6_isAsItMustBe_120 : decode cX6_isAsItMustBe 120 = .ok (.goto 4, 3) := by decide +kernel
theorem dX6_isAsItMustBe_123 : decode cX6_isAsItMustBe 123 = .ok (.iconst 0, 1) := by decide +kernel
theorem dX6_isAsItMustBe_124 : decode cX6_isAsItMustBe 124 = .ok (.ireturn, 1) := by decide +kernel
theorem dX6_isAsItMustBe_125 : decode cX6_isAsItMustBe 125 = .ok (.aload_n 0, 1) := by decide +kernel
theorem dX6_isAsItMustBe_126 : decode cX6_isAsItMustBe 126 = .ok (.getfield 16, 3) := by decide +kernel
theorem dX6_isAsItMustBe_129 : decode cX6_isAsItMustBe 129 = .ok (.aload_n 0, 1) := by decide +kernel
theorem dX6_isAsItMustBe_130 : decode cX6_isAsItMustBe 130 = .ok (.getfield 43, 3) := by decide +kernel
theorem dX6_isAsItMustBe_133 : decode cX6_isAsItMustBe 133 = .ok (.iload_n 1, 1) := by decide +kernel
theorem dX6_isAsItMustBe_134 : decode cX6_isAsItMustBe 134 = .ok (.iconst 2, 1) := by decide +kernel
theorem dX6_isAsItMustBe_135 : decode cX6_isAsItMustBe 135 = .ok (.iadd, 1) := by decide +kernel
theorem dX6_isAsItMustBe_136 : decode cX6_isAsItMustBe 136 = .ok (.invokevirtual 272, 3) := by decide +kernel
theorem dX6_isAsItMustBe_139 : decode cX6_isAsItMustBe 139 = .ok (.invokevirtual 88, 3) := by decide +kernel
theorem dX6_isAsItMustBe_142 : decode cX6_isAsItMustBe 142 = .ok (.ireturn, 1) := by decide +kernel
theorem dX6_isAsItMustBe_143 : decode cX6_isAsItMustBe 143 = .ok (.aload_n 0, 1) := by decide +kernel
theorem dX6_isAsItMustBe_144 : decode cX6_isAsItMustBe 144 = .ok (.getfield 43, 3) := by decide +kernel
theorem dX6_isAsItMustBe_147 : decode cX6_isAsItMustBe 147 = .ok (.iload_n 1, 1) := by decide +kernel
theorem dX6_isAsItMustBe_148 : decode cX6_isAsItMustBe 148 = .ok (.iconst 1, 1) := by decide +kernel
theorem dX6_isAsItMustBe_149 : decode cX6_isAsItMustBe 149 = .ok (.iadd, 1) := by decide +kernel
theorem dX6_isAsItMustBe_150 : decode cX6_isAsItMustBe 150 = .ok (.invokevirtual 275, 3) := by decide +kernel
theorem dX6_isAsItMustBe_153 : decode cX6_isAsItMustBe 153 = .ok (.invokestatic 119, 3) := by decide +kernel
theorem dX6_isAsItMustBe_156 : decode cX6_isAsItMustBe 156 = .ok (.ifCond .eq 27, 3) := by decide +kernel
theorem dX6_isAsItMustBe_159 : decode cX6_isAsItMustBe 159 = .ok (.aload_n 0, 1) := by decide +kernel
theorem dX6_isAsItMustBe_160 : decode cX6_isAsItMustBe 160 = .ok (.getfield 43, 3) := by decide +kernel
theorem dX6_isAsItMustBe_163 : decode cX6_isAsItMustBe 163 = .ok (.iload_n 1, 1) := by decide +kernel
theorem dX6_isAsItMustBe_164 : decode cX6_isAsItMustBe 164 = .ok (.iconst 2, 1) := by decide +kernel
theorem dX6_isAsItMustBe_165 : decode cX6_isAsItMustBe 165 = .ok (.iadd, 1) := by decide +kernel
theorem dX6_isAsItMustBe_166 : decode cX6_isAsItMustBe 166 = .ok (.invokevirtual 278, 3) := by decide +kernel
theorem dX6_isAsItMustBe_169 : decode cX6_isAsItMustBe 169 = .ok (.bipush (-40), 2) := by decide +kernel
theorem dX6_isAsItMustBe_171 : decode cX6_isAsItMustBe 171 = .ok (.bipush 24, 2) := by decide +kernel
theorem dX6_isAsItMustBe_173 : decode cX6_isAsItMustBe 173 = .ok (.invokestatic 58, 3) := by decide +kernel
theorem dX6_isAsItMustBe_176 : decode cX6_isAsItMustBe 176 = .ok (.ifCond .ne 7, 3) := by decide +kernel
theorem dX6_isAsItMustBe_179 : decode cX6_isAsItMustBe 179 = .ok (.iconst 1, 1) := by decide +kernel
theorem dX6_isAsItMustBe_180 : decode cX6_isAsItMustBe 180 = .ok (.goto 4, 3) := by decide +kernel
theorem dX6_isAsItMustBe_183 : decode cX6_isAsItMustBe 183 = .ok (.iconst 0, 1) := by decide +kernel
theorem dX6_isAsItMustBe_184 : decode cX6_isAsItMustBe 184 = .ok (.ireturn, 1) := by decide +kernel
theorem dX6_isAsItMustBe_185 : decode cX6_isAsItMustBe 185 = .ok (.aload_n 0, 1) := by decide +kernel
theorem dX6_isAsItMustBe_186 : decode cX6_isAsItMustBe 186 = .ok (.getfield 43, 3) := by decide +kernel
theorem dX6_isAsItMustBe_189 : decode cX6_isAsItMustBe 189 = .ok (.iload_n 1, 1) := by decide +kernel
theorem dX6_isAsItMustBe_190 : decode cX6_isAsItMustBe 190 = .ok (.iconst 1, 1) := by decide +kernel
theorem dX6_isAsItMustBe_191 : decode cX6_isAsItMustBe 191 = .ok (.iadd, 1) := by decide +kernel
theorem dX6_isAsItMustBe_192 : decode cX6_isAsItMustBe 192 = .ok (.invokevirtual 275, 3) := by decide +kernel
theorem dX6_isAsItMustBe_195 : decode cX6_isAsItMustBe 195 = .ok (.invokestatic 119, 3) := by decide +kernel
theorem dX6_isAsItMustBe_198 : decode cX6_isAsItMustBe 198 = .ok (.ireturn, 1) := by decide +kernel
theorem dX6_isAsItMustBe_199 : decode cX6_isAsItMustBe 199 = .ok (.aload_n 0, 1) := by decide +kernel
theorem dX6_isAsItMustBe_200 : decode cX6_isAsItMustBe 200 = .ok (.getfield 43, 3) := by decide +kernel
theorem dX6_isAsItMustBe_203 : decode cX6_isAsItMustBe 203 = .ok (.iload_n 1, 1) := by decide +kernel
theorem dX6_isAsItMustBe_204 : decode cX6_isAsItMustBe 204 = .ok (.iconst 1, 1) := by decide +kernel
theorem dX6_isAsItMustBe_205 : decode cX6_isAsItMustBe 205 = .ok (.iadd, 1) := by decide +kernel
theorem dX6_isAsItMustBe_206 : decode cX6_isAsItMustBe 206 = .ok (.invokevirtual 275, 3) := by decide +kernel
theorem dX6_isAsItMustBe_209 : decode cX6_isAsItMustBe 209 = .ok (.iconst 1, 1) := by decide +kernel
theorem dX6_isAsItMustBe_210 : decode cX6_isAsItMustBe 210 = .ok (.if_icmp .lt 7, 3) := by decide +kernel
theorem dX6_isAsItMustBe_213 : decode cX6_isAsItMustBe 213 = .ok (.iconst 1, 1) := by decide +kernel
theorem dX6_isAsItMustBe_214 : decode cX6_isAsItMustBe 214 = .ok (.goto 4, 3) := by decide +kernel
theorem dX6_isAsItMustBe_217 : decode cX6_isAsItMustBe 217 = .ok (.iconst 0, 1) := by decide +kernel
theorem dX6_isAsItMustBe_218 : decode cX6_isAsItMustBe 218 = .ok (.ireturn, 1) := by decide +kernel
theorem dX6_isAsItMustBe_219 : decode cX6_isAsItMustBe 219 = .ok (.aload_n 0, 1) := by decide +kernel
theorem dX6_isAsItMustBe_220 : decode cX6_isAsItMustBe 220 = .ok (.getfield 43, 3) := by decide +kernel
theorem dX6_isAsItMustBe_223 : decode cX6_isAsItMustBe 223 = .ok (.iload_n 1, 1) := by decide +kernel
theorem dX6_isAsItMustBe_224 : decode cX6_isAsItMustBe 224 = .ok (.iconst 1, 1) := by decide +kernel
theorem dX6_isAsItMustBe_225 : decode cX6_isAsItMustBe 225 = .ok (.iadd, 1) := by decide +kernel
theorem dX6_isAsItMustBe_226 : decode cX6_isAsItMustBe 226 = .ok (.invokevirtual 272, 3) := by decide +kernel
theorem dX6_isAsItMustBe_229 : decode cX6_isAsItMustBe 229 = .ok (.iconst 1, 1) := by decide +kernel
theorem dX6_isAsItMustBe_230 : decode cX6_isAsItMustBe 230 = .ok (.bipush 40, 2) := by decide +kernel
theorem dX6_isAsItMustBe_232 : decode cX6_isAsItMustBe 232 = .ok (.invokestatic 58, 3) := by decide +kernel
theorem dX6_isAsItMustBe_235 : decode cX6_isAsItMustBe 235 = .ok (.ifCond .ne 7, 3) := by decide +kernel
theorem dX6_isAsItMustBe_238 : decode cX6_isAsItMustBe 238 = .ok (.iconst 1, 1) := by decide +kernel
theorem dX6_isAsItMustBe_239 : decode cX6_isAsItMustBe 239 = .ok (.goto 4, 3) := by decide +kernel
theorem dX6_isAsItMustBe_242 : decode cX6_isAsItMustBe 242 = .ok (.iconst 0, 1) := by decide +kernel
theorem dX6_isAsItMustBe_243 : decode cX6_isAsItMustBe 243 = .ok (.ireturn, 1) := by decide +kernel
theorem dX6_isAsItMustBe_244 : decode cX6_isAsItMustBe 244 = .ok (.iconst 1, 1) := by decide +kernel
theorem dX6_isAsItMustBe_245 : decode cX6_isAsItMustBe 245 = .ok (.ireturn, 1) := by decide +kernel
theorem dX6_comes_0 : decode cX6_comes 0 = .ok (.aload_n 0, 1) := by decide +kernel
theorem dX6_comes_1 : decode cX6_comes 1 = .ok (.getfield 43, 3) := by decide +kernel
theorem dX6_comes_4 : decode cX6_comes 4 = .ok (.iload_n 1, 1) := by decide +kernel
theorem dX6_comes_5 : decode cX6_comes 5 = .ok (.iconst 1, 1) := by decide +kernel
theorem dX6_comes_6 : decode cX6_comes 6 = .ok (.iadd, 1) := by decide +kernel
theorem dX6_comes_7 : decode cX6_comes 7 = .ok (.invokevirtual 275, 3) := by decide +kernel
theorem dX6_comes_10 : decode cX6_comes 10 = .ok (.istore_n 2, 1) := by decide +kernel
theorem dX6_comes_11 : decode cX6_comes 11 = .ok (.aload_n 0, 1) := by decide +kernel
theorem dX6_comes_12 : decode cX6_comes 12 = .ok (.getfield 43, 3) := by decide +kernel
theorem dX6_comes_15 : decode cX6_comes 15 = .ok (.iload_n 1, 1) := by decide +kernel
theorem dX6_comes_16 : decode cX6_comes 16 = .ok (.invokevirtual 269, 3) := by decide +kernel
theorem dX6_comes_19 : decode cX6_comes 19 = .ok (.tableswitch 237 101 115 #[136, 237, 237, 237, 93, 237, 157, 237, 237, 73, 237, 209, 237, 237, 184], 73) := by decide +kernel
theorem dX6_comes_92 : decode cX6_comes 92 = .ok (.aload_n 0, 1) := by decide +kernel
theorem dX6_comes_93 : decode cX6_comes 93 = .ok (.getfield 16, 3) := by decide +kernel
theorem dX6_comes_96 : decode cX6_comes 96 = .ok (.aload_n 0, 1) := by decide +kernel
theorem dX6_comes_97 : decode cX6_comes 97 = .ok (.getfield 43, 3) := by decide +kernel
theorem dX6_comes_100 : decode cX6_comes 100 = .ok (.iload_n 1, 1) := by decide +kernel
theorem dX6_comes_101 : decode cX6_comes 101 = .ok (.iconst 1, 1) := by decide +kernel
theorem dX6_comes_102 : decode cX6_comes 102 = .ok (.iadd, 1) := by decide +kernel
theorem dX6_comes_103 : decode cX6_comes 103 = .ok (.invokevirtual 272, 3) := by decide +kernel
theorem dX6_comes_106 : decode cX6_comes 106 = .ok (.putfield 116, 3) := by decide +kernel
theorem dX6_comes_109 : decode cX6_comes 109 = .ok (.goto 164, 3) := by decide +kernel
theorem dX6_comes_112 : decode cX6_comes 112 = .ok (.aload_n 0, 1) := by decide +kernel
theorem dX6_comes_113 : decode cX6_comes 113 = .ok (.getfield 16, 3) := by decide +kernel
theorem dX6_comes_116 : decode cX6_comes 116 = .ok (.aload_n 0, 1) := by decide +kernel
theorem dX6_comes_117 : decode cX6_comes 117 = .ok (.getfield 43, 3) := by decide +kernel
theorem dX6_comes_120 : decode cX6_comes 120 = .ok (.iload_n 1, 1) := by decide +kernel
theorem dX6_comes_121 : decode cX6_comes 121 = .ok (.iconst 2, 1) := by decide +kernel
theorem dX6_comes_122 : decode cX6_comes 122 = .ok (.iadd, 1) := by decide +kernel
theorem dX6_comes_123 : decode cX6_comes 123 = .ok (.invokevirtual 272, 3) := by decide +kernel
theorem dX6_comes_126 : decode cX6_comes 126 = .ok (.aload_n 0, 1) := by decide +kernel
theorem dX6_comes_127 : decode cX6_comes 127 = .ok (.getfield 43, 3) := by decide +kernel
theorem dX6_comes_130 : decode cX6_comes 130 = .ok (.iload_n 1, 1) := by decide +kernel
theorem dX6_comes_131 : decode cX6_comes 131 = .ok (.iconst 1, 1) := by decide +kernel
theorem dX6_comes_132 : decode cX6_comes 132 = .ok (.iadd, 1) := by decide +kernel
theorem dX6_comes_133 : decode cX6_comes 133 = .ok (.invokevirtual 269, 3) := by decide +kernel
theorem dX6_comes_136 : decode cX6_comes 136 = .ok (.invokestatic 281, 3) := by decide +kernel
theorem dX6_comes_139 : decode cX6_comes 139 = .ok (.aload_n 0, 1) := by decide +kernel
theorem dX6_comes_140 : decode cX6_comes 140 = .ok (.getfield 43, 3) := by decide +kernel
theorem dX6_comes_143 : decode cX6_comes 143 = .ok (.iload_n 1, 1) := by decide +kernel
theorem dX6_comes_144 : decode cX6_comes 144 = .ok (.iconst 4, 1) := by decide +kernel
theorem dX6_comes_145 : decode cX6_comes 145 = .ok (.iadd, 1) := by decide +kernel
theorem dX6_comes_146 : decode cX6_comes 146 = .ok (.invokevirtual 275, 3) := by decide +kernel
theorem dX6_comes_149 : decode cX6_comes 149 = .ok (.invokevirtual 112, 3) := by decide +kernel
theorem dX6_comes_152 : decode cX6_comes 152 = .ok (.goto 121, 3) := by decide +kernel
theorem dX6_comes_155 : decode cX6_comes 155 = .ok (.aload_n 0, 1) := by decide +kernel
theorem dX6_comes_156 : decode cX6_comes 156 = .ok (.getfield 16, 3) := by decide +kernel
theorem dX6_comes_159 : decode cX6_comes 159 = .ok (.iload_n 2, 1) := by decide +kernel
theorem dX6_comes_160 : decode cX6_comes 160 = .ok (.aload_n 0, 1) := by decide +kernel
theorem dX6_comes_161 : decode cX6_comes 161 = .ok (.getfield 43, 3) := by decide +kernel
theorem dX6_comes_164 : decode cX6_comes 164 = .ok (.iload_n 1, 1) := by decide +kernel
theorem dX6_comes_165 : decode cX6_comes 165 = .ok (.iconst 2, 1) := by decide +kernel
theorem dX6_comes_166 : decode cX6_comes 166 = .ok (.iadd, 1) := by decide +kernel
theorem dX6_comes_167 : decode cX6_comes 167 = .ok (.invokevirtual 278, 3) := by decide +kernel
theorem dX6_comes_170 : decode cX6_comes 170 = .ok (.invokevirtual 128, 3) := by decide +kernel
theorem dX6_comes_173 : decode cX6_comes 173 = .ok (.goto 100, 3) := by decide +kernel
theorem dX6_comes_176 : decode cX6_comes 176 = .ok (.aload_n 0, 1) := by decide +kernel
theorem dX6_comes_177 : decode cX6_comes 177 = .ok (.getfield 16, 3) := by decide +kernel
theorem dX6_comes_180 : decode cX6_comes 180 = .ok (.iload_n 2, 1) := by decide +kernel
theorem dX6_comes_181 : decode cX6_comes 181 = .ok (.aload_n 0, 1) := by decide +kernel
theorem dX6_comes_182 : decode cX6_comes 182 = .ok (.getfield 16, 3) := by decide +kernel
theorem dX6_comes_185 : decode cX6_comes 185 = .ok (.iload_n 2, 1) := by decide +kernel
theorem dX6_comes_186 : decode cX6_comes 186 = .ok (.invokevirtual 132, 3) := by decide +kernel
theorem dX6_comes_189 : decode cX6_comes 189 = .ok (.ifCond .ne 7, 3) := by decide +kernel
theorem dX6_comes_192 : decode cX6_comes 192 = .ok (.iconst 1, 1) := by decide +kernel
theorem dX6_comes_193 : decode cX6_comes 193 = .ok (.goto 4, 3) := by decide +kernel
theorem dX6_comes_196 : decode cX6_comes 196 = .ok (.iconst 0, 1) := by decide +kernel
theorem dX6_comes_197 : decode cX6_comes 197 = .ok (.invokevirtual 135, 3) := by decide +kernel
theorem dX6_comes_200 : decode cX6_comes 200 = .ok (.goto 73, 3) := by decide +kernel
theorem dX6_comes_203 : decode cX6_comes 203 = .ok (.aload_n 0, 1) := by decide +kernel
theorem dX6_comes_204 : decode cX6_comes 204 = .ok (.getfield 16, 3) := by decide +kernel
theorem dX6_comes_207 : decode cX6_comes 207 = .ok (.aload_n 0, 1) := by decide +kernel
theorem dX6_comes_208 : decode cX6_comes 208 = .ok (.getfield 16, 3) := by decide +kernel
theorem dX6_comes_211 : decode cX6_comes 211 = .ok (.getfield 139, 3) := by decide +kernel
theorem dX6_comes_214 : decode cX6_comes 214 = .ok (.ifCond .ne 7, 3) := by decide +kernel
theorem dX6_comes_217 : decode cX6_comes 217 = .ok (.iconst 1, 1) := by decide +kernel
theorem dX6_comes_218 : decode cX6_comes 218 = .ok (.goto 4, 3) := by decide +kernel
theorem dX6_comes_221 : decode cX6_comes 221 = .ok (.iconst 0, 1) := by decide +kernel
theorem dX6_comes_222 : decode cX6_comes 222 = .ok (.putfield 139, 3) := by decide +kernel
theorem dX6_comes_225 : decode cX6_comes 225 = .ok (.goto 48, 3) := by decide +kernel
theorem dX6_comes_228 : decode cX6_comes 228 = .ok (.aload_n 0, 1) := by decide +kernel
theorem dX6_comes_229 : decode cX6_comes 229 = .ok (.getfield 16, 3) := by decide +kernel
theorem dX6_comes_232 : decode cX6_comes 232 = .ok (.iload_n 2, 1) := by decide +kernel
theorem dX6_comes_233 : decode cX6_comes 233 = .ok (.putfield 142, 3) := by decide +kernel
theorem dX6_comes_236 : decode cX6_comes 236 = .ok (.aload_n 0, 1) := by decide +kernel
theorem dX6_comes_237 : decode cX6_comes 237 = .ok (.getfield 16, 3) := by decide +kernel
theorem dX6_comes_240 : decode cX6_comes 240 = .ok (.aload_n 0, 1) := by decide +kernel
theorem dX6_comes_241 : decode cX6_comes 241 = .ok (.getfield 43, 3) := by decide +kernel
theorem dX6_comes_244 : decode cX6_comes 244 = .ok (.iload_n 1, 1) := by decide +kernel
theorem dX6_comes_245 : decode cX6_comes 245 = .ok (.iconst 2, 1) := by decide +kernel
theorem dX6_comes_246 : decode cX6_comes 246 = .ok (.iadd, 1) := by decide +kernel
theorem dX6_comes_247 : decode cX6_comes 247 = .ok (.invokevirtual 275, 3) := by decide +kernel
theorem dX6_comes_250 : decode cX6_comes 250 = .ok (.putfield 145, 3) := by decide +kernel
theorem dX6_comes_253 : decode cX6_comes 253 = .ok (.goto 20, 3) := by decide +kernel
theorem dX6_comes_256 : decode cX6_comes 256 = .ok (.aload_n 0, 1) := by decide +kernel
theorem dX6_comes_257 : decode cX6_comes 257 = .ok (.getfield 16, 3) := by decide +kernel
theorem dX6_comes_260 : decode cX6_comes 260 = .ok (.aload_n 0, 1) := by decide +kernel
theorem dX6_comes_261 : decode cX6_comes 261 = .ok (.getfield 43, 3) := by decide +kernel
theorem dX6_comes_264 : decode cX6_comes 264 = .ok (.iload_n 1, 1) := by decide +kernel
theorem dX6_comes_265 : decode cX6_comes 265 = .ok (.iconst 1, 1) := by decide +kernel
theorem dX6_comes_266 : decode cX6_comes 266 = .ok (.iadd, 1) := by decide +kernel
theorem dX6_comes_267 : decode cX6_comes 267 = .ok (.invokevirtual 272, 3) := by decide +kernel
theorem dX6_comes_270 : decode cX6_comes 270 = .ok (.invokevirtual 169, 3) := by decide +kernel
theorem dX6_comes_273 : decode cX6_comes 273 = .ok (.return_, 1) := by decide +kernel
theorem dX6_secondsIfLost_0 : decode cX6_secondsIfLost 0 = .ok (.aload_n 0, 1) := by decide +kernel
theorem dX6_secondsIfLost_1 : decode cX6_secondsIfLost 1 = .ok (.getfield 10, 3) := by decide +kernel
theorem dX6_secondsIfLost_4 : decode cX6_secondsIfLost 4 = .ok (.iload_n 1, 1) := by decide +kernel
theorem dX6_secondsIfLost_5 : decode cX6_secondsIfLost 5 = .ok (.invokevirtual 152, 3) := by decide +kernel
theorem dX6_secondsIfLost_8 : decode cX6_secondsIfLost 8 = .ok (.ifCond .ne 6, 3) := by decide +kernel
theorem dX6_secondsIfLost_11 : decode cX6_secondsIfLost 11 = .ok (.bipush (-9), 2) := by decide +kernel
theorem dX6_secondsIfLost_13 : decode cX6_secondsIfLost 13 = .ok (.ireturn, 1) := by decide +kernel
theorem dX6_secondsIfLost_14 : decode cX6_secondsIfLost 14 = .ok (.aload_n 0, 1) := by decide +kernel
theorem dX6_secondsIfLost_15 : decode cX6_secondsIfLost 15 = .ok (.getfield 29, 3) := by decide +kernel
theorem dX6_secondsIfLost_18 : decode cX6_secondsIfLost 18 = .ok (.aload_n 0, 1) := by decide +kernel
theorem dX6_secondsIfLost_19 : decode cX6_secondsIfLost 19 = .ok (.getfield 10, 3) := by decide +kernel
theorem dX6_secondsIfLost_22 : decode cX6_secondsIfLost 22 = .ok (.iload_n 1, 1) := by decide +kernel
theorem dX6_secondsIfLost_23 : decode cX6_secondsIfLost 23 = .ok (.aload_n 0, 1) := by decide +kernel
theorem dX6_secondsIfLost_24 : decode cX6_secondsIfLost 24 = .ok (.getfield 10, 3) := by decide +kernel
theorem dX6_secondsIfLost_27 : decode cX6_secondsIfLost 27 = .ok (.iload_n 1, 1) := by decide +kernel
theorem dX6_secondsIfLost_28 : decode cX6_secondsIfLost 28 = .ok (.invokevirtual 125, 3) := by decide +kernel
theorem dX6_secondsIfLost_31 : decode cX6_secondsIfLost 31 = .ok (.invokevirtual 175, 3) := by decide +kernel
theorem dX6_secondsIfLost_34 : decode cX6_secondsIfLost 34 = .ok (.aload_n 0, 1) := by decide +kernel
theorem dX6_secondsIfLost_35 : decode cX6_secondsIfLost 35 = .ok (.getfield 29, 3) := by decide +kernel
theorem dX6_secondsIfLost_38 : decode cX6_secondsIfLost 38 = .ok (.getfield 182, 3) := by decide +kernel
theorem dX6_secondsIfLost_41 : decode cX6_secondsIfLost 41 = .ok (.ireturn, 1) := by decide +kernel
theorem dX6_washesTillLost_0 : decode cX6_washesTillLost 0 = .ok (.aload_n 0, 1) := by decide +kernel
theorem dX6_washesTillLost_1 : decode cX6_washesTillLost 1 = .ok (.getfield 16, 3) := by decide +kernel
theorem dX6_washesTillLost_4 : decode cX6_washesTillLost 4 = .ok (.aload_n 0, 1) := by decide +kernel
theorem dX6_washesTillLost_5 : decode cX6_washesTillLost 5 = .ok (.getfield 10, 3) := by decide +kernel
theorem dX6_washesTillLost_8 : decode cX6_washesTillLost 8 = .ok (.invokevirtual 195, 3) := by decide +kernel
theorem dX6_washesTillLost_11 : decode cX6_washesTillLost 11 = .ok (.iconst 0, 1) := by decide +kernel
theorem dX6_washesTillLost_12 : decode cX6_washesTillLost 12 = .ok (.istore_n 1, 1) := by decide +kernel
theorem dX6_washesTillLost_13 : decode cX6_washesTillLost 13 = .ok (.iload_n 1, 1) := by decide +kernel
theorem dX6_washesTillLost_14 : decode cX6_washesTillLost 14 = .ok (.sipush 200, 3) := by decide +kernel
