theorem dX0_init_0 : decode cX0_init 0 = .ok (.aload_n 0, 1) := by decide +kernel
theorem dX0_init_1 : decode cX0_init 1 = .ok (.invokespecial 3, 3) := by decide +kernel
theorem dX0_init_4 : decode cX0_init 4 = .ok (.aload_n 0, 1) := by decide +kernel
theorem dX0_init_5 : decode cX0_init 5 = .ok (.aload_n 1, 1) := by decide +kernel
theorem dX0_init_6 : decode cX0_init 6 = .ok (.putfield 9, 3) := by decide +kernel
theorem dX0_init_9 : decode cX0_init 9 = .ok (.aload_n 0, 1) := by decide +kernel
theorem dX0_init_10 : decode cX0_init 10 = .ok (.aload_n 2, 1) := by decide +kernel
theorem dX0_init_11 : decode cX0_init 11 = .ok (.putfield 15, 3) := by decide +kernel
theorem dX0_init_14 : decode cX0_init 14 = .ok (.aload_n 0, 1) := by decide +kernel
theorem dX0_init_15 : decode cX0_init 15 = .ok (.bipush 40, 2) := by decide +kernel
theorem dX0_init_17 : decode cX0_init 17 = .ok (.newarray .int, 2) := by decide +kernel
theorem dX0_init_19 : decode cX0_init 19 = .ok (.putfield 19, 3) := by decide +kernel
theorem dX0_init_22 : decode cX0_init 22 = .ok (.aload_n 0, 1) := by decide +kernel
theorem dX0_init_23 : decode cX0_init 23 = .ok (.bipush 40, 2) := by decide +kernel
theorem dX0_init_25 : decode cX0_init 25 = .ok (.newarray .int, 2) := by decide +kernel
theorem dX0_init_27 : decode cX0_init 27 = .ok (.putfield 23, 3) := by decide +kernel
theorem dX0_init_30 : decode cX0_init 30 = .ok (.aload_n 0, 1) := by decide +kernel
theorem dX0_init_31 : decode cX0_init 31 = .ok (.bipush 40, 2) := by decide +kernel
theorem dX0_init_33 : decode cX0_init 33 = .ok (.newarray .int, 2) := by decide +kernel
theorem dX0_init_35 : decode cX0_init 35 = .ok (.putfield 26, 3) := by decide +kernel
theorem dX0_init_38 : decode cX0_init 38 = .ok (.aload_n 0, 1) := by decide +kernel
theorem dX0_init_39 : decode cX0_init 39 = .ok (.bipush 40, 2) := by decide +kernel
theorem dX0_init_41 : decode cX0_init 41 = .ok (.newarray .int, 2) := by decide +kernel
theorem dX0_init_43 : decode cX0_init 43 = .ok (.putfield 29, 3) := by decide +kernel
theorem dX0_init_46 : decode cX0_init 46 = .ok (.aload_n 0, 1) := by decide +kernel
theorem dX0_init_47 : decode cX0_init 47 = .ok (.bipush 40, 2) := by decide +kernel
theorem dX0_init_49 : decode cX0_init 49 = .ok (.newarray .int, 2) := by decide +kernel
theorem dX0_init_51 : decode cX0_init 51 = .ok (.putfield 32, 3) := by decide +kernel
theorem dX0_init_54 : decode cX0_init 54 = .ok (.return_, 1) := by decide +kernel
theorem dX0_forget_0 : decode cX0_forget 0 = .ok (.aload_n 0, 1) := by decide +kernel
theorem dX0_forget_1 : decode cX0_forget 1 = .ok (.iconst 0, 1) := by decide +kernel
theorem dX0_forget_2 : decode cX0_forget 2 = .ok (.putfield 35, 3) := by decide +kernel
theorem dX0_forget_5 : decode cX0_forget 5 = .ok (.aload_n 0, 1) := by decide +kernel
theorem dX0_forget_6 : decode cX0_forget 6 = .ok (.iconst 0, 1) := by decide +kernel
theorem dX0_forget_7 : decode cX0_forget 7 = .ok (.putfield 39, 3) := by decide +kernel
theorem dX0_forget_10 : decode cX0_forget 10 = .ok (.return_, 1) := by decide +kernel
theorem dX0_add_0 : decode cX0_add 0 = .ok (.aload_n 0, 1) := by decide +kernel
theorem dX0_add_1 : decode cX0_add 1 = .ok (.getfield 35, 3) := by decide +kernel
theorem dX0_add_4 : decode cX0_add 4 = .ok (.bipush 40, 2) := by decide +kernel
theorem dX0_add_6 : decode cX0_add 6 = .ok (.if_icmp .lt 7, 3) := by decide +kernel
theorem dX0_add_9 : decode cX0_add 9 = .ok (.aload_n 0, 1) := by decide +kernel
theorem dX0_add_10 : decode cX0_add 10 = .ok (.invokevirtual 42, 3) := by decide +kernel
theorem dX0_add_13 : decode cX0_add 13 = .ok (.aload_n 0, 1) := by decide +kernel
theorem dX0_add_14 : decode cX0_add 14 = .ok (.getfield 35, 3) := by decide +kernel
theorem dX0_add_17 : decode cX0_add 17 = .ok (.ifCond .lt 12, 3) := by decide +kernel
theorem dX0_add_20 : decode cX0_add 20 = .ok (.aload_n 0, 1) := by decide +kernel
theorem dX0_add_21 : decode cX0_add 21 = .ok (.getfield 35, 3) := by decide +kernel
theorem dX0_add_24 : decode cX0_add 24 = .ok (.bipush 40, 2) := by decide +kernel
theorem dX0_add_26 : decode cX0_add 26 = .ok (.if_icmp .lt 4, 3) := by decide +kernel
theorem dX0_add_29 : decode cX0_add 29 = .ok (.return_, 1) := by decide +kernel
theorem dX0_add_30 : decode cX0_add 30 = .ok (.aload_n 0, 1) := by decide +kernel
theorem dX0_add_31 : decode cX0_add 31 = .ok (.getfield 19, 3) := by decide +kernel
theorem dX0_add_34 : decode cX0_add 34 = .ok (.aload_n 0, 1) := by decide +kernel
theorem dX0_add_35 : decode cX0_add 35 = .ok (.getfield 35, 3) := by decide +kernel
theorem dX0_add_38 : decode cX0_add 38 = .ok (.iload_n 1, 1) := by decide +kernel
theorem dX0_add_39 : decode cX0_add 39 = .ok (.iastore, 1) := by decide +kernel
theorem dX0_add_40 : decode cX0_add 40 = .ok (.aload_n 0, 1) := by decide +kernel
theorem dX0_add_41 : decode cX0_add 41 = .ok (.getfield 23, 3) := by decide +kernel
theorem dX0_add_44 : decode cX0_add 44 = .ok (.aload_n 0, 1) := by decide +kernel
theorem dX0_add_45 : decode cX0_add 45 = .ok (.getfield 35, 3) := by decide +kernel
theorem dX0_add_48 : decode cX0_add 48 = .ok (.iload_n 2, 1) := by decide +kernel
theorem dX0_add_49 : decode cX0_add 49 = .ok (.iastore, 1) := by decide +kernel
theorem dX0_add_50 : decode cX0_add 50 = .ok (.aload_n 0, 1) := by decide +kernel
theorem dX0_add_51 : decode cX0_add 51 = .ok (.getfield 26, 3) := by decide +kernel
theorem dX0_add_54 : decode cX0_add 54 = .ok (.aload_n 0, 1) := by decide +kernel
theorem dX0_add_55 : decode cX0_add 55 = .ok (.getfield 35, 3) := by decide +kernel
theorem dX0_add_58 : decode cX0_add 58 = .ok (.iload_n 3, 1) := by decide +kernel
theorem dX0_add_59 : decode cX0_add 59 = .ok (.iastore, 1) := by decide +kernel
theorem dX0_add_60 : decode cX0_add 60 = .ok (.aload_n 0, 1) := by decide +kernel
theorem dX0_add_61 : decode cX0_add 61 = .ok (.getfield 29, 3) := by decide +kernel
theorem dX0_add_64 : decode cX0_add 64 = .ok (.aload_n 0, 1) := by decide +kernel
theorem dX0_add_65 : decode cX0_add 65 = .ok (.getfield 35, 3) := by decide +kernel
theorem dX0_add_68 : decode cX0_add 68 = .ok (.iload 4, 2) := by decide +kernel
theorem dX0_add_70 : decode cX0_add 70 = .ok (.iastore, 1) := by decide +kernel
theorem dX0_add_71 : decode cX0_add 71 = .ok (.aload_n 0, 1) := by decide +kernel
theorem dX0_add_72 : decode cX0_add 72 = .ok (.getfield 32, 3) := by decide +kernel
theorem dX0_add_75 : decode cX0_add 75 = .ok (.aload_n 0, 1) := by decide +kernel
theorem dX0_add_76 : decode cX0_add 76 = .ok (.getfield 35, 3) := by decide +kernel
theorem dX0_add_79 : decode cX0_add 79 = .ok (.aload_n 0, 1) := by decide +kernel
theorem dX0_add_80 : decode cX0_add 80 = .ok (.getfield 9, 3) := by decide +kernel
theorem dX0_add_83 : decode cX0_add 83 = .ok (.getfield 45, 3) := by decide +kernel
theorem dX0_add_86 : decode cX0_add 86 = .ok (.iastore, 1) := by decide +kernel
theorem dX0_add_87 : decode cX0_add 87 = .ok (.aload_n 0, 1) := by decide +kernel
theorem dX0_add_88 : decode cX0_add 88 = .ok (.aload_n 0, 1) := by decide +kernel
theorem dX0_add_89 : decode cX0_add 89 = .ok (.getfield 35, 3) := by decide +kernel
theorem dX0_add_92 : decode cX0_add 92 = .ok (.invokevirtual 50, 3) := by decide +kernel
theorem dX0_add_95 : decode cX0_add 95 = .ok (.aload_n 0, 1) := by decide +kernel
theorem dX0_add_96 : decode cX0_add 96 = .ok (.dup, 1) := by decide +kernel
theorem dX0_add_97 : decode cX0_add 97 = .ok (.getfield 35, 3) := by decide +kernel
theorem dX0_add_100 : decode cX0_add 100 = .ok (.iconst 1, 1) := by decide +kernel
theorem dX0_add_101 : decode cX0_add 101 = .ok (.iadd, 1) := by decide +kernel
theorem dX0_add_102 : decode cX0_add 102 = .ok (.putfield 35, 3) := by decide +kernel
theorem dX0_add_105 : decode cX0_add 105 = .ok (.aload_n 0, 1) := by decide +kernel
theorem dX0_add_106 : decode cX0_add 106 = .ok (.iconst 0, 1) := by decide +kernel
theorem dX0_add_107 : decode cX0_add 107 = .ok (.putfield 39, 3) := by decide +kernel
theorem dX0_add_110 : decode cX0_add 110 = .ok (.return_, 1) := by decide +kernel
theorem dX0_dropOldest_0 : decode cX0_dropOldest 0 = .ok (.aload_n 0, 1) := by decide +kernel
theorem dX0_dropOldest_1 : decode cX0_dropOldest 1 = .ok (.getfield 19, 3) := by decide +kernel
theorem dX0_dropOldest_4 : decode cX0_dropOldest 4 = .ok (.iconst 1, 1) := by decide +kernel
theorem dX0_dropOldest_5 : decode cX0_dropOldest 5 = .ok (.aload_n 0, 1) := by decide +kernel
theorem dX0_dropOldest_6 : decode cX0_dropOldest 6 = .ok (.getfield 19, 3) := by decide +kernel
theorem dX0_dropOldest_9 : decode cX0_dropOldest 9 = .ok (.iconst 0, 1) := by decide +kernel
theorem dX0_dropOldest_10 : decode cX0_dropOldest 10 = .ok (.bipush 39, 2) := by decide +kernel
theorem dX0_dropOldest_12 : decode cX0_dropOldest 12 = .ok (.invokestatic 54, 3) := by decide +kernel
theorem dX0_dropOldest_15 : decode cX0_dropOldest 15 = .ok (.aload_n 0, 1) := by decide +kernel
theorem dX0_dropOldest_16 : decode cX0_dropOldest 16 = .ok (.getfield 23, 3) := by decide +kernel
theorem dX0_dropOldest_19 : decode cX0_dropOldest 19 = .ok (.iconst 1, 1) := by decide +kernel
theorem dX0_dropOldest_20 : decode cX0_dropOldest 20 = .ok (.aload_n 0, 1) := by decide +kernel
theorem dX0_dropOldest_21 : decode cX0_dropOldest 21 = .ok (.getfield 23, 3) := by decide +kernel
theorem dX0_dropOldest_24 : decode cX0_dropOldest 24 = .ok (.iconst 0, 1) := by decide +kernel
theorem dX0_dropOldest_25 : decode cX0_dropOldest 25 = .ok (.bipush 39, 2) := by decide +kernel
theorem dX0_dropOldest_27 : decode cX0_dropOldest 27 = .ok (.invokestatic 54, 3) := by decide +kernel
theorem dX0_dropOldest_30 : decode cX0_dropOldest 30 = .ok (.aload_n 0, 1) := by decide +kernel
theorem dX0_dropOldest_31 : decode cX0_dropOldest 31 = .ok (.getfield 26, 3) := by decide +kernel
theorem dX0_dropOldest_34 : decode cX0_dropOldest 34 = .ok (.iconst 1, 1) := by decide +kernel
theorem dX0_dropOldest_35 : decode cX0_dropOldest 35 = .ok (.aload_n 0, 1) := by decide +kernel
theorem dX0_dropOldest_36 : decode cX0_dropOldest 36 = .ok (.getfield 26, 3) := by decide +kernel
theorem dX0_dropOldest_39 : decode cX0_dropOldest 39 = .ok (.iconst 0, 1) := by decide +kernel
theorem dX0_dropOldest_40 : decode cX0_dropOldest 40 = .ok (.bipush 39, 2) := by decide +kernel
theorem dX0_dropOldest_42 : decode cX0_dropOldest 42 = .ok (.invokestatic 54, 3) := by decide +kernel
theorem dX0_dropOldest_45 : decode cX0_dropOldest 45 = .ok (.aload_n 0, 1) := by decide +kernel
theorem dX0_dropOldest_46 : decode cX0_dropOldest 46 = .ok (.getfield 29, 3) := by decide +kernel
theorem dX0_dropOldest_49 : decode cX0_dropOldest 49 = .ok (.iconst 1, 1) := by decide +kernel
theorem dX0_dropOldest_50 : decode cX0_dropOldest 50 = .ok (.aload_n 0, 1) := by decide +kernel
theorem dX0_dropOldest_51 : decode cX0_dropOldest 51 = .ok (.getfield 29, 3) := by decide +kernel
theorem dX0_dropOldest_54 : decode cX0_dropOldest 54 = .ok (.iconst 0, 1) := by decide +kernel
theorem dX0_dropOldest_55 : decode cX0_dropOldest 55 = .ok (.bipush 39, 2) := by decide +kernel
theorem dX0_dropOldest_57 : decode cX0_dropOldest 57 = .ok (.invokestatic 54, 3) := by decide +kernel
theorem dX0_dropOldest_60 : decode cX0_dropOldest 60 = .ok (.aload_n 0, 1) := by decide +kernel
theorem dX0_dropOldest_61 : decode cX0_dropOldest 61 = .ok (.getfield 32, 3) := by decide +kernel
theorem dX0_dropOldest_64 : decode cX0_dropOldest 64 = .ok (.iconst 1, 1) := by decide +kernel
theorem dX0_dropOldest_65 : decode cX0_dropOldest 65 = .ok (.aload_n 0, 1) := by decide +kernel
theorem dX0_dropOldest_66 : decode cX0_dropOldest 66 = .ok (.getfield 32, 3) := by decide +kernel
theorem dX0_dropOldest_69 : decode cX0_dropOldest 69 = .ok (.iconst 0, 1) := by decide +kernel
theorem dX0_dropOldest_70 : decode cX0_dropOldest 70 = .ok (.bipush 39, 2) := by decide +kernel
theorem dX0_dropOldest_72 : decode cX0_dropOldest 72 = .ok (.invokestatic 54, 3) := by decide +kernel
theorem dX0_dropOldest_75 : decode cX0_dropOldest 75 = .ok (.aload_n 0, 1) := by decide +kernel
theorem dX0_dropOldest_76 : decode cX0_dropOldest 76 = .ok (.bipush 39, 2) := by decide +kernel
theorem dX0_dropOldest_78 : decode cX0_dropOldest 78 = .ok (.putfield 35, 3) := by decide +kernel
theorem dX0_dropOldest_81 : decode cX0_dropOldest 81 = .ok (.return_, 1) := by decide +kernel
theorem dX0_goBack_0 : decode cX0_goBack 0 = .ok (.aload_n 0, 1) := by decide +kernel
theorem dX0_goBack_1 : decode cX0_goBack 1 = .ok (.getfield 35, 3) := by decide +kernel
theorem dX0_goBack_4 : decode cX0_goBack 4 = .ok (.iconst 1, 1) := by decide +kernel
theorem dX0_goBack_5 : decode cX0_goBack 5 = .ok (.if_icmp .lt 12, 3) := by decide +kernel
theorem dX0_goBack_8 : decode cX0_goBack 8 = .ok (.aload_n 0, 1) := by decide +kernel
theorem dX0_goBack_9 : decode cX0_goBack 9 = .ok (.getfield 35, 3) := by decide +kernel
theorem dX0_goBack_12 : decode cX0_goBack 12 = .ok (.bipush 40, 2) := by decide +kernel
theorem dX0_goBack_14 : decode cX0_goBack 14 = .ok (.if_icmp .le 5, 3) := by decide +kernel
theorem dX0_goBack_17 : decode cX0_goBack 17 = .ok (.iconst 0, 1) := by decide +kernel
theorem dX0_goBack_18 : decode cX0_goBack 18 = .ok (.ireturn, 1) := by decide +kernel
theorem dX0_goBack_19 : decode cX0_goBack 19 = .ok (.aload_n 0, 1) := by decide +kernel
theorem dX0_goBack_20 : decode cX0_goBack 20 = .ok (.dup, 1) := by decide +kernel
theorem dX0_goBack_21 : decode cX0_goBack 21 = .ok (.getfield 35, 3) := by decide +kernel
theorem dX0_goBack_24 : decode cX0_goBack 24 = .ok (.iconst 1, 1) := by decide +kernel
theorem dX0_goBack_25 : decode cX0_goBack 25 = .ok (.isub, 1) := by decide +kernel
theorem dX0_goBack_26 : decode cX0_goBack 26 = .ok (.putfield 35, 3) := by decide +kernel
theorem dX0_goBack_29 : decode cX0_goBack 29 = .ok (.aload_n 0, 1) := by decide +kernel
theorem dX0_goBack_30 : decode cX0_goBack 30 = .ok (.dup, 1) := by decide +kernel
theorem dX0_goBack_31 : decode cX0_goBack 31 = .ok (.getfield 39, 3) := by decide +kernel
theorem dX0_goBack_34 : decode cX0_goBack 34 = .ok (.iconst 1, 1) := by decide +kernel
theorem dX0_goBack_35 : decode cX0_goBack 35 = .ok (.iadd, 1) := by decide +kernel
theorem dX0_goBack_36 : decode cX0_goBack 36 = .ok (.putfield 39, 3) := by decide +kernel
theorem dX0_goBack_39 : decode cX0_goBack 39 = .ok (.aload_n 0, 1) := by decide +kernel
theorem dX0_goBack_40 : decode cX0_goBack 40 = .ok (.aload_n 0, 1) := by decide +kernel
theorem dX0_goBack_41 : decode cX0_goBack 41 = .ok (.getfield 35, 3) := by decide +kernel
theorem dX0_goBack_44 : decode cX0_goBack 44 = .ok (.invokevirtual 60, 3) := by decide +kernel
theorem dX0_goBack_47 : decode cX0_goBack 47 = .ok (.iconst 1, 1) := by decide +kernel
theorem dX0_goBack_48 : decode cX0_goBack 48 = .ok (.ireturn, 1) := by decide +kernel
theorem dX0_goOn_0 : decode cX0_goOn 0 = .ok (.aload_n 0, 1) := by decide +kernel
theorem dX0_goOn_1 : decode cX0_goOn 1 = .ok (.getfield 39, 3) := by decide +kernel
theorem dX0_goOn_4 : decode cX0_goOn 4 = .ok (.iconst 1, 1) := by decide +kernel
theorem dX0_goOn_5 : decode cX0_goOn 5 = .ok (.if_icmp .lt 19, 3) := by decide +kernel
theorem dX0_goOn_8 : decode cX0_goOn 8 = .ok (.aload_n 0, 1) := by decide +kernel
theorem dX0_goOn_9 : decode cX0_goOn 9 = .ok (.getfield 35, 3) := by decide +kernel
theorem dX0_goOn_12 : decode cX0_goOn 12 = .ok (.ifCond .lt 12, 3) := by decide +kernel
theorem dX0_goOn_15 : decode cX0_goOn 15 = .ok (.aload_n 0, 1) := by decide +kernel
theorem dX0_goOn_16 : decode cX0_goOn 16 = .ok (.getfield 35, 3) := by decide +kernel
theorem dX0_goOn_19 : decode cX0_goOn 19 = .ok (.bipush 40, 2) := by decide +kernel
theorem dX0_goOn_21 : decode cX0_goOn 21 = .ok (.if_icmp .lt 5, 3) := by decide +kernel
theorem dX0_goOn_24 : decode cX0_goOn 24 = .ok (.iconst 0, 1) := by decide +kernel
theorem dX0_goOn_25 : decode cX0_goOn 25 = .ok (.ireturn, 1) := by decide +kernel
theorem dX0_goOn_26 : decode cX0_goOn 26 = .ok (.aload_n 0, 1) := by decide +kernel
theorem dX0_goOn_27 : decode cX0_goOn 27 = .ok (.aload_n 0, 1) := by decide +kernel
theorem dX0_goOn_28 : decode cX0_goOn 28 = .ok (.getfield 35, 3) := by decide +kernel
theorem dX0_goOn_31 : decode cX0_goOn 31 = .ok (.invokevirtual 50, 3) := by decide +kernel
theorem dX0_goOn_34 : decode cX0_goOn 34 = .ok (.aload_n 0, 1) := by decide +kernel
theorem dX0_goOn_35 : decode cX0_goOn 35 = .ok (.dup, 1) := by decide +kernel
theorem dX0_goOn_36 : decode cX0_goOn 36 = .ok (.getfield 35, 3) := by decide +kernel
theorem dX0_goOn_39 : decode cX0_goOn 39 = .ok (.iconst 1, 1) := by decide +kernel
theorem dX0_goOn_40 : decode cX0_goOn 40 = .ok (.iadd, 1) := by decide +kernel
theorem dX0_goOn_41 : decode cX0_goOn 41 = .ok (.putfield 35, 3) := by decide +kernel
theorem dX0_goOn_44 : decode cX0_goOn 44 = .ok (.aload_n 0, 1) := by decide +kernel
theorem dX0_goOn_45 : decode cX0_goOn 45 = .ok (.dup, 1) := by decide +kernel
theorem dX0_goOn_46 : decode cX0_goOn 46 = .ok (.getfield 39, 3) := by decide +kernel
theorem dX0_goOn_49 : decode cX0_goOn 49 = .ok (.iconst 1, 1) := by decide +kernel
theorem dX0_goOn_50 : decode cX0_goOn 50 = .ok (.isub, 1) := by decide +kernel
theorem dX0_goOn_51 : decode cX0_goOn 51 = .ok (.putfield 39, 3) := by decide +kernel
theorem dX0_goOn_54 : decode cX0_goOn 54 = .ok (.iconst 1, 1) := by decide +kernel
theorem dX0_goOn_55 : decode cX0_goOn 55 = .ok (.ireturn, 1) := by decide +kernel
theorem dX0_perform_0 : decode cX0_perform 0 = .ok (.aload_n 0, 1) := by decide +kernel
theorem dX0_perform_1 : decode cX0_perform 1 = .ok (.getfield 19, 3) := by decide +kernel
theorem dX0_perform_4 : decode cX0_perform 4 = .ok (.iload_n 1, 1) := by decide +kernel
theorem dX0_perform_5 : decode cX0_perform 5 = .ok (.iaload, 1) := by decide +kernel
theorem dX0_perform_6 : decode cX0_perform 6 = .ok (.tableswitch 102 0 2 #[26, 51, 80], 26) := by decide +kernel
theorem dX0_perform_32 : decode cX0_perform 32 = .ok (.aload_n 0, 1) := by decide +kernel
theorem dX0_perform_33 : decode cX0_perform 33 = .ok (.aload_n 0, 1) := by decide +kernel
theorem dX0_perform_34 : decode cX0_perform 34 = .ok (.getfield 23, 3) := by decide +kernel
theorem dX0_perform_37 : decode cX0_perform 37 = .ok (.iload_n 1, 1) := by decide +kernel
theorem dX0_perform_38 : decode cX0_perform 38 = .ok (.iaload, 1) := by decide +kernel
theorem dX0_perform_39 : decode cX0_perform 39 = .ok (.aload_n 0, 1) := by decide +kernel
theorem dX0_perform_40 : decode cX0_perform 40 = .ok (.getfield 26, 3) := by decide +kernel
theorem dX0_perform_43 : decode cX0_perform 43 = .ok (.iload_n 1, 1) := by decide +kernel
theorem dX0_perform_44 : decode cX0_perform 44 = .ok (.iaload, 1) := by decide +kernel
theorem dX0_perform_45 : decode cX0_perform 45 = .ok (.aload_n 0, 1) := by decide +kernel
theorem dX0_perform_46 : decode cX0_perform 46 = .ok (.getfield 29, 3) := by decide +kernel
theorem dX0_perform_49 : decode cX0_perform 49 = .ok (.iload_n 1, 1) := by decide +kernel
theorem dX0_perform_50 : decode cX0_perform 50 = .ok (.iaload, 1) := by decide +kernel
theorem dX0_perform_51 : decode cX0_perform 51 = .ok (.invokevirtual 63, 3) := by decide +kernel
theorem dX0_perform_54 : decode cX0_perform 54 = .ok (.goto 67, 3) := by decide +kernel
theorem dX0_perform_57 : decode cX0_perform 57 = .ok (.aload_n 0, 1) := by decide +kernel
theorem dX0_perform_58 : decode cX0_perform 58 = .ok (.getfield 9, 3) := by decide +kernel
theorem dX0_perform_61 : decode cX0_perform 61 = .ok (.aload_n 0, 1) := by decide +kernel
theorem dX0_perform_62 : decode cX0_perform 62 = .ok (.getfield 23, 3) := by decide +kernel
theorem dX0_perform_65 : decode cX0_perform 65 = .ok (.iload_n 1, 1) := by decide +kernel
theorem dX0_perform_66 : decode cX0_perform 66 = .ok (.iaload, 1) := by decide +kernel
theorem dX0_perform_67 : decode cX0_perform 67 = .ok (.invokevirtual 67, 3) := by decide +kernel
theorem dX0_perform_70 : decode cX0_perform 70 = .ok (.aload_n 0, 1) := by decide +kernel
theorem dX0_perform_71 : decode cX0_perform 71 = .ok (.getfield 9, 3) := by decide +kernel
theorem dX0_perform_74 : decode cX0_perform 74 = .ok (.dup, 1) := by decide +kernel
theorem dX0_perform_75 : decode cX0_perform 75 = .ok (.getfield 70, 3) := by decide +kernel
theorem dX0_perform_78 : decode cX0_perform 78 = .ok (.iconst 1, 1) := by decide +kernel
theorem dX0_perform_79 : decode cX0_perform 79 = .ok (.isub, 1) := by decide +kernel
theorem dX0_perform_80 : decode cX0_perform 80 = .ok (.putfield 70, 3) := by decide +kernel
theorem dX0_perform_83 : decode cX0_perform 83 = .ok (.goto 38, 3) := by decide +kernel
theorem dX0_perform_86 : decode cX0_perform 86 = .ok (.aload_n 0, 1) := by decide +kernel
theorem dX0_perform_87 : decode cX0_perform 87 = .ok (.getfield 9, 3) := by decide +kernel
theorem dX0_perform_90 : decode cX0_perform 90 = .ok (.aload_n 0, 1) := by decide +kernel
theorem dX0_perform_91 : decode cX0_perform 91 = .ok (.getfield 23, 3) := by decide +kernel
theorem dX0_perform_94 : decode cX0_perform 94 = .ok (.iload_n 1, 1) := by decide +kernel
theorem dX0_perform_95 : decode cX0_perform 95 = .ok (.iaload, 1) := by decide +kernel
theorem dX0_perform_96 : decode cX0_perform 96 = .ok (.aload_n 0, 1) := by decide +kernel
theorem dX0_perform_97 : decode cX0_perform 97 = .ok (.getfield 26, 3) := by decide +kernel
theorem dX0_perform_100 : decode cX0_perform 100 = .ok (.iload_n 1, 1) := by decide +kernel
theorem dX0_perform_101 : decode cX0_perform 101 = .ok (.iaload, 1) := by decide +kernel
theorem dX0_perform_102 : decode cX0_perform 102 = .ok (.invokevirtual 73, 3) := by decide +kernel
theorem dX0_perform_105 : decode cX0_perform 105 = .ok (.goto 16, 3) := by decide +kernel
theorem dX0_perform_108 : decode cX0_perform 108 = .ok (.aload_n 0, 1) := by decide +kernel
theorem dX0_perform_109 : decode cX0_perform 109 = .ok (.getfield 9, 3) := by decide +kernel
theorem dX0_perform_112 : decode cX0_perform 112 = .ok (.dup, 1) := by decide +kernel
theorem dX0_perform_113 : decode cX0_perform 113 = .ok (.getfield 77, 3) := by decide +kernel
theorem dX0_perform_116 : decode cX0_perform 116 = .ok (.iconst 1, 1) := by decide +kernel
theorem dX0_perform_117 : decode cX0_perform 117 = .ok (.iadd, 1) := by decide +kernel
theorem dX0_perform_118 : decode cX0_perform 118 = .ok (.putfield 77, 3) := by decide +kernel
theorem dX0_perform_121 : decode cX0_perform 121 = .ok (.return_, 1) := by decide +kernel
theorem dX0_makeCast_0 : decode cX0_makeCast 0 = .ok (.iload_n 1, 1) := by decide +kernel
theorem dX0_makeCast_1 : decode cX0_makeCast 1 = .ok (.ifCond .lt 14, 3) := by decide +kernel
theorem dX0_makeCast_4 : decode cX0_makeCast 4 = .ok (.iload_n 1, 1) := by decide +kernel
theorem dX0_makeCast_5 : decode cX0_makeCast 5 = .ok (.aload_n 0, 1) := by decide +kernel
theorem dX0_makeCast_6 : decode cX0_makeCast 6 = .ok (.getfield 9, 3) := by decide +kernel
theorem dX0_makeCast_9 : decode cX0_makeCast 9 = .ok (.getfield 80, 3) := by decide +kernel
theorem dX0_makeCast_12 : decode cX0_makeCast 12 = .ok (.if_icmp .lt 4, 3) := by decide +kernel
theorem dX0_makeCast_15 : decode cX0_makeCast 15 = .ok (.return_, 1) := by decide +kernel
theorem dX0_makeCast_16 : decode cX0_makeCast 16 = .ok (.aload_n 0, 1) := by decide +kernel
theorem dX0_makeCast_17 : decode cX0_makeCast 17 = .ok (.getfield 9, 3) := by decide +kernel
theorem dX0_makeCast_20 : decode cX0_makeCast 20 = .ok (.aload_n 0, 1) := by decide +kernel
theorem dX0_makeCast_21 : decode cX0_makeCast 21 = .ok (.getfield 9, 3) := by decide +kernel
theorem dX0_makeCast_24 : decode cX0_makeCast 24 = .ok (.getfield 45, 3) := by decide +kernel
theorem dX0_makeCast_27 : decode cX0_makeCast 27 = .ok (.sipush 137, 3) := by decide +kernel
theorem dX0_makeCast_30 : decode cX0_makeCast 30 = .ok (.imul, 1) := by decide +kernel
theorem dX0_makeCast_31 : decode cX0_makeCast 31 = .ok (.bipush 71, 2) := by decide +kernel
theorem dX0_makeCast_33 : decode cX0_makeCast 33 = .ok (.iadd, 1) := by decide +kernel
theorem dX0_makeCast_34 : decode cX0_makeCast 34 = .ok (.sipush 1000, 3) := by decide +kernel
theorem dX0_makeCast_37 : decode cX0_makeCast 37 = .ok (.irem, 1) := by decide +kernel
theorem dX0_makeCast_38 : decode cX0_makeCast 38 = .ok (.putfield 45, 3) := by decide +kernel
theorem dX0_makeCast_41 : decode cX0_makeCast 41 = .ok (.aload_n 0, 1) := by decide +kernel
theorem dX0_makeCast_42 : decode cX0_makeCast 42 = .ok (.getfield 9, 3) := by decide +kernel
theorem dX0_makeCast_45 : decode cX0_makeCast 45 = .ok (.aload_n 0, 1) := by decide +kernel
theorem dX0_makeCast_46 : decode cX0_makeCast 46 = .ok (.getfield 15, 3) := by decide +kernel
theorem dX0_makeCast_49 : decode cX0_makeCast 49 = .ok (.aload_n 0, 1) := by decide +kernel
theorem dX0_makeCast_50 : decode cX0_makeCast 50 = .ok (.getfield 9, 3) := by decide +kernel
theorem dX0_makeCast_53 : decode cX0_makeCast 53 = .ok (.getfield 82, 3) := by decide +kernel
theorem dX0_makeCast_56 : decode cX0_makeCast 56 = .ok (.iload_n 1, 1) := by decide +kernel
theorem dX0_makeCast_57 : decode cX0_makeCast 57 = .ok (.iaload, 1) := by decide +kernel
theorem dX0_makeCast_58 : decode cX0_makeCast 58 = .ok (.iload_n 2, 1) := by decide +kernel
theorem dX0_makeCast_59 : decode cX0_makeCast 59 = .ok (.iload_n 3, 1) := by decide +kernel
theorem dX0_makeCast_60 : decode cX0_makeCast 60 = .ok (.aload_n 0, 1) := by decide +kernel
theorem dX0_makeCast_61 : decode cX0_makeCast 61 = .ok (.getfield 9, 3) := by decide +kernel
theorem dX0_makeCast_64 : decode cX0_makeCast 64 = .ok (.getfield 45, 3) := by decide +kernel
theorem dX0_makeCast_67 : decode cX0_makeCast 67 = .ok (.bipush 100, 2) := by decide +kernel
theorem dX0_makeCast_69 : decode cX0_makeCast 69 = .ok (.irem, 1) := by decide +kernel
theorem dX0_makeCast_70 : decode cX0_makeCast 70 = .ok (.invokevirtual 85, 3) := by decide +kernel
theorem dX0_makeCast_73 : decode cX0_makeCast 73 = .ok (.iload_n 1, 1) := by decide +kernel
theorem dX0_makeCast_74 : decode cX0_makeCast 74 = .ok (.iload_n 2, 1) := by decide +kernel
theorem dX0_makeCast_75 : decode cX0_makeCast 75 = .ok (.invokevirtual 91, 3) := by decide +kernel
theorem dX0_makeCast_78 : decode cX0_makeCast 78 = .ok (.aload_n 0, 1) := by decide +kernel
theorem dX0_makeCast_79 : decode cX0_makeCast 79 = .ok (.getfield 9, 3) := by decide +kernel
theorem dX0_makeCast_82 : decode cX0_makeCast 82 = .ok (.dup, 1) := by decide +kernel
theorem dX0_makeCast_83 : decode cX0_makeCast 83 = .ok (.getfield 70, 3) := by decide +kernel
theorem dX0_makeCast_86 : decode cX0_makeCast 86 = .ok (.iconst 1, 1) := by decide +kernel
theorem dX0_makeCast_87 : decode cX0_makeCast 87 = .ok (.iload_n 3, 1) := by decide +kernel
theorem dX0_makeCast_88 : decode cX0_makeCast 88 = .ok (.iadd, 1) := by decide +kernel
theorem dX0_makeCast_89 : decode cX0_makeCast 89 = .ok (.isub, 1) := by decide +kernel
theorem dX0_makeCast_90 : decode cX0_makeCast 90 = .ok (.putfield 70, 3) := by decide +kernel
theorem dX0_makeCast_93 : decode cX0_makeCast 93 = .ok (.return_, 1) := by decide +kernel
theorem dX0_takeBack_0 : decode cX0_takeBack 0 = .ok (.aload_n 0, 1) := by decide +kernel
theorem dX0_takeBack_1 : decode cX0_takeBack 1 = .ok (.getfield 19, 3) := by decide +kernel
theorem dX0_takeBack_4 : decode cX0_takeBack 4 = .ok (.iload_n 1, 1) := by decide +kernel
theorem dX0_takeBack_5 : decode cX0_takeBack 5 = .ok (.iaload, 1) := by decide +kernel
theorem dX0_takeBack_6 : decode cX0_takeBack 6 = .ok (.tableswitch 126 0 2 #[26, 75, 104], 26) := by decide +kernel
theorem dX0_takeBack_32 : decode cX0_takeBack 32 = .ok (.aload_n 0, 1) := by decide +kernel
theorem dX0_takeBack_33 : decode cX0_takeBack 33 = .ok (.getfield 9, 3) := by decide +kernel
theorem dX0_takeBack_36 : decode cX0_takeBack 36 = .ok (.dup, 1) := by decide +kernel
theorem dX0_takeBack_37 : decode cX0_takeBack 37 = .ok (.getfield 80, 3) := by decide +kernel
theorem dX0_takeBack_40 : decode cX0_takeBack 40 = .ok (.iconst 1, 1) := by decide +kernel
theorem dX0_takeBack_41 : decode cX0_takeBack 41 = .ok (.isub, 1) := by decide +kernel
theorem dX0_takeBack_42 : decode cX0_takeBack 42 = .ok (.putfield 80, 3) := by decide +kernel
theorem dX0_takeBack_45 : decode cX0_takeBack 45 = .ok (.aload_n 0, 1) := by decide +kernel
theorem dX0_takeBack_46 : decode cX0_takeBack 46 = .ok (.getfield 9, 3) := by decide +kernel
theorem dX0_takeBack_49 : decode cX0_takeBack 49 = .ok (.aload_n 0, 1) := by decide +kernel
theorem dX0_takeBack_50 : decode cX0_takeBack 50 = .ok (.getfield 32, 3) := by decide +kernel
theorem dX0_takeBack_53 : decode cX0_takeBack 53 = .ok (.iload_n 1, 1) := by decide +kernel
theorem dX0_takeBack_54 : decode cX0_takeBack 54 = .ok (.iaload, 1) := by decide +kernel
theorem dX0_takeBack_55 : decode cX0_takeBack 55 = .ok (.putfield 45, 3) := by decide +kernel
theorem dX0_takeBack_58 : decode cX0_takeBack 58 = .ok (.aload_n 0, 1) := by decide +kernel
theorem dX0_takeBack_59 : decode cX0_takeBack 59 = .ok (.getfield 9, 3) := by decide +kernel
theorem dX0_takeBack_62 : decode cX0_takeBack 62 = .ok (.dup, 1) := by decide +kernel
theorem dX0_takeBack_63 : decode cX0_takeBack 63 = .ok (.getfield 70, 3) := by decide +kernel
theorem dX0_takeBack_66 : decode cX0_takeBack 66 = .ok (.iconst 1, 1) := by decide +kernel
theorem dX0_takeBack_67 : decode cX0_takeBack 67 = .ok (.aload_n 0, 1) := by decide +kernel
theorem dX0_takeBack_68 : decode cX0_takeBack 68 = .ok (.getfield 29, 3) := by decide +kernel
theorem dX0_takeBack_71 : decode cX0_takeBack 71 = .ok (.iload_n 1, 1) := by decide +kernel
theorem dX0_takeBack_72 : decode cX0_takeBack 72 = .ok (.iaload, 1) := by decide +kernel
theorem dX0_takeBack_73 : decode cX0_takeBack 73 = .ok (.iadd, 1) := by decide +kernel
theorem dX0_takeBack_74 : decode cX0_takeBack 74 = .ok (.iadd, 1) := by decide +kernel
theorem dX0_takeBack_75 : decode cX0_takeBack 75 = .ok (.putfield 70, 3) := by decide +kernel
theorem dX0_takeBack_78 : decode cX0_takeBack 78 = .ok (.goto 67, 3) := by decide +kernel
theorem dX0_takeBack_81 : decode cX0_takeBack 81 = .ok (.aload_n 0, 1) := by decide +kernel
theorem dX0_takeBack_82 : decode cX0_takeBack 82 = .ok (.getfield 9, 3) := by decide +kernel
theorem dX0_takeBack_85 : decode cX0_takeBack 85 = .ok (.dup, 1) := by decide +kernel
theorem dX0_takeBack_86 : decode cX0_takeBack 86 = .ok (.getfield 94, 3) := by decide +kernel
theorem dX0_takeBack_89 : decode cX0_takeBack 89 = .ok (.iconst 1, 1) := by decide +kernel
theorem dX0_takeBack_90 : decode cX0_takeBack 90 = .ok (.isub, 1) := by decide +kernel
theorem dX0_takeBack_91 : decode cX0_takeBack 91 = .ok (.putfield 94, 3) := by decide +kernel
theorem dX0_takeBack_94 : decode cX0_takeBack 94 = .ok (.aload_n 0, 1) := by decide +kernel
theorem dX0_takeBack_95 : decode cX0_takeBack 95 = .ok (.getfield 9, 3) := by decide +kernel
theorem dX0_takeBack_98 : decode cX0_takeBack 98 = .ok (.dup, 1) := by decide +kernel
theorem dX0_takeBack_99 : decode cX0_takeBack 99 = .ok (.getfield 70, 3) := by decide +kernel
theorem dX0_takeBack_102 : decode cX0_takeBack 102 = .ok (.iconst 1, 1) := by decide +kernel
theorem dX0_takeBack_103 : decode cX0_takeBack 103 = .ok (.iadd, 1) := by decide +kernel
theorem dX0_takeBack_104 : decode cX0_takeBack 104 = .ok (.putfield 70, 3) := by decide +kernel
theorem dX0_takeBack_107 : decode cX0_takeBack 107 = .ok (.goto 38, 3) := by decide +kernel
theorem dX0_takeBack_110 : decode cX0_takeBack 110 = .ok (.aload_n 0, 1) := by decide +kernel
theorem dX0_takeBack_111 : decode cX0_takeBack 111 = .ok (.getfield 9, 3) := by decide +kernel
theorem dX0_takeBack_114 : decode cX0_takeBack 114 = .ok (.aload_n 0, 1) := by decide +kernel
theorem dX0_takeBack_115 : decode cX0_takeBack 115 = .ok (.getfield 23, 3) := by decide +kernel
theorem dX0_takeBack_118 : decode cX0_takeBack 118 = .ok (.iload_n 1, 1) := by decide +kernel
theorem dX0_takeBack_119 : decode cX0_takeBack 119 = .ok (.iaload, 1) := by decide +kernel
theorem dX0_takeBack_120 : decode cX0_takeBack 120 = .ok (.aload_n 0, 1) := by decide +kernel
theorem dX0_takeBack_121 : decode cX0_takeBack 121 = .ok (.getfield 26, 3) := by decide +kernel
theorem dX0_takeBack_124 : decode cX0_takeBack 124 = .ok (.iload_n 1, 1) := by decide +kernel
theorem dX0_takeBack_125 : decode cX0_takeBack 125 = .ok (.iaload, 1) := by decide +kernel
theorem dX0_takeBack_126 : decode cX0_takeBack 126 = .ok (.invokevirtual 73, 3) := by decide +kernel
theorem dX0_takeBack_129 : decode cX0_takeBack 129 = .ok (.goto 16, 3) := by decide +kernel
theorem dX0_takeBack_132 : decode cX0_takeBack 132 = .ok (.aload_n 0, 1) := by decide +kernel
theorem dX0_takeBack_133 : decode cX0_takeBack 133 = .ok (.getfield 9, 3) := by decide +kernel
theorem dX0_takeBack_136 : decode cX0_takeBack 136 = .ok (.dup, 1) := by decide +kernel
theorem dX0_takeBack_137 : decode cX0_takeBack 137 = .ok (.getfield 77, 3) := by decide +kernel
theorem dX0_takeBack_140 : decode cX0_takeBack 140 = .ok (.iconst 1, 1) := by decide +kernel
theorem dX0_takeBack_141 : decode cX0_takeBack 141 = .ok (.isub, 1) := by decide +kernel
theorem dX0_takeBack_142 : decode cX0_takeBack 142 = .ok (.putfield 77, 3) := by decide +kernel
theorem dX0_takeBack_145 : decode cX0_takeBack 145 = .ok (.return_, 1) := by decide +kernel
theorem dX1_init_0 : decode cX1_init 0 = .ok (.aload_n 0, 1) := by decide +kernel
theorem dX1_init_1 : decode cX1_init 1 = .ok (.invokespecial 5, 3) := by decide +kernel
theorem dX1_init_4 : decode cX1_init 4 = .ok (.aload_n 0, 1) := by decide +kernel
theorem dX1_init_5 : decode cX1_init 5 = .ok (.aload_n 1, 1) := by decide +kernel
theorem dX1_init_6 : decode cX1_init 6 = .ok (.putfield 11, 3) := by decide +kernel
theorem dX1_init_9 : decode cX1_init 9 = .ok (.aload_n 0, 1) := by decide +kernel
theorem dX1_init_10 : decode cX1_init 10 = .ok (.aload_n 2, 1) := by decide +kernel
theorem dX1_init_11 : decode cX1_init 11 = .ok (.putfield 15, 3) := by decide +kernel
theorem dX1_init_14 : decode cX1_init 14 = .ok (.aload_n 0, 1) := by decide +kernel
theorem dX1_init_15 : decode cX1_init 15 = .ok (.sipush 4160, 3) := by decide +kernel
theorem dX1_init_18 : decode cX1_init 18 = .ok (.newarray .int, 2) := by decide +kernel
theorem dX1_init_20 : decode cX1_init 20 = .ok (.putfield 19, 3) := by decide +kernel
theorem dX1_init_23 : decode cX1_init 23 = .ok (.aload_n 0, 1) := by decide +kernel
theorem dX1_init_24 : decode cX1_init 24 = .ok (.sipush 4160, 3) := by decide +kernel
theorem dX1_init_27 : decode cX1_init 27 = .ok (.newarray .int, 2) := by decide +kernel
theorem dX1_init_29 : decode cX1_init 29 = .ok (.putfield 23, 3) := by decide +kernel
theorem dX1_init_32 : decode cX1_init 32 = .ok (.aload_n 0, 1) := by decide +kernel
theorem dX1_init_33 : decode cX1_init 33 = .ok (.bipush 40, 2) := by decide +kernel
theorem dX1_init_35 : decode cX1_init 35 = .ok (.newarray .int, 2) := by decide +kernel
theorem dX1_init_37 : decode cX1_init 37 = .ok (.putfield 26, 3) := by decide +kernel
theorem dX1_init_40 : decode cX1_init 40 = .ok (.aload_n 0, 1) := by decide +kernel
theorem dX1_init_41 : decode cX1_init 41 = .ok (.bipush 8, 2) := by decide +kernel
theorem dX1_init_43 : decode cX1_init 43 = .ok (.newarray .int, 2) := by decide +kernel
theorem dX1_init_45 : decode cX1_init 45 = .ok (.putfield 29, 3) := by decide +kernel
theorem dX1_init_48 : decode cX1_init 48 = .ok (.return_, 1) := by decide +kernel
theorem dX1_takeRules_0 : decode cX1_takeRules 0 = .ok (.aload_n 0, 1) := by decide +kernel
theorem dX1_takeRules_1 : decode cX1_takeRules 1 = .ok (.aload_n 1, 1) := by decide +kernel
theorem dX1_takeRules_2 : decode cX1_takeRules 2 = .ok (.putfield 15, 3) := by decide +kernel
theorem dX1_takeRules_5 : decode cX1_takeRules 5 = .ok (.iconst 0, 1) := by decide +kernel
theorem dX1_takeRules_6 : decode cX1_takeRules 6 = .ok (.istore_n 2, 1) := by decide +kernel
theorem dX1_takeRules_7 : decode cX1_takeRules 7 = .ok (.iload_n 2, 1) := by decide +kernel
theorem dX1_takeRules_8 : decode cX1_takeRules 8 = .ok (.aload_n 0, 1) := by decide +kernel
theorem dX1_takeRules_9 : decode cX1_takeRules 9 = .ok (.getfield 26, 3) := by decide +kernel
theorem dX1_takeRules_12 : decode cX1_takeRules 12 = .ok (.arraylength, 1) := by decide +kernel
theorem dX1_takeRules_13 : decode cX1_takeRules 13 = .ok (.if_icmp .ge 16, 3) := by decide +kernel
theorem dX1_takeRules_16 : decode cX1_takeRules 16 = .ok (.aload_n 0, 1) := by decide +kernel
theorem dX1_takeRules_17 : decode cX1_takeRules 17 = .ok (.getfield 26, 3) := by decide +kernel
theorem dX1_takeRules_20 : decode cX1_takeRules 20 = .ok (.iload_n 2, 1) := by decide +kernel
theorem dX1_takeRules_21 : decode cX1_takeRules 21 = .ok (.iconst (-1), 1) := by decide +kernel
theorem dX1_takeRules_22 : decode cX1_takeRules 22 = .ok (.iastore, 1) := by decide +kernel
theorem dX1_takeRules_23 : decode cX1_takeRules 23 = .ok (.iinc 2 1, 3) := by decide +kernel
theorem dX1_takeRules_26 : decode cX1_takeRules 26 = .ok (.goto (-19), 3) := by decide +kernel
theorem dX1_takeRules_29 : decode cX1_takeRules 29 = .ok (.return_, 1) := by decide +kernel
theorem dX1_isHeatUsed_0 : decode cX1_isHeatUsed 0 = .ok (.aload_n 0, 1) := by decide +kernel
theorem dX1_isHeatUsed_1 : decode cX1_isHeatUsed 1 = .ok (.getfield 15, 3) := by decide +kernel
theorem dX1_isHeatUsed_4 : decode cX1_isHeatUsed 4 = .ok (.iload_n 1, 1) := by decide +kernel
theorem dX1_isHeatUsed_5 : decode cX1_isHeatUsed 5 = .ok (.bipush 6, 2) := by decide +kernel
theorem dX1_isHeatUsed_7 : decode cX1_isHeatUsed 7 = .ok (.invokevirtual 32, 3) := by decide +kernel
theorem dX1_isHeatUsed_10 : decode cX1_isHeatUsed 10 = .ok (.ireturn, 1) := by decide +kernel
theorem dX1_handCount_0 : decode cX1_handCount 0 = .ok (.aload_n 0, 1) := by decide +kernel
theorem dX1_handCount_1 : decode cX1_handCount 1 = .ok (.getfield 15, 3) := by decide +kernel
theorem dX1_handCount_4 : decode cX1_handCount 4 = .ok (.getfield 38, 3) := by decide +kernel
theorem dX1_handCount_7 : decode cX1_handCount 7 = .ok (.ireturn, 1) := by decide +kernel
theorem dX1_rowAfter_0 : decode cX1_rowAfter 0 = .ok (.iload_n 2, 1) := by decide +kernel
theorem dX1_rowAfter_1 : decode cX1_rowAfter 1 = .ok (.ifCond .lt 21, 3) := by decide +kernel
theorem dX1_rowAfter_4 : decode cX1_rowAfter 4 = .ok (.iload_n 2, 1) := by decide +kernel
theorem dX1_rowAfter_5 : decode cX1_rowAfter 5 = .ok (.aload_n 0, 1) := by decide +kernel
theorem dX1_rowAfter_6 : decode cX1_rowAfter 6 = .ok (.getfield 15, 3) := by decide +kernel
theorem dX1_rowAfter_9 : decode cX1_rowAfter 9 = .ok (.getfield 38, 3) := by decide +kernel
theorem dX1_rowAfter_12 : decode cX1_rowAfter 12 = .ok (.if_icmp .ge 10, 3) := by decide +kernel
theorem dX1_rowAfter_15 : decode cX1_rowAfter 15 = .ok (.iload_n 3, 1) := by decide +kernel
theorem dX1_rowAfter_16 : decode cX1_rowAfter 16 = .ok (.invokestatic 42, 3) := by decide +kernel
theorem dX1_rowAfter_19 : decode cX1_rowAfter 19 = .ok (.ifCond .ne 5, 3) := by decide +kernel
theorem dX1_rowAfter_22 : decode cX1_rowAfter 22 = .ok (.iload_n 1, 1) := by decide +kernel
theorem dX1_rowAfter_23 : decode cX1_rowAfter 23 = .ok (.ireturn, 1) := by decide +kernel
theorem dX1_rowAfter_24 : decode cX1_rowAfter 24 = .ok (.iload_n 1, 1) := by decide +kernel
theorem dX1_rowAfter_25 : decode cX1_rowAfter 25 = .ok (.aload_n 0, 1) := by decide +kernel
theorem dX1_rowAfter_26 : decode cX1_rowAfter 26 = .ok (.getfield 15, 3) := by decide +kernel
theorem dX1_rowAfter_29 : decode cX1_rowAfter 29 = .ok (.getfield 46, 3) := by decide +kernel
theorem dX1_rowAfter_32 : decode cX1_rowAfter 32 = .ok (.invokestatic 49, 3) := by decide +kernel
theorem dX1_rowAfter_35 : decode cX1_rowAfter 35 = .ok (.istore 5, 2) := by decide +kernel
theorem dX1_rowAfter_37 : decode cX1_rowAfter 37 = .ok (.iload 5, 2) := by decide +kernel
theorem dX1_rowAfter_39 : decode cX1_rowAfter 39 = .ok (.invokestatic 53, 3) := by decide +kernel
theorem dX1_rowAfter_42 : decode cX1_rowAfter 42 = .ok (.istore 6, 2) := by decide +kernel
theorem dX1_rowAfter_44 : decode cX1_rowAfter 44 = .ok (.aload_n 0, 1) := by decide +kernel
theorem dX1_rowAfter_45 : decode cX1_rowAfter 45 = .ok (.iload_n 2, 1) := by decide +kernel
theorem dX1_rowAfter_46 : decode cX1_rowAfter 46 = .ok (.iload_n 3, 1) := by decide +kernel
theorem dX1_rowAfter_47 : decode cX1_rowAfter 47 = .ok (.iload 4, 2) := by decide +kernel
theorem dX1_rowAfter_49 : decode cX1_rowAfter 49 = .ok (.invokevirtual 59, 3) := by decide +kernel
theorem dX1_rowAfter_52 : decode cX1_rowAfter 52 = .ok (.istore 7, 2) := by decide +kernel
theorem dX1_rowAfter_54 : decode cX1_rowAfter 54 = .ok (.aload_n 0, 1) := by decide +kernel
theorem dX1_rowAfter_55 : decode cX1_rowAfter 55 = .ok (.getfield 15, 3) := by decide +kernel
theorem dX1_rowAfter_58 : decode cX1_rowAfter 58 = .ok (.iload_n 2, 1) := by decide +kernel
theorem dX1_rowAfter_59 : decode cX1_rowAfter 59 = .ok (.iconst 4, 1) := by decide +kernel
theorem dX1_rowAfter_60 : decode cX1_rowAfter 60 = .ok (.invokevirtual 32, 3) := by decide +kernel
theorem dX1_rowAfter_63 : decode cX1_rowAfter 63 = .ok (.ifCond .eq 28, 3) := by decide +kernel
theorem dX1_rowAfter_66 : decode cX1_rowAfter 66 = .ok (.iload 6, 2) := by decide +kernel
theorem dX1_rowAfter_68 : decode cX1_rowAfter 68 = .ok (.bipush 12, 2) := by decide +kernel
theorem dX1_rowAfter_70 : decode cX1_rowAfter 70 = .ok (.if_icmp .gt 21, 3) := by decide +kernel
theorem dX1_rowAfter_73 : decode cX1_rowAfter 73 = .ok (.iload 7, 2) := by decide +kernel
theorem dX1_rowAfter_75 : decode cX1_rowAfter 75 = .ok (.iload 6, 2) := by decide +kernel
theorem dX1_rowAfter_77 : decode cX1_rowAfter 77 = .ok (.bipush 8, 2) := by decide +kernel
theorem dX1_rowAfter_79 : decode cX1_rowAfter 79 = .ok (.imul, 1) := by decide +kernel
theorem dX1_rowAfter_80 : decode cX1_rowAfter 80 = .ok (.iadd, 1) := by decide +kernel
theorem dX1_rowAfter_81 : decode cX1_rowAfter 81 = .ok (.istore 7, 2) := by decide +kernel
theorem dX1_rowAfter_83 : decode cX1_rowAfter 83 = .ok (.aload_n 0, 1) := by decide +kernel
theorem dX1_rowAfter_84 : decode cX1_rowAfter 84 = .ok (.getfield 29, 3) := by decide +kernel
theorem dX1_rowAfter_87 : decode cX1_rowAfter 87 = .ok (.iconst 4, 1) := by decide +kernel
theorem dX1_rowAfter_88 : decode cX1_rowAfter 88 = .ok (.iload 6, 2) := by decide +kernel
theorem dX1_rowAfter_90 : decode cX1_rowAfter 90 = .ok (.iastore, 1) := by decide +kernel
theorem dX1_rowAfter_91 : decode cX1_rowAfter 91 = .ok (.aload_n 0, 1) := by decide +kernel
theorem dX1_rowAfter_92 : decode cX1_rowAfter 92 = .ok (.getfield 15, 3) := by decide +kernel
theorem dX1_rowAfter_95 : decode cX1_rowAfter 95 = .ok (.getfield 46, 3) := by decide +kernel
theorem dX1_rowAfter_98 : decode cX1_rowAfter 98 = .ok (.istore 8, 2) := by decide +kernel
theorem dX1_rowAfter_100 : decode cX1_rowAfter 100 = .ok (.iload 5, 2) := by decide +kernel
theorem dX1_rowAfter_102 : decode cX1_rowAfter 102 = .ok (.iconst 1, 1) := by decide +kernel
theorem dX1_rowAfter_103 : decode cX1_rowAfter 103 = .ok (.ishl, 1) := by decide +kernel
theorem dX1_rowAfter_104 : decode cX1_rowAfter 104 = .ok (.istore 9, 2) := by decide +kernel
theorem dX1_rowAfter_106 : decode cX1_rowAfter 106 = .ok (.iconst 0, 1) := by decide +kernel
theorem dX1_rowAfter_107 : decode cX1_rowAfter 107 = .ok (.istore 10, 2) := by decide +kernel
theorem dX1_rowAfter_109 : decode cX1_rowAfter 109 = .ok (.iconst 0, 1) := by decide +kernel
theorem dX1_rowAfter_110 : decode cX1_rowAfter 110 = .ok (.istore 11, 2) := by decide +kernel
theorem dX1_rowAfter_112 : decode cX1_rowAfter 112 = .ok (.iload 11, 2) := by decide +kernel
theorem dX1_rowAfter_114 : decode cX1_rowAfter 114 = .ok (.iload 8, 2) := by decide +kernel
theorem dX1_rowAfter_116 : decode cX1_rowAfter 116 = .ok (.if_icmp .ge 70, 3) := by decide +kernel
theorem dX1_rowAfter_119 : decode cX1_rowAfter 119 = .ok (.iload 9, 2) := by decide +kernel
theorem dX1_rowAfter_121 : decode cX1_rowAfter 121 = .ok (.iload 11, 2) := by decide +kernel
theorem dX1_rowAfter_123 : decode cX1_rowAfter 123 = .ok (.iushr, 1) := by decide +kernel
theorem dX1_rowAfter_124 : decode cX1_rowAfter 124 = .ok (.bipush 7, 2) := by decide +kernel
theorem dX1_rowAfter_126 : decode cX1_rowAfter 126 = .ok (.iand, 1) := by decide +kernel
theorem dX1_rowAfter_127 : decode cX1_rowAfter 127 = .ok (.istore 12, 2) := by decide +kernel
theorem dX1_rowAfter_129 : decode cX1_rowAfter 129 = .ok (.iconst 1, 1) := by decide +kernel
theorem dX1_rowAfter_130 : decode cX1_rowAfter 130 = .ok (.iload 11, 2) := by decide +kernel
theorem dX1_rowAfter_132 : decode cX1_rowAfter 132 = .ok (.ishl, 1) := by decide +kernel
theorem dX1_rowAfter_133 : decode cX1_rowAfter 133 = .ok (.istore 13, 2) := by decide +kernel
theorem dX1_rowAfter_135 : decode cX1_rowAfter 135 = .ok (.aload_n 0, 1) := by decide +kernel
theorem dX1_rowAfter_136 : decode cX1_rowAfter 136 = .ok (.getfield 19, 3) := by decide +kernel
theorem dX1_rowAfter_139 : decode cX1_rowAfter 139 = .ok (.iload 7, 2) := by decide +kernel
theorem dX1_rowAfter_141 : decode cX1_rowAfter 141 = .ok (.iload 12, 2) := by decide +kernel
theorem dX1_rowAfter_143 : decode cX1_rowAfter 143 = .ok (.iadd, 1) := by decide +kernel
theorem dX1_rowAfter_144 : decode cX1_rowAfter 144 = .ok (.iaload, 1) := by decide +kernel
theorem dX1_rowAfter_145 : decode cX1_rowAfter 145 = .ok (.iload 13, 2) := by decide +kernel
theorem dX1_rowAfter_147 : decode cX1_rowAfter 147 = .ok (.iand, 1) := by decide +kernel
theorem dX1_rowAfter_148 : decode cX1_rowAfter 148 = .ok (.ifCond .ne 14, 3) := by decide +kernel
theorem dX1_rowAfter_151 : decode cX1_rowAfter 151 = .ok (.aload_n 0, 1) := by decide +kernel
theorem dX1_rowAfter_152 : decode cX1_rowAfter 152 = .ok (.iload_n 2, 1) := by decide +kernel
theorem dX1_rowAfter_153 : decode cX1_rowAfter 153 = .ok (.iload 7, 2) := by decide +kernel
theorem dX1_rowAfter_155 : decode cX1_rowAfter 155 = .ok (.iload 12, 2) := by decide +kernel
theorem dX1_rowAfter_157 : decode cX1_rowAfter 157 = .ok (.iload 11, 2) := by decide +kernel
theorem dX1_rowAfter_159 : decode cX1_rowAfter 159 = .ok (.invokevirtual 63, 3) := by decide +kernel
theorem dX1_rowAfter_162 : decode cX1_rowAfter 162 = .ok (.iload 10, 2) := by decide +kernel
theorem dX1_rowAfter_164 : decode cX1_rowAfter 164 = .ok (.aload_n 0, 1) := by decide +kernel
theorem dX1_rowAfter_165 : decode cX1_rowAfter 165 = .ok (.getfield 23, 3) := by decide +kernel
theorem dX1_rowAfter_168 : decode cX1_rowAfter 168 = .ok (.iload 7, 2) := by decide +kernel
theorem dX1_rowAfter_170 : decode cX1_rowAfter 170 = .ok (.iload 12, 2) := by decide +kernel
theorem dX1_rowAfter_172 : decode cX1_rowAfter 172 = .ok (.iadd, 1) := by decide +kernel
theorem dX1_rowAfter_173 : decode cX1_rowAfter 173 = .ok (.iaload, 1) := by decide +kernel
theorem dX1_rowAfter_174 : decode cX1_rowAfter 174 = .ok (.iload 13, 2) := by decide +kernel
theorem dX1_rowAfter_176 : decode cX1_rowAfter 176 = .ok (.iand, 1) := by decide +kernel
theorem dX1_rowAfter_177 : decode cX1_rowAfter 177 = .ok (.ior, 1) := by decide +kernel
theorem dX1_rowAfter_178 : decode cX1_rowAfter 178 = .ok (.istore 10, 2) := by decide +kernel
theorem dX1_rowAfter_180 : decode cX1_rowAfter 180 = .ok (.iinc 11 1, 3) := by decide +kernel
theorem dX1_rowAfter_183 : decode cX1_rowAfter 183 = .ok (.goto (-71), 3) := by decide +kernel
theorem dX1_rowAfter_186 : decode cX1_rowAfter 186 = .ok (.iload 10, 2) := by decide +kernel
theorem dX1_rowAfter_188 : decode cX1_rowAfter 188 = .ok (.ireturn, 1) := by decide +kernel
theorem dX1_setUp_0 : decode cX1_setUp 0 = .ok (.iload_n 1, 1) := by decide +kernel
theorem dX1_setUp_1 : decode cX1_setUp 1 = .ok (.bipush 10, 2) := by decide +kernel
theorem dX1_setUp_3 : decode cX1_setUp 3 = .ok (.imul, 1) := by decide +kernel
theorem dX1_setUp_4 : decode cX1_setUp 4 = .ok (.aload_n 0, 1) := by decide +kernel
theorem dX1_setUp_5 : decode cX1_setUp 5 = .ok (.getfield 15, 3) := by decide +kernel
theorem dX1_setUp_8 : decode cX1_setUp 8 = .ok (.iload_n 1, 1) := by decide +kernel
theorem dX1_setUp_9 : decode cX1_setUp 9 = .ok (.bipush 6, 2) := by decide +kernel
theorem dX1_setUp_11 : decode cX1_setUp 11 = .ok (.invokevirtual 32, 3) := by decide +kernel
theorem dX1_setUp_14 : decode cX1_setUp 14 = .ok (.ifCond .eq 7, 3) := by decide +kernel
theorem dX1_setUp_17 : decode cX1_setUp 17 = .ok (.iload_n 2, 1) := by decide +kernel
theorem dX1_setUp_18 : decode cX1_setUp 18 = .ok (.goto 4, 3) := by decide +kernel
theorem dX1_setUp_21 : decode cX1_setUp 21 = .ok (.iconst 0, 1) := by decide +kernel
theorem dX1_setUp_22 : decode cX1_setUp 22 = .ok (.iadd, 1) := by decide +kernel
theorem dX1_setUp_23 : decode cX1_setUp 23 = .ok (.istore 4, 2) := by decide +kernel
theorem dX1_setUp_25 : decode cX1_setUp 25 = .ok (.aload_n 0, 1) := by decide +kernel
theorem dX1_setUp_26 : decode cX1_setUp 26 = .ok (.getfield 15, 3) := by decide +kernel
theorem dX1_setUp_29 : decode cX1_setUp 29 = .ok (.iload_n 1, 1) := by decide +kernel
theorem dX1_setUp_30 : decode cX1_setUp 30 = .ok (.iconst 5, 1) := by decide +kernel
theorem dX1_setUp_31 : decode cX1_setUp 31 = .ok (.invokevirtual 32, 3) := by decide +kernel
theorem dX1_setUp_34 : decode cX1_setUp 34 = .ok (.ifCond .eq 16, 3) := by decide +kernel
theorem dX1_setUp_37 : decode cX1_setUp 37 = .ok (.aload_n 0, 1) := by decide +kernel
theorem dX1_setUp_38 : decode cX1_setUp 38 = .ok (.getfield 11, 3) := by decide +kernel
theorem dX1_setUp_41 : decode cX1_setUp 41 = .ok (.getfield 67, 3) := by decide +kernel
theorem dX1_setUp_44 : decode cX1_setUp 44 = .ok (.bipush 100, 2) := by decide +kernel
theorem dX1_setUp_46 : decode cX1_setUp 46 = .ok (.imul, 1) := by decide +kernel
theorem dX1_setUp_47 : decode cX1_setUp 47 = .ok (.goto 4, 3) := by decide +kernel
theorem dX1_setUp_50 : decode cX1_setUp 50 = .ok (.iconst 0, 1) := by decide +kernel
theorem dX1_setUp_51 : decode cX1_setUp 51 = .ok (.istore 5, 2) := by decide +kernel
theorem dX1_setUp_53 : decode cX1_setUp 53 = .ok (.iload 5, 2) := by decide +kernel
theorem dX1_setUp_55 : decode cX1_setUp 55 = .ok (.aload_n 0, 1) := by decide +kernel
theorem dX1_setUp_56 : decode cX1_setUp 56 = .ok (.getfield 15, 3) := by decide +kernel
theorem dX1_setUp_59 : decode cX1_setUp 59 = .ok (.iload_n 1, 1) := by decide +kernel
theorem dX1_setUp_60 : decode cX1_setUp 60 = .ok (.bipush 7, 2) := by decide +kernel
theorem dX1_setUp_62 : decode cX1_setUp 62 = .ok (.invokevirtual 32, 3) := by decide +kernel
theorem dX1_setUp_65 : decode cX1_setUp 65 = .ok (.ifCond .eq 7, 3) := by decide +kernel
theorem dX1_setUp_68 : decode cX1_setUp 68 = .ok (.iload_n 3, 1) := by decide +kernel
theorem dX1_setUp_69 : decode cX1_setUp 69 = .ok (.goto 4, 3) := by decide +kernel
theorem dX1_setUp_72 : decode cX1_setUp 72 = .ok (.iconst 0, 1) := by decide +kernel
theorem dX1_setUp_73 : decode cX1_setUp 73 = .ok (.iadd, 1) := by decide +kernel
theorem dX1_setUp_74 : decode cX1_setUp 74 = .ok (.istore 5, 2) := by decide +kernel
theorem dX1_setUp_76 : decode cX1_setUp 76 = .ok (.aload_n 0, 1) := by decide +kernel
theorem dX1_setUp_77 : decode cX1_setUp 77 = .ok (.getfield 26, 3) := by decide +kernel
theorem dX1_setUp_80 : decode cX1_setUp 80 = .ok (.iload 4, 2) := by decide +kernel
theorem dX1_setUp_82 : decode cX1_setUp 82 = .ok (.iaload, 1) := by decide +kernel
theorem dX1_setUp_83 : decode cX1_setUp 83 = .ok (.iload 5, 2) := by decide +kernel
theorem dX1_setUp_85 : decode cX1_setUp 85 = .ok (.if_icmp .eq 40, 3) := by decide +kernel
theorem dX1_setUp_88 : decode cX1_setUp 88 = .ok (.aload_n 0, 1) := by decide +kernel
theorem dX1_setUp_89 : decode cX1_setUp 89 = .ok (.iload 4, 2) := by decide +kernel
theorem dX1_setUp_91 : decode cX1_setUp 91 = .ok (.bipush 104, 2) := by decide +kernel
theorem dX1_setUp_93 : decode cX1_setUp 93 = .ok (.imul, 1) := by decide +kernel
theorem dX1_setUp_94 : decode cX1_setUp 94 = .ok (.aload_n 0, 1) := by decide +kernel
theorem dX1_setUp_95 : decode cX1_setUp 95 = .ok (.getfield 15, 3) := by decide +kernel
theorem dX1_setUp_98 : decode cX1_setUp 98 = .ok (.iload_n 1, 1) := by decide +kernel
theorem dX1_setUp_99 : decode cX1_setUp 99 = .ok (.iconst 4, 1) := by decide +kernel
theorem dX1_setUp_100 : decode cX1_setUp 100 = .ok (.invokevirtual 32, 3) := by decide +kernel
theorem dX1_setUp_103 : decode cX1_setUp 103 = .ok (.ifCond .eq 8, 3) := by decide +kernel
theorem dX1_setUp_106 : decode cX1_setUp 106 = .ok (.bipush 104, 2) := by decide +kernel
theorem dX1_setUp_108 : decode cX1_setUp 108 = .ok (.goto 5, 3) := by decide +kernel
theorem dX1_setUp_111 : decode cX1_setUp 111 = .ok (.bipush 8, 2) := by decide +kernel
theorem dX1_setUp_113 : decode cX1_setUp 113 = .ok (.invokevirtual 72, 3) := by decide +kernel
theorem dX1_setUp_116 : decode cX1_setUp 116 = .ok (.aload_n 0, 1) := by decide +kernel
theorem dX1_setUp_117 : decode cX1_setUp 117 = .ok (.getfield 26, 3) := by decide +kernel
theorem dX1_setUp_120 : decode cX1_setUp 120 = .ok (.iload 4, 2) := by decide +kernel
theorem dX1_setUp_122 : decode cX1_setUp 122 = .ok (.iload 5, 2) := by decide +kernel
theorem dX1_setUp_124 : decode cX1_setUp 124 = .ok (.iastore, 1) := by decide +kernel
theorem dX1_setUp_125 : decode cX1_setUp 125 = .ok (.aload_n 0, 1) := by decide +kernel
theorem dX1_setUp_126 : decode cX1_setUp 126 = .ok (.getfield 29, 3) := by decide +kernel
theorem dX1_setUp_129 : decode cX1_setUp 129 = .ok (.iconst 5, 1) := by decide +kernel
theorem dX1_setUp_130 : decode cX1_setUp 130 = .ok (.aload_n 0, 1) := by decide +kernel
theorem dX1_setUp_131 : decode cX1_setUp 131 = .ok (.getfield 11, 3) := by decide +kernel
theorem dX1_setUp_134 : decode cX1_setUp 134 = .ok (.getfield 67, 3) := by decide +kernel
theorem dX1_setUp_137 : decode cX1_setUp 137 = .ok (.iastore, 1) := by decide +kernel
theorem dX1_setUp_138 : decode cX1_setUp 138 = .ok (.aload_n 0, 1) := by decide +kernel
theorem dX1_setUp_139 : decode cX1_setUp 139 = .ok (.getfield 29, 3) := by decide +kernel
theorem dX1_setUp_142 : decode cX1_setUp 142 = .ok (.bipush 6, 2) := by decide +kernel
theorem dX1_setUp_144 : decode cX1_setUp 144 = .ok (.iload_n 2, 1) := by decide +kernel
theorem dX1_setUp_145 : decode cX1_setUp 145 = .ok (.iastore, 1) := by decide +kernel
theorem dX1_setUp_146 : decode cX1_setUp 146 = .ok (.aload_n 0, 1) := by decide +kernel
theorem dX1_setUp_147 : decode cX1_setUp 147 = .ok (.getfield 29, 3) := by decide +kernel
theorem dX1_setUp_150 : decode cX1_setUp 150 = .ok (.bipush 7, 2) := by decide +kernel
theorem dX1_setUp_152 : decode cX1_setUp 152 = .ok (.iload_n 3, 1) := by decide +kernel
theorem dX1_setUp_153 : decode cX1_setUp 153 = .ok (.iastore, 1) := by decide +kernel
theorem dX1_setUp_154 : decode cX1_setUp 154 = .ok (.iload 4, 2) := by decide +kernel
theorem dX1_setUp_156 : decode cX1_setUp 156 = .ok (.bipush 104, 2) := by decide +kernel
theorem dX1_setUp_158 : decode cX1_setUp 158 = .ok (.imul, 1) := by decide +kernel
theorem dX1_setUp_159 : decode cX1_setUp 159 = .ok (.ireturn, 1) := by decide +kernel
theorem dX1_forget_0 : decode cX1_forget 0 = .ok (.iload_n 1, 1) := by decide +kernel
theorem dX1_forget_1 : decode cX1_forget 1 = .ok (.iconst 0, 1) := by decide +kernel
theorem dX1_forget_2 : decode cX1_forget 2 = .ok (.invokestatic 76, 3) := by decide +kernel
theorem dX1_forget_5 : decode cX1_forget 5 = .ok (.istore_n 3, 1) := by decide +kernel
theorem dX1_forget_6 : decode cX1_forget 6 = .ok (.iload_n 3, 1) := by decide +kernel
theorem dX1_forget_7 : decode cX1_forget 7 = .ok (.iload_n 1, 1) := by decide +kernel
theorem dX1_forget_8 : decode cX1_forget 8 = .ok (.iload_n 2, 1) := by decide +kernel
theorem dX1_forget_9 : decode cX1_forget 9 = .ok (.iadd, 1) := by decide +kernel
theorem dX1_forget_10 : decode cX1_forget 10 = .ok (.if_icmp .ge 32, 3) := by decide +kernel
theorem dX1_forget_13 : decode cX1_forget 13 = .ok (.iload_n 3, 1) := by decide +kernel
theorem dX1_forget_14 : decode cX1_forget 14 = .ok (.aload_n 0, 1) := by decide +kernel
theorem dX1_forget_15 : decode cX1_forget 15 = .ok (.getfield 19, 3) := by decide +kernel
theorem dX1_forget_18 : decode cX1_forget 18 = .ok (.arraylength, 1) := by decide +kernel
theorem dX1_forget_19 : decode cX1_forget 19 = .ok (.if_icmp .ge 23, 3) := by decide +kernel
theorem dX1_forget_22 : decode cX1_forget 22 = .ok (.aload_n 0, 1) := by decide +kernel
theorem dX1_forget_23 : decode cX1_forget 23 = .ok (.getfield 19, 3) := by decide +kernel
theorem dX1_forget_26 : decode cX1_forget 26 = .ok (.iload_n 3, 1) := by decide +kernel
theorem dX1_forget_27 : decode cX1_forget 27 = .ok (.iconst 0, 1) := by decide +kernel
theorem dX1_forget_28 : decode cX1_forget 28 = .ok (.iastore, 1) := by decide +kernel
theorem dX1_forget_29 : decode cX1_forget 29 = .ok (.aload_n 0, 1) := by decide +kernel
theorem dX1_forget_30 : decode cX1_forget 30 = .ok (.getfield 23, 3) := by decide +kernel
theorem dX1_forget_33 : decode cX1_forget 33 = .ok (.iload_n 3, 1) := by decide +kernel
theorem dX1_forget_34 : decode cX1_forget 34 = .ok (.iconst 0, 1) := by decide +kernel
theorem dX1_forget_35 : decode cX1_forget 35 = .ok (.iastore, 1) := by decide +kernel
theorem dX1_forget_36 : decode cX1_forget 36 = .ok (.iinc 3 1, 3) := by decide +kernel
theorem dX1_forget_39 : decode cX1_forget 39 = .ok (.goto (-33), 3) := by decide +kernel
theorem dX1_forget_42 : decode cX1_forget 42 = .ok (.return_, 1) := by decide +kernel
theorem dX1_learn_0 : decode cX1_learn 0 = .ok (.aload_n 0, 1) := by decide +kernel
theorem dX1_learn_1 : decode cX1_learn 1 = .ok (.getfield 29, 3) := by decide +kernel
theorem dX1_learn_4 : decode cX1_learn 4 = .ok (.iconst 0, 1) := by decide +kernel
theorem dX1_learn_5 : decode cX1_learn 5 = .ok (.iload 4, 2) := by decide +kernel
theorem dX1_learn_7 : decode cX1_learn 7 = .ok (.iastore, 1) := by decide +kernel
theorem dX1_learn_8 : decode cX1_learn 8 = .ok (.aload_n 0, 1) := by decide +kernel
theorem dX1_learn_9 : decode cX1_learn 9 = .ok (.getfield 29, 3) := by decide +kernel
theorem dX1_learn_12 : decode cX1_learn 12 = .ok (.iconst 2, 1) := by decide +kernel
theorem dX1_learn_13 : decode cX1_learn 13 = .ok (.iload_n 3, 1) := by decide +kernel
theorem dX1_learn_14 : decode cX1_learn 14 = .ok (.iconst 1, 1) := by decide +kernel
theorem dX1_learn_15 : decode cX1_learn 15 = .ok (.iand, 1) := by decide +kernel
theorem dX1_learn_16 : decode cX1_learn 16 = .ok (.iastore, 1) := by decide +kernel
theorem dX1_learn_17 : decode cX1_learn 17 = .ok (.aload_n 0, 1) := by decide +kernel
theorem dX1_learn_18 : decode cX1_learn 18 = .ok (.getfield 29, 3) := by decide +kernel
theorem dX1_learn_21 : decode cX1_learn 21 = .ok (.iconst 1, 1) := by decide +kernel
theorem dX1_learn_22 : decode cX1_learn 22 = .ok (.iload_n 3, 1) := by decide +kernel
theorem dX1_learn_23 : decode cX1_learn 23 = .ok (.iconst 1, 1) := by decide +kernel
theorem dX1_learn_24 : decode cX1_learn 24 = .ok (.ishr, 1) := by decide +kernel
theorem dX1_learn_25 : decode cX1_learn 25 = .ok (.iconst 1, 1) := by decide +kernel
theorem dX1_learn_26 : decode cX1_learn 26 = .ok (.iand, 1) := by decide +kernel
theorem dX1_learn_27 : decode cX1_learn 27 = .ok (.iastore, 1) := by decide +kernel
theorem dX1_learn_28 : decode cX1_learn 28 = .ok (.aload_n 0, 1) := by decide +kernel
theorem dX1_learn_29 : decode cX1_learn 29 = .ok (.getfield 29, 3) := by decide +kernel
theorem dX1_learn_32 : decode cX1_learn 32 = .ok (.iconst 3, 1) := by decide +kernel
theorem dX1_learn_33 : decode cX1_learn 33 = .ok (.iload_n 3, 1) := by decide +kernel
theorem dX1_learn_34 : decode cX1_learn 34 = .ok (.iconst 2, 1) := by decide +kernel
theorem dX1_learn_35 : decode cX1_learn 35 = .ok (.ishr, 1) := by decide +kernel
theorem dX1_learn_36 : decode cX1_learn 36 = .ok (.iconst 1, 1) := by decide +kernel
theorem dX1_learn_37 : decode cX1_learn 37 = .ok (.iand, 1) := by decide +kernel
theorem dX1_learn_38 : decode cX1_learn 38 = .ok (.iastore, 1) := by decide +kernel
theorem dX1_learn_39 : decode cX1_learn 39 = .ok (.aload_n 0, 1) := by decide +kernel
theorem dX1_learn_40 : decode cX1_learn 40 = .ok (.getfield 29, 3) := by decide +kernel
theorem dX1_learn_43 : decode cX1_learn 43 = .ok (.iconst 1, 1) := by decide +kernel
theorem dX1_learn_44 : decode cX1_learn 44 = .ok (.iaload, 1) := by decide +kernel
theorem dX1_learn_45 : decode cX1_learn 45 = .ok (.ifCond .eq 28, 3) := by decide +kernel
theorem dX1_learn_48 : decode cX1_learn 48 = .ok (.aload_n 0, 1) := by decide +kernel
theorem dX1_learn_49 : decode cX1_learn 49 = .ok (.getfield 15, 3) := by decide +kernel
theorem dX1_learn_52 : decode cX1_learn 52 = .ok (.iconst 2, 1) := by decide +kernel
theorem dX1_learn_53 : decode cX1_learn 53 = .ok (.iload_n 1, 1) := by decide +kernel
theorem dX1_learn_54 : decode cX1_learn 54 = .ok (.imul, 1) := by decide +kernel
theorem dX1_learn_55 : decode cX1_learn 55 = .ok (.aload_n 0, 1) := by decide +kernel
theorem dX1_learn_56 : decode cX1_learn 56 = .ok (.getfield 29, 3) := by decide +kernel
theorem dX1_learn_59 : decode cX1_learn 59 = .ok (.invokevirtual 81, 3) := by decide +kernel
theorem dX1_learn_62 : decode cX1_learn 62 = .ok (.ifCond .ne 7, 3) := by decide +kernel
theorem dX1_learn_65 : decode cX1_learn 65 = .ok (.iconst 1, 1) := by decide +kernel
theorem dX1_learn_66 : decode cX1_learn 66 = .ok (.goto 31, 3) := by decide +kernel
theorem dX1_learn_69 : decode cX1_learn 69 = .ok (.iconst 0, 1) := by decide +kernel
theorem dX1_learn_70 : decode cX1_learn 70 = .ok (.goto 27, 3) := by decide +kernel
theorem dX1_learn_73 : decode cX1_learn 73 = .ok (.aload_n 0, 1) := by decide +kernel
theorem dX1_learn_74 : decode cX1_learn 74 = .ok (.getfield 15, 3) := by decide +kernel
theorem dX1_learn_77 : decode cX1_learn 77 = .ok (.iconst 2, 1) := by decide +kernel
theorem dX1_learn_78 : decode cX1_learn 78 = .ok (.iload_n 1, 1) := by decide +kernel
theorem dX1_learn_79 : decode cX1_learn 79 = .ok (.imul, 1) := by decide +kernel
theorem dX1_learn_80 : decode cX1_learn 80 = .ok (.iconst 1, 1) := by decide +kernel
theorem dX1_learn_81 : decode cX1_learn 81 = .ok (.iadd, 1) := by decide +kernel
theorem dX1_learn_82 : decode cX1_learn 82 = .ok (.aload_n 0, 1) := by decide +kernel
theorem dX1_learn_83 : decode cX1_learn 83 = .ok (.getfield 29, 3) := by decide +kernel
theorem dX1_learn_86 : decode cX1_learn 86 = .ok (.invokevirtual 81, 3) := by decide +kernel
theorem dX1_learn_89 : decode cX1_learn 89 = .ok (.ifCond .eq 7, 3) := by decide +kernel
theorem dX1_learn_92 : decode cX1_learn 92 = .ok (.iconst 1, 1) := by decide +kernel
theorem dX1_learn_93 : decode cX1_learn 93 = .ok (.goto 4, 3) := by decide +kernel
theorem dX1_learn_96 : decode cX1_learn 96 = .ok (.iconst 0, 1) := by decide +kernel
theorem dX1_learn_97 : decode cX1_learn 97 = .ok (.istore 5, 2) := by decide +kernel
theorem dX1_learn_99 : decode cX1_learn 99 = .ok (.iload_n 2, 1) := by decide +kernel
theorem dX1_learn_100 : decode cX1_learn 100 = .ok (.iload_n 3, 1) := by decide +kernel
theorem dX1_learn_101 : decode cX1_learn 101 = .ok (.iadd, 1) := by decide +kernel
theorem dX1_learn_102 : decode cX1_learn 102 = .ok (.istore 6, 2) := by decide +kernel
theorem dX1_learn_104 : decode cX1_learn 104 = .ok (.iload 6, 2) := by decide +kernel
theorem dX1_learn_106 : decode cX1_learn 106 = .ok (.ifCond .lt 50, 3) := by decide +kernel
theorem dX1_learn_109 : decode cX1_learn 109 = .ok (.iload 6, 2) := by decide +kernel
theorem dX1_learn_111 : decode cX1_learn 111 = .ok (.aload_n 0, 1) := by decide +kernel
theorem dX1_learn_112 : decode cX1_learn 112 = .ok (.getfield 19, 3) := by decide +kernel
theorem dX1_learn_115 : decode cX1_learn 115 = .ok (.arraylength, 1) := by decide +kernel
theorem dX1_learn_116 : decode cX1_learn 116 = .ok (.if_icmp .ge 40, 3) := by decide +kernel
theorem dX1_learn_119 : decode cX1_learn 119 = .ok (.aload_n 0, 1) := by decide +kernel
theorem dX1_learn_120 : decode cX1_learn 120 = .ok (.getfield 19, 3) := by decide +kernel
theorem dX1_learn_123 : decode cX1_learn 123 = .ok (.iload 6, 2) := by decide +kernel
theorem dX1_learn_125 : decode cX1_learn 125 = .ok (.dup2, 1) := by decide +kernel
theorem dX1_learn_126 : decode cX1_learn 126 = .ok (.iaload, 1) := by decide +kernel
theorem dX1_learn_127 : decode cX1_learn 127 = .ok (.iconst 1, 1) := by decide +kernel
theorem dX1_learn_128 : decode cX1_learn 128 = .ok (.iload 4, 2) := by decide +kernel
theorem dX1_learn_130 : decode cX1_learn 130 = .ok (.ishl, 1) := by decide +kernel
theorem dX1_learn_131 : decode cX1_learn 131 = .ok (.ior, 1) := by decide +kernel
theorem dX1_learn_132 : decode cX1_learn 132 = .ok (.iastore, 1) := by decide +kernel
theorem dX1_learn_133 : decode cX1_learn 133 = .ok (.aload_n 0, 1) := by decide +kernel
theorem dX1_learn_134 : decode cX1_learn 134 = .ok (.getfield 23, 3) := by decide +kernel
theorem dX1_learn_137 : decode cX1_learn 137 = .ok (.iload 6, 2) := by decide +kernel
theorem dX1_learn_139 : decode cX1_learn 139 = .ok (.dup2, 1) := by decide +kernel
theorem dX1_learn_140 : decode cX1_learn 140 = .ok (.iaload, 1) := by decide +kernel
theorem dX1_learn_141 : decode cX1_learn 141 = .ok (.iload 5, 2) := by decide +kernel
theorem dX1_learn_143 : decode cX1_learn 143 = .ok (.ifCond .eq 10, 3) := by decide +kernel
theorem dX1_learn_146 : decode cX1_learn 146 = .ok (.iconst 1, 1) := by decide +kernel
theorem dX1_learn_147 : decode cX1_learn 147 = .ok (.iload 4, 2) := by decide +kernel
theorem dX1_learn_149 : decode cX1_learn 149 = .ok (.ishl, 1) := by decide +kernel
theorem dX1_learn_150 : decode cX1_learn 150 = .ok (.goto 4, 3) := by decide +kernel
theorem dX1_learn_153 : decode cX1_learn 153 = .ok (.iconst 0, 1) := by decide +kernel
theorem dX1_learn_154 : decode cX1_learn 154 = .ok (.ior, 1) := by decide +kernel
theorem dX1_learn_155 : decode cX1_learn 155 = .ok (.iastore, 1) := by decide +kernel
theorem dX1_learn_156 : decode cX1_learn 156 = .ok (.return_, 1) := by decide +kernel
theorem dX2_init_0 : decode cX2_init 0 = .ok (.aload_n 0, 1) := by decide +kernel
theorem dX2_init_1 : decode cX2_init 1 = .ok (.invokespecial 3, 3) := by decide +kernel
theorem dX2_init_4 : decode cX2_init 4 = .ok (.aload_n 0, 1) := by decide +kernel
theorem dX2_init_5 : decode cX2_init 5 = .ok (.bipush 24, 2) := by decide +kernel
theorem dX2_init_7 : decode cX2_init 7 = .ok (.newarray .int, 2) := by decide +kernel
theorem dX2_init_9 : decode cX2_init 9 = .ok (.putfield 9, 3) := by decide +kernel
theorem dX2_init_12 : decode cX2_init 12 = .ok (.aload_n 0, 1) := by decide +kernel
theorem dX2_init_13 : decode cX2_init 13 = .ok (.bipush 24, 2) := by decide +kernel
theorem dX2_init_15 : decode cX2_init 15 = .ok (.newarray .int, 2) := by decide +kernel
theorem dX2_init_17 : decode cX2_init 17 = .ok (.putfield 15, 3) := by decide +kernel
theorem dX2_init_20 : decode cX2_init 20 = .ok (.aload_n 0, 1) := by decide +kernel
theorem dX2_init_21 : decode cX2_init 21 = .ok (.bipush 24, 2) := by decide +kernel
theorem dX2_init_23 : decode cX2_init 23 = .ok (.newarray .int, 2) := by decide +kernel
theorem dX2_init_25 : decode cX2_init 25 = .ok (.putfield 18, 3) := by decide +kernel
theorem dX2_init_28 : decode cX2_init 28 = .ok (.aload_n 0, 1) := by decide +kernel
theorem dX2_init_29 : decode cX2_init 29 = .ok (.bipush 24, 2) := by decide +kernel
theorem dX2_init_31 : decode cX2_init 31 = .ok (.newarray .int, 2) := by decide +kernel
theorem dX2_init_33 : decode cX2_init 33 = .ok (.putfield 21, 3) := by decide +kernel
theorem dX2_init_36 : decode cX2_init 36 = .ok (.aload_n 0, 1) := by decide +kernel
theorem dX2_init_37 : decode cX2_init 37 = .ok (.bipush 24, 2) := by decide +kernel
theorem dX2_init_39 : decode cX2_init 39 = .ok (.newarray .int, 2) := by decide +kernel
theorem dX2_init_41 : decode cX2_init 41 = .ok (.putfield 24, 3) := by decide +kernel
theorem dX2_init_44 : decode cX2_init 44 = .ok (.aload_n 0, 1) := by decide +kernel
theorem dX2_init_45 : decode cX2_init 45 = .ok (.bipush 40, 2) := by decide +kernel
theorem dX2_init_47 : decode cX2_init 47 = .ok (.newarray .int, 2) := by decide +kernel
theorem dX2_init_49 : decode cX2_init 49 = .ok (.putfield 27, 3) := by decide +kernel
theorem dX2_init_52 : decode cX2_init 52 = .ok (.aload_n 0, 1) := by decide +kernel
theorem dX2_init_53 : decode cX2_init 53 = .ok (.bipush 40, 2) := by decide +kernel
theorem dX2_init_55 : decode cX2_init 55 = .ok (.newarray .int, 2) := by decide +kernel
theorem dX2_init_57 : decode cX2_init 57 = .ok (.putfield 30, 3) := by decide +kernel
theorem dX2_init_60 : decode cX2_init 60 = .ok (.aload_n 0, 1) := by decide +kernel
theorem dX2_init_61 : decode cX2_init 61 = .ok (.bipush 40, 2) := by decide +kernel
theorem dX2_init_63 : decode cX2_init 63 = .ok (.newarray .int, 2) := by decide +kernel
theorem dX2_init_65 : decode cX2_init 65 = .ok (.putfield 33, 3) := by decide +kernel
theorem dX2_init_68 : decode cX2_init 68 = .ok (.return_, 1) := by decide +kernel
theorem dX2_begin_0 : decode cX2_begin 0 = .ok (.aload_n 0, 1) := by decide +kernel
theorem dX2_begin_1 : decode cX2_begin 1 = .ok (.getfield 9, 3) := by decide +kernel
theorem dX2_begin_4 : decode cX2_begin 4 = .ok (.iconst 0, 1) := by decide +kernel
theorem dX2_begin_5 : decode cX2_begin 5 = .ok (.aload_n 1, 1) := by decide +kernel
theorem dX2_begin_6 : decode cX2_begin 6 = .ok (.getfield 36, 3) := by decide +kernel
theorem dX2_begin_9 : decode cX2_begin 9 = .ok (.iastore, 1) := by decide +kernel
theorem dX2_begin_10 : decode cX2_begin 10 = .ok (.aload_n 0, 1) := by decide +kernel
theorem dX2_begin_11 : decode cX2_begin 11 = .ok (.getfield 15, 3) := by decide +kernel
theorem dX2_begin_14 : decode cX2_begin 14 = .ok (.iconst 0, 1) := by decide +kernel
theorem dX2_begin_15 : decode cX2_begin 15 = .ok (.iconst (-1), 1) := by decide +kernel
theorem dX2_begin_16 : decode cX2_begin 16 = .ok (.iastore, 1) := by decide +kernel
theorem dX2_begin_17 : decode cX2_begin 17 = .ok (.aload_n 0, 1) := by decide +kernel
theorem dX2_begin_18 : decode cX2_begin 18 = .ok (.getfield 18, 3) := by decide +kernel
theorem dX2_begin_21 : decode cX2_begin 21 = .ok (.iconst 0, 1) := by decide +kernel
theorem dX2_begin_22 : decode cX2_begin 22 = .ok (.iconst (-1), 1) := by decide +kernel
theorem dX2_begin_23 : decode cX2_begin 23 = .ok (.iastore, 1) := by decide +kernel
theorem dX2_begin_24 : decode cX2_begin 24 = .ok (.aload_n 0, 1) := by decide +kernel
theorem dX2_begin_25 : decode cX2_begin 25 = .ok (.getfield 21, 3) := by decide +kernel
theorem dX2_begin_28 : decode cX2_begin 28 = .ok (.iconst 0, 1) := by decide +kernel
theorem dX2_begin_29 : decode cX2_begin 29 = .ok (.iconst 0, 1) := by decide +kernel
theorem dX2_begin_30 : decode cX2_begin 30 = .ok (.iastore, 1) := by decide +kernel
theorem dX2_begin_31 : decode cX2_begin 31 = .ok (.aload_n 0, 1) := by decide +kernel
theorem dX2_begin_32 : decode cX2_begin 32 = .ok (.getfield 24, 3) := by decide +kernel
theorem dX2_begin_35 : decode cX2_begin 35 = .ok (.iconst 0, 1) := by decide +kernel
theorem dX2_begin_36 : decode cX2_begin 36 = .ok (.iconst 0, 1) := by decide +kernel
theorem dX2_begin_37 : decode cX2_begin 37 = .ok (.iastore, 1) := by decide +kernel
theorem dX2_begin_38 : decode cX2_begin 38 = .ok (.aload_n 0, 1) := by decide +kernel
theorem dX2_begin_39 : decode cX2_begin 39 = .ok (.iconst 1, 1) := by decide +kernel
theorem dX2_begin_40 : decode cX2_begin 40 = .ok (.putfield 42, 3) := by decide +kernel
theorem dX2_begin_43 : decode cX2_begin 43 = .ok (.aload_n 0, 1) := by decide +kernel
theorem dX2_begin_44 : decode cX2_begin 44 = .ok (.iconst 0, 1) := by decide +kernel
theorem dX2_begin_45 : decode cX2_begin 45 = .ok (.putfield 45, 3) := by decide +kernel
theorem dX2_begin_48 : decode cX2_begin 48 = .ok (.aload_n 0, 1) := by decide +kernel
theorem dX2_begin_49 : decode cX2_begin 49 = .ok (.aload_n 1, 1) := by decide +kernel
theorem dX2_begin_50 : decode cX2_begin 50 = .ok (.getfield 48, 3) := by decide +kernel
theorem dX2_begin_53 : decode cX2_begin 53 = .ok (.putfield 51, 3) := by decide +kernel
theorem dX2_begin_56 : decode cX2_begin 56 = .ok (.aload_n 0, 1) := by decide +kernel
theorem dX2_begin_57 : decode cX2_begin 57 = .ok (.aload_n 1, 1) := by decide +kernel
theorem dX2_begin_58 : decode cX2_begin 58 = .ok (.getfield 52, 3) := by decide +kernel
theorem dX2_begin_61 : decode cX2_begin 61 = .ok (.putfield 55, 3) := by decide +kernel
theorem dX2_begin_64 : decode cX2_begin 64 = .ok (.aload_n 0, 1) := by decide +kernel
theorem dX2_begin_65 : decode cX2_begin 65 = .ok (.iconst 0, 1) := by decide +kernel
theorem dX2_begin_66 : decode cX2_begin 66 = .ok (.putfield 58, 3) := by decide +kernel
theorem dX2_begin_69 : decode cX2_begin 69 = .ok (.aload_n 0, 1) := by decide +kernel
theorem dX2_begin_70 : decode cX2_begin 70 = .ok (.aload_n 1, 1) := by decide +kernel
theorem dX2_begin_71 : decode cX2_begin 71 = .ok (.getfield 61, 3) := by decide +kernel
theorem dX2_begin_74 : decode cX2_begin 74 = .ok (.putfield 64, 3) := by decide +kernel
theorem dX2_begin_77 : decode cX2_begin 77 = .ok (.return_, 1) := by decide +kernel
theorem dX2_copyFrom_0 : decode cX2_copyFrom 0 = .ok (.aload_n 0, 1) := by decide +kernel
theorem dX2_copyFrom_1 : decode cX2_copyFrom 1 = .ok (.aload_n 1, 1) := by decide +kernel
theorem dX2_copyFrom_2 : decode cX2_copyFrom 2 = .ok (.invokevirtual 67, 3) := by decide +kernel
theorem dX2_copyFrom_5 : decode cX2_copyFrom 5 = .ok (.aload_n 0, 1) := by decide +kernel
theorem dX2_copyFrom_6 : decode cX2_copyFrom 6 = .ok (.aload_n 1, 1) := by decide +kernel
theorem dX2_copyFrom_7 : decode cX2_copyFrom 7 = .ok (.invokevirtual 71, 3) := by decide +kernel
theorem dX2_copyFrom_10 : decode cX2_copyFrom 10 = .ok (.aload_n 0, 1) := by decide +kernel
theorem dX2_copyFrom_11 : decode cX2_copyFrom 11 = .ok (.aload_n 1, 1) := by decide +kernel
theorem dX2_copyFrom_12 : decode cX2_copyFrom 12 = .ok (.getfield 55, 3) := by decide +kernel
theorem dX2_copyFrom_15 : decode cX2_copyFrom 15 = .ok (.putfield 55, 3) := by decide +kernel
theorem dX2_copyFrom_18 : decode cX2_copyFrom 18 = .ok (.aload_n 0, 1) := by decide +kernel
theorem dX2_copyFrom_19 : decode cX2_copyFrom 19 = .ok (.aload_n 1, 1) := by decide +kernel
theorem dX2_copyFrom_20 : decode cX2_copyFrom 20 = .ok (.getfield 58, 3) := by decide +kernel
theorem dX2_copyFrom_23 : decode cX2_copyFrom 23 = .ok (.putfield 58, 3) := by decide +kernel
theorem dX2_copyFrom_26 : decode cX2_copyFrom 26 = .ok (.aload_n 0, 1) := by decide +kernel
theorem dX2_copyFrom_27 : decode cX2_copyFrom 27 = .ok (.aload_n 1, 1) := by decide +kernel
theorem dX2_copyFrom_28 : decode cX2_copyFrom 28 = .ok (.getfield 64, 3) := by decide +kernel
theorem dX2_copyFrom_31 : decode cX2_copyFrom 31 = .ok (.putfield 64, 3) := by decide +kernel
theorem dX2_copyFrom_34 : decode cX2_copyFrom 34 = .ok (.return_, 1) := by decide +kernel
theorem dX2_copySeals_0 : decode cX2_copySeals 0 = .ok (.aload_n 0, 1) := by decide +kernel
theorem dX2_copySeals_1 : decode cX2_copySeals 1 = .ok (.aload_n 1, 1) := by decide +kernel
theorem dX2_copySeals_2 : decode cX2_copySeals 2 = .ok (.getfield 42, 3) := by decide +kernel
theorem dX2_copySeals_5 : decode cX2_copySeals 5 = .ok (.putfield 42, 3) := by decide +kernel
theorem dX2_copySeals_8 : decode cX2_copySeals 8 = .ok (.aload_n 1, 1) := by decide +kernel
theorem dX2_copySeals_9 : decode cX2_copySeals 9 = .ok (.getfield 9, 3) := by decide +kernel
theorem dX2_copySeals_12 : decode cX2_copySeals 12 = .ok (.iconst 0, 1) := by decide +kernel
theorem dX2_copySeals_13 : decode cX2_copySeals 13 = .ok (.aload_n 0, 1) := by decide +kernel
theorem dX2_copySeals_14 : decode cX2_copySeals 14 = .ok (.getfield 9, 3) := by decide +kernel
theorem dX2_copySeals_17 : decode cX2_copySeals 17 = .ok (.iconst 0, 1) := by decide +kernel
theorem dX2_copySeals_18 : decode cX2_copySeals 18 = .ok (.bipush 24, 2) := by decide +kernel
theorem dX2_copySeals_20 : decode cX2_copySeals 20 = .ok (.invokestatic 74, 3) := by decide +kernel
theorem dX2_copySeals_23 : decode cX2_copySeals 23 = .ok (.aload_n 1, 1) := by decide +kernel
theorem dX2_copySeals_24 : decode cX2_copySeals 24 = .ok (.getfield 15, 3) := by decide +kernel
theorem dX2_copySeals_27 : decode cX2_copySeals 27 = .ok (.iconst 0, 1) := by decide +kernel
theorem dX2_copySeals_28 : decode cX2_copySeals 28 = .ok (.aload_n 0, 1) := by decide +kernel
theorem dX2_copySeals_29 : decode cX2_copySeals 29 = .ok (.getfield 15, 3) := by decide +kernel
theorem dX2_copySeals_32 : decode cX2_copySeals 32 = .ok (.iconst 0, 1) := by decide +kernel
theorem dX2_copySeals_33 : decode cX2_copySeals 33 = .ok (.bipush 24, 2) := by decide +kernel
theorem dX2_copySeals_35 : decode cX2_copySeals 35 = .ok (.invokestatic 74, 3) := by decide +kernel
theorem dX2_copySeals_38 : decode cX2_copySeals 38 = .ok (.aload_n 1, 1) := by decide +kernel
theorem dX2_copySeals_39 : decode cX2_copySeals 39 = .ok (.getfield 18, 3) := by decide +kernel
theorem dX2_copySeals_42 : decode cX2_copySeals 42 = .ok (.iconst 0, 1) := by decide +kernel
theorem dX2_copySeals_43 : decode cX2_copySeals 43 = .ok (.aload_n 0, 1) := by decide +kernel
theorem dX2_copySeals_44 : decode cX2_copySeals 44 = .ok (.getfield 18, 3) := by decide +kernel
theorem dX2_copySeals_47 : decode cX2_copySeals 47 = .ok (.iconst 0, 1) := by decide +kernel
theorem dX2_copySeals_48 : decode cX2_copySeals 48 = .ok (.bipush 24, 2) := by decide +kernel
theorem dX2_copySeals_50 : decode cX2_copySeals 50 = .ok (.invokestatic 74, 3) := by decide +kernel
theorem dX2_copySeals_53 : decode cX2_copySeals 53 = .ok (.aload_n 1, 1) := by decide +kernel
theorem dX2_copySeals_54 : decode cX2_copySeals 54 = .ok (.getfield 21, 3) := by decide +kernel
theorem dX2_copySeals_57 : decode cX2_copySeals 57 = .ok (.iconst 0, 1) := by decide +kernel
theorem dX2_copySeals_58 : decode cX2_copySeals 58 = .ok (.aload_n 0, 1) := by decide +kernel
theorem dX2_copySeals_59 : decode cX2_copySeals 59 = .ok (.getfield 21, 3) := by decide +kernel
theorem dX2_copySeals_62 : decode cX2_copySeals 62 = .ok (.iconst 0, 1) := by decide +kernel
theorem dX2_copySeals_63 : decode cX2_copySeals 63 = .ok (.bipush 24, 2) := by decide +kernel
theorem dX2_copySeals_65 : decode cX2_copySeals 65 = .ok (.invokestatic 74, 3) := by decide +kernel
theorem dX2_copySeals_68 : decode cX2_copySeals 68 = .ok (.aload_n 1, 1) := by decide +kernel
theorem dX2_copySeals_69 : decode cX2_copySeals 69 = .ok (.getfield 24, 3) := by decide +kernel
theorem dX2_copySeals_72 : decode cX2_copySeals 72 = .ok (.iconst 0, 1) := by decide +kernel
theorem dX2_copySeals_73 : decode cX2_copySeals 73 = .ok (.aload_n 0, 1) := by decide +kernel
theorem dX2_copySeals_74 : decode cX2_copySeals 74 = .ok (.getfield 24, 3) := by decide +kernel
theorem dX2_copySeals_77 : decode cX2_copySeals 77 = .ok (.iconst 0, 1) := by decide +kernel
theorem dX2_copySeals_78 : decode cX2_copySeals 78 = .ok (.bipush 24, 2) := by decide +kernel
theorem dX2_copySeals_80 : decode cX2_copySeals 80 = .ok (.invokestatic 74, 3) := by decide +kernel
theorem dX2_copySeals_83 : decode cX2_copySeals 83 = .ok (.return_, 1) := by decide +kernel
theorem dX2_copyPrints_0 : decode cX2_copyPrints 0 = .ok (.aload_n 0, 1) := by decide +kernel
theorem dX2_copyPrints_1 : decode cX2_copyPrints 1 = .ok (.aload_n 1, 1) := by decide +kernel
theorem dX2_copyPrints_2 : decode cX2_copyPrints 2 = .ok (.getfield 45, 3) := by decide +kernel
theorem dX2_copyPrints_5 : decode cX2_copyPrints 5 = .ok (.putfield 45, 3) := by decide +kernel
theorem dX2_copyPrints_8 : decode cX2_copyPrints 8 = .ok (.aload_n 1, 1) := by decide +kernel
theorem dX2_copyPrints_9 : decode cX2_copyPrints 9 = .ok (.getfield 27, 3) := by decide +kernel
theorem dX2_copyPrints_12 : decode cX2_copyPrints 12 = .ok (.iconst 0, 1) := by decide +kernel
theorem dX2_copyPrints_13 : decode cX2_copyPrints 13 = .ok (.aload_n 0, 1) := by decide +kernel
theorem dX2_copyPrints_14 : decode cX2_copyPrints 14 = .ok (.getfield 27, 3) := by decide +kernel
theorem dX2_copyPrints_17 : decode cX2_copyPrints 17 = .ok (.iconst 0, 1) := by decide +kernel
theorem dX2_copyPrints_18 : decode cX2_copyPrints 18 = .ok (.bipush 40, 2) := by decide +kernel
theorem dX2_copyPrints_20 : decode cX2_copyPrints 20 = .ok (.invokestatic 74, 3) := by decide +kernel
theorem dX2_copyPrints_23 : decode cX2_copyPrints 23 = .ok (.aload_n 1, 1) := by decide +kernel
theorem dX2_copyPrints_24 : decode cX2_copyPrints 24 = .ok (.getfield 30, 3) := by decide +kernel
theorem dX2_copyPrints_27 : decode cX2_copyPrints 27 = .ok (.iconst 0, 1) := by decide +kernel
theorem dX2_copyPrints_28 : decode cX2_copyPrints 28 = .ok (.aload_n 0, 1) := by decide +kernel
theorem dX2_copyPrints_29 : decode cX2_copyPrints 29 = .ok (.getfield 30, 3) := by decide +kernel
theorem dX2_copyPrints_32 : decode cX2_copyPrints 32 = .ok (.iconst 0, 1) := by decide +kernel
theorem dX2_copyPrints_33 : decode cX2_copyPrints 33 = .ok (.bipush 40, 2) := by decide +kernel
theorem dX2_copyPrints_35 : decode cX2_copyPrints 35 = .ok (.invokestatic 74, 3) := by decide +kernel
theorem dX2_copyPrints_38 : decode cX2_copyPrints 38 = .ok (.aload_n 1, 1) := by decide +kernel
theorem dX2_copyPrints_39 : decode cX2_copyPrints 39 = .ok (.getfield 33, 3) := by decide +kernel
theorem dX2_copyPrints_42 : decode cX2_copyPrints 42 = .ok (.iconst 0, 1) := by decide +kernel
theorem dX2_copyPrints_43 : decode cX2_copyPrints 43 = .ok (.aload_n 0, 1) := by decide +kernel
theorem dX2_copyPrints_44 : decode cX2_copyPrints 44 = .ok (.getfield 33, 3) := by decide +kernel
theorem dX2_copyPrints_47 : decode cX2_copyPrints 47 = .ok (.iconst 0, 1) := by decide +kernel
theorem dX2_copyPrints_48 : decode cX2_copyPrints 48 = .ok (.bipush 40, 2) := by decide +kernel
theorem dX2_copyPrints_50 : decode cX2_copyPrints 50 = .ok (.invokestatic 74, 3) := by decide +kernel
theorem dX2_copyPrints_53 : decode cX2_copyPrints 53 = .ok (.return_, 1) := by decide +kernel
theorem dX2_addSeal_0 : decode cX2_addSeal 0 = .ok (.aload_n 0, 1) := by decide +kernel
theorem dX2_addSeal_1 : decode cX2_addSeal 1 = .ok (.getfield 42, 3) := by decide +kernel
theorem dX2_addSeal_4 : decode cX2_addSeal 4 = .ok (.ifCond .lt 24, 3) := by decide +kernel
theorem dX2_addSeal_7 : decode cX2_addSeal 7 = .ok (.aload_n 0, 1) := by decide +kernel
theorem dX2_addSeal_8 : decode cX2_addSeal 8 = .ok (.getfield 42, 3) := by decide +kernel
theorem dX2_addSeal_11 : decode cX2_addSeal 11 = .ok (.bipush 24, 2) := by decide +kernel
theorem dX2_addSeal_13 : decode cX2_addSeal 13 = .ok (.if_icmp .ge 15, 3) := by decide +kernel
theorem dX2_addSeal_16 : decode cX2_addSeal 16 = .ok (.iload_n 2, 1) := by decide +kernel
theorem dX2_addSeal_17 : decode cX2_addSeal 17 = .ok (.ifCond .lt 11, 3) := by decide +kernel
theorem dX2_addSeal_20 : decode cX2_addSeal 20 = .ok (.iload_n 2, 1) := by decide +kernel
theorem dX2_addSeal_21 : decode cX2_addSeal 21 = .ok (.aload_n 0, 1) := by decide +kernel
theorem dX2_addSeal_22 : decode cX2_addSeal 22 = .ok (.getfield 42, 3) := by decide +kernel
theorem dX2_addSeal_25 : decode cX2_addSeal 25 = .ok (.if_icmp .lt 4, 3) := by decide +kernel
theorem dX2_addSeal_28 : decode cX2_addSeal 28 = .ok (.return_, 1) := by decide +kernel
theorem dX2_addSeal_29 : decode cX2_addSeal 29 = .ok (.aload_n 0, 1) := by decide +kernel
theorem dX2_addSeal_30 : decode cX2_addSeal 30 = .ok (.getfield 9, 3) := by decide +kernel
theorem dX2_addSeal_33 : decode cX2_addSeal 33 = .ok (.aload_n 0, 1) := by decide +kernel
theorem dX2_addSeal_34 : decode cX2_addSeal 34 = .ok (.getfield 42, 3) := by decide +kernel
theorem dX2_addSeal_37 : decode cX2_addSeal 37 = .ok (.iload_n 1, 1) := by decide +kernel
theorem dX2_addSeal_38 : decode cX2_addSeal 38 = .ok (.iastore, 1) := by decide +kernel
theorem dX2_addSeal_39 : decode cX2_addSeal 39 = .ok (.aload_n 0, 1) := by decide +kernel
theorem dX2_addSeal_40 : decode cX2_addSeal 40 = .ok (.getfield 15, 3) := by decide +kernel
theorem dX2_addSeal_43 : decode cX2_addSeal 43 = .ok (.aload_n 0, 1) := by decide +kernel
theorem dX2_addSeal_44 : decode cX2_addSeal 44 = .ok (.getfield 42, 3) := by decide +kernel
theorem dX2_addSeal_47 : decode cX2_addSeal 47 = .ok (.iload_n 2, 1) := by decide +kernel
theorem dX2_addSeal_48 : decode cX2_addSeal 48 = .ok (.iastore, 1) := by decide +kernel
theorem dX2_addSeal_49 : decode cX2_addSeal 49 = .ok (.aload_n 0, 1) := by decide +kernel
theorem dX2_addSeal_50 : decode cX2_addSeal 50 = .ok (.getfield 18, 3) := by decide +kernel
theorem dX2_addSeal_53 : decode cX2_addSeal 53 = .ok (.aload_n 0, 1) := by decide +kernel
theorem dX2_addSeal_54 : decode cX2_addSeal 54 = .ok (.getfield 42, 3) := by decide +kernel
theorem dX2_addSeal_57 : decode cX2_addSeal 57 = .ok (.iload_n 3, 1) := by decide +kernel
theorem dX2_addSeal_58 : decode cX2_addSeal 58 = .ok (.iastore, 1) := by decide +kernel
theorem dX2_addSeal_59 : decode cX2_addSeal 59 = .ok (.aload_n 0, 1) := by decide +kernel
theorem dX2_addSeal_60 : decode cX2_addSeal 60 = .ok (.getfield 21, 3) := by decide +kernel
theorem dX2_addSeal_63 : decode cX2_addSeal 63 = .ok (.aload_n 0, 1) := by decide +kernel
theorem dX2_addSeal_64 : decode cX2_addSeal 64 = .ok (.getfield 42, 3) := by decide +kernel
theorem dX2_addSeal_67 : decode cX2_addSeal 67 = .ok (.aload_n 0, 1) := by decide +kernel
theorem dX2_addSeal_68 : decode cX2_addSeal 68 = .ok (.getfield 58, 3) := by decide +kernel
theorem dX2_addSeal_71 : decode cX2_addSeal 71 = .ok (.iastore, 1) := by decide +kernel
theorem dX2_addSeal_72 : decode cX2_addSeal 72 = .ok (.aload_n 0, 1) := by decide +kernel
theorem dX2_addSeal_73 : decode cX2_addSeal 73 = .ok (.getfield 24, 3) := by decide +kernel
theorem dX2_addSeal_76 : decode cX2_addSeal 76 = .ok (.aload_n 0, 1) := by decide +kernel
theorem dX2_addSeal_77 : decode cX2_addSeal 77 = .ok (.getfield 42, 3) := by decide +kernel
theorem dX2_addSeal_80 : decode cX2_addSeal 80 = .ok (.aload_n 0, 1) := by decide +kernel
theorem dX2_addSeal_81 : decode cX2_addSeal 81 = .ok (.getfield 24, 3) := by decide +kernel
theorem dX2_addSeal_84 : decode cX2_addSeal 84 = .ok (.iload_n 2, 1) := by decide +kernel
theorem dX2_addSeal_85 : decode cX2_addSeal 85 = .ok (.iaload, 1) := by decide +kernel
theorem dX2_addSeal_86 : decode cX2_addSeal 86 = .ok (.iconst 1, 1) := by decide +kernel
theorem dX2_addSeal_87 : decode cX2_addSeal 87 = .ok (.iadd, 1) := by decide +kernel
theorem dX2_addSeal_88 : decode cX2_addSeal 88 = .ok (.iastore, 1) := by decide +kernel
theorem dX2_addSeal_89 : decode cX2_addSeal 89 = .ok (.aload_n 0, 1) := by decide +kernel
theorem dX2_addSeal_90 : decode cX2_addSeal 90 = .ok (.dup, 1) := by decide +kernel
theorem dX2_addSeal_91 : decode cX2_addSeal 91 = .ok (.getfield 42, 3) := by decide +kernel
theorem dX2_addSeal_94 : decode cX2_addSeal 94 = .ok (.iconst 1, 1) := by decide +kernel
theorem dX2_addSeal_95 : decode cX2_addSeal 95 = .ok (.iadd, 1) := by decide +kernel
theorem dX2_addSeal_96 : decode cX2_addSeal 96 = .ok (.putfield 42, 3) := by decide +kernel
theorem dX2_addSeal_99 : decode cX2_addSeal 99 = .ok (.return_, 1) := by decide +kernel
theorem dX2_addPrint_0 : decode cX2_addPrint 0 = .ok (.aload_n 0, 1) := by decide +kernel
theorem dX2_addPrint_1 : decode cX2_addPrint 1 = .ok (.getfield 45, 3) := by decide +kernel
theorem dX2_addPrint_4 : decode cX2_addPrint 4 = .ok (.ifCond .lt 24, 3) := by decide +kernel
theorem dX2_addPrint_7 : decode cX2_addPrint 7 = .ok (.aload_n 0, 1) := by decide +kernel
theorem dX2_addPrint_8 : decode cX2_addPrint 8 = .ok (.getfield 45, 3) := by decide +kernel
theorem dX2_addPrint_11 : decode cX2_addPrint 11 = .ok (.bipush 40, 2) := by decide +kernel
theorem dX2_addPrint_13 : decode cX2_addPrint 13 = .ok (.if_icmp .ge 15, 3) := by decide +kernel
theorem dX2_addPrint_16 : decode cX2_addPrint 16 = .ok (.iload_n 1, 1) := by decide +kernel
theorem dX2_addPrint_17 : decode cX2_addPrint 17 = .ok (.ifCond .lt 11, 3) := by decide +kernel
theorem dX2_addPrint_20 : decode cX2_addPrint 20 = .ok (.iload_n 1, 1) := by decide +kernel
theorem dX2_addPrint_21 : decode cX2_addPrint 21 = .ok (.aload_n 0, 1) := by decide +kernel
theorem dX2_addPrint_22 : decode cX2_addPrint 22 = .ok (.getfield 42, 3) := by decide +kernel
theorem dX2_addPrint_25 : decode cX2_addPrint 25 = .ok (.if_icmp .lt 4, 3) := by decide +kernel
theorem dX2_addPrint_28 : decode cX2_addPrint 28 = .ok (.return_, 1) := by decide +kernel
theorem dX2_addPrint_29 : decode cX2_addPrint 29 = .ok (.aload_n 0, 1) := by decide +kernel
theorem dX2_addPrint_30 : decode cX2_addPrint 30 = .ok (.getfield 27, 3) := by decide +kernel
theorem dX2_addPrint_33 : decode cX2_addPrint 33 = .ok (.aload_n 0, 1) := by decide +kernel
theorem dX2_addPrint_34 : decode cX2_addPrint 34 = .ok (.getfield 45, 3) := by decide +kernel
theorem dX2_addPrint_37 : decode cX2_addPrint 37 = .ok (.aload_n 0, 1) := by decide +kernel
theorem dX2_addPrint_38 : decode cX2_addPrint 38 = .ok (.getfield 9, 3) := by decide +kernel
theorem dX2_addPrint_41 : decode cX2_addPrint 41 = .ok (.iload_n 1, 1) := by decide +kernel
theorem dX2_addPrint_42 : decode cX2_addPrint 42 = .ok (.iaload, 1) := by decide +kernel
theorem dX2_addPrint_43 : decode cX2_addPrint 43 = .ok (.aload_n 0, 1) := by decide +kernel
theorem dX2_addPrint_44 : decode cX2_addPrint 44 = .ok (.getfield 51, 3) := by decide +kernel
theorem dX2_addPrint_47 : decode cX2_addPrint 47 = .ok (.invokestatic 80, 3) := by decide +kernel
theorem dX2_addPrint_50 : decode cX2_addPrint 50 = .ok (.iastore, 1) := by decide +kernel
theorem dX2_addPrint_51 : decode cX2_addPrint 51 = .ok (.aload_n 0, 1) := by decide +kernel
theorem dX2_addPrint_52 : decode cX2_addPrint 52 = .ok (.getfield 30, 3) := by decide +kernel
theorem dX2_addPrint_55 : decode cX2_addPrint 55 = .ok (.aload_n 0, 1) := by decide +kernel
theorem dX2_addPrint_56 : decode cX2_addPrint 56 = .ok (.getfield 45, 3) := by decide +kernel
theorem dX2_addPrint_59 : decode cX2_addPrint 59 = .ok (.iload_n 1, 1) := by decide +kernel
theorem dX2_addPrint_60 : decode cX2_addPrint 60 = .ok (.iastore, 1) := by decide +kernel
theorem dX2_addPrint_61 : decode cX2_addPrint 61 = .ok (.aload_n 0, 1) := by decide +kernel
theorem dX2_addPrint_62 : decode cX2_addPrint 62 = .ok (.getfield 33, 3) := by decide +kernel
theorem dX2_addPrint_65 : decode cX2_addPrint 65 = .ok (.aload_n 0, 1) := by decide +kernel
theorem dX2_addPrint_66 : decode cX2_addPrint 66 = .ok (.getfield 45, 3) := by decide +kernel
theorem dX2_addPrint_69 : decode cX2_addPrint 69 = .ok (.aload_n 0, 1) := by decide +kernel
theorem dX2_addPrint_70 : decode cX2_addPrint 70 = .ok (.getfield 58, 3) := by decide +kernel
theorem dX2_addPrint_73 : decode cX2_addPrint 73 = .ok (.iastore, 1) := by decide +kernel
theorem dX2_addPrint_74 : decode cX2_addPrint 74 = .ok (.aload_n 0, 1) := by decide +kernel
theorem dX2_addPrint_75 : decode cX2_addPrint 75 = .ok (.dup, 1) := by decide +kernel
theorem dX2_addPrint_76 : decode cX2_addPrint 76 = .ok (.getfield 45, 3) := by decide +kernel
theorem dX2_addPrint_79 : decode cX2_addPrint 79 = .ok (.iconst 1, 1) := by decide +kernel
theorem dX2_addPrint_80 : decode cX2_addPrint 80 = .ok (.iadd, 1) := by decide +kernel
theorem dX2_addPrint_81 : decode cX2_addPrint 81 = .ok (.putfield 45, 3) := by decide +kernel
theorem dX2_addPrint_84 : decode cX2_addPrint 84 = .ok (.return_, 1) := by decide +kernel
theorem dX2_flip_0 : decode cX2_flip 0 = .ok (.iload_n 1, 1) := by decide +kernel
theorem dX2_flip_1 : decode cX2_flip 1 = .ok (.ifCond .lt 23, 3) := by decide +kernel
theorem dX2_flip_4 : decode cX2_flip 4 = .ok (.iload_n 1, 1) := by decide +kernel
theorem dX2_flip_5 : decode cX2_flip 5 = .ok (.aload_n 0, 1) := by decide +kernel
theorem dX2_flip_6 : decode cX2_flip 6 = .ok (.getfield 42, 3) := by decide +kernel
theorem dX2_flip_9 : decode cX2_flip 9 = .ok (.if_icmp .ge 15, 3) := by decide +kernel
theorem dX2_flip_12 : decode cX2_flip 12 = .ok (.aload_n 0, 1) := by decide +kernel
theorem dX2_flip_13 : decode cX2_flip 13 = .ok (.getfield 9, 3) := by decide +kernel
theorem dX2_flip_16 : decode cX2_flip 16 = .ok (.iload_n 1, 1) := by decide +kernel
theorem dX2_flip_17 : decode cX2_flip 17 = .ok (.dup2, 1) := by decide +kernel
theorem dX2_flip_18 : decode cX2_flip 18 = .ok (.iaload, 1) := by decide +kernel
theorem dX2_flip_19 : decode cX2_flip 19 = .ok (.iconst 1, 1) := by decide +kernel
theorem dX2_flip_20 : decode cX2_flip 20 = .ok (.iload_n 2, 1) := by decide +kernel
theorem dX2_flip_21 : decode cX2_flip 21 = .ok (.ishl, 1) := by decide +kernel
theorem dX2_flip_22 : decode cX2_flip 22 = .ok (.ixor, 1) := by decide +kernel
theorem dX2_flip_23 : decode cX2_flip 23 = .ok (.iastore, 1) := by decide +kernel
theorem dX2_flip_24 : decode cX2_flip 24 = .ok (.return_, 1) := by decide +kernel
theorem dX3_init_0 : decode cX3_init 0 = .ok (.aload_n 0, 1) := by decide +kernel
theorem dX3_init_1 : decode cX3_init 1 = .ok (.invokespecial 3, 3) := by decide +kernel
theorem dX3_init_4 : decode cX3_init 4 = .ok (.aload_n 0, 1) := by decide +kernel
theorem dX3_init_5 : decode cX3_init 5 = .ok (.bipush 40, 2) := by decide +kernel
theorem dX3_init_7 : decode cX3_init 7 = .ok (.newarray .int, 2) := by decide +kernel
theorem dX3_init_9 : decode cX3_init 9 = .ok (.putfield 9, 3) := by decide +kernel
theorem dX3_init_12 : decode cX3_init 12 = .ok (.aload_n 0, 1) := by decide +kernel
theorem dX3_init_13 : decode cX3_init 13 = .ok (.bipush 40, 2) := by decide +kernel
theorem dX3_init_15 : decode cX3_init 15 = .ok (.newarray .int, 2) := by decide +kernel
theorem dX3_init_17 : decode cX3_init 17 = .ok (.putfield 15, 3) := by decide +kernel
theorem dX3_init_20 : decode cX3_init 20 = .ok (.aload_n 0, 1) := by decide +kernel
theorem dX3_init_21 : decode cX3_init 21 = .ok (.bipush 40, 2) := by decide +kernel
theorem dX3_init_23 : decode cX3_init 23 = .ok (.newarray .int, 2) := by decide +kernel
theorem dX3_init_25 : decode cX3_init 25 = .ok (.putfield 18, 3) := by decide +kernel
theorem dX3_init_28 : decode cX3_init 28 = .ok (.aload_n 0, 1) := by decide +kernel
theorem dX3_init_29 : decode cX3_init 29 = .ok (.bipush 40, 2) := by decide +kernel
theorem dX3_init_31 : decode cX3_init 31 = .ok (.newarray .int, 2) := by decide +kernel
theorem dX3_init_33 : decode cX3_init 33 = .ok (.putfield 21, 3) := by decide +kernel
theorem dX3_init_36 : decode cX3_init 36 = .ok (.aload_n 0, 1) := by decide +kernel
theorem dX3_init_37 : decode cX3_init 37 = .ok (.bipush 40, 2) := by decide +kernel
theorem dX3_init_39 : decode cX3_init 39 = .ok (.newarray .int, 2) := by decide +kernel
theorem dX3_init_41 : decode cX3_init 41 = .ok (.putfield 24, 3) := by decide +kernel
theorem dX3_init_44 : decode cX3_init 44 = .ok (.aload_n 0, 1) := by decide +kernel
theorem dX3_init_45 : decode cX3_init 45 = .ok (.bipush 40, 2) := by decide +kernel
theorem dX3_init_47 : decode cX3_init 47 = .ok (.newarray .int, 2) := by decide +kernel
theorem dX3_init_49 : decode cX3_init 49 = .ok (.putfield 27, 3) := by decide +kernel
theorem dX3_init_52 : decode cX3_init 52 = .ok (.aload_n 0, 1) := by decide +kernel
theorem dX3_init_53 : decode cX3_init 53 = .ok (.bipush 8, 2) := by decide +kernel
theorem dX3_init_55 : decode cX3_init 55 = .ok (.newarray .int, 2) := by decide +kernel
theorem dX3_init_57 : decode cX3_init 57 = .ok (.putfield 30, 3) := by decide +kernel
theorem dX3_init_60 : decode cX3_init 60 = .ok (.aload_n 0, 1) := by decide +kernel
theorem dX3_init_61 : decode cX3_init 61 = .ok (.bipush 8, 2) := by decide +kernel
theorem dX3_init_63 : decode cX3_init 63 = .ok (.newarray .int, 2) := by decide +kernel
theorem dX3_init_65 : decode cX3_init 65 = .ok (.putfield 33, 3) := by decide +kernel
theorem dX3_init_68 : decode cX3_init 68 = .ok (.return_, 1) := by decide +kernel
theorem dX3_add_0 : decode cX3_add 0 = .ok (.aload_n 0, 1) := by decide +kernel
theorem dX3_add_1 : decode cX3_add 1 = .ok (.getfield 36, 3) := by decide +kernel
theorem dX3_add_4 : decode cX3_add 4 = .ok (.ifCond .lt 12, 3) := by decide +kernel
theorem dX3_add_7 : decode cX3_add 7 = .ok (.aload_n 0, 1) := by decide +kernel
theorem dX3_add_8 : decode cX3_add 8 = .ok (.getfield 36, 3) := by decide +kernel
theorem dX3_add_11 : decode cX3_add 11 = .ok (.bipush 40, 2) := by decide +kernel
theorem dX3_add_13 : decode cX3_add 13 = .ok (.if_icmp .lt 5, 3) := by decide +kernel
theorem dX3_add_16 : decode cX3_add 16 = .ok (.iconst (-1), 1) := by decide +kernel
theorem dX3_add_17 : decode cX3_add 17 = .ok (.ireturn, 1) := by decide +kernel
theorem dX3_add_18 : decode cX3_add 18 = .ok (.aload_n 0, 1) := by decide +kernel
theorem dX3_add_19 : decode cX3_add 19 = .ok (.getfield 9, 3) := by decide +kernel
theorem dX3_add_22 : decode cX3_add 22 = .ok (.aload_n 0, 1) := by decide +kernel
theorem dX3_add_23 : decode cX3_add 23 = .ok (.getfield 36, 3) := by decide +kernel
theorem dX3_add_26 : decode cX3_add 26 = .ok (.iload_n 1, 1) := by decide +kernel
theorem dX3_add_27 : decode cX3_add 27 = .ok (.iastore, 1) := by decide +kernel
theorem dX3_add_28 : decode cX3_add 28 = .ok (.aload_n 0, 1) := by decide +kernel
theorem dX3_add_29 : decode cX3_add 29 = .ok (.getfield 15, 3) := by decide +kernel
theorem dX3_add_32 : decode cX3_add 32 = .ok (.aload_n 0, 1) := by decide +kernel
theorem dX3_add_33 : decode cX3_add 33 = .ok (.getfield 36, 3) := by decide +kernel
theorem dX3_add_36 : decode cX3_add 36 = .ok (.iload_n 2, 1) := by decide +kernel
theorem dX3_add_37 : decode cX3_add 37 = .ok (.iastore, 1) := by decide +kernel
theorem dX3_add_38 : decode cX3_add 38 = .ok (.aload_n 0, 1) := by decide +kernel
theorem dX3_add_39 : decode cX3_add 39 = .ok (.getfield 18, 3) := by decide +kernel
theorem dX3_add_42 : decode cX3_add 42 = .ok (.aload_n 0, 1) := by decide +kernel
theorem dX3_add_43 : decode cX3_add 43 = .ok (.getfield 36, 3) := by decide +kernel
theorem dX3_add_46 : decode cX3_add 46 = .ok (.iload_n 3, 1) := by decide +kernel
theorem dX3_add_47 : decode cX3_add 47 = .ok (.iastore, 1) := by decide +kernel
theorem dX3_add_48 : decode cX3_add 48 = .ok (.aload_n 0, 1) := by decide +kernel
theorem dX3_add_49 : decode cX3_add 49 = .ok (.getfield 21, 3) := by decide +kernel
theorem dX3_add_52 : decode cX3_add 52 = .ok (.aload_n 0, 1) := by decide +kernel
theorem dX3_add_53 : decode cX3_add 53 = .ok (.getfield 36, 3) := by decide +kernel
theorem dX3_add_56 : decode cX3_add 56 = .ok (.iload 4, 2) := by decide +kernel
theorem dX3_add_58 : decode cX3_add 58 = .ok (.iastore, 1) := by decide +kernel
theorem dX3_add_59 : decode cX3_add 59 = .ok (.aload_n 0, 1) := by decide +kernel
theorem dX3_add_60 : decode cX3_add 60 = .ok (.getfield 24, 3) := by decide +kernel
theorem dX3_add_63 : decode cX3_add 63 = .ok (.aload_n 0, 1) := by decide +kernel
theorem dX3_add_64 : decode cX3_add 64 = .ok (.getfield 36, 3) := by decide +kernel
theorem dX3_add_67 : decode cX3_add 67 = .ok (.aload_n 0, 1) := by decide +kernel
theorem dX3_add_68 : decode cX3_add 68 = .ok (.getfield 40, 3) := by decide +kernel
theorem dX3_add_71 : decode cX3_add 71 = .ok (.iastore, 1) := by decide +kernel
theorem dX3_add_72 : decode cX3_add 72 = .ok (.aload_n 0, 1) := by decide +kernel
theorem dX3_add_73 : decode cX3_add 73 = .ok (.getfield 27, 3) := by decide +kernel
theorem dX3_add_76 : decode cX3_add 76 = .ok (.aload_n 0, 1) := by decide +kernel
theorem dX3_add_77 : decode cX3_add 77 = .ok (.getfield 36, 3) := by decide +kernel
theorem dX3_add_80 : decode cX3_add 80 = .ok (.iconst (-1), 1) := by decide +kernel
theorem dX3_add_81 : decode cX3_add 81 = .ok (.iastore, 1) := by decide +kernel
theorem dX3_add_82 : decode cX3_add 82 = .ok (.aload_n 0, 1) := by decide +kernel
theorem dX3_add_83 : decode cX3_add 83 = .ok (.dup, 1) := by decide +kernel
theorem dX3_add_84 : decode cX3_add 84 = .ok (.getfield 36, 3) := by decide +kernel
theorem dX3_add_87 : decode cX3_add 87 = .ok (.iconst 1, 1) := by decide +kernel
theorem dX3_add_88 : decode cX3_add 88 = .ok (.iadd, 1) := by decide +kernel
theorem dX3_add_89 : decode cX3_add 89 = .ok (.putfield 36, 3) := by decide +kernel
theorem dX3_add_92 : decode cX3_add 92 = .ok (.aload_n 0, 1) := by decide +kernel
theorem dX3_add_93 : decode cX3_add 93 = .ok (.getfield 36, 3) := by decide +kernel
theorem dX3_add_96 : decode cX3_add 96 = .ok (.iconst 1, 1) := by decide +kernel
theorem dX3_add_97 : decode cX3_add 97 = .ok (.isub, 1) := by decide +kernel
theorem dX3_add_98 : decode cX3_add 98 = .ok (.ireturn, 1) := by decide +kernel
theorem dX3_counts_0 : decode cX3_counts 0 = .ok (.iload_n 1, 1) := by decide +kernel
theorem dX3_counts_1 : decode cX3_counts 1 = .ok (.ifCond .lt 55, 3) := by decide +kernel
theorem dX3_counts_4 : decode cX3_counts 4 = .ok (.iload_n 1, 1) := by decide +kernel
theorem dX3_counts_5 : decode cX3_counts 5 = .ok (.aload_n 0, 1) := by decide +kernel
theorem dX3_counts_6 : decode cX3_counts 6 = .ok (.getfield 36, 3) := by decide +kernel
theorem dX3_counts_9 : decode cX3_counts 9 = .ok (.if_icmp .ge 47, 3) := by decide +kernel
theorem dX3_counts_12 : decode cX3_counts 12 = .ok (.aload_n 0, 1) := by decide +kernel
theorem dX3_counts_13 : decode cX3_counts 13 = .ok (.getfield 9, 3) := by decide +kernel
theorem dX3_counts_16 : decode cX3_counts 16 = .ok (.iload_n 1, 1) := by decide +kernel
theorem dX3_counts_17 : decode cX3_counts 17 = .ok (.iaload, 1) := by decide +kernel
theorem dX3_counts_18 : decode cX3_counts 18 = .ok (.iload_n 2, 1) := by decide +kernel
theorem dX3_counts_19 : decode cX3_counts 19 = .ok (.if_icmp .ne 37, 3) := by decide +kernel
theorem dX3_counts_22 : decode cX3_counts 22 = .ok (.aload_n 0, 1) := by decide +kernel
theorem dX3_counts_23 : decode cX3_counts 23 = .ok (.getfield 24, 3) := by decide +kernel
theorem dX3_counts_26 : decode cX3_counts 26 = .ok (.iload_n 1, 1) := by decide +kernel
theorem dX3_counts_27 : decode cX3_counts 27 = .ok (.iaload, 1) := by decide +kernel
theorem dX3_counts_28 : decode cX3_counts 28 = .ok (.iload_n 3, 1) := by decide +kernel
theorem dX3_counts_29 : decode cX3_counts 29 = .ok (.if_icmp .gt 27, 3) := by decide +kernel
theorem dX3_counts_32 : decode cX3_counts 32 = .ok (.aload_n 0, 1) := by decide +kernel
theorem dX3_counts_33 : decode cX3_counts 33 = .ok (.getfield 27, 3) := by decide +kernel
theorem dX3_counts_36 : decode cX3_counts 36 = .ok (.iload_n 1, 1) := by decide +kernel
theorem dX3_counts_37 : decode cX3_counts 37 = .ok (.iaload, 1) := by decide +kernel
theorem dX3_counts_38 : decode cX3_counts 38 = .ok (.iconst (-1), 1) := by decide +kernel
theorem dX3_counts_39 : decode cX3_counts 39 = .ok (.if_icmp .eq 13, 3) := by decide +kernel
theorem dX3_counts_42 : decode cX3_counts 42 = .ok (.aload_n 0, 1) := by decide +kernel
theorem dX3_counts_43 : decode cX3_counts 43 = .ok (.getfield 27, 3) := by decide +kernel
theorem dX3_counts_46 : decode cX3_counts 46 = .ok (.iload_n 1, 1) := by decide +kernel
theorem dX3_counts_47 : decode cX3_counts 47 = .ok (.iaload, 1) := by decide +kernel
theorem dX3_counts_48 : decode cX3_counts 48 = .ok (.iload_n 3, 1) := by decide +kernel
theorem dX3_counts_49 : decode cX3_counts 49 = .ok (.if_icmp .le 7, 3) := by decide +kernel
theorem dX3_counts_52 : decode cX3_counts 52 = .ok (.iconst 1, 1) := by decide +kernel
theorem dX3_counts_53 : decode cX3_counts 53 = .ok (.goto 4, 3) := by decide +kernel
theorem dX3_counts_56 : decode cX3_counts 56 = .ok (.iconst 0, 1) := by decide +kernel
theorem dX3_counts_57 : decode cX3_counts 57 = .ok (.ireturn, 1) := by decide +kernel
theorem dX3_sideOf_0 : decode cX3_sideOf 0 = .ok (.iload_n 1, 1) := by decide +kernel
theorem dX3_sideOf_1 : decode cX3_sideOf 1 = .ok (.ifCond .lt 9, 3) := by decide +kernel
theorem dX3_sideOf_4 : decode cX3_sideOf 4 = .ok (.iload_n 1, 1) := by decide +kernel
theorem dX3_sideOf_5 : decode cX3_sideOf 5 = .ok (.bipush 8, 2) := by decide +kernel
theorem dX3_sideOf_7 : decode cX3_sideOf 7 = .ok (.if_icmp .lt 5, 3) := by decide +kernel
theorem dX3_sideOf_10 : decode cX3_sideOf 10 = .ok (.iconst (-1), 1) := by decide +kernel
theorem dX3_sideOf_11 : decode cX3_sideOf 11 = .ok (.ireturn, 1) := by decide +kernel
theorem dX3_sideOf_12 : decode cX3_sideOf 12 = .ok (.iconst 0, 1) := by decide +kernel
theorem dX3_sideOf_13 : decode cX3_sideOf 13 = .ok (.istore_n 3, 1) := by decide +kernel
theorem dX3_sideOf_14 : decode cX3_sideOf 14 = .ok (.iload_n 3, 1) := by decide +kernel
theorem dX3_sideOf_15 : decode cX3_sideOf 15 = .ok (.bipush 8, 2) := by decide +kernel
theorem dX3_sideOf_17 : decode cX3_sideOf 17 = .ok (.if_icmp .ge 23, 3) := by decide +kernel
theorem dX3_sideOf_20 : decode cX3_sideOf 20 = .ok (.aload_n 0, 1) := by decide +kernel
theorem dX3_sideOf_21 : decode cX3_sideOf 21 = .ok (.getfield 30, 3) := by decide +kernel
theorem dX3_sideOf_24 : decode cX3_sideOf 24 = .ok (.iload_n 3, 1) := by decide +kernel
theorem dX3_sideOf_25 : decode cX3_sideOf 25 = .ok (.iload_n 3, 1) := by decide +kernel
theorem dX3_sideOf_26 : decode cX3_sideOf 26 = .ok (.iastore, 1) := by decide +kernel
theorem dX3_sideOf_27 : decode cX3_sideOf 27 = .ok (.aload_n 0, 1) := by decide +kernel
theorem dX3_sideOf_28 : decode cX3_sideOf 28 = .ok (.getfield 33, 3) := by decide +kernel
theorem dX3_sideOf_31 : decode cX3_sideOf 31 = .ok (.iload_n 3, 1) := by decide +kernel
theorem dX3_sideOf_32 : decode cX3_sideOf 32 = .ok (.iconst 0, 1) := by decide +kernel
theorem dX3_sideOf_33 : decode cX3_sideOf 33 = .ok (.iastore, 1) := by decide +kernel
theorem dX3_sideOf_34 : decode cX3_sideOf 34 = .ok (.iinc 3 1, 3) := by decide +kernel
theorem dX3_sideOf_37 : decode cX3_sideOf 37 = .ok (.goto (-23), 3) := by decide +kernel
theorem dX3_sideOf_40 : decode cX3_sideOf 40 = .ok (.iconst 0, 1) := by decide +kernel
theorem dX3_sideOf_41 : decode cX3_sideOf 41 = .ok (.istore_n 3, 1) := by decide +kernel
theorem dX3_sideOf_42 : decode cX3_sideOf 42 = .ok (.iload_n 3, 1) := by decide +kernel
theorem dX3_sideOf_43 : decode cX3_sideOf 43 = .ok (.aload_n 0, 1) := by decide +kernel
theorem dX3_sideOf_44 : decode cX3_sideOf 44 = .ok (.getfield 36, 3) := by decide +kernel
theorem dX3_sideOf_47 : decode cX3_sideOf 47 = .ok (.if_icmp .ge 47, 3) := by decide +kernel
theorem dX3_sideOf_50 : decode cX3_sideOf 50 = .ok (.aload_n 0, 1) := by decide +kernel
theorem dX3_sideOf_51 : decode cX3_sideOf 51 = .ok (.iload_n 3, 1) := by decide +kernel
theorem dX3_sideOf_52 : decode cX3_sideOf 52 = .ok (.iconst 3, 1) := by decide +kernel
theorem dX3_sideOf_53 : decode cX3_sideOf 53 = .ok (.iload_n 2, 1) := by decide +kernel
theorem dX3_sideOf_54 : decode cX3_sideOf 54 = .ok (.invokevirtual 43, 3) := by decide +kernel
theorem dX3_sideOf_57 : decode cX3_sideOf 57 = .ok (.ifCond .eq 31, 3) := by decide +kernel
theorem dX3_sideOf_60 : decode cX3_sideOf 60 = .ok (.aload_n 0, 1) := by decide +kernel
theorem dX3_sideOf_61 : decode cX3_sideOf 61 = .ok (.aload_n 0, 1) := by decide +kernel
theorem dX3_sideOf_62 : decode cX3_sideOf 62 = .ok (.getfield 15, 3) := by decide +kernel
theorem dX3_sideOf_65 : decode cX3_sideOf 65 = .ok (.iload_n 3, 1) := by decide +kernel
theorem dX3_sideOf_66 : decode cX3_sideOf 66 = .ok (.iaload, 1) := by decide +kernel
theorem dX3_sideOf_67 : decode cX3_sideOf 67 = .ok (.aload_n 0, 1) := by decide +kernel
theorem dX3_sideOf_68 : decode cX3_sideOf 68 = .ok (.getfield 18, 3) := by decide +kernel
theorem dX3_sideOf_71 : decode cX3_sideOf 71 = .ok (.iload_n 3, 1) := by decide +kernel
theorem dX3_sideOf_72 : decode cX3_sideOf 72 = .ok (.iaload, 1) := by decide +kernel
theorem dX3_sideOf_73 : decode cX3_sideOf 73 = .ok (.aload_n 0, 1) := by decide +kernel
theorem dX3_sideOf_74 : decode cX3_sideOf 74 = .ok (.getfield 21, 3) := by decide +kernel
theorem dX3_sideOf_77 : decode cX3_sideOf 77 = .ok (.iload_n 3, 1) := by decide +kernel
theorem dX3_sideOf_78 : decode cX3_sideOf 78 = .ok (.iaload, 1) := by decide +kernel
theorem dX3_sideOf_79 : decode cX3_sideOf 79 = .ok (.invokevirtual 47, 3) := by decide +kernel
theorem dX3_sideOf_82 : decode cX3_sideOf 82 = .ok (.ifCond .ne 6, 3) := by decide +kernel
theorem dX3_sideOf_85 : decode cX3_sideOf 85 = .ok (.bipush (-2), 2) := by decide +kernel
theorem dX3_sideOf_87 : decode cX3_sideOf 87 = .ok (.ireturn, 1) := by decide +kernel
theorem dX3_sideOf_88 : decode cX3_sideOf 88 = .ok (.iinc 3 1, 3) := by decide +kernel
theorem dX3_sideOf_91 : decode cX3_sideOf 91 = .ok (.goto (-49), 3) := by decide +kernel
theorem dX3_sideOf_94 : decode cX3_sideOf 94 = .ok (.aload_n 0, 1) := by decide +kernel
theorem dX3_sideOf_95 : decode cX3_sideOf 95 = .ok (.getfield 30, 3) := by decide +kernel
theorem dX3_sideOf_98 : decode cX3_sideOf 98 = .ok (.iload_n 1, 1) := by decide +kernel
theorem dX3_sideOf_99 : decode cX3_sideOf 99 = .ok (.iaload, 1) := by decide +kernel
theorem dX3_sideOf_100 : decode cX3_sideOf 100 = .ok (.aload_n 0, 1) := by decide +kernel
theorem dX3_sideOf_101 : decode cX3_sideOf 101 = .ok (.getfield 30, 3) := by decide +kernel
theorem dX3_sideOf_104 : decode cX3_sideOf 104 = .ok (.iconst 0, 1) := by decide +kernel
theorem dX3_sideOf_105 : decode cX3_sideOf 105 = .ok (.iaload, 1) := by decide +kernel
theorem dX3_sideOf_106 : decode cX3_sideOf 106 = .ok (.if_icmp .ne 19, 3) := by decide +kernel
theorem dX3_sideOf_109 : decode cX3_sideOf 109 = .ok (.aload_n 0, 1) := by decide +kernel
theorem dX3_sideOf_110 : decode cX3_sideOf 110 = .ok (.getfield 33, 3) := by decide +kernel
theorem dX3_sideOf_113 : decode cX3_sideOf 113 = .ok (.iload_n 1, 1) := by decide +kernel
theorem dX3_sideOf_114 : decode cX3_sideOf 114 = .ok (.iaload, 1) := by decide +kernel
theorem dX3_sideOf_115 : decode cX3_sideOf 115 = .ok (.aload_n 0, 1) := by decide +kernel
theorem dX3_sideOf_116 : decode cX3_sideOf 116 = .ok (.getfield 33, 3) := by decide +kernel
theorem dX3_sideOf_119 : decode cX3_sideOf 119 = .ok (.iconst 0, 1) := by decide +kernel
theorem dX3_sideOf_120 : decode cX3_sideOf 120 = .ok (.iaload, 1) := by decide +kernel
theorem dX3_sideOf_121 : decode cX3_sideOf 121 = .ok (.ixor, 1) := by decide +kernel
theorem dX3_sideOf_122 : decode cX3_sideOf 122 = .ok (.goto 4, 3) := by decide +kernel
theorem dX3_sideOf_125 : decode cX3_sideOf 125 = .ok (.iconst (-1), 1) := by decide +kernel
theorem dX3_sideOf_126 : decode cX3_sideOf 126 = .ok (.ireturn, 1) := by decide +kernel
theorem dX3_join_0 : decode cX3_join 0 = .ok (.iload_n 1, 1) := by decide +kernel
theorem dX3_join_1 : decode cX3_join 1 = .ok (.ifCond .lt 19, 3) := by decide +kernel
theorem dX3_join_4 : decode cX3_join 4 = .ok (.iload_n 1, 1) := by decide +kernel
theorem dX3_join_5 : decode cX3_join 5 = .ok (.bipush 8, 2) := by decide +kernel
theorem dX3_join_7 : decode cX3_join 7 = .ok (.if_icmp .ge 13, 3) := by decide +kernel
theorem dX3_join_10 : decode cX3_join 10 = .ok (.iload_n 2, 1) := by decide +kernel
theorem dX3_join_11 : decode cX3_join 11 = .ok (.ifCond .lt 9, 3) := by decide +kernel
theorem dX3_join_14 : decode cX3_join 14 = .ok (.iload_n 2, 1) := by decide +kernel
theorem dX3_join_15 : decode cX3_join 15 = .ok (.bipush 8, 2) := by decide +kernel
theorem dX3_join_17 : decode cX3_join 17 = .ok (.if_icmp .lt 5, 3) := by decide +kernel
theorem dX3_join_20 : decode cX3_join 20 = .ok (.iconst 0, 1) := by decide +kernel
theorem dX3_join_21 : decode cX3_join 21 = .ok (.ireturn, 1) := by decide +kernel
theorem dX3_join_22 : decode cX3_join 22 = .ok (.aload_n 0, 1) := by decide +kernel
theorem dX3_join_23 : decode cX3_join 23 = .ok (.getfield 33, 3) := by decide +kernel
theorem dX3_join_26 : decode cX3_join 26 = .ok (.iload_n 1, 1) := by decide +kernel
theorem dX3_join_27 : decode cX3_join 27 = .ok (.iaload, 1) := by decide +kernel
theorem dX3_join_28 : decode cX3_join 28 = .ok (.aload_n 0, 1) := by decide +kernel
theorem dX3_join_29 : decode cX3_join 29 = .ok (.getfield 33, 3) := by decide +kernel
theorem dX3_join_32 : decode cX3_join 32 = .ok (.iload_n 2, 1) := by decide +kernel
theorem dX3_join_33 : decode cX3_join 33 = .ok (.iaload, 1) := by decide +kernel
theorem dX3_join_34 : decode cX3_join 34 = .ok (.ixor, 1) := by decide +kernel
theorem dX3_join_35 : decode cX3_join 35 = .ok (.iload_n 3, 1) := by decide +kernel
theorem dX3_join_36 : decode cX3_join 36 = .ok (.ixor, 1) := by decide +kernel
theorem dX3_join_37 : decode cX3_join 37 = .ok (.istore 4, 2) := by decide +kernel
theorem dX3_join_39 : decode cX3_join 39 = .ok (.aload_n 0, 1) := by decide +kernel
theorem dX3_join_40 : decode cX3_join 40 = .ok (.getfield 30, 3) := by decide +kernel
theorem dX3_join_43 : decode cX3_join 43 = .ok (.iload_n 2, 1) := by decide +kernel
theorem dX3_join_44 : decode cX3_join 44 = .ok (.iaload, 1) := by decide +kernel
theorem dX3_join_45 : decode cX3_join 45 = .ok (.istore 5, 2) := by decide +kernel
theorem dX3_join_47 : decode cX3_join 47 = .ok (.aload_n 0, 1) := by decide +kernel
theorem dX3_join_48 : decode cX3_join 48 = .ok (.getfield 30, 3) := by decide +kernel
theorem dX3_join_51 : decode cX3_join 51 = .ok (.iload_n 1, 1) := by decide +kernel
theorem dX3_join_52 : decode cX3_join 52 = .ok (.iaload, 1) := by decide +kernel
theorem dX3_join_53 : decode cX3_join 53 = .ok (.iload 5, 2) := by decide +kernel
theorem dX3_join_55 : decode cX3_join 55 = .ok (.if_icmp .ne 14, 3) := by decide +kernel
theorem dX3_join_58 : decode cX3_join 58 = .ok (.iload 4, 2) := by decide +kernel
theorem dX3_join_60 : decode cX3_join 60 = .ok (.ifCond .ne 7, 3) := by decide +kernel
theorem dX3_join_63 : decode cX3_join 63 = .ok (.iconst 1, 1) := by decide +kernel
theorem dX3_join_64 : decode cX3_join 64 = .ok (.goto 4, 3) := by decide +kernel
theorem dX3_join_67 : decode cX3_join 67 = .ok (.iconst 0, 1) := by decide +kernel
theorem dX3_join_68 : decode cX3_join 68 = .ok (.ireturn, 1) := by decide +kernel
theorem dX3_join_69 : decode cX3_join 69 = .ok (.iconst 0, 1) := by decide +kernel
theorem dX3_join_70 : decode cX3_join 70 = .ok (.istore 6, 2) := by decide +kernel
theorem dX3_join_72 : decode cX3_join 72 = .ok (.iload 6, 2) := by decide +kernel
theorem dX3_join_74 : decode cX3_join 74 = .ok (.bipush 8, 2) := by decide +kernel
theorem dX3_join_76 : decode cX3_join 76 = .ok (.if_icmp .ge 46, 3) := by decide +kernel
theorem dX3_join_79 : decode cX3_join 79 = .ok (.aload_n 0, 1) := by decide +kernel
theorem dX3_join_80 : decode cX3_join 80 = .ok (.getfield 30, 3) := by decide +kernel
theorem dX3_join_83 : decode cX3_join 83 = .ok (.iload 6, 2) := by decide +kernel
theorem dX3_join_85 : decode cX3_join 85 = .ok (.iaload, 1) := by decide +kernel
theorem dX3_join_86 : decode cX3_join 86 = .ok (.iload 5, 2) := by decide +kernel
theorem dX3_join_88 : decode cX3_join 88 = .ok (.if_icmp .ne 28, 3) := by decide +kernel
theorem dX3_join_91 : decode cX3_join 91 = .ok (.aload_n 0, 1) := by decide +kernel
theorem dX3_join_92 : decode cX3_join 92 = .ok (.getfield 30, 3) := by decide +kernel
theorem dX3_join_95 : decode cX3_join 95 = .ok (.iload 6, 2) := by decide +kernel
theorem dX3_join_97 : decode cX3_join 97 = .ok (.aload_n 0, 1) := by decide +kernel
theorem dX3_join_98 : decode cX3_join 98 = .ok (.getfield 30, 3) := by decide +kernel
theorem dX3_join_101 : decode cX3_join 101 = .ok (.iload_n 1, 1) := by decide +kernel
theorem dX3_join_102 : decode cX3_join 102 = .ok (.iaload, 1) := by decide +kernel
theorem dX3_join_103 : decode cX3_join 103 = .ok (.iastore, 1) := by decide +kernel
theorem dX3_join_104 : decode cX3_join 104 = .ok (.aload_n 0, 1) := by decide +kernel
theorem dX3_join_105 : decode cX3_join 105 = .ok (.getfield 33, 3) := by decide +kernel
theorem dX3_join_108 : decode cX3_join 108 = .ok (.iload 6, 2) := by decide +kernel
theorem dX3_join_110 : decode cX3_join 110 = .ok (.dup2, 1) := by decide +kernel
theorem dX3_join_111 : decode cX3_join 111 = .ok (.iaload, 1) := by decide +kernel
theorem dX3_join_112 : decode cX3_join 112 = .ok (.iload 4, 2) := by decide +kernel
theorem dX3_join_114 : decode cX3_join 114 = .ok (.ixor, 1) := by decide +kernel
theorem dX3_join_115 : decode cX3_join 115 = .ok (.iastore, 1) := by decide +kernel
theorem dX3_join_116 : decode cX3_join 116 = .ok (.iinc 6 1, 3) := by decide +kernel
theorem dX3_join_119 : decode cX3_join 119 = .ok (.goto (-47), 3) := by decide +kernel
theorem dX3_join_122 : decode cX3_join 122 = .ok (.iconst 1, 1) := by decide +kernel
theorem dX3_join_123 : decode cX3_join 123 = .ok (.ireturn, 1) := by decide +kernel
theorem dX4_init_0 : decode cX4_init 0 = .ok (.aload_n 0, 1) := by decide +kernel
theorem dX4_init_1 : decode cX4_init 1 = .ok (.invokespecial 3, 3) := by decide +kernel
theorem dX4_init_4 : decode cX4_init 4 = .ok (.aload_n 0, 1) := by decide +kernel
theorem dX4_init_5 : decode cX4_init 5 = .ok (.bipush 16, 2) := by decide +kernel
theorem dX4_init_7 : decode cX4_init 7 = .ok (.newarray .int, 2) := by decide +kernel
theorem dX4_init_9 : decode cX4_init 9 = .ok (.putfield 9, 3) := by decide +kernel
theorem dX4_init_12 : decode cX4_init 12 = .ok (.return_, 1) := by decide +kernel
theorem dX4_lay_0 : decode cX4_lay 0 = .ok (.aload_n 0, 1) := by decide +kernel
theorem dX4_lay_1 : decode cX4_lay 1 = .ok (.getfield 15, 3) := by decide +kernel
theorem dX4_lay_4 : decode cX4_lay 4 = .ok (.ifCond .lt 35, 3) := by decide +kernel
theorem dX4_lay_7 : decode cX4_lay 7 = .ok (.aload_n 0, 1) := by decide +kernel
theorem dX4_lay_8 : decode cX4_lay 8 = .ok (.getfield 15, 3) := by decide +kernel
theorem dX4_lay_11 : decode cX4_lay 11 = .ok (.aload_n 0, 1) := by decide +kernel
theorem dX4_lay_12 : decode cX4_lay 12 = .ok (.getfield 9, 3) := by decide +kernel
theorem dX4_lay_15 : decode cX4_lay 15 = .ok (.arraylength, 1) := by decide +kernel
theorem dX4_lay_16 : decode cX4_lay 16 = .ok (.if_icmp .ge 23, 3) := by decide +kernel
theorem dX4_lay_19 : decode cX4_lay 19 = .ok (.aload_n 0, 1) := by decide +kernel
theorem dX4_lay_20 : decode cX4_lay 20 = .ok (.getfield 9, 3) := by decide +kernel
theorem dX4_lay_23 : decode cX4_lay 23 = .ok (.aload_n 0, 1) := by decide +kernel
theorem dX4_lay_24 : decode cX4_lay 24 = .ok (.getfield 15, 3) := by decide +kernel
theorem dX4_lay_27 : decode cX4_lay 27 = .ok (.iload_n 1, 1) := by decide +kernel
theorem dX4_lay_28 : decode cX4_lay 28 = .ok (.iastore, 1) := by decide +kernel
theorem dX4_lay_29 : decode cX4_lay 29 = .ok (.aload_n 0, 1) := by decide +kernel
theorem dX4_lay_30 : decode cX4_lay 30 = .ok (.dup, 1) := by decide +kernel
theorem dX4_lay_31 : decode cX4_lay 31 = .ok (.getfield 15, 3) := by decide +kernel
theorem dX4_lay_34 : decode cX4_lay 34 = .ok (.iconst 1, 1) := by decide +kernel
theorem dX4_lay_35 : decode cX4_lay 35 = .ok (.iadd, 1) := by decide +kernel
theorem dX4_lay_36 : decode cX4_lay 36 = .ok (.putfield 15, 3) := by decide +kernel
theorem dX4_lay_39 : decode cX4_lay 39 = .ok (.return_, 1) := by decide +kernel
theorem dX5_init_0 : decode cX5_init 0 = .ok (.aload_n 0, 1) := by decide +kernel
theorem dX5_init_1 : decode cX5_init 1 = .ok (.invokespecial 3, 3) := by decide +kernel
theorem dX5_init_4 : decode cX5_init 4 = .ok (.aload_n 0, 1) := by decide +kernel
theorem dX5_init_5 : decode cX5_init 5 = .ok (.bipush 7, 2) := by decide +kernel
theorem dX5_init_7 : decode cX5_init 7 = .ok (.newarray .int, 2) := by decide +kernel
theorem dX5_init_9 : decode cX5_init 9 = .ok (.putfield 9, 3) := by decide +kernel
theorem dX5_init_12 : decode cX5_init 12 = .ok (.aload_n 0, 1) := by decide +kernel
theorem dX5_init_13 : decode cX5_init 13 = .ok (.bipush 7, 2) := by decide +kernel
theorem dX5_init_15 : decode cX5_init 15 = .ok (.newarray .int, 2) := by decide +kernel
theorem dX5_init_17 : decode cX5_init 17 = .ok (.putfield 15, 3) := by decide +kernel
theorem dX5_init_20 : decode cX5_init 20 = .ok (.aload_n 0, 1) := by decide +kernel
theorem dX5_init_21 : decode cX5_init 21 = .ok (.bipush 49, 2) := by decide +kernel
theorem dX5_init_23 : decode cX5_init 23 = .ok (.newarray .int, 2) := by decide +kernel
theorem dX5_init_25 : decode cX5_init 25 = .ok (.putfield 18, 3) := by decide +kernel
theorem dX5_init_28 : decode cX5_init 28 = .ok (.aload_n 0, 1) := by decide +kernel
theorem dX5_init_29 : decode cX5_init 29 = .ok (.bipush 7, 2) := by decide +kernel
theorem dX5_init_31 : decode cX5_init 31 = .ok (.newarray .int, 2) := by decide +kernel
theorem dX5_init_33 : decode cX5_init 33 = .ok (.putfield 21, 3) := by decide +kernel
theorem dX5_init_36 : decode cX5_init 36 = .ok (.aload_n 0, 1) := by decide +kernel
theorem dX5_init_37 : decode cX5_init 37 = .ok (.bipush 8, 2) := by decide +kernel
theorem dX5_init_39 : decode cX5_init 39 = .ok (.newarray .int, 2) := by decide +kernel
theorem dX5_init_41 : decode cX5_init 41 = .ok (.putfield 24, 3) := by decide +kernel
theorem dX5_init_44 : decode cX5_init 44 = .ok (.aload_n 0, 1) := by decide +kernel
theorem dX5_init_45 : decode cX5_init 45 = .ok (.bipush 7, 2) := by decide +kernel
theorem dX5_init_47 : decode cX5_init 47 = .ok (.newarray .int, 2) := by decide +kernel
theorem dX5_init_49 : decode cX5_init 49 = .ok (.putfield 27, 3) := by decide +kernel
theorem dX5_init_52 : decode cX5_init 52 = .ok (.return_, 1) := by decide +kernel
theorem dX5_gather_0 : decode cX5_gather 0 = .ok (.aload_n 0, 1) := by decide +kernel
theorem dX5_gather_1 : decode cX5_gather 1 = .ok (.iconst 0, 1) := by decide +kernel
theorem dX5_gather_2 : decode cX5_gather 2 = .ok (.putfield 30, 3) := by decide +kernel
theorem dX5_gather_5 : decode cX5_gather 5 = .ok (.iconst 0, 1) := by decide +kernel
theorem dX5_gather_6 : decode cX5_gather 6 = .ok (.istore 4, 2) := by decide +kernel
theorem dX5_gather_8 : decode cX5_gather 8 = .ok (.iload 4, 2) := by decide +kernel
theorem dX5_gather_10 : decode cX5_gather 10 = .ok (.aload_n 1, 1) := by decide +kernel
theorem dX5_gather_11 : decode cX5_gather 11 = .ok (.getfield 34, 3) := by decide +kernel
theorem dX5_gather_14 : decode cX5_gather 14 = .ok (.if_icmp .ge 55, 3) := by decide +kernel
theorem dX5_gather_17 : decode cX5_gather 17 = .ok (.aload_n 0, 1) := by decide +kernel
theorem dX5_gather_18 : decode cX5_gather 18 = .ok (.getfield 30, 3) := by decide +kernel
theorem dX5_gather_21 : decode cX5_gather 21 = .ok (.bipush 7, 2) := by decide +kernel
theorem dX5_gather_23 : decode cX5_gather 23 = .ok (.if_icmp .ge 46, 3) := by decide +kernel
theorem dX5_gather_26 : decode cX5_gather 26 = .ok (.aload_n 1, 1) := by decide +kernel
theorem dX5_gather_27 : decode cX5_gather 27 = .ok (.iload 4, 2) := by decide +kernel
theorem dX5_gather_29 : decode cX5_gather 29 = .ok (.iconst 0, 1) := by decide +kernel
theorem dX5_gather_30 : decode cX5_gather 30 = .ok (.iload_n 2, 1) := by decide +kernel
theorem dX5_gather_31 : decode cX5_gather 31 = .ok (.invokevirtual 37, 3) := by decide +kernel
theorem dX5_gather_34 : decode cX5_gather 34 = .ok (.ifCond .eq 29, 3) := by decide +kernel
theorem dX5_gather_37 : decode cX5_gather 37 = .ok (.aload_n 0, 1) := by decide +kernel
theorem dX5_gather_38 : decode cX5_gather 38 = .ok (.getfield 15, 3) := by decide +kernel
theorem dX5_gather_41 : decode cX5_gather 41 = .ok (.aload_n 0, 1) := by decide +kernel
theorem dX5_gather_42 : decode cX5_gather 42 = .ok (.getfield 30, 3) := by decide +kernel
theorem dX5_gather_45 : decode cX5_gather 45 = .ok (.aload_n 1, 1) := by decide +kernel
theorem dX5_gather_46 : decode cX5_gather 46 = .ok (.getfield 41, 3) := by decide +kernel
theorem dX5_gather_49 : decode cX5_gather 49 = .ok (.iload 4, 2) := by decide +kernel
theorem dX5_gather_51 : decode cX5_gather 51 = .ok (.iaload, 1) := by decide +kernel
theorem dX5_gather_52 : decode cX5_gather 52 = .ok (.iastore, 1) := by decide +kernel
theorem dX5_gather_53 : decode cX5_gather 53 = .ok (.aload_n 0, 1) := by decide +kernel
theorem dX5_gather_54 : decode cX5_gather 54 = .ok (.dup, 1) := by decide +kernel
theorem dX5_gather_55 : decode cX5_gather 55 = .ok (.getfield 30, 3) := by decide +kernel
theorem dX5_gather_58 : decode cX5_gather 58 = .ok (.iconst 1, 1) := by decide +kernel
theorem dX5_gather_59 : decode cX5_gather 59 = .ok (.iadd, 1) := by decide +kernel
theorem dX5_gather_60 : decode cX5_gather 60 = .ok (.putfield 30, 3) := by decide +kernel
theorem dX5_gather_63 : decode cX5_gather 63 = .ok (.iinc 4 1, 3) := by decide +kernel
theorem dX5_gather_66 : decode cX5_gather 66 = .ok (.goto (-58), 3) := by decide +kernel
theorem dX5_gather_69 : decode cX5_gather 69 = .ok (.iconst 0, 1) := by decide +kernel
theorem dX5_gather_70 : decode cX5_gather 70 = .ok (.istore 4, 2) := by decide +kernel
theorem dX5_gather_72 : decode cX5_gather 72 = .ok (.iload 4, 2) := by decide +kernel
theorem dX5_gather_74 : decode cX5_gather 74 = .ok (.aload_n 0, 1) := by decide +kernel
theorem dX5_gather_75 : decode cX5_gather 75 = .ok (.getfield 30, 3) := by decide +kernel
theorem dX5_gather_78 : decode cX5_gather 78 = .ok (.if_icmp .ge 58, 3) := by decide +kernel
theorem dX5_gather_81 : decode cX5_gather 81 = .ok (.iconst 0, 1) := by decide +kernel
theorem dX5_gather_82 : decode cX5_gather 82 = .ok (.istore 5, 2) := by decide +kernel
theorem dX5_gather_84 : decode cX5_gather 84 = .ok (.iload 5, 2) := by decide +kernel
theorem dX5_gather_86 : decode cX5_gather 86 = .ok (.aload_n 0, 1) := by decide +kernel
theorem dX5_gather_87 : decode cX5_gather 87 = .ok (.getfield 30, 3) := by decide +kernel
theorem dX5_gather_90 : decode cX5_gather 90 = .ok (.if_icmp .ge 40, 3) := by decide +kernel
theorem dX5_gather_93 : decode cX5_gather 93 = .ok (.aload_n 0, 1) := by decide +kernel
theorem dX5_gather_94 : decode cX5_gather 94 = .ok (.getfield 18, 3) := by decide +kernel
theorem dX5_gather_97 : decode cX5_gather 97 = .ok (.iload 4, 2) := by decide +kernel
theorem dX5_gather_99 : decode cX5_gather 99 = .ok (.bipush 7, 2) := by decide +kernel
theorem dX5_gather_101 : decode cX5_gather 101 = .ok (.imul, 1) := by decide +kernel
theorem dX5_gather_102 : decode cX5_gather 102 = .ok (.iload 5, 2) := by decide +kernel
theorem dX5_gather_104 : decode cX5_gather 104 = .ok (.iadd, 1) := by decide +kernel
theorem dX5_gather_105 : decode cX5_gather 105 = .ok (.aload_n 0, 1) := by decide +kernel
theorem dX5_gather_106 : decode cX5_gather 106 = .ok (.getfield 15, 3) := by decide +kernel
theorem dX5_gather_109 : decode cX5_gather 109 = .ok (.iload 4, 2) := by decide +kernel
theorem dX5_gather_111 : decode cX5_gather 111 = .ok (.iaload, 1) := by decide +kernel
theorem dX5_gather_112 : decode cX5_gather 112 = .ok (.aload_n 0, 1) := by decide +kernel
theorem dX5_gather_113 : decode cX5_gather 113 = .ok (.getfield 15, 3) := by decide +kernel
theorem dX5_gather_116 : decode cX5_gather 116 = .ok (.iload 5, 2) := by decide +kernel
theorem dX5_gather_118 : decode cX5_gather 118 = .ok (.iaload, 1) := by decide +kernel
theorem dX5_gather_119 : decode cX5_gather 119 = .ok (.iload_n 3, 1) := by decide +kernel
theorem dX5_gather_120 : decode cX5_gather 120 = .ok (.invokestatic 44, 3) := by decide +kernel
theorem dX5_gather_123 : decode cX5_gather 123 = .ok (.iastore, 1) := by decide +kernel
theorem dX5_gather_124 : decode cX5_gather 124 = .ok (.iinc 5 1, 3) := by decide +kernel
theorem dX5_gather_127 : decode cX5_gather 127 = .ok (.goto (-43), 3) := by decide +kernel
theorem dX5_gather_130 : decode cX5_gather 130 = .ok (.iinc 4 1, 3) := by decide +kernel
theorem dX5_gather_133 : decode cX5_gather 133 = .ok (.goto (-61), 3) := by decide +kernel
theorem dX5_gather_136 : decode cX5_gather 136 = .ok (.return_, 1) := by decide +kernel
theorem dX5_changesFrom_0 : decode cX5_changesFrom 0 = .ok (.aload_n 0, 1) := by decide +kernel
theorem dX5_changesFrom_1 : decode cX5_changesFrom 1 = .ok (.getfield 18, 3) := by decide +kernel
theorem dX5_changesFrom_4 : decode cX5_changesFrom 4 = .ok (.iload_n 1, 1) := by decide +kernel
theorem dX5_changesFrom_5 : decode cX5_changesFrom 5 = .ok (.bipush 7, 2) := by decide +kernel
theorem dX5_changesFrom_7 : decode cX5_changesFrom 7 = .ok (.imul, 1) := by decide +kernel
theorem dX5_changesFrom_8 : decode cX5_changesFrom 8 = .ok (.iload_n 2, 1) := by decide +kernel
theorem dX5_changesFrom_9 : decode cX5_changesFrom 9 = .ok (.iadd, 1) := by decide +kernel
theorem dX5_changesFrom_10 : decode cX5_changesFrom 10 = .ok (.iaload, 1) := by decide +kernel
theorem dX5_changesFrom_11 : decode cX5_changesFrom 11 = .ok (.ireturn, 1) := by decide +kernel
theorem dX5_changesToOthers_0 : decode cX5_changesToOthers 0 = .ok (.iconst 0, 1) := by decide +kernel
theorem dX5_changesToOthers_1 : decode cX5_changesToOthers 1 = .ok (.istore_n 2, 1) := by decide +kernel
theorem dX5_changesToOthers_2 : decode cX5_changesToOthers 2 = .ok (.iconst 0, 1) := by decide +kernel
theorem dX5_changesToOthers_3 : decode cX5_changesToOthers 3 = .ok (.istore_n 3, 1) := by decide +kernel
theorem dX5_changesToOthers_4 : decode cX5_changesToOthers 4 = .ok (.iload_n 3, 1) := by decide +kernel
theorem dX5_changesToOthers_5 : decode cX5_changesToOthers 5 = .ok (.aload_n 0, 1) := by decide +kernel
theorem dX5_changesToOthers_6 : decode cX5_changesToOthers 6 = .ok (.getfield 30, 3) := by decide +kernel
theorem dX5_changesToOthers_9 : decode cX5_changesToOthers 9 = .ok (.if_icmp .ge 27, 3) := by decide +kernel
theorem dX5_changesToOthers_12 : decode cX5_changesToOthers 12 = .ok (.iload_n 2, 1) := by decide +kernel
theorem dX5_changesToOthers_13 : decode cX5_changesToOthers 13 = .ok (.iload_n 3, 1) := by decide +kernel
theorem dX5_changesToOthers_14 : decode cX5_changesToOthers 14 = .ok (.iload_n 1, 1) := by decide +kernel
theorem dX5_changesToOthers_15 : decode cX5_changesToOthers 15 = .ok (.if_icmp .ne 7, 3) := by decide +kernel
theorem dX5_changesToOthers_18 : decode cX5_changesToOthers 18 = .ok (.iconst 0, 1) := by decide +kernel
theorem dX5_changesToOthers_19 : decode cX5_changesToOthers 19 = .ok (.goto 9, 3) := by decide +kernel
theorem dX5_changesToOthers_22 : decode cX5_changesToOthers 22 = .ok (.aload_n 0, 1) := by decide +kernel
theorem dX5_changesToOthers_23 : decode cX5_changesToOthers 23 = .ok (.iload_n 1, 1) := by decide +kernel
theorem dX5_changesToOthers_24 : decode cX5_changesToOthers 24 = .ok (.iload_n 3, 1) := by decide +kernel
theorem dX5_changesToOthers_25 : decode cX5_changesToOthers 25 = .ok (.invokevirtual 47, 3) := by decide +kernel
theorem dX5_changesToOthers_28 : decode cX5_changesToOthers 28 = .ok (.iadd, 1) := by decide +kernel
theorem dX5_changesToOthers_29 : decode cX5_changesToOthers 29 = .ok (.istore_n 2, 1) := by decide +kernel
theorem dX5_changesToOthers_30 : decode cX5_changesToOthers 30 = .ok (.iinc 3 1, 3) := by decide +kernel
theorem dX5_changesToOthers_33 : decode cX5_changesToOthers 33 = .ok (.goto (-29), 3) := by decide +kernel
theorem dX5_changesToOthers_36 : decode cX5_changesToOthers 36 = .ok (.iload_n 2, 1) := by decide +kernel
theorem dX5_changesToOthers_37 : decode cX5_changesToOthers 37 = .ok (.ireturn, 1) := by decide +kernel
theorem dX5_growFrom_0 : decode cX5_growFrom 0 = .ok (.aload_n 0, 1) := by decide +kernel
theorem dX5_growFrom_1 : decode cX5_growFrom 1 = .ok (.iload_n 1, 1) := by decide +kernel
theorem dX5_growFrom_2 : decode cX5_growFrom 2 = .ok (.putfield 51, 3) := by decide +kernel
theorem dX5_growFrom_5 : decode cX5_growFrom 5 = .ok (.aload_n 0, 1) := by decide +kernel
theorem dX5_growFrom_6 : decode cX5_growFrom 6 = .ok (.sipush 1000, 3) := by decide +kernel
theorem dX5_growFrom_9 : decode cX5_growFrom 9 = .ok (.putfield 54, 3) := by decide +kernel
theorem dX5_growFrom_12 : decode cX5_growFrom 12 = .ok (.aload_n 0, 1) := by decide +kernel
theorem dX5_growFrom_13 : decode cX5_growFrom 13 = .ok (.iconst 0, 1) := by decide +kernel
theorem dX5_growFrom_14 : decode cX5_growFrom 14 = .ok (.putfield 57, 3) := by decide +kernel
theorem dX5_growFrom_17 : decode cX5_growFrom 17 = .ok (.aload_n 0, 1) := by decide +kernel
theorem dX5_growFrom_18 : decode cX5_growFrom 18 = .ok (.getfield 24, 3) := by decide +kernel
theorem dX5_growFrom_21 : decode cX5_growFrom 21 = .ok (.aload_n 0, 1) := by decide +kernel
theorem dX5_growFrom_22 : decode cX5_growFrom 22 = .ok (.getfield 30, 3) := by decide +kernel
theorem dX5_growFrom_25 : decode cX5_growFrom 25 = .ok (.iconst 0, 1) := by decide +kernel
theorem dX5_growFrom_26 : decode cX5_growFrom 26 = .ok (.iastore, 1) := by decide +kernel
theorem dX5_growFrom_27 : decode cX5_growFrom 27 = .ok (.aload_n 0, 1) := by decide +kernel
theorem dX5_growFrom_28 : decode cX5_growFrom 28 = .ok (.getfield 30, 3) := by decide +kernel
theorem dX5_growFrom_31 : decode cX5_growFrom 31 = .ok (.iconst 1, 1) := by decide +kernel
theorem dX5_growFrom_32 : decode cX5_growFrom 32 = .ok (.isub, 1) := by decide +kernel
theorem dX5_growFrom_33 : decode cX5_growFrom 33 = .ok (.istore_n 2, 1) := by decide +kernel
theorem dX5_growFrom_34 : decode cX5_growFrom 34 = .ok (.iload_n 2, 1) := by decide +kernel
theorem dX5_growFrom_35 : decode cX5_growFrom 35 = .ok (.ifCond .lt 36, 3) := by decide +kernel
theorem dX5_growFrom_38 : decode cX5_growFrom 38 = .ok (.aload_n 0, 1) := by decide +kernel
theorem dX5_growFrom_39 : decode cX5_growFrom 39 = .ok (.getfield 24, 3) := by decide +kernel
theorem dX5_growFrom_42 : decode cX5_growFrom 42 = .ok (.iload_n 2, 1) := by decide +kernel
theorem dX5_growFrom_43 : decode cX5_growFrom 43 = .ok (.aload_n 0, 1) := by decide +kernel
theorem dX5_growFrom_44 : decode cX5_growFrom 44 = .ok (.getfield 24, 3) := by decide +kernel
theorem dX5_growFrom_47 : decode cX5_growFrom 47 = .ok (.iload_n 2, 1) := by decide +kernel
theorem dX5_growFrom_48 : decode cX5_growFrom 48 = .ok (.iconst 1, 1) := by decide +kernel
theorem dX5_growFrom_49 : decode cX5_growFrom 49 = .ok (.iadd, 1) := by decide +kernel
theorem dX5_growFrom_50 : decode cX5_growFrom 50 = .ok (.iaload, 1) := by decide +kernel
theorem dX5_growFrom_51 : decode cX5_growFrom 51 = .ok (.aload_n 0, 1) := by decide +kernel
theorem dX5_growFrom_52 : decode cX5_growFrom 52 = .ok (.iload_n 2, 1) := by decide +kernel
theorem dX5_growFrom_53 : decode cX5_growFrom 53 = .ok (.invokevirtual 60, 3) := by decide +kernel
theorem dX5_growFrom_56 : decode cX5_growFrom 56 = .ok (.iadd, 1) := by decide +kernel
theorem dX5_growFrom_57 : decode cX5_growFrom 57 = .ok (.iastore, 1) := by decide +kernel
theorem dX5_growFrom_58 : decode cX5_growFrom 58 = .ok (.aload_n 0, 1) := by decide +kernel
theorem dX5_growFrom_59 : decode cX5_growFrom 59 = .ok (.getfield 21, 3) := by decide +kernel
theorem dX5_growFrom_62 : decode cX5_growFrom 62 = .ok (.iload_n 2, 1) := by decide +kernel
theorem dX5_growFrom_63 : decode cX5_growFrom 63 = .ok (.iconst (-1), 1) := by decide +kernel
theorem dX5_growFrom_64 : decode cX5_growFrom 64 = .ok (.iastore, 1) := by decide +kernel
theorem dX5_growFrom_65 : decode cX5_growFrom 65 = .ok (.iinc 2 (-1), 3) := by decide +kernel
theorem dX5_growFrom_68 : decode cX5_growFrom 68 = .ok (.goto (-34), 3) := by decide +kernel
theorem dX5_growFrom_71 : decode cX5_growFrom 71 = .ok (.aload_n 0, 1) := by decide +kernel
theorem dX5_growFrom_72 : decode cX5_growFrom 72 = .ok (.iconst 0, 1) := by decide +kernel
theorem dX5_growFrom_73 : decode cX5_growFrom 73 = .ok (.iconst 0, 1) := by decide +kernel
theorem dX5_growFrom_74 : decode cX5_growFrom 74 = .ok (.invokevirtual 64, 3) := by decide +kernel
theorem dX5_growFrom_77 : decode cX5_growFrom 77 = .ok (.return_, 1) := by decide +kernel
theorem dX5_fewestTo_0 : decode cX5_fewestTo 0 = .ok (.iload_n 1, 1) := by decide +kernel
theorem dX5_fewestTo_1 : decode cX5_fewestTo 1 = .ok (.aload_n 0, 1) := by decide +kernel
theorem dX5_fewestTo_2 : decode cX5_fewestTo 2 = .ok (.getfield 51, 3) := by decide +kernel
theorem dX5_fewestTo_5 : decode cX5_fewestTo 5 = .ok (.if_icmp .ne 5, 3) := by decide +kernel
theorem dX5_fewestTo_8 : decode cX5_fewestTo 8 = .ok (.iconst 0, 1) := by decide +kernel
theorem dX5_fewestTo_9 : decode cX5_fewestTo 9 = .ok (.ireturn, 1) := by decide +kernel
theorem dX5_fewestTo_10 : decode cX5_fewestTo 10 = .ok (.sipush 1000, 3) := by decide +kernel
theorem dX5_fewestTo_13 : decode cX5_fewestTo 13 = .ok (.istore_n 2, 1) := by decide +kernel
theorem dX5_fewestTo_14 : decode cX5_fewestTo 14 = .ok (.iconst 0, 1) := by decide +kernel
theorem dX5_fewestTo_15 : decode cX5_fewestTo 15 = .ok (.istore_n 3, 1) := by decide +kernel
theorem dX5_fewestTo_16 : decode cX5_fewestTo 16 = .ok (.iload_n 3, 1) := by decide +kernel
theorem dX5_fewestTo_17 : decode cX5_fewestTo 17 = .ok (.aload_n 0, 1) := by decide +kernel
theorem dX5_fewestTo_18 : decode cX5_fewestTo 18 = .ok (.getfield 30, 3) := by decide +kernel
theorem dX5_fewestTo_21 : decode cX5_fewestTo 21 = .ok (.if_icmp .ge 25, 3) := by decide +kernel
theorem dX5_fewestTo_24 : decode cX5_fewestTo 24 = .ok (.iload_n 3, 1) := by decide +kernel
theorem dX5_fewestTo_25 : decode cX5_fewestTo 25 = .ok (.iload_n 1, 1) := by decide +kernel
theorem dX5_fewestTo_26 : decode cX5_fewestTo 26 = .ok (.if_icmp .eq 14, 3) := by decide +kernel
theorem dX5_fewestTo_29 : decode cX5_fewestTo 29 = .ok (.iload_n 2, 1) := by decide +kernel
theorem dX5_fewestTo_30 : decode cX5_fewestTo 30 = .ok (.aload_n 0, 1) := by decide +kernel
theorem dX5_fewestTo_31 : decode cX5_fewestTo 31 = .ok (.iload_n 3, 1) := by decide +kernel
theorem dX5_fewestTo_32 : decode cX5_fewestTo 32 = .ok (.iload_n 1, 1) := by decide +kernel
theorem dX5_fewestTo_33 : decode cX5_fewestTo 33 = .ok (.invokevirtual 47, 3) := by decide +kernel
theorem dX5_fewestTo_36 : decode cX5_fewestTo 36 = .ok (.invokestatic 68, 3) := by decide +kernel
theorem dX5_fewestTo_39 : decode cX5_fewestTo 39 = .ok (.istore_n 2, 1) := by decide +kernel
theorem dX5_fewestTo_40 : decode cX5_fewestTo 40 = .ok (.iinc 3 1, 3) := by decide +kernel
theorem dX5_fewestTo_43 : decode cX5_fewestTo 43 = .ok (.goto (-27), 3) := by decide +kernel
theorem dX5_fewestTo_46 : decode cX5_fewestTo 46 = .ok (.iload_n 2, 1) := by decide +kernel
theorem dX5_fewestTo_47 : decode cX5_fewestTo 47 = .ok (.ireturn, 1) := by decide +kernel
theorem dX5_grow_0 : decode cX5_grow 0 = .ok (.iload_n 1, 1) := by decide +kernel
theorem dX5_grow_1 : decode cX5_grow 1 = .ok (.aload_n 0, 1) := by decide +kernel
theorem dX5_grow_2 : decode cX5_grow 2 = .ok (.getfield 30, 3) := by decide +kernel
theorem dX5_grow_5 : decode cX5_grow 5 = .ok (.if_icmp .gt 18, 3) := by decide +kernel
theorem dX5_grow_8 : decode cX5_grow 8 = .ok (.iload_n 2, 1) := by decide +kernel
theorem dX5_grow_9 : decode cX5_grow 9 = .ok (.aload_n 0, 1) := by decide +kernel
theorem dX5_grow_10 : decode cX5_grow 10 = .ok (.getfield 24, 3) := by decide +kernel
theorem dX5_grow_13 : decode cX5_grow 13 = .ok (.iload_n 1, 1) := by decide +kernel
theorem dX5_grow_14 : decode cX5_grow 14 = .ok (.iaload, 1) := by decide +kernel
theorem dX5_grow_15 : decode cX5_grow 15 = .ok (.iadd, 1) := by decide +kernel
theorem dX5_grow_16 : decode cX5_grow 16 = .ok (.aload_n 0, 1) := by decide +kernel
theorem dX5_grow_17 : decode cX5_grow 17 = .ok (.getfield 54, 3) := by decide +kernel
theorem dX5_grow_20 : decode cX5_grow 20 = .ok (.if_icmp .le 4, 3) := by decide +kernel
theorem dX5_grow_23 : decode cX5_grow 23 = .ok (.return_, 1) := by decide +kernel
theorem dX5_grow_24 : decode cX5_grow 24 = .ok (.iload_n 1, 1) := by decide +kernel
theorem dX5_grow_25 : decode cX5_grow 25 = .ok (.aload_n 0, 1) := by decide +kernel
theorem dX5_grow_26 : decode cX5_grow 26 = .ok (.getfield 30, 3) := by decide +kernel
theorem dX5_grow_29 : decode cX5_grow 29 = .ok (.if_icmp .ne 11, 3) := by decide +kernel
theorem dX5_grow_32 : decode cX5_grow 32 = .ok (.aload_n 0, 1) := by decide +kernel
theorem dX5_grow_33 : decode cX5_grow 33 = .ok (.iload_n 2, 1) := by decide +kernel
theorem dX5_grow_34 : decode cX5_grow 34 = .ok (.invokevirtual 73, 3) := by decide +kernel
theorem dX5_grow_37 : decode cX5_grow 37 = .ok (.goto 76, 3) := by decide +kernel
theorem dX5_grow_40 : decode cX5_grow 40 = .ok (.iload_n 1, 1) := by decide +kernel
theorem dX5_grow_41 : decode cX5_grow 41 = .ok (.aload_n 0, 1) := by decide +kernel
theorem dX5_grow_42 : decode cX5_grow 42 = .ok (.getfield 51, 3) := by decide +kernel
theorem dX5_grow_45 : decode cX5_grow 45 = .ok (.if_icmp .ne 14, 3) := by decide +kernel
theorem dX5_grow_48 : decode cX5_grow 48 = .ok (.aload_n 0, 1) := by decide +kernel
theorem dX5_grow_49 : decode cX5_grow 49 = .ok (.iload_n 1, 1) := by decide +kernel
theorem dX5_grow_50 : decode cX5_grow 50 = .ok (.iconst 1, 1) := by decide +kernel
theorem dX5_grow_51 : decode cX5_grow 51 = .ok (.iadd, 1) := by decide +kernel
theorem dX5_grow_52 : decode cX5_grow 52 = .ok (.iload_n 2, 1) := by decide +kernel
theorem dX5_grow_53 : decode cX5_grow 53 = .ok (.invokevirtual 64, 3) := by decide +kernel
theorem dX5_grow_56 : decode cX5_grow 56 = .ok (.goto 57, 3) := by decide +kernel
theorem dX5_grow_59 : decode cX5_grow 59 = .ok (.iconst 0, 1) := by decide +kernel
theorem dX5_grow_60 : decode cX5_grow 60 = .ok (.istore_n 3, 1) := by decide +kernel
theorem dX5_grow_61 : decode cX5_grow 61 = .ok (.iload_n 3, 1) := by decide +kernel
theorem dX5_grow_62 : decode cX5_grow 62 = .ok (.aload_n 0, 1) := by decide +kernel
theorem dX5_grow_63 : decode cX5_grow 63 = .ok (.getfield 30, 3) := by decide +kernel
theorem dX5_grow_66 : decode cX5_grow 66 = .ok (.if_icmp .ge 47, 3) := by decide +kernel
theorem dX5_grow_69 : decode cX5_grow 69 = .ok (.aload_n 0, 1) := by decide +kernel
theorem dX5_grow_70 : decode cX5_grow 70 = .ok (.iload_n 3, 1) := by decide +kernel
theorem dX5_grow_71 : decode cX5_grow 71 = .ok (.iload_n 1, 1) := by decide +kernel
theorem dX5_grow_72 : decode cX5_grow 72 = .ok (.invokevirtual 77, 3) := by decide +kernel
theorem dX5_grow_75 : decode cX5_grow 75 = .ok (.ifCond .ne 32, 3) := by decide +kernel
theorem dX5_grow_78 : decode cX5_grow 78 = .ok (.aload_n 0, 1) := by decide +kernel
theorem dX5_grow_79 : decode cX5_grow 79 = .ok (.getfield 21, 3) := by decide +kernel
theorem dX5_grow_82 : decode cX5_grow 82 = .ok (.iload_n 1, 1) := by decide +kernel
theorem dX5_grow_83 : decode cX5_grow 83 = .ok (.iload_n 3, 1) := by decide +kernel
theorem dX5_grow_84 : decode cX5_grow 84 = .ok (.iastore, 1) := by decide +kernel
theorem dX5_grow_85 : decode cX5_grow 85 = .ok (.aload_n 0, 1) := by decide +kernel
theorem dX5_grow_86 : decode cX5_grow 86 = .ok (.iload_n 1, 1) := by decide +kernel
theorem dX5_grow_87 : decode cX5_grow 87 = .ok (.iconst 1, 1) := by decide +kernel
theorem dX5_grow_88 : decode cX5_grow 88 = .ok (.iadd, 1) := by decide +kernel
theorem dX5_grow_89 : decode cX5_grow 89 = .ok (.iload_n 2, 1) := by decide +kernel
theorem dX5_grow_90 : decode cX5_grow 90 = .ok (.aload_n 0, 1) := by decide +kernel
theorem dX5_grow_91 : decode cX5_grow 91 = .ok (.iload_n 3, 1) := by decide +kernel
theorem dX5_grow_92 : decode cX5_grow 92 = .ok (.iload_n 1, 1) := by decide +kernel
theorem dX5_grow_93 : decode cX5_grow 93 = .ok (.invokevirtual 47, 3) := by decide +kernel
theorem dX5_grow_96 : decode cX5_grow 96 = .ok (.iadd, 1) := by decide +kernel
theorem dX5_grow_97 : decode cX5_grow 97 = .ok (.invokevirtual 64, 3) := by decide +kernel
theorem dX5_grow_100 : decode cX5_grow 100 = .ok (.aload_n 0, 1) := by decide +kernel
theorem dX5_grow_101 : decode cX5_grow 101 = .ok (.getfield 21, 3) := by decide +kernel
theorem dX5_grow_104 : decode cX5_grow 104 = .ok (.iload_n 1, 1) := by decide +kernel
theorem dX5_grow_105 : decode cX5_grow 105 = .ok (.iconst (-1), 1) := by decide +kernel
theorem dX5_grow_106 : decode cX5_grow 106 = .ok (.iastore, 1) := by decide +kernel
theorem dX5_grow_107 : decode cX5_grow 107 = .ok (.iinc 3 1, 3) := by decide +kernel
theorem dX5_grow_110 : decode cX5_grow 110 = .ok (.goto (-49), 3) := by decide +kernel
theorem dX5_grow_113 : decode cX5_grow 113 = .ok (.return_, 1) := by decide +kernel
theorem dX5_comesFrom_0 : decode cX5_comesFrom 0 = .ok (.iload_n 1, 1) := by decide +kernel
theorem dX5_comesFrom_1 : decode cX5_comesFrom 1 = .ok (.istore_n 3, 1) := by decide +kernel
theorem dX5_comesFrom_2 : decode cX5_comesFrom 2 = .ok (.iconst 0, 1) := by decide +kernel
theorem dX5_comesFrom_3 : decode cX5_comesFrom 3 = .ok (.istore 4, 2) := by decide +kernel
theorem dX5_comesFrom_5 : decode cX5_comesFrom 5 = .ok (.iload 4, 2) := by decide +kernel
theorem dX5_comesFrom_7 : decode cX5_comesFrom 7 = .ok (.bipush 7, 2) := by decide +kernel
theorem dX5_comesFrom_9 : decode cX5_comesFrom 9 = .ok (.if_icmp .ge 26, 3) := by decide +kernel
theorem dX5_comesFrom_12 : decode cX5_comesFrom 12 = .ok (.iload_n 3, 1) := by decide +kernel
theorem dX5_comesFrom_13 : decode cX5_comesFrom 13 = .ok (.iload_n 2, 1) := by decide +kernel
theorem dX5_comesFrom_14 : decode cX5_comesFrom 14 = .ok (.if_icmp .eq 21, 3) := by decide +kernel
theorem dX5_comesFrom_17 : decode cX5_comesFrom 17 = .ok (.iload_n 3, 1) := by decide +kernel
theorem dX5_comesFrom_18 : decode cX5_comesFrom 18 = .ok (.iconst (-1), 1) := by decide +kernel
theorem dX5_comesFrom_19 : decode cX5_comesFrom 19 = .ok (.if_icmp .eq 16, 3) := by decide +kernel
theorem dX5_comesFrom_22 : decode cX5_comesFrom 22 = .ok (.aload_n 0, 1) := by decide +kernel
theorem dX5_comesFrom_23 : decode cX5_comesFrom 23 = .ok (.getfield 21, 3) := by decide +kernel
theorem dX5_comesFrom_26 : decode cX5_comesFrom 26 = .ok (.iload_n 3, 1) := by decide +kernel
theorem dX5_comesFrom_27 : decode cX5_comesFrom 27 = .ok (.iaload, 1) := by decide +kernel
theorem dX5_comesFrom_28 : decode cX5_comesFrom 28 = .ok (.istore_n 3, 1) := by decide +kernel
theorem dX5_comesFrom_29 : decode cX5_comesFrom 29 = .ok (.iinc 4 1, 3) := by decide +kernel
theorem dX5_comesFrom_32 : decode cX5_comesFrom 32 = .ok (.goto (-27), 3) := by decide +kernel
theorem dX5_comesFrom_35 : decode cX5_comesFrom 35 = .ok (.iload_n 3, 1) := by decide +kernel
theorem dX5_comesFrom_36 : decode cX5_comesFrom 36 = .ok (.iload_n 2, 1) := by decide +kernel
theorem dX5_comesFrom_37 : decode cX5_comesFrom 37 = .ok (.if_icmp .ne 7, 3) := by decide +kernel
theorem dX5_comesFrom_40 : decode cX5_comesFrom 40 = .ok (.iconst 1, 1) := by decide +kernel
theorem dX5_comesFrom_41 : decode cX5_comesFrom 41 = .ok (.goto 4, 3) := by decide +kernel
theorem dX5_comesFrom_44 : decode cX5_comesFrom 44 = .ok (.iconst 0, 1) := by decide +kernel
theorem dX5_comesFrom_45 : decode cX5_comesFrom 45 = .ok (.ireturn, 1) := by decide +kernel
theorem dX5_keepTree_0 : decode cX5_keepTree 0 = .ok (.iload_n 1, 1) := by decide +kernel
theorem dX5_keepTree_1 : decode cX5_keepTree 1 = .ok (.aload_n 0, 1) := by decide +kernel
theorem dX5_keepTree_2 : decode cX5_keepTree 2 = .ok (.getfield 54, 3) := by decide +kernel
theorem dX5_keepTree_5 : decode cX5_keepTree 5 = .ok (.if_icmp .ge 28, 3) := by decide +kernel
theorem dX5_keepTree_8 : decode cX5_keepTree 8 = .ok (.aload_n 0, 1) := by decide +kernel
theorem dX5_keepTree_9 : decode cX5_keepTree 9 = .ok (.iload_n 1, 1) := by decide +kernel
theorem dX5_keepTree_10 : decode cX5_keepTree 10 = .ok (.putfield 54, 3) := by decide +kernel
theorem dX5_keepTree_13 : decode cX5_keepTree 13 = .ok (.aload_n 0, 1) := by decide +kernel
theorem dX5_keepTree_14 : decode cX5_keepTree 14 = .ok (.iconst 0, 1) := by decide +kernel
theorem dX5_keepTree_15 : decode cX5_keepTree 15 = .ok (.putfield 57, 3) := by decide +kernel
theorem dX5_keepTree_18 : decode cX5_keepTree 18 = .ok (.aload_n 0, 1) := by decide +kernel
theorem dX5_keepTree_19 : decode cX5_keepTree 19 = .ok (.getfield 21, 3) := by decide +kernel
theorem dX5_keepTree_22 : decode cX5_keepTree 22 = .ok (.iconst 0, 1) := by decide +kernel
theorem dX5_keepTree_23 : decode cX5_keepTree 23 = .ok (.aload_n 0, 1) := by decide +kernel
theorem dX5_keepTree_24 : decode cX5_keepTree 24 = .ok (.getfield 9, 3) := by decide +kernel
theorem dX5_keepTree_27 : decode cX5_keepTree 27 = .ok (.iconst 0, 1) := by decide +kernel
theorem dX5_keepTree_28 : decode cX5_keepTree 28 = .ok (.bipush 7, 2) := by decide +kernel
theorem dX5_keepTree_30 : decode cX5_keepTree 30 = .ok (.invokestatic 81, 3) := by decide +kernel
theorem dX5_keepTree_33 : decode cX5_keepTree 33 = .ok (.aload_n 0, 1) := by decide +kernel
theorem dX5_keepTree_34 : decode cX5_keepTree 34 = .ok (.dup, 1) := by decide +kernel
theorem dX5_keepTree_35 : decode cX5_keepTree 35 = .ok (.getfield 57, 3) := by decide +kernel
theorem dX5_keepTree_38 : decode cX5_keepTree 38 = .ok (.iconst 1, 1) := by decide +kernel
theorem dX5_keepTree_39 : decode cX5_keepTree 39 = .ok (.iadd, 1) := by decide +kernel
theorem dX5_keepTree_40 : decode cX5_keepTree 40 = .ok (.putfield 57, 3) := by decide +kernel
theorem dX5_keepTree_43 : decode cX5_keepTree 43 = .ok (.return_, 1) := by decide +kernel
theorem dX5_joinClans_0 : decode cX5_joinClans 0 = .ok (.iconst 0, 1) := by decide +kernel
theorem dX5_joinClans_1 : decode cX5_joinClans 1 = .ok (.istore_n 2, 1) := by decide +kernel
theorem dX5_joinClans_2 : decode cX5_joinClans 2 = .ok (.iload_n 2, 1) := by decide +kernel
theorem dX5_joinClans_3 : decode cX5_joinClans 3 = .ok (.aload_n 0, 1) := by decide +kernel
theorem dX5_joinClans_4 : decode cX5_joinClans 4 = .ok (.getfield 30, 3) := by decide +kernel
theorem dX5_joinClans_7 : decode cX5_joinClans 7 = .ok (.if_icmp .ge 16, 3) := by decide +kernel
theorem dX5_joinClans_10 : decode cX5_joinClans 10 = .ok (.aload_n 0, 1) := by decide +kernel
theorem dX5_joinClans_11 : decode cX5_joinClans 11 = .ok (.getfield 27, 3) := by decide +kernel
theorem dX5_joinClans_14 : decode cX5_joinClans 14 = .ok (.iload_n 2, 1) := by decide +kernel
theorem dX5_joinClans_15 : decode cX5_joinClans 15 = .ok (.iload_n 2, 1) := by decide +kernel
theorem dX5_joinClans_16 : decode cX5_joinClans 16 = .ok (.iastore, 1) := by decide +kernel
theorem dX5_joinClans_17 : decode cX5_joinClans 17 = .ok (.iinc 2 1, 3) := by decide +kernel
theorem dX5_joinClans_20 : decode cX5_joinClans 20 = .ok (.goto (-18), 3) := by decide +kernel
theorem dX5_joinClans_23 : decode cX5_joinClans 23 = .ok (.iconst 0, 1) := by decide +kernel
theorem dX5_joinClans_24 : decode cX5_joinClans 24 = .ok (.istore_n 2, 1) := by decide +kernel
theorem dX5_joinClans_25 : decode cX5_joinClans 25 = .ok (.iload_n 2, 1) := by decide +kernel
theorem dX5_joinClans_26 : decode cX5_joinClans 26 = .ok (.aload_n 0, 1) := by decide +kernel
theorem dX5_joinClans_27 : decode cX5_joinClans 27 = .ok (.getfield 30, 3) := by decide +kernel
theorem dX5_joinClans_30 : decode cX5_joinClans 30 = .ok (.if_icmp .ge 57, 3) := by decide +kernel
theorem dX5_joinClans_33 : decode cX5_joinClans 33 = .ok (.iconst 0, 1) := by decide +kernel
theorem dX5_joinClans_34 : decode cX5_joinClans 34 = .ok (.istore_n 3, 1) := by decide +kernel
theorem dX5_joinClans_35 : decode cX5_joinClans 35 = .ok (.iload_n 3, 1) := by decide +kernel
theorem dX5_joinClans_36 : decode cX5_joinClans 36 = .ok (.iload_n 2, 1) := by decide +kernel
theorem dX5_joinClans_37 : decode cX5_joinClans 37 = .ok (.if_icmp .ge 44, 3) := by decide +kernel
theorem dX5_joinClans_40 : decode cX5_joinClans 40 = .ok (.aload_n 0, 1) := by decide +kernel
theorem dX5_joinClans_41 : decode cX5_joinClans 41 = .ok (.iload_n 2, 1) := by decide +kernel
theorem dX5_joinClans_42 : decode cX5_joinClans 42 = .ok (.iload_n 3, 1) := by decide +kernel
theorem dX5_joinClans_43 : decode cX5_joinClans 43 = .ok (.invokevirtual 47, 3) := by decide +kernel
theorem dX5_joinClans_46 : decode cX5_joinClans 46 = .ok (.aload_n 0, 1) := by decide +kernel
theorem dX5_joinClans_47 : decode cX5_joinClans 47 = .ok (.iload_n 3, 1) := by decide +kernel
theorem dX5_joinClans_48 : decode cX5_joinClans 48 = .ok (.iload_n 2, 1) := by decide +kernel
theorem dX5_joinClans_49 : decode cX5_joinClans 49 = .ok (.invokevirtual 47, 3) := by decide +kernel
theorem dX5_joinClans_52 : decode cX5_joinClans 52 = .ok (.invokestatic 68, 3) := by decide +kernel
theorem dX5_joinClans_55 : decode cX5_joinClans 55 = .ok (.iload_n 1, 1) := by decide +kernel
theorem dX5_joinClans_56 : decode cX5_joinClans 56 = .ok (.if_icmp .gt 19, 3) := by decide +kernel
theorem dX5_joinClans_59 : decode cX5_joinClans 59 = .ok (.aload_n 0, 1) := by decide +kernel
theorem dX5_joinClans_60 : decode cX5_joinClans 60 = .ok (.aload_n 0, 1) := by decide +kernel
theorem dX5_joinClans_61 : decode cX5_joinClans 61 = .ok (.getfield 27, 3) := by decide +kernel
theorem dX5_joinClans_64 : decode cX5_joinClans 64 = .ok (.iload_n 2, 1) := by decide +kernel
theorem dX5_joinClans_65 : decode cX5_joinClans 65 = .ok (.iaload, 1) := by decide +kernel
theorem dX5_joinClans_66 : decode cX5_joinClans 66 = .ok (.aload_n 0, 1) := by decide +kernel
theorem dX5_joinClans_67 : decode cX5_joinClans 67 = .ok (.getfield 27, 3) := by decide +kernel
theorem dX5_joinClans_70 : decode cX5_joinClans 70 = .ok (.iload_n 3, 1) := by decide +kernel
theorem dX5_joinClans_71 : decode cX5_joinClans 71 = .ok (.iaload, 1) := by decide +kernel
theorem dX5_joinClans_72 : decode cX5_joinClans 72 = .ok (.invokevirtual 87, 3) := by decide +kernel
theorem dX5_joinClans_75 : decode cX5_joinClans 75 = .ok (.iinc 3 1, 3) := by decide +kernel
theorem dX5_joinClans_78 : decode cX5_joinClans 78 = .ok (.goto (-43), 3) := by decide +kernel
theorem dX5_joinClans_81 : decode cX5_joinClans 81 = .ok (.iinc 2 1, 3) := by decide +kernel
theorem dX5_joinClans_84 : decode cX5_joinClans 84 = .ok (.goto (-59), 3) := by decide +kernel
theorem dX5_joinClans_87 : decode cX5_joinClans 87 = .ok (.return_, 1) := by decide +kernel
theorem dX5_joinClan_0 : decode cX5_joinClan 0 = .ok (.iload_n 1, 1) := by decide +kernel
theorem dX5_joinClan_1 : decode cX5_joinClan 1 = .ok (.iload_n 2, 1) := by decide +kernel
theorem dX5_joinClan_2 : decode cX5_joinClan 2 = .ok (.invokestatic 68, 3) := by decide +kernel
theorem dX5_joinClan_5 : decode cX5_joinClan 5 = .ok (.istore_n 3, 1) := by decide +kernel
theorem dX5_joinClan_6 : decode cX5_joinClan 6 = .ok (.iconst 0, 1) := by decide +kernel
theorem dX5_joinClan_7 : decode cX5_joinClan 7 = .ok (.istore 4, 2) := by decide +kernel
theorem dX5_joinClan_9 : decode cX5_joinClan 9 = .ok (.iload 4, 2) := by decide +kernel
theorem dX5_joinClan_11 : decode cX5_joinClan 11 = .ok (.aload_n 0, 1) := by decide +kernel
theorem dX5_joinClan_12 : decode cX5_joinClan 12 = .ok (.getfield 30, 3) := by decide +kernel
theorem dX5_joinClan_15 : decode cX5_joinClan 15 = .ok (.if_icmp .ge 39, 3) := by decide +kernel
theorem dX5_joinClan_18 : decode cX5_joinClan 18 = .ok (.aload_n 0, 1) := by decide +kernel
theorem dX5_joinClan_19 : decode cX5_joinClan 19 = .ok (.getfield 27, 3) := by decide +kernel
theorem dX5_joinClan_22 : decode cX5_joinClan 22 = .ok (.iload 4, 2) := by decide +kernel
theorem dX5_joinClan_24 : decode cX5_joinClan 24 = .ok (.iaload, 1) := by decide +kernel
theorem dX5_joinClan_25 : decode cX5_joinClan 25 = .ok (.iload_n 1, 1) := by decide +kernel
theorem dX5_joinClan_26 : decode cX5_joinClan 26 = .ok (.if_icmp .eq 14, 3) := by decide +kernel
theorem dX5_joinClan_29 : decode cX5_joinClan 29 = .ok (.aload_n 0, 1) := by decide +kernel
theorem dX5_joinClan_30 : decode cX5_joinClan 30 = .ok (.getfield 27, 3) := by decide +kernel
theorem dX5_joinClan_33 : decode cX5_joinClan 33 = .ok (.iload 4, 2) := by decide +kernel
theorem dX5_joinClan_35 : decode cX5_joinClan 35 = .ok (.iaload, 1) := by decide +kernel
theorem dX5_joinClan_36 : decode cX5_joinClan 36 = .ok (.iload_n 2, 1) := by decide +kernel
theorem dX5_joinClan_37 : decode cX5_joinClan 37 = .ok (.if_icmp .ne 11, 3) := by decide +kernel
theorem dX5_joinClan_40 : decode cX5_joinClan 40 = .ok (.aload_n 0, 1) := by decide +kernel
theorem dX5_joinClan_41 : decode cX5_joinClan 41 = .ok (.getfield 27, 3) := by decide +kernel
theorem dX5_joinClan_44 : decode cX5_joinClan 44 = .ok (.iload 4, 2) := by decide +kernel
theorem dX5_joinClan_46 : decode cX5_joinClan 46 = .ok (.iload_n 3, 1) := by decide +kernel
theorem dX5_joinClan_47 : decode cX5_joinClan 47 = .ok (.iastore, 1) := by decide +kernel
theorem dX5_joinClan_48 : decode cX5_joinClan 48 = .ok (.iinc 4 1, 3) := by decide +kernel
theorem dX5_joinClan_51 : decode cX5_joinClan 51 = .ok (.goto (-42), 3) := by decide +kernel
theorem dX5_joinClan_54 : decode cX5_joinClan 54 = .ok (.return_, 1) := by decide +kernel
theorem dX5_clanCount_0 : decode cX5_clanCount 0 = .ok (.iconst 0, 1) := by decide +kernel
theorem dX5_clanCount_1 : decode cX5_clanCount 1 = .ok (.istore_n 1, 1) := by decide +kernel
theorem dX5_clanCount_2 : decode cX5_clanCount 2 = .ok (.iconst 0, 1) := by decide +kernel
theorem dX5_clanCount_3 : decode cX5_clanCount 3 = .ok (.istore_n 2, 1) := by decide +kernel
theorem dX5_clanCount_4 : decode cX5_clanCount 4 = .ok (.iload_n 2, 1) := by decide +kernel
theorem dX5_clanCount_5 : decode cX5_clanCount 5 = .ok (.aload_n 0, 1) := by decide +kernel
theorem dX5_clanCount_6 : decode cX5_clanCount 6 = .ok (.getfield 30, 3) := by decide +kernel
theorem dX5_clanCount_9 : decode cX5_clanCount 9 = .ok (.if_icmp .ge 27, 3) := by decide +kernel
theorem dX5_clanCount_12 : decode cX5_clanCount 12 = .ok (.iload_n 1, 1) := by decide +kernel
theorem dX5_clanCount_13 : decode cX5_clanCount 13 = .ok (.aload_n 0, 1) := by decide +kernel
theorem dX5_clanCount_14 : decode cX5_clanCount 14 = .ok (.getfield 27, 3) := by decide +kernel
theorem dX5_clanCount_17 : decode cX5_clanCount 17 = .ok (.iload_n 2, 1) := by decide +kernel
theorem dX5_clanCount_18 : decode cX5_clanCount 18 = .ok (.iaload, 1) := by decide +kernel
theorem dX5_clanCount_19 : decode cX5_clanCount 19 = .ok (.iload_n 2, 1) := by decide +kernel
theorem dX5_clanCount_20 : decode cX5_clanCount 20 = .ok (.if_icmp .ne 7, 3) := by decide +kernel
theorem dX5_clanCount_23 : decode cX5_clanCount 23 = .ok (.iconst 1, 1) := by decide +kernel
theorem dX5_clanCount_24 : decode cX5_clanCount 24 = .ok (.goto 4, 3) := by decide +kernel
theorem dX5_clanCount_27 : decode cX5_clanCount 27 = .ok (.iconst 0, 1) := by decide +kernel
theorem dX5_clanCount_28 : decode cX5_clanCount 28 = .ok (.iadd, 1) := by decide +kernel
theorem dX5_clanCount_29 : decode cX5_clanCount 29 = .ok (.istore_n 1, 1) := by decide +kernel
theorem dX5_clanCount_30 : decode cX5_clanCount 30 = .ok (.iinc 2 1, 3) := by decide +kernel
theorem dX5_clanCount_33 : decode cX5_clanCount 33 = .ok (.goto (-29), 3) := by decide +kernel
theorem dX5_clanCount_36 : decode cX5_clanCount 36 = .ok (.iload_n 1, 1) := by decide +kernel
theorem dX5_clanCount_37 : decode cX5_clanCount 37 = .ok (.ireturn, 1) := by decide +kernel
theorem dX5_largestClan_0 : decode cX5_largestClan 0 = .ok (.iconst 0, 1) := by decide +kernel
theorem dX5_largestClan_1 : decode cX5_largestClan 1 = .ok (.istore_n 1, 1) := by decide +kernel
theorem dX5_largestClan_2 : decode cX5_largestClan 2 = .ok (.iconst 0, 1) := by decide +kernel
theorem dX5_largestClan_3 : decode cX5_largestClan 3 = .ok (.istore_n 2, 1) := by decide +kernel
theorem dX5_largestClan_4 : decode cX5_largestClan 4 = .ok (.iload_n 2, 1) := by decide +kernel
theorem dX5_largestClan_5 : decode cX5_largestClan 5 = .ok (.aload_n 0, 1) := by decide +kernel
theorem dX5_largestClan_6 : decode cX5_largestClan 6 = .ok (.getfield 30, 3) := by decide +kernel
theorem dX5_largestClan_9 : decode cX5_largestClan 9 = .ok (.if_icmp .ge 54, 3) := by decide +kernel
theorem dX5_largestClan_12 : decode cX5_largestClan 12 = .ok (.iconst 0, 1) := by decide +kernel
theorem dX5_largestClan_13 : decode cX5_largestClan 13 = .ok (.istore_n 3, 1) := by decide +kernel
theorem dX5_largestClan_14 : decode cX5_largestClan 14 = .ok (.iconst 0, 1) := by decide +kernel
theorem dX5_largestClan_15 : decode cX5_largestClan 15 = .ok (.istore 4, 2) := by decide +kernel
theorem dX5_largestClan_17 : decode cX5_largestClan 17 = .ok (.iload 4, 2) := by decide +kernel
theorem dX5_largestClan_19 : decode cX5_largestClan 19 = .ok (.aload_n 0, 1) := by decide +kernel
theorem dX5_largestClan_20 : decode cX5_largestClan 20 = .ok (.getfield 30, 3) := by decide +kernel
theorem dX5_largestClan_23 : decode cX5_largestClan 23 = .ok (.if_icmp .ge 28, 3) := by decide +kernel
theorem dX5_largestClan_26 : decode cX5_largestClan 26 = .ok (.iload_n 3, 1) := by decide +kernel
theorem dX5_largestClan_27 : decode cX5_largestClan 27 = .ok (.aload_n 0, 1) := by decide +kernel
theorem dX5_largestClan_28 : decode cX5_largestClan 28 = .ok (.getfield 27, 3) := by decide +kernel
theorem dX5_largestClan_31 : decode cX5_largestClan 31 = .ok (.iload 4, 2) := by decide +kernel
theorem dX5_largestClan_33 : decode cX5_largestClan 33 = .ok (.iaload, 1) := by decide +kernel
theorem dX5_largestClan_34 : decode cX5_largestClan 34 = .ok (.iload_n 2, 1) := by decide +kernel
theorem dX5_largestClan_35 : decode cX5_largestClan 35 = .ok (.if_icmp .ne 7, 3) := by decide +kernel
theorem dX5_largestClan_38 : decode cX5_largestClan 38 = .ok (.iconst 1, 1) := by decide +kernel
theorem dX5_largestClan_39 : decode cX5_largestClan 39 = .ok (.goto 4, 3) := by decide +kernel
theorem dX5_largestClan_42 : decode cX5_largestClan 42 = .ok (.iconst 0, 1) := by decide +kernel
theorem dX5_largestClan_43 : decode cX5_largestClan 43 = .ok (.iadd, 1) := by decide +kernel
theorem dX5_largestClan_44 : decode cX5_largestClan 44 = .ok (.istore_n 3, 1) := by decide +kernel
theorem dX5_largestClan_45 : decode cX5_largestClan 45 = .ok (.iinc 4 1, 3) := by decide +kernel
theorem dX5_largestClan_48 : decode cX5_largestClan 48 = .ok (.goto (-31), 3) := by decide +kernel
theorem dX5_largestClan_51 : decode cX5_largestClan 51 = .ok (.iload_n 1, 1) := by decide +kernel
theorem dX5_largestClan_52 : decode cX5_largestClan 52 = .ok (.iload_n 3, 1) := by decide +kernel
theorem dX5_largestClan_53 : decode cX5_largestClan 53 = .ok (.invokestatic 90, 3) := by decide +kernel
theorem dX5_largestClan_56 : decode cX5_largestClan 56 = .ok (.istore_n 1, 1) := by decide +kernel
theorem dX5_largestClan_57 : decode cX5_largestClan 57 = .ok (.iinc 2 1, 3) := by decide +kernel
theorem dX5_largestClan_60 : decode cX5_largestClan 60 = .ok (.goto (-56), 3) := by decide +kernel
theorem dX5_largestClan_63 : decode cX5_largestClan 63 = .ok (.iload_n 1, 1) := by decide +kernel
theorem dX5_largestClan_64 : decode cX5_largestClan 64 = .ok (.ireturn, 1) := by decide +kernel
theorem dX6_init_0 : decode cX6_init 0 = .ok (.aload_n 0, 1) := by decide +kernel
theorem dX6_init_1 : decode cX6_init 1 = .ok (.invokespecial 3, 3) := by decide +kernel
theorem dX6_init_4 : decode cX6_init 4 = .ok (.aload_n 0, 1) := by decide +kernel
theorem dX6_init_5 : decode cX6_init 5 = .ok (.aload_n 1, 1) := by decide +kernel
theorem dX6_init_6 : decode cX6_init 6 = .ok (.putfield 9, 3) := by decide +kernel
theorem dX6_init_9 : decode cX6_init 9 = .ok (.aload_n 0, 1) := by decide +kernel
theorem dX6_init_10 : decode cX6_init 10 = .ok (.aload_n 2, 1) := by decide +kernel
theorem dX6_init_11 : decode cX6_init 11 = .ok (.putfield 15, 3) := by decide +kernel
theorem dX6_init_14 : decode cX6_init 14 = .ok (.return_, 1) := by decide +kernel
theorem dX6_read_0 : decode cX6_read 0 = .ok (.aload_n 0, 1) := by decide +kernel
theorem dX6_read_1 : decode cX6_read 1 = .ok (.aload_n 1, 1) := by decide +kernel
theorem dX6_read_2 : decode cX6_read 2 = .ok (.putfield 15, 3) := by decide +kernel
theorem dX6_read_5 : decode cX6_read 5 = .ok (.aload_n 0, 1) := by decide +kernel
theorem dX6_read_6 : decode cX6_read 6 = .ok (.getfield 15, 3) := by decide +kernel
theorem dX6_read_9 : decode cX6_read 9 = .ok (.invokevirtual 19, 3) := by decide +kernel
theorem dX6_read_12 : decode cX6_read 12 = .ok (.aload_n 0, 1) := by decide +kernel
theorem dX6_read_13 : decode cX6_read 13 = .ok (.iconst 0, 1) := by decide +kernel
theorem dX6_read_14 : decode cX6_read 14 = .ok (.putfield 24, 3) := by decide +kernel
theorem dX6_read_17 : decode cX6_read 17 = .ok (.aload_n 0, 1) := by decide +kernel
theorem dX6_read_18 : decode cX6_read 18 = .ok (.iconst (-1), 1) := by decide +kernel
theorem dX6_read_19 : decode cX6_read 19 = .ok (.putfield 28, 3) := by decide +kernel
theorem dX6_read_22 : decode cX6_read 22 = .ok (.aload_n 0, 1) := by decide +kernel
theorem dX6_read_23 : decode cX6_read 23 = .ok (.iconst 0, 1) := by decide +kernel
theorem dX6_read_24 : decode cX6_read 24 = .ok (.putfield 31, 3) := by decide +kernel
theorem dX6_read_27 : decode cX6_read 27 = .ok (.aload_n 0, 1) := by decide +kernel
theorem dX6_read_28 : decode cX6_read 28 = .ok (.iconst (-1), 1) := by decide +kernel
theorem dX6_read_29 : decode cX6_read 29 = .ok (.putfield 34, 3) := by decide +kernel
theorem dX6_read_32 : decode cX6_read 32 = .ok (.aload_n 0, 1) := by decide +kernel
theorem dX6_read_33 : decode cX6_read 33 = .ok (.invokevirtual 37, 3) := by decide +kernel
theorem dX6_read_36 : decode cX6_read 36 = .ok (.iconst 0, 1) := by decide +kernel
theorem dX6_read_37 : decode cX6_read 37 = .ok (.istore_n 2, 1) := by decide +kernel
theorem dX6_read_38 : decode cX6_read 38 = .ok (.iload_n 2, 1) := by decide +kernel
theorem dX6_read_39 : decode cX6_read 39 = .ok (.sipush 1600, 3) := by decide +kernel
theorem dX6_read_42 : decode cX6_read 42 = .ok (.if_icmp .ge 29, 3) := by decide +kernel
theorem dX6_read_45 : decode cX6_read 45 = .ok (.aload_n 0, 1) := by decide +kernel
theorem dX6_read_46 : decode cX6_read 46 = .ok (.getfield 24, 3) := by decide +kernel
theorem dX6_read_49 : decode cX6_read 49 = .ok (.ifCond .ne 22, 3) := by decide +kernel
theorem dX6_read_52 : decode cX6_read 52 = .ok (.aload_n 0, 1) := by decide +kernel
theorem dX6_read_53 : decode cX6_read 53 = .ok (.getfield 40, 3) := by decide +kernel
theorem dX6_read_56 : decode cX6_read 56 = .ok (.bipush 22, 2) := by decide +kernel
theorem dX6_read_58 : decode cX6_read 58 = .ok (.if_icmp .eq 13, 3) := by decide +kernel
theorem dX6_read_61 : decode cX6_read 61 = .ok (.aload_n 0, 1) := by decide +kernel
theorem dX6_read_62 : decode cX6_read 62 = .ok (.invokevirtual 43, 3) := by decide +kernel
theorem dX6_read_65 : decode cX6_read 65 = .ok (.iinc 2 1, 3) := by decide +kernel
theorem dX6_read_68 : decode cX6_read 68 = .ok (.goto (-30), 3) := by decide +kernel
theorem dX6_read_71 : decode cX6_read 71 = .ok (.aload_n 0, 1) := by decide +kernel
theorem dX6_read_72 : decode cX6_read 72 = .ok (.getfield 24, 3) := by decide +kernel
theorem dX6_read_75 : decode cX6_read 75 = .ok (.ireturn, 1) := by decide +kernel
theorem dX6_readLine_0 : decode cX6_readLine 0 = .ok (.aload_n 0, 1) := by decide +kernel
theorem dX6_readLine_1 : decode cX6_readLine 1 = .ok (.getfield 40, 3) := by decide +kernel
theorem dX6_readLine_4 : decode cX6_readLine 4 = .ok (.istore_n 1, 1) := by decide +kernel
theorem dX6_readLine_5 : decode cX6_readLine 5 = .ok (.aload_n 0, 1) := by decide +kernel
theorem dX6_readLine_6 : decode cX6_readLine 6 = .ok (.iload_n 1, 1) := by decide +kernel
theorem dX6_readLine_7 : decode cX6_readLine 7 = .ok (.invokevirtual 46, 3) := by decide +kernel
theorem dX6_readLine_10 : decode cX6_readLine 10 = .ok (.ifCond .ne 9, 3) := by decide +kernel
theorem dX6_readLine_13 : decode cX6_readLine 13 = .ok (.aload_n 0, 1) := by decide +kernel
theorem dX6_readLine_14 : decode cX6_readLine 14 = .ok (.iconst 2, 1) := by decide +kernel
theorem dX6_readLine_15 : decode cX6_readLine 15 = .ok (.invokevirtual 50, 3) := by decide +kernel
theorem dX6_readLine_18 : decode cX6_readLine 18 = .ok (.return_, 1) := by decide +kernel
theorem dX6_readLine_19 : decode cX6_readLine 19 = .ok (.aload_n 0, 1) := by decide +kernel
theorem dX6_readLine_20 : decode cX6_readLine 20 = .ok (.dup, 1) := by decide +kernel
theorem dX6_readLine_21 : decode cX6_readLine 21 = .ok (.getfield 31, 3) := by decide +kernel
theorem dX6_readLine_24 : decode cX6_readLine 24 = .ok (.iconst 1, 1) := by decide +kernel
theorem dX6_readLine_25 : decode cX6_readLine 25 = .ok (.iload_n 1, 1) := by decide +kernel
theorem dX6_readLine_26 : decode cX6_readLine 26 = .ok (.ishl, 1) := by decide +kernel
theorem dX6_readLine_27 : decode cX6_readLine 27 = .ok (.ior, 1) := by decide +kernel
theorem dX6_readLine_28 : decode cX6_readLine 28 = .ok (.putfield 31, 3) := by decide +kernel
theorem dX6_readLine_31 : decode cX6_readLine 31 = .ok (.aload_n 0, 1) := by decide +kernel
theorem dX6_readLine_32 : decode cX6_readLine 32 = .ok (.invokevirtual 37, 3) := by decide +kernel
theorem dX6_readLine_35 : decode cX6_readLine 35 = .ok (.iload_n 1, 1) := by decide +kernel
theorem dX6_readLine_36 : decode cX6_readLine 36 = .ok (.tableswitch 89 8 13 #[40, 57, 64, 89, 89, 71], 40) := by decide +kernel
theorem dX6_readLine_76 : decode cX6_readLine 76 = .ok (.aload_n 0, 1) := by decide +kernel
theorem dX6_readLine_77 : decode cX6_readLine 77 = .ok (.getfield 15, 3) := by decide +kernel
theorem dX6_readLine_80 : decode cX6_readLine 80 = .ok (.aload_n 0, 1) := by decide +kernel
theorem dX6_readLine_81 : decode cX6_readLine 81 = .ok (.iconst 1, 1) := by decide +kernel
theorem dX6_readLine_82 : decode cX6_readLine 82 = .ok (.bipush 12, 2) := by decide +kernel
theorem dX6_readLine_84 : decode cX6_readLine 84 = .ok (.invokevirtual 54, 3) := by decide +kernel
theorem dX6_readLine_87 : decode cX6_readLine 87 = .ok (.putfield 58, 3) := by decide +kernel
theorem dX6_readLine_90 : decode cX6_readLine 90 = .ok (.goto 50, 3) := by decide +kernel
theorem dX6_readLine_93 : decode cX6_readLine 93 = .ok (.aload_n 0, 1) := by decide +kernel
theorem dX6_readLine_94 : decode cX6_readLine 94 = .ok (.invokevirtual 61, 3) := by decide +kernel
theorem dX6_readLine_97 : decode cX6_readLine 97 = .ok (.goto 43, 3) := by decide +kernel
theorem dX6_readLine_100 : decode cX6_readLine 100 = .ok (.aload_n 0, 1) := by decide +kernel
theorem dX6_readLine_101 : decode cX6_readLine 101 = .ok (.invokevirtual 64, 3) := by decide +kernel
theorem dX6_readLine_104 : decode cX6_readLine 104 = .ok (.goto 36, 3) := by decide +kernel
theorem dX6_readLine_107 : decode cX6_readLine 107 = .ok (.aload_n 0, 1) := by decide +kernel
theorem dX6_readLine_108 : decode cX6_readLine 108 = .ok (.getfield 15, 3) := by decide +kernel
theorem dX6_readLine_111 : decode cX6_readLine 111 = .ok (.aload_n 0, 1) := by decide +kernel
theorem dX6_readLine_112 : decode cX6_readLine 112 = .ok (.iconst 0, 1) := by decide +kernel
theorem dX6_readLine_113 : decode cX6_readLine 113 = .ok (.sipush 999, 3) := by decide +kernel
theorem dX6_readLine_116 : decode cX6_readLine 116 = .ok (.invokevirtual 54, 3) := by decide +kernel
theorem dX6_readLine_119 : decode cX6_readLine 119 = .ok (.putfield 67, 3) := by decide +kernel
theorem dX6_readLine_122 : decode cX6_readLine 122 = .ok (.goto 18, 3) := by decide +kernel
theorem dX6_readLine_125 : decode cX6_readLine 125 = .ok (.aload_n 0, 1) := by decide +kernel
theorem dX6_readLine_126 : decode cX6_readLine 126 = .ok (.getfield 15, 3) := by decide +kernel
theorem dX6_readLine_129 : decode cX6_readLine 129 = .ok (.aload_n 0, 1) := by decide +kernel
theorem dX6_readLine_130 : decode cX6_readLine 130 = .ok (.iconst 0, 1) := by decide +kernel
theorem dX6_readLine_131 : decode cX6_readLine 131 = .ok (.sipush 999, 3) := by decide +kernel
theorem dX6_readLine_134 : decode cX6_readLine 134 = .ok (.invokevirtual 54, 3) := by decide +kernel
theorem dX6_readLine_137 : decode cX6_readLine 137 = .ok (.putfield 70, 3) := by decide +kernel
theorem dX6_readLine_140 : decode cX6_readLine 140 = .ok (.aload_n 0, 1) := by decide +kernel
theorem dX6_readLine_141 : decode cX6_readLine 141 = .ok (.bipush 59, 2) := by decide +kernel
theorem dX6_readLine_143 : decode cX6_readLine 143 = .ok (.invokevirtual 73, 3) := by decide +kernel
theorem dX6_readLine_146 : decode cX6_readLine 146 = .ok (.return_, 1) := by decide +kernel
theorem dX6_mayBegin_0 : decode cX6_mayBegin 0 = .ok (.iload_n 1, 1) := by decide +kernel
theorem dX6_mayBegin_1 : decode cX6_mayBegin 1 = .ok (.tableswitch 90 7 13 #[73, 43, 73, 56, 90, 90, 73], 43) := by decide +kernel
theorem dX6_mayBegin_44 : decode cX6_mayBegin 44 = .ok (.aload_n 0, 1) := by decide +kernel
theorem dX6_mayBegin_45 : decode cX6_mayBegin 45 = .ok (.getfield 31, 3) := by decide +kernel
theorem dX6_mayBegin_48 : decode cX6_mayBegin 48 = .ok (.ifCond .ne 7, 3) := by decide +kernel
theorem dX6_mayBegin_51 : decode cX6_mayBegin 51 = .ok (.iconst 1, 1) := by decide +kernel
theorem dX6_mayBegin_52 : decode cX6_mayBegin 52 = .ok (.goto 4, 3) := by decide +kernel
theorem dX6_mayBegin_55 : decode cX6_mayBegin 55 = .ok (.iconst 0, 1) := by decide +kernel
theorem dX6_mayBegin_56 : decode cX6_mayBegin 56 = .ok (.ireturn, 1) := by decide +kernel
theorem dX6_mayBegin_57 : decode cX6_mayBegin 57 = .ok (.aload_n 0, 1) := by decide +kernel
theorem dX6_mayBegin_58 : decode cX6_mayBegin 58 = .ok (.getfield 15, 3) := by decide +kernel
theorem dX6_mayBegin_61 : decode cX6_mayBegin 61 = .ok (.getfield 76, 3) := by decide +kernel
theorem dX6_mayBegin_64 : decode cX6_mayBegin 64 = .ok (.iconst 4, 1) := by decide +kernel
theorem dX6_mayBegin_65 : decode cX6_mayBegin 65 = .ok (.if_icmp .ge 7, 3) := by decide +kernel
theorem dX6_mayBegin_68 : decode cX6_mayBegin 68 = .ok (.iconst 1, 1) := by decide +kernel
theorem dX6_mayBegin_69 : decode cX6_mayBegin 69 = .ok (.goto 4, 3) := by decide +kernel
theorem dX6_mayBegin_72 : decode cX6_mayBegin 72 = .ok (.iconst 0, 1) := by decide +kernel
theorem dX6_mayBegin_73 : decode cX6_mayBegin 73 = .ok (.ireturn, 1) := by decide +kernel
theorem dX6_mayBegin_74 : decode cX6_mayBegin 74 = .ok (.aload_n 0, 1) := by decide +kernel
theorem dX6_mayBegin_75 : decode cX6_mayBegin 75 = .ok (.getfield 31, 3) := by decide +kernel
theorem dX6_mayBegin_78 : decode cX6_mayBegin 78 = .ok (.iload_n 1, 1) := by decide +kernel
theorem dX6_mayBegin_79 : decode cX6_mayBegin 79 = .ok (.ishr, 1) := by decide +kernel
theorem dX6_mayBegin_80 : decode cX6_mayBegin 80 = .ok (.iconst 1, 1) := by decide +kernel
theorem dX6_mayBegin_81 : decode cX6_mayBegin 81 = .ok (.iand, 1) := by decide +kernel
theorem dX6_mayBegin_82 : decode cX6_mayBegin 82 = .ok (.ifCond .ne 7, 3) := by decide +kernel
theorem dX6_mayBegin_85 : decode cX6_mayBegin 85 = .ok (.iconst 1, 1) := by decide +kernel
theorem dX6_mayBegin_86 : decode cX6_mayBegin 86 = .ok (.goto 4, 3) := by decide +kernel
theorem dX6_mayBegin_89 : decode cX6_mayBegin 89 = .ok (.iconst 0, 1) := by decide +kernel
theorem dX6_mayBegin_90 : decode cX6_mayBegin 90 = .ok (.ireturn, 1) := by decide +kernel
theorem dX6_mayBegin_91 : decode cX6_mayBegin 91 = .ok (.iconst 0, 1) := by decide +kernel
theorem dX6_mayBegin_92 : decode cX6_mayBegin 92 = .ok (.ireturn, 1) := by decide +kernel
theorem dX6_readNumber_0 : decode cX6_readNumber 0 = .ok (.aload_n 0, 1) := by decide +kernel
theorem dX6_readNumber_1 : decode cX6_readNumber 1 = .ok (.getfield 79, 3) := by decide +kernel
theorem dX6_readNumber_4 : decode cX6_readNumber 4 = .ok (.l2i, 1) := by decide +kernel
theorem dX6_readNumber_5 : decode cX6_readNumber 5 = .ok (.istore_n 3, 1) := by decide +kernel
theorem dX6_readNumber_6 : decode cX6_readNumber 6 = .ok (.aload_n 0, 1) := by decide +kernel
theorem dX6_readNumber_7 : decode cX6_readNumber 7 = .ok (.getfield 40, 3) := by decide +kernel
theorem dX6_readNumber_10 : decode cX6_readNumber 10 = .ok (.bipush 21, 2) := by decide +kernel
theorem dX6_readNumber_12 : decode cX6_readNumber 12 = .ok (.if_icmp .eq 11, 3) := by decide +kernel
theorem dX6_readNumber_15 : decode cX6_readNumber 15 = .ok (.aload_n 0, 1) := by decide +kernel
theorem dX6_readNumber_16 : decode cX6_readNumber 16 = .ok (.iconst 2, 1) := by decide +kernel
theorem dX6_readNumber_17 : decode cX6_readNumber 17 = .ok (.invokevirtual 50, 3) := by decide +kernel
theorem dX6_readNumber_20 : decode cX6_readNumber 20 = .ok (.goto 18, 3) := by decide +kernel
theorem dX6_readNumber_23 : decode cX6_readNumber 23 = .ok (.iload_n 3, 1) := by decide +kernel
theorem dX6_readNumber_24 : decode cX6_readNumber 24 = .ok (.iload_n 1, 1) := by decide +kernel
theorem dX6_readNumber_25 : decode cX6_readNumber 25 = .ok (.if_icmp .lt 8, 3) := by decide +kernel
theorem dX6_readNumber_28 : decode cX6_readNumber 28 = .ok (.iload_n 3, 1) := by decide +kernel
theorem dX6_readNumber_29 : decode cX6_readNumber 29 = .ok (.iload_n 2, 1) := by decide +kernel
theorem dX6_readNumber_30 : decode cX6_readNumber 30 = .ok (.if_icmp .le 8, 3) := by decide +kernel
theorem dX6_readNumber_33 : decode cX6_readNumber 33 = .ok (.aload_n 0, 1) := by decide +kernel
theorem dX6_readNumber_34 : decode cX6_readNumber 34 = .ok (.iconst 4, 1) := by decide +kernel
theorem dX6_readNumber_35 : decode cX6_readNumber 35 = .ok (.invokevirtual 50, 3) := by decide +kernel
theorem dX6_readNumber_38 : decode cX6_readNumber 38 = .ok (.aload_n 0, 1) := by decide +kernel
theorem dX6_readNumber_39 : decode cX6_readNumber 39 = .ok (.getfield 24, 3) := by decide +kernel
theorem dX6_readNumber_42 : decode cX6_readNumber 42 = .ok (.ifCond .eq 5, 3) := by decide +kernel
theorem dX6_readNumber_45 : decode cX6_readNumber 45 = .ok (.iload_n 1, 1) := by decide +kernel
theorem dX6_readNumber_46 : decode cX6_readNumber 46 = .ok (.ireturn, 1) := by decide +kernel
theorem dX6_readNumber_47 : decode cX6_readNumber 47 = .ok (.aload_n 0, 1) := by decide +kernel
theorem dX6_readNumber_48 : decode cX6_readNumber 48 = .ok (.invokevirtual 37, 3) := by decide +kernel
theorem dX6_readNumber_51 : decode cX6_readNumber 51 = .ok (.iload_n 3, 1) := by decide +kernel
theorem dX6_readNumber_52 : decode cX6_readNumber 52 = .ok (.ireturn, 1) := by decide +kernel
theorem dX6_readFirst_0 : decode cX6_readFirst 0 = .ok (.iconst 0, 1) := by decide +kernel
theorem dX6_readFirst_1 : decode cX6_readFirst 1 = .ok (.istore_n 1, 1) := by decide +kernel
theorem dX6_readFirst_2 : decode cX6_readFirst 2 = .ok (.iload_n 1, 1) := by decide +kernel
theorem dX6_readFirst_3 : decode cX6_readFirst 3 = .ok (.bipush 12, 2) := by decide +kernel
theorem dX6_readFirst_5 : decode cX6_readFirst 5 = .ok (.if_icmp .gt 103, 3) := by decide +kernel
theorem dX6_readFirst_8 : decode cX6_readFirst 8 = .ok (.aload_n 0, 1) := by decide +kernel
theorem dX6_readFirst_9 : decode cX6_readFirst 9 = .ok (.getfield 24, 3) := by decide +kernel
theorem dX6_readFirst_12 : decode cX6_readFirst 12 = .ok (.ifCond .ne 96, 3) := by decide +kernel
theorem dX6_readFirst_15 : decode cX6_readFirst 15 = .ok (.iload_n 1, 1) := by decide +kernel
theorem dX6_readFirst_16 : decode cX6_readFirst 16 = .ok (.ifCond .eq 12, 3) := by decide +kernel
theorem dX6_readFirst_19 : decode cX6_readFirst 19 = .ok (.aload_n 0, 1) := by decide +kernel
theorem dX6_readFirst_20 : decode cX6_readFirst 20 = .ok (.getfield 40, 3) := by decide +kernel
theorem dX6_readFirst_23 : decode cX6_readFirst 23 = .ok (.bipush 21, 2) := by decide +kernel
theorem dX6_readFirst_25 : decode cX6_readFirst 25 = .ok (.if_icmp .ne 83, 3) := by decide +kernel
theorem dX6_readFirst_28 : decode cX6_readFirst 28 = .ok (.aload_n 0, 1) := by decide +kernel
theorem dX6_readFirst_29 : decode cX6_readFirst 29 = .ok (.getfield 79, 3) := by decide +kernel
theorem dX6_readFirst_32 : decode cX6_readFirst 32 = .ok (.l2i, 1) := by decide +kernel
theorem dX6_readFirst_33 : decode cX6_readFirst 33 = .ok (.istore_n 2, 1) := by decide +kernel
theorem dX6_readFirst_34 : decode cX6_readFirst 34 = .ok (.aload_n 0, 1) := by decide +kernel
theorem dX6_readFirst_35 : decode cX6_readFirst 35 = .ok (.getfield 40, 3) := by decide +kernel
theorem dX6_readFirst_38 : decode cX6_readFirst 38 = .ok (.bipush 21, 2) := by decide +kernel
theorem dX6_readFirst_40 : decode cX6_readFirst 40 = .ok (.if_icmp .ne 34, 3) := by decide +kernel
theorem dX6_readFirst_43 : decode cX6_readFirst 43 = .ok (.iload_n 2, 1) := by decide +kernel
theorem dX6_readFirst_44 : decode cX6_readFirst 44 = .ok (.aload_n 0, 1) := by decide +kernel
theorem dX6_readFirst_45 : decode cX6_readFirst 45 = .ok (.getfield 15, 3) := by decide +kernel
theorem dX6_readFirst_48 : decode cX6_readFirst 48 = .ok (.getfield 58, 3) := by decide +kernel
theorem dX6_readFirst_51 : decode cX6_readFirst 51 = .ok (.if_icmp .ge 23, 3) := by decide +kernel
theorem dX6_readFirst_54 : decode cX6_readFirst 54 = .ok (.aload_n 0, 1) := by decide +kernel
theorem dX6_readFirst_55 : decode cX6_readFirst 55 = .ok (.getfield 15, 3) := by decide +kernel
theorem dX6_readFirst_58 : decode cX6_readFirst 58 = .ok (.getfield 83, 3) := by decide +kernel
theorem dX6_readFirst_61 : decode cX6_readFirst 61 = .ok (.iload_n 2, 1) := by decide +kernel
theorem dX6_readFirst_62 : decode cX6_readFirst 62 = .ok (.ishr, 1) := by decide +kernel
theorem dX6_readFirst_63 : decode cX6_readFirst 63 = .ok (.iconst 1, 1) := by decide +kernel
theorem dX6_readFirst_64 : decode cX6_readFirst 64 = .ok (.iand, 1) := by decide +kernel
theorem dX6_readFirst_65 : decode cX6_readFirst 65 = .ok (.ifCond .eq 9, 3) := by decide +kernel
theorem dX6_readFirst_68 : decode cX6_readFirst 68 = .ok (.aload_n 0, 1) := by decide +kernel
theorem dX6_readFirst_69 : decode cX6_readFirst 69 = .ok (.iconst 3, 1) := by decide +kernel
theorem dX6_readFirst_70 : decode cX6_readFirst 70 = .ok (.invokevirtual 50, 3) := by decide +kernel
theorem dX6_readFirst_73 : decode cX6_readFirst 73 = .ok (.return_, 1) := by decide +kernel
theorem dX6_readFirst_74 : decode cX6_readFirst 74 = .ok (.aload_n 0, 1) := by decide +kernel
theorem dX6_readFirst_75 : decode cX6_readFirst 75 = .ok (.getfield 15, 3) := by decide +kernel
theorem dX6_readFirst_78 : decode cX6_readFirst 78 = .ok (.dup, 1) := by decide +kernel
theorem dX6_readFirst_79 : decode cX6_readFirst 79 = .ok (.getfield 83, 3) := by decide +kernel
theorem dX6_readFirst_82 : decode cX6_readFirst 82 = .ok (.iconst 1, 1) := by decide +kernel
theorem dX6_readFirst_83 : decode cX6_readFirst 83 = .ok (.aload_n 0, 1) := by decide +kernel
theorem dX6_readFirst_84 : decode cX6_readFirst 84 = .ok (.iconst 0, 1) := by decide +kernel
theorem dX6_readFirst_85 : decode cX6_readFirst 85 = .ok (.aload_n 0, 1) := by decide +kernel
theorem dX6_readFirst_86 : decode cX6_readFirst 86 = .ok (.getfield 15, 3) := by decide +kernel
theorem dX6_readFirst_89 : decode cX6_readFirst 89 = .ok (.getfield 58, 3) := by decide +kernel
theorem dX6_readFirst_92 : decode cX6_readFirst 92 = .ok (.iconst 1, 1) := by decide +kernel
theorem dX6_readFirst_93 : decode cX6_readFirst 93 = .ok (.isub, 1) := by decide +kernel
theorem dX6_readFirst_94 : decode cX6_readFirst 94 = .ok (.invokevirtual 54, 3) := by decide +kernel
theorem dX6_readFirst_97 : decode cX6_readFirst 97 = .ok (.ishl, 1) := by decide +kernel
theorem dX6_readFirst_98 : decode cX6_readFirst 98 = .ok (.ior, 1) := by decide +kernel
theorem dX6_readFirst_99 : decode cX6_readFirst 99 = .ok (.putfield 83, 3) := by decide +kernel
theorem dX6_readFirst_102 : decode cX6_readFirst 102 = .ok (.iinc 1 1, 3) := by decide +kernel
theorem dX6_readFirst_105 : decode cX6_readFirst 105 = .ok (.goto (-103), 3) := by decide +kernel
theorem dX6_readFirst_108 : decode cX6_readFirst 108 = .ok (.return_, 1) := by decide +kernel
theorem dX6_readHand_0 : decode cX6_readHand 0 = .ok (.aload_n 0, 1) := by decide +kernel
theorem dX6_readHand_1 : decode cX6_readHand 1 = .ok (.getfield 40, 3) := by decide +kernel
theorem dX6_readHand_4 : decode cX6_readHand 4 = .ok (.bipush 20, 2) := by decide +kernel
theorem dX6_readHand_6 : decode cX6_readHand 6 = .ok (.if_icmp .eq 9, 3) := by decide +kernel
theorem dX6_readHand_9 : decode cX6_readHand 9 = .ok (.aload_n 0, 1) := by decide +kernel
theorem dX6_readHand_10 : decode cX6_readHand 10 = .ok (.iconst 2, 1) := by decide +kernel
theorem dX6_readHand_11 : decode cX6_readHand 11 = .ok (.invokevirtual 50, 3) := by decide +kernel
theorem dX6_readHand_14 : decode cX6_readHand 14 = .ok (.return_, 1) := by decide +kernel
theorem dX6_readHand_15 : decode cX6_readHand 15 = .ok (.aload_n 0, 1) := by decide +kernel
theorem dX6_readHand_16 : decode cX6_readHand 16 = .ok (.getfield 15, 3) := by decide +kernel
theorem dX6_readHand_19 : decode cX6_readHand 19 = .ok (.aload_n 0, 1) := by decide +kernel
theorem dX6_readHand_20 : decode cX6_readHand 20 = .ok (.getfield 79, 3) := by decide +kernel
theorem dX6_readHand_23 : decode cX6_readHand 23 = .ok (.invokevirtual 86, 3) := by decide +kernel
theorem dX6_readHand_26 : decode cX6_readHand 26 = .ok (.ifCond .eq 9, 3) := by decide +kernel
theorem dX6_readHand_29 : decode cX6_readHand 29 = .ok (.aload_n 0, 1) := by decide +kernel
theorem dX6_readHand_30 : decode cX6_readHand 30 = .ok (.iconst 3, 1) := by decide +kernel
theorem dX6_readHand_31 : decode cX6_readHand 31 = .ok (.invokevirtual 50, 3) := by decide +kernel
theorem dX6_readHand_34 : decode cX6_readHand 34 = .ok (.return_, 1) := by decide +kernel
theorem dX6_readHand_35 : decode cX6_readHand 35 = .ok (.aload_n 0, 1) := by decide +kernel
theorem dX6_readHand_36 : decode cX6_readHand 36 = .ok (.getfield 15, 3) := by decide +kernel
theorem dX6_readHand_39 : decode cX6_readHand 39 = .ok (.aload_n 0, 1) := by decide +kernel
theorem dX6_readHand_40 : decode cX6_readHand 40 = .ok (.getfield 79, 3) := by decide +kernel
theorem dX6_readHand_43 : decode cX6_readHand 43 = .ok (.invokevirtual 90, 3) := by decide +kernel
theorem dX6_readHand_46 : decode cX6_readHand 46 = .ok (.aload_n 0, 1) := by decide +kernel
theorem dX6_readHand_47 : decode cX6_readHand 47 = .ok (.invokevirtual 37, 3) := by decide +kernel
theorem dX6_readHand_50 : decode cX6_readHand 50 = .ok (.bipush 11, 2) := by decide +kernel
theorem dX6_readHand_52 : decode cX6_readHand 52 = .ok (.istore_n 1, 1) := by decide +kernel
theorem dX6_readHand_53 : decode cX6_readHand 53 = .ok (.iload_n 1, 1) := by decide +kernel
theorem dX6_readHand_54 : decode cX6_readHand 54 = .ok (.bipush 12, 2) := by decide +kernel
theorem dX6_readHand_56 : decode cX6_readHand 56 = .ok (.if_icmp .gt 32, 3) := by decide +kernel
theorem dX6_readHand_59 : decode cX6_readHand 59 = .ok (.aload_n 0, 1) := by decide +kernel
theorem dX6_readHand_60 : decode cX6_readHand 60 = .ok (.iload_n 1, 1) := by decide +kernel
theorem dX6_readHand_61 : decode cX6_readHand 61 = .ok (.invokevirtual 73, 3) := by decide +kernel
theorem dX6_readHand_64 : decode cX6_readHand 64 = .ok (.aload_n 0, 1) := by decide +kernel
theorem dX6_readHand_65 : decode cX6_readHand 65 = .ok (.iconst 0, 1) := by decide +kernel
theorem dX6_readHand_66 : decode cX6_readHand 66 = .ok (.putfield 94, 3) := by decide +kernel
theorem dX6_readHand_69 : decode cX6_readHand 69 = .ok (.aload_n 0, 1) := by decide +kernel
theorem dX6_readHand_70 : decode cX6_readHand 70 = .ok (.iconst 0, 1) := by decide +kernel
theorem dX6_readHand_71 : decode cX6_readHand 71 = .ok (.iconst 0, 1) := by decide +kernel
theorem dX6_readHand_72 : decode cX6_readHand 72 = .ok (.invokevirtual 97, 3) := by decide +kernel
theorem dX6_readHand_75 : decode cX6_readHand 75 = .ok (.aload_n 0, 1) := by decide +kernel
theorem dX6_readHand_76 : decode cX6_readHand 76 = .ok (.getfield 15, 3) := by decide +kernel
theorem dX6_readHand_79 : decode cX6_readHand 79 = .ok (.invokevirtual 101, 3) := by decide +kernel
theorem dX6_readHand_82 : decode cX6_readHand 82 = .ok (.iinc 1 1, 3) := by decide +kernel
theorem dX6_readHand_85 : decode cX6_readHand 85 = .ok (.goto (-32), 3) := by decide +kernel
theorem dX6_readHand_88 : decode cX6_readHand 88 = .ok (.return_, 1) := by decide +kernel
theorem dX6_readPart_0 : decode cX6_readPart 0 = .ok (.aload_n 0, 1) := by decide +kernel
theorem dX6_readPart_1 : decode cX6_readPart 1 = .ok (.getfield 24, 3) := by decide +kernel
theorem dX6_readPart_4 : decode cX6_readPart 4 = .ok (.ifCond .eq 4, 3) := by decide +kernel
theorem dX6_readPart_7 : decode cX6_readPart 7 = .ok (.return_, 1) := by decide +kernel
theorem dX6_readPart_8 : decode cX6_readPart 8 = .ok (.iload_n 1, 1) := by decide +kernel
theorem dX6_readPart_9 : decode cX6_readPart 9 = .ok (.iconst 5, 1) := by decide +kernel
theorem dX6_readPart_10 : decode cX6_readPart 10 = .ok (.if_icmp .lt 9, 3) := by decide +kernel
theorem dX6_readPart_13 : decode cX6_readPart 13 = .ok (.aload_n 0, 1) := by decide +kernel
theorem dX6_readPart_14 : decode cX6_readPart 14 = .ok (.iload_n 2, 1) := by decide +kernel
theorem dX6_readPart_15 : decode cX6_readPart 15 = .ok (.invokevirtual 104, 3) := by decide +kernel
theorem dX6_readPart_18 : decode cX6_readPart 18 = .ok (.return_, 1) := by decide +kernel
theorem dX6_readPart_19 : decode cX6_readPart 19 = .ok (.iload_n 1, 1) := by decide +kernel
theorem dX6_readPart_20 : decode cX6_readPart 20 = .ok (.iconst 2, 1) := by decide +kernel
theorem dX6_readPart_21 : decode cX6_readPart 21 = .ok (.if_icmp .ne 18, 3) := by decide +kernel
theorem dX6_readPart_24 : decode cX6_readPart 24 = .ok (.aload_n 0, 1) := by decide +kernel
theorem dX6_readPart_25 : decode cX6_readPart 25 = .ok (.getfield 40, 3) := by decide +kernel
theorem dX6_readPart_28 : decode cX6_readPart 28 = .ok (.bipush 16, 2) := by decide +kernel
theorem dX6_readPart_30 : decode cX6_readPart 30 = .ok (.if_icmp .ne 9, 3) := by decide +kernel
theorem dX6_readPart_33 : decode cX6_readPart 33 = .ok (.aload_n 0, 1) := by decide +kernel
theorem dX6_readPart_34 : decode cX6_readPart 34 = .ok (.iload_n 2, 1) := by decide +kernel
theorem dX6_readPart_35 : decode cX6_readPart 35 = .ok (.invokevirtual 107, 3) := by decide +kernel
theorem dX6_readPart_38 : decode cX6_readPart 38 = .ok (.return_, 1) := by decide +kernel
theorem dX6_readPart_39 : decode cX6_readPart 39 = .ok (.aload_n 0, 1) := by decide +kernel
theorem dX6_readPart_40 : decode cX6_readPart 40 = .ok (.iload_n 1, 1) := by decide +kernel
theorem dX6_readPart_41 : decode cX6_readPart 41 = .ok (.iconst 1, 1) := by decide +kernel
theorem dX6_readPart_42 : decode cX6_readPart 42 = .ok (.iadd, 1) := by decide +kernel
theorem dX6_readPart_43 : decode cX6_readPart 43 = .ok (.iload_n 2, 1) := by decide +kernel
theorem dX6_readPart_44 : decode cX6_readPart 44 = .ok (.invokevirtual 97, 3) := by decide +kernel
theorem dX6_readPart_47 : decode cX6_readPart 47 = .ok (.iload_n 1, 1) := by decide +kernel
theorem dX6_readPart_48 : decode cX6_readPart 48 = .ok (.iconst 2, 1) := by decide +kernel
theorem dX6_readPart_49 : decode cX6_readPart 49 = .ok (.if_icmp .ne 7, 3) := by decide +kernel
theorem dX6_readPart_52 : decode cX6_readPart 52 = .ok (.iconst 1, 1) := by decide +kernel
theorem dX6_readPart_53 : decode cX6_readPart 53 = .ok (.goto 5, 3) := by decide +kernel
theorem dX6_readPart_56 : decode cX6_readPart 56 = .ok (.bipush 30, 2) := by decide +kernel
theorem dX6_readPart_58 : decode cX6_readPart 58 = .ok (.istore_n 3, 1) := by decide +kernel
theorem dX6_readPart_59 : decode cX6_readPart 59 = .ok (.iconst 0, 1) := by decide +kernel
theorem dX6_readPart_60 : decode cX6_readPart 60 = .ok (.istore 4, 2) := by decide +kernel
theorem dX6_readPart_62 : decode cX6_readPart 62 = .ok (.iload 4, 2) := by decide +kernel
theorem dX6_readPart_64 : decode cX6_readPart 64 = .ok (.iload_n 3, 1) := by decide +kernel
theorem dX6_readPart_65 : decode cX6_readPart 65 = .ok (.if_icmp .ge 54, 3) := by decide +kernel
theorem dX6_readPart_68 : decode cX6_readPart 68 = .ok (.aload_n 0, 1) := by decide +kernel
theorem dX6_readPart_69 : decode cX6_readPart 69 = .ok (.getfield 24, 3) := by decide +kernel
theorem dX6_readPart_72 : decode cX6_readPart 72 = .ok (.ifCond .ne 47, 3) := by decide +kernel
theorem dX6_readPart_75 : decode cX6_readPart 75 = .ok (.aload_n 0, 1) := by decide +kernel
theorem dX6_readPart_76 : decode cX6_readPart 76 = .ok (.getfield 40, 3) := by decide +kernel
theorem dX6_readPart_79 : decode cX6_readPart 79 = .ok (.invokestatic 110, 3) := by decide +kernel
theorem dX6_readPart_82 : decode cX6_readPart 82 = .ok (.iload_n 1, 1) := by decide +kernel
theorem dX6_readPart_83 : decode cX6_readPart 83 = .ok (.if_icmp .ne 36, 3) := by decide +kernel
theorem dX6_readPart_86 : decode cX6_readPart 86 = .ok (.aload_n 0, 1) := by decide +kernel
theorem dX6_readPart_87 : decode cX6_readPart 87 = .ok (.getfield 40, 3) := by decide +kernel
theorem dX6_readPart_90 : decode cX6_readPart 90 = .ok (.istore 5, 2) := by decide +kernel
theorem dX6_readPart_92 : decode cX6_readPart 92 = .ok (.aload_n 0, 1) := by decide +kernel
theorem dX6_readPart_93 : decode cX6_readPart 93 = .ok (.invokevirtual 37, 3) := by decide +kernel
theorem dX6_readPart_96 : decode cX6_readPart 96 = .ok (.aload_n 0, 1) := by decide +kernel
theorem dX6_readPart_97 : decode cX6_readPart 97 = .ok (.iload_n 1, 1) := by decide +kernel
theorem dX6_readPart_98 : decode cX6_readPart 98 = .ok (.iconst 1, 1) := by decide +kernel
theorem dX6_readPart_99 : decode cX6_readPart 99 = .ok (.iadd, 1) := by decide +kernel
theorem dX6_readPart_100 : decode cX6_readPart 100 = .ok (.iload_n 2, 1) := by decide +kernel
theorem dX6_readPart_101 : decode cX6_readPart 101 = .ok (.invokevirtual 97, 3) := by decide +kernel
theorem dX6_readPart_104 : decode cX6_readPart 104 = .ok (.aload_n 0, 1) := by decide +kernel
theorem dX6_readPart_105 : decode cX6_readPart 105 = .ok (.getfield 15, 3) := by decide +kernel
theorem dX6_readPart_108 : decode cX6_readPart 108 = .ok (.iload 5, 2) := by decide +kernel
theorem dX6_readPart_110 : decode cX6_readPart 110 = .ok (.invokevirtual 116, 3) := by decide +kernel
theorem dX6_readPart_113 : decode cX6_readPart 113 = .ok (.iinc 4 1, 3) := by decide +kernel
theorem dX6_readPart_116 : decode cX6_readPart 116 = .ok (.goto (-54), 3) := by decide +kernel
theorem dX6_readPart_119 : decode cX6_readPart 119 = .ok (.return_, 1) := by decide +kernel
theorem dX6_readNot_0 : decode cX6_readNot 0 = .ok (.iload_n 1, 1) := by decide +kernel
theorem dX6_readNot_1 : decode cX6_readNot 1 = .ok (.bipush 7, 2) := by decide +kernel
theorem dX6_readNot_3 : decode cX6_readNot 3 = .ok (.if_icmp .lt 9, 3) := by decide +kernel
theorem dX6_readNot_6 : decode cX6_readNot 6 = .ok (.aload_n 0, 1) := by decide +kernel
theorem dX6_readNot_7 : decode cX6_readNot 7 = .ok (.iconst 2, 1) := by decide +kernel
theorem dX6_readNot_8 : decode cX6_readNot 8 = .ok (.invokevirtual 50, 3) := by decide +kernel
theorem dX6_readNot_11 : decode cX6_readNot 11 = .ok (.return_, 1) := by decide +kernel
theorem dX6_readNot_12 : decode cX6_readNot 12 = .ok (.aload_n 0, 1) := by decide +kernel
theorem dX6_readNot_13 : decode cX6_readNot 13 = .ok (.invokevirtual 37, 3) := by decide +kernel
theorem dX6_readNot_16 : decode cX6_readNot 16 = .ok (.aload_n 0, 1) := by decide +kernel
theorem dX6_readNot_17 : decode cX6_readNot 17 = .ok (.iconst 2, 1) := by decide +kernel
theorem dX6_readNot_18 : decode cX6_readNot 18 = .ok (.iload_n 1, 1) := by decide +kernel
theorem dX6_readNot_19 : decode cX6_readNot 19 = .ok (.iconst 1, 1) := by decide +kernel
theorem dX6_readNot_20 : decode cX6_readNot 20 = .ok (.iadd, 1) := by decide +kernel
theorem dX6_readNot_21 : decode cX6_readNot 21 = .ok (.invokevirtual 97, 3) := by decide +kernel
theorem dX6_readNot_24 : decode cX6_readNot 24 = .ok (.aload_n 0, 1) := by decide +kernel
theorem dX6_readNot_25 : decode cX6_readNot 25 = .ok (.getfield 15, 3) := by decide +kernel
theorem dX6_readNot_28 : decode cX6_readNot 28 = .ok (.bipush 16, 2) := by decide +kernel
theorem dX6_readNot_30 : decode cX6_readNot 30 = .ok (.invokevirtual 116, 3) := by decide +kernel
theorem dX6_readNot_33 : decode cX6_readNot 33 = .ok (.return_, 1) := by decide +kernel
theorem dX6_readUnit_0 : decode cX6_readUnit 0 = .ok (.aload_n 0, 1) := by decide +kernel
theorem dX6_readUnit_1 : decode cX6_readUnit 1 = .ok (.getfield 40, 3) := by decide +kernel
theorem dX6_readUnit_4 : decode cX6_readUnit 4 = .ok (.istore_n 2, 1) := by decide +kernel
theorem dX6_readUnit_5 : decode cX6_readUnit 5 = .ok (.aload_n 0, 1) := by decide +kernel
theorem dX6_readUnit_6 : decode cX6_readUnit 6 = .ok (.getfield 79, 3) := by decide +kernel
theorem dX6_readUnit_9 : decode cX6_readUnit 9 = .ok (.l2i, 1) := by decide +kernel
theorem dX6_readUnit_10 : decode cX6_readUnit 10 = .ok (.istore_n 3, 1) := by decide +kernel
theorem dX6_readUnit_11 : decode cX6_readUnit 11 = .ok (.iload_n 2, 1) := by decide +kernel
theorem dX6_readUnit_12 : decode cX6_readUnit 12 = .ok (.bipush 21, 2) := by decide +kernel
theorem dX6_readUnit_14 : decode cX6_readUnit 14 = .ok (.if_icmp .eq 19, 3) := by decide +kernel
theorem dX6_readUnit_17 : decode cX6_readUnit 17 = .ok (.iload_n 2, 1) := by decide +kernel
theorem dX6_readUnit_18 : decode cX6_readUnit 18 = .ok (.bipush 40, 2) := by decide +kernel
theorem dX6_readUnit_20 : decode cX6_readUnit 20 = .ok (.if_icmp .eq 13, 3) := by decide +kernel
theorem dX6_readUnit_23 : decode cX6_readUnit 23 = .ok (.iload_n 2, 1) := by decide +kernel
theorem dX6_readUnit_24 : decode cX6_readUnit 24 = .ok (.ifCond .lt 13, 3) := by decide +kernel
theorem dX6_readUnit_27 : decode cX6_readUnit 27 = .ok (.iload_n 2, 1) := by decide +kernel
theorem dX6_readUnit_28 : decode cX6_readUnit 28 = .ok (.bipush 8, 2) := by decide +kernel
theorem dX6_readUnit_30 : decode cX6_readUnit 30 = .ok (.if_icmp .ge 7, 3) := by decide +kernel
theorem dX6_readUnit_33 : decode cX6_readUnit 33 = .ok (.iconst 1, 1) := by decide +kernel
theorem dX6_readUnit_34 : decode cX6_readUnit 34 = .ok (.goto 4, 3) := by decide +kernel
theorem dX6_readUnit_37 : decode cX6_readUnit 37 = .ok (.iconst 0, 1) := by decide +kernel
theorem dX6_readUnit_38 : decode cX6_readUnit 38 = .ok (.istore 4, 2) := by decide +kernel
theorem dX6_readUnit_40 : decode cX6_readUnit 40 = .ok (.iload_n 2, 1) := by decide +kernel
theorem dX6_readUnit_41 : decode cX6_readUnit 41 = .ok (.bipush 40, 2) := by decide +kernel
theorem dX6_readUnit_43 : decode cX6_readUnit 43 = .ok (.if_icmp .ne 13, 3) := by decide +kernel
theorem dX6_readUnit_46 : decode cX6_readUnit 46 = .ok (.iload_n 1, 1) := by decide +kernel
theorem dX6_readUnit_47 : decode cX6_readUnit 47 = .ok (.bipush 7, 2) := by decide +kernel
theorem dX6_readUnit_49 : decode cX6_readUnit 49 = .ok (.if_icmp .lt 7, 3) := by decide +kernel
theorem dX6_readUnit_52 : decode cX6_readUnit 52 = .ok (.iconst 1, 1) := by decide +kernel
theorem dX6_readUnit_53 : decode cX6_readUnit 53 = .ok (.goto 4, 3) := by decide +kernel
theorem dX6_readUnit_56 : decode cX6_readUnit 56 = .ok (.iconst 0, 1) := by decide +kernel
theorem dX6_readUnit_57 : decode cX6_readUnit 57 = .ok (.istore 5, 2) := by decide +kernel
theorem dX6_readUnit_59 : decode cX6_readUnit 59 = .ok (.iload 4, 2) := by decide +kernel
theorem dX6_readUnit_61 : decode cX6_readUnit 61 = .ok (.ifCond .eq 29, 3) := by decide +kernel
theorem dX6_readUnit_64 : decode cX6_readUnit 64 = .ok (.iload 5, 2) := by decide +kernel
theorem dX6_readUnit_66 : decode cX6_readUnit 66 = .ok (.ifCond .ne 24, 3) := by decide +kernel
theorem dX6_readUnit_69 : decode cX6_readUnit 69 = .ok (.aload_n 0, 1) := by decide +kernel
theorem dX6_readUnit_70 : decode cX6_readUnit 70 = .ok (.getfield 94, 3) := by decide +kernel
theorem dX6_readUnit_73 : decode cX6_readUnit 73 = .ok (.bipush 30, 2) := by decide +kernel
theorem dX6_readUnit_75 : decode cX6_readUnit 75 = .ok (.if_icmp .ge 15, 3) := by decide +kernel
theorem dX6_readUnit_78 : decode cX6_readUnit 78 = .ok (.aload_n 0, 1) := by decide +kernel
theorem dX6_readUnit_79 : decode cX6_readUnit 79 = .ok (.getfield 15, 3) := by decide +kernel
theorem dX6_readUnit_82 : decode cX6_readUnit 82 = .ok (.getfield 119, 3) := by decide +kernel
theorem dX6_readUnit_85 : decode cX6_readUnit 85 = .ok (.bipush 90, 2) := by decide +kernel
theorem dX6_readUnit_87 : decode cX6_readUnit 87 = .ok (.if_icmp .lt 9, 3) := by decide +kernel
theorem dX6_readUnit_90 : decode cX6_readUnit 90 = .ok (.aload_n 0, 1) := by decide +kernel
theorem dX6_readUnit_91 : decode cX6_readUnit 91 = .ok (.iconst 2, 1) := by decide +kernel
theorem dX6_readUnit_92 : decode cX6_readUnit 92 = .ok (.invokevirtual 50, 3) := by decide +kernel
theorem dX6_readUnit_95 : decode cX6_readUnit 95 = .ok (.return_, 1) := by decide +kernel
theorem dX6_readUnit_96 : decode cX6_readUnit 96 = .ok (.aload_n 0, 1) := by decide +kernel
theorem dX6_readUnit_97 : decode cX6_readUnit 97 = .ok (.dup, 1) := by decide +kernel
theorem dX6_readUnit_98 : decode cX6_readUnit 98 = .ok (.getfield 94, 3) := by decide +kernel
theorem dX6_readUnit_101 : decode cX6_readUnit 101 = .ok (.iconst 1, 1) := by decide +kernel
theorem dX6_readUnit_102 : decode cX6_readUnit 102 = .ok (.iadd, 1) := by decide +kernel
theorem dX6_readUnit_103 : decode cX6_readUnit 103 = .ok (.putfield 94, 3) := by decide +kernel
theorem dX6_readUnit_106 : decode cX6_readUnit 106 = .ok (.aload_n 0, 1) := by decide +kernel
theorem dX6_readUnit_107 : decode cX6_readUnit 107 = .ok (.getfield 15, 3) := by decide +kernel
theorem dX6_readUnit_110 : decode cX6_readUnit 110 = .ok (.dup, 1) := by decide +kernel
theorem dX6_readUnit_111 : decode cX6_readUnit 111 = .ok (.getfield 119, 3) := by decide +kernel
theorem dX6_readUnit_114 : decode cX6_readUnit 114 = .ok (.iconst 1, 1) := by decide +kernel
theorem dX6_readUnit_115 : decode cX6_readUnit 115 = .ok (.iadd, 1) := by decide +kernel
theorem dX6_readUnit_116 : decode cX6_readUnit 116 = .ok (.putfield 119, 3) := by decide +kernel
theorem dX6_readUnit_119 : decode cX6_readUnit 119 = .ok (.aload_n 0, 1) := by decide +kernel
theorem dX6_readUnit_120 : decode cX6_readUnit 120 = .ok (.invokevirtual 37, 3) := by decide +kernel
theorem dX6_readUnit_123 : decode cX6_readUnit 123 = .ok (.iload_n 2, 1) := by decide +kernel
theorem dX6_readUnit_124 : decode cX6_readUnit 124 = .ok (.bipush 40, 2) := by decide +kernel
theorem dX6_readUnit_126 : decode cX6_readUnit 126 = .ok (.if_icmp .ne 20, 3) := by decide +kernel
theorem dX6_readUnit_129 : decode cX6_readUnit 129 = .ok (.aload_n 0, 1) := by decide +kernel
theorem dX6_readUnit_130 : decode cX6_readUnit 130 = .ok (.iconst 0, 1) := by decide +kernel
theorem dX6_readUnit_131 : decode cX6_readUnit 131 = .ok (.iload_n 1, 1) := by decide +kernel
theorem dX6_readUnit_132 : decode cX6_readUnit 132 = .ok (.iconst 1, 1) := by decide +kernel
theorem dX6_readUnit_133 : decode cX6_readUnit 133 = .ok (.iadd, 1) := by decide +kernel
theorem dX6_readUnit_134 : decode cX6_readUnit 134 = .ok (.invokevirtual 97, 3) := by decide +kernel
theorem dX6_readUnit_137 : decode cX6_readUnit 137 = .ok (.aload_n 0, 1) := by decide +kernel
theorem dX6_readUnit_138 : decode cX6_readUnit 138 = .ok (.bipush 41, 2) := by decide +kernel
theorem dX6_readUnit_140 : decode cX6_readUnit 140 = .ok (.invokevirtual 73, 3) := by decide +kernel
theorem dX6_readUnit_143 : decode cX6_readUnit 143 = .ok (.goto 40, 3) := by decide +kernel
theorem dX6_readUnit_146 : decode cX6_readUnit 146 = .ok (.iload_n 2, 1) := by decide +kernel
theorem dX6_readUnit_147 : decode cX6_readUnit 147 = .ok (.bipush 21, 2) := by decide +kernel
theorem dX6_readUnit_149 : decode cX6_readUnit 149 = .ok (.if_icmp .ne 18, 3) := by decide +kernel
theorem dX6_readUnit_152 : decode cX6_readUnit 152 = .ok (.aload_n 0, 1) := by decide +kernel
theorem dX6_readUnit_153 : decode cX6_readUnit 153 = .ok (.getfield 15, 3) := by decide +kernel
theorem dX6_readUnit_156 : decode cX6_readUnit 156 = .ok (.sipush 128, 3) := by decide +kernel
theorem dX6_readUnit_159 : decode cX6_readUnit 159 = .ok (.iload_n 3, 1) := by decide +kernel
theorem dX6_readUnit_160 : decode cX6_readUnit 160 = .ok (.iadd, 1) := by decide +kernel
theorem dX6_readUnit_161 : decode cX6_readUnit 161 = .ok (.invokevirtual 116, 3) := by decide +kernel
theorem dX6_readUnit_164 : decode cX6_readUnit 164 = .ok (.goto 19, 3) := by decide +kernel
theorem dX6_readUnit_167 : decode cX6_readUnit 167 = .ok (.aload_n 0, 1) := by decide +kernel
theorem dX6_readUnit_168 : decode cX6_readUnit 168 = .ok (.getfield 15, 3) := by decide +kernel
theorem dX6_readUnit_171 : decode cX6_readUnit 171 = .ok (.iload_n 2, 1) := by decide +kernel
theorem dX6_readUnit_172 : decode cX6_readUnit 172 = .ok (.invokevirtual 116, 3) := by decide +kernel
theorem dX6_readUnit_175 : decode cX6_readUnit 175 = .ok (.aload_n 0, 1) := by decide +kernel
theorem dX6_readUnit_176 : decode cX6_readUnit 176 = .ok (.getfield 15, 3) := by decide +kernel
theorem dX6_readUnit_179 : decode cX6_readUnit 179 = .ok (.iload_n 2, 1) := by decide +kernel
theorem dX6_readUnit_180 : decode cX6_readUnit 180 = .ok (.invokevirtual 122, 3) := by decide +kernel
theorem dX6_readUnit_183 : decode cX6_readUnit 183 = .ok (.return_, 1) := by decide +kernel
theorem dX6_expect_0 : decode cX6_expect 0 = .ok (.aload_n 0, 1) := by decide +kernel
theorem dX6_expect_1 : decode cX6_expect 1 = .ok (.getfield 24, 3) := by decide +kernel
theorem dX6_expect_4 : decode cX6_expect 4 = .ok (.ifCond .ne 18, 3) := by decide +kernel
theorem dX6_expect_7 : decode cX6_expect 7 = .ok (.aload_n 0, 1) := by decide +kernel
theorem dX6_expect_8 : decode cX6_expect 8 = .ok (.getfield 40, 3) := by decide +kernel
theorem dX6_expect_11 : decode cX6_expect 11 = .ok (.iload_n 1, 1) := by decide +kernel
theorem dX6_expect_12 : decode cX6_expect 12 = .ok (.if_icmp .ne 10, 3) := by decide +kernel
theorem dX6_expect_15 : decode cX6_expect 15 = .ok (.aload_n 0, 1) := by decide +kernel
theorem dX6_expect_16 : decode cX6_expect 16 = .ok (.invokevirtual 37, 3) := by decide +kernel
theorem dX6_expect_19 : decode cX6_expect 19 = .ok (.goto 8, 3) := by decide +kernel
theorem dX6_expect_22 : decode cX6_expect 22 = .ok (.aload_n 0, 1) := by decide +kernel
theorem dX6_expect_23 : decode cX6_expect 23 = .ok (.iconst 2, 1) := by decide +kernel
theorem dX6_expect_24 : decode cX6_expect 24 = .ok (.invokevirtual 50, 3) := by decide +kernel
theorem dX6_expect_27 : decode cX6_expect 27 = .ok (.return_, 1) := by decide +kernel
theorem dX6_take_0 : decode cX6_take 0 = .ok (.aload_n 0, 1) := by decide +kernel
theorem dX6_take_1 : decode cX6_take 1 = .ok (.dup, 1) := by decide +kernel
theorem dX6_take_2 : decode cX6_take 2 = .ok (.getfield 34, 3) := by decide +kernel
theorem dX6_take_5 : decode cX6_take 5 = .ok (.iconst 1, 1) := by decide +kernel
theorem dX6_take_6 : decode cX6_take 6 = .ok (.iadd, 1) := by decide +kernel
theorem dX6_take_7 : decode cX6_take 7 = .ok (.putfield 34, 3) := by decide +kernel
theorem dX6_take_10 : decode cX6_take 10 = .ok (.aload_n 0, 1) := by decide +kernel
theorem dX6_take_11 : decode cX6_take 11 = .ok (.getfield 34, 3) := by decide +kernel
theorem dX6_take_14 : decode cX6_take 14 = .ok (.ifCond .lt 21, 3) := by decide +kernel
theorem dX6_take_17 : decode cX6_take 17 = .ok (.aload_n 0, 1) := by decide +kernel
theorem dX6_take_18 : decode cX6_take 18 = .ok (.getfield 34, 3) := by decide +kernel
theorem dX6_take_21 : decode cX6_take 21 = .ok (.aload_n 0, 1) := by decide +kernel
theorem dX6_take_22 : decode cX6_take 22 = .ok (.getfield 9, 3) := by decide +kernel
theorem dX6_take_25 : decode cX6_take 25 = .ok (.getfield 125, 3) := by decide +kernel
theorem dX6_take_28 : decode cX6_take 28 = .ok (.if_icmp .ge 7, 3) := by decide +kernel
theorem dX6_take_31 : decode cX6_take 31 = .ok (.iconst 1, 1) := by decide +kernel
theorem dX6_take_32 : decode cX6_take 32 = .ok (.goto 4, 3) := by decide +kernel
theorem dX6_take_35 : decode cX6_take 35 = .ok (.iconst 0, 1) := by decide +kernel
theorem dX6_take_36 : decode cX6_take 36 = .ok (.istore_n 1, 1) := by decide +kernel
theorem dX6_take_37 : decode cX6_take 37 = .ok (.aload_n 0, 1) := by decide +kernel
theorem dX6_take_38 : decode cX6_take 38 = .ok (.iload_n 1, 1) := by decide +kernel
theorem dX6_take_39 : decode cX6_take 39 = .ok (.ifCond .eq 18, 3) := by decide +kernel
theorem dX6_take_42 : decode cX6_take 42 = .ok (.aload_n 0, 1) := by decide +kernel
theorem dX6_take_43 : decode cX6_take 43 = .ok (.getfield 9, 3) := by decide +kernel
theorem dX6_take_46 : decode cX6_take 46 = .ok (.getfield 128, 3) := by decide +kernel
theorem dX6_take_49 : decode cX6_take 49 = .ok (.aload_n 0, 1) := by decide +kernel
theorem dX6_take_50 : decode cX6_take 50 = .ok (.getfield 34, 3) := by decide +kernel
theorem dX6_take_53 : decode cX6_take 53 = .ok (.iaload, 1) := by decide +kernel
theorem dX6_take_54 : decode cX6_take 54 = .ok (.goto 5, 3) := by decide +kernel
theorem dX6_take_57 : decode cX6_take 57 = .ok (.bipush 22, 2) := by decide +kernel
theorem dX6_take_59 : decode cX6_take 59 = .ok (.putfield 40, 3) := by decide +kernel
theorem dX6_take_62 : decode cX6_take 62 = .ok (.aload_n 0, 1) := by decide +kernel
theorem dX6_take_63 : decode cX6_take 63 = .ok (.iload_n 1, 1) := by decide +kernel
theorem dX6_take_64 : decode cX6_take 64 = .ok (.ifCond .eq 18, 3) := by decide +kernel
theorem dX6_take_67 : decode cX6_take 67 = .ok (.aload_n 0, 1) := by decide +kernel
theorem dX6_take_68 : decode cX6_take 68 = .ok (.getfield 9, 3) := by decide +kernel
theorem dX6_take_71 : decode cX6_take 71 = .ok (.getfield 132, 3) := by decide +kernel
theorem dX6_take_74 : decode cX6_take 74 = .ok (.aload_n 0, 1) := by decide +kernel
theorem dX6_take_75 : decode cX6_take 75 = .ok (.getfield 34, 3) := by decide +kernel
theorem dX6_take_78 : decode cX6_take 78 = .ok (.laload, 1) := by decide +kernel
theorem dX6_take_79 : decode cX6_take 79 = .ok (.goto 4, 3) := by decide +kernel
theorem dX6_take_82 : decode cX6_take 82 = .ok (.lconst 0, 1) := by decide +kernel
theorem dX6_take_83 : decode cX6_take 83 = .ok (.putfield 79, 3) := by decide +kernel
theorem dX6_take_86 : decode cX6_take 86 = .ok (.return_, 1) := by decide +kernel
theorem dX6_fail_0 : decode cX6_fail 0 = .ok (.aload_n 0, 1) := by decide +kernel
theorem dX6_fail_1 : decode cX6_fail 1 = .ok (.getfield 24, 3) := by decide +kernel
theorem dX6_fail_4 : decode cX6_fail 4 = .ok (.ifCond .ne 62, 3) := by decide +kernel
theorem dX6_fail_7 : decode cX6_fail 7 = .ok (.aload_n 0, 1) := by decide +kernel
theorem dX6_fail_8 : decode cX6_fail 8 = .ok (.aload_n 0, 1) := by decide +kernel
theorem dX6_fail_9 : decode cX6_fail 9 = .ok (.getfield 40, 3) := by decide +kernel
theorem dX6_fail_12 : decode cX6_fail 12 = .ok (.bipush 23, 2) := by decide +kernel
theorem dX6_fail_14 : decode cX6_fail 14 = .ok (.if_icmp .ne 7, 3) := by decide +kernel
theorem dX6_fail_17 : decode cX6_fail 17 = .ok (.iconst 1, 1) := by decide +kernel
theorem dX6_fail_18 : decode cX6_fail 18 = .ok (.goto 4, 3) := by decide +kernel
theorem dX6_fail_21 : decode cX6_fail 21 = .ok (.iload_n 1, 1) := by decide +kernel
theorem dX6_fail_22 : decode cX6_fail 22 = .ok (.putfield 24, 3) := by decide +kernel
theorem dX6_fail_25 : decode cX6_fail 25 = .ok (.aload_n 0, 1) := by decide +kernel
theorem dX6_fail_26 : decode cX6_fail 26 = .ok (.aload_n 0, 1) := by decide +kernel
theorem dX6_fail_27 : decode cX6_fail 27 = .ok (.getfield 34, 3) := by decide +kernel
theorem dX6_fail_30 : decode cX6_fail 30 = .ok (.ifCond .lt 32, 3) := by decide +kernel
theorem dX6_fail_33 : decode cX6_fail 33 = .ok (.aload_n 0, 1) := by decide +kernel
theorem dX6_fail_34 : decode cX6_fail 34 = .ok (.getfield 34, 3) := by decide +kernel
theorem dX6_fail_37 : decode cX6_fail 37 = .ok (.aload_n 0, 1) := by decide +kernel
theorem dX6_fail_38 : decode cX6_fail 38 = .ok (.getfield 9, 3) := by decide +kernel
theorem dX6_fail_41 : decode cX6_fail 41 = .ok (.getfield 125, 3) := by decide +kernel
theorem dX6_fail_44 : decode cX6_fail 44 = .ok (.if_icmp .ge 18, 3) := by decide +kernel
theorem dX6_fail_47 : decode cX6_fail 47 = .ok (.aload_n 0, 1) := by decide +kernel
theorem dX6_fail_48 : decode cX6_fail 48 = .ok (.getfield 9, 3) := by decide +kernel
theorem dX6_fail_51 : decode cX6_fail 51 = .ok (.getfield 136, 3) := by decide +kernel
theorem dX6_fail_54 : decode cX6_fail 54 = .ok (.aload_n 0, 1) := by decide +kernel
theorem dX6_fail_55 : decode cX6_fail 55 = .ok (.getfield 34, 3) := by decide +kernel
theorem dX6_fail_58 : decode cX6_fail 58 = .ok (.iaload, 1) := by decide +kernel
theorem dX6_fail_59 : decode cX6_fail 59 = .ok (.goto 4, 3) := by decide +kernel
theorem dX6_fail_62 : decode cX6_fail 62 = .ok (.iconst (-1), 1) := by decide +kernel
theorem dX6_fail_63 : decode cX6_fail 63 = .ok (.putfield 28, 3) := by decide +kernel
theorem dX6_fail_66 : decode cX6_fail 66 = .ok (.return_, 1) := by decide +kernel
theorem dX7_init_0 : decode cX7_init 0 = .ok (.aload_n 0, 1) := by decide +kernel
theorem dX7_init_1 : decode cX7_init 1 = .ok (.invokespecial 3, 3) := by decide +kernel
theorem dX7_init_4 : decode cX7_init 4 = .ok (.aload_n 0, 1) := by decide +kernel
theorem dX7_init_5 : decode cX7_init 5 = .ok (.iconst 4, 1) := by decide +kernel
theorem dX7_init_6 : decode cX7_init 6 = .ok (.newarray .long, 2) := by decide +kernel
theorem dX7_init_8 : decode cX7_init 8 = .ok (.putfield 9, 3) := by decide +kernel
theorem dX7_init_11 : decode cX7_init 11 = .ok (.aload_n 0, 1) := by decide +kernel
theorem dX7_init_12 : decode cX7_init 12 = .ok (.iconst 4, 1) := by decide +kernel
theorem dX7_init_13 : decode cX7_init 13 = .ok (.newarray .int, 2) := by decide +kernel
theorem dX7_init_15 : decode cX7_init 15 = .ok (.putfield 15, 3) := by decide +kernel
theorem dX7_init_18 : decode cX7_init 18 = .ok (.aload_n 0, 1) := by decide +kernel
theorem dX7_init_19 : decode cX7_init 19 = .ok (.sipush 1600, 3) := by decide +kernel
theorem dX7_init_22 : decode cX7_init 22 = .ok (.newarray .int, 2) := by decide +kernel
theorem dX7_init_24 : decode cX7_init 24 = .ok (.putfield 19, 3) := by decide +kernel
theorem dX7_init_27 : decode cX7_init 27 = .ok (.aload_n 0, 1) := by decide +kernel
theorem dX7_init_28 : decode cX7_init 28 = .ok (.bipush 9, 2) := by decide +kernel
theorem dX7_init_30 : decode cX7_init 30 = .ok (.newarray .int, 2) := by decide +kernel
theorem dX7_init_32 : decode cX7_init 32 = .ok (.putfield 22, 3) := by decide +kernel
theorem dX7_init_35 : decode cX7_init 35 = .ok (.aload_n 0, 1) := by decide +kernel
theorem dX7_init_36 : decode cX7_init 36 = .ok (.bipush 32, 2) := by decide +kernel
theorem dX7_init_38 : decode cX7_init 38 = .ok (.newarray .int, 2) := by decide +kernel
theorem dX7_init_40 : decode cX7_init 40 = .ok (.putfield 25, 3) := by decide +kernel
theorem dX7_init_43 : decode cX7_init 43 = .ok (.aload_n 0, 1) := by decide +kernel
theorem dX7_init_44 : decode cX7_init 44 = .ok (.invokevirtual 28, 3) := by decide +kernel
theorem dX7_init_47 : decode cX7_init 47 = .ok (.return_, 1) := by decide +kernel
theorem dX7_clear_0 : decode cX7_clear 0 = .ok (.aload_n 0, 1) := by decide +kernel
theorem dX7_clear_1 : decode cX7_clear 1 = .ok (.bipush 8, 2) := by decide +kernel
theorem dX7_clear_3 : decode cX7_clear 3 = .ok (.putfield 31, 3) := by decide +kernel
theorem dX7_clear_6 : decode cX7_clear 6 = .ok (.aload_n 0, 1) := by decide +kernel
theorem dX7_clear_7 : decode cX7_clear 7 = .ok (.iconst 0, 1) := by decide +kernel
theorem dX7_clear_8 : decode cX7_clear 8 = .ok (.putfield 35, 3) := by decide +kernel
theorem dX7_clear_11 : decode cX7_clear 11 = .ok (.aload_n 0, 1) := by decide +kernel
theorem dX7_clear_12 : decode cX7_clear 12 = .ok (.iconst 0, 1) := by decide +kernel
theorem dX7_clear_13 : decode cX7_clear 13 = .ok (.putfield 38, 3) := by decide +kernel
theorem dX7_clear_16 : decode cX7_clear 16 = .ok (.aload_n 0, 1) := by decide +kernel
theorem dX7_clear_17 : decode cX7_clear 17 = .ok (.bipush 100, 2) := by decide +kernel
theorem dX7_clear_19 : decode cX7_clear 19 = .ok (.putfield 41, 3) := by decide +kernel
theorem dX7_clear_22 : decode cX7_clear 22 = .ok (.aload_n 0, 1) := by decide +kernel
theorem dX7_clear_23 : decode cX7_clear 23 = .ok (.iconst 0, 1) := by decide +kernel
theorem dX7_clear_24 : decode cX7_clear 24 = .ok (.putfield 44, 3) := by decide +kernel
theorem dX7_clear_27 : decode cX7_clear 27 = .ok (.aload_n 0, 1) := by decide +kernel
theorem dX7_clear_28 : decode cX7_clear 28 = .ok (.iconst 0, 1) := by decide +kernel
theorem dX7_clear_29 : decode cX7_clear 29 = .ok (.putfield 47, 3) := by decide +kernel
theorem dX7_clear_32 : decode cX7_clear 32 = .ok (.aload_n 0, 1) := by decide +kernel
theorem dX7_clear_33 : decode cX7_clear 33 = .ok (.iconst 0, 1) := by decide +kernel
theorem dX7_clear_34 : decode cX7_clear 34 = .ok (.putfield 50, 3) := by decide +kernel
theorem dX7_clear_37 : decode cX7_clear 37 = .ok (.aload_n 0, 1) := by decide +kernel
theorem dX7_clear_38 : decode cX7_clear 38 = .ok (.iconst 0, 1) := by decide +kernel
theorem dX7_clear_39 : decode cX7_clear 39 = .ok (.putfield 53, 3) := by decide +kernel
theorem dX7_clear_42 : decode cX7_clear 42 = .ok (.return_, 1) := by decide +kernel
theorem dX7_rows_0 : decode cX7_rows 0 = .ok (.iconst 1, 1) := by decide +kernel
theorem dX7_rows_1 : decode cX7_rows 1 = .ok (.aload_n 0, 1) := by decide +kernel
theorem dX7_rows_2 : decode cX7_rows 2 = .ok (.getfield 31, 3) := by decide +kernel
theorem dX7_rows_5 : decode cX7_rows 5 = .ok (.ishl, 1) := by decide +kernel
theorem dX7_rows_6 : decode cX7_rows 6 = .ok (.ireturn, 1) := by decide +kernel
theorem dX7_hasName_0 : decode cX7_hasName 0 = .ok (.iconst 0, 1) := by decide +kernel
theorem dX7_hasName_1 : decode cX7_hasName 1 = .ok (.istore_n 3, 1) := by decide +kernel
theorem dX7_hasName_2 : decode cX7_hasName 2 = .ok (.iload_n 3, 1) := by decide +kernel
theorem dX7_hasName_3 : decode cX7_hasName 3 = .ok (.aload_n 0, 1) := by decide +kernel
theorem dX7_hasName_4 : decode cX7_hasName 4 = .ok (.getfield 38, 3) := by decide +kernel
theorem dX7_hasName_7 : decode cX7_hasName 7 = .ok (.if_icmp .ge 31, 3) := by decide +kernel
theorem dX7_hasName_10 : decode cX7_hasName 10 = .ok (.iload_n 3, 1) := by decide +kernel
theorem dX7_hasName_11 : decode cX7_hasName 11 = .ok (.aload_n 0, 1) := by decide +kernel
theorem dX7_hasName_12 : decode cX7_hasName 12 = .ok (.getfield 9, 3) := by decide +kernel
theorem dX7_hasName_15 : decode cX7_hasName 15 = .ok (.arraylength, 1) := by decide +kernel
theorem dX7_hasName_16 : decode cX7_hasName 16 = .ok (.if_icmp .ge 22, 3) := by decide +kernel
theorem dX7_hasName_19 : decode cX7_hasName 19 = .ok (.aload_n 0, 1) := by decide +kernel
theorem dX7_hasName_20 : decode cX7_hasName 20 = .ok (.getfield 9, 3) := by decide +kernel
theorem dX7_hasName_23 : decode cX7_hasName 23 = .ok (.iload_n 3, 1) := by decide +kernel
theorem dX7_hasName_24 : decode cX7_hasName 24 = .ok (.laload, 1) := by decide +kernel
theorem dX7_hasName_25 : decode cX7_hasName 25 = .ok (.lload_n 1, 1) := by decide +kernel
theorem dX7_hasName_26 : decode cX7_hasName 26 = .ok (.lcmp, 1) := by decide +kernel
theorem dX7_hasName_27 : decode cX7_hasName 27 = .ok (.ifCond .ne 5, 3) := by decide +kernel
theorem dX7_hasName_30 : decode cX7_hasName 30 = .ok (.iconst 1, 1) := by decide +kernel
theorem dX7_hasName_31 : decode cX7_hasName 31 = .ok (.ireturn, 1) := by decide +kernel
theorem dX7_hasName_32 : decode cX7_hasName 32 = .ok (.iinc 3 1, 3) := by decide +kernel
theorem dX7_hasName_35 : decode cX7_hasName 35 = .ok (.goto (-33), 3) := by decide +kernel
theorem dX7_hasName_38 : decode cX7_hasName 38 = .ok (.iconst 0, 1) := by decide +kernel
theorem dX7_hasName_39 : decode cX7_hasName 39 = .ok (.ireturn, 1) := by decide +kernel
theorem dX7_addHand_0 : decode cX7_addHand 0 = .ok (.aload_n 0, 1) := by decide +kernel
theorem dX7_addHand_1 : decode cX7_addHand 1 = .ok (.getfield 38, 3) := by decide +kernel
theorem dX7_addHand_4 : decode cX7_addHand 4 = .ok (.ifCond .lt 45, 3) := by decide +kernel
theorem dX7_addHand_7 : decode cX7_addHand 7 = .ok (.aload_n 0, 1) := by decide +kernel
theorem dX7_addHand_8 : decode cX7_addHand 8 = .ok (.getfield 38, 3) := by decide +kernel
theorem dX7_addHand_11 : decode cX7_addHand 11 = .ok (.aload_n 0, 1) := by decide +kernel
theorem dX7_addHand_12 : decode cX7_addHand 12 = .ok (.getfield 9, 3) := by decide +kernel
theorem dX7_addHand_15 : decode cX7_addHand 15 = .ok (.arraylength, 1) := by decide +kernel
theorem dX7_addHand_16 : decode cX7_addHand 16 = .ok (.if_icmp .ge 33, 3) := by decide +kernel
theorem dX7_addHand_19 : decode cX7_addHand 19 = .ok (.aload_n 0, 1) := by decide +kernel
theorem dX7_addHand_20 : decode cX7_addHand 20 = .ok (.getfield 9, 3) := by decide +kernel
theorem dX7_addHand_23 : decode cX7_addHand 23 = .ok (.aload_n 0, 1) := by decide +kernel
theorem dX7_addHand_24 : decode cX7_addHand 24 = .ok (.getfield 38, 3) := by decide +kernel
theorem dX7_addHand_27 : decode cX7_addHand 27 = .ok (.lload_n 1, 1) := by decide +kernel
theorem dX7_addHand_28 : decode cX7_addHand 28 = .ok (.lastore, 1) := by decide +kernel
theorem dX7_addHand_29 : decode cX7_addHand 29 = .ok (.aload_n 0, 1) := by decide +kernel
theorem dX7_addHand_30 : decode cX7_addHand 30 = .ok (.getfield 15, 3) := by decide +kernel
theorem dX7_addHand_33 : decode cX7_addHand 33 = .ok (.aload_n 0, 1) := by decide +kernel
theorem dX7_addHand_34 : decode cX7_addHand 34 = .ok (.getfield 38, 3) := by decide +kernel
theorem dX7_addHand_37 : decode cX7_addHand 37 = .ok (.iconst 0, 1) := by decide +kernel
theorem dX7_addHand_38 : decode cX7_addHand 38 = .ok (.iastore, 1) := by decide +kernel
theorem dX7_addHand_39 : decode cX7_addHand 39 = .ok (.aload_n 0, 1) := by decide +kernel
theorem dX7_addHand_40 : decode cX7_addHand 40 = .ok (.dup, 1) := by decide +kernel
theorem dX7_addHand_41 : decode cX7_addHand 41 = .ok (.getfield 38, 3) := by decide +kernel
theorem dX7_addHand_44 : decode cX7_addHand 44 = .ok (.iconst 1, 1) := by decide +kernel
theorem dX7_addHand_45 : decode cX7_addHand 45 = .ok (.iadd, 1) := by decide +kernel
theorem dX7_addHand_46 : decode cX7_addHand 46 = .ok (.putfield 38, 3) := by decide +kernel
theorem dX7_addHand_49 : decode cX7_addHand 49 = .ok (.return_, 1) := by decide +kernel
theorem dX7_addUse_0 : decode cX7_addUse 0 = .ok (.aload_n 0, 1) := by decide +kernel
theorem dX7_addUse_1 : decode cX7_addUse 1 = .ok (.getfield 38, 3) := by decide +kernel
theorem dX7_addUse_4 : decode cX7_addUse 4 = .ok (.ifCond .le 32, 3) := by decide +kernel
theorem dX7_addUse_7 : decode cX7_addUse 7 = .ok (.aload_n 0, 1) := by decide +kernel
theorem dX7_addUse_8 : decode cX7_addUse 8 = .ok (.getfield 38, 3) := by decide +kernel
theorem dX7_addUse_11 : decode cX7_addUse 11 = .ok (.aload_n 0, 1) := by decide +kernel
theorem dX7_addUse_12 : decode cX7_addUse 12 = .ok (.getfield 15, 3) := by decide +kernel
theorem dX7_addUse_15 : decode cX7_addUse 15 = .ok (.arraylength, 1) := by decide +kernel
theorem dX7_addUse_16 : decode cX7_addUse 16 = .ok (.if_icmp .gt 20, 3) := by decide +kernel
theorem dX7_addUse_19 : decode cX7_addUse 19 = .ok (.aload_n 0, 1) := by decide +kernel
theorem dX7_addUse_20 : decode cX7_addUse 20 = .ok (.getfield 15, 3) := by decide +kernel
theorem dX7_addUse_23 : decode cX7_addUse 23 = .ok (.aload_n 0, 1) := by decide +kernel
theorem dX7_addUse_24 : decode cX7_addUse 24 = .ok (.getfield 38, 3) := by decide +kernel
theorem dX7_addUse_27 : decode cX7_addUse 27 = .ok (.iconst 1, 1) := by decide +kernel
theorem dX7_addUse_28 : decode cX7_addUse 28 = .ok (.isub, 1) := by decide +kernel
theorem dX7_addUse_29 : decode cX7_addUse 29 = .ok (.dup2, 1) := by decide +kernel
theorem dX7_addUse_30 : decode cX7_addUse 30 = .ok (.iaload, 1) := by decide +kernel
theorem dX7_addUse_31 : decode cX7_addUse 31 = .ok (.iconst 1, 1) := by decide +kernel
theorem dX7_addUse_32 : decode cX7_addUse 32 = .ok (.iload_n 1, 1) := by decide +kernel
theorem dX7_addUse_33 : decode cX7_addUse 33 = .ok (.ishl, 1) := by decide +kernel
theorem dX7_addUse_34 : decode cX7_addUse 34 = .ok (.ior, 1) := by decide +kernel
theorem dX7_addUse_35 : decode cX7_addUse 35 = .ok (.iastore, 1) := by decide +kernel
theorem dX7_addUse_36 : decode cX7_addUse 36 = .ok (.return_, 1) := by decide +kernel
theorem dX7_isUsed_0 : decode cX7_isUsed 0 = .ok (.iload_n 1, 1) := by decide +kernel
theorem dX7_isUsed_1 : decode cX7_isUsed 1 = .ok (.ifCond .lt 29, 3) := by decide +kernel
theorem dX7_isUsed_4 : decode cX7_isUsed 4 = .ok (.iload_n 1, 1) := by decide +kernel
theorem dX7_isUsed_5 : decode cX7_isUsed 5 = .ok (.aload_n 0, 1) := by decide +kernel
theorem dX7_isUsed_6 : decode cX7_isUsed 6 = .ok (.getfield 15, 3) := by decide +kernel
theorem dX7_isUsed_9 : decode cX7_isUsed 9 = .ok (.arraylength, 1) := by decide +kernel
theorem dX7_isUsed_10 : decode cX7_isUsed 10 = .ok (.if_icmp .ge 20, 3) := by decide +kernel
theorem dX7_isUsed_13 : decode cX7_isUsed 13 = .ok (.aload_n 0, 1) := by decide +kernel
theorem dX7_isUsed_14 : decode cX7_isUsed 14 = .ok (.getfield 15, 3) := by decide +kernel
theorem dX7_isUsed_17 : decode cX7_isUsed 17 = .ok (.iload_n 1, 1) := by decide +kernel
theorem dX7_isUsed_18 : decode cX7_isUsed 18 = .ok (.iaload, 1) := by decide +kernel
theorem dX7_isUsed_19 : decode cX7_isUsed 19 = .ok (.iload_n 2, 1) := by decide +kernel
theorem dX7_isUsed_20 : decode cX7_isUsed 20 = .ok (.ishr, 1) := by decide +kernel
theorem dX7_isUsed_21 : decode cX7_isUsed 21 = .ok (.iconst 1, 1) := by decide +kernel
theorem dX7_isUsed_22 : decode cX7_isUsed 22 = .ok (.iand, 1) := by decide +kernel
theorem dX7_isUsed_23 : decode cX7_isUsed 23 = .ok (.ifCond .eq 7, 3) := by decide +kernel
theorem dX7_isUsed_26 : decode cX7_isUsed 26 = .ok (.iconst 1, 1) := by decide +kernel
theorem dX7_isUsed_27 : decode cX7_isUsed 27 = .ok (.goto 4, 3) := by decide +kernel
theorem dX7_isUsed_30 : decode cX7_isUsed 30 = .ok (.iconst 0, 1) := by decide +kernel
theorem dX7_isUsed_31 : decode cX7_isUsed 31 = .ok (.ireturn, 1) := by decide +kernel
theorem dX7_addCode_0 : decode cX7_addCode 0 = .ok (.aload_n 0, 1) := by decide +kernel
theorem dX7_addCode_1 : decode cX7_addCode 1 = .ok (.getfield 50, 3) := by decide +kernel
theorem dX7_addCode_4 : decode cX7_addCode 4 = .ok (.ifCond .lt 35, 3) := by decide +kernel
theorem dX7_addCode_7 : decode cX7_addCode 7 = .ok (.aload_n 0, 1) := by decide +kernel
theorem dX7_addCode_8 : decode cX7_addCode 8 = .ok (.getfield 50, 3) := by decide +kernel
theorem dX7_addCode_11 : decode cX7_addCode 11 = .ok (.aload_n 0, 1) := by decide +kernel
theorem dX7_addCode_12 : decode cX7_addCode 12 = .ok (.getfield 19, 3) := by decide +kernel
theorem dX7_addCode_15 : decode cX7_addCode 15 = .ok (.arraylength, 1) := by decide +kernel
theorem dX7_addCode_16 : decode cX7_addCode 16 = .ok (.if_icmp .ge 23, 3) := by decide +kernel
theorem dX7_addCode_19 : decode cX7_addCode 19 = .ok (.aload_n 0, 1) := by decide +kernel
theorem dX7_addCode_20 : decode cX7_addCode 20 = .ok (.getfield 19, 3) := by decide +kernel
theorem dX7_addCode_23 : decode cX7_addCode 23 = .ok (.aload_n 0, 1) := by decide +kernel
theorem dX7_addCode_24 : decode cX7_addCode 24 = .ok (.getfield 50, 3) := by decide +kernel
theorem dX7_addCode_27 : decode cX7_addCode 27 = .ok (.iload_n 1, 1) := by decide +kernel
theorem dX7_addCode_28 : decode cX7_addCode 28 = .ok (.iastore, 1) := by decide +kernel
theorem dX7_addCode_29 : decode cX7_addCode 29 = .ok (.aload_n 0, 1) := by decide +kernel
theorem dX7_addCode_30 : decode cX7_addCode 30 = .ok (.dup, 1) := by decide +kernel
theorem dX7_addCode_31 : decode cX7_addCode 31 = .ok (.getfield 50, 3) := by decide +kernel
theorem dX7_addCode_34 : decode cX7_addCode 34 = .ok (.iconst 1, 1) := by decide +kernel
theorem dX7_addCode_35 : decode cX7_addCode 35 = .ok (.iadd, 1) := by decide +kernel
theorem dX7_addCode_36 : decode cX7_addCode 36 = .ok (.putfield 50, 3) := by decide +kernel
theorem dX7_addCode_39 : decode cX7_addCode 39 = .ok (.return_, 1) := by decide +kernel
theorem dX7_endFormula_0 : decode cX7_endFormula 0 = .ok (.aload_n 0, 1) := by decide +kernel
theorem dX7_endFormula_1 : decode cX7_endFormula 1 = .ok (.getfield 53, 3) := by decide +kernel
theorem dX7_endFormula_4 : decode cX7_endFormula 4 = .ok (.ifCond .lt 40, 3) := by decide +kernel
theorem dX7_endFormula_7 : decode cX7_endFormula 7 = .ok (.aload_n 0, 1) := by decide +kernel
theorem dX7_endFormula_8 : decode cX7_endFormula 8 = .ok (.getfield 53, 3) := by decide +kernel
theorem dX7_endFormula_11 : decode cX7_endFormula 11 = .ok (.aload_n 0, 1) := by decide +kernel
theorem dX7_endFormula_12 : decode cX7_endFormula 12 = .ok (.getfield 22, 3) := by decide +kernel
theorem dX7_endFormula_15 : decode cX7_endFormula 15 = .ok (.arraylength, 1) := by decide +kernel
theorem dX7_endFormula_16 : decode cX7_endFormula 16 = .ok (.iconst 1, 1) := by decide +kernel
theorem dX7_endFormula_17 : decode cX7_endFormula 17 = .ok (.isub, 1) := by decide +kernel
theorem dX7_endFormula_18 : decode cX7_endFormula 18 = .ok (.if_icmp .ge 26, 3) := by decide +kernel
theorem dX7_endFormula_21 : decode cX7_endFormula 21 = .ok (.aload_n 0, 1) := by decide +kernel
theorem dX7_endFormula_22 : decode cX7_endFormula 22 = .ok (.dup, 1) := by decide +kernel
theorem dX7_endFormula_23 : decode cX7_endFormula 23 = .ok (.getfield 53, 3) := by decide +kernel
theorem dX7_endFormula_26 : decode cX7_endFormula 26 = .ok (.iconst 1, 1) := by decide +kernel
theorem dX7_endFormula_27 : decode cX7_endFormula 27 = .ok (.iadd, 1) := by decide +kernel
theorem dX7_endFormula_28 : decode cX7_endFormula 28 = .ok (.putfield 53, 3) := by decide +kernel
theorem dX7_endFormula_31 : decode cX7_endFormula 31 = .ok (.aload_n 0, 1) := by decide +kernel
theorem dX7_endFormula_32 : decode cX7_endFormula 32 = .ok (.getfield 22, 3) := by decide +kernel
theorem dX7_endFormula_35 : decode cX7_endFormula 35 = .ok (.aload_n 0, 1) := by decide +kernel
theorem dX7_endFormula_36 : decode cX7_endFormula 36 = .ok (.getfield 53, 3) := by decide +kernel
theorem dX7_endFormula_39 : decode cX7_endFormula 39 = .ok (.aload_n 0, 1) := by decide +kernel
theorem dX7_endFormula_40 : decode cX7_endFormula 40 = .ok (.getfield 50, 3) := by decide +kernel
theorem dX7_endFormula_43 : decode cX7_endFormula 43 = .ok (.iastore, 1) := by decide +kernel
theorem dX7_endFormula_44 : decode cX7_endFormula 44 = .ok (.return_, 1) := by decide +kernel
theorem dX7_valueOf_0 : decode cX7_valueOf 0 = .ok (.iload_n 1, 1) := by decide +kernel
theorem dX7_valueOf_1 : decode cX7_valueOf 1 = .ok (.ifCond .lt 22, 3) := by decide +kernel
theorem dX7_valueOf_4 : decode cX7_valueOf 4 = .ok (.iload_n 1, 1) := by decide +kernel
theorem dX7_valueOf_5 : decode cX7_valueOf 5 = .ok (.aload_n 0, 1) := by decide +kernel
theorem dX7_valueOf_6 : decode cX7_valueOf 6 = .ok (.getfield 53, 3) := by decide +kernel
theorem dX7_valueOf_9 : decode cX7_valueOf 9 = .ok (.if_icmp .ge 14, 3) := by decide +kernel
theorem dX7_valueOf_12 : decode cX7_valueOf 12 = .ok (.iload_n 1, 1) := by decide +kernel
theorem dX7_valueOf_13 : decode cX7_valueOf 13 = .ok (.aload_n 0, 1) := by decide +kernel
theorem dX7_valueOf_14 : decode cX7_valueOf 14 = .ok (.getfield 22, 3) := by decide +kernel
theorem dX7_valueOf_17 : decode cX7_valueOf 17 = .ok (.arraylength, 1) := by decide +kernel
theorem dX7_valueOf_18 : decode cX7_valueOf 18 = .ok (.iconst 1, 1) := by decide +kernel
theorem dX7_valueOf_19 : decode cX7_valueOf 19 = .ok (.isub, 1) := by decide +kernel
theorem dX7_valueOf_20 : decode cX7_valueOf 20 = .ok (.if_icmp .lt 5, 3) := by decide +kernel
theorem dX7_valueOf_23 : decode cX7_valueOf 23 = .ok (.iconst 0, 1) := by decide +kernel
theorem dX7_valueOf_24 : decode cX7_valueOf 24 = .ok (.ireturn, 1) := by decide +kernel
theorem dX7_valueOf_25 : decode cX7_valueOf 25 = .ok (.aload_n 0, 1) := by decide +kernel
theorem dX7_valueOf_26 : decode cX7_valueOf 26 = .ok (.getfield 22, 3) := by decide +kernel
theorem dX7_valueOf_29 : decode cX7_valueOf 29 = .ok (.iload_n 1, 1) := by decide +kernel
theorem dX7_valueOf_30 : decode cX7_valueOf 30 = .ok (.iconst 1, 1) := by decide +kernel
theorem dX7_valueOf_31 : decode cX7_valueOf 31 = .ok (.iadd, 1) := by decide +kernel
theorem dX7_valueOf_32 : decode cX7_valueOf 32 = .ok (.iaload, 1) := by decide +kernel
theorem dX7_valueOf_33 : decode cX7_valueOf 33 = .ok (.aload_n 0, 1) := by decide +kernel
theorem dX7_valueOf_34 : decode cX7_valueOf 34 = .ok (.getfield 50, 3) := by decide +kernel
theorem dX7_valueOf_37 : decode cX7_valueOf 37 = .ok (.invokestatic 56, 3) := by decide +kernel
theorem dX7_valueOf_40 : decode cX7_valueOf 40 = .ok (.istore_n 3, 1) := by decide +kernel
theorem dX7_valueOf_41 : decode cX7_valueOf 41 = .ok (.iconst (-1), 1) := by decide +kernel
theorem dX7_valueOf_42 : decode cX7_valueOf 42 = .ok (.istore 4, 2) := by decide +kernel
theorem dX7_valueOf_44 : decode cX7_valueOf 44 = .ok (.aload_n 0, 1) := by decide +kernel
theorem dX7_valueOf_45 : decode cX7_valueOf 45 = .ok (.getfield 22, 3) := by decide +kernel
theorem dX7_valueOf_48 : decode cX7_valueOf 48 = .ok (.iload_n 1, 1) := by decide +kernel
theorem dX7_valueOf_49 : decode cX7_valueOf 49 = .ok (.iaload, 1) := by decide +kernel
theorem dX7_valueOf_50 : decode cX7_valueOf 50 = .ok (.iconst 0, 1) := by decide +kernel
theorem dX7_valueOf_51 : decode cX7_valueOf 51 = .ok (.invokestatic 62, 3) := by decide +kernel
theorem dX7_valueOf_54 : decode cX7_valueOf 54 = .ok (.istore 5, 2) := by decide +kernel
theorem dX7_valueOf_56 : decode cX7_valueOf 56 = .ok (.iload 5, 2) := by decide +kernel
theorem dX7_valueOf_58 : decode cX7_valueOf 58 = .ok (.iload_n 3, 1) := by decide +kernel
theorem dX7_valueOf_59 : decode cX7_valueOf 59 = .ok (.if_icmp .ge 172, 3) := by decide +kernel
theorem dX7_valueOf_62 : decode cX7_valueOf 62 = .ok (.aload_n 0, 1) := by decide +kernel
theorem dX7_valueOf_63 : decode cX7_valueOf 63 = .ok (.getfield 19, 3) := by decide +kernel
theorem dX7_valueOf_66 : decode cX7_valueOf 66 = .ok (.iload 5, 2) := by decide +kernel
theorem dX7_valueOf_68 : decode cX7_valueOf 68 = .ok (.iaload, 1) := by decide +kernel
theorem dX7_valueOf_69 : decode cX7_valueOf 69 = .ok (.istore 6, 2) := by decide +kernel
theorem dX7_valueOf_71 : decode cX7_valueOf 71 = .ok (.iload 6, 2) := by decide +kernel
theorem dX7_valueOf_73 : decode cX7_valueOf 73 = .ok (.sipush 128, 3) := by decide +kernel
theorem dX7_valueOf_76 : decode cX7_valueOf 76 = .ok (.if_icmp .lt 34, 3) := by decide +kernel
theorem dX7_valueOf_79 : decode cX7_valueOf 79 = .ok (.iload 4, 2) := by decide +kernel
theorem dX7_valueOf_81 : decode cX7_valueOf 81 = .ok (.aload_n 0, 1) := by decide +kernel
theorem dX7_valueOf_82 : decode cX7_valueOf 82 = .ok (.getfield 25, 3) := by decide +kernel
theorem dX7_valueOf_85 : decode cX7_valueOf 85 = .ok (.arraylength, 1) := by decide +kernel
theorem dX7_valueOf_86 : decode cX7_valueOf 86 = .ok (.iconst 1, 1) := by decide +kernel
theorem dX7_valueOf_87 : decode cX7_valueOf 87 = .ok (.isub, 1) := by decide +kernel
theorem dX7_valueOf_88 : decode cX7_valueOf 88 = .ok (.if_icmp .ge 22, 3) := by decide +kernel
theorem dX7_valueOf_91 : decode cX7_valueOf 91 = .ok (.iinc 4 1, 3) := by decide +kernel
theorem dX7_valueOf_94 : decode cX7_valueOf 94 = .ok (.aload_n 0, 1) := by decide +kernel
theorem dX7_valueOf_95 : decode cX7_valueOf 95 = .ok (.getfield 25, 3) := by decide +kernel
theorem dX7_valueOf_98 : decode cX7_valueOf 98 = .ok (.iload 4, 2) := by decide +kernel
theorem dX7_valueOf_100 : decode cX7_valueOf 100 = .ok (.iload 6, 2) := by decide +kernel
theorem dX7_valueOf_102 : decode cX7_valueOf 102 = .ok (.sipush 128, 3) := by decide +kernel
theorem dX7_valueOf_105 : decode cX7_valueOf 105 = .ok (.isub, 1) := by decide +kernel
theorem dX7_valueOf_106 : decode cX7_valueOf 106 = .ok (.iastore, 1) := by decide +kernel
theorem dX7_valueOf_107 : decode cX7_valueOf 107 = .ok (.goto 118, 3) := by decide +kernel
theorem dX7_valueOf_110 : decode cX7_valueOf 110 = .ok (.iload 6, 2) := by decide +kernel
theorem dX7_valueOf_112 : decode cX7_valueOf 112 = .ok (.ifCond .lt 39, 3) := by decide +kernel
theorem dX7_valueOf_115 : decode cX7_valueOf 115 = .ok (.iload 6, 2) := by decide +kernel
theorem dX7_valueOf_117 : decode cX7_valueOf 117 = .ok (.aload_n 2, 1) := by decide +kernel
theorem dX7_valueOf_118 : decode cX7_valueOf 118 = .ok (.arraylength, 1) := by decide +kernel
theorem dX7_valueOf_119 : decode cX7_valueOf 119 = .ok (.if_icmp .ge 32, 3) := by decide +kernel
theorem dX7_valueOf_122 : decode cX7_valueOf 122 = .ok (.iload 4, 2) := by decide +kernel
theorem dX7_valueOf_124 : decode cX7_valueOf 124 = .ok (.aload_n 0, 1) := by decide +kernel
theorem dX7_valueOf_125 : decode cX7_valueOf 125 = .ok (.getfield 25, 3) := by decide +kernel
theorem dX7_valueOf_128 : decode cX7_valueOf 128 = .ok (.arraylength, 1) := by decide +kernel
theorem dX7_valueOf_129 : decode cX7_valueOf 129 = .ok (.iconst 1, 1) := by decide +kernel
theorem dX7_valueOf_130 : decode cX7_valueOf 130 = .ok (.isub, 1) := by decide +kernel
theorem dX7_valueOf_131 : decode cX7_valueOf 131 = .ok (.if_icmp .ge 20, 3) := by decide +kernel
theorem dX7_valueOf_134 : decode cX7_valueOf 134 = .ok (.iinc 4 1, 3) := by decide +kernel
theorem dX7_valueOf_137 : decode cX7_valueOf 137 = .ok (.aload_n 0, 1) := by decide +kernel
theorem dX7_valueOf_138 : decode cX7_valueOf 138 = .ok (.getfield 25, 3) := by decide +kernel
theorem dX7_valueOf_141 : decode cX7_valueOf 141 = .ok (.iload 4, 2) := by decide +kernel
theorem dX7_valueOf_143 : decode cX7_valueOf 143 = .ok (.aload_n 2, 1) := by decide +kernel
theorem dX7_valueOf_144 : decode cX7_valueOf 144 = .ok (.iload 6, 2) := by decide +kernel
theorem dX7_valueOf_146 : decode cX7_valueOf 146 = .ok (.iaload, 1) := by decide +kernel
theorem dX7_valueOf_147 : decode cX7_valueOf 147 = .ok (.iastore, 1) := by decide +kernel
theorem dX7_valueOf_148 : decode cX7_valueOf 148 = .ok (.goto 77, 3) := by decide +kernel
theorem dX7_valueOf_151 : decode cX7_valueOf 151 = .ok (.iload 6, 2) := by decide +kernel
theorem dX7_valueOf_153 : decode cX7_valueOf 153 = .ok (.bipush 16, 2) := by decide +kernel
theorem dX7_valueOf_155 : decode cX7_valueOf 155 = .ok (.if_icmp .ne 33, 3) := by decide +kernel
theorem dX7_valueOf_158 : decode cX7_valueOf 158 = .ok (.iload 4, 2) := by decide +kernel
theorem dX7_valueOf_160 : decode cX7_valueOf 160 = .ok (.ifCond .lt 28, 3) := by decide +kernel
theorem dX7_valueOf_163 : decode cX7_valueOf 163 = .ok (.aload_n 0, 1) := by decide +kernel
theorem dX7_valueOf_164 : decode cX7_valueOf 164 = .ok (.getfield 25, 3) := by decide +kernel
theorem dX7_valueOf_167 : decode cX7_valueOf 167 = .ok (.iload 4, 2) := by decide +kernel
theorem dX7_valueOf_169 : decode cX7_valueOf 169 = .ok (.aload_n 0, 1) := by decide +kernel
theorem dX7_valueOf_170 : decode cX7_valueOf 170 = .ok (.getfield 25, 3) := by decide +kernel
theorem dX7_valueOf_173 : decode cX7_valueOf 173 = .ok (.iload 4, 2) := by decide +kernel
theorem dX7_valueOf_175 : decode cX7_valueOf 175 = .ok (.iaload, 1) := by decide +kernel
theorem dX7_valueOf_176 : decode cX7_valueOf 176 = .ok (.ifCond .ne 7, 3) := by decide +kernel
theorem dX7_valueOf_179 : decode cX7_valueOf 179 = .ok (.iconst 1, 1) := by decide +kernel
theorem dX7_valueOf_180 : decode cX7_valueOf 180 = .ok (.goto 4, 3) := by decide +kernel
theorem dX7_valueOf_183 : decode cX7_valueOf 183 = .ok (.iconst 0, 1) := by decide +kernel
theorem dX7_valueOf_184 : decode cX7_valueOf 184 = .ok (.iastore, 1) := by decide +kernel
theorem dX7_valueOf_185 : decode cX7_valueOf 185 = .ok (.goto 40, 3) := by decide +kernel
theorem dX7_valueOf_188 : decode cX7_valueOf 188 = .ok (.iload 4, 2) := by decide +kernel
theorem dX7_valueOf_190 : decode cX7_valueOf 190 = .ok (.iconst 1, 1) := by decide +kernel
theorem dX7_valueOf_191 : decode cX7_valueOf 191 = .ok (.if_icmp .lt 34, 3) := by decide +kernel
theorem dX7_valueOf_194 : decode cX7_valueOf 194 = .ok (.iinc 4 (-1), 3) := by decide +kernel
theorem dX7_valueOf_197 : decode cX7_valueOf 197 = .ok (.aload_n 0, 1) := by decide +kernel
theorem dX7_valueOf_198 : decode cX7_valueOf 198 = .ok (.getfield 25, 3) := by decide +kernel
theorem dX7_valueOf_201 : decode cX7_valueOf 201 = .ok (.iload 4, 2) := by decide +kernel
theorem dX7_valueOf_203 : decode cX7_valueOf 203 = .ok (.iload 6, 2) := by decide +kernel
theorem dX7_valueOf_205 : decode cX7_valueOf 205 = .ok (.aload_n 0, 1) := by decide +kernel
theorem dX7_valueOf_206 : decode cX7_valueOf 206 = .ok (.getfield 25, 3) := by decide +kernel
theorem dX7_valueOf_209 : decode cX7_valueOf 209 = .ok (.iload 4, 2) := by decide +kernel
theorem dX7_valueOf_211 : decode cX7_valueOf 211 = .ok (.iaload, 1) := by decide +kernel
theorem dX7_valueOf_212 : decode cX7_valueOf 212 = .ok (.aload_n 0, 1) := by decide +kernel
theorem dX7_valueOf_213 : decode cX7_valueOf 213 = .ok (.getfield 25, 3) := by decide +kernel
theorem dX7_valueOf_216 : decode cX7_valueOf 216 = .ok (.iload 4, 2) := by decide +kernel
theorem dX7_valueOf_218 : decode cX7_valueOf 218 = .ok (.iconst 1, 1) := by decide +kernel
theorem dX7_valueOf_219 : decode cX7_valueOf 219 = .ok (.iadd, 1) := by decide +kernel
theorem dX7_valueOf_220 : decode cX7_valueOf 220 = .ok (.iaload, 1) := by decide +kernel
theorem dX7_valueOf_221 : decode cX7_valueOf 221 = .ok (.invokestatic 65, 3) := by decide +kernel
theorem dX7_valueOf_224 : decode cX7_valueOf 224 = .ok (.iastore, 1) := by decide +kernel
theorem dX7_valueOf_225 : decode cX7_valueOf 225 = .ok (.iinc 5 1, 3) := by decide +kernel
theorem dX7_valueOf_228 : decode cX7_valueOf 228 = .ok (.goto (-172), 3) := by decide +kernel
theorem dX7_valueOf_231 : decode cX7_valueOf 231 = .ok (.iload 4, 2) := by decide +kernel
theorem dX7_valueOf_233 : decode cX7_valueOf 233 = .ok (.ifCond .lt 12, 3) := by decide +kernel
theorem dX7_valueOf_236 : decode cX7_valueOf 236 = .ok (.aload_n 0, 1) := by decide +kernel
theorem dX7_valueOf_237 : decode cX7_valueOf 237 = .ok (.getfield 25, 3) := by decide +kernel
theorem dX7_valueOf_240 : decode cX7_valueOf 240 = .ok (.iconst 0, 1) := by decide +kernel
theorem dX7_valueOf_241 : decode cX7_valueOf 241 = .ok (.iaload, 1) := by decide +kernel
theorem dX7_valueOf_242 : decode cX7_valueOf 242 = .ok (.goto 4, 3) := by decide +kernel
theorem dX7_valueOf_245 : decode cX7_valueOf 245 = .ok (.iconst 0, 1) := by decide +kernel
theorem dX7_valueOf_246 : decode cX7_valueOf 246 = .ok (.ireturn, 1) := by decide +kernel
theorem dX7_join_0 : decode cX7_join 0 = .ok (.iload_n 0, 1) := by decide +kernel
theorem dX7_join_1 : decode cX7_join 1 = .ok (.lookupswitch 188 #[(14, 91), (15, 105), (37, 176), (42, 160), (43, 152), (45, 156), (47, 164), (60, 119), (61, 141), (62, 130)], 91) := by decide +kernel
theorem dX7_join_92 : decode cX7_join 92 = .ok (.iload_n 1, 1) := by decide +kernel
theorem dX7_join_93 : decode cX7_join 93 = .ok (.ifCond .ne 7, 3) := by decide +kernel
theorem dX7_join_96 : decode cX7_join 96 = .ok (.iload_n 2, 1) := by decide +kernel
theorem dX7_join_97 : decode cX7_join 97 = .ok (.ifCond .eq 7, 3) := by decide +kernel
theorem dX7_join_100 : decode cX7_join 100 = .ok (.iconst 1, 1) := by decide +kernel
theorem dX7_join_101 : decode cX7_join 101 = .ok (.goto 4, 3) := by decide +kernel
theorem dX7_join_104 : decode cX7_join 104 = .ok (.iconst 0, 1) := by decide +kernel
theorem dX7_join_105 : decode cX7_join 105 = .ok (.ireturn, 1) := by decide +kernel
theorem dX7_join_106 : decode cX7_join 106 = .ok (.iload_n 1, 1) := by decide +kernel
theorem dX7_join_107 : decode cX7_join 107 = .ok (.ifCond .eq 11, 3) := by decide +kernel
theorem dX7_join_110 : decode cX7_join 110 = .ok (.iload_n 2, 1) := by decide +kernel
theorem dX7_join_111 : decode cX7_join 111 = .ok (.ifCond .eq 7, 3) := by decide +kernel
theorem dX7_join_114 : decode cX7_join 114 = .ok (.iconst 1, 1) := by decide +kernel
theorem dX7_join_115 : decode cX7_join 115 = .ok (.goto 4, 3) := by decide +kernel
theorem dX7_join_118 : decode cX7_join 118 = .ok (.iconst 0, 1) := by decide +kernel
theorem dX7_join_119 : decode cX7_join 119 = .ok (.ireturn, 1) := by decide +kernel
theorem dX7_join_120 : decode cX7_join 120 = .ok (.iload_n 1, 1) := by decide +kernel
theorem dX7_join_121 : decode cX7_join 121 = .ok (.iload_n 2, 1) := by decide +kernel
theorem dX7_join_122 : decode cX7_join 122 = .ok (.if_icmp .ge 7, 3) := by decide +kernel
theorem dX7_join_125 : decode cX7_join 125 = .ok (.iconst 1, 1) := by decide +kernel
theorem dX7_join_126 : decode cX7_join 126 = .ok (.goto 4, 3) := by decide +kernel
theorem dX7_join_129 : decode cX7_join 129 = .ok (.iconst 0, 1) := by decide +kernel
theorem dX7_join_130 : decode cX7_join 130 = .ok (.ireturn, 1) := by decide +kernel
theorem dX7_join_131 : decode cX7_join 131 = .ok (.iload_n 1, 1) := by decide +kernel
theorem dX7_join_132 : decode cX7_join 132 = .ok (.iload_n 2, 1) := by decide +kernel
theorem dX7_join_133 : decode cX7_join 133 = .ok (.if_icmp .le 7, 3) := by decide +kernel
theorem dX7_join_136 : decode cX7_join 136 = .ok (.iconst 1, 1) := by decide +kernel
theorem dX7_join_137 : decode cX7_join 137 = .ok (.goto 4, 3) := by decide +kernel
theorem dX7_join_140 : decode cX7_join 140 = .ok (.iconst 0, 1) := by decide +kernel
theorem dX7_join_141 : decode cX7_join 141 = .ok (.ireturn, 1) := by decide +kernel
theorem dX7_join_142 : decode cX7_join 142 = .ok (.iload_n 1, 1) := by decide +kernel
theorem dX7_join_143 : decode cX7_join 143 = .ok (.iload_n 2, 1) := by decide +kernel
theorem dX7_join_144 : decode cX7_join 144 = .ok (.if_icmp .ne 7, 3) := by decide +kernel
theorem dX7_join_147 : decode cX7_join 147 = .ok (.iconst 1, 1) := by decide +kernel
theorem dX7_join_148 : decode cX7_join 148 = .ok (.goto 4, 3) := by decide +kernel
theorem dX7_join_151 : decode cX7_join 151 = .ok (.iconst 0, 1) := by decide +kernel
theorem dX7_join_152 : decode cX7_join 152 = .ok (.ireturn, 1) := by decide +kernel
theorem dX7_join_153 : decode cX7_join 153 = .ok (.iload_n 1, 1) := by decide +kernel
theorem dX7_join_154 : decode cX7_join 154 = .ok (.iload_n 2, 1) := by decide +kernel
theorem dX7_join_155 : decode cX7_join 155 = .ok (.iadd, 1) := by decide +kernel
theorem dX7_join_156 : decode cX7_join 156 = .ok (.ireturn, 1) := by decide +kernel
theorem dX7_join_157 : decode cX7_join 157 = .ok (.iload_n 1, 1) := by decide +kernel
theorem dX7_join_158 : decode cX7_join 158 = .ok (.iload_n 2, 1) := by decide +kernel
theorem dX7_join_159 : decode cX7_join 159 = .ok (.isub, 1) := by decide +kernel
theorem dX7_join_160 : decode cX7_join 160 = .ok (.ireturn, 1) := by decide +kernel
theorem dX7_join_161 : decode cX7_join 161 = .ok (.iload_n 1, 1) := by decide +kernel
theorem dX7_join_162 : decode cX7_join 162 = .ok (.iload_n 2, 1) := by decide +kernel
theorem dX7_join_163 : decode cX7_join 163 = .ok (.imul, 1) := by decide +kernel
theorem dX7_join_164 : decode cX7_join 164 = .ok (.ireturn, 1) := by decide +kernel
theorem dX7_join_165 : decode cX7_join 165 = .ok (.iload_n 2, 1) := by decide +kernel
theorem dX7_join_166 : decode cX7_join 166 = .ok (.ifCond .ne 7, 3) := by decide +kernel
theorem dX7_join_169 : decode cX7_join 169 = .ok (.iconst 0, 1) := by decide +kernel
theorem dX7_join_170 : decode cX7_join 170 = .ok (.goto 6, 3) := by decide +kernel
theorem dX7_join_173 : decode cX7_join 173 = .ok (.iload_n 1, 1) := by decide +kernel
theorem dX7_join_174 : decode cX7_join 174 = .ok (.iload_n 2, 1) := by decide +kernel
theorem dX7_join_175 : decode cX7_join 175 = .ok (.idiv, 1) := by decide +kernel
theorem dX7_join_176 : decode cX7_join 176 = .ok (.ireturn, 1) := by decide +kernel
theorem dX7_join_177 : decode cX7_join 177 = .ok (.iload_n 2, 1) := by decide +kernel
theorem dX7_join_178 : decode cX7_join 178 = .ok (.ifCond .ne 7, 3) := by decide +kernel
theorem dX7_join_181 : decode cX7_join 181 = .ok (.iconst 0, 1) := by decide +kernel
theorem dX7_join_182 : decode cX7_join 182 = .ok (.goto 6, 3) := by decide +kernel
theorem dX7_join_185 : decode cX7_join 185 = .ok (.iload_n 1, 1) := by decide +kernel
theorem dX7_join_186 : decode cX7_join 186 = .ok (.iload_n 2, 1) := by decide +kernel
theorem dX7_join_187 : decode cX7_join 187 = .ok (.irem, 1) := by decide +kernel
theorem dX7_join_188 : decode cX7_join 188 = .ok (.ireturn, 1) := by decide +kernel
theorem dX7_join_189 : decode cX7_join 189 = .ok (.iconst 0, 1) := by decide +kernel
theorem dX7_join_190 : decode cX7_join 190 = .ok (.ireturn, 1) := by decide +kernel
theorem dX8_init_0 : decode cX8_init 0 = .ok (.aload_n 0, 1) := by decide +kernel
theorem dX8_init_1 : decode cX8_init 1 = .ok (.invokespecial 3, 3) := by decide +kernel
theorem dX8_init_4 : decode cX8_init 4 = .ok (.aload_n 0, 1) := by decide +kernel
theorem dX8_init_5 : decode cX8_init 5 = .ok (.sipush 1602, 3) := by decide +kernel
theorem dX8_init_8 : decode cX8_init 8 = .ok (.newarray .int, 2) := by decide +kernel
theorem dX8_init_10 : decode cX8_init 10 = .ok (.putfield 9, 3) := by decide +kernel
theorem dX8_init_13 : decode cX8_init 13 = .ok (.aload_n 0, 1) := by decide +kernel
theorem dX8_init_14 : decode cX8_init 14 = .ok (.sipush 1602, 3) := by decide +kernel
theorem dX8_init_17 : decode cX8_init 17 = .ok (.newarray .int, 2) := by decide +kernel
theorem dX8_init_19 : decode cX8_init 19 = .ok (.putfield 15, 3) := by decide +kernel
theorem dX8_init_22 : decode cX8_init 22 = .ok (.aload_n 0, 1) := by decide +kernel
theorem dX8_init_23 : decode cX8_init 23 = .ok (.sipush 1602, 3) := by decide +kernel
theorem dX8_init_26 : decode cX8_init 26 = .ok (.newarray .long, 2) := by decide +kernel
theorem dX8_init_28 : decode cX8_init 28 = .ok (.putfield 18, 3) := by decide +kernel
theorem dX8_init_31 : decode cX8_init 31 = .ok (.aload_n 0, 1) := by decide +kernel
theorem dX8_init_32 : decode cX8_init 32 = .ok (.bipush 17, 2) := by decide +kernel
theorem dX8_init_34 : decode cX8_init 34 = .ok (.newarray .long, 2) := by decide +kernel
theorem dX8_init_36 : decode cX8_init 36 = .ok (.putfield 22, 3) := by decide +kernel
theorem dX8_init_39 : decode cX8_init 39 = .ok (.iconst 0, 1) := by decide +kernel
theorem dX8_init_40 : decode cX8_init 40 = .ok (.istore_n 1, 1) := by decide +kernel
theorem dX8_init_41 : decode cX8_init 41 = .ok (.iconst 0, 1) := by decide +kernel
theorem dX8_init_42 : decode cX8_init 42 = .ok (.istore_n 2, 1) := by decide +kernel
theorem dX8_init_43 : decode cX8_init 43 = .ok (.iload_n 2, 1) := by decide +kernel
theorem dX8_init_44 : decode cX8_init 44 = .ok (.ldc 25, 2) := by decide +kernel
theorem dX8_init_46 : decode cX8_init 46 = .ok (.invokevirtual 27, 3) := by decide +kernel
theorem dX8_init_49 : decode cX8_init 49 = .ok (.if_icmp .ge 53, 3) := by decide +kernel
theorem dX8_init_52 : decode cX8_init 52 = .ok (.iload_n 1, 1) := by decide +kernel
theorem dX8_init_53 : decode cX8_init 53 = .ok (.bipush 17, 2) := by decide +kernel
theorem dX8_init_55 : decode cX8_init 55 = .ok (.if_icmp .ge 47, 3) := by decide +kernel
theorem dX8_init_58 : decode cX8_init 58 = .ok (.ldc 25, 2) := by decide +kernel
theorem dX8_init_60 : decode cX8_init 60 = .ok (.iload_n 2, 1) := by decide +kernel
theorem dX8_init_61 : decode cX8_init 61 = .ok (.invokevirtual 33, 3) := by decide +kernel
theorem dX8_init_64 : decode cX8_init 64 = .ok (.bipush 32, 2) := by decide +kernel
theorem dX8_init_66 : decode cX8_init 66 = .ok (.if_icmp .ne 9, 3) := by decide +kernel
theorem dX8_init_69 : decode cX8_init 69 = .ok (.iinc 1 1, 3) := by decide +kernel
theorem dX8_init_72 : decode cX8_init 72 = .ok (.goto 24, 3) := by decide +kernel
theorem dX8_init_75 : decode cX8_init 75 = .ok (.aload_n 0, 1) := by decide +kernel
theorem dX8_init_76 : decode cX8_init 76 = .ok (.getfield 22, 3) := by decide +kernel
theorem dX8_init_79 : decode cX8_init 79 = .ok (.iload_n 1, 1) := by decide +kernel
theorem dX8_init_80 : decode cX8_init 80 = .ok (.aload_n 0, 1) := by decide +kernel
theorem dX8_init_81 : decode cX8_init 81 = .ok (.getfield 22, 3) := by decide +kernel
theorem dX8_init_84 : decode cX8_init 84 = .ok (.iload_n 1, 1) := by decide +kernel
theorem dX8_init_85 : decode cX8_init 85 = .ok (.laload, 1) := by decide +kernel
theorem dX8_init_86 : decode cX8_init 86 = .ok (.ldc 25, 2) := by decide +kernel
theorem dX8_init_88 : decode cX8_init 88 = .ok (.iload_n 2, 1) := by decide +kernel
theorem dX8_init_89 : decode cX8_init 89 = .ok (.invokevirtual 33, 3) := by decide +kernel
theorem dX8_init_92 : decode cX8_init 92 = .ok (.invokestatic 37, 3) := by decide +kernel
theorem dX8_init_95 : decode cX8_init 95 = .ok (.lastore, 1) := by decide +kernel
theorem dX8_init_96 : decode cX8_init 96 = .ok (.iinc 2 1, 3) := by decide +kernel
theorem dX8_init_99 : decode cX8_init 99 = .ok (.goto (-56), 3) := by decide +kernel
theorem dX8_init_102 : decode cX8_init 102 = .ok (.return_, 1) := by decide +kernel
theorem dX8_split_0 : decode cX8_split 0 = .ok (.aload_n 0, 1) := by decide +kernel
theorem dX8_split_1 : decode cX8_split 1 = .ok (.iconst 0, 1) := by decide +kernel
theorem dX8_split_2 : decode cX8_split 2 = .ok (.putfield 41, 3) := by decide +kernel
theorem dX8_split_5 : decode cX8_split 5 = .ok (.iload_n 2, 1) := by decide +kernel
theorem dX8_split_6 : decode cX8_split 6 = .ok (.aload_n 1, 1) := by decide +kernel
theorem dX8_split_7 : decode cX8_split 7 = .ok (.arraylength, 1) := by decide +kernel
theorem dX8_split_8 : decode cX8_split 8 = .ok (.invokestatic 45, 3) := by decide +kernel
theorem dX8_split_11 : decode cX8_split 11 = .ok (.istore_n 3, 1) := by decide +kernel
theorem dX8_split_12 : decode cX8_split 12 = .ok (.iconst 0, 1) := by decide +kernel
theorem dX8_split_13 : decode cX8_split 13 = .ok (.istore 4, 2) := by decide +kernel
theorem dX8_split_15 : decode cX8_split 15 = .ok (.iconst 0, 1) := by decide +kernel
theorem dX8_split_16 : decode cX8_split 16 = .ok (.istore 5, 2) := by decide +kernel
theorem dX8_split_18 : decode cX8_split 18 = .ok (.iload 5, 2) := by decide +kernel
theorem dX8_split_20 : decode cX8_split 20 = .ok (.sipush 1600, 3) := by decide +kernel
theorem dX8_split_23 : decode cX8_split 23 = .ok (.if_icmp .ge 99, 3) := by decide +kernel
theorem dX8_split_26 : decode cX8_split 26 = .ok (.iload 4, 2) := by decide +kernel
theorem dX8_split_28 : decode cX8_split 28 = .ok (.ifCond .lt 94, 3) := by decide +kernel
theorem dX8_split_31 : decode cX8_split 31 = .ok (.iload 4, 2) := by decide +kernel
theorem dX8_split_33 : decode cX8_split 33 = .ok (.iload_n 3, 1) := by decide +kernel
theorem dX8_split_34 : decode cX8_split 34 = .ok (.if_icmp .ge 88, 3) := by decide +kernel
theorem dX8_split_37 : decode cX8_split 37 = .ok (.aload_n 1, 1) := by decide +kernel
theorem dX8_split_38 : decode cX8_split 38 = .ok (.iload 4, 2) := by decide +kernel
theorem dX8_split_40 : decode cX8_split 40 = .ok (.baload, 1) := by decide +kernel
theorem dX8_split_41 : decode cX8_split 41 = .ok (.istore 6, 2) := by decide +kernel
theorem dX8_split_43 : decode cX8_split 43 = .ok (.iload 6, 2) := by decide +kernel
theorem dX8_split_45 : decode cX8_split 45 = .ok (.bipush 32, 2) := by decide +kernel
theorem dX8_split_47 : decode cX8_split 47 = .ok (.if_icmp .eq 10, 3) := by decide +kernel
theorem dX8_split_50 : decode cX8_split 50 = .ok (.iload 6, 2) := by decide +kernel
theorem dX8_split_52 : decode cX8_split 52 = .ok (.bipush 10, 2) := by decide +kernel
theorem dX8_split_54 : decode cX8_split 54 = .ok (.if_icmp .ne 9, 3) := by decide +kernel
theorem dX8_split_57 : decode cX8_split 57 = .ok (.iinc 4 1, 3) := by decide +kernel
theorem dX8_split_60 : decode cX8_split 60 = .ok (.goto 56, 3) := by decide +kernel
theorem dX8_split_63 : decode cX8_split 63 = .ok (.iload 6, 2) := by decide +kernel
theorem dX8_split_65 : decode cX8_split 65 = .ok (.invokestatic 51, 3) := by decide +kernel
theorem dX8_split_68 : decode cX8_split 68 = .ok (.ifCond .eq 16, 3) := by decide +kernel
theorem dX8_split_71 : decode cX8_split 71 = .ok (.aload_n 0, 1) := by decide +kernel
theorem dX8_split_72 : decode cX8_split 72 = .ok (.aload_n 1, 1) := by decide +kernel
theorem dX8_split_73 : decode cX8_split 73 = .ok (.iload 4, 2) := by decide +kernel
theorem dX8_split_75 : decode cX8_split 75 = .ok (.iload_n 3, 1) := by decide +kernel
theorem dX8_split_76 : decode cX8_split 76 = .ok (.invokevirtual 55, 3) := by decide +kernel
theorem dX8_split_79 : decode cX8_split 79 = .ok (.istore 4, 2) := by decide +kernel
theorem dX8_split_81 : decode cX8_split 81 = .ok (.goto 35, 3) := by decide +kernel
theorem dX8_split_84 : decode cX8_split 84 = .ok (.iload 6, 2) := by decide +kernel
theorem dX8_split_86 : decode cX8_split 86 = .ok (.invokestatic 59, 3) := by decide +kernel
theorem dX8_split_89 : decode cX8_split 89 = .ok (.ifCond .eq 16, 3) := by decide +kernel
theorem dX8_split_92 : decode cX8_split 92 = .ok (.aload_n 0, 1) := by decide +kernel
theorem dX8_split_93 : decode cX8_split 93 = .ok (.aload_n 1, 1) := by decide +kernel
theorem dX8_split_94 : decode cX8_split 94 = .ok (.iload 4, 2) := by decide +kernel
theorem dX8_split_96 : decode cX8_split 96 = .ok (.iload_n 3, 1) := by decide +kernel
theorem dX8_split_97 : decode cX8_split 97 = .ok (.invokevirtual 62, 3) := by decide +kernel
theorem dX8_split_100 : decode cX8_split 100 = .ok (.istore 4, 2) := by decide +kernel
theorem dX8_split_102 : decode cX8_split 102 = .ok (.goto 14, 3) := by decide +kernel
theorem dX8_split_105 : decode cX8_split 105 = .ok (.aload_n 0, 1) := by decide +kernel
theorem dX8_split_106 : decode cX8_split 106 = .ok (.iload 6, 2) := by decide +kernel
theorem dX8_split_108 : decode cX8_split 108 = .ok (.iload 4, 2) := by decide +kernel
theorem dX8_split_110 : decode cX8_split 110 = .ok (.iload_n 3, 1) := by decide +kernel
theorem dX8_split_111 : decode cX8_split 111 = .ok (.invokevirtual 65, 3) := by decide +kernel
theorem dX8_split_114 : decode cX8_split 114 = .ok (.istore 4, 2) := by decide +kernel
theorem dX8_split_116 : decode cX8_split 116 = .ok (.iinc 5 1, 3) := by decide +kernel
theorem dX8_split_119 : decode cX8_split 119 = .ok (.goto (-101), 3) := by decide +kernel
theorem dX8_split_122 : decode cX8_split 122 = .ok (.aload_n 0, 1) := by decide +kernel
theorem dX8_split_123 : decode cX8_split 123 = .ok (.bipush 22, 2) := by decide +kernel
theorem dX8_split_125 : decode cX8_split 125 = .ok (.iload_n 2, 1) := by decide +kernel
theorem dX8_split_126 : decode cX8_split 126 = .ok (.lconst 0, 1) := by decide +kernel
theorem dX8_split_127 : decode cX8_split 127 = .ok (.invokevirtual 69, 3) := by decide +kernel
theorem dX8_split_130 : decode cX8_split 130 = .ok (.return_, 1) := by decide +kernel
theorem dX8_splitWord_0 : decode cX8_splitWord 0 = .ok (.lconst 0, 1) := by decide +kernel
theorem dX8_splitWord_1 : decode cX8_splitWord 1 = .ok (.lstore 4, 2) := by decide +kernel
theorem dX8_splitWord_3 : decode cX8_splitWord 3 = .ok (.iload_n 2, 1) := by decide +kernel
theorem dX8_splitWord_4 : decode cX8_splitWord 4 = .ok (.istore 6, 2) := by decide +kernel
theorem dX8_splitWord_6 : decode cX8_splitWord 6 = .ok (.iload 6, 2) := by decide +kernel
theorem dX8_splitWord_8 : decode cX8_splitWord 8 = .ok (.iload_n 3, 1) := by decide +kernel
theorem dX8_splitWord_9 : decode cX8_splitWord 9 = .ok (.if_icmp .ge 30, 3) := by decide +kernel
theorem dX8_splitWord_12 : decode cX8_splitWord 12 = .ok (.aload_n 1, 1) := by decide +kernel
theorem dX8_splitWord_13 : decode cX8_splitWord 13 = .ok (.iload 6, 2) := by decide +kernel
theorem dX8_splitWord_15 : decode cX8_splitWord 15 = .ok (.baload, 1) := by decide +kernel
theorem dX8_splitWord_16 : decode cX8_splitWord 16 = .ok (.invokestatic 51, 3) := by decide +kernel
theorem dX8_splitWord_19 : decode cX8_splitWord 19 = .ok (.ifCond .eq 20, 3) := by decide +kernel
theorem dX8_splitWord_22 : decode cX8_splitWord 22 = .ok (.lload 4, 2) := by decide +kernel
theorem dX8_splitWord_24 : decode cX8_splitWord 24 = .ok (.aload_n 1, 1) := by decide +kernel
theorem dX8_splitWord_25 : decode cX8_splitWord 25 = .ok (.iload 6, 2) := by decide +kernel
theorem dX8_splitWord_27 : decode cX8_splitWord 27 = .ok (.baload, 1) := by decide +kernel
theorem dX8_splitWord_28 : decode cX8_splitWord 28 = .ok (.invokestatic 37, 3) := by decide +kernel
theorem dX8_splitWord_31 : decode cX8_splitWord 31 = .ok (.lstore 4, 2) := by decide +kernel
theorem dX8_splitWord_33 : decode cX8_splitWord 33 = .ok (.iinc 6 1, 3) := by decide +kernel
theorem dX8_splitWord_36 : decode cX8_splitWord 36 = .ok (.goto (-30), 3) := by decide +kernel
theorem dX8_splitWord_39 : decode cX8_splitWord 39 = .ok (.iload 6, 2) := by decide +kernel
theorem dX8_splitWord_41 : decode cX8_splitWord 41 = .ok (.iload_n 2, 1) := by decide +kernel
theorem dX8_splitWord_42 : decode cX8_splitWord 42 = .ok (.isub, 1) := by decide +kernel
theorem dX8_splitWord_43 : decode cX8_splitWord 43 = .ok (.bipush 8, 2) := by decide +kernel
theorem dX8_splitWord_45 : decode cX8_splitWord 45 = .ok (.if_icmp .le 13, 3) := by decide +kernel
theorem dX8_splitWord_48 : decode cX8_splitWord 48 = .ok (.aload_n 0, 1) := by decide +kernel
theorem dX8_splitWord_49 : decode cX8_splitWord 49 = .ok (.bipush 23, 2) := by decide +kernel
theorem dX8_splitWord_51 : decode cX8_splitWord 51 = .ok (.iload_n 2, 1) := by decide +kernel
theorem dX8_splitWord_52 : decode cX8_splitWord 52 = .ok (.lconst 0, 1) := by decide +kernel
theorem dX8_splitWord_53 : decode cX8_splitWord 53 = .ok (.invokevirtual 69, 3) := by decide +kernel
theorem dX8_splitWord_56 : decode cX8_splitWord 56 = .ok (.iload_n 3, 1) := by decide +kernel
theorem dX8_splitWord_57 : decode cX8_splitWord 57 = .ok (.ireturn, 1) := by decide +kernel
theorem dX8_splitWord_58 : decode cX8_splitWord 58 = .ok (.aload_n 0, 1) := by decide +kernel
theorem dX8_splitWord_59 : decode cX8_splitWord 59 = .ok (.aload_n 0, 1) := by decide +kernel
theorem dX8_splitWord_60 : decode cX8_splitWord 60 = .ok (.lload 4, 2) := by decide +kernel
theorem dX8_splitWord_62 : decode cX8_splitWord 62 = .ok (.invokevirtual 73, 3) := by decide +kernel
theorem dX8_splitWord_65 : decode cX8_splitWord 65 = .ok (.iload_n 2, 1) := by decide +kernel
theorem dX8_splitWord_66 : decode cX8_splitWord 66 = .ok (.lload 4, 2) := by decide +kernel
theorem dX8_splitWord_68 : decode cX8_splitWord 68 = .ok (.invokevirtual 69, 3) := by decide +kernel
theorem dX8_splitWord_71 : decode cX8_splitWord 71 = .ok (.iload 6, 2) := by decide +kernel
theorem dX8_splitWord_73 : decode cX8_splitWord 73 = .ok (.ireturn, 1) := by decide +kernel
theorem dX8_splitNumber_0 : decode cX8_splitNumber 0 = .ok (.iconst 0, 1) := by decide +kernel
theorem dX8_splitNumber_1 : decode cX8_splitNumber 1 = .ok (.istore 4, 2) := by decide +kernel
theorem dX8_splitNumber_3 : decode cX8_splitNumber 3 = .ok (.iload_n 2, 1) := by decide +kernel
theorem dX8_splitNumber_4 : decode cX8_splitNumber 4 = .ok (.istore 5, 2) := by decide +kernel
theorem dX8_splitNumber_6 : decode cX8_splitNumber 6 = .ok (.iload 5, 2) := by decide +kernel
theorem dX8_splitNumber_8 : decode cX8_splitNumber 8 = .ok (.iload_n 3, 1) := by decide +kernel
theorem dX8_splitNumber_9 : decode cX8_splitNumber 9 = .ok (.if_icmp .ge 34, 3) := by decide +kernel
theorem dX8_splitNumber_12 : decode cX8_splitNumber 12 = .ok (.aload_n 1, 1) := by decide +kernel
theorem dX8_splitNumber_13 : decode cX8_splitNumber 13 = .ok (.iload 5, 2) := by decide +kernel
theorem dX8_splitNumber_15 : decode cX8_splitNumber 15 = .ok (.baload, 1) := by decide +kernel
theorem dX8_splitNumber_16 : decode cX8_splitNumber 16 = .ok (.invokestatic 59, 3) := by decide +kernel
theorem dX8_splitNumber_19 : decode cX8_splitNumber 19 = .ok (.ifCond .eq 24, 3) := by decide +kernel
theorem dX8_splitNumber_22 : decode cX8_splitNumber 22 = .ok (.iload 4, 2) := by decide +kernel
theorem dX8_splitNumber_24 : decode cX8_splitNumber 24 = .ok (.bipush 10, 2) := by decide +kernel
theorem dX8_splitNumber_26 : decode cX8_splitNumber 26 = .ok (.imul, 1) := by decide +kernel
theorem dX8_splitNumber_27 : decode cX8_splitNumber 27 = .ok (.aload_n 1, 1) := by decide +kernel
theorem dX8_splitNumber_28 : decode cX8_splitNumber 28 = .ok (.iload 5, 2) := by decide +kernel
theorem dX8_splitNumber_30 : decode cX8_splitNumber 30 = .ok (.baload, 1) := by decide +kernel
theorem dX8_splitNumber_31 : decode cX8_splitNumber 31 = .ok (.iadd, 1) := by decide +kernel
theorem dX8_splitNumber_32 : decode cX8_splitNumber 32 = .ok (.bipush 48, 2) := by decide +kernel
theorem dX8_splitNumber_34 : decode cX8_splitNumber 34 = .ok (.isub, 1) := by decide +kernel
theorem dX8_splitNumber_35 : decode cX8_splitNumber 35 = .ok (.istore 4, 2) := by decide +kernel
theorem dX8_splitNumber_37 : decode cX8_splitNumber 37 = .ok (.iinc 5 1, 3) := by decide +kernel
theorem dX8_splitNumber_40 : decode cX8_splitNumber 40 = .ok (.goto (-34), 3) := by decide +kernel
theorem dX8_splitNumber_43 : decode cX8_splitNumber 43 = .ok (.iload 5, 2) := by decide +kernel
theorem dX8_splitNumber_45 : decode cX8_splitNumber 45 = .ok (.iload_n 2, 1) := by decide +kernel
theorem dX8_splitNumber_46 : decode cX8_splitNumber 46 = .ok (.isub, 1) := by decide +kernel
theorem dX8_splitNumber_47 : decode cX8_splitNumber 47 = .ok (.iconst 4, 1) := by decide +kernel
theorem dX8_splitNumber_48 : decode cX8_splitNumber 48 = .ok (.if_icmp .gt 19, 3) := by decide +kernel
theorem dX8_splitNumber_51 : decode cX8_splitNumber 51 = .ok (.iload 5, 2) := by decide +kernel
theorem dX8_splitNumber_53 : decode cX8_splitNumber 53 = .ok (.iload_n 3, 1) := by decide +kernel
theorem dX8_splitNumber_54 : decode cX8_splitNumber 54 = .ok (.if_icmp .ge 23, 3) := by decide +kernel
theorem dX8_splitNumber_57 : decode cX8_splitNumber 57 = .ok (.aload_n 1, 1) := by decide +kernel
theorem dX8_splitNumber_58 : decode cX8_splitNumber 58 = .ok (.iload 5, 2) := by decide +kernel
theorem dX8_splitNumber_60 : decode cX8_splitNumber 60 = .ok (.baload, 1) := by decide +kernel
theorem dX8_splitNumber_61 : decode cX8_splitNumber 61 = .ok (.invokestatic 51, 3) := by decide +kernel
theorem dX8_splitNumber_64 : decode cX8_splitNumber 64 = .ok (.ifCond .eq 13, 3) := by decide +kernel
theorem dX8_splitNumber_67 : decode cX8_splitNumber 67 = .ok (.aload_n 0, 1) := by decide +kernel
theorem dX8_splitNumber_68 : decode cX8_splitNumber 68 = .ok (.bipush 23, 2) := by decide +kernel
theorem dX8_splitNumber_70 : decode cX8_splitNumber 70 = .ok (.iload_n 2, 1) := by decide +kernel
theorem dX8_splitNumber_71 : decode cX8_splitNumber 71 = .ok (.lconst 0, 1) := by decide +kernel
theorem dX8_splitNumber_72 : decode cX8_splitNumber 72 = .ok (.invokevirtual 69, 3) := by decide +kernel
theorem dX8_splitNumber_75 : decode cX8_splitNumber 75 = .ok (.iload_n 3, 1) := by decide +kernel
theorem dX8_splitNumber_76 : decode cX8_splitNumber 76 = .ok (.ireturn, 1) := by decide +kernel
theorem dX8_splitNumber_77 : decode cX8_splitNumber 77 = .ok (.aload_n 0, 1) := by decide +kernel
theorem dX8_splitNumber_78 : decode cX8_splitNumber 78 = .ok (.bipush 21, 2) := by decide +kernel
theorem dX8_splitNumber_80 : decode cX8_splitNumber 80 = .ok (.iload_n 2, 1) := by decide +kernel
theorem dX8_splitNumber_81 : decode cX8_splitNumber 81 = .ok (.iload 4, 2) := by decide +kernel
theorem dX8_splitNumber_83 : decode cX8_splitNumber 83 = .ok (.i2l, 1) := by decide +kernel
theorem dX8_splitNumber_84 : decode cX8_splitNumber 84 = .ok (.invokevirtual 69, 3) := by decide +kernel
theorem dX8_splitNumber_87 : decode cX8_splitNumber 87 = .ok (.iload 5, 2) := by decide +kernel
theorem dX8_splitNumber_89 : decode cX8_splitNumber 89 = .ok (.ireturn, 1) := by decide +kernel
theorem dX8_splitSign_0 : decode cX8_splitSign 0 = .ok (.iload_n 1, 1) := by decide +kernel
theorem dX8_splitSign_1 : decode cX8_splitSign 1 = .ok (.bipush 32, 2) := by decide +kernel
theorem dX8_splitSign_3 : decode cX8_splitSign 3 = .ok (.if_icmp .le 14, 3) := by decide +kernel
theorem dX8_splitSign_6 : decode cX8_splitSign 6 = .ok (.iload_n 1, 1) := by decide +kernel
theorem dX8_splitSign_7 : decode cX8_splitSign 7 = .ok (.invokestatic 77, 3) := by decide +kernel
theorem dX8_splitSign_10 : decode cX8_splitSign 10 = .ok (.ifCond .lt 7, 3) := by decide +kernel
theorem dX8_splitSign_13 : decode cX8_splitSign 13 = .ok (.iconst 1, 1) := by decide +kernel
theorem dX8_splitSign_14 : decode cX8_splitSign 14 = .ok (.goto 4, 3) := by decide +kernel
theorem dX8_splitSign_17 : decode cX8_splitSign 17 = .ok (.iconst 0, 1) := by decide +kernel
theorem dX8_splitSign_18 : decode cX8_splitSign 18 = .ok (.istore 4, 2) := by decide +kernel
theorem dX8_splitSign_20 : decode cX8_splitSign 20 = .ok (.iload_n 1, 1) := by decide +kernel
theorem dX8_splitSign_21 : decode cX8_splitSign 21 = .ok (.bipush 59, 2) := by decide +kernel
theorem dX8_splitSign_23 : decode cX8_splitSign 23 = .ok (.if_icmp .eq 20, 3) := by decide +kernel
theorem dX8_splitSign_26 : decode cX8_splitSign 26 = .ok (.iload_n 1, 1) := by decide +kernel
theorem dX8_splitSign_27 : decode cX8_splitSign 27 = .ok (.bipush 40, 2) := by decide +kernel
theorem dX8_splitSign_29 : decode cX8_splitSign 29 = .ok (.if_icmp .eq 14, 3) := by decide +kernel
theorem dX8_splitSign_32 : decode cX8_splitSign 32 = .ok (.iload_n 1, 1) := by decide +kernel
theorem dX8_splitSign_33 : decode cX8_splitSign 33 = .ok (.bipush 41, 2) := by decide +kernel
theorem dX8_splitSign_35 : decode cX8_splitSign 35 = .ok (.if_icmp .eq 8, 3) := by decide +kernel
theorem dX8_splitSign_38 : decode cX8_splitSign 38 = .ok (.iload 4, 2) := by decide +kernel
theorem dX8_splitSign_40 : decode cX8_splitSign 40 = .ok (.ifCond .eq 14, 3) := by decide +kernel
theorem dX8_splitSign_43 : decode cX8_splitSign 43 = .ok (.aload_n 0, 1) := by decide +kernel
theorem dX8_splitSign_44 : decode cX8_splitSign 44 = .ok (.iload_n 1, 1) := by decide +kernel
theorem dX8_splitSign_45 : decode cX8_splitSign 45 = .ok (.iload_n 2, 1) := by decide +kernel
theorem dX8_splitSign_46 : decode cX8_splitSign 46 = .ok (.lconst 0, 1) := by decide +kernel
theorem dX8_splitSign_47 : decode cX8_splitSign 47 = .ok (.invokevirtual 69, 3) := by decide +kernel
theorem dX8_splitSign_50 : decode cX8_splitSign 50 = .ok (.iload_n 2, 1) := by decide +kernel
theorem dX8_splitSign_51 : decode cX8_splitSign 51 = .ok (.iconst 1, 1) := by decide +kernel
theorem dX8_splitSign_52 : decode cX8_splitSign 52 = .ok (.iadd, 1) := by decide +kernel
theorem dX8_splitSign_53 : decode cX8_splitSign 53 = .ok (.ireturn, 1) := by decide +kernel
theorem dX8_splitSign_54 : decode cX8_splitSign 54 = .ok (.aload_n 0, 1) := by decide +kernel
theorem dX8_splitSign_55 : decode cX8_splitSign 55 = .ok (.bipush 23, 2) := by decide +kernel
theorem dX8_splitSign_57 : decode cX8_splitSign 57 = .ok (.iload_n 2, 1) := by decide +kernel
theorem dX8_splitSign_58 : decode cX8_splitSign 58 = .ok (.lconst 0, 1) := by decide +kernel
theorem dX8_splitSign_59 : decode cX8_splitSign 59 = .ok (.invokevirtual 69, 3) := by decide +kernel
theorem dX8_splitSign_62 : decode cX8_splitSign 62 = .ok (.iload_n 3, 1) := by decide +kernel
theorem dX8_splitSign_63 : decode cX8_splitSign 63 = .ok (.ireturn, 1) := by decide +kernel
theorem dX8_add_0 : decode cX8_add 0 = .ok (.aload_n 0, 1) := by decide +kernel
theorem dX8_add_1 : decode cX8_add 1 = .ok (.getfield 41, 3) := by decide +kernel
theorem dX8_add_4 : decode cX8_add 4 = .ok (.ifCond .lt 55, 3) := by decide +kernel
theorem dX8_add_7 : decode cX8_add 7 = .ok (.aload_n 0, 1) := by decide +kernel
theorem dX8_add_8 : decode cX8_add 8 = .ok (.getfield 41, 3) := by decide +kernel
theorem dX8_add_11 : decode cX8_add 11 = .ok (.aload_n 0, 1) := by decide +kernel
theorem dX8_add_12 : decode cX8_add 12 = .ok (.getfield 9, 3) := by decide +kernel
theorem dX8_add_15 : decode cX8_add 15 = .ok (.arraylength, 1) := by decide +kernel
theorem dX8_add_16 : decode cX8_add 16 = .ok (.if_icmp .ge 43, 3) := by decide +kernel
theorem dX8_add_19 : decode cX8_add 19 = .ok (.aload_n 0, 1) := by decide +kernel
theorem dX8_add_20 : decode cX8_add 20 = .ok (.getfield 9, 3) := by decide +kernel
theorem dX8_add_23 : decode cX8_add 23 = .ok (.aload_n 0, 1) := by decide +kernel
theorem dX8_add_24 : decode cX8_add 24 = .ok (.getfield 41, 3) := by decide +kernel
theorem dX8_add_27 : decode cX8_add 27 = .ok (.iload_n 1, 1) := by decide +kernel
theorem dX8_add_28 : decode cX8_add 28 = .ok (.iastore, 1) := by decide +kernel
theorem dX8_add_29 : decode cX8_add 29 = .ok (.aload_n 0, 1) := by decide +kernel
theorem dX8_add_30 : decode cX8_add 30 = .ok (.getfield 15, 3) := by decide +kernel
theorem dX8_add_33 : decode cX8_add 33 = .ok (.aload_n 0, 1) := by decide +kernel
theorem dX8_add_34 : decode cX8_add 34 = .ok (.getfield 41, 3) := by decide +kernel
theorem dX8_add_37 : decode cX8_add 37 = .ok (.iload_n 2, 1) := by decide +kernel
theorem dX8_add_38 : decode cX8_add 38 = .ok (.iastore, 1) := by decide +kernel
theorem dX8_add_39 : decode cX8_add 39 = .ok (.aload_n 0, 1) := by decide +kernel
theorem dX8_add_40 : decode cX8_add 40 = .ok (.getfield 18, 3) := by decide +kernel
theorem dX8_add_43 : decode cX8_add 43 = .ok (.aload_n 0, 1) := by decide +kernel
theorem dX8_add_44 : decode cX8_add 44 = .ok (.getfield 41, 3) := by decide +kernel
theorem dX8_add_47 : decode cX8_add 47 = .ok (.lload_n 3, 1) := by decide +kernel
theorem dX8_add_48 : decode cX8_add 48 = .ok (.lastore, 1) := by decide +kernel
theorem dX8_add_49 : decode cX8_add 49 = .ok (.aload_n 0, 1) := by decide +kernel
theorem dX8_add_50 : decode cX8_add 50 = .ok (.dup, 1) := by decide +kernel
theorem dX8_add_51 : decode cX8_add 51 = .ok (.getfield 41, 3) := by decide +kernel
theorem dX8_add_54 : decode cX8_add 54 = .ok (.iconst 1, 1) := by decide +kernel
theorem dX8_add_55 : decode cX8_add 55 = .ok (.iadd, 1) := by decide +kernel
theorem dX8_add_56 : decode cX8_add 56 = .ok (.putfield 41, 3) := by decide +kernel
theorem dX8_add_59 : decode cX8_add 59 = .ok (.return_, 1) := by decide +kernel
theorem dX8_kindOf_0 : decode cX8_kindOf 0 = .ok (.iconst 0, 1) := by decide +kernel
theorem dX8_kindOf_1 : decode cX8_kindOf 1 = .ok (.istore_n 3, 1) := by decide +kernel
theorem dX8_kindOf_2 : decode cX8_kindOf 2 = .ok (.iload_n 3, 1) := by decide +kernel
theorem dX8_kindOf_3 : decode cX8_kindOf 3 = .ok (.aload_n 0, 1) := by decide +kernel
theorem dX8_kindOf_4 : decode cX8_kindOf 4 = .ok (.getfield 22, 3) := by decide +kernel
theorem dX8_kindOf_7 : decode cX8_kindOf 7 = .ok (.arraylength, 1) := by decide +kernel
theorem dX8_kindOf_8 : decode cX8_kindOf 8 = .ok (.if_icmp .ge 22, 3) := by decide +kernel
theorem dX8_kindOf_11 : decode cX8_kindOf 11 = .ok (.aload_n 0, 1) := by decide +kernel
theorem dX8_kindOf_12 : decode cX8_kindOf 12 = .ok (.getfield 22, 3) := by decide +kernel
theorem dX8_kindOf_15 : decode cX8_kindOf 15 = .ok (.iload_n 3, 1) := by decide +kernel
theorem dX8_kindOf_16 : decode cX8_kindOf 16 = .ok (.laload, 1) := by decide +kernel
theorem dX8_kindOf_17 : decode cX8_kindOf 17 = .ok (.lload_n 1, 1) := by decide +kernel
theorem dX8_kindOf_18 : decode cX8_kindOf 18 = .ok (.lcmp, 1) := by decide +kernel
theorem dX8_kindOf_19 : decode cX8_kindOf 19 = .ok (.ifCond .ne 5, 3) := by decide +kernel
theorem dX8_kindOf_22 : decode cX8_kindOf 22 = .ok (.iload_n 3, 1) := by decide +kernel
theorem dX8_kindOf_23 : decode cX8_kindOf 23 = .ok (.ireturn, 1) := by decide +kernel
theorem dX8_kindOf_24 : decode cX8_kindOf 24 = .ok (.iinc 3 1, 3) := by decide +kernel
theorem dX8_kindOf_27 : decode cX8_kindOf 27 = .ok (.goto (-25), 3) := by decide +kernel
theorem dX8_kindOf_30 : decode cX8_kindOf 30 = .ok (.bipush 20, 2) := by decide +kernel
theorem dX8_kindOf_32 : decode cX8_kindOf 32 = .ok (.ireturn, 1) := by decide +kernel
theorem dX8_withLetter_0 : decode cX8_withLetter 0 = .ok (.lload_n 0, 1) := by decide +kernel
theorem dX8_withLetter_1 : decode cX8_withLetter 1 = .ok (.ldc2_w 81, 3) := by decide +kernel
theorem dX8_withLetter_4 : decode cX8_withLetter 4 = .ok (.lmul, 1) := by decide +kernel
theorem dX8_withLetter_5 : decode cX8_withLetter 5 = .ok (.iload_n 2, 1) := by decide +kernel
theorem dX8_withLetter_6 : decode cX8_withLetter 6 = .ok (.i2l, 1) := by decide +kernel
theorem dX8_withLetter_7 : decode cX8_withLetter 7 = .ok (.ladd, 1) := by decide +kernel
theorem dX8_withLetter_8 : decode cX8_withLetter 8 = .ok (.ldc2_w 83, 3) := by decide +kernel
theorem dX8_withLetter_11 : decode cX8_withLetter 11 = .ok (.lsub, 1) := by decide +kernel
theorem dX8_withLetter_12 : decode cX8_withLetter 12 = .ok (.lconst 1, 1) := by decide +kernel
theorem dX8_withLetter_13 : decode cX8_withLetter 13 = .ok (.ladd, 1) := by decide +kernel
theorem dX8_withLetter_14 : decode cX8_withLetter 14 = .ok (.lreturn, 1) := by decide +kernel
theorem dX8_isLetter_0 : decode cX8_isLetter 0 = .ok (.iload_n 0, 1) := by decide +kernel
theorem dX8_isLetter_1 : decode cX8_isLetter 1 = .ok (.bipush 97, 2) := by decide +kernel
theorem dX8_isLetter_3 : decode cX8_isLetter 3 = .ok (.if_icmp .lt 13, 3) := by decide +kernel
theorem dX8_isLetter_6 : decode cX8_isLetter 6 = .ok (.iload_n 0, 1) := by decide +kernel
theorem dX8_isLetter_7 : decode cX8_isLetter 7 = .ok (.bipush 122, 2) := by decide +kernel
theorem dX8_isLetter_9 : decode cX8_isLetter 9 = .ok (.if_icmp .gt 7, 3) := by decide +kernel
theorem dX8_isLetter_12 : decode cX8_isLetter 12 = .ok (.iconst 1, 1) := by decide +kernel
theorem dX8_isLetter_13 : decode cX8_isLetter 13 = .ok (.goto 4, 3) := by decide +kernel
theorem dX8_isLetter_16 : decode cX8_isLetter 16 = .ok (.iconst 0, 1) := by decide +kernel
theorem dX8_isLetter_17 : decode cX8_isLetter 17 = .ok (.ireturn, 1) := by decide +kernel
theorem dX8_isDigit_0 : decode cX8_isDigit 0 = .ok (.iload_n 0, 1) := by decide +kernel
theorem dX8_isDigit_1 : decode cX8_isDigit 1 = .ok (.bipush 48, 2) := by decide +kernel
theorem dX8_isDigit_3 : decode cX8_isDigit 3 = .ok (.if_icmp .lt 13, 3) := by decide +kernel
theorem dX8_isDigit_6 : decode cX8_isDigit 6 = .ok (.iload_n 0, 1) := by decide +kernel
theorem dX8_isDigit_7 : decode cX8_isDigit 7 = .ok (.bipush 57, 2) := by decide +kernel
theorem dX8_isDigit_9 : decode cX8_isDigit 9 = .ok (.if_icmp .gt 7, 3) := by decide +kernel
theorem dX8_isDigit_12 : decode cX8_isDigit 12 = .ok (.iconst 1, 1) := by decide +kernel
theorem dX8_isDigit_13 : decode cX8_isDigit 13 = .ok (.goto 4, 3) := by decide +kernel
theorem dX8_isDigit_16 : decode cX8_isDigit 16 = .ok (.iconst 0, 1) := by decide +kernel
theorem dX8_isDigit_17 : decode cX8_isDigit 17 = .ok (.ireturn, 1) := by decide +kernel
theorem dX8_rankOf_0 : decode cX8_rankOf 0 = .ok (.iload_n 0, 1) := by decide +kernel
theorem dX8_rankOf_1 : decode cX8_rankOf 1 = .ok (.lookupswitch 101 #[(14, 91), (15, 93), (37, 99), (42, 99), (43, 97), (45, 97), (47, 99), (60, 95), (61, 95), (62, 95)], 91) := by decide +kernel
theorem dX8_rankOf_92 : decode cX8_rankOf 92 = .ok (.iconst 0, 1) := by decide +kernel
theorem dX8_rankOf_93 : decode cX8_rankOf 93 = .ok (.ireturn, 1) := by decide +kernel
theorem dX8_rankOf_94 : decode cX8_rankOf 94 = .ok (.iconst 1, 1) := by decide +kernel
theorem dX8_rankOf_95 : decode cX8_rankOf 95 = .ok (.ireturn, 1) := by decide +kernel
theorem dX8_rankOf_96 : decode cX8_rankOf 96 = .ok (.iconst 2, 1) := by decide +kernel
theorem dX8_rankOf_97 : decode cX8_rankOf 97 = .ok (.ireturn, 1) := by decide +kernel
theorem dX8_rankOf_98 : decode cX8_rankOf 98 = .ok (.iconst 3, 1) := by decide +kernel
theorem dX8_rankOf_99 : decode cX8_rankOf 99 = .ok (.ireturn, 1) := by decide +kernel
theorem dX8_rankOf_100 : decode cX8_rankOf 100 = .ok (.iconst 4, 1) := by decide +kernel
theorem dX8_rankOf_101 : decode cX8_rankOf 101 = .ok (.ireturn, 1) := by decide +kernel
theorem dX8_rankOf_102 : decode cX8_rankOf 102 = .ok (.iconst (-1), 1) := by decide +kernel
theorem dX8_rankOf_103 : decode cX8_rankOf 103 = .ok (.ireturn, 1) := by decide +kernel
theorem dX9_init_0 : decode cX9_init 0 = .ok (.aload_n 0, 1) := by decide +kernel
theorem dX9_init_1 : decode cX9_init 1 = .ok (.invokespecial 3, 3) := by decide +kernel
theorem dX9_init_4 : decode cX9_init 4 = .ok (.aload_n 0, 1) := by decide +kernel
theorem dX9_init_5 : decode cX9_init 5 = .ok (.aload_n 1, 1) := by decide +kernel
theorem dX9_init_6 : decode cX9_init 6 = .ok (.putfield 9, 3) := by decide +kernel
theorem dX9_init_9 : decode cX9_init 9 = .ok (.aload_n 0, 1) := by decide +kernel
theorem dX9_init_10 : decode cX9_init 10 = .ok (.aload_n 2, 1) := by decide +kernel
theorem dX9_init_11 : decode cX9_init 11 = .ok (.putfield 15, 3) := by decide +kernel
theorem dX9_init_14 : decode cX9_init 14 = .ok (.aload_n 0, 1) := by decide +kernel
theorem dX9_init_15 : decode cX9_init 15 = .ok (.sipush 12288, 3) := by decide +kernel
theorem dX9_init_18 : decode cX9_init 18 = .ok (.newarray .int, 2) := by decide +kernel
theorem dX9_init_20 : decode cX9_init 20 = .ok (.putfield 19, 3) := by decide +kernel
theorem dX9_init_23 : decode cX9_init 23 = .ok (.return_, 1) := by decide +kernel
theorem dX9_seek_0 : decode cX9_seek 0 = .ok (.aload_n 0, 1) := by decide +kernel
theorem dX9_seek_1 : decode cX9_seek 1 = .ok (.iload_n 1, 1) := by decide +kernel
theorem dX9_seek_2 : decode cX9_seek 2 = .ok (.putfield 23, 3) := by decide +kernel
theorem dX9_seek_5 : decode cX9_seek 5 = .ok (.aload_n 0, 1) := by decide +kernel
theorem dX9_seek_6 : decode cX9_seek 6 = .ok (.iload_n 2, 1) := by decide +kernel
theorem dX9_seek_7 : decode cX9_seek 7 = .ok (.sipush 4096, 3) := by decide +kernel
theorem dX9_seek_10 : decode cX9_seek 10 = .ok (.invokestatic 27, 3) := by decide +kernel
theorem dX9_seek_13 : decode cX9_seek 13 = .ok (.putfield 33, 3) := by decide +kernel
theorem dX9_seek_16 : decode cX9_seek 16 = .ok (.iconst 0, 1) := by decide +kernel
theorem dX9_seek_17 : decode cX9_seek 17 = .ok (.istore_n 3, 1) := by decide +kernel
theorem dX9_seek_18 : decode cX9_seek 18 = .ok (.iload_n 3, 1) := by decide +kernel
theorem dX9_seek_19 : decode cX9_seek 19 = .ok (.iconst 3, 1) := by decide +kernel
theorem dX9_seek_20 : decode cX9_seek 20 = .ok (.aload_n 0, 1) := by decide +kernel
theorem dX9_seek_21 : decode cX9_seek 21 = .ok (.getfield 33, 3) := by decide +kernel
theorem dX9_seek_24 : decode cX9_seek 24 = .ok (.imul, 1) := by decide +kernel
theorem dX9_seek_25 : decode cX9_seek 25 = .ok (.if_icmp .ge 16, 3) := by decide +kernel
theorem dX9_seek_28 : decode cX9_seek 28 = .ok (.aload_n 0, 1) := by decide +kernel
theorem dX9_seek_29 : decode cX9_seek 29 = .ok (.getfield 19, 3) := by decide +kernel
theorem dX9_seek_32 : decode cX9_seek 32 = .ok (.iload_n 3, 1) := by decide +kernel
theorem dX9_seek_33 : decode cX9_seek 33 = .ok (.iconst (-1), 1) := by decide +kernel
theorem dX9_seek_34 : decode cX9_seek 34 = .ok (.iastore, 1) := by decide +kernel
theorem dX9_seek_35 : decode cX9_seek 35 = .ok (.iinc 3 1, 3) := by decide +kernel
theorem dX9_seek_38 : decode cX9_seek 38 = .ok (.goto (-20), 3) := by decide +kernel
theorem dX9_seek_41 : decode cX9_seek 41 = .ok (.aload_n 0, 1) := by decide +kernel
theorem dX9_seek_42 : decode cX9_seek 42 = .ok (.sipush 1000, 3) := by decide +kernel
theorem dX9_seek_45 : decode cX9_seek 45 = .ok (.putfield 36, 3) := by decide +kernel
theorem dX9_seek_48 : decode cX9_seek 48 = .ok (.iconst (-1), 1) := by decide +kernel
theorem dX9_seek_49 : decode cX9_seek 49 = .ok (.istore_n 3, 1) := by decide +kernel
theorem dX9_seek_50 : decode cX9_seek 50 = .ok (.iconst 0, 1) := by decide +kernel
theorem dX9_seek_51 : decode cX9_seek 51 = .ok (.istore 4, 2) := by decide +kernel
theorem dX9_seek_53 : decode cX9_seek 53 = .ok (.iload 4, 2) := by decide +kernel
theorem dX9_seek_55 : decode cX9_seek 55 = .ok (.aload_n 0, 1) := by decide +kernel
theorem dX9_seek_56 : decode cX9_seek 56 = .ok (.getfield 9, 3) := by decide +kernel
theorem dX9_seek_59 : decode cX9_seek 59 = .ok (.getfield 39, 3) := by decide +kernel
theorem dX9_seek_62 : decode cX9_seek 62 = .ok (.if_icmp .ge 44, 3) := by decide +kernel
theorem dX9_seek_65 : decode cX9_seek 65 = .ok (.aload_n 0, 1) := by decide +kernel
theorem dX9_seek_66 : decode cX9_seek 66 = .ok (.aload_n 0, 1) := by decide +kernel
theorem dX9_seek_67 : decode cX9_seek 67 = .ok (.getfield 9, 3) := by decide +kernel
theorem dX9_seek_70 : decode cX9_seek 70 = .ok (.getfield 44, 3) := by decide +kernel
theorem dX9_seek_73 : decode cX9_seek 73 = .ok (.iload 4, 2) := by decide +kernel
theorem dX9_seek_75 : decode cX9_seek 75 = .ok (.iaload, 1) := by decide +kernel
theorem dX9_seek_76 : decode cX9_seek 76 = .ok (.iconst 4, 1) := by decide +kernel
theorem dX9_seek_77 : decode cX9_seek 77 = .ok (.invokevirtual 47, 3) := by decide +kernel
theorem dX9_seek_80 : decode cX9_seek 80 = .ok (.istore 5, 2) := by decide +kernel
theorem dX9_seek_82 : decode cX9_seek 82 = .ok (.iload 5, 2) := by decide +kernel
theorem dX9_seek_84 : decode cX9_seek 84 = .ok (.aload_n 0, 1) := by decide +kernel
theorem dX9_seek_85 : decode cX9_seek 85 = .ok (.getfield 36, 3) := by decide +kernel
theorem dX9_seek_88 : decode cX9_seek 88 = .ok (.if_icmp .ge 12, 3) := by decide +kernel
theorem dX9_seek_91 : decode cX9_seek 91 = .ok (.aload_n 0, 1) := by decide +kernel
theorem dX9_seek_92 : decode cX9_seek 92 = .ok (.iload 5, 2) := by decide +kernel
theorem dX9_seek_94 : decode cX9_seek 94 = .ok (.putfield 36, 3) := by decide +kernel
theorem dX9_seek_97 : decode cX9_seek 97 = .ok (.iload 4, 2) := by decide +kernel
theorem dX9_seek_99 : decode cX9_seek 99 = .ok (.istore_n 3, 1) := by decide +kernel
theorem dX9_seek_100 : decode cX9_seek 100 = .ok (.iinc 4 1, 3) := by decide +kernel
theorem dX9_seek_103 : decode cX9_seek 103 = .ok (.goto (-50), 3) := by decide +kernel
theorem dX9_seek_106 : decode cX9_seek 106 = .ok (.iload_n 3, 1) := by decide +kernel
theorem dX9_seek_107 : decode cX9_seek 107 = .ok (.ireturn, 1) := by decide +kernel
theorem dX9_layWay_0 : decode cX9_layWay 0 = .ok (.iload_n 1, 1) := by decide +kernel
theorem dX9_layWay_1 : decode cX9_layWay 1 = .ok (.istore_n 3, 1) := by decide +kernel
theorem dX9_layWay_2 : decode cX9_layWay 2 = .ok (.aload_n 0, 1) := by decide +kernel
theorem dX9_layWay_3 : decode cX9_layWay 3 = .ok (.getfield 36, 3) := by decide +kernel
theorem dX9_layWay_6 : decode cX9_layWay 6 = .ok (.istore 4, 2) := by decide +kernel
theorem dX9_layWay_8 : decode cX9_layWay 8 = .ok (.iconst 4, 1) := by decide +kernel
theorem dX9_layWay_9 : decode cX9_layWay 9 = .ok (.istore 5, 2) := by decide +kernel
theorem dX9_layWay_11 : decode cX9_layWay 11 = .ok (.iload 5, 2) := by decide +kernel
theorem dX9_layWay_13 : decode cX9_layWay 13 = .ok (.ifCond .le 73, 3) := by decide +kernel
theorem dX9_layWay_16 : decode cX9_layWay 16 = .ok (.iload_n 3, 1) := by decide +kernel
theorem dX9_layWay_17 : decode cX9_layWay 17 = .ok (.aload_n 0, 1) := by decide +kernel
theorem dX9_layWay_18 : decode cX9_layWay 18 = .ok (.getfield 23, 3) := by decide +kernel
theorem dX9_layWay_21 : decode cX9_layWay 21 = .ok (.if_icmp .eq 65, 3) := by decide +kernel
theorem dX9_layWay_24 : decode cX9_layWay 24 = .ok (.aload_n 0, 1) := by decide +kernel
theorem dX9_layWay_25 : decode cX9_layWay 25 = .ok (.iload_n 3, 1) := by decide +kernel
theorem dX9_layWay_26 : decode cX9_layWay 26 = .ok (.iload 5, 2) := by decide +kernel
theorem dX9_layWay_28 : decode cX9_layWay 28 = .ok (.iload 4, 2) := by decide +kernel
theorem dX9_layWay_30 : decode cX9_layWay 30 = .ok (.invokevirtual 50, 3) := by decide +kernel
theorem dX9_layWay_33 : decode cX9_layWay 33 = .ok (.istore 6, 2) := by decide +kernel
theorem dX9_layWay_35 : decode cX9_layWay 35 = .ok (.iload 6, 2) := by decide +kernel
theorem dX9_layWay_37 : decode cX9_layWay 37 = .ok (.iconst (-1), 1) := by decide +kernel
theorem dX9_layWay_38 : decode cX9_layWay 38 = .ok (.if_icmp .ne 4, 3) := by decide +kernel
theorem dX9_layWay_41 : decode cX9_layWay 41 = .ok (.return_, 1) := by decide +kernel
theorem dX9_layWay_42 : decode cX9_layWay 42 = .ok (.aload_n 2, 1) := by decide +kernel
theorem dX9_layWay_43 : decode cX9_layWay 43 = .ok (.iload 6, 2) := by decide +kernel
theorem dX9_layWay_45 : decode cX9_layWay 45 = .ok (.invokevirtual 54, 3) := by decide +kernel
theorem dX9_layWay_48 : decode cX9_layWay 48 = .ok (.aload_n 0, 1) := by decide +kernel
theorem dX9_layWay_49 : decode cX9_layWay 49 = .ok (.getfield 15, 3) := by decide +kernel
theorem dX9_layWay_52 : decode cX9_layWay 52 = .ok (.iload_n 3, 1) := by decide +kernel
theorem dX9_layWay_53 : decode cX9_layWay 53 = .ok (.iload 6, 2) := by decide +kernel
theorem dX9_layWay_55 : decode cX9_layWay 55 = .ok (.bipush 10, 2) := by decide +kernel
theorem dX9_layWay_57 : decode cX9_layWay 57 = .ok (.idiv, 1) := by decide +kernel
theorem dX9_layWay_58 : decode cX9_layWay 58 = .ok (.iload 6, 2) := by decide +kernel
theorem dX9_layWay_60 : decode cX9_layWay 60 = .ok (.bipush 10, 2) := by decide +kernel
theorem dX9_layWay_62 : decode cX9_layWay 62 = .ok (.irem, 1) := by decide +kernel
theorem dX9_layWay_63 : decode cX9_layWay 63 = .ok (.iconst 0, 1) := by decide +kernel
theorem dX9_layWay_64 : decode cX9_layWay 64 = .ok (.invokevirtual 60, 3) := by decide +kernel
theorem dX9_layWay_67 : decode cX9_layWay 67 = .ok (.istore_n 3, 1) := by decide +kernel
theorem dX9_layWay_68 : decode cX9_layWay 68 = .ok (.iload 4, 2) := by decide +kernel
theorem dX9_layWay_70 : decode cX9_layWay 70 = .ok (.iconst 1, 1) := by decide +kernel
theorem dX9_layWay_71 : decode cX9_layWay 71 = .ok (.iload 6, 2) := by decide +kernel
theorem dX9_layWay_73 : decode cX9_layWay 73 = .ok (.bipush 10, 2) := by decide +kernel
theorem dX9_layWay_75 : decode cX9_layWay 75 = .ok (.irem, 1) := by decide +kernel
theorem dX9_layWay_76 : decode cX9_layWay 76 = .ok (.iadd, 1) := by decide +kernel
theorem dX9_layWay_77 : decode cX9_layWay 77 = .ok (.isub, 1) := by decide +kernel
theorem dX9_layWay_78 : decode cX9_layWay 78 = .ok (.istore 4, 2) := by decide +kernel
theorem dX9_layWay_80 : decode cX9_layWay 80 = .ok (.iinc 5 (-1), 3) := by decide +kernel
theorem dX9_layWay_83 : decode cX9_layWay 83 = .ok (.goto (-72), 3) := by decide +kernel
theorem dX9_layWay_86 : decode cX9_layWay 86 = .ok (.return_, 1) := by decide +kernel
theorem dX9_firstStep_0 : decode cX9_firstStep 0 = .ok (.iconst 0, 1) := by decide +kernel
theorem dX9_firstStep_1 : decode cX9_firstStep 1 = .ok (.istore 4, 2) := by decide +kernel
theorem dX9_firstStep_3 : decode cX9_firstStep 3 = .ok (.iload 4, 2) := by decide +kernel
theorem dX9_firstStep_5 : decode cX9_firstStep 5 = .ok (.aload_n 0, 1) := by decide +kernel
theorem dX9_firstStep_6 : decode cX9_firstStep 6 = .ok (.getfield 15, 3) := by decide +kernel
theorem dX9_firstStep_9 : decode cX9_firstStep 9 = .ok (.invokevirtual 66, 3) := by decide +kernel
theorem dX9_firstStep_12 : decode cX9_firstStep 12 = .ok (.if_icmp .ge 71, 3) := by decide +kernel
theorem dX9_firstStep_15 : decode cX9_firstStep 15 = .ok (.iconst 0, 1) := by decide +kernel
theorem dX9_firstStep_16 : decode cX9_firstStep 16 = .ok (.istore 5, 2) := by decide +kernel
theorem dX9_firstStep_18 : decode cX9_firstStep 18 = .ok (.iload 5, 2) := by decide +kernel
theorem dX9_firstStep_20 : decode cX9_firstStep 20 = .ok (.aload_n 0, 1) := by decide +kernel
theorem dX9_firstStep_21 : decode cX9_firstStep 21 = .ok (.iload 4, 2) := by decide +kernel
theorem dX9_firstStep_23 : decode cX9_firstStep 23 = .ok (.invokevirtual 70, 3) := by decide +kernel
theorem dX9_firstStep_26 : decode cX9_firstStep 26 = .ok (.if_icmp .ge 51, 3) := by decide +kernel
theorem dX9_firstStep_29 : decode cX9_firstStep 29 = .ok (.aload_n 0, 1) := by decide +kernel
theorem dX9_firstStep_30 : decode cX9_firstStep 30 = .ok (.getfield 15, 3) := by decide +kernel
theorem dX9_firstStep_33 : decode cX9_firstStep 33 = .ok (.iload_n 1, 1) := by decide +kernel
theorem dX9_firstStep_34 : decode cX9_firstStep 34 = .ok (.iload 4, 2) := by decide +kernel
theorem dX9_firstStep_36 : decode cX9_firstStep 36 = .ok (.iload 5, 2) := by decide +kernel
theorem dX9_firstStep_38 : decode cX9_firstStep 38 = .ok (.iconst 0, 1) := by decide +kernel
theorem dX9_firstStep_39 : decode cX9_firstStep 39 = .ok (.invokevirtual 60, 3) := by decide +kernel
theorem dX9_firstStep_42 : decode cX9_firstStep 42 = .ok (.istore 6, 2) := by decide +kernel
theorem dX9_firstStep_44 : decode cX9_firstStep 44 = .ok (.iconst 1, 1) := by decide +kernel
theorem dX9_firstStep_45 : decode cX9_firstStep 45 = .ok (.iload 5, 2) := by decide +kernel
theorem dX9_firstStep_47 : decode cX9_firstStep 47 = .ok (.iadd, 1) := by decide +kernel
theorem dX9_firstStep_48 : decode cX9_firstStep 48 = .ok (.aload_n 0, 1) := by decide +kernel
theorem dX9_firstStep_49 : decode cX9_firstStep 49 = .ok (.iload 6, 2) := by decide +kernel
theorem dX9_firstStep_51 : decode cX9_firstStep 51 = .ok (.iload_n 2, 1) := by decide +kernel
theorem dX9_firstStep_52 : decode cX9_firstStep 52 = .ok (.iconst 1, 1) := by decide +kernel
theorem dX9_firstStep_53 : decode cX9_firstStep 53 = .ok (.isub, 1) := by decide +kernel
theorem dX9_firstStep_54 : decode cX9_firstStep 54 = .ok (.invokevirtual 47, 3) := by decide +kernel
theorem dX9_firstStep_57 : decode cX9_firstStep 57 = .ok (.iadd, 1) := by decide +kernel
theorem dX9_firstStep_58 : decode cX9_firstStep 58 = .ok (.iload_n 3, 1) := by decide +kernel
theorem dX9_firstStep_59 : decode cX9_firstStep 59 = .ok (.if_icmp .ne 12, 3) := by decide +kernel
theorem dX9_firstStep_62 : decode cX9_firstStep 62 = .ok (.iload 4, 2) := by decide +kernel
theorem dX9_firstStep_64 : decode cX9_firstStep 64 = .ok (.bipush 10, 2) := by decide +kernel
theorem dX9_firstStep_66 : decode cX9_firstStep 66 = .ok (.imul, 1) := by decide +kernel
theorem dX9_firstStep_67 : decode cX9_firstStep 67 = .ok (.iload 5, 2) := by decide +kernel
theorem dX9_firstStep_69 : decode cX9_firstStep 69 = .ok (.iadd, 1) := by decide +kernel
theorem dX9_firstStep_70 : decode cX9_firstStep 70 = .ok (.ireturn, 1) := by decide +kernel
theorem dX9_firstStep_71 : decode cX9_firstStep 71 = .ok (.iinc 5 1, 3) := by decide +kernel
theorem dX9_firstStep_74 : decode cX9_firstStep 74 = .ok (.goto (-56), 3) := by decide +kernel
theorem dX9_firstStep_77 : decode cX9_firstStep 77 = .ok (.iinc 4 1, 3) := by decide +kernel
theorem dX9_firstStep_80 : decode cX9_firstStep 80 = .ok (.goto (-77), 3) := by decide +kernel
theorem dX9_firstStep_83 : decode cX9_firstStep 83 = .ok (.iconst (-1), 1) := by decide +kernel
theorem dX9_firstStep_84 : decode cX9_firstStep 84 = .ok (.ireturn, 1) := by decide +kernel
theorem dX9_waxFrom_0 : decode cX9_waxFrom 0 = .ok (.iload_n 1, 1) := by decide +kernel
theorem dX9_waxFrom_1 : decode cX9_waxFrom 1 = .ok (.aload_n 0, 1) := by decide +kernel
theorem dX9_waxFrom_2 : decode cX9_waxFrom 2 = .ok (.getfield 23, 3) := by decide +kernel
theorem dX9_waxFrom_5 : decode cX9_waxFrom 5 = .ok (.if_icmp .ne 5, 3) := by decide +kernel
theorem dX9_waxFrom_8 : decode cX9_waxFrom 8 = .ok (.iconst 0, 1) := by decide +kernel
theorem dX9_waxFrom_9 : decode cX9_waxFrom 9 = .ok (.ireturn, 1) := by decide +kernel
theorem dX9_waxFrom_10 : decode cX9_waxFrom 10 = .ok (.iload_n 2, 1) := by decide +kernel
theorem dX9_waxFrom_11 : decode cX9_waxFrom 11 = .ok (.ifCond .le 20, 3) := by decide +kernel
theorem dX9_waxFrom_14 : decode cX9_waxFrom 14 = .ok (.iload_n 2, 1) := by decide +kernel
theorem dX9_waxFrom_15 : decode cX9_waxFrom 15 = .ok (.iconst 4, 1) := by decide +kernel
theorem dX9_waxFrom_16 : decode cX9_waxFrom 16 = .ok (.if_icmp .gt 15, 3) := by decide +kernel
theorem dX9_waxFrom_19 : decode cX9_waxFrom 19 = .ok (.iload_n 1, 1) := by decide +kernel
theorem dX9_waxFrom_20 : decode cX9_waxFrom 20 = .ok (.ifCond .lt 11, 3) := by decide +kernel
theorem dX9_waxFrom_23 : decode cX9_waxFrom 23 = .ok (.iload_n 1, 1) := by decide +kernel
theorem dX9_waxFrom_24 : decode cX9_waxFrom 24 = .ok (.aload_n 0, 1) := by decide +kernel
theorem dX9_waxFrom_25 : decode cX9_waxFrom 25 = .ok (.getfield 33, 3) := by decide +kernel
theorem dX9_waxFrom_28 : decode cX9_waxFrom 28 = .ok (.if_icmp .lt 7, 3) := by decide +kernel
theorem dX9_waxFrom_31 : decode cX9_waxFrom 31 = .ok (.sipush 1000, 3) := by decide +kernel
theorem dX9_waxFrom_34 : decode cX9_waxFrom 34 = .ok (.ireturn, 1) := by decide +kernel
theorem dX9_waxFrom_35 : decode cX9_waxFrom 35 = .ok (.iload_n 2, 1) := by decide +kernel
theorem dX9_waxFrom_36 : decode cX9_waxFrom 36 = .ok (.iconst 1, 1) := by decide +kernel
theorem dX9_waxFrom_37 : decode cX9_waxFrom 37 = .ok (.isub, 1) := by decide +kernel
theorem dX9_waxFrom_38 : decode cX9_waxFrom 38 = .ok (.aload_n 0, 1) := by decide +kernel
theorem dX9_waxFrom_39 : decode cX9_waxFrom 39 = .ok (.getfield 33, 3) := by decide +kernel
theorem dX9_waxFrom_42 : decode cX9_waxFrom 42 = .ok (.imul, 1) := by decide +kernel
theorem dX9_waxFrom_43 : decode cX9_waxFrom 43 = .ok (.iload_n 1, 1) := by decide +kernel
theorem dX9_waxFrom_44 : decode cX9_waxFrom 44 = .ok (.iadd, 1) := by decide +kernel
theorem dX9_waxFrom_45 : decode cX9_waxFrom 45 = .ok (.istore_n 3, 1) := by decide +kernel
theorem dX9_waxFrom_46 : decode cX9_waxFrom 46 = .ok (.iload_n 2, 1) := by decide +kernel
theorem dX9_waxFrom_47 : decode cX9_waxFrom 47 = .ok (.iconst 4, 1) := by decide +kernel
theorem dX9_waxFrom_48 : decode cX9_waxFrom 48 = .ok (.if_icmp .ge 16, 3) := by decide +kernel
theorem dX9_waxFrom_51 : decode cX9_waxFrom 51 = .ok (.iload_n 3, 1) := by decide +kernel
theorem dX9_waxFrom_52 : decode cX9_waxFrom 52 = .ok (.aload_n 0, 1) := by decide +kernel
theorem dX9_waxFrom_53 : decode cX9_waxFrom 53 = .ok (.getfield 19, 3) := by decide +kernel
theorem dX9_waxFrom_56 : decode cX9_waxFrom 56 = .ok (.arraylength, 1) := by decide +kernel
theorem dX9_waxFrom_57 : decode cX9_waxFrom 57 = .ok (.if_icmp .ge 7, 3) := by decide +kernel
theorem dX9_waxFrom_60 : decode cX9_waxFrom 60 = .ok (.iconst 1, 1) := by decide +kernel
theorem dX9_waxFrom_61 : decode cX9_waxFrom 61 = .ok (.goto 4, 3) := by decide +kernel
theorem dX9_waxFrom_64 : decode cX9_waxFrom 64 = .ok (.iconst 0, 1) := by decide +kernel
theorem dX9_waxFrom_65 : decode cX9_waxFrom 65 = .ok (.istore 4, 2) := by decide +kernel
theorem dX9_waxFrom_67 : decode cX9_waxFrom 67 = .ok (.iload 4, 2) := by decide +kernel
theorem dX9_waxFrom_69 : decode cX9_waxFrom 69 = .ok (.ifCond .eq 20, 3) := by decide +kernel
theorem dX9_waxFrom_72 : decode cX9_waxFrom 72 = .ok (.aload_n 0, 1) := by decide +kernel
theorem dX9_waxFrom_73 : decode cX9_waxFrom 73 = .ok (.getfield 19, 3) := by decide +kernel
theorem dX9_waxFrom_76 : decode cX9_waxFrom 76 = .ok (.iload_n 3, 1) := by decide +kernel
theorem dX9_waxFrom_77 : decode cX9_waxFrom 77 = .ok (.iaload, 1) := by decide +kernel
theorem dX9_waxFrom_78 : decode cX9_waxFrom 78 = .ok (.iconst (-1), 1) := by decide +kernel
theorem dX9_waxFrom_79 : decode cX9_waxFrom 79 = .ok (.if_icmp .eq 10, 3) := by decide +kernel
theorem dX9_waxFrom_82 : decode cX9_waxFrom 82 = .ok (.aload_n 0, 1) := by decide +kernel
theorem dX9_waxFrom_83 : decode cX9_waxFrom 83 = .ok (.getfield 19, 3) := by decide +kernel
theorem dX9_waxFrom_86 : decode cX9_waxFrom 86 = .ok (.iload_n 3, 1) := by decide +kernel
theorem dX9_waxFrom_87 : decode cX9_waxFrom 87 = .ok (.iaload, 1) := by decide +kernel
theorem dX9_waxFrom_88 : decode cX9_waxFrom 88 = .ok (.ireturn, 1) := by decide +kernel
theorem dX9_waxFrom_89 : decode cX9_waxFrom 89 = .ok (.sipush 1000, 3) := by decide +kernel
theorem dX9_waxFrom_92 : decode cX9_waxFrom 92 = .ok (.istore 5, 2) := by decide +kernel
theorem dX9_waxFrom_94 : decode cX9_waxFrom 94 = .ok (.iconst 0, 1) := by decide +kernel
theorem dX9_waxFrom_95 : decode cX9_waxFrom 95 = .ok (.istore 6, 2) := by decide +kernel
theorem dX9_waxFrom_97 : decode cX9_waxFrom 97 = .ok (.iload 6, 2) := by decide +kernel
theorem dX9_waxFrom_99 : decode cX9_waxFrom 99 = .ok (.aload_n 0, 1) := by decide +kernel
theorem dX9_waxFrom_100 : decode cX9_waxFrom 100 = .ok (.getfield 15, 3) := by decide +kernel
theorem dX9_waxFrom_103 : decode cX9_waxFrom 103 = .ok (.invokevirtual 66, 3) := by decide +kernel
theorem dX9_waxFrom_106 : decode cX9_waxFrom 106 = .ok (.if_icmp .ge 74, 3) := by decide +kernel
theorem dX9_waxFrom_109 : decode cX9_waxFrom 109 = .ok (.iconst 0, 1) := by decide +kernel
theorem dX9_waxFrom_110 : decode cX9_waxFrom 110 = .ok (.istore 7, 2) := by decide +kernel
theorem dX9_waxFrom_112 : decode cX9_waxFrom 112 = .ok (.iload 7, 2) := by decide +kernel
theorem dX9_waxFrom_114 : decode cX9_waxFrom 114 = .ok (.aload_n 0, 1) := by decide +kernel
theorem dX9_waxFrom_115 : decode cX9_waxFrom 115 = .ok (.iload 6, 2) := by decide +kernel
theorem dX9_waxFrom_117 : decode cX9_waxFrom 117 = .ok (.invokevirtual 70, 3) := by decide +kernel
theorem dX9_waxFrom_120 : decode cX9_waxFrom 120 = .ok (.if_icmp .ge 54, 3) := by decide +kernel
theorem dX9_waxFrom_123 : decode cX9_waxFrom 123 = .ok (.iconst 1, 1) := by decide +kernel
theorem dX9_waxFrom_124 : decode cX9_waxFrom 124 = .ok (.iload 7, 2) := by decide +kernel
theorem dX9_waxFrom_126 : decode cX9_waxFrom 126 = .ok (.iadd, 1) := by decide +kernel
theorem dX9_waxFrom_127 : decode cX9_waxFrom 127 = .ok (.iload 5, 2) := by decide +kernel
theorem dX9_waxFrom_129 : decode cX9_waxFrom 129 = .ok (.if_icmp .ge 45, 3) := by decide +kernel
theorem dX9_waxFrom_132 : decode cX9_waxFrom 132 = .ok (.aload_n 0, 1) := by decide +kernel
theorem dX9_waxFrom_133 : decode cX9_waxFrom 133 = .ok (.getfield 15, 3) := by decide +kernel
theorem dX9_waxFrom_136 : decode cX9_waxFrom 136 = .ok (.iload_n 1, 1) := by decide +kernel
theorem dX9_waxFrom_137 : decode cX9_waxFrom 137 = .ok (.iload 6, 2) := by decide +kernel
theorem dX9_waxFrom_139 : decode cX9_waxFrom 139 = .ok (.iload 7, 2) := by decide +kernel
theorem dX9_waxFrom_141 : decode cX9_waxFrom 141 = .ok (.iconst 0, 1) := by decide +kernel
theorem dX9_waxFrom_142 : decode cX9_waxFrom 142 = .ok (.invokevirtual 60, 3) := by decide +kernel
theorem dX9_waxFrom_145 : decode cX9_waxFrom 145 = .ok (.istore 8, 2) := by decide +kernel
theorem dX9_waxFrom_147 : decode cX9_waxFrom 147 = .ok (.iload 5, 2) := by decide +kernel
theorem dX9_waxFrom_149 : decode cX9_waxFrom 149 = .ok (.iconst 1, 1) := by decide +kernel
theorem dX9_waxFrom_150 : decode cX9_waxFrom 150 = .ok (.iload 7, 2) := by decide +kernel
theorem dX9_waxFrom_152 : decode cX9_waxFrom 152 = .ok (.iadd, 1) := by decide +kernel
theorem dX9_waxFrom_153 : decode cX9_waxFrom 153 = .ok (.aload_n 0, 1) := by decide +kernel
theorem dX9_waxFrom_154 : decode cX9_waxFrom 154 = .ok (.iload 8, 2) := by decide +kernel
theorem dX9_waxFrom_156 : decode cX9_waxFrom 156 = .ok (.iload_n 2, 1) := by decide +kernel
theorem dX9_waxFrom_157 : decode cX9_waxFrom 157 = .ok (.iconst 1, 1) := by decide +kernel
theorem dX9_waxFrom_158 : decode cX9_waxFrom 158 = .ok (.isub, 1) := by decide +kernel
theorem dX9_waxFrom_159 : decode cX9_waxFrom 159 = .ok (.invokevirtual 47, 3) := by decide +kernel
theorem dX9_waxFrom_162 : decode cX9_waxFrom 162 = .ok (.iadd, 1) := by decide +kernel
theorem dX9_waxFrom_163 : decode cX9_waxFrom 163 = .ok (.invokestatic 27, 3) := by decide +kernel
theorem dX9_waxFrom_166 : decode cX9_waxFrom 166 = .ok (.istore 5, 2) := by decide +kernel
theorem dX9_waxFrom_168 : decode cX9_waxFrom 168 = .ok (.iinc 7 1, 3) := by decide +kernel
theorem dX9_waxFrom_171 : decode cX9_waxFrom 171 = .ok (.goto (-59), 3) := by decide +kernel
theorem dX9_waxFrom_174 : decode cX9_waxFrom 174 = .ok (.iinc 6 1, 3) := by decide +kernel
theorem dX9_waxFrom_177 : decode cX9_waxFrom 177 = .ok (.goto (-80), 3) := by decide +kernel
theorem dX9_waxFrom_180 : decode cX9_waxFrom 180 = .ok (.iload 4, 2) := by decide +kernel
theorem dX9_waxFrom_182 : decode cX9_waxFrom 182 = .ok (.ifCond .eq 11, 3) := by decide +kernel
theorem dX9_waxFrom_185 : decode cX9_waxFrom 185 = .ok (.aload_n 0, 1) := by decide +kernel
theorem dX9_waxFrom_186 : decode cX9_waxFrom 186 = .ok (.getfield 19, 3) := by decide +kernel
theorem dX9_waxFrom_189 : decode cX9_waxFrom 189 = .ok (.iload_n 3, 1) := by decide +kernel
theorem dX9_waxFrom_190 : decode cX9_waxFrom 190 = .ok (.iload 5, 2) := by decide +kernel
theorem dX9_waxFrom_192 : decode cX9_waxFrom 192 = .ok (.iastore, 1) := by decide +kernel
theorem dX9_waxFrom_193 : decode cX9_waxFrom 193 = .ok (.iload 5, 2) := by decide +kernel
theorem dX9_waxFrom_195 : decode cX9_waxFrom 195 = .ok (.ireturn, 1) := by decide +kernel
theorem dX9_heatsOf_0 : decode cX9_heatsOf 0 = .ok (.aload_n 0, 1) := by decide +kernel
theorem dX9_heatsOf_1 : decode cX9_heatsOf 1 = .ok (.getfield 15, 3) := by decide +kernel
theorem dX9_heatsOf_4 : decode cX9_heatsOf 4 = .ok (.iload_n 1, 1) := by decide +kernel
theorem dX9_heatsOf_5 : decode cX9_heatsOf 5 = .ok (.invokevirtual 74, 3) := by decide +kernel
theorem dX9_heatsOf_8 : decode cX9_heatsOf 8 = .ok (.ifCond .eq 7, 3) := by decide +kernel
theorem dX9_heatsOf_11 : decode cX9_heatsOf 11 = .ok (.iconst 4, 1) := by decide +kernel
theorem dX9_heatsOf_12 : decode cX9_heatsOf 12 = .ok (.goto 4, 3) := by decide +kernel
theorem dX9_heatsOf_15 : decode cX9_heatsOf 15 = .ok (.iconst 1, 1) := by decide +kernel
theorem dX9_heatsOf_16 : decode cX9_heatsOf 16 = .ok (.ireturn, 1) := by decide +kernel
theorem dJ6_bitCount_0f7a4_0 : decode cJ6_bitCount_0f7a4 0 = .ok (.iload_n 0, 1) := by decide +kernel
theorem dJ6_bitCount_0f7a4_1 : decode cJ6_bitCount_0f7a4 1 = .ok (.iload_n 0, 1) := by decide +kernel
theorem dJ6_bitCount_0f7a4_2 : decode cJ6_bitCount_0f7a4 2 = .ok (.iconst 1, 1) := by decide +kernel
theorem dJ6_bitCount_0f7a4_3 : decode cJ6_bitCount_0f7a4 3 = .ok (.iushr, 1) := by decide +kernel
theorem dJ6_bitCount_0f7a4_4 : decode cJ6_bitCount_0f7a4 4 = .ok (.ldc_w 265, 3) := by decide +kernel
theorem dJ6_bitCount_0f7a4_7 : decode cJ6_bitCount_0f7a4 7 = .ok (.iand, 1) := by decide +kernel
theorem dJ6_bitCount_0f7a4_8 : decode cJ6_bitCount_0f7a4 8 = .ok (.isub, 1) := by decide +kernel
theorem dJ6_bitCount_0f7a4_9 : decode cJ6_bitCount_0f7a4 9 = .ok (.istore_n 0, 1) := by decide +kernel
theorem dJ6_bitCount_0f7a4_10 : decode cJ6_bitCount_0f7a4 10 = .ok (.iload_n 0, 1) := by decide +kernel
theorem dJ6_bitCount_0f7a4_11 : decode cJ6_bitCount_0f7a4 11 = .ok (.ldc_w 266, 3) := by decide +kernel
theorem dJ6_bitCount_0f7a4_14 : decode cJ6_bitCount_0f7a4 14 = .ok (.iand, 1) := by decide +kernel
theorem dJ6_bitCount_0f7a4_15 : decode cJ6_bitCount_0f7a4 15 = .ok (.iload_n 0, 1) := by decide +kernel
theorem dJ6_bitCount_0f7a4_16 : decode cJ6_bitCount_0f7a4 16 = .ok (.iconst 2, 1) := by decide +kernel
theorem dJ6_bitCount_0f7a4_17 : decode cJ6_bitCount_0f7a4 17 = .ok (.iushr, 1) := by decide +kernel
theorem dJ6_bitCount_0f7a4_18 : decode cJ6_bitCount_0f7a4 18 = .ok (.ldc_w 266, 3) := by decide +kernel
theorem dJ6_bitCount_0f7a4_21 : decode cJ6_bitCount_0f7a4 21 = .ok (.iand, 1) := by decide +kernel
theorem dJ6_bitCount_0f7a4_22 : decode cJ6_bitCount_0f7a4 22 = .ok (.iadd, 1) := by decide +kernel
theorem dJ6_bitCount_0f7a4_23 : decode cJ6_bitCount_0f7a4 23 = .ok (.istore_n 0, 1) := by decide +kernel
theorem dJ6_bitCount_0f7a4_24 : decode cJ6_bitCount_0f7a4 24 = .ok (.iload_n 0, 1) := by decide +kernel
theorem dJ6_bitCount_0f7a4_25 : decode cJ6_bitCount_0f7a4 25 = .ok (.iload_n 0, 1) := by decide +kernel
theorem dJ6_bitCount_0f7a4_26 : decode cJ6_bitCount_0f7a4 26 = .ok (.iconst 4, 1) := by decide +kernel
theorem dJ6_bitCount_0f7a4_27 : decode cJ6_bitCount_0f7a4 27 = .ok (.iushr, 1) := by decide +kernel
theorem dJ6_bitCount_0f7a4_28 : decode cJ6_bitCount_0f7a4 28 = .ok (.iadd, 1) := by decide +kernel
theorem dJ6_bitCount_0f7a4_29 : decode cJ6_bitCount_0f7a4 29 = .ok (.ldc_w 267, 3) := by decide +kernel
theorem dJ6_bitCount_0f7a4_32 : decode cJ6_bitCount_0f7a4 32 = .ok (.iand, 1) := by decide +kernel
theorem dJ6_bitCount_0f7a4_33 : decode cJ6_bitCount_0f7a4 33 = .ok (.istore_n 0, 1) := by decide +kernel
theorem dJ6_bitCount_0f7a4_34 : decode cJ6_bitCount_0f7a4 34 = .ok (.iload_n 0, 1) := by decide +kernel
theorem dJ6_bitCount_0f7a4_35 : decode cJ6_bitCount_0f7a4 35 = .ok (.iload_n 0, 1) := by decide +kernel
theorem dJ6_bitCount_0f7a4_36 : decode cJ6_bitCount_0f7a4 36 = .ok (.bipush 8, 2) := by decide +kernel
theorem dJ6_bitCount_0f7a4_38 : decode cJ6_bitCount_0f7a4 38 = .ok (.iushr, 1) := by decide +kernel
theorem dJ6_bitCount_0f7a4_39 : decode cJ6_bitCount_0f7a4 39 = .ok (.iadd, 1) := by decide +kernel
theorem dJ6_bitCount_0f7a4_40 : decode cJ6_bitCount_0f7a4 40 = .ok (.istore_n 0, 1) := by decide +kernel
theorem dJ6_bitCount_0f7a4_41 : decode cJ6_bitCount_0f7a4 41 = .ok (.iload_n 0, 1) := by decide +kernel
theorem dJ6_bitCount_0f7a4_42 : decode cJ6_bitCount_0f7a4 42 = .ok (.iload_n 0, 1) := by decide +kernel
theorem dJ6_bitCount_0f7a4_43 : decode cJ6_bitCount_0f7a4 43 = .ok (.bipush 16, 2) := by decide +kernel
theorem dJ6_bitCount_0f7a4_45 : decode cJ6_bitCount_0f7a4 45 = .ok (.iushr, 1) := by decide +kernel
theorem dJ6_bitCount_0f7a4_46 : decode cJ6_bitCount_0f7a4 46 = .ok (.iadd, 1) := by decide +kernel
theorem dJ6_bitCount_0f7a4_47 : decode cJ6_bitCount_0f7a4 47 = .ok (.istore_n 0, 1) := by decide +kernel
theorem dJ6_bitCount_0f7a4_48 : decode cJ6_bitCount_0f7a4 48 = .ok (.iload_n 0, 1) := by decide +kernel
theorem dJ6_bitCount_0f7a4_49 : decode cJ6_bitCount_0f7a4 49 = .ok (.bipush 63, 2) := by decide +kernel
theorem dJ6_bitCount_0f7a4_51 : decode cJ6_bitCount_0f7a4 51 = .ok (.iand, 1) := by decide +kernel
theorem dJ6_bitCount_0f7a4_52 : decode cJ6_bitCount_0f7a4 52 = .ok (.ireturn, 1) := by decide +kernel
theorem dJ0_length_8abf5_0 : decode cJ0_length_8abf5 0 = .ok (.aload_n 0, 1) := by decide +kernel
theorem dJ0_length_8abf5_1 : decode cJ0_length_8abf5 1 = .ok (.getfield 9, 3) := by decide +kernel
theorem dJ0_length_8abf5_4 : decode cJ0_length_8abf5 4 = .ok (.arraylength, 1) := by decide +kernel
theorem dJ0_length_8abf5_5 : decode cJ0_length_8abf5 5 = .ok (.aload_n 0, 1) := by decide +kernel
theorem dJ0_length_8abf5_6 : decode cJ0_length_8abf5 6 = .ok (.invokevirtual 335, 3) := by decide +kernel
theorem dJ0_length_8abf5_9 : decode cJ0_length_8abf5 9 = .ok (.ishr, 1) := by decide +kernel
theorem dJ0_length_8abf5_10 : decode cJ0_length_8abf5 10 = .ok (.ireturn, 1) := by decide +kernel
theorem dJ0_charAt_5068e_0 : decode cJ0_charAt_5068e 0 = .ok (.aload_n 0, 1) := by decide +kernel
theorem dJ0_charAt_5068e_1 : decode cJ0_charAt_5068e 1 = .ok (.invokevirtual 492, 3) := by decide +kernel
theorem dJ0_charAt_5068e_4 : decode cJ0_charAt_5068e 4 = .ok (.ifCond .eq 12, 3) := by decide +kernel
theorem dJ0_charAt_5068e_7 : decode cJ0_charAt_5068e 7 = .ok (.aload_n 0, 1) := by decide +kernel
theorem dJ0_charAt_5068e_8 : decode cJ0_charAt_5068e 8 = .ok (.getfield 9, 3) := by decide +kernel
theorem dJ0_charAt_5068e_11 : decode cJ0_charAt_5068e 11 = .ok (.iload_n 1, 1) := by decide +kernel
theorem dJ0_charAt_5068e_12 : decode cJ0_charAt_5068e 12 = .ok (.invokestatic 495, 3) := by decide +kernel
theorem dJ0_charAt_5068e_15 : decode cJ0_charAt_5068e 15 = .ok (.ireturn, 1) := by decide +kernel
theorem dJ0_charAt_5068e_16 : decode cJ0_charAt_5068e 16 = .ok (.aload_n 0, 1) := by decide +kernel
theorem dJ0_charAt_5068e_17 : decode cJ0_charAt_5068e 17 = .ok (.getfield 9, 3) := by decide +kernel
theorem dJ0_charAt_5068e_20 : decode cJ0_charAt_5068e 20 = .ok (.iload_n 1, 1) := by decide +kernel
theorem dJ0_charAt_5068e_21 : decode cJ0_charAt_5068e 21 = .ok (.invokestatic 498, 3) := by decide +kernel
theorem dJ0_charAt_5068e_24 : decode cJ0_charAt_5068e 24 = .ok (.ireturn, 1) := by decide +kernel
theorem dJ0_coder_7d493_0 : decode cJ0_coder_7d493 0 = .ok (.getstatic 38, 3) := by decide +kernel
theorem dJ0_coder_7d493_3 : decode cJ0_coder_7d493 3 = .ok (.ifCond .eq 10, 3) := by decide +kernel
theorem dJ0_coder_7d493_6 : decode cJ0_coder_7d493 6 = .ok (.aload_n 0, 1) := by decide +kernel
theorem dJ0_coder_7d493_7 : decode cJ0_coder_7d493 7 = .ok (.getfield 15, 3) := by decide +kernel
theorem dJ0_coder_7d493_10 : decode cJ0_coder_7d493 10 = .ok (.goto 4, 3) := by decide +kernel
theorem dJ0_coder_7d493_13 : decode cJ0_coder_7d493 13 = .ok (.iconst 1, 1) := by decide +kernel
theorem dJ0_coder_7d493_14 : decode cJ0_coder_7d493 14 = .ok (.ireturn, 1) := by decide +kernel
theorem dJ0_isLatin1_aae02_0 : decode cJ0_isLatin1_aae02 0 = .ok (.getstatic 38, 3) := by decide +kernel
theorem dJ0_isLatin1_aae02_3 : decode cJ0_isLatin1_aae02 3 = .ok (.ifCond .eq 14, 3) := by decide +kernel
theorem dJ0_isLatin1_aae02_6 : decode cJ0_isLatin1_aae02 6 = .ok (.aload_n 0, 1) := by decide +kernel
theorem dJ0_isLatin1_aae02_7 : decode cJ0_isLatin1_aae02 7 = .ok (.getfield 15, 3) := by decide +kernel
theorem dJ0_isLatin1_aae02_10 : decode cJ0_isLatin1_aae02 10 = .ok (.ifCond .ne 7, 3) := by decide +kernel
theorem dJ0_isLatin1_aae02_13 : decode cJ0_isLatin1_aae02 13 = .ok (.iconst 1, 1) := by decide +kernel
theorem dJ0_isLatin1_aae02_14 : decode cJ0_isLatin1_aae02 14 = .ok (.goto 4, 3) := by decide +kernel
theorem dJ0_isLatin1_aae02_17 : decode cJ0_isLatin1_aae02 17 = .ok (.iconst 0, 1) := by decide +kernel
theorem dJ0_isLatin1_aae02_18 : decode cJ0_isLatin1_aae02 18 = .ok (.ireturn, 1) := by decide +kernel
theorem dJ0_checkIndex_df160_0 : decode cJ0_checkIndex_df160 0 = .ok (.iload_n 0, 1) := by decide +kernel
theorem dJ0_checkIndex_df160_1 : decode cJ0_checkIndex_df160 1 = .ok (.iload_n 1, 1) := by decide +kernel
theorem dJ0_checkIndex_df160_2 : decode cJ0_checkIndex_df160 2 = .ok (.getstatic 1053, 3) := by decide +kernel
theorem dJ0_checkIndex_df160_5 : decode cJ0_checkIndex_df160 5 = .ok (.invokestatic 1059, 3) := by decide +kernel
theorem dJ0_checkIndex_df160_8 : decode cJ0_checkIndex_df160 8 = .ok (.pop, 1) := by decide +kernel
theorem dJ0_checkIndex_df160_9 : decode cJ0_checkIndex_df160 9 = .ok (.return_, 1) := by decide +kernel
theorem dJ1_charAt_3b067_0 : decode cJ1_charAt_3b067 0 = .ok (.iload_n 1, 1) := by decide +kernel
theorem dJ1_charAt_3b067_1 : decode cJ1_charAt_3b067 1 = .ok (.aload_n 0, 1) := by decide +kernel
theorem dJ1_charAt_3b067_2 : decode cJ1_charAt_3b067 2 = .ok (.arraylength, 1) := by decide +kernel
theorem dJ1_charAt_3b067_3 : decode cJ1_charAt_3b067 3 = .ok (.invokestatic 9, 3) := by decide +kernel
theorem dJ1_charAt_3b067_6 : decode cJ1_charAt_3b067 6 = .ok (.aload_n 0, 1) := by decide +kernel
theorem dJ1_charAt_3b067_7 : decode cJ1_charAt_3b067 7 = .ok (.iload_n 1, 1) := by decide +kernel
theorem dJ1_charAt_3b067_8 : decode cJ1_charAt_3b067 8 = .ok (.baload, 1) := by decide +kernel
theorem dJ1_charAt_3b067_9 : decode cJ1_charAt_3b067 9 = .ok (.sipush 255, 3) := by decide +kernel
theorem dJ1_charAt_3b067_12 : decode cJ1_charAt_3b067 12 = .ok (.iand, 1) := by decide +kernel
theorem dJ1_charAt_3b067_13 : decode cJ1_charAt_3b067 13 = .ok (.i2c, 1) := by decide +kernel
theorem dJ1_charAt_3b067_14 : decode cJ1_charAt_3b067 14 = .ok (.ireturn, 1) := by decide +kernel
theorem dJ2_getChar_3b067_0 : decode cJ2_getChar_3b067 0 = .ok (.getstatic 44, 3) := by decide +kernel
theorem dJ2_getChar_3b067_3 : decode cJ2_getChar_3b067 3 = .ok (.ifCond .ne 25, 3) := by decide +kernel
theorem dJ2_getChar_3b067_6 : decode cJ2_getChar_3b067 6 = .ok (.iload_n 1, 1) := by decide +kernel
theorem dJ2_getChar_3b067_7 : decode cJ2_getChar_3b067 7 = .ok (.ifCond .lt 11, 3) := by decide +kernel
theorem dJ2_getChar_3b067_10 : decode cJ2_getChar_3b067 10 = .ok (.iload_n 1, 1) := by decide +kernel
theorem dJ2_getChar_3b067_11 : decode cJ2_getChar_3b067 11 = .ok (.aload_n 0, 1) := by decide +kernel
theorem dJ2_getChar_3b067_12 : decode cJ2_getChar_3b067 12 = .ok (.invokestatic 48, 3) := by decide +kernel
theorem dJ2_getChar_3b067_15 : decode cJ2_getChar_3b067 15 = .ok (.if_icmp .lt 13, 3) := by decide +kernel
theorem dJ2_getChar_3b067_18 : decode cJ2_getChar_3b067 18 = .ok (.new 52, 3) := by decide +kernel
theorem dJ2_getChar_3b067_21 : decode cJ2_getChar_3b067 21 = .ok (.dup, 1) := by decide +kernel
theorem dJ2_getChar_3b067_22 : decode cJ2_getChar_3b067 22 = .ok (.ldc 54, 2) := by decide +kernel
theorem dJ2_getChar_3b067_24 : decode cJ2_getChar_3b067 24 = .ok (.invokespecial 56, 3) := by decide +kernel
theorem dJ2_getChar_3b067_27 : decode cJ2_getChar_3b067 27 = .ok (.athrow, 1) := by decide +kernel
theorem dJ2_getChar_3b067_28 : decode cJ2_getChar_3b067 28 = .ok (.iload_n 1, 1) := by decide +kernel
theorem dJ2_getChar_3b067_29 : decode cJ2_getChar_3b067 29 = .ok (.iconst 1, 1) := by decide +kernel
theorem dJ2_getChar_3b067_30 : decode cJ2_getChar_3b067 30 = .ok (.ishl, 1) := by decide +kernel
theorem dJ2_getChar_3b067_31 : decode cJ2_getChar_3b067 31 = .ok (.istore_n 1, 1) := by decide +kernel
theorem dJ2_getChar_3b067_32 : decode cJ2_getChar_3b067 32 = .ok (.aload_n 0, 1) := by decide +kernel
theorem dJ2_getChar_3b067_33 : decode cJ2_getChar_3b067 33 = .ok (.iload_n 1, 1) := by decide +kernel
theorem dJ2_getChar_3b067_34 : decode cJ2_getChar_3b067 34 = .ok (.iinc 1 1, 3) := by decide +kernel
theorem dJ2_getChar_3b067_37 : decode cJ2_getChar_3b067 37 = .ok (.baload, 1) := by decide +kernel
theorem dJ2_getChar_3b067_38 : decode cJ2_getChar_3b067 38 = .ok (.sipush 255, 3) := by decide +kernel
theorem dJ2_getChar_3b067_41 : decode cJ2_getChar_3b067 41 = .ok (.iand, 1) := by decide +kernel
theorem dJ2_getChar_3b067_42 : decode cJ2_getChar_3b067 42 = .ok (.getstatic 59, 3) := by decide +kernel
theorem dJ2_getChar_3b067_45 : decode cJ2_getChar_3b067 45 = .ok (.ishl, 1) := by decide +kernel
theorem dJ2_getChar_3b067_46 : decode cJ2_getChar_3b067 46 = .ok (.aload_n 0, 1) := by decide +kernel
theorem dJ2_getChar_3b067_47 : decode cJ2_getChar_3b067 47 = .ok (.iload_n 1, 1) := by decide +kernel
theorem dJ2_getChar_3b067_48 : decode cJ2_getChar_3b067 48 = .ok (.baload, 1) := by decide +kernel
theorem dJ2_getChar_3b067_49 : decode cJ2_getChar_3b067 49 = .ok (.sipush 255, 3) := by decide +kernel
theorem dJ2_getChar_3b067_52 : decode cJ2_getChar_3b067 52 = .ok (.iand, 1) := by decide +kernel
theorem dJ2_getChar_3b067_53 : decode cJ2_getChar_3b067 53 = .ok (.getstatic 63, 3) := by decide +kernel
theorem dJ2_getChar_3b067_56 : decode cJ2_getChar_3b067 56 = .ok (.ishl, 1) := by decide +kernel
theorem dJ2_getChar_3b067_57 : decode cJ2_getChar_3b067 57 = .ok (.ior, 1) := by decide +kernel
theorem dJ2_getChar_3b067_58 : decode cJ2_getChar_3b067 58 = .ok (.i2c, 1) := by decide +kernel
theorem dJ2_getChar_3b067_59 : decode cJ2_getChar_3b067 59 = .ok (.ireturn, 1) := by decide +kernel
theorem dJ2_length_9d52b_0 : decode cJ2_length_9d52b 0 = .ok (.aload_n 0, 1) := by decide +kernel
theorem dJ2_length_9d52b_1 : decode cJ2_length_9d52b 1 = .ok (.arraylength, 1) := by decide +kernel
theorem dJ2_length_9d52b_2 : decode cJ2_length_9d52b 2 = .ok (.iconst 1, 1) := by decide +kernel
theorem dJ2_length_9d52b_3 : decode cJ2_length_9d52b 3 = .ok (.ishr, 1) := by decide +kernel
theorem dJ2_length_9d52b_4 : decode cJ2_length_9d52b 4 = .ok (.ireturn, 1) := by decide +kernel
theorem dJ2_charAt_3b067_0 : decode cJ2_charAt_3b067 0 = .ok (.iload_n 1, 1) := by decide +kernel
theorem dJ2_charAt_3b067_1 : decode cJ2_charAt_3b067 1 = .ok (.aload_n 0, 1) := by decide +kernel
theorem dJ2_charAt_3b067_2 : decode cJ2_charAt_3b067 2 = .ok (.invokestatic 67, 3) := by decide +kernel
theorem dJ2_charAt_3b067_5 : decode cJ2_charAt_3b067 5 = .ok (.aload_n 0, 1) := by decide +kernel
theorem dJ2_charAt_3b067_6 : decode cJ2_charAt_3b067 6 = .ok (.iload_n 1, 1) := by decide +kernel
theorem dJ2_charAt_3b067_7 : decode cJ2_charAt_3b067 7 = .ok (.invokestatic 71, 3) := by decide +kernel
theorem dJ2_charAt_3b067_10 : decode cJ2_charAt_3b067 10 = .ok (.ireturn, 1) := by decide +kernel
theorem dJ2_checkIndex_2214a_0 : decode cJ2_checkIndex_2214a 0 = .ok (.iload_n 0, 1) := by decide +kernel
theorem dJ2_checkIndex_2214a_1 : decode cJ2_checkIndex_2214a 1 = .ok (.aload_n 1, 1) := by decide +kernel
theorem dJ2_checkIndex_2214a_2 : decode cJ2_checkIndex_2214a 2 = .ok (.invokestatic 48, 3) := by decide +kernel
theorem dJ2_checkIndex_2214a_5 : decode cJ2_checkIndex_2214a 5 = .ok (.invokestatic 414, 3) := by decide +kernel
theorem dJ2_checkIndex_2214a_8 : decode cJ2_checkIndex_2214a 8 = .ok (.return_, 1) := by decide +kernel
theorem dJ3_checkIndex_8e157_0 : decode cJ3_checkIndex_8e157 0 = .ok (.iload_n 0, 1) := by decide +kernel
theorem dJ3_checkIndex_8e157_1 : decode cJ3_checkIndex_8e157 1 = .ok (.ifCond .lt 8, 3) := by decide +kernel
theorem dJ3_checkIndex_8e157_4 : decode cJ3_checkIndex_8e157 4 = .ok (.iload_n 0, 1) := by decide +kernel
theorem dJ3_checkIndex_8e157_5 : decode cJ3_checkIndex_8e157 5 = .ok (.iload_n 1, 1) := by decide +kernel
theorem dJ3_checkIndex_8e157_6 : decode cJ3_checkIndex_8e157 6 = .ok (.if_icmp .lt 10, 3) := by decide +kernel
theorem dJ3_checkIndex_8e157_9 : decode cJ3_checkIndex_8e157 9 = .ok (.aload_n 2, 1) := by decide +kernel
theorem dJ3_checkIndex_8e157_10 : decode cJ3_checkIndex_8e157 10 = .ok (.iload_n 0, 1) := by decide +kernel
theorem dJ3_checkIndex_8e157_11 : decode cJ3_checkIndex_8e157 11 = .ok (.iload_n 1, 1) := by decide +kernel
theorem dJ3_checkIndex_8e157_12 : decode cJ3_checkIndex_8e157 12 = .ok (.invokestatic 95, 3) := by decide +kernel
theorem dJ3_checkIndex_8e157_15 : decode cJ3_checkIndex_8e157 15 = .ok (.athrow, 1) := by decide +kernel
theorem dJ3_checkIndex_8e157_16 : decode cJ3_checkIndex_8e157 16 = .ok (.iload_n 0, 1) := by decide +kernel
theorem dJ3_checkIndex_8e157_17 : decode cJ3_checkIndex_8e157 17 = .ok (.ireturn, 1) := by decide +kernel
