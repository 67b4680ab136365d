theorem dX0_init_0 : decode cX0_init 0 = .ok (.aload_n 0, 1) := by decide +kernel
theorem dX0_init_1 : decode cX0_init 1 = .ok (.invokespecial 3, 3) := by decide +kernel
theorem dX0_init_4 : decode cX0_init 4 = .ok (.aload_n 0, 1) := by decide +kernel
theorem dX0_init_5 : decode cX0_init 5 = .ok (.bipush 7, 2) := by decide +kernel
theorem dX0_init_7 : decode cX0_init 7 = .ok (.newarray .int, 2) := by decide +kernel
theorem dX0_init_9 : decode cX0_init 9 = .ok (.putfield 9, 3) := by decide +kernel
theorem dX0_init_12 : decode cX0_init 12 = .ok (.aload_n 0, 1) := by decide +kernel
theorem dX0_init_13 : decode cX0_init 13 = .ok (.bipush 7, 2) := by decide +kernel
theorem dX0_init_15 : decode cX0_init 15 = .ok (.newarray .int, 2) := by decide +kernel
theorem dX0_init_17 : decode cX0_init 17 = .ok (.putfield 15, 3) := by decide +kernel
theorem dX0_init_20 : decode cX0_init 20 = .ok (.aload_n 0, 1) := by decide +kernel
theorem dX0_init_21 : decode cX0_init 21 = .ok (.sipush 896, 3) := by decide +kernel
theorem dX0_init_24 : decode cX0_init 24 = .ok (.newarray .int, 2) := by decide +kernel
theorem dX0_init_26 : decode cX0_init 26 = .ok (.putfield 18, 3) := by decide +kernel
theorem dX0_init_29 : decode cX0_init 29 = .ok (.aload_n 0, 1) := by decide +kernel
theorem dX0_init_30 : decode cX0_init 30 = .ok (.bipush 7, 2) := by decide +kernel
theorem dX0_init_32 : decode cX0_init 32 = .ok (.newarray .int, 2) := by decide +kernel
theorem dX0_init_34 : decode cX0_init 34 = .ok (.putfield 21, 3) := by decide +kernel
theorem dX0_init_37 : decode cX0_init 37 = .ok (.aload_n 0, 1) := by decide +kernel
theorem dX0_init_38 : decode cX0_init 38 = .ok (.iconst 0, 1) := by decide +kernel
theorem dX0_init_39 : decode cX0_init 39 = .ok (.putfield 24, 3) := by decide +kernel
theorem dX0_init_42 : decode cX0_init 42 = .ok (.aload_n 0, 1) := by decide +kernel
theorem dX0_init_43 : decode cX0_init 43 = .ok (.iconst 0, 1) := by decide +kernel
theorem dX0_init_44 : decode cX0_init 44 = .ok (.putfield 28, 3) := by decide +kernel
theorem dX0_init_47 : decode cX0_init 47 = .ok (.aload_n 0, 1) := by decide +kernel
theorem dX0_init_48 : decode cX0_init 48 = .ok (.iconst 0, 1) := by decide +kernel
theorem dX0_init_49 : decode cX0_init 49 = .ok (.putfield 31, 3) := by decide +kernel
theorem dX0_init_52 : decode cX0_init 52 = .ok (.return_, 1) := by decide +kernel
theorem dX0_find_0 : decode cX0_find 0 = .ok (.aload_n 0, 1) := by decide +kernel
theorem dX0_find_1 : decode cX0_find 1 = .ok (.aload_n 1, 1) := by decide +kernel
theorem dX0_find_2 : decode cX0_find 2 = .ok (.invokevirtual 34, 3) := by decide +kernel
theorem dX0_find_5 : decode cX0_find 5 = .ok (.iconst 1, 1) := by decide +kernel
theorem dX0_find_6 : decode cX0_find 6 = .ok (.aload_n 0, 1) := by decide +kernel
theorem dX0_find_7 : decode cX0_find 7 = .ok (.getfield 24, 3) := by decide +kernel
theorem dX0_find_10 : decode cX0_find 10 = .ok (.ishl, 1) := by decide +kernel
theorem dX0_find_11 : decode cX0_find 11 = .ok (.iconst 1, 1) := by decide +kernel
theorem dX0_find_12 : decode cX0_find 12 = .ok (.isub, 1) := by decide +kernel
theorem dX0_find_13 : decode cX0_find 13 = .ok (.istore_n 2, 1) := by decide +kernel
theorem dX0_find_14 : decode cX0_find 14 = .ok (.iload_n 2, 1) := by decide +kernel
theorem dX0_find_15 : decode cX0_find 15 = .ok (.ifCond .le 60, 3) := by decide +kernel
theorem dX0_find_18 : decode cX0_find 18 = .ok (.iconst 0, 1) := by decide +kernel
theorem dX0_find_19 : decode cX0_find 19 = .ok (.istore_n 3, 1) := by decide +kernel
theorem dX0_find_20 : decode cX0_find 20 = .ok (.iload_n 3, 1) := by decide +kernel
theorem dX0_find_21 : decode cX0_find 21 = .ok (.aload_n 0, 1) := by decide +kernel
theorem dX0_find_22 : decode cX0_find 22 = .ok (.getfield 24, 3) := by decide +kernel
theorem dX0_find_25 : decode cX0_find 25 = .ok (.if_icmp .ge 44, 3) := by decide +kernel
theorem dX0_find_28 : decode cX0_find 28 = .ok (.iload_n 2, 1) := by decide +kernel
theorem dX0_find_29 : decode cX0_find 29 = .ok (.iload_n 3, 1) := by decide +kernel
theorem dX0_find_30 : decode cX0_find 30 = .ok (.invokestatic 38, 3) := by decide +kernel
theorem dX0_find_33 : decode cX0_find 33 = .ok (.ifCond .eq 30, 3) := by decide +kernel
theorem dX0_find_36 : decode cX0_find 36 = .ok (.aload_n 0, 1) := by decide +kernel
theorem dX0_find_37 : decode cX0_find 37 = .ok (.iload_n 2, 1) := by decide +kernel
theorem dX0_find_38 : decode cX0_find 38 = .ok (.aload_n 0, 1) := by decide +kernel
theorem dX0_find_39 : decode cX0_find 39 = .ok (.getfield 15, 3) := by decide +kernel
theorem dX0_find_42 : decode cX0_find 42 = .ok (.iload_n 3, 1) := by decide +kernel
theorem dX0_find_43 : decode cX0_find 43 = .ok (.iaload, 1) := by decide +kernel
theorem dX0_find_44 : decode cX0_find 44 = .ok (.invokevirtual 42, 3) := by decide +kernel
theorem dX0_find_47 : decode cX0_find 47 = .ok (.pop, 1) := by decide +kernel
theorem dX0_find_48 : decode cX0_find 48 = .ok (.aload_n 0, 1) := by decide +kernel
theorem dX0_find_49 : decode cX0_find 49 = .ok (.getfield 18, 3) := by decide +kernel
theorem dX0_find_52 : decode cX0_find 52 = .ok (.iload_n 2, 1) := by decide +kernel
theorem dX0_find_53 : decode cX0_find 53 = .ok (.bipush 7, 2) := by decide +kernel
theorem dX0_find_55 : decode cX0_find 55 = .ok (.imul, 1) := by decide +kernel
theorem dX0_find_56 : decode cX0_find 56 = .ok (.iload_n 3, 1) := by decide +kernel
theorem dX0_find_57 : decode cX0_find 57 = .ok (.iadd, 1) := by decide +kernel
theorem dX0_find_58 : decode cX0_find 58 = .ok (.aload_n 0, 1) := by decide +kernel
theorem dX0_find_59 : decode cX0_find 59 = .ok (.getfield 31, 3) := by decide +kernel
theorem dX0_find_62 : decode cX0_find 62 = .ok (.iastore, 1) := by decide +kernel
theorem dX0_find_63 : decode cX0_find 63 = .ok (.iinc 3 1, 3) := by decide +kernel
theorem dX0_find_66 : decode cX0_find 66 = .ok (.goto (-46), 3) := by decide +kernel
theorem dX0_find_69 : decode cX0_find 69 = .ok (.iinc 2 (-1), 3) := by decide +kernel
theorem dX0_find_72 : decode cX0_find 72 = .ok (.goto (-58), 3) := by decide +kernel
theorem dX0_find_75 : decode cX0_find 75 = .ok (.aload_n 0, 1) := by decide +kernel
theorem dX0_find_76 : decode cX0_find 76 = .ok (.aload_n 1, 1) := by decide +kernel
theorem dX0_find_77 : decode cX0_find 77 = .ok (.getfield 46, 3) := by decide +kernel
theorem dX0_find_80 : decode cX0_find 80 = .ok (.invokevirtual 51, 3) := by decide +kernel
theorem dX0_find_83 : decode cX0_find 83 = .ok (.return_, 1) := by decide +kernel
theorem dX0_listOpen_0 : decode cX0_listOpen 0 = .ok (.aload_n 0, 1) := by decide +kernel
theorem dX0_listOpen_1 : decode cX0_listOpen 1 = .ok (.iconst 0, 1) := by decide +kernel
theorem dX0_listOpen_2 : decode cX0_listOpen 2 = .ok (.putfield 24, 3) := by decide +kernel
theorem dX0_listOpen_5 : decode cX0_listOpen 5 = .ok (.iconst 0, 1) := by decide +kernel
theorem dX0_listOpen_6 : decode cX0_listOpen 6 = .ok (.istore_n 2, 1) := by decide +kernel
theorem dX0_listOpen_7 : decode cX0_listOpen 7 = .ok (.iload_n 2, 1) := by decide +kernel
theorem dX0_listOpen_8 : decode cX0_listOpen 8 = .ok (.aload_n 1, 1) := by decide +kernel
theorem dX0_listOpen_9 : decode cX0_listOpen 9 = .ok (.getfield 55, 3) := by decide +kernel
theorem dX0_listOpen_12 : decode cX0_listOpen 12 = .ok (.if_icmp .ge 52, 3) := by decide +kernel
theorem dX0_listOpen_15 : decode cX0_listOpen 15 = .ok (.aload_n 1, 1) := by decide +kernel
theorem dX0_listOpen_16 : decode cX0_listOpen 16 = .ok (.iload_n 2, 1) := by decide +kernel
theorem dX0_listOpen_17 : decode cX0_listOpen 17 = .ok (.invokevirtual 58, 3) := by decide +kernel
theorem dX0_listOpen_20 : decode cX0_listOpen 20 = .ok (.ifCond .le 38, 3) := by decide +kernel
theorem dX0_listOpen_23 : decode cX0_listOpen 23 = .ok (.aload_n 0, 1) := by decide +kernel
theorem dX0_listOpen_24 : decode cX0_listOpen 24 = .ok (.getfield 9, 3) := by decide +kernel
theorem dX0_listOpen_27 : decode cX0_listOpen 27 = .ok (.aload_n 0, 1) := by decide +kernel
theorem dX0_listOpen_28 : decode cX0_listOpen 28 = .ok (.getfield 24, 3) := by decide +kernel
theorem dX0_listOpen_31 : decode cX0_listOpen 31 = .ok (.iload_n 2, 1) := by decide +kernel
theorem dX0_listOpen_32 : decode cX0_listOpen 32 = .ok (.iastore, 1) := by decide +kernel
theorem dX0_listOpen_33 : decode cX0_listOpen 33 = .ok (.aload_n 0, 1) := by decide +kernel
theorem dX0_listOpen_34 : decode cX0_listOpen 34 = .ok (.getfield 15, 3) := by decide +kernel
theorem dX0_listOpen_37 : decode cX0_listOpen 37 = .ok (.aload_n 0, 1) := by decide +kernel
theorem dX0_listOpen_38 : decode cX0_listOpen 38 = .ok (.getfield 24, 3) := by decide +kernel
theorem dX0_listOpen_41 : decode cX0_listOpen 41 = .ok (.aload_n 1, 1) := by decide +kernel
theorem dX0_listOpen_42 : decode cX0_listOpen 42 = .ok (.getfield 62, 3) := by decide +kernel
theorem dX0_listOpen_45 : decode cX0_listOpen 45 = .ok (.iload_n 2, 1) := by decide +kernel
theorem dX0_listOpen_46 : decode cX0_listOpen 46 = .ok (.iaload, 1) := by decide +kernel
theorem dX0_listOpen_47 : decode cX0_listOpen 47 = .ok (.iastore, 1) := by decide +kernel
theorem dX0_listOpen_48 : decode cX0_listOpen 48 = .ok (.aload_n 0, 1) := by decide +kernel
theorem dX0_listOpen_49 : decode cX0_listOpen 49 = .ok (.dup, 1) := by decide +kernel
theorem dX0_listOpen_50 : decode cX0_listOpen 50 = .ok (.getfield 24, 3) := by decide +kernel
theorem dX0_listOpen_53 : decode cX0_listOpen 53 = .ok (.iconst 1, 1) := by decide +kernel
theorem dX0_listOpen_54 : decode cX0_listOpen 54 = .ok (.iadd, 1) := by decide +kernel
theorem dX0_listOpen_55 : decode cX0_listOpen 55 = .ok (.putfield 24, 3) := by decide +kernel
theorem dX0_listOpen_58 : decode cX0_listOpen 58 = .ok (.iinc 2 1, 3) := by decide +kernel
theorem dX0_listOpen_61 : decode cX0_listOpen 61 = .ok (.goto (-54), 3) := by decide +kernel
theorem dX0_listOpen_64 : decode cX0_listOpen 64 = .ok (.return_, 1) := by decide +kernel
theorem dX0_follow_0 : decode cX0_follow 0 = .ok (.iconst 0, 1) := by decide +kernel
theorem dX0_follow_1 : decode cX0_follow 1 = .ok (.istore_n 2, 1) := by decide +kernel
theorem dX0_follow_2 : decode cX0_follow 2 = .ok (.iload_n 1, 1) := by decide +kernel
theorem dX0_follow_3 : decode cX0_follow 3 = .ok (.istore_n 3, 1) := by decide +kernel
theorem dX0_follow_4 : decode cX0_follow 4 = .ok (.aload_n 0, 1) := by decide +kernel
theorem dX0_follow_5 : decode cX0_follow 5 = .ok (.iconst 0, 1) := by decide +kernel
theorem dX0_follow_6 : decode cX0_follow 6 = .ok (.putfield 28, 3) := by decide +kernel
theorem dX0_follow_9 : decode cX0_follow 9 = .ok (.iconst 0, 1) := by decide +kernel
theorem dX0_follow_10 : decode cX0_follow 10 = .ok (.istore 4, 2) := by decide +kernel
theorem dX0_follow_12 : decode cX0_follow 12 = .ok (.iload 4, 2) := by decide +kernel
theorem dX0_follow_14 : decode cX0_follow 14 = .ok (.aload_n 0, 1) := by decide +kernel
theorem dX0_follow_15 : decode cX0_follow 15 = .ok (.getfield 24, 3) := by decide +kernel
theorem dX0_follow_18 : decode cX0_follow 18 = .ok (.if_icmp .ge 73, 3) := by decide +kernel
theorem dX0_follow_21 : decode cX0_follow 21 = .ok (.aload_n 0, 1) := by decide +kernel
theorem dX0_follow_22 : decode cX0_follow 22 = .ok (.iload_n 2, 1) := by decide +kernel
theorem dX0_follow_23 : decode cX0_follow 23 = .ok (.iload_n 3, 1) := by decide +kernel
theorem dX0_follow_24 : decode cX0_follow 24 = .ok (.invokevirtual 42, 3) := by decide +kernel
theorem dX0_follow_27 : decode cX0_follow 27 = .ok (.istore 5, 2) := by decide +kernel
theorem dX0_follow_29 : decode cX0_follow 29 = .ok (.iload 5, 2) := by decide +kernel
theorem dX0_follow_31 : decode cX0_follow 31 = .ok (.iconst (-1), 1) := by decide +kernel
theorem dX0_follow_32 : decode cX0_follow 32 = .ok (.if_icmp .ne 4, 3) := by decide +kernel
theorem dX0_follow_35 : decode cX0_follow 35 = .ok (.return_, 1) := by decide +kernel
theorem dX0_follow_36 : decode cX0_follow 36 = .ok (.aload_n 0, 1) := by decide +kernel
theorem dX0_follow_37 : decode cX0_follow 37 = .ok (.dup, 1) := by decide +kernel
theorem dX0_follow_38 : decode cX0_follow 38 = .ok (.getfield 28, 3) := by decide +kernel
theorem dX0_follow_41 : decode cX0_follow 41 = .ok (.iload_n 3, 1) := by decide +kernel
theorem dX0_follow_42 : decode cX0_follow 42 = .ok (.aload_n 0, 1) := by decide +kernel
theorem dX0_follow_43 : decode cX0_follow 43 = .ok (.getfield 15, 3) := by decide +kernel
theorem dX0_follow_46 : decode cX0_follow 46 = .ok (.iload 5, 2) := by decide +kernel
theorem dX0_follow_48 : decode cX0_follow 48 = .ok (.iaload, 1) := by decide +kernel
theorem dX0_follow_49 : decode cX0_follow 49 = .ok (.invokestatic 65, 3) := by decide +kernel
theorem dX0_follow_52 : decode cX0_follow 52 = .ok (.iadd, 1) := by decide +kernel
theorem dX0_follow_53 : decode cX0_follow 53 = .ok (.putfield 28, 3) := by decide +kernel
theorem dX0_follow_56 : decode cX0_follow 56 = .ok (.aload_n 0, 1) := by decide +kernel
theorem dX0_follow_57 : decode cX0_follow 57 = .ok (.getfield 21, 3) := by decide +kernel
theorem dX0_follow_60 : decode cX0_follow 60 = .ok (.iload 4, 2) := by decide +kernel
theorem dX0_follow_62 : decode cX0_follow 62 = .ok (.aload_n 0, 1) := by decide +kernel
theorem dX0_follow_63 : decode cX0_follow 63 = .ok (.getfield 9, 3) := by decide +kernel
theorem dX0_follow_66 : decode cX0_follow 66 = .ok (.iload 5, 2) := by decide +kernel
theorem dX0_follow_68 : decode cX0_follow 68 = .ok (.iaload, 1) := by decide +kernel
theorem dX0_follow_69 : decode cX0_follow 69 = .ok (.iastore, 1) := by decide +kernel
theorem dX0_follow_70 : decode cX0_follow 70 = .ok (.iload_n 2, 1) := by decide +kernel
theorem dX0_follow_71 : decode cX0_follow 71 = .ok (.iconst 1, 1) := by decide +kernel
theorem dX0_follow_72 : decode cX0_follow 72 = .ok (.iload 5, 2) := by decide +kernel
theorem dX0_follow_74 : decode cX0_follow 74 = .ok (.ishl, 1) := by decide +kernel
theorem dX0_follow_75 : decode cX0_follow 75 = .ok (.ior, 1) := by decide +kernel
theorem dX0_follow_76 : decode cX0_follow 76 = .ok (.istore_n 2, 1) := by decide +kernel
theorem dX0_follow_77 : decode cX0_follow 77 = .ok (.aload_n 0, 1) := by decide +kernel
theorem dX0_follow_78 : decode cX0_follow 78 = .ok (.getfield 15, 3) := by decide +kernel
theorem dX0_follow_81 : decode cX0_follow 81 = .ok (.iload 5, 2) := by decide +kernel
theorem dX0_follow_83 : decode cX0_follow 83 = .ok (.iaload, 1) := by decide +kernel
theorem dX0_follow_84 : decode cX0_follow 84 = .ok (.istore_n 3, 1) := by decide +kernel
theorem dX0_follow_85 : decode cX0_follow 85 = .ok (.iinc 4 1, 3) := by decide +kernel
theorem dX0_follow_88 : decode cX0_follow 88 = .ok (.goto (-76), 3) := by decide +kernel
theorem dX0_follow_91 : decode cX0_follow 91 = .ok (.return_, 1) := by decide +kernel
theorem dX0_chooseNext_0 : decode cX0_chooseNext 0 = .ok (.iconst (-1), 1) := by decide +kernel
theorem dX0_chooseNext_1 : decode cX0_chooseNext 1 = .ok (.istore_n 3, 1) := by decide +kernel
theorem dX0_chooseNext_2 : decode cX0_chooseNext 2 = .ok (.aload_n 0, 1) := by decide +kernel
theorem dX0_chooseNext_3 : decode cX0_chooseNext 3 = .ok (.iconst 0, 1) := by decide +kernel
theorem dX0_chooseNext_4 : decode cX0_chooseNext 4 = .ok (.putfield 31, 3) := by decide +kernel
theorem dX0_chooseNext_7 : decode cX0_chooseNext 7 = .ok (.iconst 0, 1) := by decide +kernel
theorem dX0_chooseNext_8 : decode cX0_chooseNext 8 = .ok (.istore 4, 2) := by decide +kernel
theorem dX0_chooseNext_10 : decode cX0_chooseNext 10 = .ok (.iload 4, 2) := by decide +kernel
theorem dX0_chooseNext_12 : decode cX0_chooseNext 12 = .ok (.aload_n 0, 1) := by decide +kernel
theorem dX0_chooseNext_13 : decode cX0_chooseNext 13 = .ok (.getfield 24, 3) := by decide +kernel
theorem dX0_chooseNext_16 : decode cX0_chooseNext 16 = .ok (.if_icmp .ge 76, 3) := by decide +kernel
theorem dX0_chooseNext_19 : decode cX0_chooseNext 19 = .ok (.iload_n 1, 1) := by decide +kernel
theorem dX0_chooseNext_20 : decode cX0_chooseNext 20 = .ok (.iload 4, 2) := by decide +kernel
theorem dX0_chooseNext_22 : decode cX0_chooseNext 22 = .ok (.invokestatic 38, 3) := by decide +kernel
theorem dX0_chooseNext_25 : decode cX0_chooseNext 25 = .ok (.ifCond .ne 61, 3) := by decide +kernel
theorem dX0_chooseNext_28 : decode cX0_chooseNext 28 = .ok (.aload_n 0, 1) := by decide +kernel
theorem dX0_chooseNext_29 : decode cX0_chooseNext 29 = .ok (.getfield 18, 3) := by decide +kernel
theorem dX0_chooseNext_32 : decode cX0_chooseNext 32 = .ok (.iload_n 1, 1) := by decide +kernel
theorem dX0_chooseNext_33 : decode cX0_chooseNext 33 = .ok (.iconst 1, 1) := by decide +kernel
theorem dX0_chooseNext_34 : decode cX0_chooseNext 34 = .ok (.iload 4, 2) := by decide +kernel
theorem dX0_chooseNext_36 : decode cX0_chooseNext 36 = .ok (.ishl, 1) := by decide +kernel
theorem dX0_chooseNext_37 : decode cX0_chooseNext 37 = .ok (.ior, 1) := by decide +kernel
theorem dX0_chooseNext_38 : decode cX0_chooseNext 38 = .ok (.bipush 7, 2) := by decide +kernel
theorem dX0_chooseNext_40 : decode cX0_chooseNext 40 = .ok (.imul, 1) := by decide +kernel
theorem dX0_chooseNext_41 : decode cX0_chooseNext 41 = .ok (.iload 4, 2) := by decide +kernel
theorem dX0_chooseNext_43 : decode cX0_chooseNext 43 = .ok (.iadd, 1) := by decide +kernel
theorem dX0_chooseNext_44 : decode cX0_chooseNext 44 = .ok (.iaload, 1) := by decide +kernel
theorem dX0_chooseNext_45 : decode cX0_chooseNext 45 = .ok (.istore 5, 2) := by decide +kernel
theorem dX0_chooseNext_47 : decode cX0_chooseNext 47 = .ok (.iload_n 2, 1) := by decide +kernel
theorem dX0_chooseNext_48 : decode cX0_chooseNext 48 = .ok (.aload_n 0, 1) := by decide +kernel
theorem dX0_chooseNext_49 : decode cX0_chooseNext 49 = .ok (.getfield 15, 3) := by decide +kernel
theorem dX0_chooseNext_52 : decode cX0_chooseNext 52 = .ok (.iload 4, 2) := by decide +kernel
theorem dX0_chooseNext_54 : decode cX0_chooseNext 54 = .ok (.iaload, 1) := by decide +kernel
theorem dX0_chooseNext_55 : decode cX0_chooseNext 55 = .ok (.invokestatic 65, 3) := by decide +kernel
theorem dX0_chooseNext_58 : decode cX0_chooseNext 58 = .ok (.iload 5, 2) := by decide +kernel
theorem dX0_chooseNext_60 : decode cX0_chooseNext 60 = .ok (.iadd, 1) := by decide +kernel
theorem dX0_chooseNext_61 : decode cX0_chooseNext 61 = .ok (.istore 6, 2) := by decide +kernel
theorem dX0_chooseNext_63 : decode cX0_chooseNext 63 = .ok (.iload_n 3, 1) := by decide +kernel
theorem dX0_chooseNext_64 : decode cX0_chooseNext 64 = .ok (.iconst (-1), 1) := by decide +kernel
theorem dX0_chooseNext_65 : decode cX0_chooseNext 65 = .ok (.if_icmp .eq 12, 3) := by decide +kernel
theorem dX0_chooseNext_68 : decode cX0_chooseNext 68 = .ok (.iload 6, 2) := by decide +kernel
theorem dX0_chooseNext_70 : decode cX0_chooseNext 70 = .ok (.aload_n 0, 1) := by decide +kernel
theorem dX0_chooseNext_71 : decode cX0_chooseNext 71 = .ok (.getfield 31, 3) := by decide +kernel
theorem dX0_chooseNext_74 : decode cX0_chooseNext 74 = .ok (.if_icmp .ge 12, 3) := by decide +kernel
theorem dX0_chooseNext_77 : decode cX0_chooseNext 77 = .ok (.iload 4, 2) := by decide +kernel
theorem dX0_chooseNext_79 : decode cX0_chooseNext 79 = .ok (.istore_n 3, 1) := by decide +kernel
theorem dX0_chooseNext_80 : decode cX0_chooseNext 80 = .ok (.aload_n 0, 1) := by decide +kernel
theorem dX0_chooseNext_81 : decode cX0_chooseNext 81 = .ok (.iload 6, 2) := by decide +kernel
theorem dX0_chooseNext_83 : decode cX0_chooseNext 83 = .ok (.putfield 31, 3) := by decide +kernel
theorem dX0_chooseNext_86 : decode cX0_chooseNext 86 = .ok (.iinc 4 1, 3) := by decide +kernel
theorem dX0_chooseNext_89 : decode cX0_chooseNext 89 = .ok (.goto (-79), 3) := by decide +kernel
theorem dX0_chooseNext_92 : decode cX0_chooseNext 92 = .ok (.iload_n 3, 1) := by decide +kernel
theorem dX0_chooseNext_93 : decode cX0_chooseNext 93 = .ok (.ireturn, 1) := by decide +kernel
theorem dX0_contains_0 : decode cX0_contains 0 = .ok (.iload_n 0, 1) := by decide +kernel
theorem dX0_contains_1 : decode cX0_contains 1 = .ok (.iconst 1, 1) := by decide +kernel
theorem dX0_contains_2 : decode cX0_contains 2 = .ok (.iload_n 1, 1) := by decide +kernel
theorem dX0_contains_3 : decode cX0_contains 3 = .ok (.ishl, 1) := by decide +kernel
theorem dX0_contains_4 : decode cX0_contains 4 = .ok (.iand, 1) := by decide +kernel
theorem dX0_contains_5 : decode cX0_contains 5 = .ok (.ifCond .eq 7, 3) := by decide +kernel
theorem dX0_contains_8 : decode cX0_contains 8 = .ok (.iconst 1, 1) := by decide +kernel
theorem dX0_contains_9 : decode cX0_contains 9 = .ok (.goto 4, 3) := by decide +kernel
theorem dX0_contains_12 : decode cX0_contains 12 = .ok (.iconst 0, 1) := by decide +kernel
theorem dX0_contains_13 : decode cX0_contains 13 = .ok (.ireturn, 1) := by decide +kernel
theorem dX0_minutesOfAllOrders_0 : decode cX0_minutesOfAllOrders 0 = .ok (.aload_n 0, 1) := by decide +kernel
theorem dX0_minutesOfAllOrders_1 : decode cX0_minutesOfAllOrders 1 = .ok (.aload_n 1, 1) := by decide +kernel
theorem dX0_minutesOfAllOrders_2 : decode cX0_minutesOfAllOrders 2 = .ok (.invokevirtual 34, 3) := by decide +kernel
theorem dX0_minutesOfAllOrders_5 : decode cX0_minutesOfAllOrders 5 = .ok (.aload_n 0, 1) := by decide +kernel
theorem dX0_minutesOfAllOrders_6 : decode cX0_minutesOfAllOrders 6 = .ok (.getfield 15, 3) := by decide +kernel
theorem dX0_minutesOfAllOrders_9 : decode cX0_minutesOfAllOrders 9 = .ok (.aload_n 0, 1) := by decide +kernel
theorem dX0_minutesOfAllOrders_10 : decode cX0_minutesOfAllOrders 10 = .ok (.getfield 24, 3) := by decide +kernel
theorem dX0_minutesOfAllOrders_13 : decode cX0_minutesOfAllOrders 13 = .ok (.iconst 0, 1) := by decide +kernel
theorem dX0_minutesOfAllOrders_14 : decode cX0_minutesOfAllOrders 14 = .ok (.aload_n 1, 1) := by decide +kernel
theorem dX0_minutesOfAllOrders_15 : decode cX0_minutesOfAllOrders 15 = .ok (.getfield 46, 3) := by decide +kernel
theorem dX0_minutesOfAllOrders_18 : decode cX0_minutesOfAllOrders 18 = .ok (.invokestatic 68, 3) := by decide +kernel
theorem dX0_minutesOfAllOrders_21 : decode cX0_minutesOfAllOrders 21 = .ok (.ireturn, 1) := by decide +kernel
theorem dX0_fewestOfOrders_0 : decode cX0_fewestOfOrders 0 = .ok (.iload_n 2, 1) := by decide +kernel
theorem dX0_fewestOfOrders_1 : decode cX0_fewestOfOrders 1 = .ok (.iload_n 1, 1) := by decide +kernel
theorem dX0_fewestOfOrders_2 : decode cX0_fewestOfOrders 2 = .ok (.if_icmp .lt 5, 3) := by decide +kernel
theorem dX0_fewestOfOrders_5 : decode cX0_fewestOfOrders 5 = .ok (.iconst 0, 1) := by decide +kernel
theorem dX0_fewestOfOrders_6 : decode cX0_fewestOfOrders 6 = .ok (.ireturn, 1) := by decide +kernel
theorem dX0_fewestOfOrders_7 : decode cX0_fewestOfOrders 7 = .ok (.sipush 1000, 3) := by decide +kernel
theorem dX0_fewestOfOrders_10 : decode cX0_fewestOfOrders 10 = .ok (.istore 4, 2) := by decide +kernel
theorem dX0_fewestOfOrders_12 : decode cX0_fewestOfOrders 12 = .ok (.iload_n 2, 1) := by decide +kernel
theorem dX0_fewestOfOrders_13 : decode cX0_fewestOfOrders 13 = .ok (.istore 5, 2) := by decide +kernel
theorem dX0_fewestOfOrders_15 : decode cX0_fewestOfOrders 15 = .ok (.iload 5, 2) := by decide +kernel
theorem dX0_fewestOfOrders_17 : decode cX0_fewestOfOrders 17 = .ok (.iload_n 1, 1) := by decide +kernel
theorem dX0_fewestOfOrders_18 : decode cX0_fewestOfOrders 18 = .ok (.if_icmp .ge 56, 3) := by decide +kernel
theorem dX0_fewestOfOrders_21 : decode cX0_fewestOfOrders 21 = .ok (.aload_n 0, 1) := by decide +kernel
theorem dX0_fewestOfOrders_22 : decode cX0_fewestOfOrders 22 = .ok (.iload_n 2, 1) := by decide +kernel
theorem dX0_fewestOfOrders_23 : decode cX0_fewestOfOrders 23 = .ok (.iload 5, 2) := by decide +kernel
theorem dX0_fewestOfOrders_25 : decode cX0_fewestOfOrders 25 = .ok (.invokestatic 72, 3) := by decide +kernel
theorem dX0_fewestOfOrders_28 : decode cX0_fewestOfOrders 28 = .ok (.aload_n 0, 1) := by decide +kernel
theorem dX0_fewestOfOrders_29 : decode cX0_fewestOfOrders 29 = .ok (.iload_n 2, 1) := by decide +kernel
theorem dX0_fewestOfOrders_30 : decode cX0_fewestOfOrders 30 = .ok (.iaload, 1) := by decide +kernel
theorem dX0_fewestOfOrders_31 : decode cX0_fewestOfOrders 31 = .ok (.istore 6, 2) := by decide +kernel
theorem dX0_fewestOfOrders_33 : decode cX0_fewestOfOrders 33 = .ok (.aload_n 0, 1) := by decide +kernel
theorem dX0_fewestOfOrders_34 : decode cX0_fewestOfOrders 34 = .ok (.iload_n 1, 1) := by decide +kernel
theorem dX0_fewestOfOrders_35 : decode cX0_fewestOfOrders 35 = .ok (.iload_n 2, 1) := by decide +kernel
theorem dX0_fewestOfOrders_36 : decode cX0_fewestOfOrders 36 = .ok (.iconst 1, 1) := by decide +kernel
theorem dX0_fewestOfOrders_37 : decode cX0_fewestOfOrders 37 = .ok (.iadd, 1) := by decide +kernel
theorem dX0_fewestOfOrders_38 : decode cX0_fewestOfOrders 38 = .ok (.iload 6, 2) := by decide +kernel
theorem dX0_fewestOfOrders_40 : decode cX0_fewestOfOrders 40 = .ok (.invokestatic 68, 3) := by decide +kernel
theorem dX0_fewestOfOrders_43 : decode cX0_fewestOfOrders 43 = .ok (.istore 7, 2) := by decide +kernel
theorem dX0_fewestOfOrders_45 : decode cX0_fewestOfOrders 45 = .ok (.iload 4, 2) := by decide +kernel
theorem dX0_fewestOfOrders_47 : decode cX0_fewestOfOrders 47 = .ok (.iload_n 3, 1) := by decide +kernel
theorem dX0_fewestOfOrders_48 : decode cX0_fewestOfOrders 48 = .ok (.iload 6, 2) := by decide +kernel
theorem dX0_fewestOfOrders_50 : decode cX0_fewestOfOrders 50 = .ok (.invokestatic 65, 3) := by decide +kernel
theorem dX0_fewestOfOrders_53 : decode cX0_fewestOfOrders 53 = .ok (.iload 7, 2) := by decide +kernel
theorem dX0_fewestOfOrders_55 : decode cX0_fewestOfOrders 55 = .ok (.iadd, 1) := by decide +kernel
theorem dX0_fewestOfOrders_56 : decode cX0_fewestOfOrders 56 = .ok (.invokestatic 76, 3) := by decide +kernel
theorem dX0_fewestOfOrders_59 : decode cX0_fewestOfOrders 59 = .ok (.istore 4, 2) := by decide +kernel
theorem dX0_fewestOfOrders_61 : decode cX0_fewestOfOrders 61 = .ok (.aload_n 0, 1) := by decide +kernel
theorem dX0_fewestOfOrders_62 : decode cX0_fewestOfOrders 62 = .ok (.iload_n 2, 1) := by decide +kernel
theorem dX0_fewestOfOrders_63 : decode cX0_fewestOfOrders 63 = .ok (.iload 5, 2) := by decide +kernel
theorem dX0_fewestOfOrders_65 : decode cX0_fewestOfOrders 65 = .ok (.invokestatic 72, 3) := by decide +kernel
theorem dX0_fewestOfOrders_68 : decode cX0_fewestOfOrders 68 = .ok (.iinc 5 1, 3) := by decide +kernel
theorem dX0_fewestOfOrders_71 : decode cX0_fewestOfOrders 71 = .ok (.goto (-56), 3) := by decide +kernel
theorem dX0_fewestOfOrders_74 : decode cX0_fewestOfOrders 74 = .ok (.iload 4, 2) := by decide +kernel
theorem dX0_fewestOfOrders_76 : decode cX0_fewestOfOrders 76 = .ok (.ireturn, 1) := by decide +kernel
theorem dX0_swap_0 : decode cX0_swap 0 = .ok (.aload_n 0, 1) := by decide +kernel
theorem dX0_swap_1 : decode cX0_swap 1 = .ok (.iload_n 1, 1) := by decide +kernel
theorem dX0_swap_2 : decode cX0_swap 2 = .ok (.iaload, 1) := by decide +kernel
theorem dX0_swap_3 : decode cX0_swap 3 = .ok (.istore_n 3, 1) := by decide +kernel
theorem dX0_swap_4 : decode cX0_swap 4 = .ok (.aload_n 0, 1) := by decide +kernel
theorem dX0_swap_5 : decode cX0_swap 5 = .ok (.iload_n 1, 1) := by decide +kernel
theorem dX0_swap_6 : decode cX0_swap 6 = .ok (.aload_n 0, 1) := by decide +kernel
theorem dX0_swap_7 : decode cX0_swap 7 = .ok (.iload_n 2, 1) := by decide +kernel
theorem dX0_swap_8 : decode cX0_swap 8 = .ok (.iaload, 1) := by decide +kernel
theorem dX0_swap_9 : decode cX0_swap 9 = .ok (.iastore, 1) := by decide +kernel
theorem dX0_swap_10 : decode cX0_swap 10 = .ok (.aload_n 0, 1) := by decide +kernel
theorem dX0_swap_11 : decode cX0_swap 11 = .ok (.iload_n 2, 1) := by decide +kernel
theorem dX0_swap_12 : decode cX0_swap 12 = .ok (.iload_n 3, 1) := by decide +kernel
theorem dX0_swap_13 : decode cX0_swap 13 = .ok (.iastore, 1) := by decide +kernel
theorem dX0_swap_14 : decode cX0_swap 14 = .ok (.return_, 1) := by decide +kernel
theorem dX2_init_0 : decode cX2_init 0 = .ok (.aload_n 0, 1) := by decide +kernel
theorem dX2_init_1 : decode cX2_init 1 = .ok (.invokespecial 3, 3) := by decide +kernel
theorem dX2_init_4 : decode cX2_init 4 = .ok (.aload_n 0, 1) := by decide +kernel
theorem dX2_init_5 : decode cX2_init 5 = .ok (.new 9, 3) := by decide +kernel
theorem dX2_init_8 : decode cX2_init 8 = .ok (.dup, 1) := by decide +kernel
theorem dX2_init_9 : decode cX2_init 9 = .ok (.invokespecial 11, 3) := by decide +kernel
theorem dX2_init_12 : decode cX2_init 12 = .ok (.putfield 12, 3) := by decide +kernel
theorem dX2_init_15 : decode cX2_init 15 = .ok (.aload_n 0, 1) := by decide +kernel
theorem dX2_init_16 : decode cX2_init 16 = .ok (.bipush 16, 2) := by decide +kernel
theorem dX2_init_18 : decode cX2_init 18 = .ok (.anewarray 18, 3) := by decide +kernel
theorem dX2_init_21 : decode cX2_init 21 = .ok (.putfield 20, 3) := by decide +kernel
theorem dX2_init_24 : decode cX2_init 24 = .ok (.aload_n 0, 1) := by decide +kernel
theorem dX2_init_25 : decode cX2_init 25 = .ok (.bipush 16, 2) := by decide +kernel
theorem dX2_init_27 : decode cX2_init 27 = .ok (.newarray .int, 2) := by decide +kernel
theorem dX2_init_29 : decode cX2_init 29 = .ok (.putfield 24, 3) := by decide +kernel
theorem dX2_init_32 : decode cX2_init 32 = .ok (.aload_n 0, 1) := by decide +kernel
theorem dX2_init_33 : decode cX2_init 33 = .ok (.bipush 16, 2) := by decide +kernel
theorem dX2_init_35 : decode cX2_init 35 = .ok (.newarray .int, 2) := by decide +kernel
theorem dX2_init_37 : decode cX2_init 37 = .ok (.putfield 28, 3) := by decide +kernel
theorem dX2_init_40 : decode cX2_init 40 = .ok (.aload_n 0, 1) := by decide +kernel
theorem dX2_init_41 : decode cX2_init 41 = .ok (.iconst 0, 1) := by decide +kernel
theorem dX2_init_42 : decode cX2_init 42 = .ok (.putfield 31, 3) := by decide +kernel
theorem dX2_init_45 : decode cX2_init 45 = .ok (.aload_n 0, 1) := by decide +kernel
theorem dX2_init_46 : decode cX2_init 46 = .ok (.iconst 0, 1) := by decide +kernel
theorem dX2_init_47 : decode cX2_init 47 = .ok (.putfield 35, 3) := by decide +kernel
theorem dX2_init_50 : decode cX2_init 50 = .ok (.return_, 1) := by decide +kernel
theorem dX2_length_0 : decode cX2_length 0 = .ok (.aload_n 0, 1) := by decide +kernel
theorem dX2_length_1 : decode cX2_length 1 = .ok (.getfield 12, 3) := by decide +kernel
theorem dX2_length_4 : decode cX2_length 4 = .ok (.invokevirtual 38, 3) := by decide +kernel
theorem dX2_length_7 : decode cX2_length 7 = .ok (.ireturn, 1) := by decide +kernel
theorem dX2_add_0 : decode cX2_add 0 = .ok (.aload_n 0, 1) := by decide +kernel
theorem dX2_add_1 : decode cX2_add 1 = .ok (.getfield 12, 3) := by decide +kernel
theorem dX2_add_4 : decode cX2_add 4 = .ok (.iload_n 1, 1) := by decide +kernel
theorem dX2_add_5 : decode cX2_add 5 = .ok (.invokevirtual 42, 3) := by decide +kernel
theorem dX2_add_8 : decode cX2_add 8 = .ok (.pop, 1) := by decide +kernel
theorem dX2_add_9 : decode cX2_add 9 = .ok (.return_, 1) := by decide +kernel
theorem dX2_empty_0 : decode cX2_empty 0 = .ok (.aload_n 0, 1) := by decide +kernel
theorem dX2_empty_1 : decode cX2_empty 1 = .ok (.getfield 12, 3) := by decide +kernel
theorem dX2_empty_4 : decode cX2_empty 4 = .ok (.iconst 0, 1) := by decide +kernel
theorem dX2_empty_5 : decode cX2_empty 5 = .ok (.invokevirtual 46, 3) := by decide +kernel
theorem dX2_empty_8 : decode cX2_empty 8 = .ok (.return_, 1) := by decide +kernel
theorem dX2_read_0 : decode cX2_read 0 = .ok (.aload_n 0, 1) := by decide +kernel
theorem dX2_read_1 : decode cX2_read 1 = .ok (.iconst 0, 1) := by decide +kernel
theorem dX2_read_2 : decode cX2_read 2 = .ok (.putfield 35, 3) := by decide +kernel
theorem dX2_read_5 : decode cX2_read 5 = .ok (.iconst 0, 1) := by decide +kernel
theorem dX2_read_6 : decode cX2_read 6 = .ok (.istore_n 1, 1) := by decide +kernel
theorem dX2_read_7 : decode cX2_read 7 = .ok (.iload_n 1, 1) := by decide +kernel
theorem dX2_read_8 : decode cX2_read 8 = .ok (.bipush 16, 2) := by decide +kernel
theorem dX2_read_10 : decode cX2_read 10 = .ok (.if_icmp .ge 53, 3) := by decide +kernel
theorem dX2_read_13 : decode cX2_read 13 = .ok (.aload_n 0, 1) := by decide +kernel
theorem dX2_read_14 : decode cX2_read 14 = .ok (.iload_n 1, 1) := by decide +kernel
theorem dX2_read_15 : decode cX2_read 15 = .ok (.invokevirtual 50, 3) := by decide +kernel
theorem dX2_read_18 : decode cX2_read 18 = .ok (.ifCond .ne 5, 3) := by decide +kernel
theorem dX2_read_21 : decode cX2_read 21 = .ok (.iconst 0, 1) := by decide +kernel
theorem dX2_read_22 : decode cX2_read 22 = .ok (.ireturn, 1) := by decide +kernel
theorem dX2_read_23 : decode cX2_read 23 = .ok (.aload_n 0, 1) := by decide +kernel
theorem dX2_read_24 : decode cX2_read 24 = .ok (.getfield 35, 3) := by decide +kernel
theorem dX2_read_27 : decode cX2_read 27 = .ok (.aload_n 0, 1) := by decide +kernel
theorem dX2_read_28 : decode cX2_read 28 = .ok (.getfield 12, 3) := by decide +kernel
theorem dX2_read_31 : decode cX2_read 31 = .ok (.invokevirtual 38, 3) := by decide +kernel
theorem dX2_read_34 : decode cX2_read 34 = .ok (.if_icmp .ne 12, 3) := by decide +kernel
theorem dX2_read_37 : decode cX2_read 37 = .ok (.aload_n 0, 1) := by decide +kernel
theorem dX2_read_38 : decode cX2_read 38 = .ok (.iload_n 1, 1) := by decide +kernel
theorem dX2_read_39 : decode cX2_read 39 = .ok (.iconst 1, 1) := by decide +kernel
theorem dX2_read_40 : decode cX2_read 40 = .ok (.iadd, 1) := by decide +kernel
theorem dX2_read_41 : decode cX2_read 41 = .ok (.putfield 31, 3) := by decide +kernel
theorem dX2_read_44 : decode cX2_read 44 = .ok (.iconst 1, 1) := by decide +kernel
theorem dX2_read_45 : decode cX2_read 45 = .ok (.ireturn, 1) := by decide +kernel
theorem dX2_read_46 : decode cX2_read 46 = .ok (.aload_n 0, 1) := by decide +kernel
theorem dX2_read_47 : decode cX2_read 47 = .ok (.bipush 59, 2) := by decide +kernel
theorem dX2_read_49 : decode cX2_read 49 = .ok (.invokevirtual 54, 3) := by decide +kernel
theorem dX2_read_52 : decode cX2_read 52 = .ok (.ifCond .ne 5, 3) := by decide +kernel
theorem dX2_read_55 : decode cX2_read 55 = .ok (.iconst 0, 1) := by decide +kernel
theorem dX2_read_56 : decode cX2_read 56 = .ok (.ireturn, 1) := by decide +kernel
theorem dX2_read_57 : decode cX2_read 57 = .ok (.iinc 1 1, 3) := by decide +kernel
theorem dX2_read_60 : decode cX2_read 60 = .ok (.goto (-53), 3) := by decide +kernel
theorem dX2_read_63 : decode cX2_read 63 = .ok (.iconst 0, 1) := by decide +kernel
theorem dX2_read_64 : decode cX2_read 64 = .ok (.ireturn, 1) := by decide +kernel
theorem dX2_readCommand_0 : decode cX2_readCommand 0 = .ok (.aload_n 0, 1) := by decide +kernel
theorem dX2_readCommand_1 : decode cX2_readCommand 1 = .ok (.invokevirtual 58, 3) := by decide +kernel
theorem dX2_readCommand_4 : decode cX2_readCommand 4 = .ok (.astore_n 2, 1) := by decide +kernel
theorem dX2_readCommand_5 : decode cX2_readCommand 5 = .ok (.aload_n 2, 1) := by decide +kernel
theorem dX2_readCommand_6 : decode cX2_readCommand 6 = .ok (.ifnonnull 5, 3) := by decide +kernel
theorem dX2_readCommand_9 : decode cX2_readCommand 9 = .ok (.iconst 0, 1) := by decide +kernel
theorem dX2_readCommand_10 : decode cX2_readCommand 10 = .ok (.ireturn, 1) := by decide +kernel
theorem dX2_readCommand_11 : decode cX2_readCommand 11 = .ok (.aload_n 0, 1) := by decide +kernel
theorem dX2_readCommand_12 : decode cX2_readCommand 12 = .ok (.aload_n 2, 1) := by decide +kernel
theorem dX2_readCommand_13 : decode cX2_readCommand 13 = .ok (.getfield 62, 3) := by decide +kernel
theorem dX2_readCommand_16 : decode cX2_readCommand 16 = .ok (.invokevirtual 65, 3) := by decide +kernel
theorem dX2_readCommand_19 : decode cX2_readCommand 19 = .ok (.istore_n 3, 1) := by decide +kernel
theorem dX2_readCommand_20 : decode cX2_readCommand 20 = .ok (.iload_n 3, 1) := by decide +kernel
theorem dX2_readCommand_21 : decode cX2_readCommand 21 = .ok (.iconst (-1), 1) := by decide +kernel
theorem dX2_readCommand_22 : decode cX2_readCommand 22 = .ok (.if_icmp .ne 5, 3) := by decide +kernel
theorem dX2_readCommand_25 : decode cX2_readCommand 25 = .ok (.iconst 0, 1) := by decide +kernel
theorem dX2_readCommand_26 : decode cX2_readCommand 26 = .ok (.ireturn, 1) := by decide +kernel
theorem dX2_readCommand_27 : decode cX2_readCommand 27 = .ok (.aload_n 0, 1) := by decide +kernel
theorem dX2_readCommand_28 : decode cX2_readCommand 28 = .ok (.aload_n 2, 1) := by decide +kernel
theorem dX2_readCommand_29 : decode cX2_readCommand 29 = .ok (.getfield 69, 3) := by decide +kernel
theorem dX2_readCommand_32 : decode cX2_readCommand 32 = .ok (.invokevirtual 65, 3) := by decide +kernel
theorem dX2_readCommand_35 : decode cX2_readCommand 35 = .ok (.istore 4, 2) := by decide +kernel
theorem dX2_readCommand_37 : decode cX2_readCommand 37 = .ok (.iload 4, 2) := by decide +kernel
theorem dX2_readCommand_39 : decode cX2_readCommand 39 = .ok (.iconst (-1), 1) := by decide +kernel
theorem dX2_readCommand_40 : decode cX2_readCommand 40 = .ok (.if_icmp .ne 5, 3) := by decide +kernel
theorem dX2_readCommand_43 : decode cX2_readCommand 43 = .ok (.iconst 0, 1) := by decide +kernel
theorem dX2_readCommand_44 : decode cX2_readCommand 44 = .ok (.ireturn, 1) := by decide +kernel
theorem dX2_readCommand_45 : decode cX2_readCommand 45 = .ok (.aload_n 0, 1) := by decide +kernel
theorem dX2_readCommand_46 : decode cX2_readCommand 46 = .ok (.getfield 20, 3) := by decide +kernel
theorem dX2_readCommand_49 : decode cX2_readCommand 49 = .ok (.iload_n 1, 1) := by decide +kernel
theorem dX2_readCommand_50 : decode cX2_readCommand 50 = .ok (.aload_n 2, 1) := by decide +kernel
theorem dX2_readCommand_51 : decode cX2_readCommand 51 = .ok (.aastore, 1) := by decide +kernel
theorem dX2_readCommand_52 : decode cX2_readCommand 52 = .ok (.aload_n 0, 1) := by decide +kernel
theorem dX2_readCommand_53 : decode cX2_readCommand 53 = .ok (.getfield 24, 3) := by decide +kernel
theorem dX2_readCommand_56 : decode cX2_readCommand 56 = .ok (.iload_n 1, 1) := by decide +kernel
theorem dX2_readCommand_57 : decode cX2_readCommand 57 = .ok (.iload_n 3, 1) := by decide +kernel
theorem dX2_readCommand_58 : decode cX2_readCommand 58 = .ok (.iastore, 1) := by decide +kernel
theorem dX2_readCommand_59 : decode cX2_readCommand 59 = .ok (.aload_n 0, 1) := by decide +kernel
theorem dX2_readCommand_60 : decode cX2_readCommand 60 = .ok (.getfield 28, 3) := by decide +kernel
theorem dX2_readCommand_63 : decode cX2_readCommand 63 = .ok (.iload_n 1, 1) := by decide +kernel
theorem dX2_readCommand_64 : decode cX2_readCommand 64 = .ok (.iload 4, 2) := by decide +kernel
theorem dX2_readCommand_66 : decode cX2_readCommand 66 = .ok (.iastore, 1) := by decide +kernel
theorem dX2_readCommand_67 : decode cX2_readCommand 67 = .ok (.iconst 1, 1) := by decide +kernel
theorem dX2_readCommand_68 : decode cX2_readCommand 68 = .ok (.ireturn, 1) := by decide +kernel
theorem dX2_readWord_0 : decode cX2_readWord 0 = .ok (.iconst 0, 1) := by decide +kernel
theorem dX2_readWord_1 : decode cX2_readWord 1 = .ok (.istore_n 1, 1) := by decide +kernel
theorem dX2_readWord_2 : decode cX2_readWord 2 = .ok (.iconst 0, 1) := by decide +kernel
theorem dX2_readWord_3 : decode cX2_readWord 3 = .ok (.istore_n 2, 1) := by decide +kernel
theorem dX2_readWord_4 : decode cX2_readWord 4 = .ok (.iload_n 2, 1) := by decide +kernel
theorem dX2_readWord_5 : decode cX2_readWord 5 = .ok (.getstatic 72, 3) := by decide +kernel
theorem dX2_readWord_8 : decode cX2_readWord 8 = .ok (.arraylength, 1) := by decide +kernel
theorem dX2_readWord_9 : decode cX2_readWord 9 = .ok (.if_icmp .ge 57, 3) := by decide +kernel
theorem dX2_readWord_12 : decode cX2_readWord 12 = .ok (.getstatic 72, 3) := by decide +kernel
theorem dX2_readWord_15 : decode cX2_readWord 15 = .ok (.iload_n 2, 1) := by decide +kernel
theorem dX2_readWord_16 : decode cX2_readWord 16 = .ok (.aaload, 1) := by decide +kernel
theorem dX2_readWord_17 : decode cX2_readWord 17 = .ok (.astore_n 3, 1) := by decide +kernel
theorem dX2_readWord_18 : decode cX2_readWord 18 = .ok (.aload_n 0, 1) := by decide +kernel
theorem dX2_readWord_19 : decode cX2_readWord 19 = .ok (.aload_n 3, 1) := by decide +kernel
theorem dX2_readWord_20 : decode cX2_readWord 20 = .ok (.getfield 75, 3) := by decide +kernel
theorem dX2_readWord_23 : decode cX2_readWord 23 = .ok (.invokevirtual 79, 3) := by decide +kernel
theorem dX2_readWord_26 : decode cX2_readWord 26 = .ok (.istore 4, 2) := by decide +kernel
theorem dX2_readWord_28 : decode cX2_readWord 28 = .ok (.iload 4, 2) := by decide +kernel
theorem dX2_readWord_30 : decode cX2_readWord 30 = .ok (.aload_n 3, 1) := by decide +kernel
theorem dX2_readWord_31 : decode cX2_readWord 31 = .ok (.getfield 75, 3) := by decide +kernel
theorem dX2_readWord_34 : decode cX2_readWord 34 = .ok (.invokevirtual 83, 3) := by decide +kernel
theorem dX2_readWord_37 : decode cX2_readWord 37 = .ok (.if_icmp .ne 16, 3) := by decide +kernel
theorem dX2_readWord_40 : decode cX2_readWord 40 = .ok (.aload_n 0, 1) := by decide +kernel
theorem dX2_readWord_41 : decode cX2_readWord 41 = .ok (.dup, 1) := by decide +kernel
theorem dX2_readWord_42 : decode cX2_readWord 42 = .ok (.getfield 35, 3) := by decide +kernel
theorem dX2_readWord_45 : decode cX2_readWord 45 = .ok (.iload 4, 2) := by decide +kernel
theorem dX2_readWord_47 : decode cX2_readWord 47 = .ok (.iadd, 1) := by decide +kernel
theorem dX2_readWord_48 : decode cX2_readWord 48 = .ok (.putfield 35, 3) := by decide +kernel
theorem dX2_readWord_51 : decode cX2_readWord 51 = .ok (.aload_n 3, 1) := by decide +kernel
theorem dX2_readWord_52 : decode cX2_readWord 52 = .ok (.areturn, 1) := by decide +kernel
theorem dX2_readWord_53 : decode cX2_readWord 53 = .ok (.iload_n 1, 1) := by decide +kernel
theorem dX2_readWord_54 : decode cX2_readWord 54 = .ok (.iload 4, 2) := by decide +kernel
theorem dX2_readWord_56 : decode cX2_readWord 56 = .ok (.invokestatic 86, 3) := by decide +kernel
theorem dX2_readWord_59 : decode cX2_readWord 59 = .ok (.istore_n 1, 1) := by decide +kernel
theorem dX2_readWord_60 : decode cX2_readWord 60 = .ok (.iinc 2 1, 3) := by decide +kernel
theorem dX2_readWord_63 : decode cX2_readWord 63 = .ok (.goto (-59), 3) := by decide +kernel
theorem dX2_readWord_66 : decode cX2_readWord 66 = .ok (.aload_n 0, 1) := by decide +kernel
theorem dX2_readWord_67 : decode cX2_readWord 67 = .ok (.dup, 1) := by decide +kernel
theorem dX2_readWord_68 : decode cX2_readWord 68 = .ok (.getfield 35, 3) := by decide +kernel
theorem dX2_readWord_71 : decode cX2_readWord 71 = .ok (.iload_n 1, 1) := by decide +kernel
theorem dX2_readWord_72 : decode cX2_readWord 72 = .ok (.iadd, 1) := by decide +kernel
theorem dX2_readWord_73 : decode cX2_readWord 73 = .ok (.putfield 35, 3) := by decide +kernel
theorem dX2_readWord_76 : decode cX2_readWord 76 = .ok (.aconst_null, 1) := by decide +kernel
theorem dX2_readWord_77 : decode cX2_readWord 77 = .ok (.areturn, 1) := by decide +kernel
theorem dX2_agreeingCharacters_0 : decode cX2_agreeingCharacters 0 = .ok (.iconst 0, 1) := by decide +kernel
theorem dX2_agreeingCharacters_1 : decode cX2_agreeingCharacters 1 = .ok (.istore_n 2, 1) := by decide +kernel
theorem dX2_agreeingCharacters_2 : decode cX2_agreeingCharacters 2 = .ok (.iload_n 2, 1) := by decide +kernel
theorem dX2_agreeingCharacters_3 : decode cX2_agreeingCharacters 3 = .ok (.aload_n 1, 1) := by decide +kernel
theorem dX2_agreeingCharacters_4 : decode cX2_agreeingCharacters 4 = .ok (.invokevirtual 83, 3) := by decide +kernel
theorem dX2_agreeingCharacters_7 : decode cX2_agreeingCharacters 7 = .ok (.if_icmp .ge 46, 3) := by decide +kernel
theorem dX2_agreeingCharacters_10 : decode cX2_agreeingCharacters 10 = .ok (.aload_n 0, 1) := by decide +kernel
theorem dX2_agreeingCharacters_11 : decode cX2_agreeingCharacters 11 = .ok (.getfield 35, 3) := by decide +kernel
theorem dX2_agreeingCharacters_14 : decode cX2_agreeingCharacters 14 = .ok (.iload_n 2, 1) := by decide +kernel
theorem dX2_agreeingCharacters_15 : decode cX2_agreeingCharacters 15 = .ok (.iadd, 1) := by decide +kernel
theorem dX2_agreeingCharacters_16 : decode cX2_agreeingCharacters 16 = .ok (.aload_n 0, 1) := by decide +kernel
theorem dX2_agreeingCharacters_17 : decode cX2_agreeingCharacters 17 = .ok (.getfield 12, 3) := by decide +kernel
theorem dX2_agreeingCharacters_20 : decode cX2_agreeingCharacters 20 = .ok (.invokevirtual 38, 3) := by decide +kernel
theorem dX2_agreeingCharacters_23 : decode cX2_agreeingCharacters 23 = .ok (.if_icmp .ge 30, 3) := by decide +kernel
theorem dX2_agreeingCharacters_26 : decode cX2_agreeingCharacters 26 = .ok (.aload_n 0, 1) := by decide +kernel
theorem dX2_agreeingCharacters_27 : decode cX2_agreeingCharacters 27 = .ok (.getfield 12, 3) := by decide +kernel
theorem dX2_agreeingCharacters_30 : decode cX2_agreeingCharacters 30 = .ok (.aload_n 0, 1) := by decide +kernel
theorem dX2_agreeingCharacters_31 : decode cX2_agreeingCharacters 31 = .ok (.getfield 35, 3) := by decide +kernel
theorem dX2_agreeingCharacters_34 : decode cX2_agreeingCharacters 34 = .ok (.iload_n 2, 1) := by decide +kernel
theorem dX2_agreeingCharacters_35 : decode cX2_agreeingCharacters 35 = .ok (.iadd, 1) := by decide +kernel
theorem dX2_agreeingCharacters_36 : decode cX2_agreeingCharacters 36 = .ok (.invokevirtual 92, 3) := by decide +kernel
theorem dX2_agreeingCharacters_39 : decode cX2_agreeingCharacters 39 = .ok (.aload_n 1, 1) := by decide +kernel
theorem dX2_agreeingCharacters_40 : decode cX2_agreeingCharacters 40 = .ok (.iload_n 2, 1) := by decide +kernel
theorem dX2_agreeingCharacters_41 : decode cX2_agreeingCharacters 41 = .ok (.invokevirtual 96, 3) := by decide +kernel
theorem dX2_agreeingCharacters_44 : decode cX2_agreeingCharacters 44 = .ok (.if_icmp .ne 9, 3) := by decide +kernel
theorem dX2_agreeingCharacters_47 : decode cX2_agreeingCharacters 47 = .ok (.iinc 2 1, 3) := by decide +kernel
theorem dX2_agreeingCharacters_50 : decode cX2_agreeingCharacters 50 = .ok (.goto (-48), 3) := by decide +kernel
theorem dX2_agreeingCharacters_53 : decode cX2_agreeingCharacters 53 = .ok (.iload_n 2, 1) := by decide +kernel
theorem dX2_agreeingCharacters_54 : decode cX2_agreeingCharacters 54 = .ok (.ireturn, 1) := by decide +kernel
theorem dX2_readParameter_0 : decode cX2_readParameter 0 = .ok (.iload_n 1, 1) := by decide +kernel
theorem dX2_readParameter_1 : decode cX2_readParameter 1 = .ok (.ifCond .ne 5, 3) := by decide +kernel
theorem dX2_readParameter_4 : decode cX2_readParameter 4 = .ok (.iconst 0, 1) := by decide +kernel
theorem dX2_readParameter_5 : decode cX2_readParameter 5 = .ok (.ireturn, 1) := by decide +kernel
theorem dX2_readParameter_6 : decode cX2_readParameter 6 = .ok (.aload_n 0, 1) := by decide +kernel
theorem dX2_readParameter_7 : decode cX2_readParameter 7 = .ok (.bipush 32, 2) := by decide +kernel
theorem dX2_readParameter_9 : decode cX2_readParameter 9 = .ok (.invokevirtual 54, 3) := by decide +kernel
theorem dX2_readParameter_12 : decode cX2_readParameter 12 = .ok (.ifCond .eq 10, 3) := by decide +kernel
theorem dX2_readParameter_15 : decode cX2_readParameter 15 = .ok (.aload_n 0, 1) := by decide +kernel
theorem dX2_readParameter_16 : decode cX2_readParameter 16 = .ok (.invokevirtual 97, 3) := by decide +kernel
theorem dX2_readParameter_19 : decode cX2_readParameter 19 = .ok (.ifCond .ne 5, 3) := by decide +kernel
theorem dX2_readParameter_22 : decode cX2_readParameter 22 = .ok (.iconst (-1), 1) := by decide +kernel
theorem dX2_readParameter_23 : decode cX2_readParameter 23 = .ok (.ireturn, 1) := by decide +kernel
theorem dX2_readParameter_24 : decode cX2_readParameter 24 = .ok (.iconst 0, 1) := by decide +kernel
theorem dX2_readParameter_25 : decode cX2_readParameter 25 = .ok (.istore_n 2, 1) := by decide +kernel
theorem dX2_readParameter_26 : decode cX2_readParameter 26 = .ok (.iconst 0, 1) := by decide +kernel
theorem dX2_readParameter_27 : decode cX2_readParameter 27 = .ok (.istore_n 3, 1) := by decide +kernel
theorem dX2_readParameter_28 : decode cX2_readParameter 28 = .ok (.iload_n 3, 1) := by decide +kernel
theorem dX2_readParameter_29 : decode cX2_readParameter 29 = .ok (.iload_n 1, 1) := by decide +kernel
theorem dX2_readParameter_30 : decode cX2_readParameter 30 = .ok (.if_icmp .ge 46, 3) := by decide +kernel
theorem dX2_readParameter_33 : decode cX2_readParameter 33 = .ok (.aload_n 0, 1) := by decide +kernel
theorem dX2_readParameter_34 : decode cX2_readParameter 34 = .ok (.invokevirtual 97, 3) := by decide +kernel
theorem dX2_readParameter_37 : decode cX2_readParameter 37 = .ok (.ifCond .eq 39, 3) := by decide +kernel
theorem dX2_readParameter_40 : decode cX2_readParameter 40 = .ok (.iload_n 2, 1) := by decide +kernel
theorem dX2_readParameter_41 : decode cX2_readParameter 41 = .ok (.bipush 10, 2) := by decide +kernel
theorem dX2_readParameter_43 : decode cX2_readParameter 43 = .ok (.imul, 1) := by decide +kernel
theorem dX2_readParameter_44 : decode cX2_readParameter 44 = .ok (.aload_n 0, 1) := by decide +kernel
theorem dX2_readParameter_45 : decode cX2_readParameter 45 = .ok (.getfield 12, 3) := by decide +kernel
theorem dX2_readParameter_48 : decode cX2_readParameter 48 = .ok (.aload_n 0, 1) := by decide +kernel
theorem dX2_readParameter_49 : decode cX2_readParameter 49 = .ok (.getfield 35, 3) := by decide +kernel
theorem dX2_readParameter_52 : decode cX2_readParameter 52 = .ok (.invokevirtual 92, 3) := by decide +kernel
theorem dX2_readParameter_55 : decode cX2_readParameter 55 = .ok (.bipush 48, 2) := by decide +kernel
theorem dX2_readParameter_57 : decode cX2_readParameter 57 = .ok (.isub, 1) := by decide +kernel
theorem dX2_readParameter_58 : decode cX2_readParameter 58 = .ok (.iadd, 1) := by decide +kernel
theorem dX2_readParameter_59 : decode cX2_readParameter 59 = .ok (.istore_n 2, 1) := by decide +kernel
theorem dX2_readParameter_60 : decode cX2_readParameter 60 = .ok (.aload_n 0, 1) := by decide +kernel
theorem dX2_readParameter_61 : decode cX2_readParameter 61 = .ok (.dup, 1) := by decide +kernel
theorem dX2_readParameter_62 : decode cX2_readParameter 62 = .ok (.getfield 35, 3) := by decide +kernel
theorem dX2_readParameter_65 : decode cX2_readParameter 65 = .ok (.iconst 1, 1) := by decide +kernel
theorem dX2_readParameter_66 : decode cX2_readParameter 66 = .ok (.iadd, 1) := by decide +kernel
theorem dX2_readParameter_67 : decode cX2_readParameter 67 = .ok (.putfield 35, 3) := by decide +kernel
theorem dX2_readParameter_70 : decode cX2_readParameter 70 = .ok (.iinc 3 1, 3) := by decide +kernel
theorem dX2_readParameter_73 : decode cX2_readParameter 73 = .ok (.goto (-45), 3) := by decide +kernel
theorem dX2_readParameter_76 : decode cX2_readParameter 76 = .ok (.iload_n 2, 1) := by decide +kernel
theorem dX2_readParameter_77 : decode cX2_readParameter 77 = .ok (.ireturn, 1) := by decide +kernel
theorem dX2_isAtDigit_0 : decode cX2_isAtDigit 0 = .ok (.aload_n 0, 1) := by decide +kernel
theorem dX2_isAtDigit_1 : decode cX2_isAtDigit 1 = .ok (.getfield 35, 3) := by decide +kernel
theorem dX2_isAtDigit_4 : decode cX2_isAtDigit 4 = .ok (.aload_n 0, 1) := by decide +kernel
theorem dX2_isAtDigit_5 : decode cX2_isAtDigit 5 = .ok (.getfield 12, 3) := by decide +kernel
theorem dX2_isAtDigit_8 : decode cX2_isAtDigit 8 = .ok (.invokevirtual 38, 3) := by decide +kernel
theorem dX2_isAtDigit_11 : decode cX2_isAtDigit 11 = .ok (.if_icmp .ge 28, 3) := by decide +kernel
theorem dX2_isAtDigit_14 : decode cX2_isAtDigit 14 = .ok (.aload_n 0, 1) := by decide +kernel
theorem dX2_isAtDigit_15 : decode cX2_isAtDigit 15 = .ok (.getfield 12, 3) := by decide +kernel
theorem dX2_isAtDigit_18 : decode cX2_isAtDigit 18 = .ok (.aload_n 0, 1) := by decide +kernel
theorem dX2_isAtDigit_19 : decode cX2_isAtDigit 19 = .ok (.getfield 35, 3) := by decide +kernel
theorem dX2_isAtDigit_22 : decode cX2_isAtDigit 22 = .ok (.invokevirtual 92, 3) := by decide +kernel
theorem dX2_isAtDigit_25 : decode cX2_isAtDigit 25 = .ok (.bipush 48, 2) := by decide +kernel
theorem dX2_isAtDigit_27 : decode cX2_isAtDigit 27 = .ok (.bipush 57, 2) := by decide +kernel
theorem dX2_isAtDigit_29 : decode cX2_isAtDigit 29 = .ok (.invokestatic 101, 3) := by decide +kernel
theorem dX2_isAtDigit_32 : decode cX2_isAtDigit 32 = .ok (.ifCond .eq 7, 3) := by decide +kernel
theorem dX2_isAtDigit_35 : decode cX2_isAtDigit 35 = .ok (.iconst 1, 1) := by decide +kernel
theorem dX2_isAtDigit_36 : decode cX2_isAtDigit 36 = .ok (.goto 4, 3) := by decide +kernel
theorem dX2_isAtDigit_39 : decode cX2_isAtDigit 39 = .ok (.iconst 0, 1) := by decide +kernel
theorem dX2_isAtDigit_40 : decode cX2_isAtDigit 40 = .ok (.ireturn, 1) := by decide +kernel
theorem dX2_skip_0 : decode cX2_skip 0 = .ok (.aload_n 0, 1) := by decide +kernel
theorem dX2_skip_1 : decode cX2_skip 1 = .ok (.getfield 35, 3) := by decide +kernel
theorem dX2_skip_4 : decode cX2_skip 4 = .ok (.aload_n 0, 1) := by decide +kernel
theorem dX2_skip_5 : decode cX2_skip 5 = .ok (.getfield 12, 3) := by decide +kernel
theorem dX2_skip_8 : decode cX2_skip 8 = .ok (.invokevirtual 38, 3) := by decide +kernel
theorem dX2_skip_11 : decode cX2_skip 11 = .ok (.if_icmp .ge 18, 3) := by decide +kernel
theorem dX2_skip_14 : decode cX2_skip 14 = .ok (.aload_n 0, 1) := by decide +kernel
theorem dX2_skip_15 : decode cX2_skip 15 = .ok (.getfield 12, 3) := by decide +kernel
theorem dX2_skip_18 : decode cX2_skip 18 = .ok (.aload_n 0, 1) := by decide +kernel
theorem dX2_skip_19 : decode cX2_skip 19 = .ok (.getfield 35, 3) := by decide +kernel
theorem dX2_skip_22 : decode cX2_skip 22 = .ok (.invokevirtual 92, 3) := by decide +kernel
theorem dX2_skip_25 : decode cX2_skip 25 = .ok (.iload_n 1, 1) := by decide +kernel
theorem dX2_skip_26 : decode cX2_skip 26 = .ok (.if_icmp .eq 5, 3) := by decide +kernel
theorem dX2_skip_29 : decode cX2_skip 29 = .ok (.iconst 0, 1) := by decide +kernel
theorem dX2_skip_30 : decode cX2_skip 30 = .ok (.ireturn, 1) := by decide +kernel
theorem dX2_skip_31 : decode cX2_skip 31 = .ok (.aload_n 0, 1) := by decide +kernel
theorem dX2_skip_32 : decode cX2_skip 32 = .ok (.dup, 1) := by decide +kernel
theorem dX2_skip_33 : decode cX2_skip 33 = .ok (.getfield 35, 3) := by decide +kernel
theorem dX2_skip_36 : decode cX2_skip 36 = .ok (.iconst 1, 1) := by decide +kernel
theorem dX2_skip_37 : decode cX2_skip 37 = .ok (.iadd, 1) := by decide +kernel
theorem dX2_skip_38 : decode cX2_skip 38 = .ok (.putfield 35, 3) := by decide +kernel
theorem dX2_skip_41 : decode cX2_skip 41 = .ok (.iconst 1, 1) := by decide +kernel
theorem dX2_skip_42 : decode cX2_skip 42 = .ok (.ireturn, 1) := by decide +kernel
theorem dX3_init_0 : decode cX3_init 0 = .ok (.aload_n 0, 1) := by decide +kernel
theorem dX3_init_1 : decode cX3_init 1 = .ok (.invokespecial 3, 3) := by decide +kernel
theorem dX3_init_4 : decode cX3_init 4 = .ok (.aload_n 0, 1) := by decide +kernel
theorem dX3_init_5 : decode cX3_init 5 = .ok (.bipush 9, 2) := by decide +kernel
theorem dX3_init_7 : decode cX3_init 7 = .ok (.anewarray 11, 3) := by decide +kernel
theorem dX3_init_10 : decode cX3_init 10 = .ok (.putfield 13, 3) := by decide +kernel
theorem dX3_init_13 : decode cX3_init 13 = .ok (.aload_n 0, 1) := by decide +kernel
theorem dX3_init_14 : decode cX3_init 14 = .ok (.iconst 0, 1) := by decide +kernel
theorem dX3_init_15 : decode cX3_init 15 = .ok (.putfield 17, 3) := by decide +kernel
theorem dX3_init_18 : decode cX3_init 18 = .ok (.aload_n 0, 1) := by decide +kernel
theorem dX3_init_19 : decode cX3_init 19 = .ok (.iconst 0, 1) := by decide +kernel
theorem dX3_init_20 : decode cX3_init 20 = .ok (.putfield 21, 3) := by decide +kernel
theorem dX3_init_23 : decode cX3_init 23 = .ok (.iconst 0, 1) := by decide +kernel
theorem dX3_init_24 : decode cX3_init 24 = .ok (.istore_n 1, 1) := by decide +kernel
theorem dX3_init_25 : decode cX3_init 25 = .ok (.iload_n 1, 1) := by decide +kernel
theorem dX3_init_26 : decode cX3_init 26 = .ok (.bipush 9, 2) := by decide +kernel
theorem dX3_init_28 : decode cX3_init 28 = .ok (.if_icmp .ge 22, 3) := by decide +kernel
theorem dX3_init_31 : decode cX3_init 31 = .ok (.aload_n 0, 1) := by decide +kernel
theorem dX3_init_32 : decode cX3_init 32 = .ok (.getfield 13, 3) := by decide +kernel
theorem dX3_init_35 : decode cX3_init 35 = .ok (.iload_n 1, 1) := by decide +kernel
theorem dX3_init_36 : decode cX3_init 36 = .ok (.new 11, 3) := by decide +kernel
theorem dX3_init_39 : decode cX3_init 39 = .ok (.dup, 1) := by decide +kernel
theorem dX3_init_40 : decode cX3_init 40 = .ok (.invokespecial 24, 3) := by decide +kernel
theorem dX3_init_43 : decode cX3_init 43 = .ok (.aastore, 1) := by decide +kernel
theorem dX3_init_44 : decode cX3_init 44 = .ok (.iinc 1 1, 3) := by decide +kernel
theorem dX3_init_47 : decode cX3_init 47 = .ok (.goto (-22), 3) := by decide +kernel
theorem dX3_init_50 : decode cX3_init 50 = .ok (.return_, 1) := by decide +kernel
theorem dX3_note_0 : decode cX3_note 0 = .ok (.aload_n 0, 1) := by decide +kernel
theorem dX3_note_1 : decode cX3_note 1 = .ok (.getfield 13, 3) := by decide +kernel
theorem dX3_note_4 : decode cX3_note 4 = .ok (.aload_n 0, 1) := by decide +kernel
theorem dX3_note_5 : decode cX3_note 5 = .ok (.getfield 17, 3) := by decide +kernel
theorem dX3_note_8 : decode cX3_note 8 = .ok (.aaload, 1) := by decide +kernel
theorem dX3_note_9 : decode cX3_note 9 = .ok (.aload_n 1, 1) := by decide +kernel
theorem dX3_note_10 : decode cX3_note 10 = .ok (.invokevirtual 25, 3) := by decide +kernel
theorem dX3_note_13 : decode cX3_note 13 = .ok (.return_, 1) := by decide +kernel
theorem dX3_keepNoted_0 : decode cX3_keepNoted 0 = .ok (.aload_n 0, 1) := by decide +kernel
theorem dX3_keepNoted_1 : decode cX3_keepNoted 1 = .ok (.aload_n 0, 1) := by decide +kernel
theorem dX3_keepNoted_2 : decode cX3_keepNoted 2 = .ok (.getfield 17, 3) := by decide +kernel
theorem dX3_keepNoted_5 : decode cX3_keepNoted 5 = .ok (.iconst 1, 1) := by decide +kernel
theorem dX3_keepNoted_6 : decode cX3_keepNoted 6 = .ok (.iadd, 1) := by decide +kernel
theorem dX3_keepNoted_7 : decode cX3_keepNoted 7 = .ok (.bipush 9, 2) := by decide +kernel
theorem dX3_keepNoted_9 : decode cX3_keepNoted 9 = .ok (.irem, 1) := by decide +kernel
theorem dX3_keepNoted_10 : decode cX3_keepNoted 10 = .ok (.putfield 17, 3) := by decide +kernel
theorem dX3_keepNoted_13 : decode cX3_keepNoted 13 = .ok (.aload_n 0, 1) := by decide +kernel
theorem dX3_keepNoted_14 : decode cX3_keepNoted 14 = .ok (.aload_n 0, 1) := by decide +kernel
theorem dX3_keepNoted_15 : decode cX3_keepNoted 15 = .ok (.getfield 21, 3) := by decide +kernel
theorem dX3_keepNoted_18 : decode cX3_keepNoted 18 = .ok (.iconst 1, 1) := by decide +kernel
theorem dX3_keepNoted_19 : decode cX3_keepNoted 19 = .ok (.iadd, 1) := by decide +kernel
theorem dX3_keepNoted_20 : decode cX3_keepNoted 20 = .ok (.bipush 8, 2) := by decide +kernel
theorem dX3_keepNoted_22 : decode cX3_keepNoted 22 = .ok (.invokestatic 29, 3) := by decide +kernel
theorem dX3_keepNoted_25 : decode cX3_keepNoted 25 = .ok (.putfield 21, 3) := by decide +kernel
theorem dX3_keepNoted_28 : decode cX3_keepNoted 28 = .ok (.return_, 1) := by decide +kernel
theorem dX3_takeBackNoted_0 : decode cX3_takeBackNoted 0 = .ok (.aload_n 1, 1) := by decide +kernel
theorem dX3_takeBackNoted_1 : decode cX3_takeBackNoted 1 = .ok (.aload_n 0, 1) := by decide +kernel
theorem dX3_takeBackNoted_2 : decode cX3_takeBackNoted 2 = .ok (.getfield 13, 3) := by decide +kernel
theorem dX3_takeBackNoted_5 : decode cX3_takeBackNoted 5 = .ok (.aload_n 0, 1) := by decide +kernel
theorem dX3_takeBackNoted_6 : decode cX3_takeBackNoted 6 = .ok (.getfield 17, 3) := by decide +kernel
theorem dX3_takeBackNoted_9 : decode cX3_takeBackNoted 9 = .ok (.aaload, 1) := by decide +kernel
theorem dX3_takeBackNoted_10 : decode cX3_takeBackNoted 10 = .ok (.invokevirtual 25, 3) := by decide +kernel
theorem dX3_takeBackNoted_13 : decode cX3_takeBackNoted 13 = .ok (.return_, 1) := by decide +kernel
theorem dX3_takeBackKept_0 : decode cX3_takeBackKept 0 = .ok (.aload_n 0, 1) := by decide +kernel
theorem dX3_takeBackKept_1 : decode cX3_takeBackKept 1 = .ok (.aload_n 0, 1) := by decide +kernel
theorem dX3_takeBackKept_2 : decode cX3_takeBackKept 2 = .ok (.getfield 17, 3) := by decide +kernel
theorem dX3_takeBackKept_5 : decode cX3_takeBackKept 5 = .ok (.bipush 9, 2) := by decide +kernel
theorem dX3_takeBackKept_7 : decode cX3_takeBackKept 7 = .ok (.iadd, 1) := by decide +kernel
theorem dX3_takeBackKept_8 : decode cX3_takeBackKept 8 = .ok (.iconst 1, 1) := by decide +kernel
theorem dX3_takeBackKept_9 : decode cX3_takeBackKept 9 = .ok (.isub, 1) := by decide +kernel
theorem dX3_takeBackKept_10 : decode cX3_takeBackKept 10 = .ok (.bipush 9, 2) := by decide +kernel
theorem dX3_takeBackKept_12 : decode cX3_takeBackKept 12 = .ok (.irem, 1) := by decide +kernel
theorem dX3_takeBackKept_13 : decode cX3_takeBackKept 13 = .ok (.putfield 17, 3) := by decide +kernel
theorem dX3_takeBackKept_16 : decode cX3_takeBackKept 16 = .ok (.aload_n 0, 1) := by decide +kernel
theorem dX3_takeBackKept_17 : decode cX3_takeBackKept 17 = .ok (.dup, 1) := by decide +kernel
theorem dX3_takeBackKept_18 : decode cX3_takeBackKept 18 = .ok (.getfield 21, 3) := by decide +kernel
theorem dX3_takeBackKept_21 : decode cX3_takeBackKept 21 = .ok (.iconst 1, 1) := by decide +kernel
theorem dX3_takeBackKept_22 : decode cX3_takeBackKept 22 = .ok (.isub, 1) := by decide +kernel
theorem dX3_takeBackKept_23 : decode cX3_takeBackKept 23 = .ok (.putfield 21, 3) := by decide +kernel
theorem dX3_takeBackKept_26 : decode cX3_takeBackKept 26 = .ok (.aload_n 1, 1) := by decide +kernel
theorem dX3_takeBackKept_27 : decode cX3_takeBackKept 27 = .ok (.aload_n 0, 1) := by decide +kernel
theorem dX3_takeBackKept_28 : decode cX3_takeBackKept 28 = .ok (.getfield 13, 3) := by decide +kernel
theorem dX3_takeBackKept_31 : decode cX3_takeBackKept 31 = .ok (.aload_n 0, 1) := by decide +kernel
theorem dX3_takeBackKept_32 : decode cX3_takeBackKept 32 = .ok (.getfield 17, 3) := by decide +kernel
theorem dX3_takeBackKept_35 : decode cX3_takeBackKept 35 = .ok (.aaload, 1) := by decide +kernel
theorem dX3_takeBackKept_36 : decode cX3_takeBackKept 36 = .ok (.invokevirtual 25, 3) := by decide +kernel
theorem dX3_takeBackKept_39 : decode cX3_takeBackKept 39 = .ok (.return_, 1) := by decide +kernel
theorem dX3_forget_0 : decode cX3_forget 0 = .ok (.aload_n 0, 1) := by decide +kernel
theorem dX3_forget_1 : decode cX3_forget 1 = .ok (.iconst 0, 1) := by decide +kernel
theorem dX3_forget_2 : decode cX3_forget 2 = .ok (.putfield 21, 3) := by decide +kernel
theorem dX3_forget_5 : decode cX3_forget 5 = .ok (.return_, 1) := by decide +kernel
theorem dX4_init_0 : decode cX4_init 0 = .ok (.aload_n 0, 1) := by decide +kernel
theorem dX4_init_1 : decode cX4_init 1 = .ok (.invokespecial 3, 3) := by decide +kernel
theorem dX4_init_4 : decode cX4_init 4 = .ok (.aload_n 0, 1) := by decide +kernel
theorem dX4_init_5 : decode cX4_init 5 = .ok (.bipush 12, 2) := by decide +kernel
theorem dX4_init_7 : decode cX4_init 7 = .ok (.newarray .int, 2) := by decide +kernel
theorem dX4_init_9 : decode cX4_init 9 = .ok (.putfield 9, 3) := by decide +kernel
theorem dX4_init_12 : decode cX4_init 12 = .ok (.aload_n 0, 1) := by decide +kernel
theorem dX4_init_13 : decode cX4_init 13 = .ok (.bipush 12, 2) := by decide +kernel
theorem dX4_init_15 : decode cX4_init 15 = .ok (.newarray .int, 2) := by decide +kernel
theorem dX4_init_17 : decode cX4_init 17 = .ok (.putfield 15, 3) := by decide +kernel
theorem dX4_init_20 : decode cX4_init 20 = .ok (.aload_n 0, 1) := by decide +kernel
theorem dX4_init_21 : decode cX4_init 21 = .ok (.bipush 12, 2) := by decide +kernel
theorem dX4_init_23 : decode cX4_init 23 = .ok (.newarray .int, 2) := by decide +kernel
theorem dX4_init_25 : decode cX4_init 25 = .ok (.putfield 18, 3) := by decide +kernel
theorem dX4_init_28 : decode cX4_init 28 = .ok (.return_, 1) := by decide +kernel
theorem dX4_longest_0 : decode cX4_longest 0 = .ok (.iconst 0, 1) := by decide +kernel
theorem dX4_longest_1 : decode cX4_longest 1 = .ok (.istore_n 2, 1) := by decide +kernel
theorem dX4_longest_2 : decode cX4_longest 2 = .ok (.iconst 0, 1) := by decide +kernel
theorem dX4_longest_3 : decode cX4_longest 3 = .ok (.istore_n 3, 1) := by decide +kernel
theorem dX4_longest_4 : decode cX4_longest 4 = .ok (.iload_n 3, 1) := by decide +kernel
theorem dX4_longest_5 : decode cX4_longest 5 = .ok (.aload_n 1, 1) := by decide +kernel
theorem dX4_longest_6 : decode cX4_longest 6 = .ok (.getfield 21, 3) := by decide +kernel
theorem dX4_longest_9 : decode cX4_longest 9 = .ok (.if_icmp .ge 26, 3) := by decide +kernel
theorem dX4_longest_12 : decode cX4_longest 12 = .ok (.aload_n 0, 1) := by decide +kernel
theorem dX4_longest_13 : decode cX4_longest 13 = .ok (.aload_n 1, 1) := by decide +kernel
theorem dX4_longest_14 : decode cX4_longest 14 = .ok (.iload_n 3, 1) := by decide +kernel
theorem dX4_longest_15 : decode cX4_longest 15 = .ok (.invokevirtual 27, 3) := by decide +kernel
theorem dX4_longest_18 : decode cX4_longest 18 = .ok (.iload_n 2, 1) := by decide +kernel
theorem dX4_longest_19 : decode cX4_longest 19 = .ok (.aload_n 0, 1) := by decide +kernel
theorem dX4_longest_20 : decode cX4_longest 20 = .ok (.getfield 9, 3) := by decide +kernel
theorem dX4_longest_23 : decode cX4_longest 23 = .ok (.iload_n 3, 1) := by decide +kernel
theorem dX4_longest_24 : decode cX4_longest 24 = .ok (.iaload, 1) := by decide +kernel
theorem dX4_longest_25 : decode cX4_longest 25 = .ok (.invokestatic 31, 3) := by decide +kernel
theorem dX4_longest_28 : decode cX4_longest 28 = .ok (.istore_n 2, 1) := by decide +kernel
theorem dX4_longest_29 : decode cX4_longest 29 = .ok (.iinc 3 1, 3) := by decide +kernel
theorem dX4_longest_32 : decode cX4_longest 32 = .ok (.goto (-28), 3) := by decide +kernel
theorem dX4_longest_35 : decode cX4_longest 35 = .ok (.iload_n 2, 1) := by decide +kernel
theorem dX4_longest_36 : decode cX4_longest 36 = .ok (.ireturn, 1) := by decide +kernel
theorem dX4_findRisesTo_0 : decode cX4_findRisesTo 0 = .ok (.aload_n 0, 1) := by decide +kernel
theorem dX4_findRisesTo_1 : decode cX4_findRisesTo 1 = .ok (.getfield 9, 3) := by decide +kernel
theorem dX4_findRisesTo_4 : decode cX4_findRisesTo 4 = .ok (.iload_n 2, 1) := by decide +kernel
theorem dX4_findRisesTo_5 : decode cX4_findRisesTo 5 = .ok (.iconst 1, 1) := by decide +kernel
theorem dX4_findRisesTo_6 : decode cX4_findRisesTo 6 = .ok (.iastore, 1) := by decide +kernel
theorem dX4_findRisesTo_7 : decode cX4_findRisesTo 7 = .ok (.aload_n 0, 1) := by decide +kernel
theorem dX4_findRisesTo_8 : decode cX4_findRisesTo 8 = .ok (.getfield 15, 3) := by decide +kernel
theorem dX4_findRisesTo_11 : decode cX4_findRisesTo 11 = .ok (.iload_n 2, 1) := by decide +kernel
theorem dX4_findRisesTo_12 : decode cX4_findRisesTo 12 = .ok (.iconst 1, 1) := by decide +kernel
theorem dX4_findRisesTo_13 : decode cX4_findRisesTo 13 = .ok (.iastore, 1) := by decide +kernel
theorem dX4_findRisesTo_14 : decode cX4_findRisesTo 14 = .ok (.iconst 0, 1) := by decide +kernel
theorem dX4_findRisesTo_15 : decode cX4_findRisesTo 15 = .ok (.istore_n 3, 1) := by decide +kernel
theorem dX4_findRisesTo_16 : decode cX4_findRisesTo 16 = .ok (.iload_n 3, 1) := by decide +kernel
theorem dX4_findRisesTo_17 : decode cX4_findRisesTo 17 = .ok (.iload_n 2, 1) := by decide +kernel
theorem dX4_findRisesTo_18 : decode cX4_findRisesTo 18 = .ok (.if_icmp .ge 30, 3) := by decide +kernel
theorem dX4_findRisesTo_21 : decode cX4_findRisesTo 21 = .ok (.aload_n 1, 1) := by decide +kernel
theorem dX4_findRisesTo_22 : decode cX4_findRisesTo 22 = .ok (.getfield 37, 3) := by decide +kernel
theorem dX4_findRisesTo_25 : decode cX4_findRisesTo 25 = .ok (.iload_n 3, 1) := by decide +kernel
theorem dX4_findRisesTo_26 : decode cX4_findRisesTo 26 = .ok (.iaload, 1) := by decide +kernel
theorem dX4_findRisesTo_27 : decode cX4_findRisesTo 27 = .ok (.aload_n 1, 1) := by decide +kernel
theorem dX4_findRisesTo_28 : decode cX4_findRisesTo 28 = .ok (.getfield 37, 3) := by decide +kernel
theorem dX4_findRisesTo_31 : decode cX4_findRisesTo 31 = .ok (.iload_n 2, 1) := by decide +kernel
theorem dX4_findRisesTo_32 : decode cX4_findRisesTo 32 = .ok (.iaload, 1) := by decide +kernel
theorem dX4_findRisesTo_33 : decode cX4_findRisesTo 33 = .ok (.if_icmp .ge 9, 3) := by decide +kernel
theorem dX4_findRisesTo_36 : decode cX4_findRisesTo 36 = .ok (.aload_n 0, 1) := by decide +kernel
theorem dX4_findRisesTo_37 : decode cX4_findRisesTo 37 = .ok (.iload_n 3, 1) := by decide +kernel
theorem dX4_findRisesTo_38 : decode cX4_findRisesTo 38 = .ok (.iload_n 2, 1) := by decide +kernel
theorem dX4_findRisesTo_39 : decode cX4_findRisesTo 39 = .ok (.invokevirtual 40, 3) := by decide +kernel
theorem dX4_findRisesTo_42 : decode cX4_findRisesTo 42 = .ok (.iinc 3 1, 3) := by decide +kernel
theorem dX4_findRisesTo_45 : decode cX4_findRisesTo 45 = .ok (.goto (-29), 3) := by decide +kernel
theorem dX4_findRisesTo_48 : decode cX4_findRisesTo 48 = .ok (.return_, 1) := by decide +kernel
theorem dX4_lengthen_0 : decode cX4_lengthen 0 = .ok (.aload_n 0, 1) := by decide +kernel
theorem dX4_lengthen_1 : decode cX4_lengthen 1 = .ok (.getfield 9, 3) := by decide +kernel
theorem dX4_lengthen_4 : decode cX4_lengthen 4 = .ok (.iload_n 1, 1) := by decide +kernel
theorem dX4_lengthen_5 : decode cX4_lengthen 5 = .ok (.iaload, 1) := by decide +kernel
theorem dX4_lengthen_6 : decode cX4_lengthen 6 = .ok (.iconst 1, 1) := by decide +kernel
theorem dX4_lengthen_7 : decode cX4_lengthen 7 = .ok (.iadd, 1) := by decide +kernel
theorem dX4_lengthen_8 : decode cX4_lengthen 8 = .ok (.istore_n 3, 1) := by decide +kernel
theorem dX4_lengthen_9 : decode cX4_lengthen 9 = .ok (.iload_n 3, 1) := by decide +kernel
theorem dX4_lengthen_10 : decode cX4_lengthen 10 = .ok (.aload_n 0, 1) := by decide +kernel
theorem dX4_lengthen_11 : decode cX4_lengthen 11 = .ok (.getfield 9, 3) := by decide +kernel
theorem dX4_lengthen_14 : decode cX4_lengthen 14 = .ok (.iload_n 2, 1) := by decide +kernel
theorem dX4_lengthen_15 : decode cX4_lengthen 15 = .ok (.iaload, 1) := by decide +kernel
theorem dX4_lengthen_16 : decode cX4_lengthen 16 = .ok (.if_icmp .le 25, 3) := by decide +kernel
theorem dX4_lengthen_19 : decode cX4_lengthen 19 = .ok (.aload_n 0, 1) := by decide +kernel
theorem dX4_lengthen_20 : decode cX4_lengthen 20 = .ok (.getfield 9, 3) := by decide +kernel
theorem dX4_lengthen_23 : decode cX4_lengthen 23 = .ok (.iload_n 2, 1) := by decide +kernel
theorem dX4_lengthen_24 : decode cX4_lengthen 24 = .ok (.iload_n 3, 1) := by decide +kernel
theorem dX4_lengthen_25 : decode cX4_lengthen 25 = .ok (.iastore, 1) := by decide +kernel
theorem dX4_lengthen_26 : decode cX4_lengthen 26 = .ok (.aload_n 0, 1) := by decide +kernel
theorem dX4_lengthen_27 : decode cX4_lengthen 27 = .ok (.getfield 15, 3) := by decide +kernel
theorem dX4_lengthen_30 : decode cX4_lengthen 30 = .ok (.iload_n 2, 1) := by decide +kernel
theorem dX4_lengthen_31 : decode cX4_lengthen 31 = .ok (.aload_n 0, 1) := by decide +kernel
theorem dX4_lengthen_32 : decode cX4_lengthen 32 = .ok (.getfield 15, 3) := by decide +kernel
theorem dX4_lengthen_35 : decode cX4_lengthen 35 = .ok (.iload_n 1, 1) := by decide +kernel
theorem dX4_lengthen_36 : decode cX4_lengthen 36 = .ok (.iaload, 1) := by decide +kernel
theorem dX4_lengthen_37 : decode cX4_lengthen 37 = .ok (.iastore, 1) := by decide +kernel
theorem dX4_lengthen_38 : decode cX4_lengthen 38 = .ok (.goto 28, 3) := by decide +kernel
theorem dX4_lengthen_41 : decode cX4_lengthen 41 = .ok (.iload_n 3, 1) := by decide +kernel
theorem dX4_lengthen_42 : decode cX4_lengthen 42 = .ok (.aload_n 0, 1) := by decide +kernel
theorem dX4_lengthen_43 : decode cX4_lengthen 43 = .ok (.getfield 9, 3) := by decide +kernel
theorem dX4_lengthen_46 : decode cX4_lengthen 46 = .ok (.iload_n 2, 1) := by decide +kernel
theorem dX4_lengthen_47 : decode cX4_lengthen 47 = .ok (.iaload, 1) := by decide +kernel
theorem dX4_lengthen_48 : decode cX4_lengthen 48 = .ok (.if_icmp .ne 18, 3) := by decide +kernel
theorem dX4_lengthen_51 : decode cX4_lengthen 51 = .ok (.aload_n 0, 1) := by decide +kernel
theorem dX4_lengthen_52 : decode cX4_lengthen 52 = .ok (.getfield 15, 3) := by decide +kernel
theorem dX4_lengthen_55 : decode cX4_lengthen 55 = .ok (.iload_n 2, 1) := by decide +kernel
theorem dX4_lengthen_56 : decode cX4_lengthen 56 = .ok (.dup2, 1) := by decide +kernel
theorem dX4_lengthen_57 : decode cX4_lengthen 57 = .ok (.iaload, 1) := by decide +kernel
theorem dX4_lengthen_58 : decode cX4_lengthen 58 = .ok (.aload_n 0, 1) := by decide +kernel
theorem dX4_lengthen_59 : decode cX4_lengthen 59 = .ok (.getfield 15, 3) := by decide +kernel
theorem dX4_lengthen_62 : decode cX4_lengthen 62 = .ok (.iload_n 1, 1) := by decide +kernel
theorem dX4_lengthen_63 : decode cX4_lengthen 63 = .ok (.iaload, 1) := by decide +kernel
theorem dX4_lengthen_64 : decode cX4_lengthen 64 = .ok (.iadd, 1) := by decide +kernel
theorem dX4_lengthen_65 : decode cX4_lengthen 65 = .ok (.iastore, 1) := by decide +kernel
theorem dX4_lengthen_66 : decode cX4_lengthen 66 = .ok (.return_, 1) := by decide +kernel
theorem dX4_countLongest_0 : decode cX4_countLongest 0 = .ok (.aload_n 0, 1) := by decide +kernel
theorem dX4_countLongest_1 : decode cX4_countLongest 1 = .ok (.aload_n 1, 1) := by decide +kernel
theorem dX4_countLongest_2 : decode cX4_countLongest 2 = .ok (.invokevirtual 44, 3) := by decide +kernel
theorem dX4_countLongest_5 : decode cX4_countLongest 5 = .ok (.istore_n 2, 1) := by decide +kernel
theorem dX4_countLongest_6 : decode cX4_countLongest 6 = .ok (.iload_n 2, 1) := by decide +kernel
theorem dX4_countLongest_7 : decode cX4_countLongest 7 = .ok (.ifCond .ne 5, 3) := by decide +kernel
theorem dX4_countLongest_10 : decode cX4_countLongest 10 = .ok (.iconst 1, 1) := by decide +kernel
theorem dX4_countLongest_11 : decode cX4_countLongest 11 = .ok (.ireturn, 1) := by decide +kernel
theorem dX4_countLongest_12 : decode cX4_countLongest 12 = .ok (.iconst 0, 1) := by decide +kernel
theorem dX4_countLongest_13 : decode cX4_countLongest 13 = .ok (.istore_n 3, 1) := by decide +kernel
theorem dX4_countLongest_14 : decode cX4_countLongest 14 = .ok (.iconst 0, 1) := by decide +kernel
theorem dX4_countLongest_15 : decode cX4_countLongest 15 = .ok (.istore 4, 2) := by decide +kernel
theorem dX4_countLongest_17 : decode cX4_countLongest 17 = .ok (.iload 4, 2) := by decide +kernel
theorem dX4_countLongest_19 : decode cX4_countLongest 19 = .ok (.aload_n 1, 1) := by decide +kernel
theorem dX4_countLongest_20 : decode cX4_countLongest 20 = .ok (.getfield 21, 3) := by decide +kernel
theorem dX4_countLongest_23 : decode cX4_countLongest 23 = .ok (.if_icmp .ge 30, 3) := by decide +kernel
theorem dX4_countLongest_26 : decode cX4_countLongest 26 = .ok (.aload_n 0, 1) := by decide +kernel
theorem dX4_countLongest_27 : decode cX4_countLongest 27 = .ok (.getfield 9, 3) := by decide +kernel
theorem dX4_countLongest_30 : decode cX4_countLongest 30 = .ok (.iload 4, 2) := by decide +kernel
theorem dX4_countLongest_32 : decode cX4_countLongest 32 = .ok (.iaload, 1) := by decide +kernel
theorem dX4_countLongest_33 : decode cX4_countLongest 33 = .ok (.iload_n 2, 1) := by decide +kernel
theorem dX4_countLongest_34 : decode cX4_countLongest 34 = .ok (.if_icmp .ne 13, 3) := by decide +kernel
theorem dX4_countLongest_37 : decode cX4_countLongest 37 = .ok (.iload_n 3, 1) := by decide +kernel
theorem dX4_countLongest_38 : decode cX4_countLongest 38 = .ok (.aload_n 0, 1) := by decide +kernel
theorem dX4_countLongest_39 : decode cX4_countLongest 39 = .ok (.getfield 15, 3) := by decide +kernel
theorem dX4_countLongest_42 : decode cX4_countLongest 42 = .ok (.iload 4, 2) := by decide +kernel
theorem dX4_countLongest_44 : decode cX4_countLongest 44 = .ok (.iaload, 1) := by decide +kernel
theorem dX4_countLongest_45 : decode cX4_countLongest 45 = .ok (.iadd, 1) := by decide +kernel
theorem dX4_countLongest_46 : decode cX4_countLongest 46 = .ok (.istore_n 3, 1) := by decide +kernel
theorem dX4_countLongest_47 : decode cX4_countLongest 47 = .ok (.iinc 4 1, 3) := by decide +kernel
theorem dX4_countLongest_50 : decode cX4_countLongest 50 = .ok (.goto (-33), 3) := by decide +kernel
theorem dX4_countLongest_53 : decode cX4_countLongest 53 = .ok (.iload_n 3, 1) := by decide +kernel
theorem dX4_countLongest_54 : decode cX4_countLongest 54 = .ok (.ireturn, 1) := by decide +kernel
theorem dX4_longestByEnds_0 : decode cX4_longestByEnds 0 = .ok (.iconst 0, 1) := by decide +kernel
theorem dX4_longestByEnds_1 : decode cX4_longestByEnds 1 = .ok (.istore_n 2, 1) := by decide +kernel
theorem dX4_longestByEnds_2 : decode cX4_longestByEnds 2 = .ok (.iconst 0, 1) := by decide +kernel
theorem dX4_longestByEnds_3 : decode cX4_longestByEnds 3 = .ok (.istore_n 3, 1) := by decide +kernel
theorem dX4_longestByEnds_4 : decode cX4_longestByEnds 4 = .ok (.iload_n 3, 1) := by decide +kernel
theorem dX4_longestByEnds_5 : decode cX4_longestByEnds 5 = .ok (.aload_n 1, 1) := by decide +kernel
theorem dX4_longestByEnds_6 : decode cX4_longestByEnds 6 = .ok (.getfield 21, 3) := by decide +kernel
theorem dX4_longestByEnds_9 : decode cX4_longestByEnds 9 = .ok (.if_icmp .ge 62, 3) := by decide +kernel
theorem dX4_longestByEnds_12 : decode cX4_longestByEnds 12 = .ok (.iconst 0, 1) := by decide +kernel
theorem dX4_longestByEnds_13 : decode cX4_longestByEnds 13 = .ok (.istore 4, 2) := by decide +kernel
theorem dX4_longestByEnds_15 : decode cX4_longestByEnds 15 = .ok (.iload 4, 2) := by decide +kernel
theorem dX4_longestByEnds_17 : decode cX4_longestByEnds 17 = .ok (.iload_n 2, 1) := by decide +kernel
theorem dX4_longestByEnds_18 : decode cX4_longestByEnds 18 = .ok (.if_icmp .ge 25, 3) := by decide +kernel
theorem dX4_longestByEnds_21 : decode cX4_longestByEnds 21 = .ok (.aload_n 0, 1) := by decide +kernel
theorem dX4_longestByEnds_22 : decode cX4_longestByEnds 22 = .ok (.getfield 18, 3) := by decide +kernel
theorem dX4_longestByEnds_25 : decode cX4_longestByEnds 25 = .ok (.iload 4, 2) := by decide +kernel
theorem dX4_longestByEnds_27 : decode cX4_longestByEnds 27 = .ok (.iaload, 1) := by decide +kernel
theorem dX4_longestByEnds_28 : decode cX4_longestByEnds 28 = .ok (.aload_n 1, 1) := by decide +kernel
theorem dX4_longestByEnds_29 : decode cX4_longestByEnds 29 = .ok (.getfield 37, 3) := by decide +kernel
theorem dX4_longestByEnds_32 : decode cX4_longestByEnds 32 = .ok (.iload_n 3, 1) := by decide +kernel
theorem dX4_longestByEnds_33 : decode cX4_longestByEnds 33 = .ok (.iaload, 1) := by decide +kernel
theorem dX4_longestByEnds_34 : decode cX4_longestByEnds 34 = .ok (.if_icmp .ge 9, 3) := by decide +kernel
theorem dX4_longestByEnds_37 : decode cX4_longestByEnds 37 = .ok (.iinc 4 1, 3) := by decide +kernel
theorem dX4_longestByEnds_40 : decode cX4_longestByEnds 40 = .ok (.goto (-25), 3) := by decide +kernel
theorem dX4_longestByEnds_43 : decode cX4_longestByEnds 43 = .ok (.aload_n 0, 1) := by decide +kernel
theorem dX4_longestByEnds_44 : decode cX4_longestByEnds 44 = .ok (.getfield 18, 3) := by decide +kernel
theorem dX4_longestByEnds_47 : decode cX4_longestByEnds 47 = .ok (.iload 4, 2) := by decide +kernel
theorem dX4_longestByEnds_49 : decode cX4_longestByEnds 49 = .ok (.aload_n 1, 1) := by decide +kernel
theorem dX4_longestByEnds_50 : decode cX4_longestByEnds 50 = .ok (.getfield 37, 3) := by decide +kernel
theorem dX4_longestByEnds_53 : decode cX4_longestByEnds 53 = .ok (.iload_n 3, 1) := by decide +kernel
theorem dX4_longestByEnds_54 : decode cX4_longestByEnds 54 = .ok (.iaload, 1) := by decide +kernel
theorem dX4_longestByEnds_55 : decode cX4_longestByEnds 55 = .ok (.iastore, 1) := by decide +kernel
theorem dX4_longestByEnds_56 : decode cX4_longestByEnds 56 = .ok (.iload_n 2, 1) := by decide +kernel
theorem dX4_longestByEnds_57 : decode cX4_longestByEnds 57 = .ok (.iload 4, 2) := by decide +kernel
theorem dX4_longestByEnds_59 : decode cX4_longestByEnds 59 = .ok (.iconst 1, 1) := by decide +kernel
theorem dX4_longestByEnds_60 : decode cX4_longestByEnds 60 = .ok (.iadd, 1) := by decide +kernel
theorem dX4_longestByEnds_61 : decode cX4_longestByEnds 61 = .ok (.invokestatic 31, 3) := by decide +kernel
theorem dX4_longestByEnds_64 : decode cX4_longestByEnds 64 = .ok (.istore_n 2, 1) := by decide +kernel
theorem dX4_longestByEnds_65 : decode cX4_longestByEnds 65 = .ok (.iinc 3 1, 3) := by decide +kernel
theorem dX4_longestByEnds_68 : decode cX4_longestByEnds 68 = .ok (.goto (-64), 3) := by decide +kernel
theorem dX4_longestByEnds_71 : decode cX4_longestByEnds 71 = .ok (.iload_n 2, 1) := by decide +kernel
theorem dX4_longestByEnds_72 : decode cX4_longestByEnds 72 = .ok (.ireturn, 1) := by decide +kernel
theorem dX5_init_0 : decode cX5_init 0 = .ok (.aload_n 0, 1) := by decide +kernel
theorem dX5_init_1 : decode cX5_init 1 = .ok (.invokespecial 3, 3) := by decide +kernel
theorem dX5_init_4 : decode cX5_init 4 = .ok (.aload_n 0, 1) := by decide +kernel
theorem dX5_init_5 : decode cX5_init 5 = .ok (.bipush 7, 2) := by decide +kernel
theorem dX5_init_7 : decode cX5_init 7 = .ok (.newarray .int, 2) := by decide +kernel
theorem dX5_init_9 : decode cX5_init 9 = .ok (.putfield 9, 3) := by decide +kernel
theorem dX5_init_12 : decode cX5_init 12 = .ok (.return_, 1) := by decide +kernel
theorem dX5_dealSheetBySheet_0 : decode cX5_dealSheetBySheet 0 = .ok (.iconst 0, 1) := by decide +kernel
theorem dX5_dealSheetBySheet_1 : decode cX5_dealSheetBySheet 1 = .ok (.istore_n 2, 1) := by decide +kernel
theorem dX5_dealSheetBySheet_2 : decode cX5_dealSheetBySheet 2 = .ok (.iload_n 2, 1) := by decide +kernel
theorem dX5_dealSheetBySheet_3 : decode cX5_dealSheetBySheet 3 = .ok (.bipush 7, 2) := by decide +kernel
theorem dX5_dealSheetBySheet_5 : decode cX5_dealSheetBySheet 5 = .ok (.if_icmp .ge 16, 3) := by decide +kernel
theorem dX5_dealSheetBySheet_8 : decode cX5_dealSheetBySheet 8 = .ok (.aload_n 0, 1) := by decide +kernel
theorem dX5_dealSheetBySheet_9 : decode cX5_dealSheetBySheet 9 = .ok (.getfield 9, 3) := by decide +kernel
theorem dX5_dealSheetBySheet_12 : decode cX5_dealSheetBySheet 12 = .ok (.iload_n 2, 1) := by decide +kernel
theorem dX5_dealSheetBySheet_13 : decode cX5_dealSheetBySheet 13 = .ok (.iconst 0, 1) := by decide +kernel
theorem dX5_dealSheetBySheet_14 : decode cX5_dealSheetBySheet 14 = .ok (.iastore, 1) := by decide +kernel
theorem dX5_dealSheetBySheet_15 : decode cX5_dealSheetBySheet 15 = .ok (.iinc 2 1, 3) := by decide +kernel
theorem dX5_dealSheetBySheet_18 : decode cX5_dealSheetBySheet 18 = .ok (.goto (-16), 3) := by decide +kernel
theorem dX5_dealSheetBySheet_21 : decode cX5_dealSheetBySheet 21 = .ok (.aload_n 1, 1) := by decide +kernel
theorem dX5_dealSheetBySheet_22 : decode cX5_dealSheetBySheet 22 = .ok (.getfield 15, 3) := by decide +kernel
theorem dX5_dealSheetBySheet_25 : decode cX5_dealSheetBySheet 25 = .ok (.istore_n 2, 1) := by decide +kernel
theorem dX5_dealSheetBySheet_26 : decode cX5_dealSheetBySheet 26 = .ok (.iload_n 2, 1) := by decide +kernel
theorem dX5_dealSheetBySheet_27 : decode cX5_dealSheetBySheet 27 = .ok (.ifCond .le 31, 3) := by decide +kernel
theorem dX5_dealSheetBySheet_30 : decode cX5_dealSheetBySheet 30 = .ok (.aload_n 0, 1) := by decide +kernel
theorem dX5_dealSheetBySheet_31 : decode cX5_dealSheetBySheet 31 = .ok (.aload_n 1, 1) := by decide +kernel
theorem dX5_dealSheetBySheet_32 : decode cX5_dealSheetBySheet 32 = .ok (.invokevirtual 21, 3) := by decide +kernel
theorem dX5_dealSheetBySheet_35 : decode cX5_dealSheetBySheet 35 = .ok (.istore_n 3, 1) := by decide +kernel
theorem dX5_dealSheetBySheet_36 : decode cX5_dealSheetBySheet 36 = .ok (.iload_n 3, 1) := by decide +kernel
theorem dX5_dealSheetBySheet_37 : decode cX5_dealSheetBySheet 37 = .ok (.iconst (-1), 1) := by decide +kernel
theorem dX5_dealSheetBySheet_38 : decode cX5_dealSheetBySheet 38 = .ok (.if_icmp .ne 4, 3) := by decide +kernel
theorem dX5_dealSheetBySheet_41 : decode cX5_dealSheetBySheet 41 = .ok (.return_, 1) := by decide +kernel
theorem dX5_dealSheetBySheet_42 : decode cX5_dealSheetBySheet 42 = .ok (.aload_n 0, 1) := by decide +kernel
theorem dX5_dealSheetBySheet_43 : decode cX5_dealSheetBySheet 43 = .ok (.getfield 9, 3) := by decide +kernel
theorem dX5_dealSheetBySheet_46 : decode cX5_dealSheetBySheet 46 = .ok (.iload_n 3, 1) := by decide +kernel
theorem dX5_dealSheetBySheet_47 : decode cX5_dealSheetBySheet 47 = .ok (.dup2, 1) := by decide +kernel
theorem dX5_dealSheetBySheet_48 : decode cX5_dealSheetBySheet 48 = .ok (.iaload, 1) := by decide +kernel
theorem dX5_dealSheetBySheet_49 : decode cX5_dealSheetBySheet 49 = .ok (.iconst 1, 1) := by decide +kernel
theorem dX5_dealSheetBySheet_50 : decode cX5_dealSheetBySheet 50 = .ok (.iadd, 1) := by decide +kernel
theorem dX5_dealSheetBySheet_51 : decode cX5_dealSheetBySheet 51 = .ok (.iastore, 1) := by decide +kernel
theorem dX5_dealSheetBySheet_52 : decode cX5_dealSheetBySheet 52 = .ok (.iinc 2 (-1), 3) := by decide +kernel
theorem dX5_dealSheetBySheet_55 : decode cX5_dealSheetBySheet 55 = .ok (.goto (-29), 3) := by decide +kernel
theorem dX5_dealSheetBySheet_58 : decode cX5_dealSheetBySheet 58 = .ok (.return_, 1) := by decide +kernel
theorem dX5_nextToGet_0 : decode cX5_nextToGet 0 = .ok (.iconst (-1), 1) := by decide +kernel
theorem dX5_nextToGet_1 : decode cX5_nextToGet 1 = .ok (.istore_n 2, 1) := by decide +kernel
theorem dX5_nextToGet_2 : decode cX5_nextToGet 2 = .ok (.iconst 0, 1) := by decide +kernel
theorem dX5_nextToGet_3 : decode cX5_nextToGet 3 = .ok (.istore_n 3, 1) := by decide +kernel
theorem dX5_nextToGet_4 : decode cX5_nextToGet 4 = .ok (.iload_n 3, 1) := by decide +kernel
theorem dX5_nextToGet_5 : decode cX5_nextToGet 5 = .ok (.aload_n 1, 1) := by decide +kernel
theorem dX5_nextToGet_6 : decode cX5_nextToGet 6 = .ok (.getfield 25, 3) := by decide +kernel
theorem dX5_nextToGet_9 : decode cX5_nextToGet 9 = .ok (.if_icmp .ge 57, 3) := by decide +kernel
theorem dX5_nextToGet_12 : decode cX5_nextToGet 12 = .ok (.aload_n 0, 1) := by decide +kernel
theorem dX5_nextToGet_13 : decode cX5_nextToGet 13 = .ok (.getfield 9, 3) := by decide +kernel
theorem dX5_nextToGet_16 : decode cX5_nextToGet 16 = .ok (.iload_n 3, 1) := by decide +kernel
theorem dX5_nextToGet_17 : decode cX5_nextToGet 17 = .ok (.iaload, 1) := by decide +kernel
theorem dX5_nextToGet_18 : decode cX5_nextToGet 18 = .ok (.aload_n 1, 1) := by decide +kernel
theorem dX5_nextToGet_19 : decode cX5_nextToGet 19 = .ok (.iload_n 3, 1) := by decide +kernel
theorem dX5_nextToGet_20 : decode cX5_nextToGet 20 = .ok (.invokevirtual 28, 3) := by decide +kernel
theorem dX5_nextToGet_23 : decode cX5_nextToGet 23 = .ok (.if_icmp .ge 7, 3) := by decide +kernel
theorem dX5_nextToGet_26 : decode cX5_nextToGet 26 = .ok (.iconst 1, 1) := by decide +kernel
theorem dX5_nextToGet_27 : decode cX5_nextToGet 27 = .ok (.goto 4, 3) := by decide +kernel
theorem dX5_nextToGet_30 : decode cX5_nextToGet 30 = .ok (.iconst 0, 1) := by decide +kernel
theorem dX5_nextToGet_31 : decode cX5_nextToGet 31 = .ok (.istore 4, 2) := by decide +kernel
theorem dX5_nextToGet_33 : decode cX5_nextToGet 33 = .ok (.iload 4, 2) := by decide +kernel
theorem dX5_nextToGet_35 : decode cX5_nextToGet 35 = .ok (.ifCond .eq 25, 3) := by decide +kernel
theorem dX5_nextToGet_38 : decode cX5_nextToGet 38 = .ok (.iload_n 2, 1) := by decide +kernel
theorem dX5_nextToGet_39 : decode cX5_nextToGet 39 = .ok (.iconst (-1), 1) := by decide +kernel
theorem dX5_nextToGet_40 : decode cX5_nextToGet 40 = .ok (.if_icmp .eq 18, 3) := by decide +kernel
theorem dX5_nextToGet_43 : decode cX5_nextToGet 43 = .ok (.aload_n 0, 1) := by decide +kernel
theorem dX5_nextToGet_44 : decode cX5_nextToGet 44 = .ok (.getfield 9, 3) := by decide +kernel
theorem dX5_nextToGet_47 : decode cX5_nextToGet 47 = .ok (.iload_n 3, 1) := by decide +kernel
theorem dX5_nextToGet_48 : decode cX5_nextToGet 48 = .ok (.iaload, 1) := by decide +kernel
theorem dX5_nextToGet_49 : decode cX5_nextToGet 49 = .ok (.aload_n 0, 1) := by decide +kernel
theorem dX5_nextToGet_50 : decode cX5_nextToGet 50 = .ok (.getfield 9, 3) := by decide +kernel
theorem dX5_nextToGet_53 : decode cX5_nextToGet 53 = .ok (.iload_n 2, 1) := by decide +kernel
theorem dX5_nextToGet_54 : decode cX5_nextToGet 54 = .ok (.iaload, 1) := by decide +kernel
theorem dX5_nextToGet_55 : decode cX5_nextToGet 55 = .ok (.if_icmp .ge 5, 3) := by decide +kernel
theorem dX5_nextToGet_58 : decode cX5_nextToGet 58 = .ok (.iload_n 3, 1) := by decide +kernel
theorem dX5_nextToGet_59 : decode cX5_nextToGet 59 = .ok (.istore_n 2, 1) := by decide +kernel
theorem dX5_nextToGet_60 : decode cX5_nextToGet 60 = .ok (.iinc 3 1, 3) := by decide +kernel
theorem dX5_nextToGet_63 : decode cX5_nextToGet 63 = .ok (.goto (-59), 3) := by decide +kernel
theorem dX5_nextToGet_66 : decode cX5_nextToGet 66 = .ok (.iload_n 2, 1) := by decide +kernel
theorem dX5_nextToGet_67 : decode cX5_nextToGet 67 = .ok (.ireturn, 1) := by decide +kernel
theorem dX5_dealByLevel_0 : decode cX5_dealByLevel 0 = .ok (.bipush 50, 2) := by decide +kernel
theorem dX5_dealByLevel_2 : decode cX5_dealByLevel 2 = .ok (.istore_n 2, 1) := by decide +kernel
theorem dX5_dealByLevel_3 : decode cX5_dealByLevel 3 = .ok (.iload_n 2, 1) := by decide +kernel
theorem dX5_dealByLevel_4 : decode cX5_dealByLevel 4 = .ok (.ifCond .le 21, 3) := by decide +kernel
theorem dX5_dealByLevel_7 : decode cX5_dealByLevel 7 = .ok (.aload_n 1, 1) := by decide +kernel
theorem dX5_dealByLevel_8 : decode cX5_dealByLevel 8 = .ok (.iload_n 2, 1) := by decide +kernel
theorem dX5_dealByLevel_9 : decode cX5_dealByLevel 9 = .ok (.invokestatic 32, 3) := by decide +kernel
theorem dX5_dealByLevel_12 : decode cX5_dealByLevel 12 = .ok (.aload_n 1, 1) := by decide +kernel
theorem dX5_dealByLevel_13 : decode cX5_dealByLevel 13 = .ok (.getfield 15, 3) := by decide +kernel
theorem dX5_dealByLevel_16 : decode cX5_dealByLevel 16 = .ok (.if_icmp .le 9, 3) := by decide +kernel
theorem dX5_dealByLevel_19 : decode cX5_dealByLevel 19 = .ok (.iinc 2 (-1), 3) := by decide +kernel
theorem dX5_dealByLevel_22 : decode cX5_dealByLevel 22 = .ok (.goto (-19), 3) := by decide +kernel
theorem dX5_dealByLevel_25 : decode cX5_dealByLevel 25 = .ok (.aload_n 1, 1) := by decide +kernel
theorem dX5_dealByLevel_26 : decode cX5_dealByLevel 26 = .ok (.getfield 15, 3) := by decide +kernel
theorem dX5_dealByLevel_29 : decode cX5_dealByLevel 29 = .ok (.aload_n 1, 1) := by decide +kernel
theorem dX5_dealByLevel_30 : decode cX5_dealByLevel 30 = .ok (.iload_n 2, 1) := by decide +kernel
theorem dX5_dealByLevel_31 : decode cX5_dealByLevel 31 = .ok (.invokestatic 32, 3) := by decide +kernel
theorem dX5_dealByLevel_34 : decode cX5_dealByLevel 34 = .ok (.isub, 1) := by decide +kernel
theorem dX5_dealByLevel_35 : decode cX5_dealByLevel 35 = .ok (.istore_n 3, 1) := by decide +kernel
theorem dX5_dealByLevel_36 : decode cX5_dealByLevel 36 = .ok (.iconst 0, 1) := by decide +kernel
theorem dX5_dealByLevel_37 : decode cX5_dealByLevel 37 = .ok (.istore 4, 2) := by decide +kernel
theorem dX5_dealByLevel_39 : decode cX5_dealByLevel 39 = .ok (.iload 4, 2) := by decide +kernel
theorem dX5_dealByLevel_41 : decode cX5_dealByLevel 41 = .ok (.aload_n 1, 1) := by decide +kernel
theorem dX5_dealByLevel_42 : decode cX5_dealByLevel 42 = .ok (.getfield 25, 3) := by decide +kernel
theorem dX5_dealByLevel_45 : decode cX5_dealByLevel 45 = .ok (.if_icmp .ge 60, 3) := by decide +kernel
theorem dX5_dealByLevel_48 : decode cX5_dealByLevel 48 = .ok (.aload_n 0, 1) := by decide +kernel
theorem dX5_dealByLevel_49 : decode cX5_dealByLevel 49 = .ok (.getfield 9, 3) := by decide +kernel
theorem dX5_dealByLevel_52 : decode cX5_dealByLevel 52 = .ok (.iload 4, 2) := by decide +kernel
theorem dX5_dealByLevel_54 : decode cX5_dealByLevel 54 = .ok (.iload_n 2, 1) := by decide +kernel
theorem dX5_dealByLevel_55 : decode cX5_dealByLevel 55 = .ok (.aload_n 1, 1) := by decide +kernel
theorem dX5_dealByLevel_56 : decode cX5_dealByLevel 56 = .ok (.iload 4, 2) := by decide +kernel
theorem dX5_dealByLevel_58 : decode cX5_dealByLevel 58 = .ok (.invokevirtual 28, 3) := by decide +kernel
theorem dX5_dealByLevel_61 : decode cX5_dealByLevel 61 = .ok (.invokestatic 36, 3) := by decide +kernel
theorem dX5_dealByLevel_64 : decode cX5_dealByLevel 64 = .ok (.iastore, 1) := by decide +kernel
theorem dX5_dealByLevel_65 : decode cX5_dealByLevel 65 = .ok (.iload_n 3, 1) := by decide +kernel
theorem dX5_dealByLevel_66 : decode cX5_dealByLevel 66 = .ok (.ifCond .le 33, 3) := by decide +kernel
theorem dX5_dealByLevel_69 : decode cX5_dealByLevel 69 = .ok (.aload_n 0, 1) := by decide +kernel
theorem dX5_dealByLevel_70 : decode cX5_dealByLevel 70 = .ok (.getfield 9, 3) := by decide +kernel
theorem dX5_dealByLevel_73 : decode cX5_dealByLevel 73 = .ok (.iload 4, 2) := by decide +kernel
theorem dX5_dealByLevel_75 : decode cX5_dealByLevel 75 = .ok (.iaload, 1) := by decide +kernel
theorem dX5_dealByLevel_76 : decode cX5_dealByLevel 76 = .ok (.aload_n 1, 1) := by decide +kernel
theorem dX5_dealByLevel_77 : decode cX5_dealByLevel 77 = .ok (.iload 4, 2) := by decide +kernel
theorem dX5_dealByLevel_79 : decode cX5_dealByLevel 79 = .ok (.invokevirtual 28, 3) := by decide +kernel
theorem dX5_dealByLevel_82 : decode cX5_dealByLevel 82 = .ok (.if_icmp .ge 17, 3) := by decide +kernel
theorem dX5_dealByLevel_85 : decode cX5_dealByLevel 85 = .ok (.aload_n 0, 1) := by decide +kernel
theorem dX5_dealByLevel_86 : decode cX5_dealByLevel 86 = .ok (.getfield 9, 3) := by decide +kernel
theorem dX5_dealByLevel_89 : decode cX5_dealByLevel 89 = .ok (.iload 4, 2) := by decide +kernel
theorem dX5_dealByLevel_91 : decode cX5_dealByLevel 91 = .ok (.dup2, 1) := by decide +kernel
theorem dX5_dealByLevel_92 : decode cX5_dealByLevel 92 = .ok (.iaload, 1) := by decide +kernel
theorem dX5_dealByLevel_93 : decode cX5_dealByLevel 93 = .ok (.iconst 1, 1) := by decide +kernel
theorem dX5_dealByLevel_94 : decode cX5_dealByLevel 94 = .ok (.iadd, 1) := by decide +kernel
theorem dX5_dealByLevel_95 : decode cX5_dealByLevel 95 = .ok (.iastore, 1) := by decide +kernel
theorem dX5_dealByLevel_96 : decode cX5_dealByLevel 96 = .ok (.iinc 3 (-1), 3) := by decide +kernel
theorem dX5_dealByLevel_99 : decode cX5_dealByLevel 99 = .ok (.iinc 4 1, 3) := by decide +kernel
theorem dX5_dealByLevel_102 : decode cX5_dealByLevel 102 = .ok (.goto (-63), 3) := by decide +kernel
theorem dX5_dealByLevel_105 : decode cX5_dealByLevel 105 = .ok (.return_, 1) := by decide +kernel
theorem dX5_sheetsForLevel_0 : decode cX5_sheetsForLevel 0 = .ok (.iconst 0, 1) := by decide +kernel
theorem dX5_sheetsForLevel_1 : decode cX5_sheetsForLevel 1 = .ok (.istore_n 2, 1) := by decide +kernel
theorem dX5_sheetsForLevel_2 : decode cX5_sheetsForLevel 2 = .ok (.iconst 0, 1) := by decide +kernel
theorem dX5_sheetsForLevel_3 : decode cX5_sheetsForLevel 3 = .ok (.istore_n 3, 1) := by decide +kernel
theorem dX5_sheetsForLevel_4 : decode cX5_sheetsForLevel 4 = .ok (.iload_n 3, 1) := by decide +kernel
theorem dX5_sheetsForLevel_5 : decode cX5_sheetsForLevel 5 = .ok (.aload_n 0, 1) := by decide +kernel
theorem dX5_sheetsForLevel_6 : decode cX5_sheetsForLevel 6 = .ok (.getfield 25, 3) := by decide +kernel
theorem dX5_sheetsForLevel_9 : decode cX5_sheetsForLevel 9 = .ok (.if_icmp .ge 21, 3) := by decide +kernel
theorem dX5_sheetsForLevel_12 : decode cX5_sheetsForLevel 12 = .ok (.iload_n 2, 1) := by decide +kernel
theorem dX5_sheetsForLevel_13 : decode cX5_sheetsForLevel 13 = .ok (.iload_n 1, 1) := by decide +kernel
theorem dX5_sheetsForLevel_14 : decode cX5_sheetsForLevel 14 = .ok (.aload_n 0, 1) := by decide +kernel
theorem dX5_sheetsForLevel_15 : decode cX5_sheetsForLevel 15 = .ok (.iload_n 3, 1) := by decide +kernel
theorem dX5_sheetsForLevel_16 : decode cX5_sheetsForLevel 16 = .ok (.invokevirtual 28, 3) := by decide +kernel
theorem dX5_sheetsForLevel_19 : decode cX5_sheetsForLevel 19 = .ok (.invokestatic 36, 3) := by decide +kernel
theorem dX5_sheetsForLevel_22 : decode cX5_sheetsForLevel 22 = .ok (.iadd, 1) := by decide +kernel
theorem dX5_sheetsForLevel_23 : decode cX5_sheetsForLevel 23 = .ok (.istore_n 2, 1) := by decide +kernel
theorem dX5_sheetsForLevel_24 : decode cX5_sheetsForLevel 24 = .ok (.iinc 3 1, 3) := by decide +kernel
theorem dX5_sheetsForLevel_27 : decode cX5_sheetsForLevel 27 = .ok (.goto (-23), 3) := by decide +kernel
theorem dX5_sheetsForLevel_30 : decode cX5_sheetsForLevel 30 = .ok (.iload_n 2, 1) := by decide +kernel
theorem dX5_sheetsForLevel_31 : decode cX5_sheetsForLevel 31 = .ok (.ireturn, 1) := by decide +kernel
theorem dX6_init_0 : decode cX6_init 0 = .ok (.aload_n 0, 1) := by decide +kernel
theorem dX6_init_1 : decode cX6_init 1 = .ok (.invokespecial 3, 3) := by decide +kernel
theorem dX6_init_4 : decode cX6_init 4 = .ok (.aload_n 0, 1) := by decide +kernel
theorem dX6_init_5 : decode cX6_init 5 = .ok (.bipush 10, 2) := by decide +kernel
theorem dX6_init_7 : decode cX6_init 7 = .ok (.newarray .int, 2) := by decide +kernel
theorem dX6_init_9 : decode cX6_init 9 = .ok (.putfield 9, 3) := by decide +kernel
theorem dX6_init_12 : decode cX6_init 12 = .ok (.aload_n 0, 1) := by decide +kernel
theorem dX6_init_13 : decode cX6_init 13 = .ok (.bipush 7, 2) := by decide +kernel
theorem dX6_init_15 : decode cX6_init 15 = .ok (.newarray .int, 2) := by decide +kernel
theorem dX6_init_17 : decode cX6_init 17 = .ok (.putfield 15, 3) := by decide +kernel
theorem dX6_init_20 : decode cX6_init 20 = .ok (.aload_n 0, 1) := by decide +kernel
theorem dX6_init_21 : decode cX6_init 21 = .ok (.bipush 7, 2) := by decide +kernel
theorem dX6_init_23 : decode cX6_init 23 = .ok (.newarray .int, 2) := by decide +kernel
theorem dX6_init_25 : decode cX6_init 25 = .ok (.putfield 18, 3) := by decide +kernel
theorem dX6_init_28 : decode cX6_init 28 = .ok (.aload_n 0, 1) := by decide +kernel
theorem dX6_init_29 : decode cX6_init 29 = .ok (.bipush 7, 2) := by decide +kernel
theorem dX6_init_31 : decode cX6_init 31 = .ok (.newarray .int, 2) := by decide +kernel
theorem dX6_init_33 : decode cX6_init 33 = .ok (.putfield 21, 3) := by decide +kernel
theorem dX6_init_36 : decode cX6_init 36 = .ok (.aload_n 0, 1) := by decide +kernel
theorem dX6_init_37 : decode cX6_init 37 = .ok (.bipush 12, 2) := by decide +kernel
theorem dX6_init_39 : decode cX6_init 39 = .ok (.newarray .int, 2) := by decide +kernel
theorem dX6_init_41 : decode cX6_init 41 = .ok (.putfield 24, 3) := by decide +kernel
theorem dX6_init_44 : decode cX6_init 44 = .ok (.aload_n 0, 1) := by decide +kernel
theorem dX6_init_45 : decode cX6_init 45 = .ok (.bipush 12, 2) := by decide +kernel
theorem dX6_init_47 : decode cX6_init 47 = .ok (.newarray .int, 2) := by decide +kernel
theorem dX6_init_49 : decode cX6_init 49 = .ok (.putfield 27, 3) := by decide +kernel
theorem dX6_init_52 : decode cX6_init 52 = .ok (.aload_n 0, 1) := by decide +kernel
theorem dX6_init_53 : decode cX6_init 53 = .ok (.iconst 0, 1) := by decide +kernel
theorem dX6_init_54 : decode cX6_init 54 = .ok (.putfield 30, 3) := by decide +kernel
theorem dX6_init_57 : decode cX6_init 57 = .ok (.aload_n 0, 1) := by decide +kernel
theorem dX6_init_58 : decode cX6_init 58 = .ok (.iconst 0, 1) := by decide +kernel
theorem dX6_init_59 : decode cX6_init 59 = .ok (.putfield 34, 3) := by decide +kernel
theorem dX6_init_62 : decode cX6_init 62 = .ok (.aload_n 0, 1) := by decide +kernel
theorem dX6_init_63 : decode cX6_init 63 = .ok (.iconst 0, 1) := by decide +kernel
theorem dX6_init_64 : decode cX6_init 64 = .ok (.putfield 37, 3) := by decide +kernel
theorem dX6_init_67 : decode cX6_init 67 = .ok (.aload_n 0, 1) := by decide +kernel
theorem dX6_init_68 : decode cX6_init 68 = .ok (.iconst 0, 1) := by decide +kernel
theorem dX6_init_69 : decode cX6_init 69 = .ok (.putfield 40, 3) := by decide +kernel
theorem dX6_init_72 : decode cX6_init 72 = .ok (.aload_n 0, 1) := by decide +kernel
theorem dX6_init_73 : decode cX6_init 73 = .ok (.iconst 0, 1) := by decide +kernel
theorem dX6_init_74 : decode cX6_init 74 = .ok (.putfield 43, 3) := by decide +kernel
theorem dX6_init_77 : decode cX6_init 77 = .ok (.aload_n 0, 1) := by decide +kernel
theorem dX6_init_78 : decode cX6_init 78 = .ok (.iconst 0, 1) := by decide +kernel
theorem dX6_init_79 : decode cX6_init 79 = .ok (.putfield 46, 3) := by decide +kernel
theorem dX6_init_82 : decode cX6_init 82 = .ok (.aload_n 0, 1) := by decide +kernel
theorem dX6_init_83 : decode cX6_init 83 = .ok (.iconst 0, 1) := by decide +kernel
theorem dX6_init_84 : decode cX6_init 84 = .ok (.putfield 49, 3) := by decide +kernel
theorem dX6_init_87 : decode cX6_init 87 = .ok (.aload_n 0, 1) := by decide +kernel
theorem dX6_init_88 : decode cX6_init 88 = .ok (.iconst 0, 1) := by decide +kernel
theorem dX6_init_89 : decode cX6_init 89 = .ok (.putfield 52, 3) := by decide +kernel
theorem dX6_init_92 : decode cX6_init 92 = .ok (.aload_n 0, 1) := by decide +kernel
theorem dX6_init_93 : decode cX6_init 93 = .ok (.lconst 0, 1) := by decide +kernel
theorem dX6_init_94 : decode cX6_init 94 = .ok (.putfield 55, 3) := by decide +kernel
theorem dX6_init_97 : decode cX6_init 97 = .ok (.return_, 1) := by decide +kernel
theorem dX6_copyFrom_0 : decode cX6_copyFrom 0 = .ok (.aload_n 1, 1) := by decide +kernel
theorem dX6_copyFrom_1 : decode cX6_copyFrom 1 = .ok (.getfield 9, 3) := by decide +kernel
theorem dX6_copyFrom_4 : decode cX6_copyFrom 4 = .ok (.iconst 0, 1) := by decide +kernel
theorem dX6_copyFrom_5 : decode cX6_copyFrom 5 = .ok (.aload_n 0, 1) := by decide +kernel
theorem dX6_copyFrom_6 : decode cX6_copyFrom 6 = .ok (.getfield 9, 3) := by decide +kernel
theorem dX6_copyFrom_9 : decode cX6_copyFrom 9 = .ok (.iconst 0, 1) := by decide +kernel
theorem dX6_copyFrom_10 : decode cX6_copyFrom 10 = .ok (.bipush 10, 2) := by decide +kernel
theorem dX6_copyFrom_12 : decode cX6_copyFrom 12 = .ok (.invokestatic 59, 3) := by decide +kernel
theorem dX6_copyFrom_15 : decode cX6_copyFrom 15 = .ok (.aload_n 1, 1) := by decide +kernel
theorem dX6_copyFrom_16 : decode cX6_copyFrom 16 = .ok (.getfield 15, 3) := by decide +kernel
theorem dX6_copyFrom_19 : decode cX6_copyFrom 19 = .ok (.iconst 0, 1) := by decide +kernel
theorem dX6_copyFrom_20 : decode cX6_copyFrom 20 = .ok (.aload_n 0, 1) := by decide +kernel
theorem dX6_copyFrom_21 : decode cX6_copyFrom 21 = .ok (.getfield 15, 3) := by decide +kernel
theorem dX6_copyFrom_24 : decode cX6_copyFrom 24 = .ok (.iconst 0, 1) := by decide +kernel
theorem dX6_copyFrom_25 : decode cX6_copyFrom 25 = .ok (.bipush 7, 2) := by decide +kernel
theorem dX6_copyFrom_27 : decode cX6_copyFrom 27 = .ok (.invokestatic 59, 3) := by decide +kernel
theorem dX6_copyFrom_30 : decode cX6_copyFrom 30 = .ok (.aload_n 1, 1) := by decide +kernel
theorem dX6_copyFrom_31 : decode cX6_copyFrom 31 = .ok (.getfield 18, 3) := by decide +kernel
theorem dX6_copyFrom_34 : decode cX6_copyFrom 34 = .ok (.iconst 0, 1) := by decide +kernel
theorem dX6_copyFrom_35 : decode cX6_copyFrom 35 = .ok (.aload_n 0, 1) := by decide +kernel
theorem dX6_copyFrom_36 : decode cX6_copyFrom 36 = .ok (.getfield 18, 3) := by decide +kernel
theorem dX6_copyFrom_39 : decode cX6_copyFrom 39 = .ok (.iconst 0, 1) := by decide +kernel
theorem dX6_copyFrom_40 : decode cX6_copyFrom 40 = .ok (.bipush 7, 2) := by decide +kernel
theorem dX6_copyFrom_42 : decode cX6_copyFrom 42 = .ok (.invokestatic 59, 3) := by decide +kernel
theorem dX6_copyFrom_45 : decode cX6_copyFrom 45 = .ok (.aload_n 1, 1) := by decide +kernel
theorem dX6_copyFrom_46 : decode cX6_copyFrom 46 = .ok (.getfield 21, 3) := by decide +kernel
theorem dX6_copyFrom_49 : decode cX6_copyFrom 49 = .ok (.iconst 0, 1) := by decide +kernel
theorem dX6_copyFrom_50 : decode cX6_copyFrom 50 = .ok (.aload_n 0, 1) := by decide +kernel
theorem dX6_copyFrom_51 : decode cX6_copyFrom 51 = .ok (.getfield 21, 3) := by decide +kernel
theorem dX6_copyFrom_54 : decode cX6_copyFrom 54 = .ok (.iconst 0, 1) := by decide +kernel
theorem dX6_copyFrom_55 : decode cX6_copyFrom 55 = .ok (.bipush 7, 2) := by decide +kernel
theorem dX6_copyFrom_57 : decode cX6_copyFrom 57 = .ok (.invokestatic 59, 3) := by decide +kernel
theorem dX6_copyFrom_60 : decode cX6_copyFrom 60 = .ok (.aload_n 1, 1) := by decide +kernel
theorem dX6_copyFrom_61 : decode cX6_copyFrom 61 = .ok (.getfield 24, 3) := by decide +kernel
theorem dX6_copyFrom_64 : decode cX6_copyFrom 64 = .ok (.iconst 0, 1) := by decide +kernel
theorem dX6_copyFrom_65 : decode cX6_copyFrom 65 = .ok (.aload_n 0, 1) := by decide +kernel
theorem dX6_copyFrom_66 : decode cX6_copyFrom 66 = .ok (.getfield 24, 3) := by decide +kernel
theorem dX6_copyFrom_69 : decode cX6_copyFrom 69 = .ok (.iconst 0, 1) := by decide +kernel
theorem dX6_copyFrom_70 : decode cX6_copyFrom 70 = .ok (.bipush 12, 2) := by decide +kernel
theorem dX6_copyFrom_72 : decode cX6_copyFrom 72 = .ok (.invokestatic 59, 3) := by decide +kernel
theorem dX6_copyFrom_75 : decode cX6_copyFrom 75 = .ok (.aload_n 1, 1) := by decide +kernel
theorem dX6_copyFrom_76 : decode cX6_copyFrom 76 = .ok (.getfield 27, 3) := by decide +kernel
theorem dX6_copyFrom_79 : decode cX6_copyFrom 79 = .ok (.iconst 0, 1) := by decide +kernel
theorem dX6_copyFrom_80 : decode cX6_copyFrom 80 = .ok (.aload_n 0, 1) := by decide +kernel
theorem dX6_copyFrom_81 : decode cX6_copyFrom 81 = .ok (.getfield 27, 3) := by decide +kernel
theorem dX6_copyFrom_84 : decode cX6_copyFrom 84 = .ok (.iconst 0, 1) := by decide +kernel
theorem dX6_copyFrom_85 : decode cX6_copyFrom 85 = .ok (.bipush 12, 2) := by decide +kernel
theorem dX6_copyFrom_87 : decode cX6_copyFrom 87 = .ok (.invokestatic 59, 3) := by decide +kernel
theorem dX6_copyFrom_90 : decode cX6_copyFrom 90 = .ok (.aload_n 0, 1) := by decide +kernel
theorem dX6_copyFrom_91 : decode cX6_copyFrom 91 = .ok (.aload_n 1, 1) := by decide +kernel
theorem dX6_copyFrom_92 : decode cX6_copyFrom 92 = .ok (.getfield 30, 3) := by decide +kernel
theorem dX6_copyFrom_95 : decode cX6_copyFrom 95 = .ok (.putfield 30, 3) := by decide +kernel
theorem dX6_copyFrom_98 : decode cX6_copyFrom 98 = .ok (.aload_n 0, 1) := by decide +kernel
theorem dX6_copyFrom_99 : decode cX6_copyFrom 99 = .ok (.aload_n 1, 1) := by decide +kernel
theorem dX6_copyFrom_100 : decode cX6_copyFrom 100 = .ok (.getfield 34, 3) := by decide +kernel
theorem dX6_copyFrom_103 : decode cX6_copyFrom 103 = .ok (.putfield 34, 3) := by decide +kernel
theorem dX6_copyFrom_106 : decode cX6_copyFrom 106 = .ok (.aload_n 0, 1) := by decide +kernel
theorem dX6_copyFrom_107 : decode cX6_copyFrom 107 = .ok (.aload_n 1, 1) := by decide +kernel
theorem dX6_copyFrom_108 : decode cX6_copyFrom 108 = .ok (.getfield 37, 3) := by decide +kernel
theorem dX6_copyFrom_111 : decode cX6_copyFrom 111 = .ok (.putfield 37, 3) := by decide +kernel
theorem dX6_copyFrom_114 : decode cX6_copyFrom 114 = .ok (.aload_n 0, 1) := by decide +kernel
theorem dX6_copyFrom_115 : decode cX6_copyFrom 115 = .ok (.aload_n 1, 1) := by decide +kernel
theorem dX6_copyFrom_116 : decode cX6_copyFrom 116 = .ok (.getfield 40, 3) := by decide +kernel
theorem dX6_copyFrom_119 : decode cX6_copyFrom 119 = .ok (.putfield 40, 3) := by decide +kernel
theorem dX6_copyFrom_122 : decode cX6_copyFrom 122 = .ok (.aload_n 0, 1) := by decide +kernel
theorem dX6_copyFrom_123 : decode cX6_copyFrom 123 = .ok (.aload_n 1, 1) := by decide +kernel
theorem dX6_copyFrom_124 : decode cX6_copyFrom 124 = .ok (.getfield 43, 3) := by decide +kernel
theorem dX6_copyFrom_127 : decode cX6_copyFrom 127 = .ok (.putfield 43, 3) := by decide +kernel
theorem dX6_copyFrom_130 : decode cX6_copyFrom 130 = .ok (.aload_n 0, 1) := by decide +kernel
theorem dX6_copyFrom_131 : decode cX6_copyFrom 131 = .ok (.aload_n 1, 1) := by decide +kernel
theorem dX6_copyFrom_132 : decode cX6_copyFrom 132 = .ok (.getfield 46, 3) := by decide +kernel
theorem dX6_copyFrom_135 : decode cX6_copyFrom 135 = .ok (.putfield 46, 3) := by decide +kernel
theorem dX6_copyFrom_138 : decode cX6_copyFrom 138 = .ok (.aload_n 0, 1) := by decide +kernel
theorem dX6_copyFrom_139 : decode cX6_copyFrom 139 = .ok (.aload_n 1, 1) := by decide +kernel
theorem dX6_copyFrom_140 : decode cX6_copyFrom 140 = .ok (.getfield 49, 3) := by decide +kernel
theorem dX6_copyFrom_143 : decode cX6_copyFrom 143 = .ok (.putfield 49, 3) := by decide +kernel
theorem dX6_copyFrom_146 : decode cX6_copyFrom 146 = .ok (.aload_n 0, 1) := by decide +kernel
theorem dX6_copyFrom_147 : decode cX6_copyFrom 147 = .ok (.aload_n 1, 1) := by decide +kernel
theorem dX6_copyFrom_148 : decode cX6_copyFrom 148 = .ok (.getfield 52, 3) := by decide +kernel
theorem dX6_copyFrom_151 : decode cX6_copyFrom 151 = .ok (.putfield 52, 3) := by decide +kernel
theorem dX6_copyFrom_154 : decode cX6_copyFrom 154 = .ok (.aload_n 0, 1) := by decide +kernel
theorem dX6_copyFrom_155 : decode cX6_copyFrom 155 = .ok (.aload_n 1, 1) := by decide +kernel
theorem dX6_copyFrom_156 : decode cX6_copyFrom 156 = .ok (.getfield 55, 3) := by decide +kernel
theorem dX6_copyFrom_159 : decode cX6_copyFrom 159 = .ok (.putfield 55, 3) := by decide +kernel
theorem dX6_copyFrom_162 : decode cX6_copyFrom 162 = .ok (.return_, 1) := by decide +kernel
theorem dX6_pour_0 : decode cX6_pour 0 = .ok (.iload_n 1, 1) := by decide +kernel
theorem dX6_pour_1 : decode cX6_pour 1 = .ok (.invokestatic 65, 3) := by decide +kernel
theorem dX6_pour_4 : decode cX6_pour 4 = .ok (.ifCond .eq 14, 3) := by decide +kernel
theorem dX6_pour_7 : decode cX6_pour 7 = .ok (.iload_n 2, 1) := by decide +kernel
theorem dX6_pour_8 : decode cX6_pour 8 = .ok (.iconst 1, 1) := by decide +kernel
theorem dX6_pour_9 : decode cX6_pour 9 = .ok (.sipush 999, 3) := by decide +kernel
theorem dX6_pour_12 : decode cX6_pour 12 = .ok (.invokestatic 69, 3) := by decide +kernel
theorem dX6_pour_15 : decode cX6_pour 15 = .ok (.ifCond .ne 5, 3) := by decide +kernel
theorem dX6_pour_18 : decode cX6_pour 18 = .ok (.iconst (-1), 1) := by decide +kernel
theorem dX6_pour_19 : decode cX6_pour 19 = .ok (.ireturn, 1) := by decide +kernel
theorem dX6_pour_20 : decode cX6_pour 20 = .ok (.aload_n 0, 1) := by decide +kernel
theorem dX6_pour_21 : decode cX6_pour 21 = .ok (.getfield 9, 3) := by decide +kernel
theorem dX6_pour_24 : decode cX6_pour 24 = .ok (.iload_n 1, 1) := by decide +kernel
theorem dX6_pour_25 : decode cX6_pour 25 = .ok (.iaload, 1) := by decide +kernel
theorem dX6_pour_26 : decode cX6_pour 26 = .ok (.iload_n 2, 1) := by decide +kernel
theorem dX6_pour_27 : decode cX6_pour 27 = .ok (.iadd, 1) := by decide +kernel
theorem dX6_pour_28 : decode cX6_pour 28 = .ok (.sipush 999, 3) := by decide +kernel
theorem dX6_pour_31 : decode cX6_pour 31 = .ok (.if_icmp .le 6, 3) := by decide +kernel
theorem dX6_pour_34 : decode cX6_pour 34 = .ok (.bipush (-2), 2) := by decide +kernel
theorem dX6_pour_36 : decode cX6_pour 36 = .ok (.ireturn, 1) := by decide +kernel
theorem dX6_pour_37 : decode cX6_pour 37 = .ok (.aload_n 0, 1) := by decide +kernel
theorem dX6_pour_38 : decode cX6_pour 38 = .ok (.getfield 9, 3) := by decide +kernel
theorem dX6_pour_41 : decode cX6_pour 41 = .ok (.iload_n 1, 1) := by decide +kernel
theorem dX6_pour_42 : decode cX6_pour 42 = .ok (.dup2, 1) := by decide +kernel
theorem dX6_pour_43 : decode cX6_pour 43 = .ok (.iaload, 1) := by decide +kernel
theorem dX6_pour_44 : decode cX6_pour 44 = .ok (.iload_n 2, 1) := by decide +kernel
theorem dX6_pour_45 : decode cX6_pour 45 = .ok (.iadd, 1) := by decide +kernel
theorem dX6_pour_46 : decode cX6_pour 46 = .ok (.iastore, 1) := by decide +kernel
theorem dX6_pour_47 : decode cX6_pour 47 = .ok (.aload_n 0, 1) := by decide +kernel
theorem dX6_pour_48 : decode cX6_pour 48 = .ok (.dup, 1) := by decide +kernel
theorem dX6_pour_49 : decode cX6_pour 49 = .ok (.getfield 49, 3) := by decide +kernel
theorem dX6_pour_52 : decode cX6_pour 52 = .ok (.iload_n 2, 1) := by decide +kernel
theorem dX6_pour_53 : decode cX6_pour 53 = .ok (.iadd, 1) := by decide +kernel
theorem dX6_pour_54 : decode cX6_pour 54 = .ok (.putfield 49, 3) := by decide +kernel
theorem dX6_pour_57 : decode cX6_pour 57 = .ok (.aload_n 0, 1) := by decide +kernel
theorem dX6_pour_58 : decode cX6_pour 58 = .ok (.getfield 9, 3) := by decide +kernel
theorem dX6_pour_61 : decode cX6_pour 61 = .ok (.iload_n 1, 1) := by decide +kernel
theorem dX6_pour_62 : decode cX6_pour 62 = .ok (.iaload, 1) := by decide +kernel
theorem dX6_pour_63 : decode cX6_pour 63 = .ok (.ireturn, 1) := by decide +kernel
theorem dX6_buy_0 : decode cX6_buy 0 = .ok (.iload_n 1, 1) := by decide +kernel
theorem dX6_buy_1 : decode cX6_buy 1 = .ok (.iconst 1, 1) := by decide +kernel
theorem dX6_buy_2 : decode cX6_buy 2 = .ok (.sipush 999, 3) := by decide +kernel
theorem dX6_buy_5 : decode cX6_buy 5 = .ok (.invokestatic 69, 3) := by decide +kernel
theorem dX6_buy_8 : decode cX6_buy 8 = .ok (.ifCond .ne 5, 3) := by decide +kernel
theorem dX6_buy_11 : decode cX6_buy 11 = .ok (.iconst (-1), 1) := by decide +kernel
theorem dX6_buy_12 : decode cX6_buy 12 = .ok (.ireturn, 1) := by decide +kernel
theorem dX6_buy_13 : decode cX6_buy 13 = .ok (.aload_n 0, 1) := by decide +kernel
theorem dX6_buy_14 : decode cX6_buy 14 = .ok (.getfield 37, 3) := by decide +kernel
theorem dX6_buy_17 : decode cX6_buy 17 = .ok (.iload_n 1, 1) := by decide +kernel
theorem dX6_buy_18 : decode cX6_buy 18 = .ok (.iadd, 1) := by decide +kernel
theorem dX6_buy_19 : decode cX6_buy 19 = .ok (.sipush 9999, 3) := by decide +kernel
theorem dX6_buy_22 : decode cX6_buy 22 = .ok (.if_icmp .le 6, 3) := by decide +kernel
theorem dX6_buy_25 : decode cX6_buy 25 = .ok (.bipush (-2), 2) := by decide +kernel
theorem dX6_buy_27 : decode cX6_buy 27 = .ok (.ireturn, 1) := by decide +kernel
theorem dX6_buy_28 : decode cX6_buy 28 = .ok (.aload_n 0, 1) := by decide +kernel
theorem dX6_buy_29 : decode cX6_buy 29 = .ok (.dup, 1) := by decide +kernel
theorem dX6_buy_30 : decode cX6_buy 30 = .ok (.getfield 37, 3) := by decide +kernel
theorem dX6_buy_33 : decode cX6_buy 33 = .ok (.iload_n 1, 1) := by decide +kernel
theorem dX6_buy_34 : decode cX6_buy 34 = .ok (.iadd, 1) := by decide +kernel
theorem dX6_buy_35 : decode cX6_buy 35 = .ok (.putfield 37, 3) := by decide +kernel
theorem dX6_buy_38 : decode cX6_buy 38 = .ok (.aload_n 0, 1) := by decide +kernel
theorem dX6_buy_39 : decode cX6_buy 39 = .ok (.getfield 37, 3) := by decide +kernel
theorem dX6_buy_42 : decode cX6_buy 42 = .ok (.ireturn, 1) := by decide +kernel
theorem dX6_letPass_0 : decode cX6_letPass 0 = .ok (.iload_n 1, 1) := by decide +kernel
theorem dX6_letPass_1 : decode cX6_letPass 1 = .ok (.iconst 1, 1) := by decide +kernel
theorem dX6_letPass_2 : decode cX6_letPass 2 = .ok (.bipush 48, 2) := by decide +kernel
theorem dX6_letPass_4 : decode cX6_letPass 4 = .ok (.invokestatic 69, 3) := by decide +kernel
theorem dX6_letPass_7 : decode cX6_letPass 7 = .ok (.ifCond .ne 5, 3) := by decide +kernel
theorem dX6_letPass_10 : decode cX6_letPass 10 = .ok (.iconst (-1), 1) := by decide +kernel
theorem dX6_letPass_11 : decode cX6_letPass 11 = .ok (.ireturn, 1) := by decide +kernel
theorem dX6_letPass_12 : decode cX6_letPass 12 = .ok (.iconst 0, 1) := by decide +kernel
theorem dX6_letPass_13 : decode cX6_letPass 13 = .ok (.istore_n 2, 1) := by decide +kernel
theorem dX6_letPass_14 : decode cX6_letPass 14 = .ok (.iconst 0, 1) := by decide +kernel
theorem dX6_letPass_15 : decode cX6_letPass 15 = .ok (.istore_n 3, 1) := by decide +kernel
theorem dX6_letPass_16 : decode cX6_letPass 16 = .ok (.iload_n 3, 1) := by decide +kernel
theorem dX6_letPass_17 : decode cX6_letPass 17 = .ok (.iload_n 1, 1) := by decide +kernel
theorem dX6_letPass_18 : decode cX6_letPass 18 = .ok (.if_icmp .ge 26, 3) := by decide +kernel
theorem dX6_letPass_21 : decode cX6_letPass 21 = .ok (.aload_n 0, 1) := by decide +kernel
theorem dX6_letPass_22 : decode cX6_letPass 22 = .ok (.dup, 1) := by decide +kernel
theorem dX6_letPass_23 : decode cX6_letPass 23 = .ok (.getfield 40, 3) := by decide +kernel
theorem dX6_letPass_26 : decode cX6_letPass 26 = .ok (.iconst 1, 1) := by decide +kernel
theorem dX6_letPass_27 : decode cX6_letPass 27 = .ok (.iadd, 1) := by decide +kernel
theorem dX6_letPass_28 : decode cX6_letPass 28 = .ok (.putfield 40, 3) := by decide +kernel
theorem dX6_letPass_31 : decode cX6_letPass 31 = .ok (.iload_n 2, 1) := by decide +kernel
theorem dX6_letPass_32 : decode cX6_letPass 32 = .ok (.aload_n 0, 1) := by decide +kernel
theorem dX6_letPass_33 : decode cX6_letPass 33 = .ok (.invokevirtual 73, 3) := by decide +kernel
theorem dX6_letPass_36 : decode cX6_letPass 36 = .ok (.iadd, 1) := by decide +kernel
theorem dX6_letPass_37 : decode cX6_letPass 37 = .ok (.istore_n 2, 1) := by decide +kernel
theorem dX6_letPass_38 : decode cX6_letPass 38 = .ok (.iinc 3 1, 3) := by decide +kernel
theorem dX6_letPass_41 : decode cX6_letPass 41 = .ok (.goto (-25), 3) := by decide +kernel
theorem dX6_letPass_44 : decode cX6_letPass 44 = .ok (.aload_n 0, 1) := by decide +kernel
theorem dX6_letPass_45 : decode cX6_letPass 45 = .ok (.dup, 1) := by decide +kernel
theorem dX6_letPass_46 : decode cX6_letPass 46 = .ok (.getfield 55, 3) := by decide +kernel
theorem dX6_letPass_49 : decode cX6_letPass 49 = .ok (.iload_n 2, 1) := by decide +kernel
theorem dX6_letPass_50 : decode cX6_letPass 50 = .ok (.i2l, 1) := by decide +kernel
theorem dX6_letPass_51 : decode cX6_letPass 51 = .ok (.ladd, 1) := by decide +kernel
theorem dX6_letPass_52 : decode cX6_letPass 52 = .ok (.putfield 55, 3) := by decide +kernel
theorem dX6_letPass_55 : decode cX6_letPass 55 = .ok (.iload_n 2, 1) := by decide +kernel
theorem dX6_letPass_56 : decode cX6_letPass 56 = .ok (.ireturn, 1) := by decide +kernel
theorem dX6_fadeInThisHour_0 : decode cX6_fadeInThisHour 0 = .ok (.iconst 0, 1) := by decide +kernel
theorem dX6_fadeInThisHour_1 : decode cX6_fadeInThisHour 1 = .ok (.istore_n 1, 1) := by decide +kernel
theorem dX6_fadeInThisHour_2 : decode cX6_fadeInThisHour 2 = .ok (.iconst 0, 1) := by decide +kernel
theorem dX6_fadeInThisHour_3 : decode cX6_fadeInThisHour 3 = .ok (.istore_n 2, 1) := by decide +kernel
theorem dX6_fadeInThisHour_4 : decode cX6_fadeInThisHour 4 = .ok (.iload_n 2, 1) := by decide +kernel
theorem dX6_fadeInThisHour_5 : decode cX6_fadeInThisHour 5 = .ok (.bipush 10, 2) := by decide +kernel
theorem dX6_fadeInThisHour_7 : decode cX6_fadeInThisHour 7 = .ok (.if_icmp .ge 42, 3) := by decide +kernel
theorem dX6_fadeInThisHour_10 : decode cX6_fadeInThisHour 10 = .ok (.aload_n 0, 1) := by decide +kernel
theorem dX6_fadeInThisHour_11 : decode cX6_fadeInThisHour 11 = .ok (.getfield 9, 3) := by decide +kernel
theorem dX6_fadeInThisHour_14 : decode cX6_fadeInThisHour 14 = .ok (.iload_n 2, 1) := by decide +kernel
theorem dX6_fadeInThisHour_15 : decode cX6_fadeInThisHour 15 = .ok (.iaload, 1) := by decide +kernel
theorem dX6_fadeInThisHour_16 : decode cX6_fadeInThisHour 16 = .ok (.iload_n 2, 1) := by decide +kernel
theorem dX6_fadeInThisHour_17 : decode cX6_fadeInThisHour 17 = .ok (.aload_n 0, 1) := by decide +kernel
theorem dX6_fadeInThisHour_18 : decode cX6_fadeInThisHour 18 = .ok (.getfield 40, 3) := by decide +kernel
theorem dX6_fadeInThisHour_21 : decode cX6_fadeInThisHour 21 = .ok (.invokestatic 77, 3) := by decide +kernel
theorem dX6_fadeInThisHour_24 : decode cX6_fadeInThisHour 24 = .ok (.istore_n 3, 1) := by decide +kernel
theorem dX6_fadeInThisHour_25 : decode cX6_fadeInThisHour 25 = .ok (.iload_n 1, 1) := by decide +kernel
theorem dX6_fadeInThisHour_26 : decode cX6_fadeInThisHour 26 = .ok (.aload_n 0, 1) := by decide +kernel
theorem dX6_fadeInThisHour_27 : decode cX6_fadeInThisHour 27 = .ok (.getfield 9, 3) := by decide +kernel
theorem dX6_fadeInThisHour_30 : decode cX6_fadeInThisHour 30 = .ok (.iload_n 2, 1) := by decide +kernel
theorem dX6_fadeInThisHour_31 : decode cX6_fadeInThisHour 31 = .ok (.iaload, 1) := by decide +kernel
theorem dX6_fadeInThisHour_32 : decode cX6_fadeInThisHour 32 = .ok (.iload_n 3, 1) := by decide +kernel
theorem dX6_fadeInThisHour_33 : decode cX6_fadeInThisHour 33 = .ok (.isub, 1) := by decide +kernel
theorem dX6_fadeInThisHour_34 : decode cX6_fadeInThisHour 34 = .ok (.iadd, 1) := by decide +kernel
theorem dX6_fadeInThisHour_35 : decode cX6_fadeInThisHour 35 = .ok (.istore_n 1, 1) := by decide +kernel
theorem dX6_fadeInThisHour_36 : decode cX6_fadeInThisHour 36 = .ok (.aload_n 0, 1) := by decide +kernel
theorem dX6_fadeInThisHour_37 : decode cX6_fadeInThisHour 37 = .ok (.getfield 9, 3) := by decide +kernel
theorem dX6_fadeInThisHour_40 : decode cX6_fadeInThisHour 40 = .ok (.iload_n 2, 1) := by decide +kernel
theorem dX6_fadeInThisHour_41 : decode cX6_fadeInThisHour 41 = .ok (.iload_n 3, 1) := by decide +kernel
theorem dX6_fadeInThisHour_42 : decode cX6_fadeInThisHour 42 = .ok (.iastore, 1) := by decide +kernel
theorem dX6_fadeInThisHour_43 : decode cX6_fadeInThisHour 43 = .ok (.iinc 2 1, 3) := by decide +kernel
theorem dX6_fadeInThisHour_46 : decode cX6_fadeInThisHour 46 = .ok (.goto (-42), 3) := by decide +kernel
theorem dX6_fadeInThisHour_49 : decode cX6_fadeInThisHour 49 = .ok (.iload_n 1, 1) := by decide +kernel
theorem dX6_fadeInThisHour_50 : decode cX6_fadeInThisHour 50 = .ok (.ireturn, 1) := by decide +kernel
theorem dX6_inkInHour_0 : decode cX6_inkInHour 0 = .ok (.iload_n 2, 1) := by decide +kernel
theorem dX6_inkInHour_1 : decode cX6_inkInHour 1 = .ok (.iload_n 1, 1) := by decide +kernel
theorem dX6_inkInHour_2 : decode cX6_inkInHour 2 = .ok (.iconst 1, 1) := by decide +kernel
theorem dX6_inkInHour_3 : decode cX6_inkInHour 3 = .ok (.iadd, 1) := by decide +kernel
theorem dX6_inkInHour_4 : decode cX6_inkInHour 4 = .ok (.irem, 1) := by decide +kernel
theorem dX6_inkInHour_5 : decode cX6_inkInHour 5 = .ok (.ifCond .ne 9, 3) := by decide +kernel
theorem dX6_inkInHour_8 : decode cX6_inkInHour 8 = .ok (.iload_n 0, 1) := by decide +kernel
theorem dX6_inkInHour_9 : decode cX6_inkInHour 9 = .ok (.iconst 2, 1) := by decide +kernel
theorem dX6_inkInHour_10 : decode cX6_inkInHour 10 = .ok (.idiv, 1) := by decide +kernel
theorem dX6_inkInHour_11 : decode cX6_inkInHour 11 = .ok (.goto 4, 3) := by decide +kernel
theorem dX6_inkInHour_14 : decode cX6_inkInHour 14 = .ok (.iload_n 0, 1) := by decide +kernel
theorem dX6_inkInHour_15 : decode cX6_inkInHour 15 = .ok (.ireturn, 1) := by decide +kernel
theorem dX6_inkHourByHour_0 : decode cX6_inkHourByHour 0 = .ok (.aload_n 0, 1) := by decide +kernel
theorem dX6_inkHourByHour_1 : decode cX6_inkHourByHour 1 = .ok (.getfield 9, 3) := by decide +kernel
theorem dX6_inkHourByHour_4 : decode cX6_inkHourByHour 4 = .ok (.iload_n 1, 1) := by decide +kernel
theorem dX6_inkHourByHour_5 : decode cX6_inkHourByHour 5 = .ok (.iaload, 1) := by decide +kernel
theorem dX6_inkHourByHour_6 : decode cX6_inkHourByHour 6 = .ok (.istore_n 3, 1) := by decide +kernel
theorem dX6_inkHourByHour_7 : decode cX6_inkHourByHour 7 = .ok (.iconst 1, 1) := by decide +kernel
theorem dX6_inkHourByHour_8 : decode cX6_inkHourByHour 8 = .ok (.istore 4, 2) := by decide +kernel
theorem dX6_inkHourByHour_10 : decode cX6_inkHourByHour 10 = .ok (.iload 4, 2) := by decide +kernel
theorem dX6_inkHourByHour_12 : decode cX6_inkHourByHour 12 = .ok (.iload_n 2, 1) := by decide +kernel
theorem dX6_inkHourByHour_13 : decode cX6_inkHourByHour 13 = .ok (.if_icmp .gt 22, 3) := by decide +kernel
theorem dX6_inkHourByHour_16 : decode cX6_inkHourByHour 16 = .ok (.iload_n 3, 1) := by decide +kernel
theorem dX6_inkHourByHour_17 : decode cX6_inkHourByHour 17 = .ok (.iload_n 1, 1) := by decide +kernel
theorem dX6_inkHourByHour_18 : decode cX6_inkHourByHour 18 = .ok (.aload_n 0, 1) := by decide +kernel
theorem dX6_inkHourByHour_19 : decode cX6_inkHourByHour 19 = .ok (.getfield 40, 3) := by decide +kernel
theorem dX6_inkHourByHour_22 : decode cX6_inkHourByHour 22 = .ok (.iload 4, 2) := by decide +kernel
theorem dX6_inkHourByHour_24 : decode cX6_inkHourByHour 24 = .ok (.iadd, 1) := by decide +kernel
theorem dX6_inkHourByHour_25 : decode cX6_inkHourByHour 25 = .ok (.invokestatic 77, 3) := by decide +kernel
theorem dX6_inkHourByHour_28 : decode cX6_inkHourByHour 28 = .ok (.istore_n 3, 1) := by decide +kernel
theorem dX6_inkHourByHour_29 : decode cX6_inkHourByHour 29 = .ok (.iinc 4 1, 3) := by decide +kernel
theorem dX6_inkHourByHour_32 : decode cX6_inkHourByHour 32 = .ok (.goto (-22), 3) := by decide +kernel
theorem dX6_inkHourByHour_35 : decode cX6_inkHourByHour 35 = .ok (.iload_n 3, 1) := by decide +kernel
theorem dX6_inkHourByHour_36 : decode cX6_inkHourByHour 36 = .ok (.ireturn, 1) := by decide +kernel
theorem dX6_inkHalved_0 : decode cX6_inkHalved 0 = .ok (.iload_n 1, 1) := by decide +kernel
theorem dX6_inkHalved_1 : decode cX6_inkHalved 1 = .ok (.iconst 1, 1) := by decide +kernel
theorem dX6_inkHalved_2 : decode cX6_inkHalved 2 = .ok (.iadd, 1) := by decide +kernel
theorem dX6_inkHalved_3 : decode cX6_inkHalved 3 = .ok (.istore_n 3, 1) := by decide +kernel
theorem dX6_inkHalved_4 : decode cX6_inkHalved 4 = .ok (.aload_n 0, 1) := by decide +kernel
theorem dX6_inkHalved_5 : decode cX6_inkHalved 5 = .ok (.getfield 40, 3) := by decide +kernel
theorem dX6_inkHalved_8 : decode cX6_inkHalved 8 = .ok (.iload_n 2, 1) := by decide +kernel
theorem dX6_inkHalved_9 : decode cX6_inkHalved 9 = .ok (.iadd, 1) := by decide +kernel
theorem dX6_inkHalved_10 : decode cX6_inkHalved 10 = .ok (.iload_n 3, 1) := by decide +kernel
theorem dX6_inkHalved_11 : decode cX6_inkHalved 11 = .ok (.idiv, 1) := by decide +kernel
theorem dX6_inkHalved_12 : decode cX6_inkHalved 12 = .ok (.aload_n 0, 1) := by decide +kernel
theorem dX6_inkHalved_13 : decode cX6_inkHalved 13 = .ok (.getfield 40, 3) := by decide +kernel
theorem dX6_inkHalved_16 : decode cX6_inkHalved 16 = .ok (.iload_n 3, 1) := by decide +kernel
theorem dX6_inkHalved_17 : decode cX6_inkHalved 17 = .ok (.idiv, 1) := by decide +kernel
theorem dX6_inkHalved_18 : decode cX6_inkHalved 18 = .ok (.isub, 1) := by decide +kernel
theorem dX6_inkHalved_19 : decode cX6_inkHalved 19 = .ok (.istore 4, 2) := by decide +kernel
theorem dX6_inkHalved_21 : decode cX6_inkHalved 21 = .ok (.aload_n 0, 1) := by decide +kernel
theorem dX6_inkHalved_22 : decode cX6_inkHalved 22 = .ok (.getfield 9, 3) := by decide +kernel
theorem dX6_inkHalved_25 : decode cX6_inkHalved 25 = .ok (.iload_n 1, 1) := by decide +kernel
theorem dX6_inkHalved_26 : decode cX6_inkHalved 26 = .ok (.iaload, 1) := by decide +kernel
theorem dX6_inkHalved_27 : decode cX6_inkHalved 27 = .ok (.iload 4, 2) := by decide +kernel
theorem dX6_inkHalved_29 : decode cX6_inkHalved 29 = .ok (.bipush 31, 2) := by decide +kernel
theorem dX6_inkHalved_31 : decode cX6_inkHalved 31 = .ok (.invokestatic 81, 3) := by decide +kernel
theorem dX6_inkHalved_34 : decode cX6_inkHalved 34 = .ok (.ishr, 1) := by decide +kernel
theorem dX6_inkHalved_35 : decode cX6_inkHalved 35 = .ok (.ireturn, 1) := by decide +kernel
theorem dX6_hoursToFallBelow_0 : decode cX6_hoursToFallBelow 0 = .ok (.aload_n 0, 1) := by decide +kernel
theorem dX6_hoursToFallBelow_1 : decode cX6_hoursToFallBelow 1 = .ok (.getfield 9, 3) := by decide +kernel
theorem dX6_hoursToFallBelow_4 : decode cX6_hoursToFallBelow 4 = .ok (.iload_n 1, 1) := by decide +kernel
theorem dX6_hoursToFallBelow_5 : decode cX6_hoursToFallBelow 5 = .ok (.iaload, 1) := by decide +kernel
theorem dX6_hoursToFallBelow_6 : decode cX6_hoursToFallBelow 6 = .ok (.istore_n 3, 1) := by decide +kernel
theorem dX6_hoursToFallBelow_7 : decode cX6_hoursToFallBelow 7 = .ok (.iconst 0, 1) := by decide +kernel
theorem dX6_hoursToFallBelow_8 : decode cX6_hoursToFallBelow 8 = .ok (.istore 4, 2) := by decide +kernel
theorem dX6_hoursToFallBelow_10 : decode cX6_hoursToFallBelow 10 = .ok (.iload 4, 2) := by decide +kernel
theorem dX6_hoursToFallBelow_12 : decode cX6_hoursToFallBelow 12 = .ok (.bipush 100, 2) := by decide +kernel
theorem dX6_hoursToFallBelow_14 : decode cX6_hoursToFallBelow 14 = .ok (.if_icmp .ge 27, 3) := by decide +kernel
theorem dX6_hoursToFallBelow_17 : decode cX6_hoursToFallBelow 17 = .ok (.iload_n 3, 1) := by decide +kernel
theorem dX6_hoursToFallBelow_18 : decode cX6_hoursToFallBelow 18 = .ok (.iload_n 2, 1) := by decide +kernel
theorem dX6_hoursToFallBelow_19 : decode cX6_hoursToFallBelow 19 = .ok (.if_icmp .lt 22, 3) := by decide +kernel
theorem dX6_hoursToFallBelow_22 : decode cX6_hoursToFallBelow 22 = .ok (.iinc 4 1, 3) := by decide +kernel
theorem dX6_hoursToFallBelow_25 : decode cX6_hoursToFallBelow 25 = .ok (.iload_n 3, 1) := by decide +kernel
theorem dX6_hoursToFallBelow_26 : decode cX6_hoursToFallBelow 26 = .ok (.iload_n 1, 1) := by decide +kernel
theorem dX6_hoursToFallBelow_27 : decode cX6_hoursToFallBelow 27 = .ok (.aload_n 0, 1) := by decide +kernel
theorem dX6_hoursToFallBelow_28 : decode cX6_hoursToFallBelow 28 = .ok (.getfield 40, 3) := by decide +kernel
theorem dX6_hoursToFallBelow_31 : decode cX6_hoursToFallBelow 31 = .ok (.iload 4, 2) := by decide +kernel
theorem dX6_hoursToFallBelow_33 : decode cX6_hoursToFallBelow 33 = .ok (.iadd, 1) := by decide +kernel
theorem dX6_hoursToFallBelow_34 : decode cX6_hoursToFallBelow 34 = .ok (.invokestatic 77, 3) := by decide +kernel
theorem dX6_hoursToFallBelow_37 : decode cX6_hoursToFallBelow 37 = .ok (.istore_n 3, 1) := by decide +kernel
theorem dX6_hoursToFallBelow_38 : decode cX6_hoursToFallBelow 38 = .ok (.goto (-28), 3) := by decide +kernel
theorem dX6_hoursToFallBelow_41 : decode cX6_hoursToFallBelow 41 = .ok (.iload 4, 2) := by decide +kernel
theorem dX6_hoursToFallBelow_43 : decode cX6_hoursToFallBelow 43 = .ok (.ireturn, 1) := by decide +kernel
theorem dX6_hasEdition_0 : decode cX6_hasEdition 0 = .ok (.iload_n 1, 1) := by decide +kernel
theorem dX6_hasEdition_1 : decode cX6_hasEdition 1 = .ok (.iconst 0, 1) := by decide +kernel
theorem dX6_hasEdition_2 : decode cX6_hasEdition 2 = .ok (.aload_n 0, 1) := by decide +kernel
theorem dX6_hasEdition_3 : decode cX6_hasEdition 3 = .ok (.getfield 30, 3) := by decide +kernel
theorem dX6_hasEdition_6 : decode cX6_hasEdition 6 = .ok (.iconst 1, 1) := by decide +kernel
theorem dX6_hasEdition_7 : decode cX6_hasEdition 7 = .ok (.isub, 1) := by decide +kernel
theorem dX6_hasEdition_8 : decode cX6_hasEdition 8 = .ok (.invokestatic 69, 3) := by decide +kernel
theorem dX6_hasEdition_11 : decode cX6_hasEdition 11 = .ok (.ireturn, 1) := by decide +kernel
theorem dX6_missing_0 : decode cX6_missing 0 = .ok (.aload_n 0, 1) := by decide +kernel
theorem dX6_missing_1 : decode cX6_missing 1 = .ok (.getfield 18, 3) := by decide +kernel
theorem dX6_missing_4 : decode cX6_missing 4 = .ok (.iload_n 1, 1) := by decide +kernel
theorem dX6_missing_5 : decode cX6_missing 5 = .ok (.iaload, 1) := by decide +kernel
theorem dX6_missing_6 : decode cX6_missing 6 = .ok (.aload_n 0, 1) := by decide +kernel
theorem dX6_missing_7 : decode cX6_missing 7 = .ok (.getfield 21, 3) := by decide +kernel
theorem dX6_missing_10 : decode cX6_missing 10 = .ok (.iload_n 1, 1) := by decide +kernel
theorem dX6_missing_11 : decode cX6_missing 11 = .ok (.iaload, 1) := by decide +kernel
theorem dX6_missing_12 : decode cX6_missing 12 = .ok (.isub, 1) := by decide +kernel
theorem dX6_missing_13 : decode cX6_missing 13 = .ok (.ireturn, 1) := by decide +kernel
theorem dX6_takeEdition_0 : decode cX6_takeEdition 0 = .ok (.iload_n 1, 1) := by decide +kernel
theorem dX6_takeEdition_1 : decode cX6_takeEdition 1 = .ok (.invokestatic 65, 3) := by decide +kernel
theorem dX6_takeEdition_4 : decode cX6_takeEdition 4 = .ok (.ifCond .eq 13, 3) := by decide +kernel
theorem dX6_takeEdition_7 : decode cX6_takeEdition 7 = .ok (.iload_n 2, 1) := by decide +kernel
theorem dX6_takeEdition_8 : decode cX6_takeEdition 8 = .ok (.iconst 1, 1) := by decide +kernel
theorem dX6_takeEdition_9 : decode cX6_takeEdition 9 = .ok (.bipush 50, 2) := by decide +kernel
theorem dX6_takeEdition_11 : decode cX6_takeEdition 11 = .ok (.invokestatic 69, 3) := by decide +kernel
theorem dX6_takeEdition_14 : decode cX6_takeEdition 14 = .ok (.ifCond .ne 5, 3) := by decide +kernel
theorem dX6_takeEdition_17 : decode cX6_takeEdition 17 = .ok (.iconst (-1), 1) := by decide +kernel
theorem dX6_takeEdition_18 : decode cX6_takeEdition 18 = .ok (.ireturn, 1) := by decide +kernel
theorem dX6_takeEdition_19 : decode cX6_takeEdition 19 = .ok (.aload_n 0, 1) := by decide +kernel
theorem dX6_takeEdition_20 : decode cX6_takeEdition 20 = .ok (.getfield 30, 3) := by decide +kernel
theorem dX6_takeEdition_23 : decode cX6_takeEdition 23 = .ok (.bipush 7, 2) := by decide +kernel
theorem dX6_takeEdition_25 : decode cX6_takeEdition 25 = .ok (.if_icmp .lt 6, 3) := by decide +kernel
theorem dX6_takeEdition_28 : decode cX6_takeEdition 28 = .ok (.bipush (-2), 2) := by decide +kernel
theorem dX6_takeEdition_30 : decode cX6_takeEdition 30 = .ok (.ireturn, 1) := by decide +kernel
theorem dX6_takeEdition_31 : decode cX6_takeEdition 31 = .ok (.aload_n 0, 1) := by decide +kernel
theorem dX6_takeEdition_32 : decode cX6_takeEdition 32 = .ok (.getfield 30, 3) := by decide +kernel
theorem dX6_takeEdition_35 : decode cX6_takeEdition 35 = .ok (.istore_n 3, 1) := by decide +kernel
theorem dX6_takeEdition_36 : decode cX6_takeEdition 36 = .ok (.aload_n 0, 1) := by decide +kernel
theorem dX6_takeEdition_37 : decode cX6_takeEdition 37 = .ok (.getfield 15, 3) := by decide +kernel
theorem dX6_takeEdition_40 : decode cX6_takeEdition 40 = .ok (.iload_n 3, 1) := by decide +kernel
theorem dX6_takeEdition_41 : decode cX6_takeEdition 41 = .ok (.iload_n 1, 1) := by decide +kernel
theorem dX6_takeEdition_42 : decode cX6_takeEdition 42 = .ok (.iastore, 1) := by decide +kernel
theorem dX6_takeEdition_43 : decode cX6_takeEdition 43 = .ok (.aload_n 0, 1) := by decide +kernel
theorem dX6_takeEdition_44 : decode cX6_takeEdition 44 = .ok (.getfield 18, 3) := by decide +kernel
theorem dX6_takeEdition_47 : decode cX6_takeEdition 47 = .ok (.iload_n 3, 1) := by decide +kernel
theorem dX6_takeEdition_48 : decode cX6_takeEdition 48 = .ok (.iload_n 2, 1) := by decide +kernel
theorem dX6_takeEdition_49 : decode cX6_takeEdition 49 = .ok (.iastore, 1) := by decide +kernel
theorem dX6_takeEdition_50 : decode cX6_takeEdition 50 = .ok (.aload_n 0, 1) := by decide +kernel
theorem dX6_takeEdition_51 : decode cX6_takeEdition 51 = .ok (.getfield 21, 3) := by decide +kernel
theorem dX6_takeEdition_54 : decode cX6_takeEdition 54 = .ok (.iload_n 3, 1) := by decide +kernel
theorem dX6_takeEdition_55 : decode cX6_takeEdition 55 = .ok (.iconst 0, 1) := by decide +kernel
theorem dX6_takeEdition_56 : decode cX6_takeEdition 56 = .ok (.iastore, 1) := by decide +kernel
theorem dX6_takeEdition_57 : decode cX6_takeEdition 57 = .ok (.aload_n 0, 1) := by decide +kernel
theorem dX6_takeEdition_58 : decode cX6_takeEdition 58 = .ok (.dup, 1) := by decide +kernel
theorem dX6_takeEdition_59 : decode cX6_takeEdition 59 = .ok (.getfield 30, 3) := by decide +kernel
theorem dX6_takeEdition_62 : decode cX6_takeEdition 62 = .ok (.iconst 1, 1) := by decide +kernel
theorem dX6_takeEdition_63 : decode cX6_takeEdition 63 = .ok (.iadd, 1) := by decide +kernel
theorem dX6_takeEdition_64 : decode cX6_takeEdition 64 = .ok (.putfield 30, 3) := by decide +kernel
theorem dX6_takeEdition_67 : decode cX6_takeEdition 67 = .ok (.iload_n 3, 1) := by decide +kernel
theorem dX6_takeEdition_68 : decode cX6_takeEdition 68 = .ok (.ireturn, 1) := by decide +kernel
theorem dX6_strikeEdition_0 : decode cX6_strikeEdition 0 = .ok (.aload_n 0, 1) := by decide +kernel
theorem dX6_strikeEdition_1 : decode cX6_strikeEdition 1 = .ok (.iload_n 1, 1) := by decide +kernel
theorem dX6_strikeEdition_2 : decode cX6_strikeEdition 2 = .ok (.invokevirtual 87, 3) := by decide +kernel
theorem dX6_strikeEdition_5 : decode cX6_strikeEdition 5 = .ok (.ifCond .ne 6, 3) := by decide +kernel
theorem dX6_strikeEdition_8 : decode cX6_strikeEdition 8 = .ok (.bipush (-3), 2) := by decide +kernel
theorem dX6_strikeEdition_10 : decode cX6_strikeEdition 10 = .ok (.ireturn, 1) := by decide +kernel
theorem dX6_strikeEdition_11 : decode cX6_strikeEdition 11 = .ok (.aload_n 0, 1) := by decide +kernel
theorem dX6_strikeEdition_12 : decode cX6_strikeEdition 12 = .ok (.getfield 15, 3) := by decide +kernel
theorem dX6_strikeEdition_15 : decode cX6_strikeEdition 15 = .ok (.iload_n 1, 1) := by decide +kernel
theorem dX6_strikeEdition_16 : decode cX6_strikeEdition 16 = .ok (.aload_n 0, 1) := by decide +kernel
theorem dX6_strikeEdition_17 : decode cX6_strikeEdition 17 = .ok (.getfield 30, 3) := by decide +kernel
theorem dX6_strikeEdition_20 : decode cX6_strikeEdition 20 = .ok (.invokestatic 90, 3) := by decide +kernel
theorem dX6_strikeEdition_23 : decode cX6_strikeEdition 23 = .ok (.aload_n 0, 1) := by decide +kernel
theorem dX6_strikeEdition_24 : decode cX6_strikeEdition 24 = .ok (.getfield 18, 3) := by decide +kernel
theorem dX6_strikeEdition_27 : decode cX6_strikeEdition 27 = .ok (.iload_n 1, 1) := by decide +kernel
theorem dX6_strikeEdition_28 : decode cX6_strikeEdition 28 = .ok (.aload_n 0, 1) := by decide +kernel
theorem dX6_strikeEdition_29 : decode cX6_strikeEdition 29 = .ok (.getfield 30, 3) := by decide +kernel
theorem dX6_strikeEdition_32 : decode cX6_strikeEdition 32 = .ok (.invokestatic 90, 3) := by decide +kernel
theorem dX6_strikeEdition_35 : decode cX6_strikeEdition 35 = .ok (.aload_n 0, 1) := by decide +kernel
theorem dX6_strikeEdition_36 : decode cX6_strikeEdition 36 = .ok (.getfield 21, 3) := by decide +kernel
theorem dX6_strikeEdition_39 : decode cX6_strikeEdition 39 = .ok (.iload_n 1, 1) := by decide +kernel
theorem dX6_strikeEdition_40 : decode cX6_strikeEdition 40 = .ok (.aload_n 0, 1) := by decide +kernel
theorem dX6_strikeEdition_41 : decode cX6_strikeEdition 41 = .ok (.getfield 30, 3) := by decide +kernel
theorem dX6_strikeEdition_44 : decode cX6_strikeEdition 44 = .ok (.invokestatic 90, 3) := by decide +kernel
theorem dX6_strikeEdition_47 : decode cX6_strikeEdition 47 = .ok (.aload_n 0, 1) := by decide +kernel
theorem dX6_strikeEdition_48 : decode cX6_strikeEdition 48 = .ok (.dup, 1) := by decide +kernel
theorem dX6_strikeEdition_49 : decode cX6_strikeEdition 49 = .ok (.getfield 30, 3) := by decide +kernel
theorem dX6_strikeEdition_52 : decode cX6_strikeEdition 52 = .ok (.iconst 1, 1) := by decide +kernel
theorem dX6_strikeEdition_53 : decode cX6_strikeEdition 53 = .ok (.isub, 1) := by decide +kernel
theorem dX6_strikeEdition_54 : decode cX6_strikeEdition 54 = .ok (.putfield 30, 3) := by decide +kernel
theorem dX6_strikeEdition_57 : decode cX6_strikeEdition 57 = .ok (.aload_n 0, 1) := by decide +kernel
theorem dX6_strikeEdition_58 : decode cX6_strikeEdition 58 = .ok (.getfield 30, 3) := by decide +kernel
theorem dX6_strikeEdition_61 : decode cX6_strikeEdition 61 = .ok (.ireturn, 1) := by decide +kernel
theorem dX6_printOne_0 : decode cX6_printOne 0 = .ok (.aload_n 0, 1) := by decide +kernel
theorem dX6_printOne_1 : decode cX6_printOne 1 = .ok (.iload_n 1, 1) := by decide +kernel
theorem dX6_printOne_2 : decode cX6_printOne 2 = .ok (.invokevirtual 87, 3) := by decide +kernel
theorem dX6_printOne_5 : decode cX6_printOne 5 = .ok (.ifCond .ne 6, 3) := by decide +kernel
theorem dX6_printOne_8 : decode cX6_printOne 8 = .ok (.bipush (-3), 2) := by decide +kernel
theorem dX6_printOne_10 : decode cX6_printOne 10 = .ok (.ireturn, 1) := by decide +kernel
theorem dX6_printOne_11 : decode cX6_printOne 11 = .ok (.aload_n 0, 1) := by decide +kernel
theorem dX6_printOne_12 : decode cX6_printOne 12 = .ok (.iload_n 1, 1) := by decide +kernel
theorem dX6_printOne_13 : decode cX6_printOne 13 = .ok (.invokevirtual 94, 3) := by decide +kernel
theorem dX6_printOne_16 : decode cX6_printOne 16 = .ok (.ifCond .ne 6, 3) := by decide +kernel
theorem dX6_printOne_19 : decode cX6_printOne 19 = .ok (.bipush (-2), 2) := by decide +kernel
theorem dX6_printOne_21 : decode cX6_printOne 21 = .ok (.ireturn, 1) := by decide +kernel
theorem dX6_printOne_22 : decode cX6_printOne 22 = .ok (.aload_n 0, 1) := by decide +kernel
theorem dX6_printOne_23 : decode cX6_printOne 23 = .ok (.iload_n 1, 1) := by decide +kernel
theorem dX6_printOne_24 : decode cX6_printOne 24 = .ok (.aload_n 0, 1) := by decide +kernel
theorem dX6_printOne_25 : decode cX6_printOne 25 = .ok (.iload_n 1, 1) := by decide +kernel
theorem dX6_printOne_26 : decode cX6_printOne 26 = .ok (.invokevirtual 94, 3) := by decide +kernel
theorem dX6_printOne_29 : decode cX6_printOne 29 = .ok (.aload_n 0, 1) := by decide +kernel
theorem dX6_printOne_30 : decode cX6_printOne 30 = .ok (.getfield 37, 3) := by decide +kernel
theorem dX6_printOne_33 : decode cX6_printOne 33 = .ok (.invokestatic 81, 3) := by decide +kernel
theorem dX6_printOne_36 : decode cX6_printOne 36 = .ok (.invokevirtual 98, 3) := by decide +kernel
theorem dX6_printOne_39 : decode cX6_printOne 39 = .ok (.istore_n 2, 1) := by decide +kernel
theorem dX6_printOne_40 : decode cX6_printOne 40 = .ok (.iload_n 2, 1) := by decide +kernel
theorem dX6_printOne_41 : decode cX6_printOne 41 = .ok (.ifCond .ne 8, 3) := by decide +kernel
theorem dX6_printOne_44 : decode cX6_printOne 44 = .ok (.bipush (-4), 2) := by decide +kernel
theorem dX6_printOne_46 : decode cX6_printOne 46 = .ok (.goto 4, 3) := by decide +kernel
theorem dX6_printOne_49 : decode cX6_printOne 49 = .ok (.iload_n 2, 1) := by decide +kernel
theorem dX6_printOne_50 : decode cX6_printOne 50 = .ok (.ireturn, 1) := by decide +kernel
theorem dX6_printUpTo_0 : decode cX6_printUpTo 0 = .ok (.aload_n 0, 1) := by decide +kernel
theorem dX6_printUpTo_1 : decode cX6_printUpTo 1 = .ok (.getfield 15, 3) := by decide +kernel
theorem dX6_printUpTo_4 : decode cX6_printUpTo 4 = .ok (.iload_n 1, 1) := by decide +kernel
theorem dX6_printUpTo_5 : decode cX6_printUpTo 5 = .ok (.iaload, 1) := by decide +kernel
theorem dX6_printUpTo_6 : decode cX6_printUpTo 6 = .ok (.istore_n 3, 1) := by decide +kernel
theorem dX6_printUpTo_7 : decode cX6_printUpTo 7 = .ok (.iload_n 2, 1) := by decide +kernel
theorem dX6_printUpTo_8 : decode cX6_printUpTo 8 = .ok (.aload_n 0, 1) := by decide +kernel
theorem dX6_printUpTo_9 : decode cX6_printUpTo 9 = .ok (.getfield 9, 3) := by decide +kernel
theorem dX6_printUpTo_12 : decode cX6_printUpTo 12 = .ok (.iload_n 3, 1) := by decide +kernel
theorem dX6_printUpTo_13 : decode cX6_printUpTo 13 = .ok (.iaload, 1) := by decide +kernel
theorem dX6_printUpTo_14 : decode cX6_printUpTo 14 = .ok (.invokestatic 81, 3) := by decide +kernel
theorem dX6_printUpTo_17 : decode cX6_printUpTo 17 = .ok (.istore 4, 2) := by decide +kernel
theorem dX6_printUpTo_19 : decode cX6_printUpTo 19 = .ok (.iload 4, 2) := by decide +kernel
theorem dX6_printUpTo_21 : decode cX6_printUpTo 21 = .ok (.ifCond .ne 5, 3) := by decide +kernel
theorem dX6_printUpTo_24 : decode cX6_printUpTo 24 = .ok (.iconst 0, 1) := by decide +kernel
theorem dX6_printUpTo_25 : decode cX6_printUpTo 25 = .ok (.ireturn, 1) := by decide +kernel
theorem dX6_printUpTo_26 : decode cX6_printUpTo 26 = .ok (.aload_n 0, 1) := by decide +kernel
theorem dX6_printUpTo_27 : decode cX6_printUpTo 27 = .ok (.dup, 1) := by decide +kernel
theorem dX6_printUpTo_28 : decode cX6_printUpTo 28 = .ok (.getfield 46, 3) := by decide +kernel
theorem dX6_printUpTo_31 : decode cX6_printUpTo 31 = .ok (.aload_n 0, 1) := by decide +kernel
theorem dX6_printUpTo_32 : decode cX6_printUpTo 32 = .ok (.getfield 43, 3) := by decide +kernel
theorem dX6_printUpTo_35 : decode cX6_printUpTo 35 = .ok (.iload_n 3, 1) := by decide +kernel
theorem dX6_printUpTo_36 : decode cX6_printUpTo 36 = .ok (.invokestatic 101, 3) := by decide +kernel
theorem dX6_printUpTo_39 : decode cX6_printUpTo 39 = .ok (.iload 4, 2) := by decide +kernel
theorem dX6_printUpTo_41 : decode cX6_printUpTo 41 = .ok (.iadd, 1) := by decide +kernel
theorem dX6_printUpTo_42 : decode cX6_printUpTo 42 = .ok (.iadd, 1) := by decide +kernel
theorem dX6_printUpTo_43 : decode cX6_printUpTo 43 = .ok (.putfield 46, 3) := by decide +kernel
theorem dX6_printUpTo_46 : decode cX6_printUpTo 46 = .ok (.aload_n 0, 1) := by decide +kernel
theorem dX6_printUpTo_47 : decode cX6_printUpTo 47 = .ok (.iload_n 3, 1) := by decide +kernel
theorem dX6_printUpTo_48 : decode cX6_printUpTo 48 = .ok (.putfield 43, 3) := by decide +kernel
theorem dX6_printUpTo_51 : decode cX6_printUpTo 51 = .ok (.aload_n 0, 1) := by decide +kernel
theorem dX6_printUpTo_52 : decode cX6_printUpTo 52 = .ok (.getfield 21, 3) := by decide +kernel
theorem dX6_printUpTo_55 : decode cX6_printUpTo 55 = .ok (.iload_n 1, 1) := by decide +kernel
theorem dX6_printUpTo_56 : decode cX6_printUpTo 56 = .ok (.dup2, 1) := by decide +kernel
theorem dX6_printUpTo_57 : decode cX6_printUpTo 57 = .ok (.iaload, 1) := by decide +kernel
theorem dX6_printUpTo_58 : decode cX6_printUpTo 58 = .ok (.iload 4, 2) := by decide +kernel
theorem dX6_printUpTo_60 : decode cX6_printUpTo 60 = .ok (.iadd, 1) := by decide +kernel
theorem dX6_printUpTo_61 : decode cX6_printUpTo 61 = .ok (.iastore, 1) := by decide +kernel
theorem dX6_printUpTo_62 : decode cX6_printUpTo 62 = .ok (.aload_n 0, 1) := by decide +kernel
theorem dX6_printUpTo_63 : decode cX6_printUpTo 63 = .ok (.dup, 1) := by decide +kernel
theorem dX6_printUpTo_64 : decode cX6_printUpTo 64 = .ok (.getfield 37, 3) := by decide +kernel
theorem dX6_printUpTo_67 : decode cX6_printUpTo 67 = .ok (.iload 4, 2) := by decide +kernel
theorem dX6_printUpTo_69 : decode cX6_printUpTo 69 = .ok (.isub, 1) := by decide +kernel
theorem dX6_printUpTo_70 : decode cX6_printUpTo 70 = .ok (.putfield 37, 3) := by decide +kernel
theorem dX6_printUpTo_73 : decode cX6_printUpTo 73 = .ok (.aload_n 0, 1) := by decide +kernel
theorem dX6_printUpTo_74 : decode cX6_printUpTo 74 = .ok (.getfield 9, 3) := by decide +kernel
theorem dX6_printUpTo_77 : decode cX6_printUpTo 77 = .ok (.iload_n 3, 1) := by decide +kernel
theorem dX6_printUpTo_78 : decode cX6_printUpTo 78 = .ok (.dup2, 1) := by decide +kernel
theorem dX6_printUpTo_79 : decode cX6_printUpTo 79 = .ok (.iaload, 1) := by decide +kernel
theorem dX6_printUpTo_80 : decode cX6_printUpTo 80 = .ok (.iload 4, 2) := by decide +kernel
theorem dX6_printUpTo_82 : decode cX6_printUpTo 82 = .ok (.isub, 1) := by decide +kernel
theorem dX6_printUpTo_83 : decode cX6_printUpTo 83 = .ok (.iastore, 1) := by decide +kernel
theorem dX6_printUpTo_84 : decode cX6_printUpTo 84 = .ok (.aload_n 0, 1) := by decide +kernel
theorem dX6_printUpTo_85 : decode cX6_printUpTo 85 = .ok (.dup, 1) := by decide +kernel
theorem dX6_printUpTo_86 : decode cX6_printUpTo 86 = .ok (.getfield 52, 3) := by decide +kernel
theorem dX6_printUpTo_89 : decode cX6_printUpTo 89 = .ok (.iload 4, 2) := by decide +kernel
theorem dX6_printUpTo_91 : decode cX6_printUpTo 91 = .ok (.iadd, 1) := by decide +kernel
theorem dX6_printUpTo_92 : decode cX6_printUpTo 92 = .ok (.putfield 52, 3) := by decide +kernel
theorem dX6_printUpTo_95 : decode cX6_printUpTo 95 = .ok (.iload 4, 2) := by decide +kernel
theorem dX6_printUpTo_97 : decode cX6_printUpTo 97 = .ok (.ireturn, 1) := by decide +kernel
theorem dX6_editionOfRank_0 : decode cX6_editionOfRank 0 = .ok (.iconst 0, 1) := by decide +kernel
theorem dX6_editionOfRank_1 : decode cX6_editionOfRank 1 = .ok (.istore_n 2, 1) := by decide +kernel
theorem dX6_editionOfRank_2 : decode cX6_editionOfRank 2 = .ok (.iload_n 2, 1) := by decide +kernel
theorem dX6_editionOfRank_3 : decode cX6_editionOfRank 3 = .ok (.aload_n 0, 1) := by decide +kernel
theorem dX6_editionOfRank_4 : decode cX6_editionOfRank 4 = .ok (.getfield 30, 3) := by decide +kernel
theorem dX6_editionOfRank_7 : decode cX6_editionOfRank 7 = .ok (.if_icmp .ge 20, 3) := by decide +kernel
theorem dX6_editionOfRank_10 : decode cX6_editionOfRank 10 = .ok (.aload_n 0, 1) := by decide +kernel
theorem dX6_editionOfRank_11 : decode cX6_editionOfRank 11 = .ok (.iload_n 2, 1) := by decide +kernel
theorem dX6_editionOfRank_12 : decode cX6_editionOfRank 12 = .ok (.invokevirtual 104, 3) := by decide +kernel
theorem dX6_editionOfRank_15 : decode cX6_editionOfRank 15 = .ok (.iload_n 1, 1) := by decide +kernel
theorem dX6_editionOfRank_16 : decode cX6_editionOfRank 16 = .ok (.if_icmp .ne 5, 3) := by decide +kernel
theorem dX6_editionOfRank_19 : decode cX6_editionOfRank 19 = .ok (.iload_n 2, 1) := by decide +kernel
theorem dX6_editionOfRank_20 : decode cX6_editionOfRank 20 = .ok (.ireturn, 1) := by decide +kernel
theorem dX6_editionOfRank_21 : decode cX6_editionOfRank 21 = .ok (.iinc 2 1, 3) := by decide +kernel
theorem dX6_editionOfRank_24 : decode cX6_editionOfRank 24 = .ok (.goto (-22), 3) := by decide +kernel
theorem dX6_editionOfRank_27 : decode cX6_editionOfRank 27 = .ok (.iconst (-1), 1) := by decide +kernel
theorem dX6_editionOfRank_28 : decode cX6_editionOfRank 28 = .ok (.ireturn, 1) := by decide +kernel
theorem dX6_rankOf_0 : decode cX6_rankOf 0 = .ok (.iconst 0, 1) := by decide +kernel
theorem dX6_rankOf_1 : decode cX6_rankOf 1 = .ok (.istore_n 2, 1) := by decide +kernel
theorem dX6_rankOf_2 : decode cX6_rankOf 2 = .ok (.iconst 0, 1) := by decide +kernel
theorem dX6_rankOf_3 : decode cX6_rankOf 3 = .ok (.istore_n 3, 1) := by decide +kernel
theorem dX6_rankOf_4 : decode cX6_rankOf 4 = .ok (.iload_n 3, 1) := by decide +kernel
theorem dX6_rankOf_5 : decode cX6_rankOf 5 = .ok (.aload_n 0, 1) := by decide +kernel
theorem dX6_rankOf_6 : decode cX6_rankOf 6 = .ok (.getfield 30, 3) := by decide +kernel
theorem dX6_rankOf_9 : decode cX6_rankOf 9 = .ok (.if_icmp .ge 40, 3) := by decide +kernel
theorem dX6_rankOf_12 : decode cX6_rankOf 12 = .ok (.aload_n 0, 1) := by decide +kernel
theorem dX6_rankOf_13 : decode cX6_rankOf 13 = .ok (.iload_n 3, 1) := by decide +kernel
theorem dX6_rankOf_14 : decode cX6_rankOf 14 = .ok (.invokevirtual 94, 3) := by decide +kernel
theorem dX6_rankOf_17 : decode cX6_rankOf 17 = .ok (.aload_n 0, 1) := by decide +kernel
theorem dX6_rankOf_18 : decode cX6_rankOf 18 = .ok (.iload_n 1, 1) := by decide +kernel
theorem dX6_rankOf_19 : decode cX6_rankOf 19 = .ok (.invokevirtual 94, 3) := by decide +kernel
theorem dX6_rankOf_22 : decode cX6_rankOf 22 = .ok (.isub, 1) := by decide +kernel
theorem dX6_rankOf_23 : decode cX6_rankOf 23 = .ok (.istore 4, 2) := by decide +kernel
theorem dX6_rankOf_25 : decode cX6_rankOf 25 = .ok (.iload 4, 2) := by decide +kernel
theorem dX6_rankOf_27 : decode cX6_rankOf 27 = .ok (.ifCond .gt 13, 3) := by decide +kernel
theorem dX6_rankOf_30 : decode cX6_rankOf 30 = .ok (.iload 4, 2) := by decide +kernel
theorem dX6_rankOf_32 : decode cX6_rankOf 32 = .ok (.ifCond .ne 11, 3) := by decide +kernel
theorem dX6_rankOf_35 : decode cX6_rankOf 35 = .ok (.iload_n 3, 1) := by decide +kernel
theorem dX6_rankOf_36 : decode cX6_rankOf 36 = .ok (.iload_n 1, 1) := by decide +kernel
theorem dX6_rankOf_37 : decode cX6_rankOf 37 = .ok (.if_icmp .ge 6, 3) := by decide +kernel
theorem dX6_rankOf_40 : decode cX6_rankOf 40 = .ok (.iinc 2 1, 3) := by decide +kernel
theorem dX6_rankOf_43 : decode cX6_rankOf 43 = .ok (.iinc 3 1, 3) := by decide +kernel
theorem dX6_rankOf_46 : decode cX6_rankOf 46 = .ok (.goto (-42), 3) := by decide +kernel
theorem dX6_rankOf_49 : decode cX6_rankOf 49 = .ok (.iload_n 2, 1) := by decide +kernel
theorem dX6_rankOf_50 : decode cX6_rankOf 50 = .ok (.ireturn, 1) := by decide +kernel
theorem dX6_hasProof_0 : decode cX6_hasProof 0 = .ok (.iload_n 1, 1) := by decide +kernel
theorem dX6_hasProof_1 : decode cX6_hasProof 1 = .ok (.iconst 0, 1) := by decide +kernel
theorem dX6_hasProof_2 : decode cX6_hasProof 2 = .ok (.aload_n 0, 1) := by decide +kernel
theorem dX6_hasProof_3 : decode cX6_hasProof 3 = .ok (.getfield 34, 3) := by decide +kernel
theorem dX6_hasProof_6 : decode cX6_hasProof 6 = .ok (.iconst 1, 1) := by decide +kernel
theorem dX6_hasProof_7 : decode cX6_hasProof 7 = .ok (.isub, 1) := by decide +kernel
theorem dX6_hasProof_8 : decode cX6_hasProof 8 = .ok (.invokestatic 69, 3) := by decide +kernel
theorem dX6_hasProof_11 : decode cX6_hasProof 11 = .ok (.ireturn, 1) := by decide +kernel
theorem dX6_makeProof_0 : decode cX6_makeProof 0 = .ok (.iload_n 1, 1) := by decide +kernel
theorem dX6_makeProof_1 : decode cX6_makeProof 1 = .ok (.iconst 0, 1) := by decide +kernel
theorem dX6_makeProof_2 : decode cX6_makeProof 2 = .ok (.bipush 99, 2) := by decide +kernel
theorem dX6_makeProof_4 : decode cX6_makeProof 4 = .ok (.invokestatic 69, 3) := by decide +kernel
theorem dX6_makeProof_7 : decode cX6_makeProof 7 = .ok (.ifCond .ne 5, 3) := by decide +kernel
theorem dX6_makeProof_10 : decode cX6_makeProof 10 = .ok (.iconst (-1), 1) := by decide +kernel
theorem dX6_makeProof_11 : decode cX6_makeProof 11 = .ok (.ireturn, 1) := by decide +kernel
theorem dX6_makeProof_12 : decode cX6_makeProof 12 = .ok (.aload_n 0, 1) := by decide +kernel
theorem dX6_makeProof_13 : decode cX6_makeProof 13 = .ok (.getfield 34, 3) := by decide +kernel
theorem dX6_makeProof_16 : decode cX6_makeProof 16 = .ok (.bipush 12, 2) := by decide +kernel
theorem dX6_makeProof_18 : decode cX6_makeProof 18 = .ok (.if_icmp .lt 6, 3) := by decide +kernel
theorem dX6_makeProof_21 : decode cX6_makeProof 21 = .ok (.bipush (-2), 2) := by decide +kernel
theorem dX6_makeProof_23 : decode cX6_makeProof 23 = .ok (.ireturn, 1) := by decide +kernel
theorem dX6_makeProof_24 : decode cX6_makeProof 24 = .ok (.aload_n 0, 1) := by decide +kernel
theorem dX6_makeProof_25 : decode cX6_makeProof 25 = .ok (.getfield 34, 3) := by decide +kernel
theorem dX6_makeProof_28 : decode cX6_makeProof 28 = .ok (.istore_n 2, 1) := by decide +kernel
theorem dX6_makeProof_29 : decode cX6_makeProof 29 = .ok (.aload_n 0, 1) := by decide +kernel
theorem dX6_makeProof_30 : decode cX6_makeProof 30 = .ok (.getfield 24, 3) := by decide +kernel
theorem dX6_makeProof_33 : decode cX6_makeProof 33 = .ok (.iload_n 2, 1) := by decide +kernel
theorem dX6_makeProof_34 : decode cX6_makeProof 34 = .ok (.iload_n 1, 1) := by decide +kernel
theorem dX6_makeProof_35 : decode cX6_makeProof 35 = .ok (.iastore, 1) := by decide +kernel
theorem dX6_makeProof_36 : decode cX6_makeProof 36 = .ok (.aload_n 0, 1) := by decide +kernel
theorem dX6_makeProof_37 : decode cX6_makeProof 37 = .ok (.getfield 27, 3) := by decide +kernel
theorem dX6_makeProof_40 : decode cX6_makeProof 40 = .ok (.iload_n 2, 1) := by decide +kernel
theorem dX6_makeProof_41 : decode cX6_makeProof 41 = .ok (.aload_n 0, 1) := by decide +kernel
theorem dX6_makeProof_42 : decode cX6_makeProof 42 = .ok (.getfield 40, 3) := by decide +kernel
theorem dX6_makeProof_45 : decode cX6_makeProof 45 = .ok (.iastore, 1) := by decide +kernel
theorem dX6_makeProof_46 : decode cX6_makeProof 46 = .ok (.aload_n 0, 1) := by decide +kernel
theorem dX6_makeProof_47 : decode cX6_makeProof 47 = .ok (.dup, 1) := by decide +kernel
theorem dX6_makeProof_48 : decode cX6_makeProof 48 = .ok (.getfield 34, 3) := by decide +kernel
theorem dX6_makeProof_51 : decode cX6_makeProof 51 = .ok (.iconst 1, 1) := by decide +kernel
theorem dX6_makeProof_52 : decode cX6_makeProof 52 = .ok (.iadd, 1) := by decide +kernel
theorem dX6_makeProof_53 : decode cX6_makeProof 53 = .ok (.putfield 34, 3) := by decide +kernel
theorem dX6_makeProof_56 : decode cX6_makeProof 56 = .ok (.iload_n 2, 1) := by decide +kernel
theorem dX6_makeProof_57 : decode cX6_makeProof 57 = .ok (.ireturn, 1) := by decide +kernel
theorem dX6_discardProof_0 : decode cX6_discardProof 0 = .ok (.aload_n 0, 1) := by decide +kernel
theorem dX6_discardProof_1 : decode cX6_discardProof 1 = .ok (.iload_n 1, 1) := by decide +kernel
theorem dX6_discardProof_2 : decode cX6_discardProof 2 = .ok (.invokevirtual 107, 3) := by decide +kernel
theorem dX6_discardProof_5 : decode cX6_discardProof 5 = .ok (.ifCond .ne 6, 3) := by decide +kernel
theorem dX6_discardProof_8 : decode cX6_discardProof 8 = .ok (.bipush (-3), 2) := by decide +kernel
theorem dX6_discardProof_10 : decode cX6_discardProof 10 = .ok (.ireturn, 1) := by decide +kernel
theorem dX6_discardProof_11 : decode cX6_discardProof 11 = .ok (.aload_n 0, 1) := by decide +kernel
theorem dX6_discardProof_12 : decode cX6_discardProof 12 = .ok (.getfield 24, 3) := by decide +kernel
theorem dX6_discardProof_15 : decode cX6_discardProof 15 = .ok (.iload_n 1, 1) := by decide +kernel
theorem dX6_discardProof_16 : decode cX6_discardProof 16 = .ok (.aload_n 0, 1) := by decide +kernel
theorem dX6_discardProof_17 : decode cX6_discardProof 17 = .ok (.getfield 34, 3) := by decide +kernel
theorem dX6_discardProof_20 : decode cX6_discardProof 20 = .ok (.invokestatic 90, 3) := by decide +kernel
theorem dX6_discardProof_23 : decode cX6_discardProof 23 = .ok (.aload_n 0, 1) := by decide +kernel
theorem dX6_discardProof_24 : decode cX6_discardProof 24 = .ok (.getfield 27, 3) := by decide +kernel
theorem dX6_discardProof_27 : decode cX6_discardProof 27 = .ok (.iload_n 1, 1) := by decide +kernel
theorem dX6_discardProof_28 : decode cX6_discardProof 28 = .ok (.aload_n 0, 1) := by decide +kernel
theorem dX6_discardProof_29 : decode cX6_discardProof 29 = .ok (.getfield 34, 3) := by decide +kernel
theorem dX6_discardProof_32 : decode cX6_discardProof 32 = .ok (.invokestatic 90, 3) := by decide +kernel
theorem dX6_discardProof_35 : decode cX6_discardProof 35 = .ok (.aload_n 0, 1) := by decide +kernel
theorem dX6_discardProof_36 : decode cX6_discardProof 36 = .ok (.dup, 1) := by decide +kernel
theorem dX6_discardProof_37 : decode cX6_discardProof 37 = .ok (.getfield 34, 3) := by decide +kernel
theorem dX6_discardProof_40 : decode cX6_discardProof 40 = .ok (.iconst 1, 1) := by decide +kernel
theorem dX6_discardProof_41 : decode cX6_discardProof 41 = .ok (.isub, 1) := by decide +kernel
theorem dX6_discardProof_42 : decode cX6_discardProof 42 = .ok (.putfield 34, 3) := by decide +kernel
theorem dX6_discardProof_45 : decode cX6_discardProof 45 = .ok (.aload_n 0, 1) := by decide +kernel
theorem dX6_discardProof_46 : decode cX6_discardProof 46 = .ok (.getfield 34, 3) := by decide +kernel
theorem dX6_discardProof_49 : decode cX6_discardProof 49 = .ok (.ireturn, 1) := by decide +kernel
theorem dX6_closeGap_0 : decode cX6_closeGap 0 = .ok (.iload_n 1, 1) := by decide +kernel
theorem dX6_closeGap_1 : decode cX6_closeGap 1 = .ok (.istore_n 3, 1) := by decide +kernel
theorem dX6_closeGap_2 : decode cX6_closeGap 2 = .ok (.iload_n 3, 1) := by decide +kernel
theorem dX6_closeGap_3 : decode cX6_closeGap 3 = .ok (.iload_n 2, 1) := by decide +kernel
theorem dX6_closeGap_4 : decode cX6_closeGap 4 = .ok (.iconst 1, 1) := by decide +kernel
theorem dX6_closeGap_5 : decode cX6_closeGap 5 = .ok (.isub, 1) := by decide +kernel
theorem dX6_closeGap_6 : decode cX6_closeGap 6 = .ok (.if_icmp .ge 17, 3) := by decide +kernel
theorem dX6_closeGap_9 : decode cX6_closeGap 9 = .ok (.aload_n 0, 1) := by decide +kernel
theorem dX6_closeGap_10 : decode cX6_closeGap 10 = .ok (.iload_n 3, 1) := by decide +kernel
theorem dX6_closeGap_11 : decode cX6_closeGap 11 = .ok (.aload_n 0, 1) := by decide +kernel
theorem dX6_closeGap_12 : decode cX6_closeGap 12 = .ok (.iload_n 3, 1) := by decide +kernel
theorem dX6_closeGap_13 : decode cX6_closeGap 13 = .ok (.iconst 1, 1) := by decide +kernel
theorem dX6_closeGap_14 : decode cX6_closeGap 14 = .ok (.iadd, 1) := by decide +kernel
theorem dX6_closeGap_15 : decode cX6_closeGap 15 = .ok (.iaload, 1) := by decide +kernel
theorem dX6_closeGap_16 : decode cX6_closeGap 16 = .ok (.iastore, 1) := by decide +kernel
theorem dX6_closeGap_17 : decode cX6_closeGap 17 = .ok (.iinc 3 1, 3) := by decide +kernel
theorem dX6_closeGap_20 : decode cX6_closeGap 20 = .ok (.goto (-18), 3) := by decide +kernel
theorem dX6_closeGap_23 : decode cX6_closeGap 23 = .ok (.return_, 1) := by decide +kernel
theorem dX7_init_0 : decode cX7_init 0 = .ok (.aload_n 0, 1) := by decide +kernel
theorem dX7_init_1 : decode cX7_init 1 = .ok (.invokespecial 3, 3) := by decide +kernel
theorem dX7_init_4 : decode cX7_init 4 = .ok (.aload_n 0, 1) := by decide +kernel
theorem dX7_init_5 : decode cX7_init 5 = .ok (.new 9, 3) := by decide +kernel
theorem dX7_init_8 : decode cX7_init 8 = .ok (.dup, 1) := by decide +kernel
theorem dX7_init_9 : decode cX7_init 9 = .ok (.invokespecial 11, 3) := by decide +kernel
theorem dX7_init_12 : decode cX7_init 12 = .ok (.putfield 12, 3) := by decide +kernel
theorem dX7_init_15 : decode cX7_init 15 = .ok (.aload_n 0, 1) := by decide +kernel
theorem dX7_init_16 : decode cX7_init 16 = .ok (.new 9, 3) := by decide +kernel
theorem dX7_init_19 : decode cX7_init 19 = .ok (.dup, 1) := by decide +kernel
theorem dX7_init_20 : decode cX7_init 20 = .ok (.invokespecial 11, 3) := by decide +kernel
theorem dX7_init_23 : decode cX7_init 23 = .ok (.putfield 16, 3) := by decide +kernel
theorem dX7_init_26 : decode cX7_init 26 = .ok (.aload_n 0, 1) := by decide +kernel
theorem dX7_init_27 : decode cX7_init 27 = .ok (.new 19, 3) := by decide +kernel
theorem dX7_init_30 : decode cX7_init 30 = .ok (.dup, 1) := by decide +kernel
theorem dX7_init_31 : decode cX7_init 31 = .ok (.invokespecial 21, 3) := by decide +kernel
theorem dX7_init_34 : decode cX7_init 34 = .ok (.putfield 22, 3) := by decide +kernel
theorem dX7_init_37 : decode cX7_init 37 = .ok (.aload_n 0, 1) := by decide +kernel
theorem dX7_init_38 : decode cX7_init 38 = .ok (.new 26, 3) := by decide +kernel
theorem dX7_init_41 : decode cX7_init 41 = .ok (.dup, 1) := by decide +kernel
theorem dX7_init_42 : decode cX7_init 42 = .ok (.invokespecial 28, 3) := by decide +kernel
theorem dX7_init_45 : decode cX7_init 45 = .ok (.putfield 29, 3) := by decide +kernel
theorem dX7_init_48 : decode cX7_init 48 = .ok (.aload_n 0, 1) := by decide +kernel
theorem dX7_init_49 : decode cX7_init 49 = .ok (.new 33, 3) := by decide +kernel
theorem dX7_init_52 : decode cX7_init 52 = .ok (.dup, 1) := by decide +kernel
theorem dX7_init_53 : decode cX7_init 53 = .ok (.invokespecial 35, 3) := by decide +kernel
theorem dX7_init_56 : decode cX7_init 56 = .ok (.putfield 36, 3) := by decide +kernel
theorem dX7_init_59 : decode cX7_init 59 = .ok (.aload_n 0, 1) := by decide +kernel
theorem dX7_init_60 : decode cX7_init 60 = .ok (.new 40, 3) := by decide +kernel
theorem dX7_init_63 : decode cX7_init 63 = .ok (.dup, 1) := by decide +kernel
theorem dX7_init_64 : decode cX7_init 64 = .ok (.invokespecial 42, 3) := by decide +kernel
theorem dX7_init_67 : decode cX7_init 67 = .ok (.putfield 43, 3) := by decide +kernel
theorem dX7_init_70 : decode cX7_init 70 = .ok (.aload_n 0, 1) := by decide +kernel
theorem dX7_init_71 : decode cX7_init 71 = .ok (.new 47, 3) := by decide +kernel
theorem dX7_init_74 : decode cX7_init 74 = .ok (.dup, 1) := by decide +kernel
theorem dX7_init_75 : decode cX7_init 75 = .ok (.invokespecial 49, 3) := by decide +kernel
theorem dX7_init_78 : decode cX7_init 78 = .ok (.putfield 50, 3) := by decide +kernel
theorem dX7_init_81 : decode cX7_init 81 = .ok (.aload_n 0, 1) := by decide +kernel
theorem dX7_init_82 : decode cX7_init 82 = .ok (.new 54, 3) := by decide +kernel
theorem dX7_init_85 : decode cX7_init 85 = .ok (.dup, 1) := by decide +kernel
theorem dX7_init_86 : decode cX7_init 86 = .ok (.invokespecial 56, 3) := by decide +kernel
theorem dX7_init_89 : decode cX7_init 89 = .ok (.putfield 57, 3) := by decide +kernel
theorem dX7_init_92 : decode cX7_init 92 = .ok (.aload_n 0, 1) := by decide +kernel
theorem dX7_init_93 : decode cX7_init 93 = .ok (.iconst 0, 1) := by decide +kernel
theorem dX7_init_94 : decode cX7_init 94 = .ok (.putfield 61, 3) := by decide +kernel
theorem dX7_init_97 : decode cX7_init 97 = .ok (.aload_n 0, 1) := by decide +kernel
theorem dX7_init_98 : decode cX7_init 98 = .ok (.iconst (-1), 1) := by decide +kernel
theorem dX7_init_99 : decode cX7_init 99 = .ok (.putfield 65, 3) := by decide +kernel
theorem dX7_init_102 : decode cX7_init 102 = .ok (.aload_n 0, 1) := by decide +kernel
theorem dX7_init_103 : decode cX7_init 103 = .ok (.iconst (-1), 1) := by decide +kernel
theorem dX7_init_104 : decode cX7_init 104 = .ok (.putfield 69, 3) := by decide +kernel
theorem dX7_init_107 : decode cX7_init 107 = .ok (.return_, 1) := by decide +kernel
theorem dX7_addInk_0 : decode cX7_addInk 0 = .ok (.aload_n 0, 1) := by decide +kernel
theorem dX7_addInk_1 : decode cX7_addInk 1 = .ok (.getstatic 72, 3) := by decide +kernel
theorem dX7_addInk_4 : decode cX7_addInk 4 = .ok (.iload_n 1, 1) := by decide +kernel
theorem dX7_addInk_5 : decode cX7_addInk 5 = .ok (.iload_n 2, 1) := by decide +kernel
theorem dX7_addInk_6 : decode cX7_addInk 6 = .ok (.invokevirtual 78, 3) := by decide +kernel
theorem dX7_addInk_9 : decode cX7_addInk 9 = .ok (.ireturn, 1) := by decide +kernel
theorem dX7_addPaper_0 : decode cX7_addPaper 0 = .ok (.aload_n 0, 1) := by decide +kernel
theorem dX7_addPaper_1 : decode cX7_addPaper 1 = .ok (.getstatic 82, 3) := by decide +kernel
theorem dX7_addPaper_4 : decode cX7_addPaper 4 = .ok (.iload_n 1, 1) := by decide +kernel
theorem dX7_addPaper_5 : decode cX7_addPaper 5 = .ok (.iconst 0, 1) := by decide +kernel
theorem dX7_addPaper_6 : decode cX7_addPaper 6 = .ok (.invokevirtual 78, 3) := by decide +kernel
theorem dX7_addPaper_9 : decode cX7_addPaper 9 = .ok (.ireturn, 1) := by decide +kernel
theorem dX7_pass_0 : decode cX7_pass 0 = .ok (.aload_n 0, 1) := by decide +kernel
theorem dX7_pass_1 : decode cX7_pass 1 = .ok (.getstatic 85, 3) := by decide +kernel
theorem dX7_pass_4 : decode cX7_pass 4 = .ok (.iload_n 1, 1) := by decide +kernel
theorem dX7_pass_5 : decode cX7_pass 5 = .ok (.iconst 0, 1) := by decide +kernel
theorem dX7_pass_6 : decode cX7_pass 6 = .ok (.invokevirtual 78, 3) := by decide +kernel
theorem dX7_pass_9 : decode cX7_pass 9 = .ok (.ireturn, 1) := by decide +kernel
theorem dX7_ink_0 : decode cX7_ink 0 = .ok (.iload_n 1, 1) := by decide +kernel
theorem dX7_ink_1 : decode cX7_ink 1 = .ok (.invokestatic 88, 3) := by decide +kernel
theorem dX7_ink_4 : decode cX7_ink 4 = .ok (.invokestatic 92, 3) := by decide +kernel
theorem dX7_ink_7 : decode cX7_ink 7 = .ok (.aload_n 0, 1) := by decide +kernel
theorem dX7_ink_8 : decode cX7_ink 8 = .ok (.getfield 12, 3) := by decide +kernel
theorem dX7_ink_11 : decode cX7_ink 11 = .ok (.getfield 96, 3) := by decide +kernel
theorem dX7_ink_14 : decode cX7_ink 14 = .ok (.iload_n 1, 1) := by decide +kernel
theorem dX7_ink_15 : decode cX7_ink 15 = .ok (.iaload, 1) := by decide +kernel
theorem dX7_ink_16 : decode cX7_ink 16 = .ok (.ireturn, 1) := by decide +kernel
theorem dX7_paper_0 : decode cX7_paper 0 = .ok (.aload_n 0, 1) := by decide +kernel
theorem dX7_paper_1 : decode cX7_paper 1 = .ok (.getfield 12, 3) := by decide +kernel
theorem dX7_paper_4 : decode cX7_paper 4 = .ok (.getfield 100, 3) := by decide +kernel
theorem dX7_paper_7 : decode cX7_paper 7 = .ok (.ireturn, 1) := by decide +kernel
theorem dX7_hour_0 : decode cX7_hour 0 = .ok (.aload_n 0, 1) := by decide +kernel
theorem dX7_hour_1 : decode cX7_hour 1 = .ok (.getfield 12, 3) := by decide +kernel
theorem dX7_hour_4 : decode cX7_hour 4 = .ok (.getfield 103, 3) := by decide +kernel
theorem dX7_hour_7 : decode cX7_hour 7 = .ok (.ireturn, 1) := by decide +kernel
theorem dX7_inkAfter_0 : decode cX7_inkAfter 0 = .ok (.iload_n 1, 1) := by decide +kernel
theorem dX7_inkAfter_1 : decode cX7_inkAfter 1 = .ok (.invokestatic 88, 3) := by decide +kernel
theorem dX7_inkAfter_4 : decode cX7_inkAfter 4 = .ok (.ifCond .eq 17, 3) := by decide +kernel
theorem dX7_inkAfter_7 : decode cX7_inkAfter 7 = .ok (.iload_n 2, 1) := by decide +kernel
theorem dX7_inkAfter_8 : decode cX7_inkAfter 8 = .ok (.iconst 0, 1) := by decide +kernel
theorem dX7_inkAfter_9 : decode cX7_inkAfter 9 = .ok (.bipush 99, 2) := by decide +kernel
theorem dX7_inkAfter_11 : decode cX7_inkAfter 11 = .ok (.invokestatic 106, 3) := by decide +kernel
theorem dX7_inkAfter_14 : decode cX7_inkAfter 14 = .ok (.ifCond .eq 7, 3) := by decide +kernel
theorem dX7_inkAfter_17 : decode cX7_inkAfter 17 = .ok (.iconst 1, 1) := by decide +kernel
theorem dX7_inkAfter_18 : decode cX7_inkAfter 18 = .ok (.goto 4, 3) := by decide +kernel
theorem dX7_inkAfter_21 : decode cX7_inkAfter 21 = .ok (.iconst 0, 1) := by decide +kernel
theorem dX7_inkAfter_22 : decode cX7_inkAfter 22 = .ok (.invokestatic 92, 3) := by decide +kernel
theorem dX7_inkAfter_25 : decode cX7_inkAfter 25 = .ok (.aload_n 0, 1) := by decide +kernel
theorem dX7_inkAfter_26 : decode cX7_inkAfter 26 = .ok (.getfield 12, 3) := by decide +kernel
theorem dX7_inkAfter_29 : decode cX7_inkAfter 29 = .ok (.iload_n 1, 1) := by decide +kernel
theorem dX7_inkAfter_30 : decode cX7_inkAfter 30 = .ok (.iload_n 2, 1) := by decide +kernel
theorem dX7_inkAfter_31 : decode cX7_inkAfter 31 = .ok (.invokevirtual 110, 3) := by decide +kernel
theorem dX7_inkAfter_34 : decode cX7_inkAfter 34 = .ok (.ireturn, 1) := by decide +kernel
theorem dX7_inkByHalvings_0 : decode cX7_inkByHalvings 0 = .ok (.iload_n 1, 1) := by decide +kernel
theorem dX7_inkByHalvings_1 : decode cX7_inkByHalvings 1 = .ok (.invokestatic 88, 3) := by decide +kernel
theorem dX7_inkByHalvings_4 : decode cX7_inkByHalvings 4 = .ok (.ifCond .eq 17, 3) := by decide +kernel
theorem dX7_inkByHalvings_7 : decode cX7_inkByHalvings 7 = .ok (.iload_n 2, 1) := by decide +kernel
theorem dX7_inkByHalvings_8 : decode cX7_inkByHalvings 8 = .ok (.iconst 0, 1) := by decide +kernel
theorem dX7_inkByHalvings_9 : decode cX7_inkByHalvings 9 = .ok (.bipush 99, 2) := by decide +kernel
theorem dX7_inkByHalvings_11 : decode cX7_inkByHalvings 11 = .ok (.invokestatic 106, 3) := by decide +kernel
theorem dX7_inkByHalvings_14 : decode cX7_inkByHalvings 14 = .ok (.ifCond .eq 7, 3) := by decide +kernel
theorem dX7_inkByHalvings_17 : decode cX7_inkByHalvings 17 = .ok (.iconst 1, 1) := by decide +kernel
theorem dX7_inkByHalvings_18 : decode cX7_inkByHalvings 18 = .ok (.goto 4, 3) := by decide +kernel
theorem dX7_inkByHalvings_21 : decode cX7_inkByHalvings 21 = .ok (.iconst 0, 1) := by decide +kernel
theorem dX7_inkByHalvings_22 : decode cX7_inkByHalvings 22 = .ok (.invokestatic 92, 3) := by decide +kernel
theorem dX7_inkByHalvings_25 : decode cX7_inkByHalvings 25 = .ok (.aload_n 0, 1) := by decide +kernel
theorem dX7_inkByHalvings_26 : decode cX7_inkByHalvings 26 = .ok (.getfield 12, 3) := by decide +kernel
theorem dX7_inkByHalvings_29 : decode cX7_inkByHalvings 29 = .ok (.iload_n 1, 1) := by decide +kernel
theorem dX7_inkByHalvings_30 : decode cX7_inkByHalvings 30 = .ok (.iload_n 2, 1) := by decide +kernel
theorem dX7_inkByHalvings_31 : decode cX7_inkByHalvings 31 = .ok (.invokevirtual 114, 3) := by decide +kernel
theorem dX7_inkByHalvings_34 : decode cX7_inkByHalvings 34 = .ok (.ireturn, 1) := by decide +kernel
theorem dX7_hoursUntilLess_0 : decode cX7_hoursUntilLess 0 = .ok (.iload_n 1, 1) := by decide +kernel
theorem dX7_hoursUntilLess_1 : decode cX7_hoursUntilLess 1 = .ok (.invokestatic 88, 3) := by decide +kernel
theorem dX7_hoursUntilLess_4 : decode cX7_hoursUntilLess 4 = .ok (.ifCond .eq 18, 3) := by decide +kernel
theorem dX7_hoursUntilLess_7 : decode cX7_hoursUntilLess 7 = .ok (.iload_n 2, 1) := by decide +kernel
theorem dX7_hoursUntilLess_8 : decode cX7_hoursUntilLess 8 = .ok (.iconst 1, 1) := by decide +kernel
theorem dX7_hoursUntilLess_9 : decode cX7_hoursUntilLess 9 = .ok (.sipush 999, 3) := by decide +kernel
theorem dX7_hoursUntilLess_12 : decode cX7_hoursUntilLess 12 = .ok (.invokestatic 106, 3) := by decide +kernel
theorem dX7_hoursUntilLess_15 : decode cX7_hoursUntilLess 15 = .ok (.ifCond .eq 7, 3) := by decide +kernel
theorem dX7_hoursUntilLess_18 : decode cX7_hoursUntilLess 18 = .ok (.iconst 1, 1) := by decide +kernel
theorem dX7_hoursUntilLess_19 : decode cX7_hoursUntilLess 19 = .ok (.goto 4, 3) := by decide +kernel
theorem dX7_hoursUntilLess_22 : decode cX7_hoursUntilLess 22 = .ok (.iconst 0, 1) := by decide +kernel
theorem dX7_hoursUntilLess_23 : decode cX7_hoursUntilLess 23 = .ok (.invokestatic 92, 3) := by decide +kernel
theorem dX7_hoursUntilLess_26 : decode cX7_hoursUntilLess 26 = .ok (.aload_n 0, 1) := by decide +kernel
theorem dX7_hoursUntilLess_27 : decode cX7_hoursUntilLess 27 = .ok (.getfield 12, 3) := by decide +kernel
theorem dX7_hoursUntilLess_30 : decode cX7_hoursUntilLess 30 = .ok (.iload_n 1, 1) := by decide +kernel
theorem dX7_hoursUntilLess_31 : decode cX7_hoursUntilLess 31 = .ok (.iload_n 2, 1) := by decide +kernel
theorem dX7_hoursUntilLess_32 : decode cX7_hoursUntilLess 32 = .ok (.invokevirtual 117, 3) := by decide +kernel
theorem dX7_hoursUntilLess_35 : decode cX7_hoursUntilLess 35 = .ok (.ireturn, 1) := by decide +kernel
theorem dX7_addEdition_0 : decode cX7_addEdition 0 = .ok (.aload_n 0, 1) := by decide +kernel
theorem dX7_addEdition_1 : decode cX7_addEdition 1 = .ok (.getstatic 120, 3) := by decide +kernel
theorem dX7_addEdition_4 : decode cX7_addEdition 4 = .ok (.iload_n 1, 1) := by decide +kernel
theorem dX7_addEdition_5 : decode cX7_addEdition 5 = .ok (.iload_n 2, 1) := by decide +kernel
theorem dX7_addEdition_6 : decode cX7_addEdition 6 = .ok (.invokevirtual 78, 3) := by decide +kernel
theorem dX7_addEdition_9 : decode cX7_addEdition 9 = .ok (.ireturn, 1) := by decide +kernel
theorem dX7_removeEdition_0 : decode cX7_removeEdition 0 = .ok (.aload_n 0, 1) := by decide +kernel
theorem dX7_removeEdition_1 : decode cX7_removeEdition 1 = .ok (.getstatic 123, 3) := by decide +kernel
theorem dX7_removeEdition_4 : decode cX7_removeEdition 4 = .ok (.iload_n 1, 1) := by decide +kernel
theorem dX7_removeEdition_5 : decode cX7_removeEdition 5 = .ok (.iconst 0, 1) := by decide +kernel
theorem dX7_removeEdition_6 : decode cX7_removeEdition 6 = .ok (.invokevirtual 78, 3) := by decide +kernel
theorem dX7_removeEdition_9 : decode cX7_removeEdition 9 = .ok (.ireturn, 1) := by decide +kernel
theorem dX7_print_0 : decode cX7_print 0 = .ok (.aload_n 0, 1) := by decide +kernel
theorem dX7_print_1 : decode cX7_print 1 = .ok (.getstatic 126, 3) := by decide +kernel
theorem dX7_print_4 : decode cX7_print 4 = .ok (.iload_n 1, 1) := by decide +kernel
theorem dX7_print_5 : decode cX7_print 5 = .ok (.iconst 0, 1) := by decide +kernel
theorem dX7_print_6 : decode cX7_print 6 = .ok (.invokevirtual 78, 3) := by decide +kernel
theorem dX7_print_9 : decode cX7_print 9 = .ok (.ireturn, 1) := by decide +kernel
theorem dX7_printAll_0 : decode cX7_printAll 0 = .ok (.aload_n 0, 1) := by decide +kernel
theorem dX7_printAll_1 : decode cX7_printAll 1 = .ok (.getstatic 129, 3) := by decide +kernel
theorem dX7_printAll_4 : decode cX7_printAll 4 = .ok (.iconst 0, 1) := by decide +kernel
theorem dX7_printAll_5 : decode cX7_printAll 5 = .ok (.iconst 0, 1) := by decide +kernel
theorem dX7_printAll_6 : decode cX7_printAll 6 = .ok (.invokevirtual 78, 3) := by decide +kernel
theorem dX7_printAll_9 : decode cX7_printAll 9 = .ok (.ireturn, 1) := by decide +kernel
theorem dX7_editionCount_0 : decode cX7_editionCount 0 = .ok (.aload_n 0, 1) := by decide +kernel
theorem dX7_editionCount_1 : decode cX7_editionCount 1 = .ok (.getfield 12, 3) := by decide +kernel
theorem dX7_editionCount_4 : decode cX7_editionCount 4 = .ok (.getfield 132, 3) := by decide +kernel
theorem dX7_editionCount_7 : decode cX7_editionCount 7 = .ok (.ireturn, 1) := by decide +kernel
theorem dX7_colourOf_0 : decode cX7_colourOf 0 = .ok (.aload_n 0, 1) := by decide +kernel
theorem dX7_colourOf_1 : decode cX7_colourOf 1 = .ok (.getfield 12, 3) := by decide +kernel
theorem dX7_colourOf_4 : decode cX7_colourOf 4 = .ok (.iload_n 1, 1) := by decide +kernel
theorem dX7_colourOf_5 : decode cX7_colourOf 5 = .ok (.invokevirtual 135, 3) := by decide +kernel
theorem dX7_colourOf_8 : decode cX7_colourOf 8 = .ok (.invokestatic 138, 3) := by decide +kernel
theorem dX7_colourOf_11 : decode cX7_colourOf 11 = .ok (.aload_n 0, 1) := by decide +kernel
theorem dX7_colourOf_12 : decode cX7_colourOf 12 = .ok (.getfield 12, 3) := by decide +kernel
theorem dX7_colourOf_15 : decode cX7_colourOf 15 = .ok (.getfield 141, 3) := by decide +kernel
theorem dX7_colourOf_18 : decode cX7_colourOf 18 = .ok (.iload_n 1, 1) := by decide +kernel
theorem dX7_colourOf_19 : decode cX7_colourOf 19 = .ok (.iaload, 1) := by decide +kernel
theorem dX7_colourOf_20 : decode cX7_colourOf 20 = .ok (.ireturn, 1) := by decide +kernel
theorem dX7_runOf_0 : decode cX7_runOf 0 = .ok (.aload_n 0, 1) := by decide +kernel
theorem dX7_runOf_1 : decode cX7_runOf 1 = .ok (.getfield 12, 3) := by decide +kernel
theorem dX7_runOf_4 : decode cX7_runOf 4 = .ok (.iload_n 1, 1) := by decide +kernel
theorem dX7_runOf_5 : decode cX7_runOf 5 = .ok (.invokevirtual 135, 3) := by decide +kernel
theorem dX7_runOf_8 : decode cX7_runOf 8 = .ok (.invokestatic 138, 3) := by decide +kernel
theorem dX7_runOf_11 : decode cX7_runOf 11 = .ok (.aload_n 0, 1) := by decide +kernel
theorem dX7_runOf_12 : decode cX7_runOf 12 = .ok (.getfield 12, 3) := by decide +kernel
theorem dX7_runOf_15 : decode cX7_runOf 15 = .ok (.getfield 144, 3) := by decide +kernel
theorem dX7_runOf_18 : decode cX7_runOf 18 = .ok (.iload_n 1, 1) := by decide +kernel
theorem dX7_runOf_19 : decode cX7_runOf 19 = .ok (.iaload, 1) := by decide +kernel
theorem dX7_runOf_20 : decode cX7_runOf 20 = .ok (.ireturn, 1) := by decide +kernel
theorem dX7_printedOf_0 : decode cX7_printedOf 0 = .ok (.aload_n 0, 1) := by decide +kernel
theorem dX7_printedOf_1 : decode cX7_printedOf 1 = .ok (.getfield 12, 3) := by decide +kernel
theorem dX7_printedOf_4 : decode cX7_printedOf 4 = .ok (.iload_n 1, 1) := by decide +kernel
theorem dX7_printedOf_5 : decode cX7_printedOf 5 = .ok (.invokevirtual 135, 3) := by decide +kernel
theorem dX7_printedOf_8 : decode cX7_printedOf 8 = .ok (.invokestatic 138, 3) := by decide +kernel
theorem dX7_printedOf_11 : decode cX7_printedOf 11 = .ok (.aload_n 0, 1) := by decide +kernel
theorem dX7_printedOf_12 : decode cX7_printedOf 12 = .ok (.getfield 12, 3) := by decide +kernel
theorem dX7_printedOf_15 : decode cX7_printedOf 15 = .ok (.getfield 147, 3) := by decide +kernel
theorem dX7_printedOf_18 : decode cX7_printedOf 18 = .ok (.iload_n 1, 1) := by decide +kernel
theorem dX7_printedOf_19 : decode cX7_printedOf 19 = .ok (.iaload, 1) := by decide +kernel
theorem dX7_printedOf_20 : decode cX7_printedOf 20 = .ok (.ireturn, 1) := by decide +kernel
theorem dX7_isComplete_0 : decode cX7_isComplete 0 = .ok (.aload_n 0, 1) := by decide +kernel
theorem dX7_isComplete_1 : decode cX7_isComplete 1 = .ok (.getfield 12, 3) := by decide +kernel
theorem dX7_isComplete_4 : decode cX7_isComplete 4 = .ok (.iload_n 1, 1) := by decide +kernel
theorem dX7_isComplete_5 : decode cX7_isComplete 5 = .ok (.invokevirtual 135, 3) := by decide +kernel
theorem dX7_isComplete_8 : decode cX7_isComplete 8 = .ok (.invokestatic 138, 3) := by decide +kernel
theorem dX7_isComplete_11 : decode cX7_isComplete 11 = .ok (.aload_n 0, 1) := by decide +kernel
theorem dX7_isComplete_12 : decode cX7_isComplete 12 = .ok (.getfield 12, 3) := by decide +kernel
theorem dX7_isComplete_15 : decode cX7_isComplete 15 = .ok (.iload_n 1, 1) := by decide +kernel
theorem dX7_isComplete_16 : decode cX7_isComplete 16 = .ok (.invokevirtual 150, 3) := by decide +kernel
theorem dX7_isComplete_19 : decode cX7_isComplete 19 = .ok (.ifCond .ne 7, 3) := by decide +kernel
theorem dX7_isComplete_22 : decode cX7_isComplete 22 = .ok (.iconst 1, 1) := by decide +kernel
theorem dX7_isComplete_23 : decode cX7_isComplete 23 = .ok (.goto 4, 3) := by decide +kernel
theorem dX7_isComplete_26 : decode cX7_isComplete 26 = .ok (.iconst 0, 1) := by decide +kernel
theorem dX7_isComplete_27 : decode cX7_isComplete 27 = .ok (.ireturn, 1) := by decide +kernel
theorem dX7_changeMinutes_0 : decode cX7_changeMinutes 0 = .ok (.iload_n 1, 1) := by decide +kernel
theorem dX7_changeMinutes_1 : decode cX7_changeMinutes 1 = .ok (.invokestatic 88, 3) := by decide +kernel
theorem dX7_changeMinutes_4 : decode cX7_changeMinutes 4 = .ok (.ifCond .eq 14, 3) := by decide +kernel
theorem dX7_changeMinutes_7 : decode cX7_changeMinutes 7 = .ok (.iload_n 2, 1) := by decide +kernel
theorem dX7_changeMinutes_8 : decode cX7_changeMinutes 8 = .ok (.invokestatic 88, 3) := by decide +kernel
theorem dX7_changeMinutes_11 : decode cX7_changeMinutes 11 = .ok (.ifCond .eq 7, 3) := by decide +kernel
theorem dX7_changeMinutes_14 : decode cX7_changeMinutes 14 = .ok (.iconst 1, 1) := by decide +kernel
theorem dX7_changeMinutes_15 : decode cX7_changeMinutes 15 = .ok (.goto 4, 3) := by decide +kernel
theorem dX7_changeMinutes_18 : decode cX7_changeMinutes 18 = .ok (.iconst 0, 1) := by decide +kernel
theorem dX7_changeMinutes_19 : decode cX7_changeMinutes 19 = .ok (.invokestatic 92, 3) := by decide +kernel
theorem dX7_changeMinutes_22 : decode cX7_changeMinutes 22 = .ok (.iload_n 1, 1) := by decide +kernel
theorem dX7_changeMinutes_23 : decode cX7_changeMinutes 23 = .ok (.iload_n 2, 1) := by decide +kernel
theorem dX7_changeMinutes_24 : decode cX7_changeMinutes 24 = .ok (.invokestatic 154, 3) := by decide +kernel
theorem dX7_changeMinutes_27 : decode cX7_changeMinutes 27 = .ok (.ireturn, 1) := by decide +kernel
theorem dX7_pressColour_0 : decode cX7_pressColour 0 = .ok (.aload_n 0, 1) := by decide +kernel
theorem dX7_pressColour_1 : decode cX7_pressColour 1 = .ok (.getfield 12, 3) := by decide +kernel
theorem dX7_pressColour_4 : decode cX7_pressColour 4 = .ok (.getfield 157, 3) := by decide +kernel
theorem dX7_pressColour_7 : decode cX7_pressColour 7 = .ok (.ireturn, 1) := by decide +kernel
theorem dX7_fewestMinutes_0 : decode cX7_fewestMinutes 0 = .ok (.aload_n 0, 1) := by decide +kernel
theorem dX7_fewestMinutes_1 : decode cX7_fewestMinutes 1 = .ok (.getfield 29, 3) := by decide +kernel
theorem dX7_fewestMinutes_4 : decode cX7_fewestMinutes 4 = .ok (.aload_n 0, 1) := by decide +kernel
theorem dX7_fewestMinutes_5 : decode cX7_fewestMinutes 5 = .ok (.getfield 12, 3) := by decide +kernel
theorem dX7_fewestMinutes_8 : decode cX7_fewestMinutes 8 = .ok (.invokevirtual 160, 3) := by decide +kernel
theorem dX7_fewestMinutes_11 : decode cX7_fewestMinutes 11 = .ok (.aload_n 0, 1) := by decide +kernel
theorem dX7_fewestMinutes_12 : decode cX7_fewestMinutes 12 = .ok (.getfield 29, 3) := by decide +kernel
theorem dX7_fewestMinutes_15 : decode cX7_fewestMinutes 15 = .ok (.getfield 164, 3) := by decide +kernel
theorem dX7_fewestMinutes_18 : decode cX7_fewestMinutes 18 = .ok (.ireturn, 1) := by decide +kernel
theorem dX7_minutesByOrders_0 : decode cX7_minutesByOrders 0 = .ok (.aload_n 0, 1) := by decide +kernel
theorem dX7_minutesByOrders_1 : decode cX7_minutesByOrders 1 = .ok (.getfield 29, 3) := by decide +kernel
theorem dX7_minutesByOrders_4 : decode cX7_minutesByOrders 4 = .ok (.aload_n 0, 1) := by decide +kernel
theorem dX7_minutesByOrders_5 : decode cX7_minutesByOrders 5 = .ok (.getfield 12, 3) := by decide +kernel
theorem dX7_minutesByOrders_8 : decode cX7_minutesByOrders 8 = .ok (.invokevirtual 167, 3) := by decide +kernel
theorem dX7_minutesByOrders_11 : decode cX7_minutesByOrders 11 = .ok (.ireturn, 1) := by decide +kernel
theorem dX7_editionAt_0 : decode cX7_editionAt 0 = .ok (.aload_n 0, 1) := by decide +kernel
theorem dX7_editionAt_1 : decode cX7_editionAt 1 = .ok (.getfield 29, 3) := by decide +kernel
theorem dX7_editionAt_4 : decode cX7_editionAt 4 = .ok (.aload_n 0, 1) := by decide +kernel
theorem dX7_editionAt_5 : decode cX7_editionAt 5 = .ok (.getfield 12, 3) := by decide +kernel
theorem dX7_editionAt_8 : decode cX7_editionAt 8 = .ok (.invokevirtual 160, 3) := by decide +kernel
theorem dX7_editionAt_11 : decode cX7_editionAt 11 = .ok (.iload_n 1, 1) := by decide +kernel
theorem dX7_editionAt_12 : decode cX7_editionAt 12 = .ok (.iconst 0, 1) := by decide +kernel
theorem dX7_editionAt_13 : decode cX7_editionAt 13 = .ok (.aload_n 0, 1) := by decide +kernel
theorem dX7_editionAt_14 : decode cX7_editionAt 14 = .ok (.getfield 29, 3) := by decide +kernel
theorem dX7_editionAt_17 : decode cX7_editionAt 17 = .ok (.getfield 171, 3) := by decide +kernel
theorem dX7_editionAt_20 : decode cX7_editionAt 20 = .ok (.iconst 1, 1) := by decide +kernel
theorem dX7_editionAt_21 : decode cX7_editionAt 21 = .ok (.isub, 1) := by decide +kernel
theorem dX7_editionAt_22 : decode cX7_editionAt 22 = .ok (.invokestatic 106, 3) := by decide +kernel
theorem dX7_editionAt_25 : decode cX7_editionAt 25 = .ok (.invokestatic 174, 3) := by decide +kernel
theorem dX7_editionAt_28 : decode cX7_editionAt 28 = .ok (.aload_n 0, 1) := by decide +kernel
theorem dX7_editionAt_29 : decode cX7_editionAt 29 = .ok (.getfield 29, 3) := by decide +kernel
theorem dX7_editionAt_32 : decode cX7_editionAt 32 = .ok (.getfield 177, 3) := by decide +kernel
theorem dX7_editionAt_35 : decode cX7_editionAt 35 = .ok (.iload_n 1, 1) := by decide +kernel
theorem dX7_editionAt_36 : decode cX7_editionAt 36 = .ok (.iaload, 1) := by decide +kernel
theorem dX7_editionAt_37 : decode cX7_editionAt 37 = .ok (.ireturn, 1) := by decide +kernel
theorem dX7_shareOf_0 : decode cX7_shareOf 0 = .ok (.aload_n 0, 1) := by decide +kernel
theorem dX7_shareOf_1 : decode cX7_shareOf 1 = .ok (.getfield 12, 3) := by decide +kernel
theorem dX7_shareOf_4 : decode cX7_shareOf 4 = .ok (.iload_n 1, 1) := by decide +kernel
theorem dX7_shareOf_5 : decode cX7_shareOf 5 = .ok (.invokevirtual 135, 3) := by decide +kernel
theorem dX7_shareOf_8 : decode cX7_shareOf 8 = .ok (.invokestatic 138, 3) := by decide +kernel
theorem dX7_shareOf_11 : decode cX7_shareOf 11 = .ok (.aload_n 0, 1) := by decide +kernel
theorem dX7_shareOf_12 : decode cX7_shareOf 12 = .ok (.getfield 36, 3) := by decide +kernel
theorem dX7_shareOf_15 : decode cX7_shareOf 15 = .ok (.aload_n 0, 1) := by decide +kernel
theorem dX7_shareOf_16 : decode cX7_shareOf 16 = .ok (.getfield 12, 3) := by decide +kernel
theorem dX7_shareOf_19 : decode cX7_shareOf 19 = .ok (.invokevirtual 180, 3) := by decide +kernel
theorem dX7_shareOf_22 : decode cX7_shareOf 22 = .ok (.aload_n 0, 1) := by decide +kernel
theorem dX7_shareOf_23 : decode cX7_shareOf 23 = .ok (.getfield 36, 3) := by decide +kernel
theorem dX7_shareOf_26 : decode cX7_shareOf 26 = .ok (.getfield 183, 3) := by decide +kernel
theorem dX7_shareOf_29 : decode cX7_shareOf 29 = .ok (.iload_n 1, 1) := by decide +kernel
theorem dX7_shareOf_30 : decode cX7_shareOf 30 = .ok (.iaload, 1) := by decide +kernel
theorem dX7_shareOf_31 : decode cX7_shareOf 31 = .ok (.ireturn, 1) := by decide +kernel
theorem dX7_shareByLevel_0 : decode cX7_shareByLevel 0 = .ok (.aload_n 0, 1) := by decide +kernel
theorem dX7_shareByLevel_1 : decode cX7_shareByLevel 1 = .ok (.getfield 12, 3) := by decide +kernel
theorem dX7_shareByLevel_4 : decode cX7_shareByLevel 4 = .ok (.iload_n 1, 1) := by decide +kernel
theorem dX7_shareByLevel_5 : decode cX7_shareByLevel 5 = .ok (.invokevirtual 135, 3) := by decide +kernel
theorem dX7_shareByLevel_8 : decode cX7_shareByLevel 8 = .ok (.invokestatic 138, 3) := by decide +kernel
theorem dX7_shareByLevel_11 : decode cX7_shareByLevel 11 = .ok (.aload_n 0, 1) := by decide +kernel
theorem dX7_shareByLevel_12 : decode cX7_shareByLevel 12 = .ok (.getfield 36, 3) := by decide +kernel
theorem dX7_shareByLevel_15 : decode cX7_shareByLevel 15 = .ok (.aload_n 0, 1) := by decide +kernel
theorem dX7_shareByLevel_16 : decode cX7_shareByLevel 16 = .ok (.getfield 12, 3) := by decide +kernel
theorem dX7_shareByLevel_19 : decode cX7_shareByLevel 19 = .ok (.invokevirtual 186, 3) := by decide +kernel
theorem dX7_shareByLevel_22 : decode cX7_shareByLevel 22 = .ok (.aload_n 0, 1) := by decide +kernel
theorem dX7_shareByLevel_23 : decode cX7_shareByLevel 23 = .ok (.getfield 36, 3) := by decide +kernel
theorem dX7_shareByLevel_26 : decode cX7_shareByLevel 26 = .ok (.getfield 183, 3) := by decide +kernel
theorem dX7_shareByLevel_29 : decode cX7_shareByLevel 29 = .ok (.iload_n 1, 1) := by decide +kernel
theorem dX7_shareByLevel_30 : decode cX7_shareByLevel 30 = .ok (.iaload, 1) := by decide +kernel
theorem dX7_shareByLevel_31 : decode cX7_shareByLevel 31 = .ok (.ireturn, 1) := by decide +kernel
theorem dX7_editionByMissing_0 : decode cX7_editionByMissing 0 = .ok (.aload_n 0, 1) := by decide +kernel
theorem dX7_editionByMissing_1 : decode cX7_editionByMissing 1 = .ok (.getfield 12, 3) := by decide +kernel
theorem dX7_editionByMissing_4 : decode cX7_editionByMissing 4 = .ok (.iload_n 1, 1) := by decide +kernel
theorem dX7_editionByMissing_5 : decode cX7_editionByMissing 5 = .ok (.invokevirtual 135, 3) := by decide +kernel
theorem dX7_editionByMissing_8 : decode cX7_editionByMissing 8 = .ok (.invokestatic 174, 3) := by decide +kernel
theorem dX7_editionByMissing_11 : decode cX7_editionByMissing 11 = .ok (.aload_n 0, 1) := by decide +kernel
theorem dX7_editionByMissing_12 : decode cX7_editionByMissing 12 = .ok (.getfield 12, 3) := by decide +kernel
theorem dX7_editionByMissing_15 : decode cX7_editionByMissing 15 = .ok (.iload_n 1, 1) := by decide +kernel
theorem dX7_editionByMissing_16 : decode cX7_editionByMissing 16 = .ok (.invokevirtual 189, 3) := by decide +kernel
theorem dX7_editionByMissing_19 : decode cX7_editionByMissing 19 = .ok (.ireturn, 1) := by decide +kernel
theorem dX7_addProof_0 : decode cX7_addProof 0 = .ok (.aload_n 0, 1) := by decide +kernel
theorem dX7_addProof_1 : decode cX7_addProof 1 = .ok (.getstatic 192, 3) := by decide +kernel
theorem dX7_addProof_4 : decode cX7_addProof 4 = .ok (.iload_n 1, 1) := by decide +kernel
theorem dX7_addProof_5 : decode cX7_addProof 5 = .ok (.iconst 0, 1) := by decide +kernel
theorem dX7_addProof_6 : decode cX7_addProof 6 = .ok (.invokevirtual 78, 3) := by decide +kernel
theorem dX7_addProof_9 : decode cX7_addProof 9 = .ok (.ireturn, 1) := by decide +kernel
theorem dX7_dropProof_0 : decode cX7_dropProof 0 = .ok (.aload_n 0, 1) := by decide +kernel
theorem dX7_dropProof_1 : decode cX7_dropProof 1 = .ok (.getstatic 195, 3) := by decide +kernel
theorem dX7_dropProof_4 : decode cX7_dropProof 4 = .ok (.iload_n 1, 1) := by decide +kernel
theorem dX7_dropProof_5 : decode cX7_dropProof 5 = .ok (.iconst 0, 1) := by decide +kernel
theorem dX7_dropProof_6 : decode cX7_dropProof 6 = .ok (.invokevirtual 78, 3) := by decide +kernel
theorem dX7_dropProof_9 : decode cX7_dropProof 9 = .ok (.ireturn, 1) := by decide +kernel
theorem dX7_proofCount_0 : decode cX7_proofCount 0 = .ok (.aload_n 0, 1) := by decide +kernel
theorem dX7_proofCount_1 : decode cX7_proofCount 1 = .ok (.getfield 12, 3) := by decide +kernel
theorem dX7_proofCount_4 : decode cX7_proofCount 4 = .ok (.getfield 198, 3) := by decide +kernel
theorem dX7_proofCount_7 : decode cX7_proofCount 7 = .ok (.ireturn, 1) := by decide +kernel
theorem dX7_marksOf_0 : decode cX7_marksOf 0 = .ok (.aload_n 0, 1) := by decide +kernel
theorem dX7_marksOf_1 : decode cX7_marksOf 1 = .ok (.getfield 12, 3) := by decide +kernel
theorem dX7_marksOf_4 : decode cX7_marksOf 4 = .ok (.iload_n 1, 1) := by decide +kernel
theorem dX7_marksOf_5 : decode cX7_marksOf 5 = .ok (.invokevirtual 201, 3) := by decide +kernel
theorem dX7_marksOf_8 : decode cX7_marksOf 8 = .ok (.invokestatic 138, 3) := by decide +kernel
theorem dX7_marksOf_11 : decode cX7_marksOf 11 = .ok (.aload_n 0, 1) := by decide +kernel
theorem dX7_marksOf_12 : decode cX7_marksOf 12 = .ok (.getfield 12, 3) := by decide +kernel
theorem dX7_marksOf_15 : decode cX7_marksOf 15 = .ok (.getfield 204, 3) := by decide +kernel
theorem dX7_marksOf_18 : decode cX7_marksOf 18 = .ok (.iload_n 1, 1) := by decide +kernel
theorem dX7_marksOf_19 : decode cX7_marksOf 19 = .ok (.iaload, 1) := by decide +kernel
theorem dX7_marksOf_20 : decode cX7_marksOf 20 = .ok (.ireturn, 1) := by decide +kernel
theorem dX7_hourOf_0 : decode cX7_hourOf 0 = .ok (.aload_n 0, 1) := by decide +kernel
theorem dX7_hourOf_1 : decode cX7_hourOf 1 = .ok (.getfield 12, 3) := by decide +kernel
theorem dX7_hourOf_4 : decode cX7_hourOf 4 = .ok (.iload_n 1, 1) := by decide +kernel
theorem dX7_hourOf_5 : decode cX7_hourOf 5 = .ok (.invokevirtual 201, 3) := by decide +kernel
theorem dX7_hourOf_8 : decode cX7_hourOf 8 = .ok (.invokestatic 138, 3) := by decide +kernel
theorem dX7_hourOf_11 : decode cX7_hourOf 11 = .ok (.aload_n 0, 1) := by decide +kernel
theorem dX7_hourOf_12 : decode cX7_hourOf 12 = .ok (.getfield 12, 3) := by decide +kernel
theorem dX7_hourOf_15 : decode cX7_hourOf 15 = .ok (.getfield 207, 3) := by decide +kernel
theorem dX7_hourOf_18 : decode cX7_hourOf 18 = .ok (.iload_n 1, 1) := by decide +kernel
theorem dX7_hourOf_19 : decode cX7_hourOf 19 = .ok (.iaload, 1) := by decide +kernel
theorem dX7_hourOf_20 : decode cX7_hourOf 20 = .ok (.ireturn, 1) := by decide +kernel
theorem dX7_longestRise_0 : decode cX7_longestRise 0 = .ok (.aload_n 0, 1) := by decide +kernel
theorem dX7_longestRise_1 : decode cX7_longestRise 1 = .ok (.getfield 43, 3) := by decide +kernel
theorem dX7_longestRise_4 : decode cX7_longestRise 4 = .ok (.aload_n 0, 1) := by decide +kernel
theorem dX7_longestRise_5 : decode cX7_longestRise 5 = .ok (.getfield 12, 3) := by decide +kernel
theorem dX7_longestRise_8 : decode cX7_longestRise 8 = .ok (.invokevirtual 210, 3) := by decide +kernel
theorem dX7_longestRise_11 : decode cX7_longestRise 11 = .ok (.ireturn, 1) := by decide +kernel
theorem dX7_riseByEnds_0 : decode cX7_riseByEnds 0 = .ok (.aload_n 0, 1) := by decide +kernel
theorem dX7_riseByEnds_1 : decode cX7_riseByEnds 1 = .ok (.getfield 43, 3) := by decide +kernel
theorem dX7_riseByEnds_4 : decode cX7_riseByEnds 4 = .ok (.aload_n 0, 1) := by decide +kernel
theorem dX7_riseByEnds_5 : decode cX7_riseByEnds 5 = .ok (.getfield 12, 3) := by decide +kernel
theorem dX7_riseByEnds_8 : decode cX7_riseByEnds 8 = .ok (.invokevirtual 213, 3) := by decide +kernel
theorem dX7_riseByEnds_11 : decode cX7_riseByEnds 11 = .ok (.ireturn, 1) := by decide +kernel
theorem dX7_riseCount_0 : decode cX7_riseCount 0 = .ok (.aload_n 0, 1) := by decide +kernel
theorem dX7_riseCount_1 : decode cX7_riseCount 1 = .ok (.getfield 43, 3) := by decide +kernel
theorem dX7_riseCount_4 : decode cX7_riseCount 4 = .ok (.aload_n 0, 1) := by decide +kernel
theorem dX7_riseCount_5 : decode cX7_riseCount 5 = .ok (.getfield 12, 3) := by decide +kernel
theorem dX7_riseCount_8 : decode cX7_riseCount 8 = .ok (.invokevirtual 216, 3) := by decide +kernel
theorem dX7_riseCount_11 : decode cX7_riseCount 11 = .ok (.ireturn, 1) := by decide +kernel
theorem dX7_minutes_0 : decode cX7_minutes 0 = .ok (.aload_n 0, 1) := by decide +kernel
theorem dX7_minutes_1 : decode cX7_minutes 1 = .ok (.getfield 12, 3) := by decide +kernel
theorem dX7_minutes_4 : decode cX7_minutes 4 = .ok (.getfield 219, 3) := by decide +kernel
theorem dX7_minutes_7 : decode cX7_minutes 7 = .ok (.ireturn, 1) := by decide +kernel
theorem dX7_poured_0 : decode cX7_poured 0 = .ok (.aload_n 0, 1) := by decide +kernel
theorem dX7_poured_1 : decode cX7_poured 1 = .ok (.getfield 12, 3) := by decide +kernel
theorem dX7_poured_4 : decode cX7_poured 4 = .ok (.getfield 220, 3) := by decide +kernel
theorem dX7_poured_7 : decode cX7_poured 7 = .ok (.ireturn, 1) := by decide +kernel
theorem dX7_used_0 : decode cX7_used 0 = .ok (.aload_n 0, 1) := by decide +kernel
theorem dX7_used_1 : decode cX7_used 1 = .ok (.getfield 12, 3) := by decide +kernel
theorem dX7_used_4 : decode cX7_used 4 = .ok (.getfield 223, 3) := by decide +kernel
theorem dX7_used_7 : decode cX7_used 7 = .ok (.ireturn, 1) := by decide +kernel
theorem dX7_faded_0 : decode cX7_faded 0 = .ok (.aload_n 0, 1) := by decide +kernel
theorem dX7_faded_1 : decode cX7_faded 1 = .ok (.getfield 12, 3) := by decide +kernel
theorem dX7_faded_4 : decode cX7_faded 4 = .ok (.getfield 226, 3) := by decide +kernel
theorem dX7_faded_7 : decode cX7_faded 7 = .ok (.lreturn, 1) := by decide +kernel
theorem dX7_inkInWells_0 : decode cX7_inkInWells 0 = .ok (.aload_n 0, 1) := by decide +kernel
theorem dX7_inkInWells_1 : decode cX7_inkInWells 1 = .ok (.getfield 12, 3) := by decide +kernel
theorem dX7_inkInWells_4 : decode cX7_inkInWells 4 = .ok (.getfield 96, 3) := by decide +kernel
theorem dX7_inkInWells_7 : decode cX7_inkInWells 7 = .ok (.bipush 10, 2) := by decide +kernel
theorem dX7_inkInWells_9 : decode cX7_inkInWells 9 = .ok (.invokestatic 230, 3) := by decide +kernel
theorem dX7_inkInWells_12 : decode cX7_inkInWells 12 = .ok (.ireturn, 1) := by decide +kernel
theorem dX7_meanRun_0 : decode cX7_meanRun 0 = .ok (.aload_n 0, 1) := by decide +kernel
theorem dX7_meanRun_1 : decode cX7_meanRun 1 = .ok (.getfield 12, 3) := by decide +kernel
theorem dX7_meanRun_4 : decode cX7_meanRun 4 = .ok (.getfield 132, 3) := by decide +kernel
theorem dX7_meanRun_7 : decode cX7_meanRun 7 = .ok (.ifCond .ne 13, 3) := by decide +kernel
theorem dX7_meanRun_10 : decode cX7_meanRun 10 = .ok (.new 234, 3) := by decide +kernel
theorem dX7_meanRun_13 : decode cX7_meanRun 13 = .ok (.dup, 1) := by decide +kernel
theorem dX7_meanRun_14 : decode cX7_meanRun 14 = .ok (.ldc 236, 2) := by decide +kernel
theorem dX7_meanRun_16 : decode cX7_meanRun 16 = .ok (.invokespecial 238, 3) := by decide +kernel
theorem dX7_meanRun_19 : decode cX7_meanRun 19 = .ok (.athrow, 1) := by decide +kernel
theorem dX7_meanRun_20 : decode cX7_meanRun 20 = .ok (.aload_n 0, 1) := by decide +kernel
theorem dX7_meanRun_21 : decode cX7_meanRun 21 = .ok (.getfield 12, 3) := by decide +kernel
theorem dX7_meanRun_24 : decode cX7_meanRun 24 = .ok (.getfield 144, 3) := by decide +kernel
theorem dX7_meanRun_27 : decode cX7_meanRun 27 = .ok (.aload_n 0, 1) := by decide +kernel
theorem dX7_meanRun_28 : decode cX7_meanRun 28 = .ok (.getfield 12, 3) := by decide +kernel
theorem dX7_meanRun_31 : decode cX7_meanRun 31 = .ok (.getfield 132, 3) := by decide +kernel
theorem dX7_meanRun_34 : decode cX7_meanRun 34 = .ok (.invokestatic 230, 3) := by decide +kernel
theorem dX7_meanRun_37 : decode cX7_meanRun 37 = .ok (.i2d, 1) := by decide +kernel
theorem dX7_meanRun_38 : decode cX7_meanRun 38 = .ok (.aload_n 0, 1) := by decide +kernel
theorem dX7_meanRun_39 : decode cX7_meanRun 39 = .ok (.getfield 12, 3) := by decide +kernel
theorem dX7_meanRun_42 : decode cX7_meanRun 42 = .ok (.getfield 132, 3) := by decide +kernel
theorem dX7_meanRun_45 : decode cX7_meanRun 45 = .ok (.i2d, 1) := by decide +kernel
theorem dX7_meanRun_46 : decode cX7_meanRun 46 = .ok (.ddiv, 1) := by decide +kernel
theorem dX7_meanRun_47 : decode cX7_meanRun 47 = .ok (.dreturn, 1) := by decide +kernel
theorem dX7_fadedShare_0 : decode cX7_fadedShare 0 = .ok (.aload_n 0, 1) := by decide +kernel
theorem dX7_fadedShare_1 : decode cX7_fadedShare 1 = .ok (.getfield 12, 3) := by decide +kernel
theorem dX7_fadedShare_4 : decode cX7_fadedShare 4 = .ok (.getfield 220, 3) := by decide +kernel
theorem dX7_fadedShare_7 : decode cX7_fadedShare 7 = .ok (.ifCond .ne 13, 3) := by decide +kernel
theorem dX7_fadedShare_10 : decode cX7_fadedShare 10 = .ok (.new 234, 3) := by decide +kernel
theorem dX7_fadedShare_13 : decode cX7_fadedShare 13 = .ok (.dup, 1) := by decide +kernel
theorem dX7_fadedShare_14 : decode cX7_fadedShare 14 = .ok (.ldc 241, 2) := by decide +kernel
theorem dX7_fadedShare_16 : decode cX7_fadedShare 16 = .ok (.invokespecial 238, 3) := by decide +kernel
theorem dX7_fadedShare_19 : decode cX7_fadedShare 19 = .ok (.athrow, 1) := by decide +kernel
theorem dX7_fadedShare_20 : decode cX7_fadedShare 20 = .ok (.aload_n 0, 1) := by decide +kernel
theorem dX7_fadedShare_21 : decode cX7_fadedShare 21 = .ok (.getfield 12, 3) := by decide +kernel
theorem dX7_fadedShare_24 : decode cX7_fadedShare 24 = .ok (.getfield 226, 3) := by decide +kernel
theorem dX7_fadedShare_27 : decode cX7_fadedShare 27 = .ok (.l2f, 1) := by decide +kernel
theorem dX7_fadedShare_28 : decode cX7_fadedShare 28 = .ok (.aload_n 0, 1) := by decide +kernel
theorem dX7_fadedShare_29 : decode cX7_fadedShare 29 = .ok (.getfield 12, 3) := by decide +kernel
theorem dX7_fadedShare_32 : decode cX7_fadedShare 32 = .ok (.getfield 220, 3) := by decide +kernel
theorem dX7_fadedShare_35 : decode cX7_fadedShare 35 = .ok (.i2f, 1) := by decide +kernel
theorem dX7_fadedShare_36 : decode cX7_fadedShare 36 = .ok (.fdiv, 1) := by decide +kernel
theorem dX7_fadedShare_37 : decode cX7_fadedShare 37 = .ok (.freturn, 1) := by decide +kernel
theorem dX7_writeEdition_0 : decode cX7_writeEdition 0 = .ok (.aload_n 0, 1) := by decide +kernel
theorem dX7_writeEdition_1 : decode cX7_writeEdition 1 = .ok (.getfield 12, 3) := by decide +kernel
theorem dX7_writeEdition_4 : decode cX7_writeEdition 4 = .ok (.iload_n 1, 1) := by decide +kernel
theorem dX7_writeEdition_5 : decode cX7_writeEdition 5 = .ok (.invokevirtual 135, 3) := by decide +kernel
theorem dX7_writeEdition_8 : decode cX7_writeEdition 8 = .ok (.invokestatic 138, 3) := by decide +kernel
theorem dX7_writeEdition_11 : decode cX7_writeEdition 11 = .ok (.aload_n 0, 1) := by decide +kernel
theorem dX7_writeEdition_12 : decode cX7_writeEdition 12 = .ok (.getfield 57, 3) := by decide +kernel
theorem dX7_writeEdition_15 : decode cX7_writeEdition 15 = .ok (.iconst 0, 1) := by decide +kernel
theorem dX7_writeEdition_16 : decode cX7_writeEdition 16 = .ok (.invokevirtual 243, 3) := by decide +kernel
theorem dX7_writeEdition_19 : decode cX7_writeEdition 19 = .ok (.aload_n 0, 1) := by decide +kernel
theorem dX7_writeEdition_20 : decode cX7_writeEdition 20 = .ok (.getfield 57, 3) := by decide +kernel
theorem dX7_writeEdition_23 : decode cX7_writeEdition 23 = .ok (.iload_n 1, 1) := by decide +kernel
theorem dX7_writeEdition_24 : decode cX7_writeEdition 24 = .ok (.invokevirtual 247, 3) := by decide +kernel
theorem dX7_writeEdition_27 : decode cX7_writeEdition 27 = .ok (.pop, 1) := by decide +kernel
theorem dX7_writeEdition_28 : decode cX7_writeEdition 28 = .ok (.aload_n 0, 1) := by decide +kernel
theorem dX7_writeEdition_29 : decode cX7_writeEdition 29 = .ok (.getfield 57, 3) := by decide +kernel
theorem dX7_writeEdition_32 : decode cX7_writeEdition 32 = .ok (.bipush 99, 2) := by decide +kernel
theorem dX7_writeEdition_34 : decode cX7_writeEdition 34 = .ok (.invokevirtual 251, 3) := by decide +kernel
theorem dX7_writeEdition_37 : decode cX7_writeEdition 37 = .ok (.pop, 1) := by decide +kernel
theorem dX7_writeEdition_38 : decode cX7_writeEdition 38 = .ok (.aload_n 0, 1) := by decide +kernel
theorem dX7_writeEdition_39 : decode cX7_writeEdition 39 = .ok (.getfield 57, 3) := by decide +kernel
theorem dX7_writeEdition_42 : decode cX7_writeEdition 42 = .ok (.aload_n 0, 1) := by decide +kernel
theorem dX7_writeEdition_43 : decode cX7_writeEdition 43 = .ok (.getfield 12, 3) := by decide +kernel
theorem dX7_writeEdition_46 : decode cX7_writeEdition 46 = .ok (.getfield 141, 3) := by decide +kernel
theorem dX7_writeEdition_49 : decode cX7_writeEdition 49 = .ok (.iload_n 1, 1) := by decide +kernel
theorem dX7_writeEdition_50 : decode cX7_writeEdition 50 = .ok (.iaload, 1) := by decide +kernel
theorem dX7_writeEdition_51 : decode cX7_writeEdition 51 = .ok (.invokevirtual 247, 3) := by decide +kernel
theorem dX7_writeEdition_54 : decode cX7_writeEdition 54 = .ok (.pop, 1) := by decide +kernel
theorem dX7_writeEdition_55 : decode cX7_writeEdition 55 = .ok (.aload_n 0, 1) := by decide +kernel
theorem dX7_writeEdition_56 : decode cX7_writeEdition 56 = .ok (.getfield 57, 3) := by decide +kernel
theorem dX7_writeEdition_59 : decode cX7_writeEdition 59 = .ok (.bipush 58, 2) := by decide +kernel
theorem dX7_writeEdition_61 : decode cX7_writeEdition 61 = .ok (.invokevirtual 251, 3) := by decide +kernel
theorem dX7_writeEdition_64 : decode cX7_writeEdition 64 = .ok (.pop, 1) := by decide +kernel
theorem dX7_writeEdition_65 : decode cX7_writeEdition 65 = .ok (.aload_n 0, 1) := by decide +kernel
theorem dX7_writeEdition_66 : decode cX7_writeEdition 66 = .ok (.getfield 57, 3) := by decide +kernel
theorem dX7_writeEdition_69 : decode cX7_writeEdition 69 = .ok (.aload_n 0, 1) := by decide +kernel
theorem dX7_writeEdition_70 : decode cX7_writeEdition 70 = .ok (.getfield 12, 3) := by decide +kernel
theorem dX7_writeEdition_73 : decode cX7_writeEdition 73 = .ok (.getfield 147, 3) := by decide +kernel
theorem dX7_writeEdition_76 : decode cX7_writeEdition 76 = .ok (.iload_n 1, 1) := by decide +kernel
theorem dX7_writeEdition_77 : decode cX7_writeEdition 77 = .ok (.iaload, 1) := by decide +kernel
theorem dX7_writeEdition_78 : decode cX7_writeEdition 78 = .ok (.invokevirtual 247, 3) := by decide +kernel
theorem dX7_writeEdition_81 : decode cX7_writeEdition 81 = .ok (.pop, 1) := by decide +kernel
theorem dX7_writeEdition_82 : decode cX7_writeEdition 82 = .ok (.aload_n 0, 1) := by decide +kernel
theorem dX7_writeEdition_83 : decode cX7_writeEdition 83 = .ok (.getfield 57, 3) := by decide +kernel
theorem dX7_writeEdition_86 : decode cX7_writeEdition 86 = .ok (.bipush 47, 2) := by decide +kernel
theorem dX7_writeEdition_88 : decode cX7_writeEdition 88 = .ok (.invokevirtual 251, 3) := by decide +kernel
theorem dX7_writeEdition_91 : decode cX7_writeEdition 91 = .ok (.pop, 1) := by decide +kernel
theorem dX7_writeEdition_92 : decode cX7_writeEdition 92 = .ok (.aload_n 0, 1) := by decide +kernel
theorem dX7_writeEdition_93 : decode cX7_writeEdition 93 = .ok (.getfield 57, 3) := by decide +kernel
theorem dX7_writeEdition_96 : decode cX7_writeEdition 96 = .ok (.aload_n 0, 1) := by decide +kernel
theorem dX7_writeEdition_97 : decode cX7_writeEdition 97 = .ok (.getfield 12, 3) := by decide +kernel
theorem dX7_writeEdition_100 : decode cX7_writeEdition 100 = .ok (.getfield 144, 3) := by decide +kernel
theorem dX7_writeEdition_103 : decode cX7_writeEdition 103 = .ok (.iload_n 1, 1) := by decide +kernel
theorem dX7_writeEdition_104 : decode cX7_writeEdition 104 = .ok (.iaload, 1) := by decide +kernel
theorem dX7_writeEdition_105 : decode cX7_writeEdition 105 = .ok (.invokevirtual 247, 3) := by decide +kernel
theorem dX7_writeEdition_108 : decode cX7_writeEdition 108 = .ok (.pop, 1) := by decide +kernel
theorem dX7_writeEdition_109 : decode cX7_writeEdition 109 = .ok (.aload_n 0, 1) := by decide +kernel
theorem dX7_writeEdition_110 : decode cX7_writeEdition 110 = .ok (.getfield 57, 3) := by decide +kernel
theorem dX7_writeEdition_113 : decode cX7_writeEdition 113 = .ok (.invokevirtual 254, 3) := by decide +kernel
theorem dX7_writeEdition_116 : decode cX7_writeEdition 116 = .ok (.ireturn, 1) := by decide +kernel
theorem dX7_writeWells_0 : decode cX7_writeWells 0 = .ok (.aload_n 0, 1) := by decide +kernel
theorem dX7_writeWells_1 : decode cX7_writeWells 1 = .ok (.getfield 57, 3) := by decide +kernel
theorem dX7_writeWells_4 : decode cX7_writeWells 4 = .ok (.iconst 0, 1) := by decide +kernel
theorem dX7_writeWells_5 : decode cX7_writeWells 5 = .ok (.invokevirtual 243, 3) := by decide +kernel
theorem dX7_writeWells_8 : decode cX7_writeWells 8 = .ok (.iconst 0, 1) := by decide +kernel
theorem dX7_writeWells_9 : decode cX7_writeWells 9 = .ok (.istore_n 1, 1) := by decide +kernel
theorem dX7_writeWells_10 : decode cX7_writeWells 10 = .ok (.iload_n 1, 1) := by decide +kernel
theorem dX7_writeWells_11 : decode cX7_writeWells 11 = .ok (.bipush 10, 2) := by decide +kernel
theorem dX7_writeWells_13 : decode cX7_writeWells 13 = .ok (.if_icmp .ge 40, 3) := by decide +kernel
theorem dX7_writeWells_16 : decode cX7_writeWells 16 = .ok (.iload_n 1, 1) := by decide +kernel
theorem dX7_writeWells_17 : decode cX7_writeWells 17 = .ok (.ifCond .le 13, 3) := by decide +kernel
theorem dX7_writeWells_20 : decode cX7_writeWells 20 = .ok (.aload_n 0, 1) := by decide +kernel
theorem dX7_writeWells_21 : decode cX7_writeWells 21 = .ok (.getfield 57, 3) := by decide +kernel
theorem dX7_writeWells_24 : decode cX7_writeWells 24 = .ok (.bipush 32, 2) := by decide +kernel
theorem dX7_writeWells_26 : decode cX7_writeWells 26 = .ok (.invokevirtual 251, 3) := by decide +kernel
theorem dX7_writeWells_29 : decode cX7_writeWells 29 = .ok (.pop, 1) := by decide +kernel
theorem dX7_writeWells_30 : decode cX7_writeWells 30 = .ok (.aload_n 0, 1) := by decide +kernel
theorem dX7_writeWells_31 : decode cX7_writeWells 31 = .ok (.getfield 57, 3) := by decide +kernel
theorem dX7_writeWells_34 : decode cX7_writeWells 34 = .ok (.aload_n 0, 1) := by decide +kernel
theorem dX7_writeWells_35 : decode cX7_writeWells 35 = .ok (.getfield 12, 3) := by decide +kernel
theorem dX7_writeWells_38 : decode cX7_writeWells 38 = .ok (.getfield 96, 3) := by decide +kernel
theorem dX7_writeWells_41 : decode cX7_writeWells 41 = .ok (.iload_n 1, 1) := by decide +kernel
theorem dX7_writeWells_42 : decode cX7_writeWells 42 = .ok (.iaload, 1) := by decide +kernel
theorem dX7_writeWells_43 : decode cX7_writeWells 43 = .ok (.invokevirtual 247, 3) := by decide +kernel
theorem dX7_writeWells_46 : decode cX7_writeWells 46 = .ok (.pop, 1) := by decide +kernel
theorem dX7_writeWells_47 : decode cX7_writeWells 47 = .ok (.iinc 1 1, 3) := by decide +kernel
theorem dX7_writeWells_50 : decode cX7_writeWells 50 = .ok (.goto (-40), 3) := by decide +kernel
theorem dX7_writeWells_53 : decode cX7_writeWells 53 = .ok (.aload_n 0, 1) := by decide +kernel
theorem dX7_writeWells_54 : decode cX7_writeWells 54 = .ok (.getfield 57, 3) := by decide +kernel
theorem dX7_writeWells_57 : decode cX7_writeWells 57 = .ok (.invokevirtual 254, 3) := by decide +kernel
theorem dX7_writeWells_60 : decode cX7_writeWells 60 = .ok (.ireturn, 1) := by decide +kernel
theorem dX7_lineAt_0 : decode cX7_lineAt 0 = .ok (.iload_n 1, 1) := by decide +kernel
theorem dX7_lineAt_1 : decode cX7_lineAt 1 = .ok (.iconst 0, 1) := by decide +kernel
theorem dX7_lineAt_2 : decode cX7_lineAt 2 = .ok (.aload_n 0, 1) := by decide +kernel
theorem dX7_lineAt_3 : decode cX7_lineAt 3 = .ok (.getfield 57, 3) := by decide +kernel
theorem dX7_lineAt_6 : decode cX7_lineAt 6 = .ok (.invokevirtual 254, 3) := by decide +kernel
theorem dX7_lineAt_9 : decode cX7_lineAt 9 = .ok (.iconst 1, 1) := by decide +kernel
theorem dX7_lineAt_10 : decode cX7_lineAt 10 = .ok (.isub, 1) := by decide +kernel
theorem dX7_lineAt_11 : decode cX7_lineAt 11 = .ok (.invokestatic 106, 3) := by decide +kernel
theorem dX7_lineAt_14 : decode cX7_lineAt 14 = .ok (.invokestatic 138, 3) := by decide +kernel
theorem dX7_lineAt_17 : decode cX7_lineAt 17 = .ok (.aload_n 0, 1) := by decide +kernel
theorem dX7_lineAt_18 : decode cX7_lineAt 18 = .ok (.getfield 57, 3) := by decide +kernel
theorem dX7_lineAt_21 : decode cX7_lineAt 21 = .ok (.iload_n 1, 1) := by decide +kernel
theorem dX7_lineAt_22 : decode cX7_lineAt 22 = .ok (.invokevirtual 258, 3) := by decide +kernel
theorem dX7_lineAt_25 : decode cX7_lineAt 25 = .ok (.ireturn, 1) := by decide +kernel
theorem dX7_isConsistent_0 : decode cX7_isConsistent 0 = .ok (.aload_n 0, 1) := by decide +kernel
theorem dX7_isConsistent_1 : decode cX7_isConsistent 1 = .ok (.invokevirtual 262, 3) := by decide +kernel
theorem dX7_isConsistent_4 : decode cX7_isConsistent 4 = .ok (.ifCond .eq 43, 3) := by decide +kernel
theorem dX7_isConsistent_7 : decode cX7_isConsistent 7 = .ok (.aload_n 0, 1) := by decide +kernel
theorem dX7_isConsistent_8 : decode cX7_isConsistent 8 = .ok (.invokevirtual 266, 3) := by decide +kernel
theorem dX7_isConsistent_11 : decode cX7_isConsistent 11 = .ok (.aload_n 0, 1) := by decide +kernel
theorem dX7_isConsistent_12 : decode cX7_isConsistent 12 = .ok (.invokevirtual 269, 3) := by decide +kernel
theorem dX7_isConsistent_15 : decode cX7_isConsistent 15 = .ok (.if_icmp .ne 32, 3) := by decide +kernel
theorem dX7_isConsistent_18 : decode cX7_isConsistent 18 = .ok (.aload_n 0, 1) := by decide +kernel
theorem dX7_isConsistent_19 : decode cX7_isConsistent 19 = .ok (.invokevirtual 272, 3) := by decide +kernel
theorem dX7_isConsistent_22 : decode cX7_isConsistent 22 = .ok (.ifCond .eq 25, 3) := by decide +kernel
theorem dX7_isConsistent_25 : decode cX7_isConsistent 25 = .ok (.aload_n 0, 1) := by decide +kernel
theorem dX7_isConsistent_26 : decode cX7_isConsistent 26 = .ok (.invokevirtual 275, 3) := by decide +kernel
theorem dX7_isConsistent_29 : decode cX7_isConsistent 29 = .ok (.aload_n 0, 1) := by decide +kernel
theorem dX7_isConsistent_30 : decode cX7_isConsistent 30 = .ok (.invokevirtual 278, 3) := by decide +kernel
theorem dX7_isConsistent_33 : decode cX7_isConsistent 33 = .ok (.if_icmp .ne 14, 3) := by decide +kernel
theorem dX7_isConsistent_36 : decode cX7_isConsistent 36 = .ok (.aload_n 0, 1) := by decide +kernel
theorem dX7_isConsistent_37 : decode cX7_isConsistent 37 = .ok (.invokevirtual 281, 3) := by decide +kernel
theorem dX7_isConsistent_40 : decode cX7_isConsistent 40 = .ok (.ifCond .eq 7, 3) := by decide +kernel
theorem dX7_isConsistent_43 : decode cX7_isConsistent 43 = .ok (.iconst 1, 1) := by decide +kernel
theorem dX7_isConsistent_44 : decode cX7_isConsistent 44 = .ok (.goto 4, 3) := by decide +kernel
theorem dX7_isConsistent_47 : decode cX7_isConsistent 47 = .ok (.iconst 0, 1) := by decide +kernel
theorem dX7_isConsistent_48 : decode cX7_isConsistent 48 = .ok (.ireturn, 1) := by decide +kernel
theorem dX7_type_0 : decode cX7_type 0 = .ok (.iload_n 1, 1) := by decide +kernel
theorem dX7_type_1 : decode cX7_type 1 = .ok (.bipush 32, 2) := by decide +kernel
theorem dX7_type_3 : decode cX7_type 3 = .ok (.bipush 126, 2) := by decide +kernel
theorem dX7_type_5 : decode cX7_type 5 = .ok (.invokestatic 106, 3) := by decide +kernel
theorem dX7_type_8 : decode cX7_type 8 = .ok (.invokestatic 92, 3) := by decide +kernel
theorem dX7_type_11 : decode cX7_type 11 = .ok (.aload_n 0, 1) := by decide +kernel
theorem dX7_type_12 : decode cX7_type 12 = .ok (.getfield 50, 3) := by decide +kernel
theorem dX7_type_15 : decode cX7_type 15 = .ok (.invokevirtual 284, 3) := by decide +kernel
theorem dX7_type_18 : decode cX7_type 18 = .ok (.bipush 60, 2) := by decide +kernel
theorem dX7_type_20 : decode cX7_type 20 = .ok (.if_icmp .ge 7, 3) := by decide +kernel
theorem dX7_type_23 : decode cX7_type 23 = .ok (.iconst 1, 1) := by decide +kernel
theorem dX7_type_24 : decode cX7_type 24 = .ok (.goto 4, 3) := by decide +kernel
theorem dX7_type_27 : decode cX7_type 27 = .ok (.iconst 0, 1) := by decide +kernel
theorem dX7_type_28 : decode cX7_type 28 = .ok (.invokestatic 285, 3) := by decide +kernel
theorem dX7_type_31 : decode cX7_type 31 = .ok (.aload_n 0, 1) := by decide +kernel
theorem dX7_type_32 : decode cX7_type 32 = .ok (.getfield 50, 3) := by decide +kernel
theorem dX7_type_35 : decode cX7_type 35 = .ok (.iload_n 1, 1) := by decide +kernel
theorem dX7_type_36 : decode cX7_type 36 = .ok (.invokevirtual 288, 3) := by decide +kernel
theorem dX7_type_39 : decode cX7_type 39 = .ok (.aload_n 0, 1) := by decide +kernel
theorem dX7_type_40 : decode cX7_type 40 = .ok (.getfield 50, 3) := by decide +kernel
theorem dX7_type_43 : decode cX7_type 43 = .ok (.invokevirtual 284, 3) := by decide +kernel
theorem dX7_type_46 : decode cX7_type 46 = .ok (.ireturn, 1) := by decide +kernel
theorem dX7_execute_0 : decode cX7_execute 0 = .ok (.aload_n 0, 1) := by decide +kernel
theorem dX7_execute_1 : decode cX7_execute 1 = .ok (.getfield 50, 3) := by decide +kernel
theorem dX7_execute_4 : decode cX7_execute 4 = .ok (.invokevirtual 292, 3) := by decide +kernel
theorem dX7_execute_7 : decode cX7_execute 7 = .ok (.istore_n 1, 1) := by decide +kernel
theorem dX7_execute_8 : decode cX7_execute 8 = .ok (.aload_n 0, 1) := by decide +kernel
theorem dX7_execute_9 : decode cX7_execute 9 = .ok (.getfield 50, 3) := by decide +kernel
theorem dX7_execute_12 : decode cX7_execute 12 = .ok (.invokevirtual 295, 3) := by decide +kernel
theorem dX7_execute_15 : decode cX7_execute 15 = .ok (.iload_n 1, 1) := by decide +kernel
theorem dX7_execute_16 : decode cX7_execute 16 = .ok (.ifCond .ne 25, 3) := by decide +kernel
theorem dX7_execute_19 : decode cX7_execute 19 = .ok (.aload_n 0, 1) := by decide +kernel
theorem dX7_execute_20 : decode cX7_execute 20 = .ok (.aload_n 0, 1) := by decide +kernel
theorem dX7_execute_21 : decode cX7_execute 21 = .ok (.getfield 50, 3) := by decide +kernel
theorem dX7_execute_24 : decode cX7_execute 24 = .ok (.getfield 298, 3) := by decide +kernel
theorem dX7_execute_27 : decode cX7_execute 27 = .ok (.putfield 65, 3) := by decide +kernel
theorem dX7_execute_30 : decode cX7_execute 30 = .ok (.new 301, 3) := by decide +kernel
theorem dX7_execute_33 : decode cX7_execute 33 = .ok (.dup, 1) := by decide +kernel
theorem dX7_execute_34 : decode cX7_execute 34 = .ok (.ldc_w 303, 3) := by decide +kernel
theorem dX7_execute_37 : decode cX7_execute 37 = .ok (.invokespecial 305, 3) := by decide +kernel
theorem dX7_execute_40 : decode cX7_execute 40 = .ok (.athrow, 1) := by decide +kernel
theorem dX7_execute_41 : decode cX7_execute 41 = .ok (.aload_n 0, 1) := by decide +kernel
theorem dX7_execute_42 : decode cX7_execute 42 = .ok (.getfield 22, 3) := by decide +kernel
theorem dX7_execute_45 : decode cX7_execute 45 = .ok (.aload_n 0, 1) := by decide +kernel
theorem dX7_execute_46 : decode cX7_execute 46 = .ok (.getfield 12, 3) := by decide +kernel
theorem dX7_execute_49 : decode cX7_execute 49 = .ok (.invokevirtual 306, 3) := by decide +kernel
theorem dX7_execute_52 : decode cX7_execute 52 = .ok (.aload_n 0, 1) := by decide +kernel
theorem dX7_execute_53 : decode cX7_execute 53 = .ok (.invokevirtual 309, 3) := by decide +kernel
theorem dX7_execute_56 : decode cX7_execute 56 = .ok (.istore_n 2, 1) := by decide +kernel
theorem dX7_execute_57 : decode cX7_execute 57 = .ok (.iload_n 2, 1) := by decide +kernel
theorem dX7_execute_58 : decode cX7_execute 58 = .ok (.iconst (-1), 1) := by decide +kernel
theorem dX7_execute_59 : decode cX7_execute 59 = .ok (.if_icmp .eq 30, 3) := by decide +kernel
theorem dX7_execute_62 : decode cX7_execute 62 = .ok (.aload_n 0, 1) := by decide +kernel
theorem dX7_execute_63 : decode cX7_execute 63 = .ok (.getfield 22, 3) := by decide +kernel
theorem dX7_execute_66 : decode cX7_execute 66 = .ok (.aload_n 0, 1) := by decide +kernel
theorem dX7_execute_67 : decode cX7_execute 67 = .ok (.getfield 12, 3) := by decide +kernel
theorem dX7_execute_70 : decode cX7_execute 70 = .ok (.invokevirtual 312, 3) := by decide +kernel
theorem dX7_execute_73 : decode cX7_execute 73 = .ok (.aload_n 0, 1) := by decide +kernel
theorem dX7_execute_74 : decode cX7_execute 74 = .ok (.iload_n 2, 1) := by decide +kernel
theorem dX7_execute_75 : decode cX7_execute 75 = .ok (.putfield 69, 3) := by decide +kernel
theorem dX7_execute_78 : decode cX7_execute 78 = .ok (.new 315, 3) := by decide +kernel
theorem dX7_execute_81 : decode cX7_execute 81 = .ok (.dup, 1) := by decide +kernel
theorem dX7_execute_82 : decode cX7_execute 82 = .ok (.ldc_w 317, 3) := by decide +kernel
theorem dX7_execute_85 : decode cX7_execute 85 = .ok (.invokespecial 319, 3) := by decide +kernel
theorem dX7_execute_88 : decode cX7_execute 88 = .ok (.athrow, 1) := by decide +kernel
theorem dX7_execute_89 : decode cX7_execute 89 = .ok (.aload_n 0, 1) := by decide +kernel
theorem dX7_execute_90 : decode cX7_execute 90 = .ok (.getfield 22, 3) := by decide +kernel
theorem dX7_execute_93 : decode cX7_execute 93 = .ok (.invokevirtual 320, 3) := by decide +kernel
theorem dX7_execute_96 : decode cX7_execute 96 = .ok (.aload_n 0, 1) := by decide +kernel
theorem dX7_execute_97 : decode cX7_execute 97 = .ok (.getfield 50, 3) := by decide +kernel
theorem dX7_execute_100 : decode cX7_execute 100 = .ok (.getfield 323, 3) := by decide +kernel
theorem dX7_execute_103 : decode cX7_execute 103 = .ok (.ireturn, 1) := by decide +kernel
theorem dX7_errorPosition_0 : decode cX7_errorPosition 0 = .ok (.aload_n 0, 1) := by decide +kernel
theorem dX7_errorPosition_1 : decode cX7_errorPosition 1 = .ok (.getfield 65, 3) := by decide +kernel
theorem dX7_errorPosition_4 : decode cX7_errorPosition 4 = .ok (.iconst (-1), 1) := by decide +kernel
theorem dX7_errorPosition_5 : decode cX7_errorPosition 5 = .ok (.if_icmp .eq 7, 3) := by decide +kernel
theorem dX7_errorPosition_8 : decode cX7_errorPosition 8 = .ok (.iconst 1, 1) := by decide +kernel
theorem dX7_errorPosition_9 : decode cX7_errorPosition 9 = .ok (.goto 4, 3) := by decide +kernel
theorem dX7_errorPosition_12 : decode cX7_errorPosition 12 = .ok (.iconst 0, 1) := by decide +kernel
theorem dX7_errorPosition_13 : decode cX7_errorPosition 13 = .ok (.invokestatic 174, 3) := by decide +kernel
theorem dX7_errorPosition_16 : decode cX7_errorPosition 16 = .ok (.aload_n 0, 1) := by decide +kernel
theorem dX7_errorPosition_17 : decode cX7_errorPosition 17 = .ok (.getfield 65, 3) := by decide +kernel
theorem dX7_errorPosition_20 : decode cX7_errorPosition 20 = .ok (.ireturn, 1) := by decide +kernel
theorem dX7_failedCommand_0 : decode cX7_failedCommand 0 = .ok (.aload_n 0, 1) := by decide +kernel
theorem dX7_failedCommand_1 : decode cX7_failedCommand 1 = .ok (.getfield 69, 3) := by decide +kernel
theorem dX7_failedCommand_4 : decode cX7_failedCommand 4 = .ok (.iconst (-1), 1) := by decide +kernel
theorem dX7_failedCommand_5 : decode cX7_failedCommand 5 = .ok (.if_icmp .eq 7, 3) := by decide +kernel
theorem dX7_failedCommand_8 : decode cX7_failedCommand 8 = .ok (.iconst 1, 1) := by decide +kernel
theorem dX7_failedCommand_9 : decode cX7_failedCommand 9 = .ok (.goto 4, 3) := by decide +kernel
theorem dX7_failedCommand_12 : decode cX7_failedCommand 12 = .ok (.iconst 0, 1) := by decide +kernel
theorem dX7_failedCommand_13 : decode cX7_failedCommand 13 = .ok (.invokestatic 174, 3) := by decide +kernel
theorem dX7_failedCommand_16 : decode cX7_failedCommand 16 = .ok (.aload_n 0, 1) := by decide +kernel
theorem dX7_failedCommand_17 : decode cX7_failedCommand 17 = .ok (.getfield 69, 3) := by decide +kernel
theorem dX7_failedCommand_20 : decode cX7_failedCommand 20 = .ok (.ireturn, 1) := by decide +kernel
theorem dX7_undo_0 : decode cX7_undo 0 = .ok (.aload_n 0, 1) := by decide +kernel
theorem dX7_undo_1 : decode cX7_undo 1 = .ok (.getfield 22, 3) := by decide +kernel
theorem dX7_undo_4 : decode cX7_undo 4 = .ok (.getfield 324, 3) := by decide +kernel
theorem dX7_undo_7 : decode cX7_undo 7 = .ok (.ifCond .le 7, 3) := by decide +kernel
theorem dX7_undo_10 : decode cX7_undo 10 = .ok (.iconst 1, 1) := by decide +kernel
theorem dX7_undo_11 : decode cX7_undo 11 = .ok (.goto 4, 3) := by decide +kernel
theorem dX7_undo_14 : decode cX7_undo 14 = .ok (.iconst 0, 1) := by decide +kernel
theorem dX7_undo_15 : decode cX7_undo 15 = .ok (.invokestatic 285, 3) := by decide +kernel
theorem dX7_undo_18 : decode cX7_undo 18 = .ok (.aload_n 0, 1) := by decide +kernel
theorem dX7_undo_19 : decode cX7_undo 19 = .ok (.getfield 22, 3) := by decide +kernel
theorem dX7_undo_22 : decode cX7_undo 22 = .ok (.aload_n 0, 1) := by decide +kernel
theorem dX7_undo_23 : decode cX7_undo 23 = .ok (.getfield 12, 3) := by decide +kernel
theorem dX7_undo_26 : decode cX7_undo 26 = .ok (.invokevirtual 327, 3) := by decide +kernel
theorem dX7_undo_29 : decode cX7_undo 29 = .ok (.aload_n 0, 1) := by decide +kernel
theorem dX7_undo_30 : decode cX7_undo 30 = .ok (.getfield 22, 3) := by decide +kernel
theorem dX7_undo_33 : decode cX7_undo 33 = .ok (.getfield 324, 3) := by decide +kernel
theorem dX7_undo_36 : decode cX7_undo 36 = .ok (.ireturn, 1) := by decide +kernel
theorem dX7_save_0 : decode cX7_save 0 = .ok (.aload_n 0, 1) := by decide +kernel
theorem dX7_save_1 : decode cX7_save 1 = .ok (.getfield 16, 3) := by decide +kernel
theorem dX7_save_4 : decode cX7_save 4 = .ok (.aload_n 0, 1) := by decide +kernel
theorem dX7_save_5 : decode cX7_save 5 = .ok (.getfield 12, 3) := by decide +kernel
theorem dX7_save_8 : decode cX7_save 8 = .ok (.invokevirtual 330, 3) := by decide +kernel
theorem dX7_save_11 : decode cX7_save 11 = .ok (.aload_n 0, 1) := by decide +kernel
theorem dX7_save_12 : decode cX7_save 12 = .ok (.iconst 1, 1) := by decide +kernel
theorem dX7_save_13 : decode cX7_save 13 = .ok (.putfield 61, 3) := by decide +kernel
theorem dX7_save_16 : decode cX7_save 16 = .ok (.aload_n 0, 1) := by decide +kernel
theorem dX7_save_17 : decode cX7_save 17 = .ok (.getfield 12, 3) := by decide +kernel
theorem dX7_save_20 : decode cX7_save 20 = .ok (.getfield 132, 3) := by decide +kernel
theorem dX7_save_23 : decode cX7_save 23 = .ok (.ireturn, 1) := by decide +kernel
theorem dX7_restore_0 : decode cX7_restore 0 = .ok (.aload_n 0, 1) := by decide +kernel
theorem dX7_restore_1 : decode cX7_restore 1 = .ok (.getfield 61, 3) := by decide +kernel
theorem dX7_restore_4 : decode cX7_restore 4 = .ok (.invokestatic 285, 3) := by decide +kernel
theorem dX7_restore_7 : decode cX7_restore 7 = .ok (.aload_n 0, 1) := by decide +kernel
theorem dX7_restore_8 : decode cX7_restore 8 = .ok (.getfield 12, 3) := by decide +kernel
theorem dX7_restore_11 : decode cX7_restore 11 = .ok (.aload_n 0, 1) := by decide +kernel
theorem dX7_restore_12 : decode cX7_restore 12 = .ok (.getfield 16, 3) := by decide +kernel
theorem dX7_restore_15 : decode cX7_restore 15 = .ok (.invokevirtual 330, 3) := by decide +kernel
theorem dX7_restore_18 : decode cX7_restore 18 = .ok (.aload_n 0, 1) := by decide +kernel
theorem dX7_restore_19 : decode cX7_restore 19 = .ok (.getfield 22, 3) := by decide +kernel
theorem dX7_restore_22 : decode cX7_restore 22 = .ok (.invokevirtual 333, 3) := by decide +kernel
theorem dX7_restore_25 : decode cX7_restore 25 = .ok (.aload_n 0, 1) := by decide +kernel
theorem dX7_restore_26 : decode cX7_restore 26 = .ok (.getfield 12, 3) := by decide +kernel
theorem dX7_restore_29 : decode cX7_restore 29 = .ok (.getfield 132, 3) := by decide +kernel
theorem dX7_restore_32 : decode cX7_restore 32 = .ok (.ireturn, 1) := by decide +kernel
theorem dX7_modify_0 : decode cX7_modify 0 = .ok (.aload_n 0, 1) := by decide +kernel
theorem dX7_modify_1 : decode cX7_modify 1 = .ok (.getfield 22, 3) := by decide +kernel
theorem dX7_modify_4 : decode cX7_modify 4 = .ok (.aload_n 0, 1) := by decide +kernel
theorem dX7_modify_5 : decode cX7_modify 5 = .ok (.getfield 12, 3) := by decide +kernel
theorem dX7_modify_8 : decode cX7_modify 8 = .ok (.invokevirtual 306, 3) := by decide +kernel
theorem dX7_modify_11 : decode cX7_modify 11 = .ok (.aload_n 0, 1) := by decide +kernel
theorem dX7_modify_12 : decode cX7_modify 12 = .ok (.aload_n 1, 1) := by decide +kernel
theorem dX7_modify_13 : decode cX7_modify 13 = .ok (.iload_n 2, 1) := by decide +kernel
theorem dX7_modify_14 : decode cX7_modify 14 = .ok (.iload_n 3, 1) := by decide +kernel
theorem dX7_modify_15 : decode cX7_modify 15 = .ok (.invokevirtual 336, 3) := by decide +kernel
theorem dX7_modify_18 : decode cX7_modify 18 = .ok (.istore 4, 2) := by decide +kernel
theorem dX7_modify_20 : decode cX7_modify 20 = .ok (.iload 4, 2) := by decide +kernel
theorem dX7_modify_22 : decode cX7_modify 22 = .ok (.invokestatic 339, 3) := by decide +kernel
theorem dX7_modify_25 : decode cX7_modify 25 = .ok (.aload_n 0, 1) := by decide +kernel
theorem dX7_modify_26 : decode cX7_modify 26 = .ok (.getfield 22, 3) := by decide +kernel
theorem dX7_modify_29 : decode cX7_modify 29 = .ok (.invokevirtual 320, 3) := by decide +kernel
theorem dX7_modify_32 : decode cX7_modify 32 = .ok (.iload 4, 2) := by decide +kernel
theorem dX7_modify_34 : decode cX7_modify 34 = .ok (.ireturn, 1) := by decide +kernel
theorem dX7_carryOut_0 : decode cX7_carryOut 0 = .ok (.aload_n 1, 1) := by decide +kernel
theorem dX7_carryOut_1 : decode cX7_carryOut 1 = .ok (.getstatic 72, 3) := by decide +kernel
theorem dX7_carryOut_4 : decode cX7_carryOut 4 = .ok (.if_acmp .ne 13, 3) := by decide +kernel
theorem dX7_carryOut_7 : decode cX7_carryOut 7 = .ok (.aload_n 0, 1) := by decide +kernel
theorem dX7_carryOut_8 : decode cX7_carryOut 8 = .ok (.getfield 12, 3) := by decide +kernel
theorem dX7_carryOut_11 : decode cX7_carryOut 11 = .ok (.iload_n 2, 1) := by decide +kernel
theorem dX7_carryOut_12 : decode cX7_carryOut 12 = .ok (.iload_n 3, 1) := by decide +kernel
theorem dX7_carryOut_13 : decode cX7_carryOut 13 = .ok (.invokevirtual 342, 3) := by decide +kernel
theorem dX7_carryOut_16 : decode cX7_carryOut 16 = .ok (.ireturn, 1) := by decide +kernel
theorem dX7_carryOut_17 : decode cX7_carryOut 17 = .ok (.aload_n 1, 1) := by decide +kernel
theorem dX7_carryOut_18 : decode cX7_carryOut 18 = .ok (.getstatic 82, 3) := by decide +kernel
theorem dX7_carryOut_21 : decode cX7_carryOut 21 = .ok (.if_acmp .ne 12, 3) := by decide +kernel
theorem dX7_carryOut_24 : decode cX7_carryOut 24 = .ok (.aload_n 0, 1) := by decide +kernel
theorem dX7_carryOut_25 : decode cX7_carryOut 25 = .ok (.getfield 12, 3) := by decide +kernel
theorem dX7_carryOut_28 : decode cX7_carryOut 28 = .ok (.iload_n 2, 1) := by decide +kernel
theorem dX7_carryOut_29 : decode cX7_carryOut 29 = .ok (.invokevirtual 345, 3) := by decide +kernel
theorem dX7_carryOut_32 : decode cX7_carryOut 32 = .ok (.ireturn, 1) := by decide +kernel
theorem dX7_carryOut_33 : decode cX7_carryOut 33 = .ok (.aload_n 1, 1) := by decide +kernel
theorem dX7_carryOut_34 : decode cX7_carryOut 34 = .ok (.getstatic 120, 3) := by decide +kernel
theorem dX7_carryOut_37 : decode cX7_carryOut 37 = .ok (.if_acmp .ne 13, 3) := by decide +kernel
theorem dX7_carryOut_40 : decode cX7_carryOut 40 = .ok (.aload_n 0, 1) := by decide +kernel
theorem dX7_carryOut_41 : decode cX7_carryOut 41 = .ok (.getfield 12, 3) := by decide +kernel
theorem dX7_carryOut_44 : decode cX7_carryOut 44 = .ok (.iload_n 2, 1) := by decide +kernel
theorem dX7_carryOut_45 : decode cX7_carryOut 45 = .ok (.iload_n 3, 1) := by decide +kernel
theorem dX7_carryOut_46 : decode cX7_carryOut 46 = .ok (.invokevirtual 348, 3) := by decide +kernel
theorem dX7_carryOut_49 : decode cX7_carryOut 49 = .ok (.ireturn, 1) := by decide +kernel
theorem dX7_carryOut_50 : decode cX7_carryOut 50 = .ok (.aload_n 1, 1) := by decide +kernel
theorem dX7_carryOut_51 : decode cX7_carryOut 51 = .ok (.getstatic 123, 3) := by decide +kernel
theorem dX7_carryOut_54 : decode cX7_carryOut 54 = .ok (.if_acmp .ne 12, 3) := by decide +kernel
theorem dX7_carryOut_57 : decode cX7_carryOut 57 = .ok (.aload_n 0, 1) := by decide +kernel
theorem dX7_carryOut_58 : decode cX7_carryOut 58 = .ok (.getfield 12, 3) := by decide +kernel
theorem dX7_carryOut_61 : decode cX7_carryOut 61 = .ok (.iload_n 2, 1) := by decide +kernel
theorem dX7_carryOut_62 : decode cX7_carryOut 62 = .ok (.invokevirtual 351, 3) := by decide +kernel
theorem dX7_carryOut_65 : decode cX7_carryOut 65 = .ok (.ireturn, 1) := by decide +kernel
theorem dX7_carryOut_66 : decode cX7_carryOut 66 = .ok (.aload_n 1, 1) := by decide +kernel
theorem dX7_carryOut_67 : decode cX7_carryOut 67 = .ok (.getstatic 126, 3) := by decide +kernel
theorem dX7_carryOut_70 : decode cX7_carryOut 70 = .ok (.if_acmp .ne 12, 3) := by decide +kernel
theorem dX7_carryOut_73 : decode cX7_carryOut 73 = .ok (.aload_n 0, 1) := by decide +kernel
theorem dX7_carryOut_74 : decode cX7_carryOut 74 = .ok (.getfield 12, 3) := by decide +kernel
theorem dX7_carryOut_77 : decode cX7_carryOut 77 = .ok (.iload_n 2, 1) := by decide +kernel
theorem dX7_carryOut_78 : decode cX7_carryOut 78 = .ok (.invokevirtual 354, 3) := by decide +kernel
theorem dX7_carryOut_81 : decode cX7_carryOut 81 = .ok (.ireturn, 1) := by decide +kernel
theorem dX7_carryOut_82 : decode cX7_carryOut 82 = .ok (.aload_n 1, 1) := by decide +kernel
theorem dX7_carryOut_83 : decode cX7_carryOut 83 = .ok (.getstatic 129, 3) := by decide +kernel
theorem dX7_carryOut_86 : decode cX7_carryOut 86 = .ok (.if_acmp .ne 8, 3) := by decide +kernel
theorem dX7_carryOut_89 : decode cX7_carryOut 89 = .ok (.aload_n 0, 1) := by decide +kernel
theorem dX7_carryOut_90 : decode cX7_carryOut 90 = .ok (.invokevirtual 357, 3) := by decide +kernel
theorem dX7_carryOut_93 : decode cX7_carryOut 93 = .ok (.ireturn, 1) := by decide +kernel
theorem dX7_carryOut_94 : decode cX7_carryOut 94 = .ok (.aload_n 1, 1) := by decide +kernel
theorem dX7_carryOut_95 : decode cX7_carryOut 95 = .ok (.getstatic 85, 3) := by decide +kernel
theorem dX7_carryOut_98 : decode cX7_carryOut 98 = .ok (.if_acmp .ne 12, 3) := by decide +kernel
theorem dX7_carryOut_101 : decode cX7_carryOut 101 = .ok (.aload_n 0, 1) := by decide +kernel
theorem dX7_carryOut_102 : decode cX7_carryOut 102 = .ok (.getfield 12, 3) := by decide +kernel
theorem dX7_carryOut_105 : decode cX7_carryOut 105 = .ok (.iload_n 2, 1) := by decide +kernel
theorem dX7_carryOut_106 : decode cX7_carryOut 106 = .ok (.invokevirtual 360, 3) := by decide +kernel
theorem dX7_carryOut_109 : decode cX7_carryOut 109 = .ok (.ireturn, 1) := by decide +kernel
theorem dX7_carryOut_110 : decode cX7_carryOut 110 = .ok (.aload_n 1, 1) := by decide +kernel
theorem dX7_carryOut_111 : decode cX7_carryOut 111 = .ok (.getstatic 192, 3) := by decide +kernel
theorem dX7_carryOut_114 : decode cX7_carryOut 114 = .ok (.if_acmp .ne 12, 3) := by decide +kernel
theorem dX7_carryOut_117 : decode cX7_carryOut 117 = .ok (.aload_n 0, 1) := by decide +kernel
theorem dX7_carryOut_118 : decode cX7_carryOut 118 = .ok (.getfield 12, 3) := by decide +kernel
theorem dX7_carryOut_121 : decode cX7_carryOut 121 = .ok (.iload_n 2, 1) := by decide +kernel
theorem dX7_carryOut_122 : decode cX7_carryOut 122 = .ok (.invokevirtual 363, 3) := by decide +kernel
theorem dX7_carryOut_125 : decode cX7_carryOut 125 = .ok (.ireturn, 1) := by decide +kernel
theorem dX7_carryOut_126 : decode cX7_carryOut 126 = .ok (.aload_n 0, 1) := by decide +kernel
theorem dX7_carryOut_127 : decode cX7_carryOut 127 = .ok (.getfield 12, 3) := by decide +kernel
theorem dX7_carryOut_130 : decode cX7_carryOut 130 = .ok (.iload_n 2, 1) := by decide +kernel
theorem dX7_carryOut_131 : decode cX7_carryOut 131 = .ok (.invokevirtual 366, 3) := by decide +kernel
theorem dX7_carryOut_134 : decode cX7_carryOut 134 = .ok (.ireturn, 1) := by decide +kernel
theorem dX7_carryOutText_0 : decode cX7_carryOutText 0 = .ok (.iconst 0, 1) := by decide +kernel
theorem dX7_carryOutText_1 : decode cX7_carryOutText 1 = .ok (.istore_n 1, 1) := by decide +kernel
theorem dX7_carryOutText_2 : decode cX7_carryOutText 2 = .ok (.iload_n 1, 1) := by decide +kernel
theorem dX7_carryOutText_3 : decode cX7_carryOutText 3 = .ok (.aload_n 0, 1) := by decide +kernel
theorem dX7_carryOutText_4 : decode cX7_carryOutText 4 = .ok (.getfield 50, 3) := by decide +kernel
theorem dX7_carryOutText_7 : decode cX7_carryOutText 7 = .ok (.getfield 323, 3) := by decide +kernel
theorem dX7_carryOutText_10 : decode cX7_carryOutText 10 = .ok (.if_icmp .ge 47, 3) := by decide +kernel
theorem dX7_carryOutText_13 : decode cX7_carryOutText 13 = .ok (.aload_n 0, 1) := by decide +kernel
theorem dX7_carryOutText_14 : decode cX7_carryOutText 14 = .ok (.aload_n 0, 1) := by decide +kernel
theorem dX7_carryOutText_15 : decode cX7_carryOutText 15 = .ok (.getfield 50, 3) := by decide +kernel
theorem dX7_carryOutText_18 : decode cX7_carryOutText 18 = .ok (.getfield 369, 3) := by decide +kernel
theorem dX7_carryOutText_21 : decode cX7_carryOutText 21 = .ok (.iload_n 1, 1) := by decide +kernel
theorem dX7_carryOutText_22 : decode cX7_carryOutText 22 = .ok (.aaload, 1) := by decide +kernel
theorem dX7_carryOutText_23 : decode cX7_carryOutText 23 = .ok (.aload_n 0, 1) := by decide +kernel
theorem dX7_carryOutText_24 : decode cX7_carryOutText 24 = .ok (.getfield 50, 3) := by decide +kernel
theorem dX7_carryOutText_27 : decode cX7_carryOutText 27 = .ok (.getfield 373, 3) := by decide +kernel
theorem dX7_carryOutText_30 : decode cX7_carryOutText 30 = .ok (.iload_n 1, 1) := by decide +kernel
theorem dX7_carryOutText_31 : decode cX7_carryOutText 31 = .ok (.iaload, 1) := by decide +kernel
theorem dX7_carryOutText_32 : decode cX7_carryOutText 32 = .ok (.aload_n 0, 1) := by decide +kernel
theorem dX7_carryOutText_33 : decode cX7_carryOutText 33 = .ok (.getfield 50, 3) := by decide +kernel
theorem dX7_carryOutText_36 : decode cX7_carryOutText 36 = .ok (.getfield 376, 3) := by decide +kernel
theorem dX7_carryOutText_39 : decode cX7_carryOutText 39 = .ok (.iload_n 1, 1) := by decide +kernel
theorem dX7_carryOutText_40 : decode cX7_carryOutText 40 = .ok (.iaload, 1) := by decide +kernel
theorem dX7_carryOutText_41 : decode cX7_carryOutText 41 = .ok (.invokevirtual 336, 3) := by decide +kernel
theorem dX7_carryOutText_44 : decode cX7_carryOutText 44 = .ok (.istore_n 2, 1) := by decide +kernel
theorem dX7_carryOutText_45 : decode cX7_carryOutText 45 = .ok (.iload_n 2, 1) := by decide +kernel
theorem dX7_carryOutText_46 : decode cX7_carryOutText 46 = .ok (.ifCond .ge 5, 3) := by decide +kernel
theorem dX7_carryOutText_49 : decode cX7_carryOutText 49 = .ok (.iload_n 1, 1) := by decide +kernel
theorem dX7_carryOutText_50 : decode cX7_carryOutText 50 = .ok (.ireturn, 1) := by decide +kernel
theorem dX7_carryOutText_51 : decode cX7_carryOutText 51 = .ok (.iinc 1 1, 3) := by decide +kernel
theorem dX7_carryOutText_54 : decode cX7_carryOutText 54 = .ok (.goto (-52), 3) := by decide +kernel
theorem dX7_carryOutText_57 : decode cX7_carryOutText 57 = .ok (.iconst (-1), 1) := by decide +kernel
theorem dX7_carryOutText_58 : decode cX7_carryOutText 58 = .ok (.ireturn, 1) := by decide +kernel
theorem dX7_printOpenEditions_0 : decode cX7_printOpenEditions 0 = .ok (.aload_n 0, 1) := by decide +kernel
theorem dX7_printOpenEditions_1 : decode cX7_printOpenEditions 1 = .ok (.getfield 29, 3) := by decide +kernel
theorem dX7_printOpenEditions_4 : decode cX7_printOpenEditions 4 = .ok (.aload_n 0, 1) := by decide +kernel
theorem dX7_printOpenEditions_5 : decode cX7_printOpenEditions 5 = .ok (.getfield 12, 3) := by decide +kernel
theorem dX7_printOpenEditions_8 : decode cX7_printOpenEditions 8 = .ok (.invokevirtual 160, 3) := by decide +kernel
theorem dX7_printOpenEditions_11 : decode cX7_printOpenEditions 11 = .ok (.aload_n 0, 1) := by decide +kernel
theorem dX7_printOpenEditions_12 : decode cX7_printOpenEditions 12 = .ok (.getfield 36, 3) := by decide +kernel
theorem dX7_printOpenEditions_15 : decode cX7_printOpenEditions 15 = .ok (.aload_n 0, 1) := by decide +kernel
theorem dX7_printOpenEditions_16 : decode cX7_printOpenEditions 16 = .ok (.getfield 12, 3) := by decide +kernel
theorem dX7_printOpenEditions_19 : decode cX7_printOpenEditions 19 = .ok (.invokevirtual 180, 3) := by decide +kernel
theorem dX7_printOpenEditions_22 : decode cX7_printOpenEditions 22 = .ok (.iconst 0, 1) := by decide +kernel
theorem dX7_printOpenEditions_23 : decode cX7_printOpenEditions 23 = .ok (.istore_n 1, 1) := by decide +kernel
theorem dX7_printOpenEditions_24 : decode cX7_printOpenEditions 24 = .ok (.iconst 0, 1) := by decide +kernel
theorem dX7_printOpenEditions_25 : decode cX7_printOpenEditions 25 = .ok (.istore_n 2, 1) := by decide +kernel
theorem dX7_printOpenEditions_26 : decode cX7_printOpenEditions 26 = .ok (.iload_n 2, 1) := by decide +kernel
theorem dX7_printOpenEditions_27 : decode cX7_printOpenEditions 27 = .ok (.aload_n 0, 1) := by decide +kernel
theorem dX7_printOpenEditions_28 : decode cX7_printOpenEditions 28 = .ok (.getfield 29, 3) := by decide +kernel
theorem dX7_printOpenEditions_31 : decode cX7_printOpenEditions 31 = .ok (.getfield 171, 3) := by decide +kernel
theorem dX7_printOpenEditions_34 : decode cX7_printOpenEditions 34 = .ok (.if_icmp .ge 39, 3) := by decide +kernel
theorem dX7_printOpenEditions_37 : decode cX7_printOpenEditions 37 = .ok (.aload_n 0, 1) := by decide +kernel
theorem dX7_printOpenEditions_38 : decode cX7_printOpenEditions 38 = .ok (.getfield 29, 3) := by decide +kernel
theorem dX7_printOpenEditions_41 : decode cX7_printOpenEditions 41 = .ok (.getfield 177, 3) := by decide +kernel
theorem dX7_printOpenEditions_44 : decode cX7_printOpenEditions 44 = .ok (.iload_n 2, 1) := by decide +kernel
theorem dX7_printOpenEditions_45 : decode cX7_printOpenEditions 45 = .ok (.iaload, 1) := by decide +kernel
theorem dX7_printOpenEditions_46 : decode cX7_printOpenEditions 46 = .ok (.istore_n 3, 1) := by decide +kernel
theorem dX7_printOpenEditions_47 : decode cX7_printOpenEditions 47 = .ok (.iload_n 1, 1) := by decide +kernel
theorem dX7_printOpenEditions_48 : decode cX7_printOpenEditions 48 = .ok (.aload_n 0, 1) := by decide +kernel
theorem dX7_printOpenEditions_49 : decode cX7_printOpenEditions 49 = .ok (.getfield 12, 3) := by decide +kernel
theorem dX7_printOpenEditions_52 : decode cX7_printOpenEditions 52 = .ok (.iload_n 3, 1) := by decide +kernel
theorem dX7_printOpenEditions_53 : decode cX7_printOpenEditions 53 = .ok (.aload_n 0, 1) := by decide +kernel
theorem dX7_printOpenEditions_54 : decode cX7_printOpenEditions 54 = .ok (.getfield 36, 3) := by decide +kernel
theorem dX7_printOpenEditions_57 : decode cX7_printOpenEditions 57 = .ok (.getfield 183, 3) := by decide +kernel
theorem dX7_printOpenEditions_60 : decode cX7_printOpenEditions 60 = .ok (.iload_n 3, 1) := by decide +kernel
theorem dX7_printOpenEditions_61 : decode cX7_printOpenEditions 61 = .ok (.iaload, 1) := by decide +kernel
theorem dX7_printOpenEditions_62 : decode cX7_printOpenEditions 62 = .ok (.invokevirtual 379, 3) := by decide +kernel
theorem dX7_printOpenEditions_65 : decode cX7_printOpenEditions 65 = .ok (.iadd, 1) := by decide +kernel
theorem dX7_printOpenEditions_66 : decode cX7_printOpenEditions 66 = .ok (.istore_n 1, 1) := by decide +kernel
theorem dX7_printOpenEditions_67 : decode cX7_printOpenEditions 67 = .ok (.iinc 2 1, 3) := by decide +kernel
theorem dX7_printOpenEditions_70 : decode cX7_printOpenEditions 70 = .ok (.goto (-44), 3) := by decide +kernel
theorem dX7_printOpenEditions_73 : decode cX7_printOpenEditions 73 = .ok (.iload_n 1, 1) := by decide +kernel
theorem dX7_printOpenEditions_74 : decode cX7_printOpenEditions 74 = .ok (.ireturn, 1) := by decide +kernel
theorem dX7_inkWaysAgree_0 : decode cX7_inkWaysAgree 0 = .ok (.iconst 0, 1) := by decide +kernel
theorem dX7_inkWaysAgree_1 : decode cX7_inkWaysAgree 1 = .ok (.istore_n 1, 1) := by decide +kernel
theorem dX7_inkWaysAgree_2 : decode cX7_inkWaysAgree 2 = .ok (.iload_n 1, 1) := by decide +kernel
theorem dX7_inkWaysAgree_3 : decode cX7_inkWaysAgree 3 = .ok (.bipush 10, 2) := by decide +kernel
theorem dX7_inkWaysAgree_5 : decode cX7_inkWaysAgree 5 = .ok (.if_icmp .ge 36, 3) := by decide +kernel
theorem dX7_inkWaysAgree_8 : decode cX7_inkWaysAgree 8 = .ok (.aload_n 0, 1) := by decide +kernel
theorem dX7_inkWaysAgree_9 : decode cX7_inkWaysAgree 9 = .ok (.getfield 12, 3) := by decide +kernel
theorem dX7_inkWaysAgree_12 : decode cX7_inkWaysAgree 12 = .ok (.iload_n 1, 1) := by decide +kernel
theorem dX7_inkWaysAgree_13 : decode cX7_inkWaysAgree 13 = .ok (.bipush 10, 2) := by decide +kernel
theorem dX7_inkWaysAgree_15 : decode cX7_inkWaysAgree 15 = .ok (.invokevirtual 110, 3) := by decide +kernel
theorem dX7_inkWaysAgree_18 : decode cX7_inkWaysAgree 18 = .ok (.istore_n 2, 1) := by decide +kernel
theorem dX7_inkWaysAgree_19 : decode cX7_inkWaysAgree 19 = .ok (.iload_n 2, 1) := by decide +kernel
theorem dX7_inkWaysAgree_20 : decode cX7_inkWaysAgree 20 = .ok (.aload_n 0, 1) := by decide +kernel
theorem dX7_inkWaysAgree_21 : decode cX7_inkWaysAgree 21 = .ok (.getfield 12, 3) := by decide +kernel
theorem dX7_inkWaysAgree_24 : decode cX7_inkWaysAgree 24 = .ok (.iload_n 1, 1) := by decide +kernel
theorem dX7_inkWaysAgree_25 : decode cX7_inkWaysAgree 25 = .ok (.bipush 10, 2) := by decide +kernel
theorem dX7_inkWaysAgree_27 : decode cX7_inkWaysAgree 27 = .ok (.invokevirtual 114, 3) := by decide +kernel
theorem dX7_inkWaysAgree_30 : decode cX7_inkWaysAgree 30 = .ok (.if_icmp .eq 5, 3) := by decide +kernel
theorem dX7_inkWaysAgree_33 : decode cX7_inkWaysAgree 33 = .ok (.iconst 0, 1) := by decide +kernel
theorem dX7_inkWaysAgree_34 : decode cX7_inkWaysAgree 34 = .ok (.ireturn, 1) := by decide +kernel
theorem dX7_inkWaysAgree_35 : decode cX7_inkWaysAgree 35 = .ok (.iinc 1 1, 3) := by decide +kernel
theorem dX7_inkWaysAgree_38 : decode cX7_inkWaysAgree 38 = .ok (.goto (-36), 3) := by decide +kernel
theorem dX7_inkWaysAgree_41 : decode cX7_inkWaysAgree 41 = .ok (.iconst 1, 1) := by decide +kernel
theorem dX7_inkWaysAgree_42 : decode cX7_inkWaysAgree 42 = .ok (.ireturn, 1) := by decide +kernel
theorem dX7_shareWaysAgree_0 : decode cX7_shareWaysAgree 0 = .ok (.iconst 0, 1) := by decide +kernel
theorem dX7_shareWaysAgree_1 : decode cX7_shareWaysAgree 1 = .ok (.istore_n 1, 1) := by decide +kernel
theorem dX7_shareWaysAgree_2 : decode cX7_shareWaysAgree 2 = .ok (.iload_n 1, 1) := by decide +kernel
theorem dX7_shareWaysAgree_3 : decode cX7_shareWaysAgree 3 = .ok (.aload_n 0, 1) := by decide +kernel
theorem dX7_shareWaysAgree_4 : decode cX7_shareWaysAgree 4 = .ok (.getfield 12, 3) := by decide +kernel
theorem dX7_shareWaysAgree_7 : decode cX7_shareWaysAgree 7 = .ok (.getfield 132, 3) := by decide +kernel
theorem dX7_shareWaysAgree_10 : decode cX7_shareWaysAgree 10 = .ok (.if_icmp .ge 24, 3) := by decide +kernel
theorem dX7_shareWaysAgree_13 : decode cX7_shareWaysAgree 13 = .ok (.aload_n 0, 1) := by decide +kernel
theorem dX7_shareWaysAgree_14 : decode cX7_shareWaysAgree 14 = .ok (.iload_n 1, 1) := by decide +kernel
theorem dX7_shareWaysAgree_15 : decode cX7_shareWaysAgree 15 = .ok (.invokevirtual 382, 3) := by decide +kernel
theorem dX7_shareWaysAgree_18 : decode cX7_shareWaysAgree 18 = .ok (.aload_n 0, 1) := by decide +kernel
theorem dX7_shareWaysAgree_19 : decode cX7_shareWaysAgree 19 = .ok (.iload_n 1, 1) := by decide +kernel
theorem dX7_shareWaysAgree_20 : decode cX7_shareWaysAgree 20 = .ok (.invokevirtual 385, 3) := by decide +kernel
theorem dX7_shareWaysAgree_23 : decode cX7_shareWaysAgree 23 = .ok (.if_icmp .eq 5, 3) := by decide +kernel
theorem dX7_shareWaysAgree_26 : decode cX7_shareWaysAgree 26 = .ok (.iconst 0, 1) := by decide +kernel
theorem dX7_shareWaysAgree_27 : decode cX7_shareWaysAgree 27 = .ok (.ireturn, 1) := by decide +kernel
theorem dX7_shareWaysAgree_28 : decode cX7_shareWaysAgree 28 = .ok (.iinc 1 1, 3) := by decide +kernel
theorem dX7_shareWaysAgree_31 : decode cX7_shareWaysAgree 31 = .ok (.goto (-29), 3) := by decide +kernel
theorem dX7_shareWaysAgree_34 : decode cX7_shareWaysAgree 34 = .ok (.iconst 1, 1) := by decide +kernel
theorem dX7_shareWaysAgree_35 : decode cX7_shareWaysAgree 35 = .ok (.ireturn, 1) := by decide +kernel
theorem dX7_inkIsAccountedFor_0 : decode cX7_inkIsAccountedFor 0 = .ok (.aload_n 0, 1) := by decide +kernel
theorem dX7_inkIsAccountedFor_1 : decode cX7_inkIsAccountedFor 1 = .ok (.getfield 12, 3) := by decide +kernel
theorem dX7_inkIsAccountedFor_4 : decode cX7_inkIsAccountedFor 4 = .ok (.getfield 220, 3) := by decide +kernel
theorem dX7_inkIsAccountedFor_7 : decode cX7_inkIsAccountedFor 7 = .ok (.i2l, 1) := by decide +kernel
theorem dX7_inkIsAccountedFor_8 : decode cX7_inkIsAccountedFor 8 = .ok (.aload_n 0, 1) := by decide +kernel
theorem dX7_inkIsAccountedFor_9 : decode cX7_inkIsAccountedFor 9 = .ok (.invokevirtual 388, 3) := by decide +kernel
theorem dX7_inkIsAccountedFor_12 : decode cX7_inkIsAccountedFor 12 = .ok (.aload_n 0, 1) := by decide +kernel
theorem dX7_inkIsAccountedFor_13 : decode cX7_inkIsAccountedFor 13 = .ok (.getfield 12, 3) := by decide +kernel
theorem dX7_inkIsAccountedFor_16 : decode cX7_inkIsAccountedFor 16 = .ok (.getfield 223, 3) := by decide +kernel
theorem dX7_inkIsAccountedFor_19 : decode cX7_inkIsAccountedFor 19 = .ok (.iadd, 1) := by decide +kernel
theorem dX7_inkIsAccountedFor_20 : decode cX7_inkIsAccountedFor 20 = .ok (.i2l, 1) := by decide +kernel
theorem dX7_inkIsAccountedFor_21 : decode cX7_inkIsAccountedFor 21 = .ok (.aload_n 0, 1) := by decide +kernel
theorem dX7_inkIsAccountedFor_22 : decode cX7_inkIsAccountedFor 22 = .ok (.getfield 12, 3) := by decide +kernel
theorem dX7_inkIsAccountedFor_25 : decode cX7_inkIsAccountedFor 25 = .ok (.getfield 226, 3) := by decide +kernel
theorem dX7_inkIsAccountedFor_28 : decode cX7_inkIsAccountedFor 28 = .ok (.ladd, 1) := by decide +kernel
theorem dX7_inkIsAccountedFor_29 : decode cX7_inkIsAccountedFor 29 = .ok (.lcmp, 1) := by decide +kernel
theorem dX7_inkIsAccountedFor_30 : decode cX7_inkIsAccountedFor 30 = .ok (.ifCond .ne 7, 3) := by decide +kernel
theorem dX7_inkIsAccountedFor_33 : decode cX7_inkIsAccountedFor 33 = .ok (.iconst 1, 1) := by decide +kernel
theorem dX7_inkIsAccountedFor_34 : decode cX7_inkIsAccountedFor 34 = .ok (.goto 4, 3) := by decide +kernel
theorem dX7_inkIsAccountedFor_37 : decode cX7_inkIsAccountedFor 37 = .ok (.iconst 0, 1) := by decide +kernel
theorem dX7_inkIsAccountedFor_38 : decode cX7_inkIsAccountedFor 38 = .ok (.ireturn, 1) := by decide +kernel
theorem dX7_throwIfRefused_0 : decode cX7_throwIfRefused 0 = .ok (.iload_n 0, 1) := by decide +kernel
theorem dX7_throwIfRefused_1 : decode cX7_throwIfRefused 1 = .ok (.iconst (-1), 1) := by decide +kernel
theorem dX7_throwIfRefused_2 : decode cX7_throwIfRefused 2 = .ok (.if_icmp .eq 7, 3) := by decide +kernel
theorem dX7_throwIfRefused_5 : decode cX7_throwIfRefused 5 = .ok (.iconst 1, 1) := by decide +kernel
theorem dX7_throwIfRefused_6 : decode cX7_throwIfRefused 6 = .ok (.goto 4, 3) := by decide +kernel
theorem dX7_throwIfRefused_9 : decode cX7_throwIfRefused 9 = .ok (.iconst 0, 1) := by decide +kernel
theorem dX7_throwIfRefused_10 : decode cX7_throwIfRefused 10 = .ok (.invokestatic 92, 3) := by decide +kernel
theorem dX7_throwIfRefused_13 : decode cX7_throwIfRefused 13 = .ok (.iload_n 0, 1) := by decide +kernel
theorem dX7_throwIfRefused_14 : decode cX7_throwIfRefused 14 = .ok (.bipush (-2), 2) := by decide +kernel
theorem dX7_throwIfRefused_16 : decode cX7_throwIfRefused 16 = .ok (.if_icmp .eq 7, 3) := by decide +kernel
theorem dX7_throwIfRefused_19 : decode cX7_throwIfRefused 19 = .ok (.iconst 1, 1) := by decide +kernel
theorem dX7_throwIfRefused_20 : decode cX7_throwIfRefused 20 = .ok (.goto 4, 3) := by decide +kernel
theorem dX7_throwIfRefused_23 : decode cX7_throwIfRefused 23 = .ok (.iconst 0, 1) := by decide +kernel
theorem dX7_throwIfRefused_24 : decode cX7_throwIfRefused 24 = .ok (.invokestatic 285, 3) := by decide +kernel
theorem dX7_throwIfRefused_27 : decode cX7_throwIfRefused 27 = .ok (.iload_n 0, 1) := by decide +kernel
theorem dX7_throwIfRefused_28 : decode cX7_throwIfRefused 28 = .ok (.bipush (-3), 2) := by decide +kernel
theorem dX7_throwIfRefused_30 : decode cX7_throwIfRefused 30 = .ok (.if_icmp .eq 7, 3) := by decide +kernel
theorem dX7_throwIfRefused_33 : decode cX7_throwIfRefused 33 = .ok (.iconst 1, 1) := by decide +kernel
theorem dX7_throwIfRefused_34 : decode cX7_throwIfRefused 34 = .ok (.goto 4, 3) := by decide +kernel
theorem dX7_throwIfRefused_37 : decode cX7_throwIfRefused 37 = .ok (.iconst 0, 1) := by decide +kernel
theorem dX7_throwIfRefused_38 : decode cX7_throwIfRefused 38 = .ok (.invokestatic 138, 3) := by decide +kernel
theorem dX7_throwIfRefused_41 : decode cX7_throwIfRefused 41 = .ok (.iload_n 0, 1) := by decide +kernel
theorem dX7_throwIfRefused_42 : decode cX7_throwIfRefused 42 = .ok (.bipush (-4), 2) := by decide +kernel
theorem dX7_throwIfRefused_44 : decode cX7_throwIfRefused 44 = .ok (.if_icmp .ne 14, 3) := by decide +kernel
theorem dX7_throwIfRefused_47 : decode cX7_throwIfRefused 47 = .ok (.new 391, 3) := by decide +kernel
theorem dX7_throwIfRefused_50 : decode cX7_throwIfRefused 50 = .ok (.dup, 1) := by decide +kernel
theorem dX7_throwIfRefused_51 : decode cX7_throwIfRefused 51 = .ok (.ldc_w 393, 3) := by decide +kernel
theorem dX7_throwIfRefused_54 : decode cX7_throwIfRefused 54 = .ok (.invokespecial 395, 3) := by decide +kernel
theorem dX7_throwIfRefused_57 : decode cX7_throwIfRefused 57 = .ok (.athrow, 1) := by decide +kernel
theorem dX7_throwIfRefused_58 : decode cX7_throwIfRefused 58 = .ok (.return_, 1) := by decide +kernel
theorem dX7_requireArgument_0 : decode cX7_requireArgument 0 = .ok (.iload_n 0, 1) := by decide +kernel
theorem dX7_requireArgument_1 : decode cX7_requireArgument 1 = .ok (.ifCond .ne 14, 3) := by decide +kernel
theorem dX7_requireArgument_4 : decode cX7_requireArgument 4 = .ok (.new 301, 3) := by decide +kernel
theorem dX7_requireArgument_7 : decode cX7_requireArgument 7 = .ok (.dup, 1) := by decide +kernel
theorem dX7_requireArgument_8 : decode cX7_requireArgument 8 = .ok (.ldc_w 396, 3) := by decide +kernel
theorem dX7_requireArgument_11 : decode cX7_requireArgument 11 = .ok (.invokespecial 305, 3) := by decide +kernel
theorem dX7_requireArgument_14 : decode cX7_requireArgument 14 = .ok (.athrow, 1) := by decide +kernel
theorem dX7_requireArgument_15 : decode cX7_requireArgument 15 = .ok (.return_, 1) := by decide +kernel
theorem dX7_requireState_0 : decode cX7_requireState 0 = .ok (.iload_n 0, 1) := by decide +kernel
theorem dX7_requireState_1 : decode cX7_requireState 1 = .ok (.ifCond .ne 14, 3) := by decide +kernel
theorem dX7_requireState_4 : decode cX7_requireState 4 = .ok (.new 315, 3) := by decide +kernel
theorem dX7_requireState_7 : decode cX7_requireState 7 = .ok (.dup, 1) := by decide +kernel
theorem dX7_requireState_8 : decode cX7_requireState 8 = .ok (.ldc_w 398, 3) := by decide +kernel
theorem dX7_requireState_11 : decode cX7_requireState 11 = .ok (.invokespecial 319, 3) := by decide +kernel
theorem dX7_requireState_14 : decode cX7_requireState 14 = .ok (.athrow, 1) := by decide +kernel
theorem dX7_requireState_15 : decode cX7_requireState 15 = .ok (.return_, 1) := by decide +kernel
theorem dX7_requireIndex_0 : decode cX7_requireIndex 0 = .ok (.iload_n 0, 1) := by decide +kernel
theorem dX7_requireIndex_1 : decode cX7_requireIndex 1 = .ok (.ifCond .ne 14, 3) := by decide +kernel
theorem dX7_requireIndex_4 : decode cX7_requireIndex 4 = .ok (.new 400, 3) := by decide +kernel
theorem dX7_requireIndex_7 : decode cX7_requireIndex 7 = .ok (.dup, 1) := by decide +kernel
theorem dX7_requireIndex_8 : decode cX7_requireIndex 8 = .ok (.ldc_w 402, 3) := by decide +kernel
theorem dX7_requireIndex_11 : decode cX7_requireIndex 11 = .ok (.invokespecial 404, 3) := by decide +kernel
theorem dX7_requireIndex_14 : decode cX7_requireIndex 14 = .ok (.athrow, 1) := by decide +kernel
theorem dX7_requireIndex_15 : decode cX7_requireIndex 15 = .ok (.return_, 1) := by decide +kernel
theorem dX7_requireElement_0 : decode cX7_requireElement 0 = .ok (.iload_n 0, 1) := by decide +kernel
theorem dX7_requireElement_1 : decode cX7_requireElement 1 = .ok (.ifCond .ne 14, 3) := by decide +kernel
theorem dX7_requireElement_4 : decode cX7_requireElement 4 = .ok (.new 405, 3) := by decide +kernel
theorem dX7_requireElement_7 : decode cX7_requireElement 7 = .ok (.dup, 1) := by decide +kernel
theorem dX7_requireElement_8 : decode cX7_requireElement 8 = .ok (.ldc_w 407, 3) := by decide +kernel
theorem dX7_requireElement_11 : decode cX7_requireElement 11 = .ok (.invokespecial 409, 3) := by decide +kernel
theorem dX7_requireElement_14 : decode cX7_requireElement 14 = .ok (.athrow, 1) := by decide +kernel
theorem dX7_requireElement_15 : decode cX7_requireElement 15 = .ok (.return_, 1) := by decide +kernel
theorem dX7_isColour_0 : decode cX7_isColour 0 = .ok (.iload_n 0, 1) := by decide +kernel
theorem dX7_isColour_1 : decode cX7_isColour 1 = .ok (.iconst 0, 1) := by decide +kernel
theorem dX7_isColour_2 : decode cX7_isColour 2 = .ok (.bipush 9, 2) := by decide +kernel
theorem dX7_isColour_4 : decode cX7_isColour 4 = .ok (.invokestatic 106, 3) := by decide +kernel
theorem dX7_isColour_7 : decode cX7_isColour 7 = .ok (.ireturn, 1) := by decide +kernel
theorem dX7_isWithin_0 : decode cX7_isWithin 0 = .ok (.iload_n 0, 1) := by decide +kernel
theorem dX7_isWithin_1 : decode cX7_isWithin 1 = .ok (.iload_n 1, 1) := by decide +kernel
theorem dX7_isWithin_2 : decode cX7_isWithin 2 = .ok (.if_icmp .lt 12, 3) := by decide +kernel
theorem dX7_isWithin_5 : decode cX7_isWithin 5 = .ok (.iload_n 0, 1) := by decide +kernel
theorem dX7_isWithin_6 : decode cX7_isWithin 6 = .ok (.iload_n 2, 1) := by decide +kernel
theorem dX7_isWithin_7 : decode cX7_isWithin 7 = .ok (.if_icmp .gt 7, 3) := by decide +kernel
theorem dX7_isWithin_10 : decode cX7_isWithin 10 = .ok (.iconst 1, 1) := by decide +kernel
theorem dX7_isWithin_11 : decode cX7_isWithin 11 = .ok (.goto 4, 3) := by decide +kernel
theorem dX7_isWithin_14 : decode cX7_isWithin 14 = .ok (.iconst 0, 1) := by decide +kernel
theorem dX7_isWithin_15 : decode cX7_isWithin 15 = .ok (.ireturn, 1) := by decide +kernel
theorem dX7_washMinutes_0 : decode cX7_washMinutes 0 = .ok (.iload_n 1, 1) := by decide +kernel
theorem dX7_washMinutes_1 : decode cX7_washMinutes 1 = .ok (.iload_n 0, 1) := by decide +kernel
theorem dX7_washMinutes_2 : decode cX7_washMinutes 2 = .ok (.if_icmp .lt 9, 3) := by decide +kernel
theorem dX7_washMinutes_5 : decode cX7_washMinutes 5 = .ok (.iload_n 1, 1) := by decide +kernel
theorem dX7_washMinutes_6 : decode cX7_washMinutes 6 = .ok (.iload_n 0, 1) := by decide +kernel
theorem dX7_washMinutes_7 : decode cX7_washMinutes 7 = .ok (.isub, 1) := by decide +kernel
theorem dX7_washMinutes_8 : decode cX7_washMinutes 8 = .ok (.goto 10, 3) := by decide +kernel
theorem dX7_washMinutes_11 : decode cX7_washMinutes 11 = .ok (.iconst 2, 1) := by decide +kernel
theorem dX7_washMinutes_12 : decode cX7_washMinutes 12 = .ok (.iload_n 0, 1) := by decide +kernel
theorem dX7_washMinutes_13 : decode cX7_washMinutes 13 = .ok (.iload_n 1, 1) := by decide +kernel
theorem dX7_washMinutes_14 : decode cX7_washMinutes 14 = .ok (.isub, 1) := by decide +kernel
theorem dX7_washMinutes_15 : decode cX7_washMinutes 15 = .ok (.imul, 1) := by decide +kernel
theorem dX7_washMinutes_16 : decode cX7_washMinutes 16 = .ok (.iconst 1, 1) := by decide +kernel
theorem dX7_washMinutes_17 : decode cX7_washMinutes 17 = .ok (.iadd, 1) := by decide +kernel
theorem dX7_washMinutes_18 : decode cX7_washMinutes 18 = .ok (.ireturn, 1) := by decide +kernel
theorem dX7_sumOf_0 : decode cX7_sumOf 0 = .ok (.iconst 0, 1) := by decide +kernel
theorem dX7_sumOf_1 : decode cX7_sumOf 1 = .ok (.istore_n 2, 1) := by decide +kernel
theorem dX7_sumOf_2 : decode cX7_sumOf 2 = .ok (.iconst 0, 1) := by decide +kernel
theorem dX7_sumOf_3 : decode cX7_sumOf 3 = .ok (.istore_n 3, 1) := by decide +kernel
theorem dX7_sumOf_4 : decode cX7_sumOf 4 = .ok (.iload_n 3, 1) := by decide +kernel
theorem dX7_sumOf_5 : decode cX7_sumOf 5 = .ok (.iload_n 1, 1) := by decide +kernel
theorem dX7_sumOf_6 : decode cX7_sumOf 6 = .ok (.if_icmp .ge 21, 3) := by decide +kernel
theorem dX7_sumOf_9 : decode cX7_sumOf 9 = .ok (.iload_n 3, 1) := by decide +kernel
theorem dX7_sumOf_10 : decode cX7_sumOf 10 = .ok (.aload_n 0, 1) := by decide +kernel
theorem dX7_sumOf_11 : decode cX7_sumOf 11 = .ok (.arraylength, 1) := by decide +kernel
theorem dX7_sumOf_12 : decode cX7_sumOf 12 = .ok (.if_icmp .ge 15, 3) := by decide +kernel
theorem dX7_sumOf_15 : decode cX7_sumOf 15 = .ok (.iload_n 2, 1) := by decide +kernel
theorem dX7_sumOf_16 : decode cX7_sumOf 16 = .ok (.aload_n 0, 1) := by decide +kernel
theorem dX7_sumOf_17 : decode cX7_sumOf 17 = .ok (.iload_n 3, 1) := by decide +kernel
theorem dX7_sumOf_18 : decode cX7_sumOf 18 = .ok (.iaload, 1) := by decide +kernel
theorem dX7_sumOf_19 : decode cX7_sumOf 19 = .ok (.iadd, 1) := by decide +kernel
theorem dX7_sumOf_20 : decode cX7_sumOf 20 = .ok (.istore_n 2, 1) := by decide +kernel
theorem dX7_sumOf_21 : decode cX7_sumOf 21 = .ok (.iinc 3 1, 3) := by decide +kernel
theorem dX7_sumOf_24 : decode cX7_sumOf 24 = .ok (.goto (-20), 3) := by decide +kernel
theorem dX7_sumOf_27 : decode cX7_sumOf 27 = .ok (.iload_n 2, 1) := by decide +kernel
theorem dX7_sumOf_28 : decode cX7_sumOf 28 = .ok (.ireturn, 1) := by decide +kernel
