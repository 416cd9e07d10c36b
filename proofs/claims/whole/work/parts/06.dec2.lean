theorem d_P_init_0 : decode b_P_init 0 = .ok (.aload_n 0, 1) := by decide +kernel
theorem d_P_init_1 : decode b_P_init 1 = .ok (.invokespecial 3, 3) := by decide +kernel
theorem d_P_init_4 : decode b_P_init 4 = .ok (.aload_n 0, 1) := by decide +kernel
theorem d_P_init_5 : decode b_P_init 5 = .ok (.new 9, 3) := by decide +kernel
theorem d_P_init_8 : decode b_P_init 8 = .ok (.dup, 1) := by decide +kernel
theorem d_P_init_9 : decode b_P_init 9 = .ok (.invokespecial 11, 3) := by decide +kernel
theorem d_P_init_12 : decode b_P_init 12 = .ok (.putfield 12, 3) := by decide +kernel
theorem d_P_init_15 : decode b_P_init 15 = .ok (.aload_n 0, 1) := by decide +kernel
theorem d_P_init_16 : decode b_P_init 16 = .ok (.bipush 12, 2) := by decide +kernel
theorem d_P_init_18 : decode b_P_init 18 = .ok (.newarray .boolean, 2) := by decide +kernel
theorem d_P_init_20 : decode b_P_init 20 = .ok (.putfield 18, 3) := by decide +kernel
theorem d_P_init_23 : decode b_P_init 23 = .ok (.aload_n 0, 1) := by decide +kernel
theorem d_P_init_24 : decode b_P_init 24 = .ok (.iconst 0, 1) := by decide +kernel
theorem d_P_init_25 : decode b_P_init 25 = .ok (.putfield 22, 3) := by decide +kernel
theorem d_P_init_28 : decode b_P_init 28 = .ok (.aload_n 0, 1) := by decide +kernel
theorem d_P_init_29 : decode b_P_init 29 = .ok (.iconst 0, 1) := by decide +kernel
theorem d_P_init_30 : decode b_P_init 30 = .ok (.putfield 26, 3) := by decide +kernel
theorem d_P_init_33 : decode b_P_init 33 = .ok (.aload_n 0, 1) := by decide +kernel
theorem d_P_init_34 : decode b_P_init 34 = .ok (.iconst 0, 1) := by decide +kernel
theorem d_P_init_35 : decode b_P_init 35 = .ok (.putfield 29, 3) := by decide +kernel
theorem d_P_init_38 : decode b_P_init 38 = .ok (.aload_n 0, 1) := by decide +kernel
theorem d_P_init_39 : decode b_P_init 39 = .ok (.iconst 0, 1) := by decide +kernel
theorem d_P_init_40 : decode b_P_init 40 = .ok (.putfield 33, 3) := by decide +kernel
theorem d_P_init_43 : decode b_P_init 43 = .ok (.aload_n 0, 1) := by decide +kernel
theorem d_P_init_44 : decode b_P_init 44 = .ok (.iconst 0, 1) := by decide +kernel
theorem d_P_init_45 : decode b_P_init 45 = .ok (.putfield 36, 3) := by decide +kernel
theorem d_P_init_48 : decode b_P_init 48 = .ok (.aload_n 0, 1) := by decide +kernel
theorem d_P_init_49 : decode b_P_init 49 = .ok (.iconst 0, 1) := by decide +kernel
theorem d_P_init_50 : decode b_P_init 50 = .ok (.putfield 39, 3) := by decide +kernel
theorem d_P_init_53 : decode b_P_init 53 = .ok (.aload_n 0, 1) := by decide +kernel
theorem d_P_init_54 : decode b_P_init 54 = .ok (.dconst 0, 1) := by decide +kernel
theorem d_P_init_55 : decode b_P_init 55 = .ok (.putfield 42, 3) := by decide +kernel
theorem d_P_init_58 : decode b_P_init 58 = .ok (.return_, 1) := by decide +kernel
theorem d_P_choose_0 : decode b_P_choose 0 = .ok (.aload_n 0, 1) := by decide +kernel
theorem d_P_choose_1 : decode b_P_choose 1 = .ok (.iload_n 1, 1) := by decide +kernel
theorem d_P_choose_2 : decode b_P_choose 2 = .ok (.putfield 22, 3) := by decide +kernel
theorem d_P_choose_5 : decode b_P_choose 5 = .ok (.aload_n 0, 1) := by decide +kernel
theorem d_P_choose_6 : decode b_P_choose 6 = .ok (.iload_n 2, 1) := by decide +kernel
theorem d_P_choose_7 : decode b_P_choose 7 = .ok (.putfield 26, 3) := by decide +kernel
theorem d_P_choose_10 : decode b_P_choose 10 = .ok (.aload_n 0, 1) := by decide +kernel
theorem d_P_choose_11 : decode b_P_choose 11 = .ok (.iload_n 3, 1) := by decide +kernel
theorem d_P_choose_12 : decode b_P_choose 12 = .ok (.putfield 29, 3) := by decide +kernel
theorem d_P_choose_15 : decode b_P_choose 15 = .ok (.return_, 1) := by decide +kernel
theorem d_P_beat_0 : decode b_P_beat 0 = .ok (.aload_n 0, 1) := by decide +kernel
theorem d_P_beat_1 : decode b_P_beat 1 = .ok (.aload_n 1, 1) := by decide +kernel
theorem d_P_beat_2 : decode b_P_beat 2 = .ok (.invokevirtual 46, 3) := by decide +kernel
theorem d_P_beat_5 : decode b_P_beat 5 = .ok (.iconst 0, 1) := by decide +kernel
theorem d_P_beat_6 : decode b_P_beat 6 = .ok (.istore_n 2, 1) := by decide +kernel
theorem d_P_beat_7 : decode b_P_beat 7 = .ok (.iload_n 2, 1) := by decide +kernel
theorem d_P_beat_8 : decode b_P_beat 8 = .ok (.bipush 12, 2) := by decide +kernel
theorem d_P_beat_10 : decode b_P_beat 10 = .ok (.if_icmp .ge 30, 3) := by decide +kernel
theorem d_P_beat_13 : decode b_P_beat 13 = .ok (.aload_n 1, 1) := by decide +kernel
theorem d_P_beat_14 : decode b_P_beat 14 = .ok (.iload_n 2, 1) := by decide +kernel
theorem d_P_beat_15 : decode b_P_beat 15 = .ok (.invokevirtual 50, 3) := by decide +kernel
theorem d_P_beat_18 : decode b_P_beat 18 = .ok (.ifCond .eq 16, 3) := by decide +kernel
theorem d_P_beat_21 : decode b_P_beat 21 = .ok (.aload_n 1, 1) := by decide +kernel
theorem d_P_beat_22 : decode b_P_beat 22 = .ok (.getfield 56, 3) := by decide +kernel
theorem d_P_beat_25 : decode b_P_beat 25 = .ok (.iload_n 2, 1) := by decide +kernel
theorem d_P_beat_26 : decode b_P_beat 26 = .ok (.iconst 1, 1) := by decide +kernel
theorem d_P_beat_27 : decode b_P_beat 27 = .ok (.bastore, 1) := by decide +kernel
theorem d_P_beat_28 : decode b_P_beat 28 = .ok (.aload_n 0, 1) := by decide +kernel
theorem d_P_beat_29 : decode b_P_beat 29 = .ok (.aload_n 1, 1) := by decide +kernel
theorem d_P_beat_30 : decode b_P_beat 30 = .ok (.iload_n 2, 1) := by decide +kernel
theorem d_P_beat_31 : decode b_P_beat 31 = .ok (.invokevirtual 59, 3) := by decide +kernel
theorem d_P_beat_34 : decode b_P_beat 34 = .ok (.iinc 2 1, 3) := by decide +kernel
theorem d_P_beat_37 : decode b_P_beat 37 = .ok (.goto (-30), 3) := by decide +kernel
theorem d_P_beat_40 : decode b_P_beat 40 = .ok (.aload_n 0, 1) := by decide +kernel
theorem d_P_beat_41 : decode b_P_beat 41 = .ok (.getfield 36, 3) := by decide +kernel
theorem d_P_beat_44 : decode b_P_beat 44 = .ok (.ifCond .eq 5, 3) := by decide +kernel
theorem d_P_beat_47 : decode b_P_beat 47 = .ok (.iconst 0, 1) := by decide +kernel
theorem d_P_beat_48 : decode b_P_beat 48 = .ok (.ireturn, 1) := by decide +kernel
theorem d_P_beat_49 : decode b_P_beat 49 = .ok (.aload_n 0, 1) := by decide +kernel
theorem d_P_beat_50 : decode b_P_beat 50 = .ok (.aload_n 1, 1) := by decide +kernel
theorem d_P_beat_51 : decode b_P_beat 51 = .ok (.invokevirtual 63, 3) := by decide +kernel
theorem d_P_beat_54 : decode b_P_beat 54 = .ok (.aload_n 0, 1) := by decide +kernel
theorem d_P_beat_55 : decode b_P_beat 55 = .ok (.aload_n 1, 1) := by decide +kernel
theorem d_P_beat_56 : decode b_P_beat 56 = .ok (.invokevirtual 66, 3) := by decide +kernel
theorem d_P_beat_59 : decode b_P_beat 59 = .ok (.aload_n 1, 1) := by decide +kernel
theorem d_P_beat_60 : decode b_P_beat 60 = .ok (.aload_n 0, 1) := by decide +kernel
theorem d_P_beat_61 : decode b_P_beat 61 = .ok (.aload_n 1, 1) := by decide +kernel
theorem d_P_beat_62 : decode b_P_beat 62 = .ok (.invokevirtual 69, 3) := by decide +kernel
theorem d_P_beat_65 : decode b_P_beat 65 = .ok (.putfield 73, 3) := by decide +kernel
theorem d_P_beat_68 : decode b_P_beat 68 = .ok (.aload_n 1, 1) := by decide +kernel
theorem d_P_beat_69 : decode b_P_beat 69 = .ok (.dup, 1) := by decide +kernel
theorem d_P_beat_70 : decode b_P_beat 70 = .ok (.getfield 76, 3) := by decide +kernel
theorem d_P_beat_73 : decode b_P_beat 73 = .ok (.iconst 1, 1) := by decide +kernel
theorem d_P_beat_74 : decode b_P_beat 74 = .ok (.iadd, 1) := by decide +kernel
theorem d_P_beat_75 : decode b_P_beat 75 = .ok (.putfield 76, 3) := by decide +kernel
theorem d_P_beat_78 : decode b_P_beat 78 = .ok (.iconst 1, 1) := by decide +kernel
theorem d_P_beat_79 : decode b_P_beat 79 = .ok (.ireturn, 1) := by decide +kernel
theorem d_P_prepare_0 : decode b_P_prepare 0 = .ok (.aload_n 0, 1) := by decide +kernel
theorem d_P_prepare_1 : decode b_P_prepare 1 = .ok (.getfield 12, 3) := by decide +kernel
theorem d_P_prepare_4 : decode b_P_prepare 4 = .ok (.invokevirtual 79, 3) := by decide +kernel
theorem d_P_prepare_7 : decode b_P_prepare 7 = .ok (.iconst 0, 1) := by decide +kernel
theorem d_P_prepare_8 : decode b_P_prepare 8 = .ok (.istore_n 2, 1) := by decide +kernel
theorem d_P_prepare_9 : decode b_P_prepare 9 = .ok (.iload_n 2, 1) := by decide +kernel
theorem d_P_prepare_10 : decode b_P_prepare 10 = .ok (.bipush 12, 2) := by decide +kernel
theorem d_P_prepare_12 : decode b_P_prepare 12 = .ok (.if_icmp .ge 16, 3) := by decide +kernel
theorem d_P_prepare_15 : decode b_P_prepare 15 = .ok (.aload_n 0, 1) := by decide +kernel
theorem d_P_prepare_16 : decode b_P_prepare 16 = .ok (.getfield 18, 3) := by decide +kernel
theorem d_P_prepare_19 : decode b_P_prepare 19 = .ok (.iload_n 2, 1) := by decide +kernel
theorem d_P_prepare_20 : decode b_P_prepare 20 = .ok (.iconst 0, 1) := by decide +kernel
theorem d_P_prepare_21 : decode b_P_prepare 21 = .ok (.bastore, 1) := by decide +kernel
theorem d_P_prepare_22 : decode b_P_prepare 22 = .ok (.iinc 2 1, 3) := by decide +kernel
theorem d_P_prepare_25 : decode b_P_prepare 25 = .ok (.goto (-16), 3) := by decide +kernel
theorem d_P_prepare_28 : decode b_P_prepare 28 = .ok (.aload_n 0, 1) := by decide +kernel
theorem d_P_prepare_29 : decode b_P_prepare 29 = .ok (.aload_n 1, 1) := by decide +kernel
theorem d_P_prepare_30 : decode b_P_prepare 30 = .ok (.invokevirtual 82, 3) := by decide +kernel
theorem d_P_prepare_33 : decode b_P_prepare 33 = .ok (.putfield 33, 3) := by decide +kernel
theorem d_P_prepare_36 : decode b_P_prepare 36 = .ok (.aload_n 0, 1) := by decide +kernel
theorem d_P_prepare_37 : decode b_P_prepare 37 = .ok (.iconst 0, 1) := by decide +kernel
theorem d_P_prepare_38 : decode b_P_prepare 38 = .ok (.putfield 36, 3) := by decide +kernel
theorem d_P_prepare_41 : decode b_P_prepare 41 = .ok (.aload_n 0, 1) := by decide +kernel
theorem d_P_prepare_42 : decode b_P_prepare 42 = .ok (.iconst 0, 1) := by decide +kernel
theorem d_P_prepare_43 : decode b_P_prepare 43 = .ok (.putfield 39, 3) := by decide +kernel
theorem d_P_prepare_46 : decode b_P_prepare 46 = .ok (.aload_n 0, 1) := by decide +kernel
theorem d_P_prepare_47 : decode b_P_prepare 47 = .ok (.dconst 0, 1) := by decide +kernel
theorem d_P_prepare_48 : decode b_P_prepare 48 = .ok (.putfield 42, 3) := by decide +kernel
theorem d_P_prepare_51 : decode b_P_prepare 51 = .ok (.return_, 1) := by decide +kernel
theorem d_P_compute_0 : decode b_P_compute 0 = .ok (.aload_n 0, 1) := by decide +kernel
theorem d_P_compute_1 : decode b_P_compute 1 = .ok (.getfield 22, 3) := by decide +kernel
theorem d_P_compute_4 : decode b_P_compute 4 = .ok (.tableswitch 55 0 2 #[28, 37, 46], 28) := by decide +kernel
theorem d_P_compute_32 : decode b_P_compute 32 = .ok (.aload_n 0, 1) := by decide +kernel
theorem d_P_compute_33 : decode b_P_compute 33 = .ok (.aload_n 1, 1) := by decide +kernel
theorem d_P_compute_34 : decode b_P_compute 34 = .ok (.iload_n 2, 1) := by decide +kernel
theorem d_P_compute_35 : decode b_P_compute 35 = .ok (.invokevirtual 101, 3) := by decide +kernel
theorem d_P_compute_38 : decode b_P_compute 38 = .ok (.goto 27, 3) := by decide +kernel
theorem d_P_compute_41 : decode b_P_compute 41 = .ok (.aload_n 0, 1) := by decide +kernel
theorem d_P_compute_42 : decode b_P_compute 42 = .ok (.aload_n 1, 1) := by decide +kernel
theorem d_P_compute_43 : decode b_P_compute 43 = .ok (.iload_n 2, 1) := by decide +kernel
theorem d_P_compute_44 : decode b_P_compute 44 = .ok (.invokevirtual 104, 3) := by decide +kernel
theorem d_P_compute_47 : decode b_P_compute 47 = .ok (.goto 18, 3) := by decide +kernel
theorem d_P_compute_50 : decode b_P_compute 50 = .ok (.aload_n 0, 1) := by decide +kernel
theorem d_P_compute_51 : decode b_P_compute 51 = .ok (.aload_n 1, 1) := by decide +kernel
theorem d_P_compute_52 : decode b_P_compute 52 = .ok (.iload_n 2, 1) := by decide +kernel
theorem d_P_compute_53 : decode b_P_compute 53 = .ok (.invokevirtual 107, 3) := by decide +kernel
theorem d_P_compute_56 : decode b_P_compute 56 = .ok (.goto 9, 3) := by decide +kernel
theorem d_P_compute_59 : decode b_P_compute 59 = .ok (.aload_n 0, 1) := by decide +kernel
theorem d_P_compute_60 : decode b_P_compute 60 = .ok (.aload_n 1, 1) := by decide +kernel
theorem d_P_compute_61 : decode b_P_compute 61 = .ok (.iload_n 2, 1) := by decide +kernel
theorem d_P_compute_62 : decode b_P_compute 62 = .ok (.invokevirtual 110, 3) := by decide +kernel
theorem d_P_compute_65 : decode b_P_compute 65 = .ok (.return_, 1) := by decide +kernel
theorem d_P_rank_0 : decode b_P_rank 0 = .ok (.aload_n 0, 1) := by decide +kernel
theorem d_P_rank_1 : decode b_P_rank 1 = .ok (.getfield 33, 3) := by decide +kernel
theorem d_P_rank_4 : decode b_P_rank 4 = .ok (.ifCond .le 47, 3) := by decide +kernel
theorem d_P_rank_7 : decode b_P_rank 7 = .ok (.aload_n 1, 1) := by decide +kernel
theorem d_P_rank_8 : decode b_P_rank 8 = .ok (.getfield 113, 3) := by decide +kernel
theorem d_P_rank_11 : decode b_P_rank 11 = .ok (.iload_n 2, 1) := by decide +kernel
theorem d_P_rank_12 : decode b_P_rank 12 = .ok (.aload_n 1, 1) := by decide +kernel
theorem d_P_rank_13 : decode b_P_rank 13 = .ok (.getfield 76, 3) := by decide +kernel
theorem d_P_rank_16 : decode b_P_rank 16 = .ok (.ifCond .ne 13, 3) := by decide +kernel
theorem d_P_rank_19 : decode b_P_rank 19 = .ok (.dconst 1, 1) := by decide +kernel
theorem d_P_rank_20 : decode b_P_rank 20 = .ok (.aload_n 0, 1) := by decide +kernel
theorem d_P_rank_21 : decode b_P_rank 21 = .ok (.getfield 33, 3) := by decide +kernel
theorem d_P_rank_24 : decode b_P_rank 24 = .ok (.i2d, 1) := by decide +kernel
theorem d_P_rank_25 : decode b_P_rank 25 = .ok (.ddiv, 1) := by decide +kernel
theorem d_P_rank_26 : decode b_P_rank 26 = .ok (.goto 24, 3) := by decide +kernel
theorem d_P_rank_29 : decode b_P_rank 29 = .ok (.ldc2_w 117, 3) := by decide +kernel
theorem d_P_rank_32 : decode b_P_rank 32 = .ok (.aload_n 0, 1) := by decide +kernel
theorem d_P_rank_33 : decode b_P_rank 33 = .ok (.getfield 33, 3) := by decide +kernel
theorem d_P_rank_36 : decode b_P_rank 36 = .ok (.i2d, 1) := by decide +kernel
theorem d_P_rank_37 : decode b_P_rank 37 = .ok (.ddiv, 1) := by decide +kernel
theorem d_P_rank_38 : decode b_P_rank 38 = .ok (.ldc2_w 119, 3) := by decide +kernel
theorem d_P_rank_41 : decode b_P_rank 41 = .ok (.aload_n 0, 1) := by decide +kernel
theorem d_P_rank_42 : decode b_P_rank 42 = .ok (.aload_n 1, 1) := by decide +kernel
theorem d_P_rank_43 : decode b_P_rank 43 = .ok (.iload_n 2, 1) := by decide +kernel
theorem d_P_rank_44 : decode b_P_rank 44 = .ok (.dconst 0, 1) := by decide +kernel
theorem d_P_rank_45 : decode b_P_rank 45 = .ok (.invokevirtual 121, 3) := by decide +kernel
theorem d_P_rank_48 : decode b_P_rank 48 = .ok (.dmul, 1) := by decide +kernel
theorem d_P_rank_49 : decode b_P_rank 49 = .ok (.dadd, 1) := by decide +kernel
theorem d_P_rank_50 : decode b_P_rank 50 = .ok (.dastore, 1) := by decide +kernel
theorem d_P_rank_51 : decode b_P_rank 51 = .ok (.aload_n 0, 1) := by decide +kernel
theorem d_P_rank_52 : decode b_P_rank 52 = .ok (.aload_n 1, 1) := by decide +kernel
theorem d_P_rank_53 : decode b_P_rank 53 = .ok (.getfield 113, 3) := by decide +kernel
theorem d_P_rank_56 : decode b_P_rank 56 = .ok (.iload_n 2, 1) := by decide +kernel
theorem d_P_rank_57 : decode b_P_rank 57 = .ok (.daload, 1) := by decide +kernel
theorem d_P_rank_58 : decode b_P_rank 58 = .ok (.invokevirtual 125, 3) := by decide +kernel
theorem d_P_rank_61 : decode b_P_rank 61 = .ok (.aload_n 1, 1) := by decide +kernel
theorem d_P_rank_62 : decode b_P_rank 62 = .ok (.getfield 76, 3) := by decide +kernel
theorem d_P_rank_65 : decode b_P_rank 65 = .ok (.aload_n 0, 1) := by decide +kernel
theorem d_P_rank_66 : decode b_P_rank 66 = .ok (.getfield 26, 3) := by decide +kernel
theorem d_P_rank_69 : decode b_P_rank 69 = .ok (.if_icmp .lt 13, 3) := by decide +kernel
theorem d_P_rank_72 : decode b_P_rank 72 = .ok (.aload_n 1, 1) := by decide +kernel
theorem d_P_rank_73 : decode b_P_rank 73 = .ok (.getfield 56, 3) := by decide +kernel
theorem d_P_rank_76 : decode b_P_rank 76 = .ok (.iload_n 2, 1) := by decide +kernel
theorem d_P_rank_77 : decode b_P_rank 77 = .ok (.iconst 0, 1) := by decide +kernel
theorem d_P_rank_78 : decode b_P_rank 78 = .ok (.bastore, 1) := by decide +kernel
theorem d_P_rank_79 : decode b_P_rank 79 = .ok (.goto 32, 3) := by decide +kernel
theorem d_P_rank_82 : decode b_P_rank 82 = .ok (.aload_n 1, 1) := by decide +kernel
theorem d_P_rank_83 : decode b_P_rank 83 = .ok (.getfield 129, 3) := by decide +kernel
theorem d_P_rank_86 : decode b_P_rank 86 = .ok (.iload_n 2, 1) := by decide +kernel
theorem d_P_rank_87 : decode b_P_rank 87 = .ok (.iaload, 1) := by decide +kernel
theorem d_P_rank_88 : decode b_P_rank 88 = .ok (.ifCond .le 23, 3) := by decide +kernel
theorem d_P_rank_91 : decode b_P_rank 91 = .ok (.aload_n 0, 1) := by decide +kernel
theorem d_P_rank_92 : decode b_P_rank 92 = .ok (.aload_n 1, 1) := by decide +kernel
theorem d_P_rank_93 : decode b_P_rank 93 = .ok (.iload_n 2, 1) := by decide +kernel
theorem d_P_rank_94 : decode b_P_rank 94 = .ok (.aload_n 1, 1) := by decide +kernel
theorem d_P_rank_95 : decode b_P_rank 95 = .ok (.getfield 113, 3) := by decide +kernel
theorem d_P_rank_98 : decode b_P_rank 98 = .ok (.iload_n 2, 1) := by decide +kernel
theorem d_P_rank_99 : decode b_P_rank 99 = .ok (.daload, 1) := by decide +kernel
theorem d_P_rank_100 : decode b_P_rank 100 = .ok (.aload_n 1, 1) := by decide +kernel
theorem d_P_rank_101 : decode b_P_rank 101 = .ok (.getfield 129, 3) := by decide +kernel
theorem d_P_rank_104 : decode b_P_rank 104 = .ok (.iload_n 2, 1) := by decide +kernel
theorem d_P_rank_105 : decode b_P_rank 105 = .ok (.iaload, 1) := by decide +kernel
theorem d_P_rank_106 : decode b_P_rank 106 = .ok (.i2d, 1) := by decide +kernel
theorem d_P_rank_107 : decode b_P_rank 107 = .ok (.ddiv, 1) := by decide +kernel
theorem d_P_rank_108 : decode b_P_rank 108 = .ok (.invokevirtual 133, 3) := by decide +kernel
theorem d_P_rank_111 : decode b_P_rank 111 = .ok (.return_, 1) := by decide +kernel
theorem d_P_mergeMail_0 : decode b_P_mergeMail 0 = .ok (.dload_n 3, 1) := by decide +kernel
theorem d_P_mergeMail_1 : decode b_P_mergeMail 1 = .ok (.dstore 5, 2) := by decide +kernel
theorem d_P_mergeMail_3 : decode b_P_mergeMail 3 = .ok (.iconst 0, 1) := by decide +kernel
theorem d_P_mergeMail_4 : decode b_P_mergeMail 4 = .ok (.istore 7, 2) := by decide +kernel
theorem d_P_mergeMail_6 : decode b_P_mergeMail 6 = .ok (.iload 7, 2) := by decide +kernel
theorem d_P_mergeMail_8 : decode b_P_mergeMail 8 = .ok (.aload_n 1, 1) := by decide +kernel
theorem d_P_mergeMail_9 : decode b_P_mergeMail 9 = .ok (.getfield 152, 3) := by decide +kernel
theorem d_P_mergeMail_12 : decode b_P_mergeMail 12 = .ok (.iload_n 2, 1) := by decide +kernel
theorem d_P_mergeMail_13 : decode b_P_mergeMail 13 = .ok (.iaload, 1) := by decide +kernel
theorem d_P_mergeMail_14 : decode b_P_mergeMail 14 = .ok (.if_icmp .ge 32, 3) := by decide +kernel
theorem d_P_mergeMail_17 : decode b_P_mergeMail 17 = .ok (.aload_n 0, 1) := by decide +kernel
theorem d_P_mergeMail_18 : decode b_P_mergeMail 18 = .ok (.getfield 22, 3) := by decide +kernel
theorem d_P_mergeMail_21 : decode b_P_mergeMail 21 = .ok (.dload 5, 2) := by decide +kernel
theorem d_P_mergeMail_23 : decode b_P_mergeMail 23 = .ok (.aload_n 1, 1) := by decide +kernel
theorem d_P_mergeMail_24 : decode b_P_mergeMail 24 = .ok (.getfield 155, 3) := by decide +kernel
theorem d_P_mergeMail_27 : decode b_P_mergeMail 27 = .ok (.iload_n 2, 1) := by decide +kernel
theorem d_P_mergeMail_28 : decode b_P_mergeMail 28 = .ok (.bipush 12, 2) := by decide +kernel
theorem d_P_mergeMail_30 : decode b_P_mergeMail 30 = .ok (.imul, 1) := by decide +kernel
theorem d_P_mergeMail_31 : decode b_P_mergeMail 31 = .ok (.iload 7, 2) := by decide +kernel
theorem d_P_mergeMail_33 : decode b_P_mergeMail 33 = .ok (.iadd, 1) := by decide +kernel
theorem d_P_mergeMail_34 : decode b_P_mergeMail 34 = .ok (.daload, 1) := by decide +kernel
theorem d_P_mergeMail_35 : decode b_P_mergeMail 35 = .ok (.invokestatic 158, 3) := by decide +kernel
theorem d_P_mergeMail_38 : decode b_P_mergeMail 38 = .ok (.dstore 5, 2) := by decide +kernel
theorem d_P_mergeMail_40 : decode b_P_mergeMail 40 = .ok (.iinc 7 1, 3) := by decide +kernel
theorem d_P_mergeMail_43 : decode b_P_mergeMail 43 = .ok (.goto (-37), 3) := by decide +kernel
theorem d_P_mergeMail_46 : decode b_P_mergeMail 46 = .ok (.dload 5, 2) := by decide +kernel
theorem d_P_mergeMail_48 : decode b_P_mergeMail 48 = .ok (.dreturn, 1) := by decide +kernel
theorem d_P_offer_0 : decode b_P_offer 0 = .ok (.aload_n 0, 1) := by decide +kernel
theorem d_P_offer_1 : decode b_P_offer 1 = .ok (.aload_n 0, 1) := by decide +kernel
theorem d_P_offer_2 : decode b_P_offer 2 = .ok (.getfield 39, 3) := by decide +kernel
theorem d_P_offer_5 : decode b_P_offer 5 = .ok (.ifCond .eq 18, 3) := by decide +kernel
theorem d_P_offer_8 : decode b_P_offer 8 = .ok (.aload_n 0, 1) := by decide +kernel
theorem d_P_offer_9 : decode b_P_offer 9 = .ok (.getfield 22, 3) := by decide +kernel
theorem d_P_offer_12 : decode b_P_offer 12 = .ok (.aload_n 0, 1) := by decide +kernel
theorem d_P_offer_13 : decode b_P_offer 13 = .ok (.getfield 42, 3) := by decide +kernel
theorem d_P_offer_16 : decode b_P_offer 16 = .ok (.dload_n 1, 1) := by decide +kernel
theorem d_P_offer_17 : decode b_P_offer 17 = .ok (.invokestatic 158, 3) := by decide +kernel
theorem d_P_offer_20 : decode b_P_offer 20 = .ok (.goto 4, 3) := by decide +kernel
theorem d_P_offer_23 : decode b_P_offer 23 = .ok (.dload_n 1, 1) := by decide +kernel
theorem d_P_offer_24 : decode b_P_offer 24 = .ok (.putfield 42, 3) := by decide +kernel
theorem d_P_offer_27 : decode b_P_offer 27 = .ok (.aload_n 0, 1) := by decide +kernel
theorem d_P_offer_28 : decode b_P_offer 28 = .ok (.iconst 1, 1) := by decide +kernel
theorem d_P_offer_29 : decode b_P_offer 29 = .ok (.putfield 39, 3) := by decide +kernel
theorem d_P_offer_32 : decode b_P_offer 32 = .ok (.return_, 1) := by decide +kernel
theorem d_P_sendToAll_0 : decode b_P_sendToAll 0 = .ok (.iconst 0, 1) := by decide +kernel
theorem d_P_sendToAll_1 : decode b_P_sendToAll 1 = .ok (.istore 5, 2) := by decide +kernel
theorem d_P_sendToAll_3 : decode b_P_sendToAll 3 = .ok (.iload 5, 2) := by decide +kernel
theorem d_P_sendToAll_5 : decode b_P_sendToAll 5 = .ok (.aload_n 1, 1) := by decide +kernel
theorem d_P_sendToAll_6 : decode b_P_sendToAll 6 = .ok (.getfield 129, 3) := by decide +kernel
theorem d_P_sendToAll_9 : decode b_P_sendToAll 9 = .ok (.iload_n 2, 1) := by decide +kernel
theorem d_P_sendToAll_10 : decode b_P_sendToAll 10 = .ok (.iaload, 1) := by decide +kernel
theorem d_P_sendToAll_11 : decode b_P_sendToAll 11 = .ok (.if_icmp .ge 30, 3) := by decide +kernel
theorem d_P_sendToAll_14 : decode b_P_sendToAll 14 = .ok (.aload_n 0, 1) := by decide +kernel
theorem d_P_sendToAll_15 : decode b_P_sendToAll 15 = .ok (.getfield 12, 3) := by decide +kernel
theorem d_P_sendToAll_18 : decode b_P_sendToAll 18 = .ok (.iload_n 2, 1) := by decide +kernel
theorem d_P_sendToAll_19 : decode b_P_sendToAll 19 = .ok (.aload_n 1, 1) := by decide +kernel
theorem d_P_sendToAll_20 : decode b_P_sendToAll 20 = .ok (.getfield 145, 3) := by decide +kernel
theorem d_P_sendToAll_23 : decode b_P_sendToAll 23 = .ok (.iload_n 2, 1) := by decide +kernel
theorem d_P_sendToAll_24 : decode b_P_sendToAll 24 = .ok (.bipush 12, 2) := by decide +kernel
theorem d_P_sendToAll_26 : decode b_P_sendToAll 26 = .ok (.imul, 1) := by decide +kernel
theorem d_P_sendToAll_27 : decode b_P_sendToAll 27 = .ok (.iload 5, 2) := by decide +kernel
theorem d_P_sendToAll_29 : decode b_P_sendToAll 29 = .ok (.iadd, 1) := by decide +kernel
theorem d_P_sendToAll_30 : decode b_P_sendToAll 30 = .ok (.iaload, 1) := by decide +kernel
theorem d_P_sendToAll_31 : decode b_P_sendToAll 31 = .ok (.dload_n 3, 1) := by decide +kernel
theorem d_P_sendToAll_32 : decode b_P_sendToAll 32 = .ok (.invokevirtual 148, 3) := by decide +kernel
theorem d_P_sendToAll_35 : decode b_P_sendToAll 35 = .ok (.iinc 5 1, 3) := by decide +kernel
theorem d_P_sendToAll_38 : decode b_P_sendToAll 38 = .ok (.goto (-35), 3) := by decide +kernel
theorem d_P_sendToAll_41 : decode b_P_sendToAll 41 = .ok (.return_, 1) := by decide +kernel
theorem d_P_seekNearest_0 : decode b_P_seekNearest 0 = .ok (.aload_n 1, 1) := by decide +kernel
theorem d_P_seekNearest_1 : decode b_P_seekNearest 1 = .ok (.getfield 76, 3) := by decide +kernel
theorem d_P_seekNearest_4 : decode b_P_seekNearest 4 = .ok (.ifCond .ne 12, 3) := by decide +kernel
theorem d_P_seekNearest_7 : decode b_P_seekNearest 7 = .ok (.aload_n 1, 1) := by decide +kernel
theorem d_P_seekNearest_8 : decode b_P_seekNearest 8 = .ok (.getfield 113, 3) := by decide +kernel
theorem d_P_seekNearest_11 : decode b_P_seekNearest 11 = .ok (.iload_n 2, 1) := by decide +kernel
theorem d_P_seekNearest_12 : decode b_P_seekNearest 12 = .ok (.ldc2_w 99, 3) := by decide +kernel
theorem d_P_seekNearest_15 : decode b_P_seekNearest 15 = .ok (.dastore, 1) := by decide +kernel
theorem d_P_seekNearest_16 : decode b_P_seekNearest 16 = .ok (.aload_n 1, 1) := by decide +kernel
theorem d_P_seekNearest_17 : decode b_P_seekNearest 17 = .ok (.getfield 76, 3) := by decide +kernel
theorem d_P_seekNearest_20 : decode b_P_seekNearest 20 = .ok (.ifCond .ne 15, 3) := by decide +kernel
theorem d_P_seekNearest_23 : decode b_P_seekNearest 23 = .ok (.iload_n 2, 1) := by decide +kernel
theorem d_P_seekNearest_24 : decode b_P_seekNearest 24 = .ok (.aload_n 0, 1) := by decide +kernel
theorem d_P_seekNearest_25 : decode b_P_seekNearest 25 = .ok (.getfield 26, 3) := by decide +kernel
theorem d_P_seekNearest_28 : decode b_P_seekNearest 28 = .ok (.if_icmp .ne 7, 3) := by decide +kernel
theorem d_P_seekNearest_31 : decode b_P_seekNearest 31 = .ok (.iconst 1, 1) := by decide +kernel
theorem d_P_seekNearest_32 : decode b_P_seekNearest 32 = .ok (.goto 4, 3) := by decide +kernel
theorem d_P_seekNearest_35 : decode b_P_seekNearest 35 = .ok (.iconst 0, 1) := by decide +kernel
theorem d_P_seekNearest_36 : decode b_P_seekNearest 36 = .ok (.istore_n 3, 1) := by decide +kernel
theorem d_P_seekNearest_37 : decode b_P_seekNearest 37 = .ok (.aload_n 0, 1) := by decide +kernel
theorem d_P_seekNearest_38 : decode b_P_seekNearest 38 = .ok (.aload_n 1, 1) := by decide +kernel
theorem d_P_seekNearest_39 : decode b_P_seekNearest 39 = .ok (.iload_n 2, 1) := by decide +kernel
theorem d_P_seekNearest_40 : decode b_P_seekNearest 40 = .ok (.iload_n 3, 1) := by decide +kernel
theorem d_P_seekNearest_41 : decode b_P_seekNearest 41 = .ok (.ifCond .eq 7, 3) := by decide +kernel
theorem d_P_seekNearest_44 : decode b_P_seekNearest 44 = .ok (.dconst 0, 1) := by decide +kernel
theorem d_P_seekNearest_45 : decode b_P_seekNearest 45 = .ok (.goto 6, 3) := by decide +kernel
theorem d_P_seekNearest_48 : decode b_P_seekNearest 48 = .ok (.ldc2_w 99, 3) := by decide +kernel
theorem d_P_seekNearest_51 : decode b_P_seekNearest 51 = .ok (.invokevirtual 121, 3) := by decide +kernel
theorem d_P_seekNearest_54 : decode b_P_seekNearest 54 = .ok (.dstore 4, 2) := by decide +kernel
theorem d_P_seekNearest_56 : decode b_P_seekNearest 56 = .ok (.dload 4, 2) := by decide +kernel
theorem d_P_seekNearest_58 : decode b_P_seekNearest 58 = .ok (.aload_n 1, 1) := by decide +kernel
theorem d_P_seekNearest_59 : decode b_P_seekNearest 59 = .ok (.getfield 113, 3) := by decide +kernel
theorem d_P_seekNearest_62 : decode b_P_seekNearest 62 = .ok (.iload_n 2, 1) := by decide +kernel
theorem d_P_seekNearest_63 : decode b_P_seekNearest 63 = .ok (.daload, 1) := by decide +kernel
theorem d_P_seekNearest_64 : decode b_P_seekNearest 64 = .ok (.dcmp .g, 1) := by decide +kernel
theorem d_P_seekNearest_65 : decode b_P_seekNearest 65 = .ok (.ifCond .ge 23, 3) := by decide +kernel
theorem d_P_seekNearest_68 : decode b_P_seekNearest 68 = .ok (.aload_n 1, 1) := by decide +kernel
theorem d_P_seekNearest_69 : decode b_P_seekNearest 69 = .ok (.getfield 113, 3) := by decide +kernel
theorem d_P_seekNearest_72 : decode b_P_seekNearest 72 = .ok (.iload_n 2, 1) := by decide +kernel
theorem d_P_seekNearest_73 : decode b_P_seekNearest 73 = .ok (.dload 4, 2) := by decide +kernel
theorem d_P_seekNearest_75 : decode b_P_seekNearest 75 = .ok (.dastore, 1) := by decide +kernel
theorem d_P_seekNearest_76 : decode b_P_seekNearest 76 = .ok (.aload_n 0, 1) := by decide +kernel
theorem d_P_seekNearest_77 : decode b_P_seekNearest 77 = .ok (.dload 4, 2) := by decide +kernel
theorem d_P_seekNearest_79 : decode b_P_seekNearest 79 = .ok (.invokevirtual 125, 3) := by decide +kernel
theorem d_P_seekNearest_82 : decode b_P_seekNearest 82 = .ok (.aload_n 0, 1) := by decide +kernel
theorem d_P_seekNearest_83 : decode b_P_seekNearest 83 = .ok (.aload_n 1, 1) := by decide +kernel
theorem d_P_seekNearest_84 : decode b_P_seekNearest 84 = .ok (.iload_n 2, 1) := by decide +kernel
theorem d_P_seekNearest_85 : decode b_P_seekNearest 85 = .ok (.invokevirtual 137, 3) := by decide +kernel
theorem d_P_seekNearest_88 : decode b_P_seekNearest 88 = .ok (.aload_n 1, 1) := by decide +kernel
theorem d_P_seekNearest_89 : decode b_P_seekNearest 89 = .ok (.getfield 56, 3) := by decide +kernel
theorem d_P_seekNearest_92 : decode b_P_seekNearest 92 = .ok (.iload_n 2, 1) := by decide +kernel
theorem d_P_seekNearest_93 : decode b_P_seekNearest 93 = .ok (.iconst 0, 1) := by decide +kernel
theorem d_P_seekNearest_94 : decode b_P_seekNearest 94 = .ok (.bastore, 1) := by decide +kernel
theorem d_P_seekNearest_95 : decode b_P_seekNearest 95 = .ok (.return_, 1) := by decide +kernel
theorem d_P_sendDistances_0 : decode b_P_sendDistances 0 = .ok (.iconst 0, 1) := by decide +kernel
theorem d_P_sendDistances_1 : decode b_P_sendDistances 1 = .ok (.istore_n 3, 1) := by decide +kernel
theorem d_P_sendDistances_2 : decode b_P_sendDistances 2 = .ok (.iload_n 3, 1) := by decide +kernel
theorem d_P_sendDistances_3 : decode b_P_sendDistances 3 = .ok (.aload_n 1, 1) := by decide +kernel
theorem d_P_sendDistances_4 : decode b_P_sendDistances 4 = .ok (.getfield 129, 3) := by decide +kernel
theorem d_P_sendDistances_7 : decode b_P_sendDistances 7 = .ok (.iload_n 2, 1) := by decide +kernel
theorem d_P_sendDistances_8 : decode b_P_sendDistances 8 = .ok (.iaload, 1) := by decide +kernel
theorem d_P_sendDistances_9 : decode b_P_sendDistances 9 = .ok (.if_icmp .ge 64, 3) := by decide +kernel
theorem d_P_sendDistances_12 : decode b_P_sendDistances 12 = .ok (.aload_n 1, 1) := by decide +kernel
theorem d_P_sendDistances_13 : decode b_P_sendDistances 13 = .ok (.getfield 113, 3) := by decide +kernel
theorem d_P_sendDistances_16 : decode b_P_sendDistances 16 = .ok (.iload_n 2, 1) := by decide +kernel
theorem d_P_sendDistances_17 : decode b_P_sendDistances 17 = .ok (.daload, 1) := by decide +kernel
theorem d_P_sendDistances_18 : decode b_P_sendDistances 18 = .ok (.aload_n 1, 1) := by decide +kernel
theorem d_P_sendDistances_19 : decode b_P_sendDistances 19 = .ok (.getfield 140, 3) := by decide +kernel
theorem d_P_sendDistances_22 : decode b_P_sendDistances 22 = .ok (.iload_n 2, 1) := by decide +kernel
theorem d_P_sendDistances_23 : decode b_P_sendDistances 23 = .ok (.bipush 12, 2) := by decide +kernel
theorem d_P_sendDistances_25 : decode b_P_sendDistances 25 = .ok (.imul, 1) := by decide +kernel
theorem d_P_sendDistances_26 : decode b_P_sendDistances 26 = .ok (.iload_n 3, 1) := by decide +kernel
theorem d_P_sendDistances_27 : decode b_P_sendDistances 27 = .ok (.iadd, 1) := by decide +kernel
theorem d_P_sendDistances_28 : decode b_P_sendDistances 28 = .ok (.daload, 1) := by decide +kernel
theorem d_P_sendDistances_29 : decode b_P_sendDistances 29 = .ok (.dadd, 1) := by decide +kernel
theorem d_P_sendDistances_30 : decode b_P_sendDistances 30 = .ok (.dstore 4, 2) := by decide +kernel
theorem d_P_sendDistances_32 : decode b_P_sendDistances 32 = .ok (.dload 4, 2) := by decide +kernel
theorem d_P_sendDistances_34 : decode b_P_sendDistances 34 = .ok (.ldc2_w 143, 3) := by decide +kernel
theorem d_P_sendDistances_37 : decode b_P_sendDistances 37 = .ok (.dcmp .l, 1) := by decide +kernel
theorem d_P_sendDistances_38 : decode b_P_sendDistances 38 = .ok (.ifCond .le 8, 3) := by decide +kernel
theorem d_P_sendDistances_41 : decode b_P_sendDistances 41 = .ok (.aload_n 0, 1) := by decide +kernel
theorem d_P_sendDistances_42 : decode b_P_sendDistances 42 = .ok (.iconst 1, 1) := by decide +kernel
theorem d_P_sendDistances_43 : decode b_P_sendDistances 43 = .ok (.putfield 36, 3) := by decide +kernel
theorem d_P_sendDistances_46 : decode b_P_sendDistances 46 = .ok (.aload_n 0, 1) := by decide +kernel
theorem d_P_sendDistances_47 : decode b_P_sendDistances 47 = .ok (.getfield 12, 3) := by decide +kernel
theorem d_P_sendDistances_50 : decode b_P_sendDistances 50 = .ok (.iload_n 2, 1) := by decide +kernel
theorem d_P_sendDistances_51 : decode b_P_sendDistances 51 = .ok (.aload_n 1, 1) := by decide +kernel
theorem d_P_sendDistances_52 : decode b_P_sendDistances 52 = .ok (.getfield 145, 3) := by decide +kernel
theorem d_P_sendDistances_55 : decode b_P_sendDistances 55 = .ok (.iload_n 2, 1) := by decide +kernel
theorem d_P_sendDistances_56 : decode b_P_sendDistances 56 = .ok (.bipush 12, 2) := by decide +kernel
theorem d_P_sendDistances_58 : decode b_P_sendDistances 58 = .ok (.imul, 1) := by decide +kernel
theorem d_P_sendDistances_59 : decode b_P_sendDistances 59 = .ok (.iload_n 3, 1) := by decide +kernel
theorem d_P_sendDistances_60 : decode b_P_sendDistances 60 = .ok (.iadd, 1) := by decide +kernel
theorem d_P_sendDistances_61 : decode b_P_sendDistances 61 = .ok (.iaload, 1) := by decide +kernel
theorem d_P_sendDistances_62 : decode b_P_sendDistances 62 = .ok (.dload 4, 2) := by decide +kernel
theorem d_P_sendDistances_64 : decode b_P_sendDistances 64 = .ok (.invokevirtual 148, 3) := by decide +kernel
theorem d_P_sendDistances_67 : decode b_P_sendDistances 67 = .ok (.iinc 3 1, 3) := by decide +kernel
theorem d_P_sendDistances_70 : decode b_P_sendDistances 70 = .ok (.goto (-68), 3) := by decide +kernel
theorem d_P_sendDistances_73 : decode b_P_sendDistances 73 = .ok (.return_, 1) := by decide +kernel
theorem d_P_seekGreatest_0 : decode b_P_seekGreatest 0 = .ok (.aload_n 1, 1) := by decide +kernel
theorem d_P_seekGreatest_1 : decode b_P_seekGreatest 1 = .ok (.getfield 113, 3) := by decide +kernel
theorem d_P_seekGreatest_4 : decode b_P_seekGreatest 4 = .ok (.iload_n 2, 1) := by decide +kernel
theorem d_P_seekGreatest_5 : decode b_P_seekGreatest 5 = .ok (.daload, 1) := by decide +kernel
theorem d_P_seekGreatest_6 : decode b_P_seekGreatest 6 = .ok (.dstore_n 3, 1) := by decide +kernel
theorem d_P_seekGreatest_7 : decode b_P_seekGreatest 7 = .ok (.aload_n 0, 1) := by decide +kernel
theorem d_P_seekGreatest_8 : decode b_P_seekGreatest 8 = .ok (.aload_n 1, 1) := by decide +kernel
theorem d_P_seekGreatest_9 : decode b_P_seekGreatest 9 = .ok (.iload_n 2, 1) := by decide +kernel
theorem d_P_seekGreatest_10 : decode b_P_seekGreatest 10 = .ok (.dload_n 3, 1) := by decide +kernel
theorem d_P_seekGreatest_11 : decode b_P_seekGreatest 11 = .ok (.invokevirtual 121, 3) := by decide +kernel
theorem d_P_seekGreatest_14 : decode b_P_seekGreatest 14 = .ok (.dstore 5, 2) := by decide +kernel
theorem d_P_seekGreatest_16 : decode b_P_seekGreatest 16 = .ok (.aload_n 1, 1) := by decide +kernel
theorem d_P_seekGreatest_17 : decode b_P_seekGreatest 17 = .ok (.getfield 113, 3) := by decide +kernel
theorem d_P_seekGreatest_20 : decode b_P_seekGreatest 20 = .ok (.iload_n 2, 1) := by decide +kernel
theorem d_P_seekGreatest_21 : decode b_P_seekGreatest 21 = .ok (.dload 5, 2) := by decide +kernel
theorem d_P_seekGreatest_23 : decode b_P_seekGreatest 23 = .ok (.dastore, 1) := by decide +kernel
theorem d_P_seekGreatest_24 : decode b_P_seekGreatest 24 = .ok (.dload 5, 2) := by decide +kernel
theorem d_P_seekGreatest_26 : decode b_P_seekGreatest 26 = .ok (.dload_n 3, 1) := by decide +kernel
theorem d_P_seekGreatest_27 : decode b_P_seekGreatest 27 = .ok (.dcmp .l, 1) := by decide +kernel
theorem d_P_seekGreatest_28 : decode b_P_seekGreatest 28 = .ok (.ifCond .gt 10, 3) := by decide +kernel
theorem d_P_seekGreatest_31 : decode b_P_seekGreatest 31 = .ok (.aload_n 1, 1) := by decide +kernel
theorem d_P_seekGreatest_32 : decode b_P_seekGreatest 32 = .ok (.getfield 76, 3) := by decide +kernel
theorem d_P_seekGreatest_35 : decode b_P_seekGreatest 35 = .ok (.ifCond .ne 11, 3) := by decide +kernel
theorem d_P_seekGreatest_38 : decode b_P_seekGreatest 38 = .ok (.aload_n 0, 1) := by decide +kernel
theorem d_P_seekGreatest_39 : decode b_P_seekGreatest 39 = .ok (.aload_n 1, 1) := by decide +kernel
theorem d_P_seekGreatest_40 : decode b_P_seekGreatest 40 = .ok (.iload_n 2, 1) := by decide +kernel
theorem d_P_seekGreatest_41 : decode b_P_seekGreatest 41 = .ok (.dload 5, 2) := by decide +kernel
theorem d_P_seekGreatest_43 : decode b_P_seekGreatest 43 = .ok (.invokevirtual 133, 3) := by decide +kernel
theorem d_P_seekGreatest_46 : decode b_P_seekGreatest 46 = .ok (.aload_n 0, 1) := by decide +kernel
theorem d_P_seekGreatest_47 : decode b_P_seekGreatest 47 = .ok (.dload 5, 2) := by decide +kernel
theorem d_P_seekGreatest_49 : decode b_P_seekGreatest 49 = .ok (.invokevirtual 125, 3) := by decide +kernel
theorem d_P_seekGreatest_52 : decode b_P_seekGreatest 52 = .ok (.aload_n 1, 1) := by decide +kernel
theorem d_P_seekGreatest_53 : decode b_P_seekGreatest 53 = .ok (.getfield 56, 3) := by decide +kernel
theorem d_P_seekGreatest_56 : decode b_P_seekGreatest 56 = .ok (.iload_n 2, 1) := by decide +kernel
theorem d_P_seekGreatest_57 : decode b_P_seekGreatest 57 = .ok (.iconst 0, 1) := by decide +kernel
theorem d_P_seekGreatest_58 : decode b_P_seekGreatest 58 = .ok (.bastore, 1) := by decide +kernel
theorem d_P_seekGreatest_59 : decode b_P_seekGreatest 59 = .ok (.return_, 1) := by decide +kernel
theorem d_P_keepCore_0 : decode b_P_keepCore 0 = .ok (.aload_n 1, 1) := by decide +kernel
theorem d_P_keepCore_1 : decode b_P_keepCore 1 = .ok (.getfield 76, 3) := by decide +kernel
theorem d_P_keepCore_4 : decode b_P_keepCore 4 = .ok (.iconst 2, 1) := by decide +kernel
theorem d_P_keepCore_5 : decode b_P_keepCore 5 = .ok (.irem, 1) := by decide +kernel
theorem d_P_keepCore_6 : decode b_P_keepCore 6 = .ok (.ifCond .ne 11, 3) := by decide +kernel
theorem d_P_keepCore_9 : decode b_P_keepCore 9 = .ok (.aload_n 0, 1) := by decide +kernel
theorem d_P_keepCore_10 : decode b_P_keepCore 10 = .ok (.aload_n 1, 1) := by decide +kernel
theorem d_P_keepCore_11 : decode b_P_keepCore 11 = .ok (.iload_n 2, 1) := by decide +kernel
theorem d_P_keepCore_12 : decode b_P_keepCore 12 = .ok (.dconst 1, 1) := by decide +kernel
theorem d_P_keepCore_13 : decode b_P_keepCore 13 = .ok (.invokevirtual 133, 3) := by decide +kernel
theorem d_P_keepCore_16 : decode b_P_keepCore 16 = .ok (.return_, 1) := by decide +kernel
theorem d_P_keepCore_17 : decode b_P_keepCore 17 = .ok (.aload_n 0, 1) := by decide +kernel
theorem d_P_keepCore_18 : decode b_P_keepCore 18 = .ok (.aload_n 1, 1) := by decide +kernel
theorem d_P_keepCore_19 : decode b_P_keepCore 19 = .ok (.iload_n 2, 1) := by decide +kernel
theorem d_P_keepCore_20 : decode b_P_keepCore 20 = .ok (.dconst 0, 1) := by decide +kernel
theorem d_P_keepCore_21 : decode b_P_keepCore 21 = .ok (.invokevirtual 121, 3) := by decide +kernel
theorem d_P_keepCore_24 : decode b_P_keepCore 24 = .ok (.dstore_n 3, 1) := by decide +kernel
theorem d_P_keepCore_25 : decode b_P_keepCore 25 = .ok (.dload_n 3, 1) := by decide +kernel
theorem d_P_keepCore_26 : decode b_P_keepCore 26 = .ok (.aload_n 0, 1) := by decide +kernel
theorem d_P_keepCore_27 : decode b_P_keepCore 27 = .ok (.getfield 26, 3) := by decide +kernel
theorem d_P_keepCore_30 : decode b_P_keepCore 30 = .ok (.i2d, 1) := by decide +kernel
theorem d_P_keepCore_31 : decode b_P_keepCore 31 = .ok (.dcmp .g, 1) := by decide +kernel
theorem d_P_keepCore_32 : decode b_P_keepCore 32 = .ok (.ifCond .ge 18, 3) := by decide +kernel
theorem d_P_keepCore_35 : decode b_P_keepCore 35 = .ok (.aload_n 0, 1) := by decide +kernel
theorem d_P_keepCore_36 : decode b_P_keepCore 36 = .ok (.getfield 18, 3) := by decide +kernel
theorem d_P_keepCore_39 : decode b_P_keepCore 39 = .ok (.iload_n 2, 1) := by decide +kernel
theorem d_P_keepCore_40 : decode b_P_keepCore 40 = .ok (.iconst 1, 1) := by decide +kernel
theorem d_P_keepCore_41 : decode b_P_keepCore 41 = .ok (.bastore, 1) := by decide +kernel
theorem d_P_keepCore_42 : decode b_P_keepCore 42 = .ok (.aload_n 0, 1) := by decide +kernel
theorem d_P_keepCore_43 : decode b_P_keepCore 43 = .ok (.dconst 1, 1) := by decide +kernel
theorem d_P_keepCore_44 : decode b_P_keepCore 44 = .ok (.invokevirtual 125, 3) := by decide +kernel
theorem d_P_keepCore_47 : decode b_P_keepCore 47 = .ok (.goto 10, 3) := by decide +kernel
theorem d_P_keepCore_50 : decode b_P_keepCore 50 = .ok (.aload_n 1, 1) := by decide +kernel
theorem d_P_keepCore_51 : decode b_P_keepCore 51 = .ok (.getfield 113, 3) := by decide +kernel
theorem d_P_keepCore_54 : decode b_P_keepCore 54 = .ok (.iload_n 2, 1) := by decide +kernel
theorem d_P_keepCore_55 : decode b_P_keepCore 55 = .ok (.dload_n 3, 1) := by decide +kernel
theorem d_P_keepCore_56 : decode b_P_keepCore 56 = .ok (.dastore, 1) := by decide +kernel
theorem d_P_keepCore_57 : decode b_P_keepCore 57 = .ok (.aload_n 1, 1) := by decide +kernel
theorem d_P_keepCore_58 : decode b_P_keepCore 58 = .ok (.getfield 73, 3) := by decide +kernel
theorem d_P_keepCore_61 : decode b_P_keepCore 61 = .ok (.dconst 0, 1) := by decide +kernel
theorem d_P_keepCore_62 : decode b_P_keepCore 62 = .ok (.dcmp .l, 1) := by decide +kernel
theorem d_P_keepCore_63 : decode b_P_keepCore 63 = .ok (.ifCond .ne 10, 3) := by decide +kernel
theorem d_P_keepCore_66 : decode b_P_keepCore 66 = .ok (.aload_n 1, 1) := by decide +kernel
theorem d_P_keepCore_67 : decode b_P_keepCore 67 = .ok (.getfield 56, 3) := by decide +kernel
theorem d_P_keepCore_70 : decode b_P_keepCore 70 = .ok (.iload_n 2, 1) := by decide +kernel
theorem d_P_keepCore_71 : decode b_P_keepCore 71 = .ok (.iconst 0, 1) := by decide +kernel
theorem d_P_keepCore_72 : decode b_P_keepCore 72 = .ok (.bastore, 1) := by decide +kernel
theorem d_P_keepCore_73 : decode b_P_keepCore 73 = .ok (.return_, 1) := by decide +kernel
theorem d_P_deliver_0 : decode b_P_deliver 0 = .ok (.aload_n 1, 1) := by decide +kernel
theorem d_P_deliver_1 : decode b_P_deliver 1 = .ok (.invokevirtual 86, 3) := by decide +kernel
theorem d_P_deliver_4 : decode b_P_deliver 4 = .ok (.aload_n 0, 1) := by decide +kernel
theorem d_P_deliver_5 : decode b_P_deliver 5 = .ok (.getfield 29, 3) := by decide +kernel
theorem d_P_deliver_8 : decode b_P_deliver 8 = .ok (.ifCond .eq 18, 3) := by decide +kernel
theorem d_P_deliver_11 : decode b_P_deliver 11 = .ok (.aload_n 0, 1) := by decide +kernel
theorem d_P_deliver_12 : decode b_P_deliver 12 = .ok (.getfield 12, 3) := by decide +kernel
theorem d_P_deliver_15 : decode b_P_deliver 15 = .ok (.aload_n 1, 1) := by decide +kernel
theorem d_P_deliver_16 : decode b_P_deliver 16 = .ok (.aload_n 0, 1) := by decide +kernel
theorem d_P_deliver_17 : decode b_P_deliver 17 = .ok (.getfield 22, 3) := by decide +kernel
theorem d_P_deliver_20 : decode b_P_deliver 20 = .ok (.invokevirtual 89, 3) := by decide +kernel
theorem d_P_deliver_23 : decode b_P_deliver 23 = .ok (.goto 11, 3) := by decide +kernel
theorem d_P_deliver_26 : decode b_P_deliver 26 = .ok (.aload_n 0, 1) := by decide +kernel
theorem d_P_deliver_27 : decode b_P_deliver 27 = .ok (.getfield 12, 3) := by decide +kernel
theorem d_P_deliver_30 : decode b_P_deliver 30 = .ok (.aload_n 1, 1) := by decide +kernel
theorem d_P_deliver_31 : decode b_P_deliver 31 = .ok (.invokevirtual 92, 3) := by decide +kernel
theorem d_P_deliver_34 : decode b_P_deliver 34 = .ok (.return_, 1) := by decide +kernel
theorem d_P_dropRemoved_0 : decode b_P_dropRemoved 0 = .ok (.iconst 0, 1) := by decide +kernel
theorem d_P_dropRemoved_1 : decode b_P_dropRemoved 1 = .ok (.istore_n 2, 1) := by decide +kernel
theorem d_P_dropRemoved_2 : decode b_P_dropRemoved 2 = .ok (.iload_n 2, 1) := by decide +kernel
theorem d_P_dropRemoved_3 : decode b_P_dropRemoved 3 = .ok (.bipush 12, 2) := by decide +kernel
theorem d_P_dropRemoved_5 : decode b_P_dropRemoved 5 = .ok (.if_icmp .ge 24, 3) := by decide +kernel
theorem d_P_dropRemoved_8 : decode b_P_dropRemoved 8 = .ok (.aload_n 0, 1) := by decide +kernel
theorem d_P_dropRemoved_9 : decode b_P_dropRemoved 9 = .ok (.getfield 18, 3) := by decide +kernel
theorem d_P_dropRemoved_12 : decode b_P_dropRemoved 12 = .ok (.iload_n 2, 1) := by decide +kernel
theorem d_P_dropRemoved_13 : decode b_P_dropRemoved 13 = .ok (.baload, 1) := by decide +kernel
theorem d_P_dropRemoved_14 : decode b_P_dropRemoved 14 = .ok (.ifCond .eq 9, 3) := by decide +kernel
theorem d_P_dropRemoved_17 : decode b_P_dropRemoved 17 = .ok (.aload_n 1, 1) := by decide +kernel
theorem d_P_dropRemoved_18 : decode b_P_dropRemoved 18 = .ok (.iload_n 2, 1) := by decide +kernel
theorem d_P_dropRemoved_19 : decode b_P_dropRemoved 19 = .ok (.invokevirtual 95, 3) := by decide +kernel
theorem d_P_dropRemoved_22 : decode b_P_dropRemoved 22 = .ok (.pop, 1) := by decide +kernel
theorem d_P_dropRemoved_23 : decode b_P_dropRemoved 23 = .ok (.iinc 2 1, 3) := by decide +kernel
theorem d_P_dropRemoved_26 : decode b_P_dropRemoved 26 = .ok (.goto (-24), 3) := by decide +kernel
theorem d_P_dropRemoved_29 : decode b_P_dropRemoved 29 = .ok (.return_, 1) := by decide +kernel
theorem d_P_newAggregate_0 : decode b_P_newAggregate 0 = .ok (.aload_n 0, 1) := by decide +kernel
theorem d_P_newAggregate_1 : decode b_P_newAggregate 1 = .ok (.getfield 22, 3) := by decide +kernel
theorem d_P_newAggregate_4 : decode b_P_newAggregate 4 = .ok (.iconst 3, 1) := by decide +kernel
theorem d_P_newAggregate_5 : decode b_P_newAggregate 5 = .ok (.if_icmp .ne 17, 3) := by decide +kernel
theorem d_P_newAggregate_8 : decode b_P_newAggregate 8 = .ok (.aload_n 1, 1) := by decide +kernel
theorem d_P_newAggregate_9 : decode b_P_newAggregate 9 = .ok (.getfield 76, 3) := by decide +kernel
theorem d_P_newAggregate_12 : decode b_P_newAggregate 12 = .ok (.iconst 2, 1) := by decide +kernel
theorem d_P_newAggregate_13 : decode b_P_newAggregate 13 = .ok (.irem, 1) := by decide +kernel
theorem d_P_newAggregate_14 : decode b_P_newAggregate 14 = .ok (.ifCond .ne 8, 3) := by decide +kernel
theorem d_P_newAggregate_17 : decode b_P_newAggregate 17 = .ok (.aload_n 1, 1) := by decide +kernel
theorem d_P_newAggregate_18 : decode b_P_newAggregate 18 = .ok (.getfield 73, 3) := by decide +kernel
theorem d_P_newAggregate_21 : decode b_P_newAggregate 21 = .ok (.dreturn, 1) := by decide +kernel
theorem d_P_newAggregate_22 : decode b_P_newAggregate 22 = .ok (.aload_n 0, 1) := by decide +kernel
theorem d_P_newAggregate_23 : decode b_P_newAggregate 23 = .ok (.getfield 39, 3) := by decide +kernel
theorem d_P_newAggregate_26 : decode b_P_newAggregate 26 = .ok (.ifCond .eq 8, 3) := by decide +kernel
theorem d_P_newAggregate_29 : decode b_P_newAggregate 29 = .ok (.aload_n 0, 1) := by decide +kernel
theorem d_P_newAggregate_30 : decode b_P_newAggregate 30 = .ok (.getfield 42, 3) := by decide +kernel
theorem d_P_newAggregate_33 : decode b_P_newAggregate 33 = .ok (.dreturn, 1) := by decide +kernel
theorem d_P_newAggregate_34 : decode b_P_newAggregate 34 = .ok (.aload_n 0, 1) := by decide +kernel
theorem d_P_newAggregate_35 : decode b_P_newAggregate 35 = .ok (.getfield 22, 3) := by decide +kernel
theorem d_P_newAggregate_38 : decode b_P_newAggregate 38 = .ok (.iconst 1, 1) := by decide +kernel
theorem d_P_newAggregate_39 : decode b_P_newAggregate 39 = .ok (.if_icmp .ne 9, 3) := by decide +kernel
theorem d_P_newAggregate_42 : decode b_P_newAggregate 42 = .ok (.ldc2_w 99, 3) := by decide +kernel
theorem d_P_newAggregate_45 : decode b_P_newAggregate 45 = .ok (.goto 4, 3) := by decide +kernel
theorem d_P_newAggregate_48 : decode b_P_newAggregate 48 = .ok (.dconst 0, 1) := by decide +kernel
theorem d_P_newAggregate_49 : decode b_P_newAggregate 49 = .ok (.dreturn, 1) := by decide +kernel
