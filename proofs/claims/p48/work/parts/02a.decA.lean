theorem dX0_init_0 : decode cX0_init 0 = .ok (.aload_n 0, 1) := by decide +kernel
theorem dX0_init_1 : decode cX0_init 1 = .ok (.invokespecial 3, 3) := by decide +kernel
theorem dX0_init_4 : decode cX0_init 4 = .ok (.aload_n 0, 1) := by decide +kernel
theorem dX0_init_5 : decode cX0_init 5 = .ok (.bipush 64, 2) := by decide +kernel
theorem dX0_init_7 : decode cX0_init 7 = .ok (.newarray .boolean, 2) := by decide +kernel
theorem dX0_init_9 : decode cX0_init 9 = .ok (.putfield 9, 3) := by decide +kernel
theorem dX0_init_12 : decode cX0_init 12 = .ok (.aload_n 0, 1) := by decide +kernel
theorem dX0_init_13 : decode cX0_init 13 = .ok (.bipush 64, 2) := by decide +kernel
theorem dX0_init_15 : decode cX0_init 15 = .ok (.newarray .int, 2) := by decide +kernel
theorem dX0_init_17 : decode cX0_init 17 = .ok (.putfield 15, 3) := by decide +kernel
theorem dX0_init_20 : decode cX0_init 20 = .ok (.aload_n 0, 1) := by decide +kernel
theorem dX0_init_21 : decode cX0_init 21 = .ok (.aload_n 1, 1) := by decide +kernel
theorem dX0_init_22 : decode cX0_init 22 = .ok (.putfield 19, 3) := by decide +kernel
theorem dX0_init_25 : decode cX0_init 25 = .ok (.aload_n 0, 1) := by decide +kernel
theorem dX0_init_26 : decode cX0_init 26 = .ok (.aload_n 2, 1) := by decide +kernel
theorem dX0_init_27 : decode cX0_init 27 = .ok (.putfield 23, 3) := by decide +kernel
theorem dX0_init_30 : decode cX0_init 30 = .ok (.return_, 1) := by decide +kernel
theorem dX0_isOn_0 : decode cX0_isOn 0 = .ok (.aload_n 0, 1) := by decide +kernel
theorem dX0_isOn_1 : decode cX0_isOn 1 = .ok (.getfield 27, 3) := by decide +kernel
theorem dX0_isOn_4 : decode cX0_isOn 4 = .ok (.ifnull 7, 3) := by decide +kernel
theorem dX0_isOn_7 : decode cX0_isOn 7 = .ok (.iconst 1, 1) := by decide +kernel
theorem dX0_isOn_8 : decode cX0_isOn 8 = .ok (.goto 4, 3) := by decide +kernel
theorem dX0_isOn_11 : decode cX0_isOn 11 = .ok (.iconst 0, 1) := by decide +kernel
theorem dX0_isOn_12 : decode cX0_isOn 12 = .ok (.ireturn, 1) := by decide +kernel
theorem dX0_begin_0 : decode cX0_begin 0 = .ok (.aload_n 1, 1) := by decide +kernel
theorem dX0_begin_1 : decode cX0_begin 1 = .ok (.iconst 1, 1) := by decide +kernel
theorem dX0_begin_2 : decode cX0_begin 2 = .ok (.putfield 31, 3) := by decide +kernel
theorem dX0_begin_5 : decode cX0_begin 5 = .ok (.aload_n 0, 1) := by decide +kernel
theorem dX0_begin_6 : decode cX0_begin 6 = .ok (.aload_n 1, 1) := by decide +kernel
theorem dX0_begin_7 : decode cX0_begin 7 = .ok (.putfield 27, 3) := by decide +kernel
theorem dX0_begin_10 : decode cX0_begin 10 = .ok (.aload_n 0, 1) := by decide +kernel
theorem dX0_begin_11 : decode cX0_begin 11 = .ok (.iconst 0, 1) := by decide +kernel
theorem dX0_begin_12 : decode cX0_begin 12 = .ok (.putfield 37, 3) := by decide +kernel
theorem dX0_begin_15 : decode cX0_begin 15 = .ok (.aload_n 0, 1) := by decide +kernel
theorem dX0_begin_16 : decode cX0_begin 16 = .ok (.iconst 1, 1) := by decide +kernel
theorem dX0_begin_17 : decode cX0_begin 17 = .ok (.putfield 41, 3) := by decide +kernel
theorem dX0_begin_20 : decode cX0_begin 20 = .ok (.aload_n 0, 1) := by decide +kernel
theorem dX0_begin_21 : decode cX0_begin 21 = .ok (.iload_n 2, 1) := by decide +kernel
theorem dX0_begin_22 : decode cX0_begin 22 = .ok (.iconst 3, 1) := by decide +kernel
theorem dX0_begin_23 : decode cX0_begin 23 = .ok (.iadd, 1) := by decide +kernel
theorem dX0_begin_24 : decode cX0_begin 24 = .ok (.putfield 44, 3) := by decide +kernel
theorem dX0_begin_27 : decode cX0_begin 27 = .ok (.aload_n 0, 1) := by decide +kernel
theorem dX0_begin_28 : decode cX0_begin 28 = .ok (.getfield 15, 3) := by decide +kernel
theorem dX0_begin_31 : decode cX0_begin 31 = .ok (.iconst (-1), 1) := by decide +kernel
theorem dX0_begin_32 : decode cX0_begin 32 = .ok (.invokestatic 47, 3) := by decide +kernel
theorem dX0_begin_35 : decode cX0_begin 35 = .ok (.iconst 0, 1) := by decide +kernel
theorem dX0_begin_36 : decode cX0_begin 36 = .ok (.istore_n 3, 1) := by decide +kernel
theorem dX0_begin_37 : decode cX0_begin 37 = .ok (.iload_n 3, 1) := by decide +kernel
theorem dX0_begin_38 : decode cX0_begin 38 = .ok (.bipush 64, 2) := by decide +kernel
theorem dX0_begin_40 : decode cX0_begin 40 = .ok (.if_icmp .ge 16, 3) := by decide +kernel
theorem dX0_begin_43 : decode cX0_begin 43 = .ok (.aload_n 0, 1) := by decide +kernel
theorem dX0_begin_44 : decode cX0_begin 44 = .ok (.getfield 9, 3) := by decide +kernel
theorem dX0_begin_47 : decode cX0_begin 47 = .ok (.iload_n 3, 1) := by decide +kernel
theorem dX0_begin_48 : decode cX0_begin 48 = .ok (.iconst 0, 1) := by decide +kernel
theorem dX0_begin_49 : decode cX0_begin 49 = .ok (.bastore, 1) := by decide +kernel
theorem dX0_begin_50 : decode cX0_begin 50 = .ok (.iinc 3 1, 3) := by decide +kernel
theorem dX0_begin_53 : decode cX0_begin 53 = .ok (.goto (-16), 3) := by decide +kernel
theorem dX0_begin_56 : decode cX0_begin 56 = .ok (.return_, 1) := by decide +kernel
theorem dX0_dayComes_0 : decode cX0_dayComes 0 = .ok (.iload_n 1, 1) := by decide +kernel
theorem dX0_dayComes_1 : decode cX0_dayComes 1 = .ok (.aload_n 0, 1) := by decide +kernel
theorem dX0_dayComes_2 : decode cX0_dayComes 2 = .ok (.getfield 44, 3) := by decide +kernel
theorem dX0_dayComes_5 : decode cX0_dayComes 5 = .ok (.if_icmp .lt 7, 3) := by decide +kernel
theorem dX0_dayComes_8 : decode cX0_dayComes 8 = .ok (.aload_n 0, 1) := by decide +kernel
theorem dX0_dayComes_9 : decode cX0_dayComes 9 = .ok (.invokevirtual 53, 3) := by decide +kernel
theorem dX0_dayComes_12 : decode cX0_dayComes 12 = .ok (.return_, 1) := by decide +kernel
theorem dX0_end_0 : decode cX0_end 0 = .ok (.aload_n 0, 1) := by decide +kernel
theorem dX0_end_1 : decode cX0_end 1 = .ok (.aconst_null, 1) := by decide +kernel
theorem dX0_end_2 : decode cX0_end 2 = .ok (.putfield 27, 3) := by decide +kernel
theorem dX0_end_5 : decode cX0_end 5 = .ok (.aload_n 0, 1) := by decide +kernel
theorem dX0_end_6 : decode cX0_end 6 = .ok (.iconst 0, 1) := by decide +kernel
theorem dX0_end_7 : decode cX0_end 7 = .ok (.putfield 41, 3) := by decide +kernel
theorem dX0_end_10 : decode cX0_end 10 = .ok (.return_, 1) := by decide +kernel
theorem dX0_doNext_0 : decode cX0_doNext 0 = .ok (.aload_n 0, 1) := by decide +kernel
theorem dX0_doNext_1 : decode cX0_doNext 1 = .ok (.getfield 27, 3) := by decide +kernel
theorem dX0_doNext_4 : decode cX0_doNext 4 = .ok (.getfield 56, 3) := by decide +kernel
theorem dX0_doNext_7 : decode cX0_doNext 7 = .ok (.aload_n 0, 1) := by decide +kernel
theorem dX0_doNext_8 : decode cX0_doNext 8 = .ok (.getfield 37, 3) := by decide +kernel
theorem dX0_doNext_11 : decode cX0_doNext 11 = .ok (.iaload, 1) := by decide +kernel
theorem dX0_doNext_12 : decode cX0_doNext 12 = .ok (.istore_n 2, 1) := by decide +kernel
theorem dX0_doNext_13 : decode cX0_doNext 13 = .ok (.iload_n 2, 1) := by decide +kernel
theorem dX0_doNext_14 : decode cX0_doNext 14 = .ok (.bipush 100, 2) := by decide +kernel
theorem dX0_doNext_16 : decode cX0_doNext 16 = .ok (.idiv, 1) := by decide +kernel
theorem dX0_doNext_17 : decode cX0_doNext 17 = .ok (.istore_n 3, 1) := by decide +kernel
theorem dX0_doNext_18 : decode cX0_doNext 18 = .ok (.iload_n 2, 1) := by decide +kernel
theorem dX0_doNext_19 : decode cX0_doNext 19 = .ok (.bipush 100, 2) := by decide +kernel
theorem dX0_doNext_21 : decode cX0_doNext 21 = .ok (.irem, 1) := by decide +kernel
theorem dX0_doNext_22 : decode cX0_doNext 22 = .ok (.istore 4, 2) := by decide +kernel
theorem dX0_doNext_24 : decode cX0_doNext 24 = .ok (.aload_n 0, 1) := by decide +kernel
theorem dX0_doNext_25 : decode cX0_doNext 25 = .ok (.getfield 23, 3) := by decide +kernel
theorem dX0_doNext_28 : decode cX0_doNext 28 = .ok (.invokevirtual 59, 3) := by decide +kernel
theorem dX0_doNext_31 : decode cX0_doNext 31 = .ok (.aload_n 0, 1) := by decide +kernel
theorem dX0_doNext_32 : decode cX0_doNext 32 = .ok (.iload_n 3, 1) := by decide +kernel
theorem dX0_doNext_33 : decode cX0_doNext 33 = .ok (.iload 4, 2) := by decide +kernel
theorem dX0_doNext_35 : decode cX0_doNext 35 = .ok (.invokevirtual 64, 3) := by decide +kernel
theorem dX0_doNext_38 : decode cX0_doNext 38 = .ok (.istore 5, 2) := by decide +kernel
theorem dX0_doNext_40 : decode cX0_doNext 40 = .ok (.iload 5, 2) := by decide +kernel
theorem dX0_doNext_42 : decode cX0_doNext 42 = .ok (.ifCond .eq 39, 3) := by decide +kernel
theorem dX0_doNext_45 : decode cX0_doNext 45 = .ok (.iload_n 1, 1) := by decide +kernel
theorem dX0_doNext_46 : decode cX0_doNext 46 = .ok (.iconst 1, 1) := by decide +kernel
theorem dX0_doNext_47 : decode cX0_doNext 47 = .ok (.if_icmp .ne 8, 3) := by decide +kernel
theorem dX0_doNext_50 : decode cX0_doNext 50 = .ok (.iload_n 3, 1) := by decide +kernel
theorem dX0_doNext_51 : decode cX0_doNext 51 = .ok (.iconst 1, 1) := by decide +kernel
theorem dX0_doNext_52 : decode cX0_doNext 52 = .ok (.if_icmp .ne 29, 3) := by decide +kernel
theorem dX0_doNext_55 : decode cX0_doNext 55 = .ok (.aload_n 0, 1) := by decide +kernel
theorem dX0_doNext_56 : decode cX0_doNext 56 = .ok (.iload_n 3, 1) := by decide +kernel
theorem dX0_doNext_57 : decode cX0_doNext 57 = .ok (.iload 4, 2) := by decide +kernel
theorem dX0_doNext_59 : decode cX0_doNext 59 = .ok (.iload_n 1, 1) := by decide +kernel
theorem dX0_doNext_60 : decode cX0_doNext 60 = .ok (.invokevirtual 68, 3) := by decide +kernel
theorem dX0_doNext_63 : decode cX0_doNext 63 = .ok (.iload_n 1, 1) := by decide +kernel
theorem dX0_doNext_64 : decode cX0_doNext 64 = .ok (.iconst 2, 1) := by decide +kernel
theorem dX0_doNext_65 : decode cX0_doNext 65 = .ok (.if_icmp .eq 16, 3) := by decide +kernel
theorem dX0_doNext_68 : decode cX0_doNext 68 = .ok (.aload_n 0, 1) := by decide +kernel
theorem dX0_doNext_69 : decode cX0_doNext 69 = .ok (.getfield 19, 3) := by decide +kernel
theorem dX0_doNext_72 : decode cX0_doNext 72 = .ok (.dup, 1) := by decide +kernel
theorem dX0_doNext_73 : decode cX0_doNext 73 = .ok (.getfield 72, 3) := by decide +kernel
theorem dX0_doNext_76 : decode cX0_doNext 76 = .ok (.iconst 1, 1) := by decide +kernel
theorem dX0_doNext_77 : decode cX0_doNext 77 = .ok (.iadd, 1) := by decide +kernel
theorem dX0_doNext_78 : decode cX0_doNext 78 = .ok (.putfield 72, 3) := by decide +kernel
theorem dX0_doNext_81 : decode cX0_doNext 81 = .ok (.iload 5, 2) := by decide +kernel
theorem dX0_doNext_83 : decode cX0_doNext 83 = .ok (.ifCond .eq 8, 3) := by decide +kernel
theorem dX0_doNext_86 : decode cX0_doNext 86 = .ok (.iload_n 1, 1) := by decide +kernel
theorem dX0_doNext_87 : decode cX0_doNext 87 = .ok (.iconst 1, 1) := by decide +kernel
theorem dX0_doNext_88 : decode cX0_doNext 88 = .ok (.if_icmp .ne 11, 3) := by decide +kernel
theorem dX0_doNext_91 : decode cX0_doNext 91 = .ok (.aload_n 0, 1) := by decide +kernel
theorem dX0_doNext_92 : decode cX0_doNext 92 = .ok (.getfield 9, 3) := by decide +kernel
theorem dX0_doNext_95 : decode cX0_doNext 95 = .ok (.iload 4, 2) := by decide +kernel
theorem dX0_doNext_97 : decode cX0_doNext 97 = .ok (.iconst 1, 1) := by decide +kernel
theorem dX0_doNext_98 : decode cX0_doNext 98 = .ok (.bastore, 1) := by decide +kernel
theorem dX0_doNext_99 : decode cX0_doNext 99 = .ok (.iload_n 1, 1) := by decide +kernel
theorem dX0_doNext_100 : decode cX0_doNext 100 = .ok (.iconst 2, 1) := by decide +kernel
theorem dX0_doNext_101 : decode cX0_doNext 101 = .ok (.if_icmp .ne 11, 3) := by decide +kernel
theorem dX0_doNext_104 : decode cX0_doNext 104 = .ok (.aload_n 0, 1) := by decide +kernel
theorem dX0_doNext_105 : decode cX0_doNext 105 = .ok (.aconst_null, 1) := by decide +kernel
theorem dX0_doNext_106 : decode cX0_doNext 106 = .ok (.putfield 27, 3) := by decide +kernel
theorem dX0_doNext_109 : decode cX0_doNext 109 = .ok (.goto 7, 3) := by decide +kernel
theorem dX0_doNext_112 : decode cX0_doNext 112 = .ok (.aload_n 0, 1) := by decide +kernel
theorem dX0_doNext_113 : decode cX0_doNext 113 = .ok (.invokevirtual 77, 3) := by decide +kernel
theorem dX0_doNext_116 : decode cX0_doNext 116 = .ok (.iload_n 2, 1) := by decide +kernel
theorem dX0_doNext_117 : decode cX0_doNext 117 = .ok (.ireturn, 1) := by decide +kernel
theorem dX0_isAble_0 : decode cX0_isAble 0 = .ok (.iload_n 1, 1) := by decide +kernel
theorem dX0_isAble_1 : decode cX0_isAble 1 = .ok (.iconst 1, 1) := by decide +kernel
theorem dX0_isAble_2 : decode cX0_isAble 2 = .ok (.if_icmp .ne 17, 3) := by decide +kernel
theorem dX0_isAble_5 : decode cX0_isAble 5 = .ok (.aload_n 0, 1) := by decide +kernel
theorem dX0_isAble_6 : decode cX0_isAble 6 = .ok (.getfield 19, 3) := by decide +kernel
theorem dX0_isAble_9 : decode cX0_isAble 9 = .ok (.getfield 80, 3) := by decide +kernel
theorem dX0_isAble_12 : decode cX0_isAble 12 = .ok (.bipush 60, 2) := by decide +kernel
theorem dX0_isAble_14 : decode cX0_isAble 14 = .ok (.if_icmp .lt 5, 3) := by decide +kernel
theorem dX0_isAble_17 : decode cX0_isAble 17 = .ok (.iconst 0, 1) := by decide +kernel
theorem dX0_isAble_18 : decode cX0_isAble 18 = .ok (.ireturn, 1) := by decide +kernel
theorem dX0_isAble_19 : decode cX0_isAble 19 = .ok (.iload_n 1, 1) := by decide +kernel
theorem dX0_isAble_20 : decode cX0_isAble 20 = .ok (.iconst 3, 1) := by decide +kernel
theorem dX0_isAble_21 : decode cX0_isAble 21 = .ok (.if_icmp .eq 8, 3) := by decide +kernel
theorem dX0_isAble_24 : decode cX0_isAble 24 = .ok (.iload_n 1, 1) := by decide +kernel
theorem dX0_isAble_25 : decode cX0_isAble 25 = .ok (.iconst 4, 1) := by decide +kernel
theorem dX0_isAble_26 : decode cX0_isAble 26 = .ok (.if_icmp .ne 5, 3) := by decide +kernel
theorem dX0_isAble_29 : decode cX0_isAble 29 = .ok (.iconst 1, 1) := by decide +kernel
theorem dX0_isAble_30 : decode cX0_isAble 30 = .ok (.ireturn, 1) := by decide +kernel
theorem dX0_isAble_31 : decode cX0_isAble 31 = .ok (.iconst 0, 1) := by decide +kernel
theorem dX0_isAble_32 : decode cX0_isAble 32 = .ok (.istore_n 3, 1) := by decide +kernel
theorem dX0_isAble_33 : decode cX0_isAble 33 = .ok (.iload_n 3, 1) := by decide +kernel
theorem dX0_isAble_34 : decode cX0_isAble 34 = .ok (.iconst 3, 1) := by decide +kernel
theorem dX0_isAble_35 : decode cX0_isAble 35 = .ok (.if_icmp .ge 28, 3) := by decide +kernel
theorem dX0_isAble_38 : decode cX0_isAble 38 = .ok (.aload_n 0, 1) := by decide +kernel
theorem dX0_isAble_39 : decode cX0_isAble 39 = .ok (.getfield 23, 3) := by decide +kernel
theorem dX0_isAble_42 : decode cX0_isAble 42 = .ok (.getfield 83, 3) := by decide +kernel
theorem dX0_isAble_45 : decode cX0_isAble 45 = .ok (.iload_n 2, 1) := by decide +kernel
theorem dX0_isAble_46 : decode cX0_isAble 46 = .ok (.iconst 3, 1) := by decide +kernel
theorem dX0_isAble_47 : decode cX0_isAble 47 = .ok (.imul, 1) := by decide +kernel
theorem dX0_isAble_48 : decode cX0_isAble 48 = .ok (.iload_n 3, 1) := by decide +kernel
theorem dX0_isAble_49 : decode cX0_isAble 49 = .ok (.iadd, 1) := by decide +kernel
theorem dX0_isAble_50 : decode cX0_isAble 50 = .ok (.iaload, 1) := by decide +kernel
theorem dX0_isAble_51 : decode cX0_isAble 51 = .ok (.iconst (-1), 1) := by decide +kernel
theorem dX0_isAble_52 : decode cX0_isAble 52 = .ok (.if_icmp .ne 5, 3) := by decide +kernel
theorem dX0_isAble_55 : decode cX0_isAble 55 = .ok (.iconst 0, 1) := by decide +kernel
theorem dX0_isAble_56 : decode cX0_isAble 56 = .ok (.ireturn, 1) := by decide +kernel
theorem dX0_isAble_57 : decode cX0_isAble 57 = .ok (.iinc 3 1, 3) := by decide +kernel
theorem dX0_isAble_60 : decode cX0_isAble 60 = .ok (.goto (-27), 3) := by decide +kernel
theorem dX0_isAble_63 : decode cX0_isAble 63 = .ok (.iconst 1, 1) := by decide +kernel
theorem dX0_isAble_64 : decode cX0_isAble 64 = .ok (.ireturn, 1) := by decide +kernel
theorem dX0_act_0 : decode cX0_act 0 = .ok (.iload_n 1, 1) := by decide +kernel
theorem dX0_act_1 : decode cX0_act 1 = .ok (.iconst 1, 1) := by decide +kernel
theorem dX0_act_2 : decode cX0_act 2 = .ok (.if_icmp .ne 9, 3) := by decide +kernel
theorem dX0_act_5 : decode cX0_act 5 = .ok (.aload_n 0, 1) := by decide +kernel
theorem dX0_act_6 : decode cX0_act 6 = .ok (.iload_n 2, 1) := by decide +kernel
theorem dX0_act_7 : decode cX0_act 7 = .ok (.iload_n 3, 1) := by decide +kernel
theorem dX0_act_8 : decode cX0_act 8 = .ok (.invokevirtual 86, 3) := by decide +kernel
theorem dX0_act_11 : decode cX0_act 11 = .ok (.iload_n 1, 1) := by decide +kernel
theorem dX0_act_12 : decode cX0_act 12 = .ok (.iconst 2, 1) := by decide +kernel
theorem dX0_act_13 : decode cX0_act 13 = .ok (.if_icmp .ne 9, 3) := by decide +kernel
theorem dX0_act_16 : decode cX0_act 16 = .ok (.aload_n 0, 1) := by decide +kernel
theorem dX0_act_17 : decode cX0_act 17 = .ok (.iload_n 2, 1) := by decide +kernel
theorem dX0_act_18 : decode cX0_act 18 = .ok (.iload_n 3, 1) := by decide +kernel
theorem dX0_act_19 : decode cX0_act 19 = .ok (.invokevirtual 90, 3) := by decide +kernel
theorem dX0_act_22 : decode cX0_act 22 = .ok (.iload_n 1, 1) := by decide +kernel
theorem dX0_act_23 : decode cX0_act 23 = .ok (.iconst 3, 1) := by decide +kernel
theorem dX0_act_24 : decode cX0_act 24 = .ok (.if_icmp .ne 9, 3) := by decide +kernel
theorem dX0_act_27 : decode cX0_act 27 = .ok (.aload_n 0, 1) := by decide +kernel
theorem dX0_act_28 : decode cX0_act 28 = .ok (.iload_n 2, 1) := by decide +kernel
theorem dX0_act_29 : decode cX0_act 29 = .ok (.iload_n 3, 1) := by decide +kernel
theorem dX0_act_30 : decode cX0_act 30 = .ok (.invokevirtual 93, 3) := by decide +kernel
theorem dX0_act_33 : decode cX0_act 33 = .ok (.iload_n 1, 1) := by decide +kernel
theorem dX0_act_34 : decode cX0_act 34 = .ok (.iconst 4, 1) := by decide +kernel
theorem dX0_act_35 : decode cX0_act 35 = .ok (.if_icmp .ne 28, 3) := by decide +kernel
theorem dX0_act_38 : decode cX0_act 38 = .ok (.aload_n 0, 1) := by decide +kernel
theorem dX0_act_39 : decode cX0_act 39 = .ok (.getfield 15, 3) := by decide +kernel
theorem dX0_act_42 : decode cX0_act 42 = .ok (.iload_n 2, 1) := by decide +kernel
theorem dX0_act_43 : decode cX0_act 43 = .ok (.iaload, 1) := by decide +kernel
theorem dX0_act_44 : decode cX0_act 44 = .ok (.iconst (-1), 1) := by decide +kernel
theorem dX0_act_45 : decode cX0_act 45 = .ok (.if_icmp .eq 18, 3) := by decide +kernel
theorem dX0_act_48 : decode cX0_act 48 = .ok (.aload_n 0, 1) := by decide +kernel
theorem dX0_act_49 : decode cX0_act 49 = .ok (.getfield 19, 3) := by decide +kernel
theorem dX0_act_52 : decode cX0_act 52 = .ok (.getfield 96, 3) := by decide +kernel
theorem dX0_act_55 : decode cX0_act 55 = .ok (.aload_n 0, 1) := by decide +kernel
theorem dX0_act_56 : decode cX0_act 56 = .ok (.getfield 15, 3) := by decide +kernel
theorem dX0_act_59 : decode cX0_act 59 = .ok (.iload_n 2, 1) := by decide +kernel
theorem dX0_act_60 : decode cX0_act 60 = .ok (.iaload, 1) := by decide +kernel
theorem dX0_act_61 : decode cX0_act 61 = .ok (.iconst 1, 1) := by decide +kernel
theorem dX0_act_62 : decode cX0_act 62 = .ok (.bastore, 1) := by decide +kernel
theorem dX0_act_63 : decode cX0_act 63 = .ok (.return_, 1) := by decide +kernel
theorem dX0_makeResource_0 : decode cX0_makeResource 0 = .ok (.aload_n 0, 1) := by decide +kernel
theorem dX0_makeResource_1 : decode cX0_makeResource 1 = .ok (.getfield 19, 3) := by decide +kernel
theorem dX0_makeResource_4 : decode cX0_makeResource 4 = .ok (.iload_n 1, 1) := by decide +kernel
theorem dX0_makeResource_5 : decode cX0_makeResource 5 = .ok (.invokevirtual 99, 3) := by decide +kernel
theorem dX0_makeResource_8 : decode cX0_makeResource 8 = .ok (.astore_n 3, 1) := by decide +kernel
theorem dX0_makeResource_9 : decode cX0_makeResource 9 = .ok (.aload_n 0, 1) := by decide +kernel
theorem dX0_makeResource_10 : decode cX0_makeResource 10 = .ok (.getfield 19, 3) := by decide +kernel
theorem dX0_makeResource_13 : decode cX0_makeResource 13 = .ok (.aload_n 0, 1) := by decide +kernel
theorem dX0_makeResource_14 : decode cX0_makeResource 14 = .ok (.getfield 19, 3) := by decide +kernel
theorem dX0_makeResource_17 : decode cX0_makeResource 17 = .ok (.iload_n 1, 1) := by decide +kernel
theorem dX0_makeResource_18 : decode cX0_makeResource 18 = .ok (.invokevirtual 103, 3) := by decide +kernel
theorem dX0_makeResource_21 : decode cX0_makeResource 21 = .ok (.invokevirtual 107, 3) := by decide +kernel
theorem dX0_makeResource_24 : decode cX0_makeResource 24 = .ok (.istore 4, 2) := by decide +kernel
theorem dX0_makeResource_26 : decode cX0_makeResource 26 = .ok (.aload_n 0, 1) := by decide +kernel
theorem dX0_makeResource_27 : decode cX0_makeResource 27 = .ok (.getfield 19, 3) := by decide +kernel
theorem dX0_makeResource_30 : decode cX0_makeResource 30 = .ok (.iload_n 1, 1) := by decide +kernel
theorem dX0_makeResource_31 : decode cX0_makeResource 31 = .ok (.invokevirtual 110, 3) := by decide +kernel
theorem dX0_makeResource_34 : decode cX0_makeResource 34 = .ok (.istore 5, 2) := by decide +kernel
theorem dX0_makeResource_36 : decode cX0_makeResource 36 = .ok (.new 113, 3) := by decide +kernel
theorem dX0_makeResource_39 : decode cX0_makeResource 39 = .ok (.dup, 1) := by decide +kernel
theorem dX0_makeResource_40 : decode cX0_makeResource 40 = .ok (.iload 4, 2) := by decide +kernel
theorem dX0_makeResource_42 : decode cX0_makeResource 42 = .ok (.invokespecial 115, 3) := by decide +kernel
theorem dX0_makeResource_45 : decode cX0_makeResource 45 = .ok (.astore 6, 2) := by decide +kernel
theorem dX0_makeResource_47 : decode cX0_makeResource 47 = .ok (.aload 6, 2) := by decide +kernel
theorem dX0_makeResource_49 : decode cX0_makeResource 49 = .ok (.iload_n 2, 1) := by decide +kernel
theorem dX0_makeResource_50 : decode cX0_makeResource 50 = .ok (.iconst 1, 1) := by decide +kernel
theorem dX0_makeResource_51 : decode cX0_makeResource 51 = .ok (.if_icmp .ne 7, 3) := by decide +kernel
theorem dX0_makeResource_54 : decode cX0_makeResource 54 = .ok (.iconst 1, 1) := by decide +kernel
theorem dX0_makeResource_55 : decode cX0_makeResource 55 = .ok (.goto 4, 3) := by decide +kernel
theorem dX0_makeResource_58 : decode cX0_makeResource 58 = .ok (.iconst 0, 1) := by decide +kernel
theorem dX0_makeResource_59 : decode cX0_makeResource 59 = .ok (.putfield 118, 3) := by decide +kernel
theorem dX0_makeResource_62 : decode cX0_makeResource 62 = .ok (.iconst 0, 1) := by decide +kernel
theorem dX0_makeResource_63 : decode cX0_makeResource 63 = .ok (.istore 7, 2) := by decide +kernel
theorem dX0_makeResource_65 : decode cX0_makeResource 65 = .ok (.iload 7, 2) := by decide +kernel
theorem dX0_makeResource_67 : decode cX0_makeResource 67 = .ok (.iconst 3, 1) := by decide +kernel
theorem dX0_makeResource_68 : decode cX0_makeResource 68 = .ok (.if_icmp .ge 73, 3) := by decide +kernel
theorem dX0_makeResource_71 : decode cX0_makeResource 71 = .ok (.iload_n 1, 1) := by decide +kernel
theorem dX0_makeResource_72 : decode cX0_makeResource 72 = .ok (.iconst 3, 1) := by decide +kernel
theorem dX0_makeResource_73 : decode cX0_makeResource 73 = .ok (.imul, 1) := by decide +kernel
theorem dX0_makeResource_74 : decode cX0_makeResource 74 = .ok (.iload 7, 2) := by decide +kernel
theorem dX0_makeResource_76 : decode cX0_makeResource 76 = .ok (.iadd, 1) := by decide +kernel
theorem dX0_makeResource_77 : decode cX0_makeResource 77 = .ok (.istore 8, 2) := by decide +kernel
theorem dX0_makeResource_79 : decode cX0_makeResource 79 = .ok (.aload 6, 2) := by decide +kernel
theorem dX0_makeResource_81 : decode cX0_makeResource 81 = .ok (.getfield 121, 3) := by decide +kernel
theorem dX0_makeResource_84 : decode cX0_makeResource 84 = .ok (.iload 7, 2) := by decide +kernel
theorem dX0_makeResource_86 : decode cX0_makeResource 86 = .ok (.aload_n 3, 1) := by decide +kernel
theorem dX0_makeResource_87 : decode cX0_makeResource 87 = .ok (.iload 7, 2) := by decide +kernel
theorem dX0_makeResource_89 : decode cX0_makeResource 89 = .ok (.iconst 2, 1) := by decide +kernel
theorem dX0_makeResource_90 : decode cX0_makeResource 90 = .ok (.invokevirtual 124, 3) := by decide +kernel
theorem dX0_makeResource_93 : decode cX0_makeResource 93 = .ok (.ifCond .eq 8, 3) := by decide +kernel
theorem dX0_makeResource_96 : decode cX0_makeResource 96 = .ok (.iload 5, 2) := by decide +kernel
theorem dX0_makeResource_98 : decode cX0_makeResource 98 = .ok (.goto 13, 3) := by decide +kernel
theorem dX0_makeResource_101 : decode cX0_makeResource 101 = .ok (.aload_n 0, 1) := by decide +kernel
theorem dX0_makeResource_102 : decode cX0_makeResource 102 = .ok (.getfield 23, 3) := by decide +kernel
theorem dX0_makeResource_105 : decode cX0_makeResource 105 = .ok (.getfield 83, 3) := by decide +kernel
theorem dX0_makeResource_108 : decode cX0_makeResource 108 = .ok (.iload 8, 2) := by decide +kernel
theorem dX0_makeResource_110 : decode cX0_makeResource 110 = .ok (.iaload, 1) := by decide +kernel
theorem dX0_makeResource_111 : decode cX0_makeResource 111 = .ok (.iastore, 1) := by decide +kernel
theorem dX0_makeResource_112 : decode cX0_makeResource 112 = .ok (.aload_n 0, 1) := by decide +kernel
theorem dX0_makeResource_113 : decode cX0_makeResource 113 = .ok (.getfield 19, 3) := by decide +kernel
theorem dX0_makeResource_116 : decode cX0_makeResource 116 = .ok (.getfield 129, 3) := by decide +kernel
theorem dX0_makeResource_119 : decode cX0_makeResource 119 = .ok (.iload 4, 2) := by decide +kernel
theorem dX0_makeResource_121 : decode cX0_makeResource 121 = .ok (.iconst 3, 1) := by decide +kernel
theorem dX0_makeResource_122 : decode cX0_makeResource 122 = .ok (.imul, 1) := by decide +kernel
theorem dX0_makeResource_123 : decode cX0_makeResource 123 = .ok (.iload 7, 2) := by decide +kernel
theorem dX0_makeResource_125 : decode cX0_makeResource 125 = .ok (.iadd, 1) := by decide +kernel
theorem dX0_makeResource_126 : decode cX0_makeResource 126 = .ok (.aload 6, 2) := by decide +kernel
theorem dX0_makeResource_128 : decode cX0_makeResource 128 = .ok (.getfield 121, 3) := by decide +kernel
theorem dX0_makeResource_131 : decode cX0_makeResource 131 = .ok (.iload 7, 2) := by decide +kernel
theorem dX0_makeResource_133 : decode cX0_makeResource 133 = .ok (.iaload, 1) := by decide +kernel
theorem dX0_makeResource_134 : decode cX0_makeResource 134 = .ok (.iastore, 1) := by decide +kernel
theorem dX0_makeResource_135 : decode cX0_makeResource 135 = .ok (.iinc 7 1, 3) := by decide +kernel
theorem dX0_makeResource_138 : decode cX0_makeResource 138 = .ok (.goto (-73), 3) := by decide +kernel
theorem dX0_makeResource_141 : decode cX0_makeResource 141 = .ok (.iload_n 2, 1) := by decide +kernel
theorem dX0_makeResource_142 : decode cX0_makeResource 142 = .ok (.iconst 2, 1) := by decide +kernel
theorem dX0_makeResource_143 : decode cX0_makeResource 143 = .ok (.if_icmp .ne 4, 3) := by decide +kernel
theorem dX0_makeResource_146 : decode cX0_makeResource 146 = .ok (.return_, 1) := by decide +kernel
theorem dX0_makeResource_147 : decode cX0_makeResource 147 = .ok (.aload_n 0, 1) := by decide +kernel
theorem dX0_makeResource_148 : decode cX0_makeResource 148 = .ok (.getfield 19, 3) := by decide +kernel
theorem dX0_makeResource_151 : decode cX0_makeResource 151 = .ok (.getfield 132, 3) := by decide +kernel
theorem dX0_makeResource_154 : decode cX0_makeResource 154 = .ok (.iload_n 1, 1) := by decide +kernel
theorem dX0_makeResource_155 : decode cX0_makeResource 155 = .ok (.aaload, 1) := by decide +kernel
theorem dX0_makeResource_156 : decode cX0_makeResource 156 = .ok (.ifnull 21, 3) := by decide +kernel
theorem dX0_makeResource_159 : decode cX0_makeResource 159 = .ok (.aload_n 0, 1) := by decide +kernel
theorem dX0_makeResource_160 : decode cX0_makeResource 160 = .ok (.getfield 15, 3) := by decide +kernel
theorem dX0_makeResource_163 : decode cX0_makeResource 163 = .ok (.iload_n 1, 1) := by decide +kernel
theorem dX0_makeResource_164 : decode cX0_makeResource 164 = .ok (.aload_n 0, 1) := by decide +kernel
theorem dX0_makeResource_165 : decode cX0_makeResource 165 = .ok (.getfield 19, 3) := by decide +kernel
theorem dX0_makeResource_168 : decode cX0_makeResource 168 = .ok (.getfield 132, 3) := by decide +kernel
theorem dX0_makeResource_171 : decode cX0_makeResource 171 = .ok (.iload_n 1, 1) := by decide +kernel
theorem dX0_makeResource_172 : decode cX0_makeResource 172 = .ok (.aaload, 1) := by decide +kernel
theorem dX0_makeResource_173 : decode cX0_makeResource 173 = .ok (.getfield 136, 3) := by decide +kernel
theorem dX0_makeResource_176 : decode cX0_makeResource 176 = .ok (.iastore, 1) := by decide +kernel
theorem dX0_makeResource_177 : decode cX0_makeResource 177 = .ok (.aload_n 0, 1) := by decide +kernel
theorem dX0_makeResource_178 : decode cX0_makeResource 178 = .ok (.getfield 19, 3) := by decide +kernel
theorem dX0_makeResource_181 : decode cX0_makeResource 181 = .ok (.getfield 132, 3) := by decide +kernel
theorem dX0_makeResource_184 : decode cX0_makeResource 184 = .ok (.iload_n 1, 1) := by decide +kernel
theorem dX0_makeResource_185 : decode cX0_makeResource 185 = .ok (.aload 6, 2) := by decide +kernel
theorem dX0_makeResource_187 : decode cX0_makeResource 187 = .ok (.aastore, 1) := by decide +kernel
theorem dX0_makeResource_188 : decode cX0_makeResource 188 = .ok (.return_, 1) := by decide +kernel
theorem dX0_writeDifferences_0 : decode cX0_writeDifferences 0 = .ok (.aload_n 0, 1) := by decide +kernel
theorem dX0_writeDifferences_1 : decode cX0_writeDifferences 1 = .ok (.getfield 19, 3) := by decide +kernel
theorem dX0_writeDifferences_4 : decode cX0_writeDifferences 4 = .ok (.getfield 132, 3) := by decide +kernel
theorem dX0_writeDifferences_7 : decode cX0_writeDifferences 7 = .ok (.iload_n 1, 1) := by decide +kernel
theorem dX0_writeDifferences_8 : decode cX0_writeDifferences 8 = .ok (.aaload, 1) := by decide +kernel
theorem dX0_writeDifferences_9 : decode cX0_writeDifferences 9 = .ok (.astore_n 3, 1) := by decide +kernel
theorem dX0_writeDifferences_10 : decode cX0_writeDifferences 10 = .ok (.aload_n 3, 1) := by decide +kernel
theorem dX0_writeDifferences_11 : decode cX0_writeDifferences 11 = .ok (.ifnonnull 4, 3) := by decide +kernel
theorem dX0_writeDifferences_14 : decode cX0_writeDifferences 14 = .ok (.return_, 1) := by decide +kernel
theorem dX0_writeDifferences_15 : decode cX0_writeDifferences 15 = .ok (.iconst 0, 1) := by decide +kernel
theorem dX0_writeDifferences_16 : decode cX0_writeDifferences 16 = .ok (.istore 4, 2) := by decide +kernel
theorem dX0_writeDifferences_18 : decode cX0_writeDifferences 18 = .ok (.iload 4, 2) := by decide +kernel
theorem dX0_writeDifferences_20 : decode cX0_writeDifferences 20 = .ok (.iconst 3, 1) := by decide +kernel
theorem dX0_writeDifferences_21 : decode cX0_writeDifferences 21 = .ok (.if_icmp .ge 75, 3) := by decide +kernel
theorem dX0_writeDifferences_24 : decode cX0_writeDifferences 24 = .ok (.aload_n 0, 1) := by decide +kernel
theorem dX0_writeDifferences_25 : decode cX0_writeDifferences 25 = .ok (.getfield 23, 3) := by decide +kernel
theorem dX0_writeDifferences_28 : decode cX0_writeDifferences 28 = .ok (.getfield 83, 3) := by decide +kernel
theorem dX0_writeDifferences_31 : decode cX0_writeDifferences 31 = .ok (.iload_n 1, 1) := by decide +kernel
theorem dX0_writeDifferences_32 : decode cX0_writeDifferences 32 = .ok (.iconst 3, 1) := by decide +kernel
theorem dX0_writeDifferences_33 : decode cX0_writeDifferences 33 = .ok (.imul, 1) := by decide +kernel
theorem dX0_writeDifferences_34 : decode cX0_writeDifferences 34 = .ok (.iload 4, 2) := by decide +kernel
theorem dX0_writeDifferences_36 : decode cX0_writeDifferences 36 = .ok (.iadd, 1) := by decide +kernel
theorem dX0_writeDifferences_37 : decode cX0_writeDifferences 37 = .ok (.iaload, 1) := by decide +kernel
theorem dX0_writeDifferences_38 : decode cX0_writeDifferences 38 = .ok (.istore 5, 2) := by decide +kernel
theorem dX0_writeDifferences_40 : decode cX0_writeDifferences 40 = .ok (.aload_n 0, 1) := by decide +kernel
theorem dX0_writeDifferences_41 : decode cX0_writeDifferences 41 = .ok (.getfield 23, 3) := by decide +kernel
theorem dX0_writeDifferences_44 : decode cX0_writeDifferences 44 = .ok (.iload_n 1, 1) := by decide +kernel
theorem dX0_writeDifferences_45 : decode cX0_writeDifferences 45 = .ok (.iload 4, 2) := by decide +kernel
theorem dX0_writeDifferences_47 : decode cX0_writeDifferences 47 = .ok (.iload 5, 2) := by decide +kernel
theorem dX0_writeDifferences_49 : decode cX0_writeDifferences 49 = .ok (.invokevirtual 139, 3) := by decide +kernel
theorem dX0_writeDifferences_52 : decode cX0_writeDifferences 52 = .ok (.ifCond .ne 6, 3) := by decide +kernel
theorem dX0_writeDifferences_55 : decode cX0_writeDifferences 55 = .ok (.goto 35, 3) := by decide +kernel
theorem dX0_writeDifferences_58 : decode cX0_writeDifferences 58 = .ok (.aload_n 0, 1) := by decide +kernel
theorem dX0_writeDifferences_59 : decode cX0_writeDifferences 59 = .ok (.getfield 19, 3) := by decide +kernel
theorem dX0_writeDifferences_62 : decode cX0_writeDifferences 62 = .ok (.getfield 129, 3) := by decide +kernel
theorem dX0_writeDifferences_65 : decode cX0_writeDifferences 65 = .ok (.aload_n 3, 1) := by decide +kernel
theorem dX0_writeDifferences_66 : decode cX0_writeDifferences 66 = .ok (.getfield 136, 3) := by decide +kernel
theorem dX0_writeDifferences_69 : decode cX0_writeDifferences 69 = .ok (.iconst 3, 1) := by decide +kernel
theorem dX0_writeDifferences_70 : decode cX0_writeDifferences 70 = .ok (.imul, 1) := by decide +kernel
theorem dX0_writeDifferences_71 : decode cX0_writeDifferences 71 = .ok (.iload 4, 2) := by decide +kernel
theorem dX0_writeDifferences_73 : decode cX0_writeDifferences 73 = .ok (.iadd, 1) := by decide +kernel
theorem dX0_writeDifferences_74 : decode cX0_writeDifferences 74 = .ok (.iload 5, 2) := by decide +kernel
theorem dX0_writeDifferences_76 : decode cX0_writeDifferences 76 = .ok (.iastore, 1) := by decide +kernel
theorem dX0_writeDifferences_77 : decode cX0_writeDifferences 77 = .ok (.iload_n 2, 1) := by decide +kernel
theorem dX0_writeDifferences_78 : decode cX0_writeDifferences 78 = .ok (.iconst 2, 1) := by decide +kernel
theorem dX0_writeDifferences_79 : decode cX0_writeDifferences 79 = .ok (.if_icmp .eq 11, 3) := by decide +kernel
theorem dX0_writeDifferences_82 : decode cX0_writeDifferences 82 = .ok (.aload_n 3, 1) := by decide +kernel
theorem dX0_writeDifferences_83 : decode cX0_writeDifferences 83 = .ok (.iload 4, 2) := by decide +kernel
theorem dX0_writeDifferences_85 : decode cX0_writeDifferences 85 = .ok (.iload 5, 2) := by decide +kernel
theorem dX0_writeDifferences_87 : decode cX0_writeDifferences 87 = .ok (.invokevirtual 143, 3) := by decide +kernel
theorem dX0_writeDifferences_90 : decode cX0_writeDifferences 90 = .ok (.iinc 4 1, 3) := by decide +kernel
theorem dX0_writeDifferences_93 : decode cX0_writeDifferences 93 = .ok (.goto (-75), 3) := by decide +kernel
theorem dX0_writeDifferences_96 : decode cX0_writeDifferences 96 = .ok (.return_, 1) := by decide +kernel
theorem dX0_endResource_0 : decode cX0_endResource 0 = .ok (.aload_n 0, 1) := by decide +kernel
theorem dX0_endResource_1 : decode cX0_endResource 1 = .ok (.getfield 19, 3) := by decide +kernel
theorem dX0_endResource_4 : decode cX0_endResource 4 = .ok (.getfield 132, 3) := by decide +kernel
theorem dX0_endResource_7 : decode cX0_endResource 7 = .ok (.iload_n 1, 1) := by decide +kernel
theorem dX0_endResource_8 : decode cX0_endResource 8 = .ok (.aaload, 1) := by decide +kernel
theorem dX0_endResource_9 : decode cX0_endResource 9 = .ok (.astore_n 3, 1) := by decide +kernel
theorem dX0_endResource_10 : decode cX0_endResource 10 = .ok (.aload_n 3, 1) := by decide +kernel
theorem dX0_endResource_11 : decode cX0_endResource 11 = .ok (.ifnonnull 4, 3) := by decide +kernel
theorem dX0_endResource_14 : decode cX0_endResource 14 = .ok (.return_, 1) := by decide +kernel
theorem dX0_endResource_15 : decode cX0_endResource 15 = .ok (.aload_n 0, 1) := by decide +kernel
theorem dX0_endResource_16 : decode cX0_endResource 16 = .ok (.getfield 19, 3) := by decide +kernel
theorem dX0_endResource_19 : decode cX0_endResource 19 = .ok (.getfield 96, 3) := by decide +kernel
theorem dX0_endResource_22 : decode cX0_endResource 22 = .ok (.aload_n 3, 1) := by decide +kernel
theorem dX0_endResource_23 : decode cX0_endResource 23 = .ok (.getfield 136, 3) := by decide +kernel
theorem dX0_endResource_26 : decode cX0_endResource 26 = .ok (.iconst 1, 1) := by decide +kernel
theorem dX0_endResource_27 : decode cX0_endResource 27 = .ok (.bastore, 1) := by decide +kernel
theorem dX0_endResource_28 : decode cX0_endResource 28 = .ok (.iload_n 2, 1) := by decide +kernel
theorem dX0_endResource_29 : decode cX0_endResource 29 = .ok (.iconst 2, 1) := by decide +kernel
theorem dX0_endResource_30 : decode cX0_endResource 30 = .ok (.if_icmp .eq 13, 3) := by decide +kernel
theorem dX0_endResource_33 : decode cX0_endResource 33 = .ok (.aload_n 0, 1) := by decide +kernel
theorem dX0_endResource_34 : decode cX0_endResource 34 = .ok (.getfield 19, 3) := by decide +kernel
theorem dX0_endResource_37 : decode cX0_endResource 37 = .ok (.getfield 132, 3) := by decide +kernel
theorem dX0_endResource_40 : decode cX0_endResource 40 = .ok (.iload_n 1, 1) := by decide +kernel
theorem dX0_endResource_41 : decode cX0_endResource 41 = .ok (.aconst_null, 1) := by decide +kernel
theorem dX0_endResource_42 : decode cX0_endResource 42 = .ok (.aastore, 1) := by decide +kernel
theorem dX0_endResource_43 : decode cX0_endResource 43 = .ok (.return_, 1) := by decide +kernel
theorem dX0_goOn_0 : decode cX0_goOn 0 = .ok (.aload_n 0, 1) := by decide +kernel
theorem dX0_goOn_1 : decode cX0_goOn 1 = .ok (.dup, 1) := by decide +kernel
theorem dX0_goOn_2 : decode cX0_goOn 2 = .ok (.getfield 37, 3) := by decide +kernel
theorem dX0_goOn_5 : decode cX0_goOn 5 = .ok (.iconst 1, 1) := by decide +kernel
theorem dX0_goOn_6 : decode cX0_goOn 6 = .ok (.iadd, 1) := by decide +kernel
theorem dX0_goOn_7 : decode cX0_goOn 7 = .ok (.putfield 37, 3) := by decide +kernel
theorem dX0_goOn_10 : decode cX0_goOn 10 = .ok (.aload_n 0, 1) := by decide +kernel
theorem dX0_goOn_11 : decode cX0_goOn 11 = .ok (.getfield 37, 3) := by decide +kernel
theorem dX0_goOn_14 : decode cX0_goOn 14 = .ok (.aload_n 0, 1) := by decide +kernel
theorem dX0_goOn_15 : decode cX0_goOn 15 = .ok (.getfield 27, 3) := by decide +kernel
theorem dX0_goOn_18 : decode cX0_goOn 18 = .ok (.getfield 56, 3) := by decide +kernel
theorem dX0_goOn_21 : decode cX0_goOn 21 = .ok (.arraylength, 1) := by decide +kernel
theorem dX0_goOn_22 : decode cX0_goOn 22 = .ok (.if_icmp .ge 59, 3) := by decide +kernel
theorem dX0_goOn_25 : decode cX0_goOn 25 = .ok (.aload_n 0, 1) := by decide +kernel
theorem dX0_goOn_26 : decode cX0_goOn 26 = .ok (.aload_n 0, 1) := by decide +kernel
theorem dX0_goOn_27 : decode cX0_goOn 27 = .ok (.getfield 27, 3) := by decide +kernel
theorem dX0_goOn_30 : decode cX0_goOn 30 = .ok (.getfield 56, 3) := by decide +kernel
theorem dX0_goOn_33 : decode cX0_goOn 33 = .ok (.aload_n 0, 1) := by decide +kernel
theorem dX0_goOn_34 : decode cX0_goOn 34 = .ok (.getfield 37, 3) := by decide +kernel
theorem dX0_goOn_37 : decode cX0_goOn 37 = .ok (.iaload, 1) := by decide +kernel
theorem dX0_goOn_38 : decode cX0_goOn 38 = .ok (.bipush 100, 2) := by decide +kernel
theorem dX0_goOn_40 : decode cX0_goOn 40 = .ok (.irem, 1) := by decide +kernel
theorem dX0_goOn_41 : decode cX0_goOn 41 = .ok (.invokevirtual 146, 3) := by decide +kernel
theorem dX0_goOn_44 : decode cX0_goOn 44 = .ok (.ifCond .eq 37, 3) := by decide +kernel
theorem dX0_goOn_47 : decode cX0_goOn 47 = .ok (.aload_n 0, 1) := by decide +kernel
theorem dX0_goOn_48 : decode cX0_goOn 48 = .ok (.getfield 9, 3) := by decide +kernel
theorem dX0_goOn_51 : decode cX0_goOn 51 = .ok (.aload_n 0, 1) := by decide +kernel
theorem dX0_goOn_52 : decode cX0_goOn 52 = .ok (.getfield 27, 3) := by decide +kernel
theorem dX0_goOn_55 : decode cX0_goOn 55 = .ok (.getfield 56, 3) := by decide +kernel
theorem dX0_goOn_58 : decode cX0_goOn 58 = .ok (.aload_n 0, 1) := by decide +kernel
theorem dX0_goOn_59 : decode cX0_goOn 59 = .ok (.getfield 37, 3) := by decide +kernel
theorem dX0_goOn_62 : decode cX0_goOn 62 = .ok (.iaload, 1) := by decide +kernel
theorem dX0_goOn_63 : decode cX0_goOn 63 = .ok (.bipush 100, 2) := by decide +kernel
theorem dX0_goOn_65 : decode cX0_goOn 65 = .ok (.irem, 1) := by decide +kernel
theorem dX0_goOn_66 : decode cX0_goOn 66 = .ok (.iconst 1, 1) := by decide +kernel
theorem dX0_goOn_67 : decode cX0_goOn 67 = .ok (.bastore, 1) := by decide +kernel
theorem dX0_goOn_68 : decode cX0_goOn 68 = .ok (.aload_n 0, 1) := by decide +kernel
theorem dX0_goOn_69 : decode cX0_goOn 69 = .ok (.dup, 1) := by decide +kernel
theorem dX0_goOn_70 : decode cX0_goOn 70 = .ok (.getfield 37, 3) := by decide +kernel
theorem dX0_goOn_73 : decode cX0_goOn 73 = .ok (.iconst 1, 1) := by decide +kernel
theorem dX0_goOn_74 : decode cX0_goOn 74 = .ok (.iadd, 1) := by decide +kernel
theorem dX0_goOn_75 : decode cX0_goOn 75 = .ok (.putfield 37, 3) := by decide +kernel
theorem dX0_goOn_78 : decode cX0_goOn 78 = .ok (.goto (-68), 3) := by decide +kernel
theorem dX0_goOn_81 : decode cX0_goOn 81 = .ok (.aload_n 0, 1) := by decide +kernel
theorem dX0_goOn_82 : decode cX0_goOn 82 = .ok (.getfield 37, 3) := by decide +kernel
theorem dX0_goOn_85 : decode cX0_goOn 85 = .ok (.aload_n 0, 1) := by decide +kernel
theorem dX0_goOn_86 : decode cX0_goOn 86 = .ok (.getfield 27, 3) := by decide +kernel
theorem dX0_goOn_89 : decode cX0_goOn 89 = .ok (.getfield 56, 3) := by decide +kernel
theorem dX0_goOn_92 : decode cX0_goOn 92 = .ok (.arraylength, 1) := by decide +kernel
theorem dX0_goOn_93 : decode cX0_goOn 93 = .ok (.if_icmp .lt 7, 3) := by decide +kernel
theorem dX0_goOn_96 : decode cX0_goOn 96 = .ok (.aload_n 0, 1) := by decide +kernel
theorem dX0_goOn_97 : decode cX0_goOn 97 = .ok (.invokevirtual 53, 3) := by decide +kernel
theorem dX0_goOn_100 : decode cX0_goOn 100 = .ok (.return_, 1) := by decide +kernel
theorem dX0_isLeftOut_0 : decode cX0_isLeftOut 0 = .ok (.aload_n 0, 1) := by decide +kernel
theorem dX0_isLeftOut_1 : decode cX0_isLeftOut 1 = .ok (.getfield 9, 3) := by decide +kernel
theorem dX0_isLeftOut_4 : decode cX0_isLeftOut 4 = .ok (.iload_n 1, 1) := by decide +kernel
theorem dX0_isLeftOut_5 : decode cX0_isLeftOut 5 = .ok (.baload, 1) := by decide +kernel
theorem dX0_isLeftOut_6 : decode cX0_isLeftOut 6 = .ok (.ifCond .eq 5, 3) := by decide +kernel
theorem dX0_isLeftOut_9 : decode cX0_isLeftOut 9 = .ok (.iconst 1, 1) := by decide +kernel
theorem dX0_isLeftOut_10 : decode cX0_isLeftOut 10 = .ok (.ireturn, 1) := by decide +kernel
theorem dX0_isLeftOut_11 : decode cX0_isLeftOut 11 = .ok (.aload_n 0, 1) := by decide +kernel
theorem dX0_isLeftOut_12 : decode cX0_isLeftOut 12 = .ok (.getfield 19, 3) := by decide +kernel
theorem dX0_isLeftOut_15 : decode cX0_isLeftOut 15 = .ok (.iload_n 1, 1) := by decide +kernel
theorem dX0_isLeftOut_16 : decode cX0_isLeftOut 16 = .ok (.invokevirtual 150, 3) := by decide +kernel
theorem dX0_isLeftOut_19 : decode cX0_isLeftOut 19 = .ok (.astore_n 2, 1) := by decide +kernel
theorem dX0_isLeftOut_20 : decode cX0_isLeftOut 20 = .ok (.iconst 0, 1) := by decide +kernel
theorem dX0_isLeftOut_21 : decode cX0_isLeftOut 21 = .ok (.istore_n 3, 1) := by decide +kernel
theorem dX0_isLeftOut_22 : decode cX0_isLeftOut 22 = .ok (.iload_n 3, 1) := by decide +kernel
theorem dX0_isLeftOut_23 : decode cX0_isLeftOut 23 = .ok (.iconst 3, 1) := by decide +kernel
theorem dX0_isLeftOut_24 : decode cX0_isLeftOut 24 = .ok (.if_icmp .ge 47, 3) := by decide +kernel
theorem dX0_isLeftOut_27 : decode cX0_isLeftOut 27 = .ok (.aload_n 2, 1) := by decide +kernel
theorem dX0_isLeftOut_28 : decode cX0_isLeftOut 28 = .ok (.getfield 154, 3) := by decide +kernel
theorem dX0_isLeftOut_31 : decode cX0_isLeftOut 31 = .ok (.iload_n 3, 1) := by decide +kernel
theorem dX0_isLeftOut_32 : decode cX0_isLeftOut 32 = .ok (.iaload, 1) := by decide +kernel
theorem dX0_isLeftOut_33 : decode cX0_isLeftOut 33 = .ok (.istore 4, 2) := by decide +kernel
theorem dX0_isLeftOut_35 : decode cX0_isLeftOut 35 = .ok (.iload 4, 2) := by decide +kernel
theorem dX0_isLeftOut_37 : decode cX0_isLeftOut 37 = .ok (.bipush 10, 2) := by decide +kernel
theorem dX0_isLeftOut_39 : decode cX0_isLeftOut 39 = .ok (.if_icmp .lt 26, 3) := by decide +kernel
theorem dX0_isLeftOut_42 : decode cX0_isLeftOut 42 = .ok (.aload_n 0, 1) := by decide +kernel
theorem dX0_isLeftOut_43 : decode cX0_isLeftOut 43 = .ok (.getfield 9, 3) := by decide +kernel
theorem dX0_isLeftOut_46 : decode cX0_isLeftOut 46 = .ok (.bipush 16, 2) := by decide +kernel
theorem dX0_isLeftOut_48 : decode cX0_isLeftOut 48 = .ok (.iload 4, 2) := by decide +kernel
theorem dX0_isLeftOut_50 : decode cX0_isLeftOut 50 = .ok (.invokestatic 159, 3) := by decide +kernel
theorem dX0_isLeftOut_53 : decode cX0_isLeftOut 53 = .ok (.imul, 1) := by decide +kernel
theorem dX0_isLeftOut_54 : decode cX0_isLeftOut 54 = .ok (.iload_n 1, 1) := by decide +kernel
theorem dX0_isLeftOut_55 : decode cX0_isLeftOut 55 = .ok (.bipush 16, 2) := by decide +kernel
theorem dX0_isLeftOut_57 : decode cX0_isLeftOut 57 = .ok (.irem, 1) := by decide +kernel
theorem dX0_isLeftOut_58 : decode cX0_isLeftOut 58 = .ok (.iadd, 1) := by decide +kernel
theorem dX0_isLeftOut_59 : decode cX0_isLeftOut 59 = .ok (.baload, 1) := by decide +kernel
theorem dX0_isLeftOut_60 : decode cX0_isLeftOut 60 = .ok (.ifCond .eq 5, 3) := by decide +kernel
theorem dX0_isLeftOut_63 : decode cX0_isLeftOut 63 = .ok (.iconst 1, 1) := by decide +kernel
theorem dX0_isLeftOut_64 : decode cX0_isLeftOut 64 = .ok (.ireturn, 1) := by decide +kernel
theorem dX0_isLeftOut_65 : decode cX0_isLeftOut 65 = .ok (.iinc 3 1, 3) := by decide +kernel
theorem dX0_isLeftOut_68 : decode cX0_isLeftOut 68 = .ok (.goto (-46), 3) := by decide +kernel
theorem dX0_isLeftOut_71 : decode cX0_isLeftOut 71 = .ok (.iconst 0, 1) := by decide +kernel
theorem dX0_isLeftOut_72 : decode cX0_isLeftOut 72 = .ok (.ireturn, 1) := by decide +kernel
theorem dX1_init_0 : decode cX1_init 0 = .ok (.aload_n 0, 1) := by decide +kernel
theorem dX1_init_1 : decode cX1_init 1 = .ok (.invokespecial 3, 3) := by decide +kernel
theorem dX1_init_4 : decode cX1_init 4 = .ok (.aload_n 0, 1) := by decide +kernel
theorem dX1_init_5 : decode cX1_init 5 = .ok (.bipush 30, 2) := by decide +kernel
theorem dX1_init_7 : decode cX1_init 7 = .ok (.anewarray 9, 3) := by decide +kernel
theorem dX1_init_10 : decode cX1_init 10 = .ok (.putfield 11, 3) := by decide +kernel
theorem dX1_init_13 : decode cX1_init 13 = .ok (.aload_n 0, 1) := by decide +kernel
theorem dX1_init_14 : decode cX1_init 14 = .ok (.bipush 6, 2) := by decide +kernel
theorem dX1_init_16 : decode cX1_init 16 = .ok (.newarray .int, 2) := by decide +kernel
theorem dX1_init_18 : decode cX1_init 18 = .ok (.putfield 17, 3) := by decide +kernel
theorem dX1_init_21 : decode cX1_init 21 = .ok (.aload_n 0, 1) := by decide +kernel
theorem dX1_init_22 : decode cX1_init 22 = .ok (.bipush 10, 2) := by decide +kernel
theorem dX1_init_24 : decode cX1_init 24 = .ok (.newarray .int, 2) := by decide +kernel
theorem dX1_init_26 : decode cX1_init 26 = .ok (.putfield 21, 3) := by decide +kernel
theorem dX1_init_29 : decode cX1_init 29 = .ok (.aload_n 0, 1) := by decide +kernel
theorem dX1_init_30 : decode cX1_init 30 = .ok (.bipush 60, 2) := by decide +kernel
theorem dX1_init_32 : decode cX1_init 32 = .ok (.newarray .int, 2) := by decide +kernel
theorem dX1_init_34 : decode cX1_init 34 = .ok (.putfield 24, 3) := by decide +kernel
theorem dX1_init_37 : decode cX1_init 37 = .ok (.aload_n 0, 1) := by decide +kernel
theorem dX1_init_38 : decode cX1_init 38 = .ok (.iconst 3, 1) := by decide +kernel
theorem dX1_init_39 : decode cX1_init 39 = .ok (.newarray .int, 2) := by decide +kernel
theorem dX1_init_41 : decode cX1_init 41 = .ok (.putfield 27, 3) := by decide +kernel
theorem dX1_init_44 : decode cX1_init 44 = .ok (.aload_n 0, 1) := by decide +kernel
theorem dX1_init_45 : decode cX1_init 45 = .ok (.iconst 3, 1) := by decide +kernel
theorem dX1_init_46 : decode cX1_init 46 = .ok (.newarray .int, 2) := by decide +kernel
theorem dX1_init_48 : decode cX1_init 48 = .ok (.putfield 30, 3) := by decide +kernel
theorem dX1_init_51 : decode cX1_init 51 = .ok (.aload_n 0, 1) := by decide +kernel
theorem dX1_init_52 : decode cX1_init 52 = .ok (.getfield 21, 3) := by decide +kernel
theorem dX1_init_55 : decode cX1_init 55 = .ok (.iconst (-1), 1) := by decide +kernel
theorem dX1_init_56 : decode cX1_init 56 = .ok (.invokestatic 33, 3) := by decide +kernel
theorem dX1_init_59 : decode cX1_init 59 = .ok (.return_, 1) := by decide +kernel
theorem dX1_closeDraft_0 : decode cX1_closeDraft 0 = .ok (.aload_n 0, 1) := by decide +kernel
theorem dX1_closeDraft_1 : decode cX1_closeDraft 1 = .ok (.getfield 27, 3) := by decide +kernel
theorem dX1_closeDraft_4 : decode cX1_closeDraft 4 = .ok (.iload_n 1, 1) := by decide +kernel
theorem dX1_closeDraft_5 : decode cX1_closeDraft 5 = .ok (.dup2, 1) := by decide +kernel
theorem dX1_closeDraft_6 : decode cX1_closeDraft 6 = .ok (.iaload, 1) := by decide +kernel
theorem dX1_closeDraft_7 : decode cX1_closeDraft 7 = .ok (.iconst 1, 1) := by decide +kernel
theorem dX1_closeDraft_8 : decode cX1_closeDraft 8 = .ok (.iadd, 1) := by decide +kernel
theorem dX1_closeDraft_9 : decode cX1_closeDraft 9 = .ok (.iastore, 1) := by decide +kernel
theorem dX1_closeDraft_10 : decode cX1_closeDraft 10 = .ok (.iconst 0, 1) := by decide +kernel
theorem dX1_closeDraft_11 : decode cX1_closeDraft 11 = .ok (.istore_n 2, 1) := by decide +kernel
theorem dX1_closeDraft_12 : decode cX1_closeDraft 12 = .ok (.iload_n 2, 1) := by decide +kernel
theorem dX1_closeDraft_13 : decode cX1_closeDraft 13 = .ok (.aload_n 0, 1) := by decide +kernel
theorem dX1_closeDraft_14 : decode cX1_closeDraft 14 = .ok (.getfield 39, 3) := by decide +kernel
theorem dX1_closeDraft_17 : decode cX1_closeDraft 17 = .ok (.if_icmp .ge 41, 3) := by decide +kernel
theorem dX1_closeDraft_20 : decode cX1_closeDraft 20 = .ok (.aload_n 0, 1) := by decide +kernel
theorem dX1_closeDraft_21 : decode cX1_closeDraft 21 = .ok (.getfield 11, 3) := by decide +kernel
theorem dX1_closeDraft_24 : decode cX1_closeDraft 24 = .ok (.iload_n 2, 1) := by decide +kernel
theorem dX1_closeDraft_25 : decode cX1_closeDraft 25 = .ok (.aaload, 1) := by decide +kernel
theorem dX1_closeDraft_26 : decode cX1_closeDraft 26 = .ok (.astore_n 3, 1) := by decide +kernel
theorem dX1_closeDraft_27 : decode cX1_closeDraft 27 = .ok (.aload_n 3, 1) := by decide +kernel
theorem dX1_closeDraft_28 : decode cX1_closeDraft 28 = .ok (.getfield 43, 3) := by decide +kernel
theorem dX1_closeDraft_31 : decode cX1_closeDraft 31 = .ok (.iload_n 1, 1) := by decide +kernel
theorem dX1_closeDraft_32 : decode cX1_closeDraft 32 = .ok (.if_icmp .ne 20, 3) := by decide +kernel
theorem dX1_closeDraft_35 : decode cX1_closeDraft 35 = .ok (.aload_n 3, 1) := by decide +kernel
theorem dX1_closeDraft_36 : decode cX1_closeDraft 36 = .ok (.getfield 46, 3) := by decide +kernel
theorem dX1_closeDraft_39 : decode cX1_closeDraft 39 = .ok (.ifCond .ne 13, 3) := by decide +kernel
theorem dX1_closeDraft_42 : decode cX1_closeDraft 42 = .ok (.aload_n 3, 1) := by decide +kernel
theorem dX1_closeDraft_43 : decode cX1_closeDraft 43 = .ok (.aload_n 0, 1) := by decide +kernel
theorem dX1_closeDraft_44 : decode cX1_closeDraft 44 = .ok (.getfield 27, 3) := by decide +kernel
theorem dX1_closeDraft_47 : decode cX1_closeDraft 47 = .ok (.iload_n 1, 1) := by decide +kernel
theorem dX1_closeDraft_48 : decode cX1_closeDraft 48 = .ok (.iaload, 1) := by decide +kernel
theorem dX1_closeDraft_49 : decode cX1_closeDraft 49 = .ok (.putfield 46, 3) := by decide +kernel
theorem dX1_closeDraft_52 : decode cX1_closeDraft 52 = .ok (.iinc 2 1, 3) := by decide +kernel
theorem dX1_closeDraft_55 : decode cX1_closeDraft 55 = .ok (.goto (-43), 3) := by decide +kernel
theorem dX1_closeDraft_58 : decode cX1_closeDraft 58 = .ok (.aload_n 0, 1) := by decide +kernel
theorem dX1_closeDraft_59 : decode cX1_closeDraft 59 = .ok (.getfield 27, 3) := by decide +kernel
theorem dX1_closeDraft_62 : decode cX1_closeDraft 62 = .ok (.iload_n 1, 1) := by decide +kernel
theorem dX1_closeDraft_63 : decode cX1_closeDraft 63 = .ok (.iaload, 1) := by decide +kernel
theorem dX1_closeDraft_64 : decode cX1_closeDraft 64 = .ok (.ireturn, 1) := by decide +kernel
theorem dX1_examine_0 : decode cX1_examine 0 = .ok (.aload_n 0, 1) := by decide +kernel
theorem dX1_examine_1 : decode cX1_examine 1 = .ok (.invokevirtual 49, 3) := by decide +kernel
theorem dX1_examine_4 : decode cX1_examine 4 = .ok (.aload_n 0, 1) := by decide +kernel
theorem dX1_examine_5 : decode cX1_examine 5 = .ok (.iconst 0, 1) := by decide +kernel
theorem dX1_examine_6 : decode cX1_examine 6 = .ok (.putfield 52, 3) := by decide +kernel
theorem dX1_examine_9 : decode cX1_examine 9 = .ok (.aload_n 0, 1) := by decide +kernel
theorem dX1_examine_10 : decode cX1_examine 10 = .ok (.iconst 0, 1) := by decide +kernel
theorem dX1_examine_11 : decode cX1_examine 11 = .ok (.putfield 56, 3) := by decide +kernel
theorem dX1_examine_14 : decode cX1_examine 14 = .ok (.iconst 0, 1) := by decide +kernel
theorem dX1_examine_15 : decode cX1_examine 15 = .ok (.istore_n 1, 1) := by decide +kernel
theorem dX1_examine_16 : decode cX1_examine 16 = .ok (.iload_n 1, 1) := by decide +kernel
theorem dX1_examine_17 : decode cX1_examine 17 = .ok (.aload_n 0, 1) := by decide +kernel
theorem dX1_examine_18 : decode cX1_examine 18 = .ok (.getfield 39, 3) := by decide +kernel
theorem dX1_examine_21 : decode cX1_examine 21 = .ok (.if_icmp .ge 115, 3) := by decide +kernel
theorem dX1_examine_24 : decode cX1_examine 24 = .ok (.aload_n 0, 1) := by decide +kernel
theorem dX1_examine_25 : decode cX1_examine 25 = .ok (.getfield 11, 3) := by decide +kernel
theorem dX1_examine_28 : decode cX1_examine 28 = .ok (.iload_n 1, 1) := by decide +kernel
theorem dX1_examine_29 : decode cX1_examine 29 = .ok (.aaload, 1) := by decide +kernel
theorem dX1_examine_30 : decode cX1_examine 30 = .ok (.astore_n 2, 1) := by decide +kernel
theorem dX1_examine_31 : decode cX1_examine 31 = .ok (.aload_n 2, 1) := by decide +kernel
theorem dX1_examine_32 : decode cX1_examine 32 = .ok (.aload_n 2, 1) := by decide +kernel
theorem dX1_examine_33 : decode cX1_examine 33 = .ok (.getfield 59, 3) := by decide +kernel
theorem dX1_examine_36 : decode cX1_examine 36 = .ok (.iconst (-1), 1) := by decide +kernel
theorem dX1_examine_37 : decode cX1_examine 37 = .ok (.if_icmp .eq 18, 3) := by decide +kernel
theorem dX1_examine_40 : decode cX1_examine 40 = .ok (.aload_n 2, 1) := by decide +kernel
theorem dX1_examine_41 : decode cX1_examine 41 = .ok (.getfield 62, 3) := by decide +kernel
theorem dX1_examine_44 : decode cX1_examine 44 = .ok (.ifCond .ne 7, 3) := by decide +kernel
theorem dX1_examine_47 : decode cX1_examine 47 = .ok (.iconst 1, 1) := by decide +kernel
theorem dX1_examine_48 : decode cX1_examine 48 = .ok (.goto 27, 3) := by decide +kernel
theorem dX1_examine_51 : decode cX1_examine 51 = .ok (.iconst 0, 1) := by decide +kernel
theorem dX1_examine_52 : decode cX1_examine 52 = .ok (.goto 23, 3) := by decide +kernel
theorem dX1_examine_55 : decode cX1_examine 55 = .ok (.aload_n 2, 1) := by decide +kernel
theorem dX1_examine_56 : decode cX1_examine 56 = .ok (.getfield 46, 3) := by decide +kernel
theorem dX1_examine_59 : decode cX1_examine 59 = .ok (.aload_n 0, 1) := by decide +kernel
theorem dX1_examine_60 : decode cX1_examine 60 = .ok (.aload_n 2, 1) := by decide +kernel
theorem dX1_examine_61 : decode cX1_examine 61 = .ok (.getfield 43, 3) := by decide +kernel
theorem dX1_examine_64 : decode cX1_examine 64 = .ok (.invokevirtual 65, 3) := by decide +kernel
theorem dX1_examine_67 : decode cX1_examine 67 = .ok (.if_icmp .ne 7, 3) := by decide +kernel
theorem dX1_examine_70 : decode cX1_examine 70 = .ok (.iconst 1, 1) := by decide +kernel
theorem dX1_examine_71 : decode cX1_examine 71 = .ok (.goto 4, 3) := by decide +kernel
theorem dX1_examine_74 : decode cX1_examine 74 = .ok (.iconst 0, 1) := by decide +kernel
theorem dX1_examine_75 : decode cX1_examine 75 = .ok (.putfield 69, 3) := by decide +kernel
theorem dX1_examine_78 : decode cX1_examine 78 = .ok (.aload_n 2, 1) := by decide +kernel
theorem dX1_examine_79 : decode cX1_examine 79 = .ok (.getfield 69, 3) := by decide +kernel
theorem dX1_examine_82 : decode cX1_examine 82 = .ok (.ifCond .eq 17, 3) := by decide +kernel
theorem dX1_examine_85 : decode cX1_examine 85 = .ok (.aload_n 2, 1) := by decide +kernel
theorem dX1_examine_86 : decode cX1_examine 86 = .ok (.getfield 72, 3) := by decide +kernel
theorem dX1_examine_89 : decode cX1_examine 89 = .ok (.bipush 9, 2) := by decide +kernel
theorem dX1_examine_91 : decode cX1_examine 91 = .ok (.if_icmp .ne 8, 3) := by decide +kernel
theorem dX1_examine_94 : decode cX1_examine 94 = .ok (.aload_n 0, 1) := by decide +kernel
theorem dX1_examine_95 : decode cX1_examine 95 = .ok (.iconst 1, 1) := by decide +kernel
theorem dX1_examine_96 : decode cX1_examine 96 = .ok (.putfield 52, 3) := by decide +kernel
theorem dX1_examine_99 : decode cX1_examine 99 = .ok (.aload_n 2, 1) := by decide +kernel
theorem dX1_examine_100 : decode cX1_examine 100 = .ok (.getfield 69, 3) := by decide +kernel
theorem dX1_examine_103 : decode cX1_examine 103 = .ok (.ifCond .eq 27, 3) := by decide +kernel
theorem dX1_examine_106 : decode cX1_examine 106 = .ok (.aload_n 2, 1) := by decide +kernel
theorem dX1_examine_107 : decode cX1_examine 107 = .ok (.getfield 72, 3) := by decide +kernel
theorem dX1_examine_110 : decode cX1_examine 110 = .ok (.bipush 8, 2) := by decide +kernel
theorem dX1_examine_112 : decode cX1_examine 112 = .ok (.if_icmp .ne 18, 3) := by decide +kernel
theorem dX1_examine_115 : decode cX1_examine 115 = .ok (.aload_n 0, 1) := by decide +kernel
theorem dX1_examine_116 : decode cX1_examine 116 = .ok (.dup, 1) := by decide +kernel
theorem dX1_examine_117 : decode cX1_examine 117 = .ok (.getfield 56, 3) := by decide +kernel
theorem dX1_examine_120 : decode cX1_examine 120 = .ok (.iconst 1, 1) := by decide +kernel
theorem dX1_examine_121 : decode cX1_examine 121 = .ok (.aload_n 2, 1) := by decide +kernel
theorem dX1_examine_122 : decode cX1_examine 122 = .ok (.getfield 75, 3) := by decide +kernel
theorem dX1_examine_125 : decode cX1_examine 125 = .ok (.ishl, 1) := by decide +kernel
theorem dX1_examine_126 : decode cX1_examine 126 = .ok (.ior, 1) := by decide +kernel
theorem dX1_examine_127 : decode cX1_examine 127 = .ok (.putfield 56, 3) := by decide +kernel
theorem dX1_examine_130 : decode cX1_examine 130 = .ok (.iinc 1 1, 3) := by decide +kernel
theorem dX1_examine_133 : decode cX1_examine 133 = .ok (.goto (-117), 3) := by decide +kernel
theorem dX1_examine_136 : decode cX1_examine 136 = .ok (.iconst 0, 1) := by decide +kernel
theorem dX1_examine_137 : decode cX1_examine 137 = .ok (.istore_n 1, 1) := by decide +kernel
theorem dX1_examine_138 : decode cX1_examine 138 = .ok (.iload_n 1, 1) := by decide +kernel
theorem dX1_examine_139 : decode cX1_examine 139 = .ok (.aload_n 0, 1) := by decide +kernel
theorem dX1_examine_140 : decode cX1_examine 140 = .ok (.getfield 39, 3) := by decide +kernel
theorem dX1_examine_143 : decode cX1_examine 143 = .ok (.if_icmp .ge 42, 3) := by decide +kernel
theorem dX1_examine_146 : decode cX1_examine 146 = .ok (.aload_n 0, 1) := by decide +kernel
theorem dX1_examine_147 : decode cX1_examine 147 = .ok (.getfield 11, 3) := by decide +kernel
theorem dX1_examine_150 : decode cX1_examine 150 = .ok (.iload_n 1, 1) := by decide +kernel
theorem dX1_examine_151 : decode cX1_examine 151 = .ok (.aaload, 1) := by decide +kernel
theorem dX1_examine_152 : decode cX1_examine 152 = .ok (.aload_n 0, 1) := by decide +kernel
theorem dX1_examine_153 : decode cX1_examine 153 = .ok (.iload_n 1, 1) := by decide +kernel
theorem dX1_examine_154 : decode cX1_examine 154 = .ok (.invokevirtual 78, 3) := by decide +kernel
theorem dX1_examine_157 : decode cX1_examine 157 = .ok (.putfield 82, 3) := by decide +kernel
theorem dX1_examine_160 : decode cX1_examine 160 = .ok (.aload_n 0, 1) := by decide +kernel
theorem dX1_examine_161 : decode cX1_examine 161 = .ok (.getfield 11, 3) := by decide +kernel
theorem dX1_examine_164 : decode cX1_examine 164 = .ok (.iload_n 1, 1) := by decide +kernel
theorem dX1_examine_165 : decode cX1_examine 165 = .ok (.aaload, 1) := by decide +kernel
theorem dX1_examine_166 : decode cX1_examine 166 = .ok (.aload_n 0, 1) := by decide +kernel
theorem dX1_examine_167 : decode cX1_examine 167 = .ok (.aload_n 0, 1) := by decide +kernel
theorem dX1_examine_168 : decode cX1_examine 168 = .ok (.getfield 11, 3) := by decide +kernel
theorem dX1_examine_171 : decode cX1_examine 171 = .ok (.iload_n 1, 1) := by decide +kernel
theorem dX1_examine_172 : decode cX1_examine 172 = .ok (.aaload, 1) := by decide +kernel
theorem dX1_examine_173 : decode cX1_examine 173 = .ok (.invokevirtual 86, 3) := by decide +kernel
theorem dX1_examine_176 : decode cX1_examine 176 = .ok (.putfield 90, 3) := by decide +kernel
theorem dX1_examine_179 : decode cX1_examine 179 = .ok (.iinc 1 1, 3) := by decide +kernel
theorem dX1_examine_182 : decode cX1_examine 182 = .ok (.goto (-44), 3) := by decide +kernel
theorem dX1_examine_185 : decode cX1_examine 185 = .ok (.return_, 1) := by decide +kernel
theorem dX1_countThere_0 : decode cX1_countThere 0 = .ok (.iconst 0, 1) := by decide +kernel
theorem dX1_countThere_1 : decode cX1_countThere 1 = .ok (.istore_n 1, 1) := by decide +kernel
theorem dX1_countThere_2 : decode cX1_countThere 2 = .ok (.iconst 0, 1) := by decide +kernel
theorem dX1_countThere_3 : decode cX1_countThere 3 = .ok (.istore_n 2, 1) := by decide +kernel
theorem dX1_countThere_4 : decode cX1_countThere 4 = .ok (.iload_n 2, 1) := by decide +kernel
theorem dX1_countThere_5 : decode cX1_countThere 5 = .ok (.aload_n 0, 1) := by decide +kernel
theorem dX1_countThere_6 : decode cX1_countThere 6 = .ok (.getfield 39, 3) := by decide +kernel
theorem dX1_countThere_9 : decode cX1_countThere 9 = .ok (.if_icmp .ge 24, 3) := by decide +kernel
theorem dX1_countThere_12 : decode cX1_countThere 12 = .ok (.aload_n 0, 1) := by decide +kernel
theorem dX1_countThere_13 : decode cX1_countThere 13 = .ok (.getfield 11, 3) := by decide +kernel
theorem dX1_countThere_16 : decode cX1_countThere 16 = .ok (.iload_n 2, 1) := by decide +kernel
theorem dX1_countThere_17 : decode cX1_countThere 17 = .ok (.aaload, 1) := by decide +kernel
theorem dX1_countThere_18 : decode cX1_countThere 18 = .ok (.getfield 69, 3) := by decide +kernel
theorem dX1_countThere_21 : decode cX1_countThere 21 = .ok (.ifCond .eq 6, 3) := by decide +kernel
theorem dX1_countThere_24 : decode cX1_countThere 24 = .ok (.iinc 1 1, 3) := by decide +kernel
theorem dX1_countThere_27 : decode cX1_countThere 27 = .ok (.iinc 2 1, 3) := by decide +kernel
theorem dX1_countThere_30 : decode cX1_countThere 30 = .ok (.goto (-26), 3) := by decide +kernel
theorem dX1_countThere_33 : decode cX1_countThere 33 = .ok (.iload_n 1, 1) := by decide +kernel
theorem dX1_countThere_34 : decode cX1_countThere 34 = .ok (.ireturn, 1) := by decide +kernel
theorem dX1_hasFault_0 : decode cX1_hasFault 0 = .ok (.iconst 0, 1) := by decide +kernel
theorem dX1_hasFault_1 : decode cX1_hasFault 1 = .ok (.istore_n 1, 1) := by decide +kernel
theorem dX1_hasFault_2 : decode cX1_hasFault 2 = .ok (.iload_n 1, 1) := by decide +kernel
theorem dX1_hasFault_3 : decode cX1_hasFault 3 = .ok (.aload_n 0, 1) := by decide +kernel
theorem dX1_hasFault_4 : decode cX1_hasFault 4 = .ok (.getfield 39, 3) := by decide +kernel
theorem dX1_hasFault_7 : decode cX1_hasFault 7 = .ok (.if_icmp .ge 23, 3) := by decide +kernel
theorem dX1_hasFault_10 : decode cX1_hasFault 10 = .ok (.aload_n 0, 1) := by decide +kernel
theorem dX1_hasFault_11 : decode cX1_hasFault 11 = .ok (.getfield 11, 3) := by decide +kernel
theorem dX1_hasFault_14 : decode cX1_hasFault 14 = .ok (.iload_n 1, 1) := by decide +kernel
theorem dX1_hasFault_15 : decode cX1_hasFault 15 = .ok (.aaload, 1) := by decide +kernel
theorem dX1_hasFault_16 : decode cX1_hasFault 16 = .ok (.getfield 90, 3) := by decide +kernel
theorem dX1_hasFault_19 : decode cX1_hasFault 19 = .ok (.ifCond .eq 5, 3) := by decide +kernel
theorem dX1_hasFault_22 : decode cX1_hasFault 22 = .ok (.iconst 1, 1) := by decide +kernel
theorem dX1_hasFault_23 : decode cX1_hasFault 23 = .ok (.ireturn, 1) := by decide +kernel
theorem dX1_hasFault_24 : decode cX1_hasFault 24 = .ok (.iinc 1 1, 3) := by decide +kernel
theorem dX1_hasFault_27 : decode cX1_hasFault 27 = .ok (.goto (-25), 3) := by decide +kernel
theorem dX1_hasFault_30 : decode cX1_hasFault 30 = .ok (.iconst 0, 1) := by decide +kernel
theorem dX1_hasFault_31 : decode cX1_hasFault 31 = .ok (.ireturn, 1) := by decide +kernel
theorem dX1_findWanted_0 : decode cX1_findWanted 0 = .ok (.aload_n 0, 1) := by decide +kernel
theorem dX1_findWanted_1 : decode cX1_findWanted 1 = .ok (.getfield 30, 3) := by decide +kernel
theorem dX1_findWanted_4 : decode cX1_findWanted 4 = .ok (.iconst 0, 1) := by decide +kernel
theorem dX1_findWanted_5 : decode cX1_findWanted 5 = .ok (.invokestatic 33, 3) := by decide +kernel
theorem dX1_findWanted_8 : decode cX1_findWanted 8 = .ok (.iconst 1, 1) := by decide +kernel
theorem dX1_findWanted_9 : decode cX1_findWanted 9 = .ok (.istore_n 1, 1) := by decide +kernel
theorem dX1_findWanted_10 : decode cX1_findWanted 10 = .ok (.iconst 0, 1) := by decide +kernel
theorem dX1_findWanted_11 : decode cX1_findWanted 11 = .ok (.istore_n 2, 1) := by decide +kernel
theorem dX1_findWanted_12 : decode cX1_findWanted 12 = .ok (.iload_n 1, 1) := by decide +kernel
theorem dX1_findWanted_13 : decode cX1_findWanted 13 = .ok (.ifCond .eq 85, 3) := by decide +kernel
theorem dX1_findWanted_16 : decode cX1_findWanted 16 = .ok (.iload_n 2, 1) := by decide +kernel
theorem dX1_findWanted_17 : decode cX1_findWanted 17 = .ok (.ldc 93, 2) := by decide +kernel
theorem dX1_findWanted_19 : decode cX1_findWanted 19 = .ok (.if_icmp .ge 79, 3) := by decide +kernel
theorem dX1_findWanted_22 : decode cX1_findWanted 22 = .ok (.iconst 0, 1) := by decide +kernel
theorem dX1_findWanted_23 : decode cX1_findWanted 23 = .ok (.istore_n 1, 1) := by decide +kernel
theorem dX1_findWanted_24 : decode cX1_findWanted 24 = .ok (.iconst 0, 1) := by decide +kernel
theorem dX1_findWanted_25 : decode cX1_findWanted 25 = .ok (.istore_n 3, 1) := by decide +kernel
theorem dX1_findWanted_26 : decode cX1_findWanted 26 = .ok (.iload_n 3, 1) := by decide +kernel
theorem dX1_findWanted_27 : decode cX1_findWanted 27 = .ok (.aload_n 0, 1) := by decide +kernel
theorem dX1_findWanted_28 : decode cX1_findWanted 28 = .ok (.getfield 39, 3) := by decide +kernel
theorem dX1_findWanted_31 : decode cX1_findWanted 31 = .ok (.if_icmp .ge 61, 3) := by decide +kernel
theorem dX1_findWanted_34 : decode cX1_findWanted 34 = .ok (.aload_n 0, 1) := by decide +kernel
theorem dX1_findWanted_35 : decode cX1_findWanted 35 = .ok (.getfield 11, 3) := by decide +kernel
theorem dX1_findWanted_38 : decode cX1_findWanted 38 = .ok (.iload_n 3, 1) := by decide +kernel
theorem dX1_findWanted_39 : decode cX1_findWanted 39 = .ok (.aaload, 1) := by decide +kernel
theorem dX1_findWanted_40 : decode cX1_findWanted 40 = .ok (.getfield 72, 3) := by decide +kernel
theorem dX1_findWanted_43 : decode cX1_findWanted 43 = .ok (.bipush 12, 2) := by decide +kernel
theorem dX1_findWanted_45 : decode cX1_findWanted 45 = .ok (.if_icmp .ne 41, 3) := by decide +kernel
theorem dX1_findWanted_48 : decode cX1_findWanted 48 = .ok (.aload_n 0, 1) := by decide +kernel
theorem dX1_findWanted_49 : decode cX1_findWanted 49 = .ok (.aload_n 0, 1) := by decide +kernel
theorem dX1_findWanted_50 : decode cX1_findWanted 50 = .ok (.getfield 11, 3) := by decide +kernel
theorem dX1_findWanted_53 : decode cX1_findWanted 53 = .ok (.iload_n 3, 1) := by decide +kernel
theorem dX1_findWanted_54 : decode cX1_findWanted 54 = .ok (.aaload, 1) := by decide +kernel
theorem dX1_findWanted_55 : decode cX1_findWanted 55 = .ok (.invokevirtual 94, 3) := by decide +kernel
theorem dX1_findWanted_58 : decode cX1_findWanted 58 = .ok (.ifCond .eq 28, 3) := by decide +kernel
theorem dX1_findWanted_61 : decode cX1_findWanted 61 = .ok (.iload_n 1, 1) := by decide +kernel
theorem dX1_findWanted_62 : decode cX1_findWanted 62 = .ok (.aload_n 0, 1) := by decide +kernel
theorem dX1_findWanted_63 : decode cX1_findWanted 63 = .ok (.aload_n 0, 1) := by decide +kernel
theorem dX1_findWanted_64 : decode cX1_findWanted 64 = .ok (.getfield 11, 3) := by decide +kernel
theorem dX1_findWanted_67 : decode cX1_findWanted 67 = .ok (.iload_n 3, 1) := by decide +kernel
theorem dX1_findWanted_68 : decode cX1_findWanted 68 = .ok (.aaload, 1) := by decide +kernel
theorem dX1_findWanted_69 : decode cX1_findWanted 69 = .ok (.getfield 75, 3) := by decide +kernel
theorem dX1_findWanted_72 : decode cX1_findWanted 72 = .ok (.aload_n 0, 1) := by decide +kernel
theorem dX1_findWanted_73 : decode cX1_findWanted 73 = .ok (.getfield 11, 3) := by decide +kernel
theorem dX1_findWanted_76 : decode cX1_findWanted 76 = .ok (.iload_n 3, 1) := by decide +kernel
theorem dX1_findWanted_77 : decode cX1_findWanted 77 = .ok (.aaload, 1) := by decide +kernel
theorem dX1_findWanted_78 : decode cX1_findWanted 78 = .ok (.getfield 98, 3) := by decide +kernel
theorem dX1_findWanted_81 : decode cX1_findWanted 81 = .ok (.invokevirtual 101, 3) := by decide +kernel
theorem dX1_findWanted_84 : decode cX1_findWanted 84 = .ok (.ior, 1) := by decide +kernel
theorem dX1_findWanted_85 : decode cX1_findWanted 85 = .ok (.istore_n 1, 1) := by decide +kernel
theorem dX1_findWanted_86 : decode cX1_findWanted 86 = .ok (.iinc 3 1, 3) := by decide +kernel
theorem dX1_findWanted_89 : decode cX1_findWanted 89 = .ok (.goto (-63), 3) := by decide +kernel
theorem dX1_findWanted_92 : decode cX1_findWanted 92 = .ok (.iinc 2 1, 3) := by decide +kernel
theorem dX1_findWanted_95 : decode cX1_findWanted 95 = .ok (.goto (-83), 3) := by decide +kernel
theorem dX1_findWanted_98 : decode cX1_findWanted 98 = .ok (.return_, 1) := by decide +kernel
theorem dX1_isAsking_0 : decode cX1_isAsking 0 = .ok (.aload_n 1, 1) := by decide +kernel
theorem dX1_isAsking_1 : decode cX1_isAsking 1 = .ok (.getfield 59, 3) := by decide +kernel
theorem dX1_isAsking_4 : decode cX1_isAsking 4 = .ok (.iconst (-1), 1) := by decide +kernel
theorem dX1_isAsking_5 : decode cX1_isAsking 5 = .ok (.if_icmp .eq 16, 3) := by decide +kernel
theorem dX1_isAsking_8 : decode cX1_isAsking 8 = .ok (.aload_n 1, 1) := by decide +kernel
theorem dX1_isAsking_9 : decode cX1_isAsking 9 = .ok (.getfield 62, 3) := by decide +kernel
theorem dX1_isAsking_12 : decode cX1_isAsking 12 = .ok (.ifCond .ne 7, 3) := by decide +kernel
theorem dX1_isAsking_15 : decode cX1_isAsking 15 = .ok (.iconst 1, 1) := by decide +kernel
theorem dX1_isAsking_16 : decode cX1_isAsking 16 = .ok (.goto 4, 3) := by decide +kernel
theorem dX1_isAsking_19 : decode cX1_isAsking 19 = .ok (.iconst 0, 1) := by decide +kernel
theorem dX1_isAsking_20 : decode cX1_isAsking 20 = .ok (.ireturn, 1) := by decide +kernel
theorem dX1_isAsking_21 : decode cX1_isAsking 21 = .ok (.aload_n 1, 1) := by decide +kernel
theorem dX1_isAsking_22 : decode cX1_isAsking 22 = .ok (.getfield 46, 3) := by decide +kernel
theorem dX1_isAsking_25 : decode cX1_isAsking 25 = .ok (.ifCond .le 26, 3) := by decide +kernel
theorem dX1_isAsking_28 : decode cX1_isAsking 28 = .ok (.aload_n 0, 1) := by decide +kernel
theorem dX1_isAsking_29 : decode cX1_isAsking 29 = .ok (.getfield 30, 3) := by decide +kernel
theorem dX1_isAsking_32 : decode cX1_isAsking 32 = .ok (.aload_n 1, 1) := by decide +kernel
theorem dX1_isAsking_33 : decode cX1_isAsking 33 = .ok (.getfield 43, 3) := by decide +kernel
theorem dX1_isAsking_36 : decode cX1_isAsking 36 = .ok (.iaload, 1) := by decide +kernel
theorem dX1_isAsking_37 : decode cX1_isAsking 37 = .ok (.iconst 1, 1) := by decide +kernel
theorem dX1_isAsking_38 : decode cX1_isAsking 38 = .ok (.aload_n 1, 1) := by decide +kernel
theorem dX1_isAsking_39 : decode cX1_isAsking 39 = .ok (.getfield 46, 3) := by decide +kernel
theorem dX1_isAsking_42 : decode cX1_isAsking 42 = .ok (.ishl, 1) := by decide +kernel
theorem dX1_isAsking_43 : decode cX1_isAsking 43 = .ok (.iand, 1) := by decide +kernel
theorem dX1_isAsking_44 : decode cX1_isAsking 44 = .ok (.ifCond .eq 7, 3) := by decide +kernel
theorem dX1_isAsking_47 : decode cX1_isAsking 47 = .ok (.iconst 1, 1) := by decide +kernel
theorem dX1_isAsking_48 : decode cX1_isAsking 48 = .ok (.goto 4, 3) := by decide +kernel
theorem dX1_isAsking_51 : decode cX1_isAsking 51 = .ok (.iconst 0, 1) := by decide +kernel
theorem dX1_isAsking_52 : decode cX1_isAsking 52 = .ok (.ireturn, 1) := by decide +kernel
theorem dX1_addWanted_0 : decode cX1_addWanted 0 = .ok (.iload_n 2, 1) := by decide +kernel
theorem dX1_addWanted_1 : decode cX1_addWanted 1 = .ok (.aload_n 0, 1) := by decide +kernel
theorem dX1_addWanted_2 : decode cX1_addWanted 2 = .ok (.getfield 27, 3) := by decide +kernel
theorem dX1_addWanted_5 : decode cX1_addWanted 5 = .ok (.iload_n 1, 1) := by decide +kernel
theorem dX1_addWanted_6 : decode cX1_addWanted 6 = .ok (.iaload, 1) := by decide +kernel
theorem dX1_addWanted_7 : decode cX1_addWanted 7 = .ok (.invokestatic 105, 3) := by decide +kernel
theorem dX1_addWanted_10 : decode cX1_addWanted 10 = .ok (.istore_n 3, 1) := by decide +kernel
theorem dX1_addWanted_11 : decode cX1_addWanted 11 = .ok (.iload_n 3, 1) := by decide +kernel
theorem dX1_addWanted_12 : decode cX1_addWanted 12 = .ok (.ifCond .eq 16, 3) := by decide +kernel
theorem dX1_addWanted_15 : decode cX1_addWanted 15 = .ok (.aload_n 0, 1) := by decide +kernel
theorem dX1_addWanted_16 : decode cX1_addWanted 16 = .ok (.getfield 30, 3) := by decide +kernel
theorem dX1_addWanted_19 : decode cX1_addWanted 19 = .ok (.iload_n 1, 1) := by decide +kernel
theorem dX1_addWanted_20 : decode cX1_addWanted 20 = .ok (.iaload, 1) := by decide +kernel
theorem dX1_addWanted_21 : decode cX1_addWanted 21 = .ok (.iconst 1, 1) := by decide +kernel
theorem dX1_addWanted_22 : decode cX1_addWanted 22 = .ok (.iload_n 3, 1) := by decide +kernel
theorem dX1_addWanted_23 : decode cX1_addWanted 23 = .ok (.ishl, 1) := by decide +kernel
theorem dX1_addWanted_24 : decode cX1_addWanted 24 = .ok (.iand, 1) := by decide +kernel
theorem dX1_addWanted_25 : decode cX1_addWanted 25 = .ok (.ifCond .eq 5, 3) := by decide +kernel
theorem dX1_addWanted_28 : decode cX1_addWanted 28 = .ok (.iconst 0, 1) := by decide +kernel
theorem dX1_addWanted_29 : decode cX1_addWanted 29 = .ok (.ireturn, 1) := by decide +kernel
theorem dX1_addWanted_30 : decode cX1_addWanted 30 = .ok (.aload_n 0, 1) := by decide +kernel
theorem dX1_addWanted_31 : decode cX1_addWanted 31 = .ok (.getfield 30, 3) := by decide +kernel
theorem dX1_addWanted_34 : decode cX1_addWanted 34 = .ok (.iload_n 1, 1) := by decide +kernel
theorem dX1_addWanted_35 : decode cX1_addWanted 35 = .ok (.dup2, 1) := by decide +kernel
theorem dX1_addWanted_36 : decode cX1_addWanted 36 = .ok (.iaload, 1) := by decide +kernel
theorem dX1_addWanted_37 : decode cX1_addWanted 37 = .ok (.iconst 1, 1) := by decide +kernel
theorem dX1_addWanted_38 : decode cX1_addWanted 38 = .ok (.iload_n 3, 1) := by decide +kernel
theorem dX1_addWanted_39 : decode cX1_addWanted 39 = .ok (.ishl, 1) := by decide +kernel
theorem dX1_addWanted_40 : decode cX1_addWanted 40 = .ok (.ior, 1) := by decide +kernel
theorem dX1_addWanted_41 : decode cX1_addWanted 41 = .ok (.iastore, 1) := by decide +kernel
theorem dX1_addWanted_42 : decode cX1_addWanted 42 = .ok (.iconst 1, 1) := by decide +kernel
theorem dX1_addWanted_43 : decode cX1_addWanted 43 = .ok (.ireturn, 1) := by decide +kernel
theorem dX1_chosenVersion_0 : decode cX1_chosenVersion 0 = .ok (.bipush 31, 2) := by decide +kernel
theorem dX1_chosenVersion_2 : decode cX1_chosenVersion 2 = .ok (.aload_n 0, 1) := by decide +kernel
theorem dX1_chosenVersion_3 : decode cX1_chosenVersion 3 = .ok (.getfield 30, 3) := by decide +kernel
theorem dX1_chosenVersion_6 : decode cX1_chosenVersion 6 = .ok (.iload_n 1, 1) := by decide +kernel
theorem dX1_chosenVersion_7 : decode cX1_chosenVersion 7 = .ok (.iaload, 1) := by decide +kernel
theorem dX1_chosenVersion_8 : decode cX1_chosenVersion 8 = .ok (.invokestatic 111, 3) := by decide +kernel
theorem dX1_chosenVersion_11 : decode cX1_chosenVersion 11 = .ok (.isub, 1) := by decide +kernel
theorem dX1_chosenVersion_12 : decode cX1_chosenVersion 12 = .ok (.ireturn, 1) := by decide +kernel
theorem dX1_findGuard_0 : decode cX1_findGuard 0 = .ok (.aload_n 0, 1) := by decide +kernel
theorem dX1_findGuard_1 : decode cX1_findGuard 1 = .ok (.getfield 11, 3) := by decide +kernel
theorem dX1_findGuard_4 : decode cX1_findGuard 4 = .ok (.iload_n 1, 1) := by decide +kernel
theorem dX1_findGuard_5 : decode cX1_findGuard 5 = .ok (.aaload, 1) := by decide +kernel
theorem dX1_findGuard_6 : decode cX1_findGuard 6 = .ok (.astore_n 2, 1) := by decide +kernel
theorem dX1_findGuard_7 : decode cX1_findGuard 7 = .ok (.aload_n 2, 1) := by decide +kernel
theorem dX1_findGuard_8 : decode cX1_findGuard 8 = .ok (.getfield 69, 3) := by decide +kernel
theorem dX1_findGuard_11 : decode cX1_findGuard 11 = .ok (.ifCond .eq 10, 3) := by decide +kernel
theorem dX1_findGuard_14 : decode cX1_findGuard 14 = .ok (.aload_n 2, 1) := by decide +kernel
theorem dX1_findGuard_15 : decode cX1_findGuard 15 = .ok (.invokevirtual 116, 3) := by decide +kernel
theorem dX1_findGuard_18 : decode cX1_findGuard 18 = .ok (.ifCond .ne 5, 3) := by decide +kernel
theorem dX1_findGuard_21 : decode cX1_findGuard 21 = .ok (.aconst_null, 1) := by decide +kernel
theorem dX1_findGuard_22 : decode cX1_findGuard 22 = .ok (.areturn, 1) := by decide +kernel
theorem dX1_findGuard_23 : decode cX1_findGuard 23 = .ok (.iload_n 1, 1) := by decide +kernel
theorem dX1_findGuard_24 : decode cX1_findGuard 24 = .ok (.iconst 1, 1) := by decide +kernel
theorem dX1_findGuard_25 : decode cX1_findGuard 25 = .ok (.isub, 1) := by decide +kernel
theorem dX1_findGuard_26 : decode cX1_findGuard 26 = .ok (.istore_n 3, 1) := by decide +kernel
theorem dX1_findGuard_27 : decode cX1_findGuard 27 = .ok (.iload_n 3, 1) := by decide +kernel
theorem dX1_findGuard_28 : decode cX1_findGuard 28 = .ok (.ifCond .lt 51, 3) := by decide +kernel
theorem dX1_findGuard_31 : decode cX1_findGuard 31 = .ok (.aload_n 0, 1) := by decide +kernel
theorem dX1_findGuard_32 : decode cX1_findGuard 32 = .ok (.getfield 11, 3) := by decide +kernel
theorem dX1_findGuard_35 : decode cX1_findGuard 35 = .ok (.iload_n 3, 1) := by decide +kernel
theorem dX1_findGuard_36 : decode cX1_findGuard 36 = .ok (.aaload, 1) := by decide +kernel
theorem dX1_findGuard_37 : decode cX1_findGuard 37 = .ok (.astore 4, 2) := by decide +kernel
theorem dX1_findGuard_39 : decode cX1_findGuard 39 = .ok (.aload 4, 2) := by decide +kernel
theorem dX1_findGuard_41 : decode cX1_findGuard 41 = .ok (.getfield 69, 3) := by decide +kernel
theorem dX1_findGuard_44 : decode cX1_findGuard 44 = .ok (.ifCond .eq 29, 3) := by decide +kernel
theorem dX1_findGuard_47 : decode cX1_findGuard 47 = .ok (.aload 4, 2) := by decide +kernel
theorem dX1_findGuard_49 : decode cX1_findGuard 49 = .ok (.aload_n 2, 1) := by decide +kernel
theorem dX1_findGuard_50 : decode cX1_findGuard 50 = .ok (.invokevirtual 120, 3) := by decide +kernel
theorem dX1_findGuard_53 : decode cX1_findGuard 53 = .ok (.ifCond .eq 20, 3) := by decide +kernel
theorem dX1_findGuard_56 : decode cX1_findGuard 56 = .ok (.aload 4, 2) := by decide +kernel
theorem dX1_findGuard_58 : decode cX1_findGuard 58 = .ok (.getfield 72, 3) := by decide +kernel
theorem dX1_findGuard_61 : decode cX1_findGuard 61 = .ok (.bipush 7, 2) := by decide +kernel
theorem dX1_findGuard_63 : decode cX1_findGuard 63 = .ok (.if_icmp .ne 8, 3) := by decide +kernel
theorem dX1_findGuard_66 : decode cX1_findGuard 66 = .ok (.aload 4, 2) := by decide +kernel
theorem dX1_findGuard_68 : decode cX1_findGuard 68 = .ok (.goto 4, 3) := by decide +kernel
theorem dX1_findGuard_71 : decode cX1_findGuard 71 = .ok (.aconst_null, 1) := by decide +kernel
theorem dX1_findGuard_72 : decode cX1_findGuard 72 = .ok (.areturn, 1) := by decide +kernel
theorem dX1_findGuard_73 : decode cX1_findGuard 73 = .ok (.iinc 3 (-1), 3) := by decide +kernel
theorem dX1_findGuard_76 : decode cX1_findGuard 76 = .ok (.goto (-49), 3) := by decide +kernel
theorem dX1_findGuard_79 : decode cX1_findGuard 79 = .ok (.aconst_null, 1) := by decide +kernel
theorem dX1_findGuard_80 : decode cX1_findGuard 80 = .ok (.areturn, 1) := by decide +kernel
theorem dX1_findFault_0 : decode cX1_findFault 0 = .ok (.aload_n 1, 1) := by decide +kernel
theorem dX1_findFault_1 : decode cX1_findFault 1 = .ok (.getfield 69, 3) := by decide +kernel
theorem dX1_findFault_4 : decode cX1_findFault 4 = .ok (.ifCond .eq 10, 3) := by decide +kernel
theorem dX1_findFault_7 : decode cX1_findFault 7 = .ok (.aload_n 1, 1) := by decide +kernel
theorem dX1_findFault_8 : decode cX1_findFault 8 = .ok (.invokevirtual 116, 3) := by decide +kernel
theorem dX1_findFault_11 : decode cX1_findFault 11 = .ok (.ifCond .ne 5, 3) := by decide +kernel
theorem dX1_findFault_14 : decode cX1_findFault 14 = .ok (.iconst 0, 1) := by decide +kernel
theorem dX1_findFault_15 : decode cX1_findFault 15 = .ok (.ireturn, 1) := by decide +kernel
theorem dX1_findFault_16 : decode cX1_findFault 16 = .ok (.aload_n 0, 1) := by decide +kernel
theorem dX1_findFault_17 : decode cX1_findFault 17 = .ok (.getfield 52, 3) := by decide +kernel
theorem dX1_findFault_20 : decode cX1_findFault 20 = .ok (.ifCond .eq 19, 3) := by decide +kernel
theorem dX1_findFault_23 : decode cX1_findFault 23 = .ok (.aload_n 1, 1) := by decide +kernel
theorem dX1_findFault_24 : decode cX1_findFault 24 = .ok (.invokevirtual 123, 3) := by decide +kernel
theorem dX1_findFault_27 : decode cX1_findFault 27 = .ok (.aload_n 0, 1) := by decide +kernel
theorem dX1_findFault_28 : decode cX1_findFault 28 = .ok (.getfield 56, 3) := by decide +kernel
theorem dX1_findFault_31 : decode cX1_findFault 31 = .ok (.iconst (-1), 1) := by decide +kernel
theorem dX1_findFault_32 : decode cX1_findFault 32 = .ok (.ixor, 1) := by decide +kernel
theorem dX1_findFault_33 : decode cX1_findFault 33 = .ok (.iand, 1) := by decide +kernel
theorem dX1_findFault_34 : decode cX1_findFault 34 = .ok (.ifCond .eq 5, 3) := by decide +kernel
theorem dX1_findFault_37 : decode cX1_findFault 37 = .ok (.iconst 1, 1) := by decide +kernel
theorem dX1_findFault_38 : decode cX1_findFault 38 = .ok (.ireturn, 1) := by decide +kernel
theorem dX1_findFault_39 : decode cX1_findFault 39 = .ok (.aload_n 0, 1) := by decide +kernel
theorem dX1_findFault_40 : decode cX1_findFault 40 = .ok (.aload_n 1, 1) := by decide +kernel
theorem dX1_findFault_41 : decode cX1_findFault 41 = .ok (.invokevirtual 127, 3) := by decide +kernel
theorem dX1_findFault_44 : decode cX1_findFault 44 = .ok (.ifCond .eq 5, 3) := by decide +kernel
theorem dX1_findFault_47 : decode cX1_findFault 47 = .ok (.iconst 2, 1) := by decide +kernel
theorem dX1_findFault_48 : decode cX1_findFault 48 = .ok (.ireturn, 1) := by decide +kernel
theorem dX1_findFault_49 : decode cX1_findFault 49 = .ok (.aload_n 0, 1) := by decide +kernel
theorem dX1_findFault_50 : decode cX1_findFault 50 = .ok (.aload_n 1, 1) := by decide +kernel
theorem dX1_findFault_51 : decode cX1_findFault 51 = .ok (.invokevirtual 130, 3) := by decide +kernel
theorem dX1_findFault_54 : decode cX1_findFault 54 = .ok (.ifCond .eq 7, 3) := by decide +kernel
theorem dX1_findFault_57 : decode cX1_findFault 57 = .ok (.iconst 3, 1) := by decide +kernel
theorem dX1_findFault_58 : decode cX1_findFault 58 = .ok (.goto 4, 3) := by decide +kernel
theorem dX1_findFault_61 : decode cX1_findFault 61 = .ok (.iconst 0, 1) := by decide +kernel
theorem dX1_findFault_62 : decode cX1_findFault 62 = .ok (.ireturn, 1) := by decide +kernel
theorem dX1_isHiddenFrom_0 : decode cX1_isHiddenFrom 0 = .ok (.iconst 0, 1) := by decide +kernel
theorem dX1_isHiddenFrom_1 : decode cX1_isHiddenFrom 1 = .ok (.istore_n 2, 1) := by decide +kernel
theorem dX1_isHiddenFrom_2 : decode cX1_isHiddenFrom 2 = .ok (.iload_n 2, 1) := by decide +kernel
theorem dX1_isHiddenFrom_3 : decode cX1_isHiddenFrom 3 = .ok (.aload_n 0, 1) := by decide +kernel
theorem dX1_isHiddenFrom_4 : decode cX1_isHiddenFrom 4 = .ok (.getfield 39, 3) := by decide +kernel
theorem dX1_isHiddenFrom_7 : decode cX1_isHiddenFrom 7 = .ok (.if_icmp .ge 56, 3) := by decide +kernel
theorem dX1_isHiddenFrom_10 : decode cX1_isHiddenFrom 10 = .ok (.aload_n 0, 1) := by decide +kernel
theorem dX1_isHiddenFrom_11 : decode cX1_isHiddenFrom 11 = .ok (.getfield 11, 3) := by decide +kernel
theorem dX1_isHiddenFrom_14 : decode cX1_isHiddenFrom 14 = .ok (.iload_n 2, 1) := by decide +kernel
theorem dX1_isHiddenFrom_15 : decode cX1_isHiddenFrom 15 = .ok (.aaload, 1) := by decide +kernel
theorem dX1_isHiddenFrom_16 : decode cX1_isHiddenFrom 16 = .ok (.astore_n 3, 1) := by decide +kernel
theorem dX1_isHiddenFrom_17 : decode cX1_isHiddenFrom 17 = .ok (.aload_n 3, 1) := by decide +kernel
theorem dX1_isHiddenFrom_18 : decode cX1_isHiddenFrom 18 = .ok (.getfield 69, 3) := by decide +kernel
theorem dX1_isHiddenFrom_21 : decode cX1_isHiddenFrom 21 = .ok (.ifCond .eq 36, 3) := by decide +kernel
theorem dX1_isHiddenFrom_24 : decode cX1_isHiddenFrom 24 = .ok (.aload_n 3, 1) := by decide +kernel
theorem dX1_isHiddenFrom_25 : decode cX1_isHiddenFrom 25 = .ok (.getfield 72, 3) := by decide +kernel
theorem dX1_isHiddenFrom_28 : decode cX1_isHiddenFrom 28 = .ok (.bipush 10, 2) := by decide +kernel
theorem dX1_isHiddenFrom_30 : decode cX1_isHiddenFrom 30 = .ok (.if_icmp .ne 27, 3) := by decide +kernel
theorem dX1_isHiddenFrom_33 : decode cX1_isHiddenFrom 33 = .ok (.aload_n 3, 1) := by decide +kernel
theorem dX1_isHiddenFrom_34 : decode cX1_isHiddenFrom 34 = .ok (.aload_n 1, 1) := by decide +kernel
theorem dX1_isHiddenFrom_35 : decode cX1_isHiddenFrom 35 = .ok (.invokevirtual 120, 3) := by decide +kernel
theorem dX1_isHiddenFrom_38 : decode cX1_isHiddenFrom 38 = .ok (.ifCond .ne 19, 3) := by decide +kernel
theorem dX1_isHiddenFrom_41 : decode cX1_isHiddenFrom 41 = .ok (.aload_n 1, 1) := by decide +kernel
theorem dX1_isHiddenFrom_42 : decode cX1_isHiddenFrom 42 = .ok (.invokevirtual 123, 3) := by decide +kernel
theorem dX1_isHiddenFrom_45 : decode cX1_isHiddenFrom 45 = .ok (.iconst 1, 1) := by decide +kernel
theorem dX1_isHiddenFrom_46 : decode cX1_isHiddenFrom 46 = .ok (.aload_n 3, 1) := by decide +kernel
theorem dX1_isHiddenFrom_47 : decode cX1_isHiddenFrom 47 = .ok (.getfield 75, 3) := by decide +kernel
theorem dX1_isHiddenFrom_50 : decode cX1_isHiddenFrom 50 = .ok (.ishl, 1) := by decide +kernel
theorem dX1_isHiddenFrom_51 : decode cX1_isHiddenFrom 51 = .ok (.iand, 1) := by decide +kernel
theorem dX1_isHiddenFrom_52 : decode cX1_isHiddenFrom 52 = .ok (.ifCond .eq 5, 3) := by decide +kernel
theorem dX1_isHiddenFrom_55 : decode cX1_isHiddenFrom 55 = .ok (.iconst 1, 1) := by decide +kernel
theorem dX1_isHiddenFrom_56 : decode cX1_isHiddenFrom 56 = .ok (.ireturn, 1) := by decide +kernel
theorem dX1_isHiddenFrom_57 : decode cX1_isHiddenFrom 57 = .ok (.iinc 2 1, 3) := by decide +kernel
theorem dX1_isHiddenFrom_60 : decode cX1_isHiddenFrom 60 = .ok (.goto (-58), 3) := by decide +kernel
theorem dX1_isHiddenFrom_63 : decode cX1_isHiddenFrom 63 = .ok (.iconst 0, 1) := by decide +kernel
theorem dX1_isHiddenFrom_64 : decode cX1_isHiddenFrom 64 = .ok (.ireturn, 1) := by decide +kernel
theorem dX1_isLockedFor_0 : decode cX1_isLockedFor 0 = .ok (.aload_n 0, 1) := by decide +kernel
theorem dX1_isLockedFor_1 : decode cX1_isLockedFor 1 = .ok (.getfield 21, 3) := by decide +kernel
theorem dX1_isLockedFor_4 : decode cX1_isLockedFor 4 = .ok (.aload_n 1, 1) := by decide +kernel
theorem dX1_isLockedFor_5 : decode cX1_isLockedFor 5 = .ok (.getfield 75, 3) := by decide +kernel
theorem dX1_isLockedFor_8 : decode cX1_isLockedFor 8 = .ok (.iaload, 1) := by decide +kernel
theorem dX1_isLockedFor_9 : decode cX1_isLockedFor 9 = .ok (.istore_n 2, 1) := by decide +kernel
theorem dX1_isLockedFor_10 : decode cX1_isLockedFor 10 = .ok (.iload_n 2, 1) := by decide +kernel
theorem dX1_isLockedFor_11 : decode cX1_isLockedFor 11 = .ok (.iconst (-1), 1) := by decide +kernel
theorem dX1_isLockedFor_12 : decode cX1_isLockedFor 12 = .ok (.if_icmp .eq 11, 3) := by decide +kernel
theorem dX1_isLockedFor_15 : decode cX1_isLockedFor 15 = .ok (.aload_n 1, 1) := by decide +kernel
theorem dX1_isLockedFor_16 : decode cX1_isLockedFor 16 = .ok (.getfield 72, 3) := by decide +kernel
theorem dX1_isLockedFor_19 : decode cX1_isLockedFor 19 = .ok (.iconst 4, 1) := by decide +kernel
theorem dX1_isLockedFor_20 : decode cX1_isLockedFor 20 = .ok (.if_icmp .ne 5, 3) := by decide +kernel
theorem dX1_isLockedFor_23 : decode cX1_isLockedFor 23 = .ok (.iconst 0, 1) := by decide +kernel
theorem dX1_isLockedFor_24 : decode cX1_isLockedFor 24 = .ok (.ireturn, 1) := by decide +kernel
theorem dX1_isLockedFor_25 : decode cX1_isLockedFor 25 = .ok (.aload_n 1, 1) := by decide +kernel
theorem dX1_isLockedFor_26 : decode cX1_isLockedFor 26 = .ok (.getfield 59, 3) := by decide +kernel
theorem dX1_isLockedFor_29 : decode cX1_isLockedFor 29 = .ok (.iconst (-1), 1) := by decide +kernel
theorem dX1_isLockedFor_30 : decode cX1_isLockedFor 30 = .ok (.if_icmp .ne 5, 3) := by decide +kernel
theorem dX1_isLockedFor_33 : decode cX1_isLockedFor 33 = .ok (.iconst 1, 1) := by decide +kernel
theorem dX1_isLockedFor_34 : decode cX1_isLockedFor 34 = .ok (.ireturn, 1) := by decide +kernel
theorem dX1_isLockedFor_35 : decode cX1_isLockedFor 35 = .ok (.aload_n 0, 1) := by decide +kernel
theorem dX1_isLockedFor_36 : decode cX1_isLockedFor 36 = .ok (.getfield 17, 3) := by decide +kernel
theorem dX1_isLockedFor_39 : decode cX1_isLockedFor 39 = .ok (.aload_n 1, 1) := by decide +kernel
theorem dX1_isLockedFor_40 : decode cX1_isLockedFor 40 = .ok (.getfield 59, 3) := by decide +kernel
theorem dX1_isLockedFor_43 : decode cX1_isLockedFor 43 = .ok (.iaload, 1) := by decide +kernel
theorem dX1_isLockedFor_44 : decode cX1_isLockedFor 44 = .ok (.iload_n 2, 1) := by decide +kernel
theorem dX1_isLockedFor_45 : decode cX1_isLockedFor 45 = .ok (.if_icmp .eq 31, 3) := by decide +kernel
theorem dX1_isLockedFor_48 : decode cX1_isLockedFor 48 = .ok (.aload_n 0, 1) := by decide +kernel
theorem dX1_isLockedFor_49 : decode cX1_isLockedFor 49 = .ok (.getfield 133, 3) := by decide +kernel
theorem dX1_isLockedFor_52 : decode cX1_isLockedFor 52 = .ok (.aload_n 0, 1) := by decide +kernel
theorem dX1_isLockedFor_53 : decode cX1_isLockedFor 53 = .ok (.getfield 24, 3) := by decide +kernel
theorem dX1_isLockedFor_56 : decode cX1_isLockedFor 56 = .ok (.aload_n 1, 1) := by decide +kernel
theorem dX1_isLockedFor_57 : decode cX1_isLockedFor 57 = .ok (.getfield 59, 3) := by decide +kernel
theorem dX1_isLockedFor_60 : decode cX1_isLockedFor 60 = .ok (.bipush 10, 2) := by decide +kernel
theorem dX1_isLockedFor_62 : decode cX1_isLockedFor 62 = .ok (.imul, 1) := by decide +kernel
theorem dX1_isLockedFor_63 : decode cX1_isLockedFor 63 = .ok (.aload_n 1, 1) := by decide +kernel
theorem dX1_isLockedFor_64 : decode cX1_isLockedFor 64 = .ok (.getfield 75, 3) := by decide +kernel
theorem dX1_isLockedFor_67 : decode cX1_isLockedFor 67 = .ok (.iadd, 1) := by decide +kernel
theorem dX1_isLockedFor_68 : decode cX1_isLockedFor 68 = .ok (.iaload, 1) := by decide +kernel
theorem dX1_isLockedFor_69 : decode cX1_isLockedFor 69 = .ok (.if_icmp .lt 7, 3) := by decide +kernel
theorem dX1_isLockedFor_72 : decode cX1_isLockedFor 72 = .ok (.iconst 1, 1) := by decide +kernel
theorem dX1_isLockedFor_73 : decode cX1_isLockedFor 73 = .ok (.goto 4, 3) := by decide +kernel
theorem dX1_isLockedFor_76 : decode cX1_isLockedFor 76 = .ok (.iconst 0, 1) := by decide +kernel
theorem dX1_isLockedFor_77 : decode cX1_isLockedFor 77 = .ok (.ireturn, 1) := by decide +kernel
theorem dX2_init_0 : decode cX2_init 0 = .ok (.aload_n 0, 1) := by decide +kernel
theorem dX2_init_1 : decode cX2_init 1 = .ok (.invokespecial 3, 3) := by decide +kernel
theorem dX2_init_4 : decode cX2_init 4 = .ok (.aload_n 0, 1) := by decide +kernel
theorem dX2_init_5 : decode cX2_init 5 = .ok (.sipush 192, 3) := by decide +kernel
theorem dX2_init_8 : decode cX2_init 8 = .ok (.newarray .int, 2) := by decide +kernel
theorem dX2_init_10 : decode cX2_init 10 = .ok (.putfield 9, 3) := by decide +kernel
theorem dX2_init_13 : decode cX2_init 13 = .ok (.aload_n 0, 1) := by decide +kernel
theorem dX2_init_14 : decode cX2_init 14 = .ok (.sipush 128, 3) := by decide +kernel
theorem dX2_init_17 : decode cX2_init 17 = .ok (.newarray .int, 2) := by decide +kernel
theorem dX2_init_19 : decode cX2_init 19 = .ok (.putfield 15, 3) := by decide +kernel
theorem dX2_init_22 : decode cX2_init 22 = .ok (.aload_n 0, 1) := by decide +kernel
theorem dX2_init_23 : decode cX2_init 23 = .ok (.bipush 64, 2) := by decide +kernel
theorem dX2_init_25 : decode cX2_init 25 = .ok (.newarray .int, 2) := by decide +kernel
theorem dX2_init_27 : decode cX2_init 27 = .ok (.putfield 18, 3) := by decide +kernel
theorem dX2_init_30 : decode cX2_init 30 = .ok (.aload_n 0, 1) := by decide +kernel
theorem dX2_init_31 : decode cX2_init 31 = .ok (.sipush 192, 3) := by decide +kernel
theorem dX2_init_34 : decode cX2_init 34 = .ok (.newarray .int, 2) := by decide +kernel
theorem dX2_init_36 : decode cX2_init 36 = .ok (.putfield 21, 3) := by decide +kernel
theorem dX2_init_39 : decode cX2_init 39 = .ok (.aload_n 0, 1) := by decide +kernel
theorem dX2_init_40 : decode cX2_init 40 = .ok (.aload_n 1, 1) := by decide +kernel
theorem dX2_init_41 : decode cX2_init 41 = .ok (.putfield 24, 3) := by decide +kernel
theorem dX2_init_44 : decode cX2_init 44 = .ok (.aload_n 0, 1) := by decide +kernel
theorem dX2_init_45 : decode cX2_init 45 = .ok (.aload_n 2, 1) := by decide +kernel
theorem dX2_init_46 : decode cX2_init 46 = .ok (.putfield 28, 3) := by decide +kernel
theorem dX2_init_49 : decode cX2_init 49 = .ok (.return_, 1) := by decide +kernel
theorem dX2_lookAtAll_0 : decode cX2_lookAtAll 0 = .ok (.iconst 0, 1) := by decide +kernel
theorem dX2_lookAtAll_1 : decode cX2_lookAtAll 1 = .ok (.istore_n 1, 1) := by decide +kernel
theorem dX2_lookAtAll_2 : decode cX2_lookAtAll 2 = .ok (.iload_n 1, 1) := by decide +kernel
theorem dX2_lookAtAll_3 : decode cX2_lookAtAll 3 = .ok (.aload_n 0, 1) := by decide +kernel
theorem dX2_lookAtAll_4 : decode cX2_lookAtAll 4 = .ok (.getfield 28, 3) := by decide +kernel
theorem dX2_lookAtAll_7 : decode cX2_lookAtAll 7 = .ok (.invokevirtual 32, 3) := by decide +kernel
theorem dX2_lookAtAll_10 : decode cX2_lookAtAll 10 = .ok (.if_icmp .ge 14, 3) := by decide +kernel
theorem dX2_lookAtAll_13 : decode cX2_lookAtAll 13 = .ok (.aload_n 0, 1) := by decide +kernel
theorem dX2_lookAtAll_14 : decode cX2_lookAtAll 14 = .ok (.iload_n 1, 1) := by decide +kernel
theorem dX2_lookAtAll_15 : decode cX2_lookAtAll 15 = .ok (.invokevirtual 38, 3) := by decide +kernel
theorem dX2_lookAtAll_18 : decode cX2_lookAtAll 18 = .ok (.iinc 1 1, 3) := by decide +kernel
theorem dX2_lookAtAll_21 : decode cX2_lookAtAll 21 = .ok (.goto (-19), 3) := by decide +kernel
theorem dX2_lookAtAll_24 : decode cX2_lookAtAll 24 = .ok (.return_, 1) := by decide +kernel
theorem dX2_lookAt_0 : decode cX2_lookAt 0 = .ok (.iconst 0, 1) := by decide +kernel
theorem dX2_lookAt_1 : decode cX2_lookAt 1 = .ok (.istore_n 2, 1) := by decide +kernel
theorem dX2_lookAt_2 : decode cX2_lookAt 2 = .ok (.iload_n 2, 1) := by decide +kernel
theorem dX2_lookAt_3 : decode cX2_lookAt 3 = .ok (.iconst 3, 1) := by decide +kernel
theorem dX2_lookAt_4 : decode cX2_lookAt 4 = .ok (.if_icmp .ge 25, 3) := by decide +kernel
theorem dX2_lookAt_7 : decode cX2_lookAt 7 = .ok (.aload_n 0, 1) := by decide +kernel
theorem dX2_lookAt_8 : decode cX2_lookAt 8 = .ok (.getfield 9, 3) := by decide +kernel
theorem dX2_lookAt_11 : decode cX2_lookAt 11 = .ok (.iload_n 1, 1) := by decide +kernel
theorem dX2_lookAt_12 : decode cX2_lookAt 12 = .ok (.iconst 3, 1) := by decide +kernel
theorem dX2_lookAt_13 : decode cX2_lookAt 13 = .ok (.imul, 1) := by decide +kernel
theorem dX2_lookAt_14 : decode cX2_lookAt 14 = .ok (.iload_n 2, 1) := by decide +kernel
theorem dX2_lookAt_15 : decode cX2_lookAt 15 = .ok (.iadd, 1) := by decide +kernel
theorem dX2_lookAt_16 : decode cX2_lookAt 16 = .ok (.aload_n 0, 1) := by decide +kernel
theorem dX2_lookAt_17 : decode cX2_lookAt 17 = .ok (.iload_n 1, 1) := by decide +kernel
theorem dX2_lookAt_18 : decode cX2_lookAt 18 = .ok (.iload_n 2, 1) := by decide +kernel
theorem dX2_lookAt_19 : decode cX2_lookAt 19 = .ok (.invokevirtual 42, 3) := by decide +kernel
theorem dX2_lookAt_22 : decode cX2_lookAt 22 = .ok (.iastore, 1) := by decide +kernel
theorem dX2_lookAt_23 : decode cX2_lookAt 23 = .ok (.iinc 2 1, 3) := by decide +kernel
theorem dX2_lookAt_26 : decode cX2_lookAt 26 = .ok (.goto (-24), 3) := by decide +kernel
theorem dX2_lookAt_29 : decode cX2_lookAt 29 = .ok (.aload_n 0, 1) := by decide +kernel
theorem dX2_lookAt_30 : decode cX2_lookAt 30 = .ok (.getfield 18, 3) := by decide +kernel
theorem dX2_lookAt_33 : decode cX2_lookAt 33 = .ok (.iload_n 1, 1) := by decide +kernel
theorem dX2_lookAt_34 : decode cX2_lookAt 34 = .ok (.aload_n 0, 1) := by decide +kernel
theorem dX2_lookAt_35 : decode cX2_lookAt 35 = .ok (.iload_n 1, 1) := by decide +kernel
theorem dX2_lookAt_36 : decode cX2_lookAt 36 = .ok (.invokevirtual 46, 3) := by decide +kernel
theorem dX2_lookAt_39 : decode cX2_lookAt 39 = .ok (.iastore, 1) := by decide +kernel
theorem dX2_lookAt_40 : decode cX2_lookAt 40 = .ok (.return_, 1) := by decide +kernel
theorem dX2_sourceGives_0 : decode cX2_sourceGives 0 = .ok (.aload_n 0, 1) := by decide +kernel
theorem dX2_sourceGives_1 : decode cX2_sourceGives 1 = .ok (.getfield 28, 3) := by decide +kernel
theorem dX2_sourceGives_4 : decode cX2_sourceGives 4 = .ok (.iload_n 1, 1) := by decide +kernel
theorem dX2_sourceGives_5 : decode cX2_sourceGives 5 = .ok (.invokevirtual 50, 3) := by decide +kernel
theorem dX2_sourceGives_8 : decode cX2_sourceGives 8 = .ok (.getfield 54, 3) := by decide +kernel
theorem dX2_sourceGives_11 : decode cX2_sourceGives 11 = .ok (.iload_n 2, 1) := by decide +kernel
theorem dX2_sourceGives_12 : decode cX2_sourceGives 12 = .ok (.iaload, 1) := by decide +kernel
theorem dX2_sourceGives_13 : decode cX2_sourceGives 13 = .ok (.istore_n 3, 1) := by decide +kernel
theorem dX2_sourceGives_14 : decode cX2_sourceGives 14 = .ok (.iload_n 3, 1) := by decide +kernel
theorem dX2_sourceGives_15 : decode cX2_sourceGives 15 = .ok (.iconst (-1), 1) := by decide +kernel
theorem dX2_sourceGives_16 : decode cX2_sourceGives 16 = .ok (.if_icmp .ne 5, 3) := by decide +kernel
theorem dX2_sourceGives_19 : decode cX2_sourceGives 19 = .ok (.iconst 0, 1) := by decide +kernel
theorem dX2_sourceGives_20 : decode cX2_sourceGives 20 = .ok (.ireturn, 1) := by decide +kernel
theorem dX2_sourceGives_21 : decode cX2_sourceGives 21 = .ok (.iload_n 3, 1) := by decide +kernel
theorem dX2_sourceGives_22 : decode cX2_sourceGives 22 = .ok (.bipush 10, 2) := by decide +kernel
theorem dX2_sourceGives_24 : decode cX2_sourceGives 24 = .ok (.if_icmp .ge 10, 3) := by decide +kernel
theorem dX2_sourceGives_27 : decode cX2_sourceGives 27 = .ok (.aload_n 0, 1) := by decide +kernel
theorem dX2_sourceGives_28 : decode cX2_sourceGives 28 = .ok (.iload_n 1, 1) := by decide +kernel
theorem dX2_sourceGives_29 : decode cX2_sourceGives 29 = .ok (.iload_n 3, 1) := by decide +kernel
theorem dX2_sourceGives_30 : decode cX2_sourceGives 30 = .ok (.invokevirtual 59, 3) := by decide +kernel
theorem dX2_sourceGives_33 : decode cX2_sourceGives 33 = .ok (.ireturn, 1) := by decide +kernel
theorem dX2_sourceGives_34 : decode cX2_sourceGives 34 = .ok (.bipush 16, 2) := by decide +kernel
theorem dX2_sourceGives_36 : decode cX2_sourceGives 36 = .ok (.iload_n 3, 1) := by decide +kernel
theorem dX2_sourceGives_37 : decode cX2_sourceGives 37 = .ok (.invokestatic 62, 3) := by decide +kernel
theorem dX2_sourceGives_40 : decode cX2_sourceGives 40 = .ok (.imul, 1) := by decide +kernel
theorem dX2_sourceGives_41 : decode cX2_sourceGives 41 = .ok (.iload_n 1, 1) := by decide +kernel
theorem dX2_sourceGives_42 : decode cX2_sourceGives 42 = .ok (.bipush 16, 2) := by decide +kernel
theorem dX2_sourceGives_44 : decode cX2_sourceGives 44 = .ok (.irem, 1) := by decide +kernel
theorem dX2_sourceGives_45 : decode cX2_sourceGives 45 = .ok (.iadd, 1) := by decide +kernel
theorem dX2_sourceGives_46 : decode cX2_sourceGives 46 = .ok (.istore 4, 2) := by decide +kernel
theorem dX2_sourceGives_48 : decode cX2_sourceGives 48 = .ok (.aload_n 0, 1) := by decide +kernel
theorem dX2_sourceGives_49 : decode cX2_sourceGives 49 = .ok (.getfield 28, 3) := by decide +kernel
theorem dX2_sourceGives_52 : decode cX2_sourceGives 52 = .ok (.getfield 65, 3) := by decide +kernel
theorem dX2_sourceGives_55 : decode cX2_sourceGives 55 = .ok (.iload 4, 2) := by decide +kernel
theorem dX2_sourceGives_57 : decode cX2_sourceGives 57 = .ok (.aaload, 1) := by decide +kernel
theorem dX2_sourceGives_58 : decode cX2_sourceGives 58 = .ok (.astore 5, 2) := by decide +kernel
theorem dX2_sourceGives_60 : decode cX2_sourceGives 60 = .ok (.aload 5, 2) := by decide +kernel
theorem dX2_sourceGives_62 : decode cX2_sourceGives 62 = .ok (.ifnull 25, 3) := by decide +kernel
theorem dX2_sourceGives_65 : decode cX2_sourceGives 65 = .ok (.aload_n 0, 1) := by decide +kernel
theorem dX2_sourceGives_66 : decode cX2_sourceGives 66 = .ok (.getfield 18, 3) := by decide +kernel
theorem dX2_sourceGives_69 : decode cX2_sourceGives 69 = .ok (.iload 4, 2) := by decide +kernel
theorem dX2_sourceGives_71 : decode cX2_sourceGives 71 = .ok (.iaload, 1) := by decide +kernel
theorem dX2_sourceGives_72 : decode cX2_sourceGives 72 = .ok (.iconst 3, 1) := by decide +kernel
theorem dX2_sourceGives_73 : decode cX2_sourceGives 73 = .ok (.if_icmp .eq 14, 3) := by decide +kernel
theorem dX2_sourceGives_76 : decode cX2_sourceGives 76 = .ok (.aload_n 0, 1) := by decide +kernel
theorem dX2_sourceGives_77 : decode cX2_sourceGives 77 = .ok (.getfield 18, 3) := by decide +kernel
theorem dX2_sourceGives_80 : decode cX2_sourceGives 80 = .ok (.iload 4, 2) := by decide +kernel
theorem dX2_sourceGives_82 : decode cX2_sourceGives 82 = .ok (.iaload, 1) := by decide +kernel
theorem dX2_sourceGives_83 : decode cX2_sourceGives 83 = .ok (.iconst 4, 1) := by decide +kernel
theorem dX2_sourceGives_84 : decode cX2_sourceGives 84 = .ok (.if_icmp .ne 5, 3) := by decide +kernel
theorem dX2_sourceGives_87 : decode cX2_sourceGives 87 = .ok (.iconst (-1), 1) := by decide +kernel
theorem dX2_sourceGives_88 : decode cX2_sourceGives 88 = .ok (.ireturn, 1) := by decide +kernel
theorem dX2_sourceGives_89 : decode cX2_sourceGives 89 = .ok (.aload_n 0, 1) := by decide +kernel
theorem dX2_sourceGives_90 : decode cX2_sourceGives 90 = .ok (.aload 5, 2) := by decide +kernel
theorem dX2_sourceGives_92 : decode cX2_sourceGives 92 = .ok (.getfield 69, 3) := by decide +kernel
theorem dX2_sourceGives_95 : decode cX2_sourceGives 95 = .ok (.iload_n 3, 1) := by decide +kernel
theorem dX2_sourceGives_96 : decode cX2_sourceGives 96 = .ok (.invokestatic 73, 3) := by decide +kernel
theorem dX2_sourceGives_99 : decode cX2_sourceGives 99 = .ok (.iaload, 1) := by decide +kernel
theorem dX2_sourceGives_100 : decode cX2_sourceGives 100 = .ok (.iload 4, 2) := by decide +kernel
theorem dX2_sourceGives_102 : decode cX2_sourceGives 102 = .ok (.iload_n 1, 1) := by decide +kernel
theorem dX2_sourceGives_103 : decode cX2_sourceGives 103 = .ok (.invokevirtual 76, 3) := by decide +kernel
theorem dX2_sourceGives_106 : decode cX2_sourceGives 106 = .ok (.ireturn, 1) := by decide +kernel
theorem dX2_fieldGives_0 : decode cX2_fieldGives 0 = .ok (.aload_n 0, 1) := by decide +kernel
theorem dX2_fieldGives_1 : decode cX2_fieldGives 1 = .ok (.getfield 24, 3) := by decide +kernel
theorem dX2_fieldGives_4 : decode cX2_fieldGives 4 = .ok (.getfield 80, 3) := by decide +kernel
theorem dX2_fieldGives_7 : decode cX2_fieldGives 7 = .ok (.iload_n 2, 1) := by decide +kernel
theorem dX2_fieldGives_8 : decode cX2_fieldGives 8 = .ok (.iaload, 1) := by decide +kernel
theorem dX2_fieldGives_9 : decode cX2_fieldGives 9 = .ok (.istore_n 3, 1) := by decide +kernel
theorem dX2_fieldGives_10 : decode cX2_fieldGives 10 = .ok (.iload_n 3, 1) := by decide +kernel
theorem dX2_fieldGives_11 : decode cX2_fieldGives 11 = .ok (.ifCond .ge 7, 3) := by decide +kernel
theorem dX2_fieldGives_14 : decode cX2_fieldGives 14 = .ok (.iconst (-1), 1) := by decide +kernel
theorem dX2_fieldGives_15 : decode cX2_fieldGives 15 = .ok (.goto 16, 3) := by decide +kernel
theorem dX2_fieldGives_18 : decode cX2_fieldGives 18 = .ok (.iload_n 3, 1) := by decide +kernel
theorem dX2_fieldGives_19 : decode cX2_fieldGives 19 = .ok (.aload_n 0, 1) := by decide +kernel
theorem dX2_fieldGives_20 : decode cX2_fieldGives 20 = .ok (.getfield 28, 3) := by decide +kernel
theorem dX2_fieldGives_23 : decode cX2_fieldGives 23 = .ok (.iload_n 1, 1) := by decide +kernel
theorem dX2_fieldGives_24 : decode cX2_fieldGives 24 = .ok (.invokevirtual 85, 3) := by decide +kernel
theorem dX2_fieldGives_27 : decode cX2_fieldGives 27 = .ok (.getfield 89, 3) := by decide +kernel
theorem dX2_fieldGives_30 : decode cX2_fieldGives 30 = .ok (.ishl, 1) := by decide +kernel
theorem dX2_fieldGives_31 : decode cX2_fieldGives 31 = .ok (.ireturn, 1) := by decide +kernel
theorem dX2_converted_0 : decode cX2_converted 0 = .ok (.iload_n 1, 1) := by decide +kernel
theorem dX2_converted_1 : decode cX2_converted 1 = .ok (.aload_n 0, 1) := by decide +kernel
theorem dX2_converted_2 : decode cX2_converted 2 = .ok (.getfield 28, 3) := by decide +kernel
theorem dX2_converted_5 : decode cX2_converted 5 = .ok (.iload_n 2, 1) := by decide +kernel
theorem dX2_converted_6 : decode cX2_converted 6 = .ok (.invokevirtual 85, 3) := by decide +kernel
theorem dX2_converted_9 : decode cX2_converted 9 = .ok (.getfield 89, 3) := by decide +kernel
theorem dX2_converted_12 : decode cX2_converted 12 = .ok (.ishr, 1) := by decide +kernel
theorem dX2_converted_13 : decode cX2_converted 13 = .ok (.aload_n 0, 1) := by decide +kernel
theorem dX2_converted_14 : decode cX2_converted 14 = .ok (.getfield 28, 3) := by decide +kernel
theorem dX2_converted_17 : decode cX2_converted 17 = .ok (.iload_n 3, 1) := by decide +kernel
theorem dX2_converted_18 : decode cX2_converted 18 = .ok (.invokevirtual 85, 3) := by decide +kernel
theorem dX2_converted_21 : decode cX2_converted 21 = .ok (.getfield 89, 3) := by decide +kernel
theorem dX2_converted_24 : decode cX2_converted 24 = .ok (.ishl, 1) := by decide +kernel
theorem dX2_converted_25 : decode cX2_converted 25 = .ok (.ireturn, 1) := by decide +kernel
theorem dX2_findNeed_0 : decode cX2_findNeed 0 = .ok (.aload_n 0, 1) := by decide +kernel
theorem dX2_findNeed_1 : decode cX2_findNeed 1 = .ok (.getfield 28, 3) := by decide +kernel
theorem dX2_findNeed_4 : decode cX2_findNeed 4 = .ok (.getfield 65, 3) := by decide +kernel
theorem dX2_findNeed_7 : decode cX2_findNeed 7 = .ok (.iload_n 1, 1) := by decide +kernel
theorem dX2_findNeed_8 : decode cX2_findNeed 8 = .ok (.aaload, 1) := by decide +kernel
theorem dX2_findNeed_9 : decode cX2_findNeed 9 = .ok (.astore_n 2, 1) := by decide +kernel
theorem dX2_findNeed_10 : decode cX2_findNeed 10 = .ok (.aload_n 0, 1) := by decide +kernel
theorem dX2_findNeed_11 : decode cX2_findNeed 11 = .ok (.getfield 28, 3) := by decide +kernel
theorem dX2_findNeed_14 : decode cX2_findNeed 14 = .ok (.iload_n 1, 1) := by decide +kernel
theorem dX2_findNeed_15 : decode cX2_findNeed 15 = .ok (.invokevirtual 95, 3) := by decide +kernel
theorem dX2_findNeed_18 : decode cX2_findNeed 18 = .ok (.istore_n 3, 1) := by decide +kernel
theorem dX2_findNeed_19 : decode cX2_findNeed 19 = .ok (.aload_n 2, 1) := by decide +kernel
theorem dX2_findNeed_20 : decode cX2_findNeed 20 = .ok (.ifnonnull 13, 3) := by decide +kernel
theorem dX2_findNeed_23 : decode cX2_findNeed 23 = .ok (.iload_n 3, 1) := by decide +kernel
theorem dX2_findNeed_24 : decode cX2_findNeed 24 = .ok (.ifCond .eq 7, 3) := by decide +kernel
theorem dX2_findNeed_27 : decode cX2_findNeed 27 = .ok (.iconst 1, 1) := by decide +kernel
theorem dX2_findNeed_28 : decode cX2_findNeed 28 = .ok (.goto 4, 3) := by decide +kernel
theorem dX2_findNeed_31 : decode cX2_findNeed 31 = .ok (.iconst 0, 1) := by decide +kernel
theorem dX2_findNeed_32 : decode cX2_findNeed 32 = .ok (.ireturn, 1) := by decide +kernel
theorem dX2_findNeed_33 : decode cX2_findNeed 33 = .ok (.iload_n 3, 1) := by decide +kernel
theorem dX2_findNeed_34 : decode cX2_findNeed 34 = .ok (.ifCond .ne 5, 3) := by decide +kernel
theorem dX2_findNeed_37 : decode cX2_findNeed 37 = .ok (.iconst 4, 1) := by decide +kernel
theorem dX2_findNeed_38 : decode cX2_findNeed 38 = .ok (.ireturn, 1) := by decide +kernel
theorem dX2_findNeed_39 : decode cX2_findNeed 39 = .ok (.aload_n 2, 1) := by decide +kernel
theorem dX2_findNeed_40 : decode cX2_findNeed 40 = .ok (.getfield 99, 3) := by decide +kernel
theorem dX2_findNeed_43 : decode cX2_findNeed 43 = .ok (.ifCond .eq 5, 3) := by decide +kernel
theorem dX2_findNeed_46 : decode cX2_findNeed 46 = .ok (.iconst 3, 1) := by decide +kernel
theorem dX2_findNeed_47 : decode cX2_findNeed 47 = .ok (.ireturn, 1) := by decide +kernel
theorem dX2_findNeed_48 : decode cX2_findNeed 48 = .ok (.iconst 0, 1) := by decide +kernel
theorem dX2_findNeed_49 : decode cX2_findNeed 49 = .ok (.istore 4, 2) := by decide +kernel
theorem dX2_findNeed_51 : decode cX2_findNeed 51 = .ok (.iconst 0, 1) := by decide +kernel
theorem dX2_findNeed_52 : decode cX2_findNeed 52 = .ok (.istore 5, 2) := by decide +kernel
theorem dX2_findNeed_54 : decode cX2_findNeed 54 = .ok (.iload 5, 2) := by decide +kernel
theorem dX2_findNeed_56 : decode cX2_findNeed 56 = .ok (.iconst 3, 1) := by decide +kernel
theorem dX2_findNeed_57 : decode cX2_findNeed 57 = .ok (.if_icmp .ge 55, 3) := by decide +kernel
theorem dX2_findNeed_60 : decode cX2_findNeed 60 = .ok (.aload_n 0, 1) := by decide +kernel
theorem dX2_findNeed_61 : decode cX2_findNeed 61 = .ok (.iload_n 1, 1) := by decide +kernel
theorem dX2_findNeed_62 : decode cX2_findNeed 62 = .ok (.iload 5, 2) := by decide +kernel
theorem dX2_findNeed_64 : decode cX2_findNeed 64 = .ok (.aload_n 0, 1) := by decide +kernel
theorem dX2_findNeed_65 : decode cX2_findNeed 65 = .ok (.getfield 9, 3) := by decide +kernel
theorem dX2_findNeed_68 : decode cX2_findNeed 68 = .ok (.iload_n 1, 1) := by decide +kernel
theorem dX2_findNeed_69 : decode cX2_findNeed 69 = .ok (.iconst 3, 1) := by decide +kernel
theorem dX2_findNeed_70 : decode cX2_findNeed 70 = .ok (.imul, 1) := by decide +kernel
theorem dX2_findNeed_71 : decode cX2_findNeed 71 = .ok (.iload 5, 2) := by decide +kernel
theorem dX2_findNeed_73 : decode cX2_findNeed 73 = .ok (.iadd, 1) := by decide +kernel
theorem dX2_findNeed_74 : decode cX2_findNeed 74 = .ok (.iaload, 1) := by decide +kernel
theorem dX2_findNeed_75 : decode cX2_findNeed 75 = .ok (.invokevirtual 103, 3) := by decide +kernel
theorem dX2_findNeed_78 : decode cX2_findNeed 78 = .ok (.ifCond .ne 6, 3) := by decide +kernel
theorem dX2_findNeed_81 : decode cX2_findNeed 81 = .ok (.goto 25, 3) := by decide +kernel
theorem dX2_findNeed_84 : decode cX2_findNeed 84 = .ok (.aload_n 0, 1) := by decide +kernel
theorem dX2_findNeed_85 : decode cX2_findNeed 85 = .ok (.getfield 28, 3) := by decide +kernel
theorem dX2_findNeed_88 : decode cX2_findNeed 88 = .ok (.iload_n 1, 1) := by decide +kernel
theorem dX2_findNeed_89 : decode cX2_findNeed 89 = .ok (.invokevirtual 85, 3) := by decide +kernel
theorem dX2_findNeed_92 : decode cX2_findNeed 92 = .ok (.iload 5, 2) := by decide +kernel
theorem dX2_findNeed_94 : decode cX2_findNeed 94 = .ok (.iconst 1, 1) := by decide +kernel
theorem dX2_findNeed_95 : decode cX2_findNeed 95 = .ok (.invokevirtual 107, 3) := by decide +kernel
theorem dX2_findNeed_98 : decode cX2_findNeed 98 = .ok (.ifCond .eq 5, 3) := by decide +kernel
theorem dX2_findNeed_101 : decode cX2_findNeed 101 = .ok (.iconst 3, 1) := by decide +kernel
theorem dX2_findNeed_102 : decode cX2_findNeed 102 = .ok (.ireturn, 1) := by decide +kernel
theorem dX2_findNeed_103 : decode cX2_findNeed 103 = .ok (.iconst 2, 1) := by decide +kernel
theorem dX2_findNeed_104 : decode cX2_findNeed 104 = .ok (.istore 4, 2) := by decide +kernel
theorem dX2_findNeed_106 : decode cX2_findNeed 106 = .ok (.iinc 5 1, 3) := by decide +kernel
theorem dX2_findNeed_109 : decode cX2_findNeed 109 = .ok (.goto (-55), 3) := by decide +kernel
theorem dX2_findNeed_112 : decode cX2_findNeed 112 = .ok (.iload 4, 2) := by decide +kernel
theorem dX2_findNeed_114 : decode cX2_findNeed 114 = .ok (.ireturn, 1) := by decide +kernel
theorem dX2_isDiffering_0 : decode cX2_isDiffering 0 = .ok (.aload_n 0, 1) := by decide +kernel
theorem dX2_isDiffering_1 : decode cX2_isDiffering 1 = .ok (.getfield 28, 3) := by decide +kernel
theorem dX2_isDiffering_4 : decode cX2_isDiffering 4 = .ok (.getfield 65, 3) := by decide +kernel
theorem dX2_isDiffering_7 : decode cX2_isDiffering 7 = .ok (.iload_n 1, 1) := by decide +kernel
theorem dX2_isDiffering_8 : decode cX2_isDiffering 8 = .ok (.aaload, 1) := by decide +kernel
theorem dX2_isDiffering_9 : decode cX2_isDiffering 9 = .ok (.astore 4, 2) := by decide +kernel
theorem dX2_isDiffering_11 : decode cX2_isDiffering 11 = .ok (.aload 4, 2) := by decide +kernel
theorem dX2_isDiffering_13 : decode cX2_isDiffering 13 = .ok (.ifnull 19, 3) := by decide +kernel
theorem dX2_isDiffering_16 : decode cX2_isDiffering 16 = .ok (.aload_n 0, 1) := by decide +kernel
theorem dX2_isDiffering_17 : decode cX2_isDiffering 17 = .ok (.getfield 28, 3) := by decide +kernel
theorem dX2_isDiffering_20 : decode cX2_isDiffering 20 = .ok (.iload_n 1, 1) := by decide +kernel
theorem dX2_isDiffering_21 : decode cX2_isDiffering 21 = .ok (.invokevirtual 85, 3) := by decide +kernel
theorem dX2_isDiffering_24 : decode cX2_isDiffering 24 = .ok (.iload_n 2, 1) := by decide +kernel
theorem dX2_isDiffering_25 : decode cX2_isDiffering 25 = .ok (.iconst 2, 1) := by decide +kernel
theorem dX2_isDiffering_26 : decode cX2_isDiffering 26 = .ok (.invokevirtual 107, 3) := by decide +kernel
theorem dX2_isDiffering_29 : decode cX2_isDiffering 29 = .ok (.ifCond .eq 5, 3) := by decide +kernel
theorem dX2_isDiffering_32 : decode cX2_isDiffering 32 = .ok (.iconst 0, 1) := by decide +kernel
theorem dX2_isDiffering_33 : decode cX2_isDiffering 33 = .ok (.ireturn, 1) := by decide +kernel
theorem dX2_isDiffering_34 : decode cX2_isDiffering 34 = .ok (.aload 4, 2) := by decide +kernel
theorem dX2_isDiffering_36 : decode cX2_isDiffering 36 = .ok (.getfield 69, 3) := by decide +kernel
theorem dX2_isDiffering_39 : decode cX2_isDiffering 39 = .ok (.iload_n 2, 1) := by decide +kernel
theorem dX2_isDiffering_40 : decode cX2_isDiffering 40 = .ok (.iaload, 1) := by decide +kernel
theorem dX2_isDiffering_41 : decode cX2_isDiffering 41 = .ok (.iload_n 3, 1) := by decide +kernel
theorem dX2_isDiffering_42 : decode cX2_isDiffering 42 = .ok (.if_icmp .eq 17, 3) := by decide +kernel
theorem dX2_isDiffering_45 : decode cX2_isDiffering 45 = .ok (.aload 4, 2) := by decide +kernel
theorem dX2_isDiffering_47 : decode cX2_isDiffering 47 = .ok (.iload_n 2, 1) := by decide +kernel
theorem dX2_isDiffering_48 : decode cX2_isDiffering 48 = .ok (.iload_n 3, 1) := by decide +kernel
theorem dX2_isDiffering_49 : decode cX2_isDiffering 49 = .ok (.invokevirtual 111, 3) := by decide +kernel
theorem dX2_isDiffering_52 : decode cX2_isDiffering 52 = .ok (.ifCond .ne 7, 3) := by decide +kernel
theorem dX2_isDiffering_55 : decode cX2_isDiffering 55 = .ok (.iconst 1, 1) := by decide +kernel
theorem dX2_isDiffering_56 : decode cX2_isDiffering 56 = .ok (.goto 4, 3) := by decide +kernel
theorem dX2_isDiffering_59 : decode cX2_isDiffering 59 = .ok (.iconst 0, 1) := by decide +kernel
theorem dX2_isDiffering_60 : decode cX2_isDiffering 60 = .ok (.ireturn, 1) := by decide +kernel
theorem dX2_canPlan_0 : decode cX2_canPlan 0 = .ok (.aload_n 0, 1) := by decide +kernel
theorem dX2_canPlan_1 : decode cX2_canPlan 1 = .ok (.getfield 24, 3) := by decide +kernel
theorem dX2_canPlan_4 : decode cX2_canPlan 4 = .ok (.getfield 114, 3) := by decide +kernel
theorem dX2_canPlan_7 : decode cX2_canPlan 7 = .ok (.ifCond .ne 16, 3) := by decide +kernel
theorem dX2_canPlan_10 : decode cX2_canPlan 10 = .ok (.aload_n 0, 1) := by decide +kernel
theorem dX2_canPlan_11 : decode cX2_canPlan 11 = .ok (.getfield 24, 3) := by decide +kernel
theorem dX2_canPlan_14 : decode cX2_canPlan 14 = .ok (.getfield 117, 3) := by decide +kernel
theorem dX2_canPlan_17 : decode cX2_canPlan 17 = .ok (.invokevirtual 121, 3) := by decide +kernel
theorem dX2_canPlan_20 : decode cX2_canPlan 20 = .ok (.ifCond .eq 5, 3) := by decide +kernel
theorem dX2_canPlan_23 : decode cX2_canPlan 23 = .ok (.iconst 0, 1) := by decide +kernel
theorem dX2_canPlan_24 : decode cX2_canPlan 24 = .ok (.ireturn, 1) := by decide +kernel
theorem dX2_canPlan_25 : decode cX2_canPlan 25 = .ok (.iconst 0, 1) := by decide +kernel
theorem dX2_canPlan_26 : decode cX2_canPlan 26 = .ok (.istore_n 1, 1) := by decide +kernel
theorem dX2_canPlan_27 : decode cX2_canPlan 27 = .ok (.iload_n 1, 1) := by decide +kernel
theorem dX2_canPlan_28 : decode cX2_canPlan 28 = .ok (.aload_n 0, 1) := by decide +kernel
theorem dX2_canPlan_29 : decode cX2_canPlan 29 = .ok (.getfield 28, 3) := by decide +kernel
theorem dX2_canPlan_32 : decode cX2_canPlan 32 = .ok (.getfield 127, 3) := by decide +kernel
theorem dX2_canPlan_35 : decode cX2_canPlan 35 = .ok (.if_icmp .ge 48, 3) := by decide +kernel
theorem dX2_canPlan_38 : decode cX2_canPlan 38 = .ok (.iconst 0, 1) := by decide +kernel
theorem dX2_canPlan_39 : decode cX2_canPlan 39 = .ok (.istore_n 2, 1) := by decide +kernel
theorem dX2_canPlan_40 : decode cX2_canPlan 40 = .ok (.iload_n 2, 1) := by decide +kernel
theorem dX2_canPlan_41 : decode cX2_canPlan 41 = .ok (.iconst 3, 1) := by decide +kernel
theorem dX2_canPlan_42 : decode cX2_canPlan 42 = .ok (.if_icmp .ge 35, 3) := by decide +kernel
theorem dX2_canPlan_45 : decode cX2_canPlan 45 = .ok (.aload_n 0, 1) := by decide +kernel
theorem dX2_canPlan_46 : decode cX2_canPlan 46 = .ok (.getfield 28, 3) := by decide +kernel
theorem dX2_canPlan_49 : decode cX2_canPlan 49 = .ok (.getfield 130, 3) := by decide +kernel
theorem dX2_canPlan_52 : decode cX2_canPlan 52 = .ok (.iload_n 1, 1) := by decide +kernel
theorem dX2_canPlan_53 : decode cX2_canPlan 53 = .ok (.aaload, 1) := by decide +kernel
theorem dX2_canPlan_54 : decode cX2_canPlan 54 = .ok (.getfield 134, 3) := by decide +kernel
theorem dX2_canPlan_57 : decode cX2_canPlan 57 = .ok (.ifCond .le 14, 3) := by decide +kernel
theorem dX2_canPlan_60 : decode cX2_canPlan 60 = .ok (.aload_n 0, 1) := by decide +kernel
theorem dX2_canPlan_61 : decode cX2_canPlan 61 = .ok (.iload_n 1, 1) := by decide +kernel
theorem dX2_canPlan_62 : decode cX2_canPlan 62 = .ok (.iload_n 2, 1) := by decide +kernel
theorem dX2_canPlan_63 : decode cX2_canPlan 63 = .ok (.invokevirtual 137, 3) := by decide +kernel
theorem dX2_canPlan_66 : decode cX2_canPlan 66 = .ok (.ifCond .ne 5, 3) := by decide +kernel
theorem dX2_canPlan_69 : decode cX2_canPlan 69 = .ok (.iconst 0, 1) := by decide +kernel
theorem dX2_canPlan_70 : decode cX2_canPlan 70 = .ok (.ireturn, 1) := by decide +kernel
theorem dX2_canPlan_71 : decode cX2_canPlan 71 = .ok (.iinc 2 1, 3) := by decide +kernel
theorem dX2_canPlan_74 : decode cX2_canPlan 74 = .ok (.goto (-34), 3) := by decide +kernel
theorem dX2_canPlan_77 : decode cX2_canPlan 77 = .ok (.iinc 1 1, 3) := by decide +kernel
theorem dX2_canPlan_80 : decode cX2_canPlan 80 = .ok (.goto (-53), 3) := by decide +kernel
theorem dX2_canPlan_83 : decode cX2_canPlan 83 = .ok (.iconst 1, 1) := by decide +kernel
theorem dX2_canPlan_84 : decode cX2_canPlan 84 = .ok (.ireturn, 1) := by decide +kernel
theorem dX2_canPlanSource_0 : decode cX2_canPlanSource 0 = .ok (.aload_n 0, 1) := by decide +kernel
theorem dX2_canPlanSource_1 : decode cX2_canPlanSource 1 = .ok (.getfield 28, 3) := by decide +kernel
theorem dX2_canPlanSource_4 : decode cX2_canPlanSource 4 = .ok (.getfield 130, 3) := by decide +kernel
theorem dX2_canPlanSource_7 : decode cX2_canPlanSource 7 = .ok (.iload_n 1, 1) := by decide +kernel
theorem dX2_canPlanSource_8 : decode cX2_canPlanSource 8 = .ok (.aaload, 1) := by decide +kernel
theorem dX2_canPlanSource_9 : decode cX2_canPlanSource 9 = .ok (.astore_n 3, 1) := by decide +kernel
theorem dX2_canPlanSource_10 : decode cX2_canPlanSource 10 = .ok (.aload_n 3, 1) := by decide +kernel
theorem dX2_canPlanSource_11 : decode cX2_canPlanSource 11 = .ok (.getfield 54, 3) := by decide +kernel
theorem dX2_canPlanSource_14 : decode cX2_canPlanSource 14 = .ok (.iload_n 2, 1) := by decide +kernel
theorem dX2_canPlanSource_15 : decode cX2_canPlanSource 15 = .ok (.iaload, 1) := by decide +kernel
theorem dX2_canPlanSource_16 : decode cX2_canPlanSource 16 = .ok (.istore 4, 2) := by decide +kernel
theorem dX2_canPlanSource_18 : decode cX2_canPlanSource 18 = .ok (.iload 4, 2) := by decide +kernel
theorem dX2_canPlanSource_20 : decode cX2_canPlanSource 20 = .ok (.iconst (-1), 1) := by decide +kernel
theorem dX2_canPlanSource_21 : decode cX2_canPlanSource 21 = .ok (.if_icmp .ne 5, 3) := by decide +kernel
theorem dX2_canPlanSource_24 : decode cX2_canPlanSource 24 = .ok (.iconst 1, 1) := by decide +kernel
theorem dX2_canPlanSource_25 : decode cX2_canPlanSource 25 = .ok (.ireturn, 1) := by decide +kernel
theorem dX2_canPlanSource_26 : decode cX2_canPlanSource 26 = .ok (.iload 4, 2) := by decide +kernel
theorem dX2_canPlanSource_28 : decode cX2_canPlanSource 28 = .ok (.bipush 10, 2) := by decide +kernel
theorem dX2_canPlanSource_30 : decode cX2_canPlanSource 30 = .ok (.if_icmp .lt 21, 3) := by decide +kernel
theorem dX2_canPlanSource_33 : decode cX2_canPlanSource 33 = .ok (.aload_n 0, 1) := by decide +kernel
theorem dX2_canPlanSource_34 : decode cX2_canPlanSource 34 = .ok (.getfield 28, 3) := by decide +kernel
theorem dX2_canPlanSource_37 : decode cX2_canPlanSource 37 = .ok (.getfield 130, 3) := by decide +kernel
theorem dX2_canPlanSource_40 : decode cX2_canPlanSource 40 = .ok (.iload 4, 2) := by decide +kernel
theorem dX2_canPlanSource_42 : decode cX2_canPlanSource 42 = .ok (.invokestatic 62, 3) := by decide +kernel
theorem dX2_canPlanSource_45 : decode cX2_canPlanSource 45 = .ok (.aaload, 1) := by decide +kernel
theorem dX2_canPlanSource_46 : decode cX2_canPlanSource 46 = .ok (.aload_n 3, 1) := by decide +kernel
theorem dX2_canPlanSource_47 : decode cX2_canPlanSource 47 = .ok (.invokevirtual 140, 3) := by decide +kernel
theorem dX2_canPlanSource_50 : decode cX2_canPlanSource 50 = .ok (.ireturn, 1) := by decide +kernel
theorem dX2_canPlanSource_51 : decode cX2_canPlanSource 51 = .ok (.aload_n 0, 1) := by decide +kernel
theorem dX2_canPlanSource_52 : decode cX2_canPlanSource 52 = .ok (.getfield 24, 3) := by decide +kernel
theorem dX2_canPlanSource_55 : decode cX2_canPlanSource 55 = .ok (.getfield 80, 3) := by decide +kernel
theorem dX2_canPlanSource_58 : decode cX2_canPlanSource 58 = .ok (.iload 4, 2) := by decide +kernel
theorem dX2_canPlanSource_60 : decode cX2_canPlanSource 60 = .ok (.iaload, 1) := by decide +kernel
theorem dX2_canPlanSource_61 : decode cX2_canPlanSource 61 = .ok (.ifCond .ge 5, 3) := by decide +kernel
theorem dX2_canPlanSource_64 : decode cX2_canPlanSource 64 = .ok (.iconst 0, 1) := by decide +kernel
theorem dX2_canPlanSource_65 : decode cX2_canPlanSource 65 = .ok (.ireturn, 1) := by decide +kernel
theorem dX2_canPlanSource_66 : decode cX2_canPlanSource 66 = .ok (.aload_n 0, 1) := by decide +kernel
theorem dX2_canPlanSource_67 : decode cX2_canPlanSource 67 = .ok (.getfield 24, 3) := by decide +kernel
theorem dX2_canPlanSource_70 : decode cX2_canPlanSource 70 = .ok (.iload 4, 2) := by decide +kernel
theorem dX2_canPlanSource_72 : decode cX2_canPlanSource 72 = .ok (.invokevirtual 144, 3) := by decide +kernel
theorem dX2_canPlanSource_75 : decode cX2_canPlanSource 75 = .ok (.ifCond .eq 23, 3) := by decide +kernel
theorem dX2_canPlanSource_78 : decode cX2_canPlanSource 78 = .ok (.aload_n 0, 1) := by decide +kernel
theorem dX2_canPlanSource_79 : decode cX2_canPlanSource 79 = .ok (.getfield 28, 3) := by decide +kernel
theorem dX2_canPlanSource_82 : decode cX2_canPlanSource 82 = .ok (.getfield 146, 3) := by decide +kernel
theorem dX2_canPlanSource_85 : decode cX2_canPlanSource 85 = .ok (.aload_n 3, 1) := by decide +kernel
theorem dX2_canPlanSource_86 : decode cX2_canPlanSource 86 = .ok (.getfield 150, 3) := by decide +kernel
theorem dX2_canPlanSource_89 : decode cX2_canPlanSource 89 = .ok (.aaload, 1) := by decide +kernel
theorem dX2_canPlanSource_90 : decode cX2_canPlanSource 90 = .ok (.iload_n 2, 1) := by decide +kernel
theorem dX2_canPlanSource_91 : decode cX2_canPlanSource 91 = .ok (.iconst 4, 1) := by decide +kernel
theorem dX2_canPlanSource_92 : decode cX2_canPlanSource 92 = .ok (.invokevirtual 107, 3) := by decide +kernel
theorem dX2_canPlanSource_95 : decode cX2_canPlanSource 95 = .ok (.ifCond .eq 7, 3) := by decide +kernel
theorem dX2_canPlanSource_98 : decode cX2_canPlanSource 98 = .ok (.iconst 1, 1) := by decide +kernel
theorem dX2_canPlanSource_99 : decode cX2_canPlanSource 99 = .ok (.goto 4, 3) := by decide +kernel
theorem dX2_canPlanSource_102 : decode cX2_canPlanSource 102 = .ok (.iconst 0, 1) := by decide +kernel
theorem dX2_canPlanSource_103 : decode cX2_canPlanSource 103 = .ok (.ireturn, 1) := by decide +kernel
theorem dX2_listActions_0 : decode cX2_listActions 0 = .ok (.aload_n 0, 1) := by decide +kernel
theorem dX2_listActions_1 : decode cX2_listActions 1 = .ok (.iconst (-1), 1) := by decide +kernel
theorem dX2_listActions_2 : decode cX2_listActions 2 = .ok (.putfield 153, 3) := by decide +kernel
theorem dX2_listActions_5 : decode cX2_listActions 5 = .ok (.aload_n 0, 1) := by decide +kernel
theorem dX2_listActions_6 : decode cX2_listActions 6 = .ok (.invokevirtual 156, 3) := by decide +kernel
theorem dX2_listActions_9 : decode cX2_listActions 9 = .ok (.ifCond .ne 5, 3) := by decide +kernel
theorem dX2_listActions_12 : decode cX2_listActions 12 = .ok (.iconst (-1), 1) := by decide +kernel
theorem dX2_listActions_13 : decode cX2_listActions 13 = .ok (.ireturn, 1) := by decide +kernel
theorem dX2_listActions_14 : decode cX2_listActions 14 = .ok (.aload_n 0, 1) := by decide +kernel
theorem dX2_listActions_15 : decode cX2_listActions 15 = .ok (.invokevirtual 159, 3) := by decide +kernel
theorem dX2_listActions_18 : decode cX2_listActions 18 = .ok (.aload_n 0, 1) := by decide +kernel
theorem dX2_listActions_19 : decode cX2_listActions 19 = .ok (.iconst 0, 1) := by decide +kernel
theorem dX2_listActions_20 : decode cX2_listActions 20 = .ok (.putfield 153, 3) := by decide +kernel
theorem dX2_listActions_23 : decode cX2_listActions 23 = .ok (.iconst 0, 1) := by decide +kernel
theorem dX2_listActions_24 : decode cX2_listActions 24 = .ok (.istore_n 1, 1) := by decide +kernel
theorem dX2_listActions_25 : decode cX2_listActions 25 = .ok (.iload_n 1, 1) := by decide +kernel
theorem dX2_listActions_26 : decode cX2_listActions 26 = .ok (.aload_n 0, 1) := by decide +kernel
theorem dX2_listActions_27 : decode cX2_listActions 27 = .ok (.getfield 28, 3) := by decide +kernel
theorem dX2_listActions_30 : decode cX2_listActions 30 = .ok (.invokevirtual 32, 3) := by decide +kernel
theorem dX2_listActions_33 : decode cX2_listActions 33 = .ok (.if_icmp .ge 14, 3) := by decide +kernel
theorem dX2_listActions_36 : decode cX2_listActions 36 = .ok (.aload_n 0, 1) := by decide +kernel
theorem dX2_listActions_37 : decode cX2_listActions 37 = .ok (.iload_n 1, 1) := by decide +kernel
theorem dX2_listActions_38 : decode cX2_listActions 38 = .ok (.invokevirtual 162, 3) := by decide +kernel
theorem dX2_listActions_41 : decode cX2_listActions 41 = .ok (.iinc 1 1, 3) := by decide +kernel
theorem dX2_listActions_44 : decode cX2_listActions 44 = .ok (.goto (-19), 3) := by decide +kernel
theorem dX2_listActions_47 : decode cX2_listActions 47 = .ok (.aload_n 0, 1) := by decide +kernel
theorem dX2_listActions_48 : decode cX2_listActions 48 = .ok (.getfield 28, 3) := by decide +kernel
theorem dX2_listActions_51 : decode cX2_listActions 51 = .ok (.invokevirtual 32, 3) := by decide +kernel
theorem dX2_listActions_54 : decode cX2_listActions 54 = .ok (.iconst 1, 1) := by decide +kernel
theorem dX2_listActions_55 : decode cX2_listActions 55 = .ok (.isub, 1) := by decide +kernel
theorem dX2_listActions_56 : decode cX2_listActions 56 = .ok (.istore_n 1, 1) := by decide +kernel
theorem dX2_listActions_57 : decode cX2_listActions 57 = .ok (.iload_n 1, 1) := by decide +kernel
theorem dX2_listActions_58 : decode cX2_listActions 58 = .ok (.ifCond .lt 14, 3) := by decide +kernel
theorem dX2_listActions_61 : decode cX2_listActions 61 = .ok (.aload_n 0, 1) := by decide +kernel
theorem dX2_listActions_62 : decode cX2_listActions 62 = .ok (.iload_n 1, 1) := by decide +kernel
theorem dX2_listActions_63 : decode cX2_listActions 63 = .ok (.invokevirtual 165, 3) := by decide +kernel
theorem dX2_listActions_66 : decode cX2_listActions 66 = .ok (.iinc 1 (-1), 3) := by decide +kernel
theorem dX2_listActions_69 : decode cX2_listActions 69 = .ok (.goto (-12), 3) := by decide +kernel
theorem dX2_listActions_72 : decode cX2_listActions 72 = .ok (.aload_n 0, 1) := by decide +kernel
theorem dX2_listActions_73 : decode cX2_listActions 73 = .ok (.getfield 153, 3) := by decide +kernel
theorem dX2_listActions_76 : decode cX2_listActions 76 = .ok (.ireturn, 1) := by decide +kernel
theorem dX2_addMaking_0 : decode cX2_addMaking 0 = .ok (.aload_n 0, 1) := by decide +kernel
theorem dX2_addMaking_1 : decode cX2_addMaking 1 = .ok (.getfield 18, 3) := by decide +kernel
theorem dX2_addMaking_4 : decode cX2_addMaking 4 = .ok (.iload_n 1, 1) := by decide +kernel
theorem dX2_addMaking_5 : decode cX2_addMaking 5 = .ok (.iaload, 1) := by decide +kernel
theorem dX2_addMaking_6 : decode cX2_addMaking 6 = .ok (.iconst 1, 1) := by decide +kernel
theorem dX2_addMaking_7 : decode cX2_addMaking 7 = .ok (.if_icmp .ne 9, 3) := by decide +kernel
theorem dX2_addMaking_10 : decode cX2_addMaking 10 = .ok (.aload_n 0, 1) := by decide +kernel
theorem dX2_addMaking_11 : decode cX2_addMaking 11 = .ok (.iconst 1, 1) := by decide +kernel
theorem dX2_addMaking_12 : decode cX2_addMaking 12 = .ok (.iload_n 1, 1) := by decide +kernel
theorem dX2_addMaking_13 : decode cX2_addMaking 13 = .ok (.invokevirtual 168, 3) := by decide +kernel
theorem dX2_addMaking_16 : decode cX2_addMaking 16 = .ok (.aload_n 0, 1) := by decide +kernel
theorem dX2_addMaking_17 : decode cX2_addMaking 17 = .ok (.getfield 18, 3) := by decide +kernel
theorem dX2_addMaking_20 : decode cX2_addMaking 20 = .ok (.iload_n 1, 1) := by decide +kernel
theorem dX2_addMaking_21 : decode cX2_addMaking 21 = .ok (.iaload, 1) := by decide +kernel
theorem dX2_addMaking_22 : decode cX2_addMaking 22 = .ok (.iconst 2, 1) := by decide +kernel
theorem dX2_addMaking_23 : decode cX2_addMaking 23 = .ok (.if_icmp .ne 9, 3) := by decide +kernel
theorem dX2_addMaking_26 : decode cX2_addMaking 26 = .ok (.aload_n 0, 1) := by decide +kernel
theorem dX2_addMaking_27 : decode cX2_addMaking 27 = .ok (.iconst 2, 1) := by decide +kernel
theorem dX2_addMaking_28 : decode cX2_addMaking 28 = .ok (.iload_n 1, 1) := by decide +kernel
theorem dX2_addMaking_29 : decode cX2_addMaking 29 = .ok (.invokevirtual 168, 3) := by decide +kernel
theorem dX2_addMaking_32 : decode cX2_addMaking 32 = .ok (.aload_n 0, 1) := by decide +kernel
theorem dX2_addMaking_33 : decode cX2_addMaking 33 = .ok (.getfield 18, 3) := by decide +kernel
theorem dX2_addMaking_36 : decode cX2_addMaking 36 = .ok (.iload_n 1, 1) := by decide +kernel
theorem dX2_addMaking_37 : decode cX2_addMaking 37 = .ok (.iaload, 1) := by decide +kernel
theorem dX2_addMaking_38 : decode cX2_addMaking 38 = .ok (.iconst 3, 1) := by decide +kernel
theorem dX2_addMaking_39 : decode cX2_addMaking 39 = .ok (.if_icmp .ne 29, 3) := by decide +kernel
theorem dX2_addMaking_42 : decode cX2_addMaking 42 = .ok (.aload_n 0, 1) := by decide +kernel
theorem dX2_addMaking_43 : decode cX2_addMaking 43 = .ok (.getfield 28, 3) := by decide +kernel
theorem dX2_addMaking_46 : decode cX2_addMaking 46 = .ok (.iload_n 1, 1) := by decide +kernel
theorem dX2_addMaking_47 : decode cX2_addMaking 47 = .ok (.invokevirtual 85, 3) := by decide +kernel
theorem dX2_addMaking_50 : decode cX2_addMaking 50 = .ok (.getfield 172, 3) := by decide +kernel
theorem dX2_addMaking_53 : decode cX2_addMaking 53 = .ok (.ifCond .ne 9, 3) := by decide +kernel
theorem dX2_addMaking_56 : decode cX2_addMaking 56 = .ok (.aload_n 0, 1) := by decide +kernel
theorem dX2_addMaking_57 : decode cX2_addMaking 57 = .ok (.iconst 3, 1) := by decide +kernel
theorem dX2_addMaking_58 : decode cX2_addMaking 58 = .ok (.iload_n 1, 1) := by decide +kernel
theorem dX2_addMaking_59 : decode cX2_addMaking 59 = .ok (.invokevirtual 168, 3) := by decide +kernel
theorem dX2_addMaking_62 : decode cX2_addMaking 62 = .ok (.aload_n 0, 1) := by decide +kernel
theorem dX2_addMaking_63 : decode cX2_addMaking 63 = .ok (.iconst 1, 1) := by decide +kernel
theorem dX2_addMaking_64 : decode cX2_addMaking 64 = .ok (.iload_n 1, 1) := by decide +kernel
theorem dX2_addMaking_65 : decode cX2_addMaking 65 = .ok (.invokevirtual 168, 3) := by decide +kernel
theorem dX2_addMaking_68 : decode cX2_addMaking 68 = .ok (.return_, 1) := by decide +kernel
theorem dX2_addEnding_0 : decode cX2_addEnding 0 = .ok (.aload_n 0, 1) := by decide +kernel
theorem dX2_addEnding_1 : decode cX2_addEnding 1 = .ok (.getfield 18, 3) := by decide +kernel
theorem dX2_addEnding_4 : decode cX2_addEnding 4 = .ok (.iload_n 1, 1) := by decide +kernel
theorem dX2_addEnding_5 : decode cX2_addEnding 5 = .ok (.iaload, 1) := by decide +kernel
theorem dX2_addEnding_6 : decode cX2_addEnding 6 = .ok (.iconst 4, 1) := by decide +kernel
theorem dX2_addEnding_7 : decode cX2_addEnding 7 = .ok (.if_icmp .ne 9, 3) := by decide +kernel
theorem dX2_addEnding_10 : decode cX2_addEnding 10 = .ok (.aload_n 0, 1) := by decide +kernel
theorem dX2_addEnding_11 : decode cX2_addEnding 11 = .ok (.iconst 3, 1) := by decide +kernel
theorem dX2_addEnding_12 : decode cX2_addEnding 12 = .ok (.iload_n 1, 1) := by decide +kernel
theorem dX2_addEnding_13 : decode cX2_addEnding 13 = .ok (.invokevirtual 168, 3) := by decide +kernel
theorem dX2_addEnding_16 : decode cX2_addEnding 16 = .ok (.aload_n 0, 1) := by decide +kernel
theorem dX2_addEnding_17 : decode cX2_addEnding 17 = .ok (.getfield 18, 3) := by decide +kernel
theorem dX2_addEnding_20 : decode cX2_addEnding 20 = .ok (.iload_n 1, 1) := by decide +kernel
theorem dX2_addEnding_21 : decode cX2_addEnding 21 = .ok (.iaload, 1) := by decide +kernel
theorem dX2_addEnding_22 : decode cX2_addEnding 22 = .ok (.iconst 3, 1) := by decide +kernel
theorem dX2_addEnding_23 : decode cX2_addEnding 23 = .ok (.if_icmp .ne 23, 3) := by decide +kernel
theorem dX2_addEnding_26 : decode cX2_addEnding 26 = .ok (.aload_n 0, 1) := by decide +kernel
theorem dX2_addEnding_27 : decode cX2_addEnding 27 = .ok (.getfield 28, 3) := by decide +kernel
theorem dX2_addEnding_30 : decode cX2_addEnding 30 = .ok (.iload_n 1, 1) := by decide +kernel
theorem dX2_addEnding_31 : decode cX2_addEnding 31 = .ok (.invokevirtual 85, 3) := by decide +kernel
theorem dX2_addEnding_34 : decode cX2_addEnding 34 = .ok (.getfield 172, 3) := by decide +kernel
theorem dX2_addEnding_37 : decode cX2_addEnding 37 = .ok (.ifCond .eq 9, 3) := by decide +kernel
theorem dX2_addEnding_40 : decode cX2_addEnding 40 = .ok (.aload_n 0, 1) := by decide +kernel
theorem dX2_addEnding_41 : decode cX2_addEnding 41 = .ok (.iconst 4, 1) := by decide +kernel
theorem dX2_addEnding_42 : decode cX2_addEnding 42 = .ok (.iload_n 1, 1) := by decide +kernel
theorem dX2_addEnding_43 : decode cX2_addEnding 43 = .ok (.invokevirtual 168, 3) := by decide +kernel
theorem dX2_addEnding_46 : decode cX2_addEnding 46 = .ok (.return_, 1) := by decide +kernel
theorem dX2_addAction_0 : decode cX2_addAction 0 = .ok (.aload_n 0, 1) := by decide +kernel
theorem dX2_addAction_1 : decode cX2_addAction 1 = .ok (.getfield 153, 3) := by decide +kernel
theorem dX2_addAction_4 : decode cX2_addAction 4 = .ok (.sipush 128, 3) := by decide +kernel
theorem dX2_addAction_7 : decode cX2_addAction 7 = .ok (.if_icmp .ge 28, 3) := by decide +kernel
theorem dX2_addAction_10 : decode cX2_addAction 10 = .ok (.aload_n 0, 1) := by decide +kernel
theorem dX2_addAction_11 : decode cX2_addAction 11 = .ok (.getfield 15, 3) := by decide +kernel
theorem dX2_addAction_14 : decode cX2_addAction 14 = .ok (.aload_n 0, 1) := by decide +kernel
theorem dX2_addAction_15 : decode cX2_addAction 15 = .ok (.getfield 153, 3) := by decide +kernel
theorem dX2_addAction_18 : decode cX2_addAction 18 = .ok (.bipush 100, 2) := by decide +kernel
theorem dX2_addAction_20 : decode cX2_addAction 20 = .ok (.iload_n 1, 1) := by decide +kernel
theorem dX2_addAction_21 : decode cX2_addAction 21 = .ok (.imul, 1) := by decide +kernel
theorem dX2_addAction_22 : decode cX2_addAction 22 = .ok (.iload_n 2, 1) := by decide +kernel
theorem dX2_addAction_23 : decode cX2_addAction 23 = .ok (.iadd, 1) := by decide +kernel
theorem dX2_addAction_24 : decode cX2_addAction 24 = .ok (.iastore, 1) := by decide +kernel
theorem dX2_addAction_25 : decode cX2_addAction 25 = .ok (.aload_n 0, 1) := by decide +kernel
theorem dX2_addAction_26 : decode cX2_addAction 26 = .ok (.dup, 1) := by decide +kernel
theorem dX2_addAction_27 : decode cX2_addAction 27 = .ok (.getfield 153, 3) := by decide +kernel
theorem dX2_addAction_30 : decode cX2_addAction 30 = .ok (.iconst 1, 1) := by decide +kernel
theorem dX2_addAction_31 : decode cX2_addAction 31 = .ok (.iadd, 1) := by decide +kernel
theorem dX2_addAction_32 : decode cX2_addAction 32 = .ok (.putfield 153, 3) := by decide +kernel
theorem dX2_addAction_35 : decode cX2_addAction 35 = .ok (.return_, 1) := by decide +kernel
theorem dX2_hasAllOf_0 : decode cX2_hasAllOf 0 = .ok (.iconst 0, 1) := by decide +kernel
theorem dX2_hasAllOf_1 : decode cX2_hasAllOf 1 = .ok (.istore_n 2, 1) := by decide +kernel
theorem dX2_hasAllOf_2 : decode cX2_hasAllOf 2 = .ok (.iload_n 2, 1) := by decide +kernel
theorem dX2_hasAllOf_3 : decode cX2_hasAllOf 3 = .ok (.aload_n 1, 1) := by decide +kernel
theorem dX2_hasAllOf_4 : decode cX2_hasAllOf 4 = .ok (.arraylength, 1) := by decide +kernel
theorem dX2_hasAllOf_5 : decode cX2_hasAllOf 5 = .ok (.if_icmp .ge 21, 3) := by decide +kernel
theorem dX2_hasAllOf_8 : decode cX2_hasAllOf 8 = .ok (.aload_n 0, 1) := by decide +kernel
theorem dX2_hasAllOf_9 : decode cX2_hasAllOf 9 = .ok (.aload_n 1, 1) := by decide +kernel
theorem dX2_hasAllOf_10 : decode cX2_hasAllOf 10 = .ok (.iload_n 2, 1) := by decide +kernel
theorem dX2_hasAllOf_11 : decode cX2_hasAllOf 11 = .ok (.iaload, 1) := by decide +kernel
theorem dX2_hasAllOf_12 : decode cX2_hasAllOf 12 = .ok (.invokevirtual 175, 3) := by decide +kernel
theorem dX2_hasAllOf_15 : decode cX2_hasAllOf 15 = .ok (.ifCond .ne 5, 3) := by decide +kernel
theorem dX2_hasAllOf_18 : decode cX2_hasAllOf 18 = .ok (.iconst 0, 1) := by decide +kernel
theorem dX2_hasAllOf_19 : decode cX2_hasAllOf 19 = .ok (.ireturn, 1) := by decide +kernel
theorem dX2_hasAllOf_20 : decode cX2_hasAllOf 20 = .ok (.iinc 2 1, 3) := by decide +kernel
theorem dX2_hasAllOf_23 : decode cX2_hasAllOf 23 = .ok (.goto (-21), 3) := by decide +kernel
theorem dX2_hasAllOf_26 : decode cX2_hasAllOf 26 = .ok (.aload_n 0, 1) := by decide +kernel
theorem dX2_hasAllOf_27 : decode cX2_hasAllOf 27 = .ok (.getfield 153, 3) := by decide +kernel
theorem dX2_hasAllOf_30 : decode cX2_hasAllOf 30 = .ok (.iconst (-1), 1) := by decide +kernel
theorem dX2_hasAllOf_31 : decode cX2_hasAllOf 31 = .ok (.if_icmp .eq 7, 3) := by decide +kernel
theorem dX2_hasAllOf_34 : decode cX2_hasAllOf 34 = .ok (.iconst 1, 1) := by decide +kernel
theorem dX2_hasAllOf_35 : decode cX2_hasAllOf 35 = .ok (.goto 4, 3) := by decide +kernel
theorem dX2_hasAllOf_38 : decode cX2_hasAllOf 38 = .ok (.iconst 0, 1) := by decide +kernel
theorem dX2_hasAllOf_39 : decode cX2_hasAllOf 39 = .ok (.ireturn, 1) := by decide +kernel
theorem dX2_hasAction_0 : decode cX2_hasAction 0 = .ok (.iconst 0, 1) := by decide +kernel
theorem dX2_hasAction_1 : decode cX2_hasAction 1 = .ok (.istore_n 2, 1) := by decide +kernel
theorem dX2_hasAction_2 : decode cX2_hasAction 2 = .ok (.iload_n 2, 1) := by decide +kernel
theorem dX2_hasAction_3 : decode cX2_hasAction 3 = .ok (.aload_n 0, 1) := by decide +kernel
theorem dX2_hasAction_4 : decode cX2_hasAction 4 = .ok (.getfield 153, 3) := by decide +kernel
theorem dX2_hasAction_7 : decode cX2_hasAction 7 = .ok (.if_icmp .ge 21, 3) := by decide +kernel
theorem dX2_hasAction_10 : decode cX2_hasAction 10 = .ok (.aload_n 0, 1) := by decide +kernel
theorem dX2_hasAction_11 : decode cX2_hasAction 11 = .ok (.getfield 15, 3) := by decide +kernel
theorem dX2_hasAction_14 : decode cX2_hasAction 14 = .ok (.iload_n 2, 1) := by decide +kernel
theorem dX2_hasAction_15 : decode cX2_hasAction 15 = .ok (.iaload, 1) := by decide +kernel
theorem dX2_hasAction_16 : decode cX2_hasAction 16 = .ok (.iload_n 1, 1) := by decide +kernel
theorem dX2_hasAction_17 : decode cX2_hasAction 17 = .ok (.if_icmp .ne 5, 3) := by decide +kernel
theorem dX2_hasAction_20 : decode cX2_hasAction 20 = .ok (.iconst 1, 1) := by decide +kernel
theorem dX2_hasAction_21 : decode cX2_hasAction 21 = .ok (.ireturn, 1) := by decide +kernel
theorem dX2_hasAction_22 : decode cX2_hasAction 22 = .ok (.iinc 2 1, 3) := by decide +kernel
theorem dX2_hasAction_25 : decode cX2_hasAction 25 = .ok (.goto (-23), 3) := by decide +kernel
theorem dX2_hasAction_28 : decode cX2_hasAction 28 = .ok (.iconst 0, 1) := by decide +kernel
theorem dX2_hasAction_29 : decode cX2_hasAction 29 = .ok (.ireturn, 1) := by decide +kernel
theorem dX2_countDiffering_0 : decode cX2_countDiffering 0 = .ok (.aload_n 0, 1) := by decide +kernel
theorem dX2_countDiffering_1 : decode cX2_countDiffering 1 = .ok (.invokevirtual 156, 3) := by decide +kernel
theorem dX2_countDiffering_4 : decode cX2_countDiffering 4 = .ok (.ifCond .ne 5, 3) := by decide +kernel
theorem dX2_countDiffering_7 : decode cX2_countDiffering 7 = .ok (.iconst (-1), 1) := by decide +kernel
theorem dX2_countDiffering_8 : decode cX2_countDiffering 8 = .ok (.ireturn, 1) := by decide +kernel
theorem dX2_countDiffering_9 : decode cX2_countDiffering 9 = .ok (.iconst 0, 1) := by decide +kernel
theorem dX2_countDiffering_10 : decode cX2_countDiffering 10 = .ok (.istore_n 1, 1) := by decide +kernel
theorem dX2_countDiffering_11 : decode cX2_countDiffering 11 = .ok (.iconst 0, 1) := by decide +kernel
theorem dX2_countDiffering_12 : decode cX2_countDiffering 12 = .ok (.istore_n 2, 1) := by decide +kernel
theorem dX2_countDiffering_13 : decode cX2_countDiffering 13 = .ok (.iload_n 2, 1) := by decide +kernel
theorem dX2_countDiffering_14 : decode cX2_countDiffering 14 = .ok (.aload_n 0, 1) := by decide +kernel
theorem dX2_countDiffering_15 : decode cX2_countDiffering 15 = .ok (.getfield 28, 3) := by decide +kernel
theorem dX2_countDiffering_18 : decode cX2_countDiffering 18 = .ok (.invokevirtual 32, 3) := by decide +kernel
theorem dX2_countDiffering_21 : decode cX2_countDiffering 21 = .ok (.if_icmp .ge 56, 3) := by decide +kernel
theorem dX2_countDiffering_24 : decode cX2_countDiffering 24 = .ok (.aload_n 0, 1) := by decide +kernel
theorem dX2_countDiffering_25 : decode cX2_countDiffering 25 = .ok (.getfield 28, 3) := by decide +kernel
theorem dX2_countDiffering_28 : decode cX2_countDiffering 28 = .ok (.getfield 65, 3) := by decide +kernel
theorem dX2_countDiffering_31 : decode cX2_countDiffering 31 = .ok (.iload_n 2, 1) := by decide +kernel
theorem dX2_countDiffering_32 : decode cX2_countDiffering 32 = .ok (.aaload, 1) := by decide +kernel
theorem dX2_countDiffering_33 : decode cX2_countDiffering 33 = .ok (.ifnull 7, 3) := by decide +kernel
theorem dX2_countDiffering_36 : decode cX2_countDiffering 36 = .ok (.iconst 1, 1) := by decide +kernel
theorem dX2_countDiffering_37 : decode cX2_countDiffering 37 = .ok (.goto 4, 3) := by decide +kernel
theorem dX2_countDiffering_40 : decode cX2_countDiffering 40 = .ok (.iconst 0, 1) := by decide +kernel
theorem dX2_countDiffering_41 : decode cX2_countDiffering 41 = .ok (.istore_n 3, 1) := by decide +kernel
theorem dX2_countDiffering_42 : decode cX2_countDiffering 42 = .ok (.aload_n 0, 1) := by decide +kernel
theorem dX2_countDiffering_43 : decode cX2_countDiffering 43 = .ok (.getfield 28, 3) := by decide +kernel
theorem dX2_countDiffering_46 : decode cX2_countDiffering 46 = .ok (.iload_n 2, 1) := by decide +kernel
theorem dX2_countDiffering_47 : decode cX2_countDiffering 47 = .ok (.invokevirtual 95, 3) := by decide +kernel
theorem dX2_countDiffering_50 : decode cX2_countDiffering 50 = .ok (.ifCond .eq 14, 3) := by decide +kernel
theorem dX2_countDiffering_53 : decode cX2_countDiffering 53 = .ok (.aload_n 0, 1) := by decide +kernel
theorem dX2_countDiffering_54 : decode cX2_countDiffering 54 = .ok (.iload_n 2, 1) := by decide +kernel
theorem dX2_countDiffering_55 : decode cX2_countDiffering 55 = .ok (.invokevirtual 178, 3) := by decide +kernel
theorem dX2_countDiffering_58 : decode cX2_countDiffering 58 = .ok (.ifCond .ne 13, 3) := by decide +kernel
theorem dX2_countDiffering_61 : decode cX2_countDiffering 61 = .ok (.goto 7, 3) := by decide +kernel
theorem dX2_countDiffering_64 : decode cX2_countDiffering 64 = .ok (.iload_n 3, 1) := by decide +kernel
theorem dX2_countDiffering_65 : decode cX2_countDiffering 65 = .ok (.ifCond .eq 6, 3) := by decide +kernel
theorem dX2_countDiffering_68 : decode cX2_countDiffering 68 = .ok (.iinc 1 1, 3) := by decide +kernel
theorem dX2_countDiffering_71 : decode cX2_countDiffering 71 = .ok (.iinc 2 1, 3) := by decide +kernel
theorem dX2_countDiffering_74 : decode cX2_countDiffering 74 = .ok (.goto (-61), 3) := by decide +kernel
theorem dX2_countDiffering_77 : decode cX2_countDiffering 77 = .ok (.iload_n 1, 1) := by decide +kernel
theorem dX2_countDiffering_78 : decode cX2_countDiffering 78 = .ok (.ireturn, 1) := by decide +kernel
theorem dX2_isMadeAlike_0 : decode cX2_isMadeAlike 0 = .ok (.aload_n 0, 1) := by decide +kernel
theorem dX2_isMadeAlike_1 : decode cX2_isMadeAlike 1 = .ok (.getfield 28, 3) := by decide +kernel
theorem dX2_isMadeAlike_4 : decode cX2_isMadeAlike 4 = .ok (.getfield 65, 3) := by decide +kernel
theorem dX2_isMadeAlike_7 : decode cX2_isMadeAlike 7 = .ok (.iload_n 1, 1) := by decide +kernel
theorem dX2_isMadeAlike_8 : decode cX2_isMadeAlike 8 = .ok (.aaload, 1) := by decide +kernel
theorem dX2_isMadeAlike_9 : decode cX2_isMadeAlike 9 = .ok (.astore_n 2, 1) := by decide +kernel
theorem dX2_isMadeAlike_10 : decode cX2_isMadeAlike 10 = .ok (.aload_n 2, 1) := by decide +kernel
theorem dX2_isMadeAlike_11 : decode cX2_isMadeAlike 11 = .ok (.ifnull 10, 3) := by decide +kernel
theorem dX2_isMadeAlike_14 : decode cX2_isMadeAlike 14 = .ok (.aload_n 2, 1) := by decide +kernel
theorem dX2_isMadeAlike_15 : decode cX2_isMadeAlike 15 = .ok (.getfield 99, 3) := by decide +kernel
theorem dX2_isMadeAlike_18 : decode cX2_isMadeAlike 18 = .ok (.ifCond .eq 7, 3) := by decide +kernel
theorem dX2_isMadeAlike_21 : decode cX2_isMadeAlike 21 = .ok (.iconst 1, 1) := by decide +kernel
theorem dX2_isMadeAlike_22 : decode cX2_isMadeAlike 22 = .ok (.goto 4, 3) := by decide +kernel
theorem dX2_isMadeAlike_25 : decode cX2_isMadeAlike 25 = .ok (.iconst 0, 1) := by decide +kernel
theorem dX2_isMadeAlike_26 : decode cX2_isMadeAlike 26 = .ok (.istore_n 3, 1) := by decide +kernel
theorem dX2_isMadeAlike_27 : decode cX2_isMadeAlike 27 = .ok (.iload_n 3, 1) := by decide +kernel
theorem dX2_isMadeAlike_28 : decode cX2_isMadeAlike 28 = .ok (.ifCond .ne 7, 3) := by decide +kernel
theorem dX2_isMadeAlike_31 : decode cX2_isMadeAlike 31 = .ok (.iconst 1, 1) := by decide +kernel
theorem dX2_isMadeAlike_32 : decode cX2_isMadeAlike 32 = .ok (.goto 4, 3) := by decide +kernel
theorem dX2_isMadeAlike_35 : decode cX2_isMadeAlike 35 = .ok (.iconst 0, 1) := by decide +kernel
theorem dX2_isMadeAlike_36 : decode cX2_isMadeAlike 36 = .ok (.istore 4, 2) := by decide +kernel
theorem dX2_isMadeAlike_38 : decode cX2_isMadeAlike 38 = .ok (.iconst 0, 1) := by decide +kernel
theorem dX2_isMadeAlike_39 : decode cX2_isMadeAlike 39 = .ok (.istore 5, 2) := by decide +kernel
theorem dX2_isMadeAlike_41 : decode cX2_isMadeAlike 41 = .ok (.iload 5, 2) := by decide +kernel
theorem dX2_isMadeAlike_43 : decode cX2_isMadeAlike 43 = .ok (.iconst 3, 1) := by decide +kernel
theorem dX2_isMadeAlike_44 : decode cX2_isMadeAlike 44 = .ok (.if_icmp .ge 63, 3) := by decide +kernel
theorem dX2_isMadeAlike_47 : decode cX2_isMadeAlike 47 = .ok (.aload_n 0, 1) := by decide +kernel
theorem dX2_isMadeAlike_48 : decode cX2_isMadeAlike 48 = .ok (.iload_n 1, 1) := by decide +kernel
theorem dX2_isMadeAlike_49 : decode cX2_isMadeAlike 49 = .ok (.iload 5, 2) := by decide +kernel
theorem dX2_isMadeAlike_51 : decode cX2_isMadeAlike 51 = .ok (.invokevirtual 181, 3) := by decide +kernel
theorem dX2_isMadeAlike_54 : decode cX2_isMadeAlike 54 = .ok (.istore 6, 2) := by decide +kernel
theorem dX2_isMadeAlike_56 : decode cX2_isMadeAlike 56 = .ok (.aload_n 0, 1) := by decide +kernel
theorem dX2_isMadeAlike_57 : decode cX2_isMadeAlike 57 = .ok (.getfield 21, 3) := by decide +kernel
theorem dX2_isMadeAlike_60 : decode cX2_isMadeAlike 60 = .ok (.iload_n 1, 1) := by decide +kernel
theorem dX2_isMadeAlike_61 : decode cX2_isMadeAlike 61 = .ok (.iconst 3, 1) := by decide +kernel
theorem dX2_isMadeAlike_62 : decode cX2_isMadeAlike 62 = .ok (.imul, 1) := by decide +kernel
theorem dX2_isMadeAlike_63 : decode cX2_isMadeAlike 63 = .ok (.iload 5, 2) := by decide +kernel
theorem dX2_isMadeAlike_65 : decode cX2_isMadeAlike 65 = .ok (.iadd, 1) := by decide +kernel
theorem dX2_isMadeAlike_66 : decode cX2_isMadeAlike 66 = .ok (.iload 6, 2) := by decide +kernel
theorem dX2_isMadeAlike_68 : decode cX2_isMadeAlike 68 = .ok (.iastore, 1) := by decide +kernel
theorem dX2_isMadeAlike_69 : decode cX2_isMadeAlike 69 = .ok (.aload_n 0, 1) := by decide +kernel
theorem dX2_isMadeAlike_70 : decode cX2_isMadeAlike 70 = .ok (.iload_n 1, 1) := by decide +kernel
theorem dX2_isMadeAlike_71 : decode cX2_isMadeAlike 71 = .ok (.iload 5, 2) := by decide +kernel
theorem dX2_isMadeAlike_73 : decode cX2_isMadeAlike 73 = .ok (.iload 6, 2) := by decide +kernel
theorem dX2_isMadeAlike_75 : decode cX2_isMadeAlike 75 = .ok (.invokevirtual 103, 3) := by decide +kernel
theorem dX2_isMadeAlike_78 : decode cX2_isMadeAlike 78 = .ok (.ifCond .eq 23, 3) := by decide +kernel
theorem dX2_isMadeAlike_81 : decode cX2_isMadeAlike 81 = .ok (.iconst 0, 1) := by decide +kernel
theorem dX2_isMadeAlike_82 : decode cX2_isMadeAlike 82 = .ok (.istore 4, 2) := by decide +kernel
theorem dX2_isMadeAlike_84 : decode cX2_isMadeAlike 84 = .ok (.iload_n 3, 1) := by decide +kernel
theorem dX2_isMadeAlike_85 : decode cX2_isMadeAlike 85 = .ok (.aload_n 0, 1) := by decide +kernel
theorem dX2_isMadeAlike_86 : decode cX2_isMadeAlike 86 = .ok (.getfield 28, 3) := by decide +kernel
theorem dX2_isMadeAlike_89 : decode cX2_isMadeAlike 89 = .ok (.iload_n 1, 1) := by decide +kernel
theorem dX2_isMadeAlike_90 : decode cX2_isMadeAlike 90 = .ok (.invokevirtual 85, 3) := by decide +kernel
theorem dX2_isMadeAlike_93 : decode cX2_isMadeAlike 93 = .ok (.iload 5, 2) := by decide +kernel
theorem dX2_isMadeAlike_95 : decode cX2_isMadeAlike 95 = .ok (.iconst 1, 1) := by decide +kernel
theorem dX2_isMadeAlike_96 : decode cX2_isMadeAlike 96 = .ok (.invokevirtual 107, 3) := by decide +kernel
theorem dX2_isMadeAlike_99 : decode cX2_isMadeAlike 99 = .ok (.ior, 1) := by decide +kernel
theorem dX2_isMadeAlike_100 : decode cX2_isMadeAlike 100 = .ok (.istore_n 3, 1) := by decide +kernel
theorem dX2_isMadeAlike_101 : decode cX2_isMadeAlike 101 = .ok (.iinc 5 1, 3) := by decide +kernel
theorem dX2_isMadeAlike_104 : decode cX2_isMadeAlike 104 = .ok (.goto (-63), 3) := by decide +kernel
theorem dX2_isMadeAlike_107 : decode cX2_isMadeAlike 107 = .ok (.iload_n 3, 1) := by decide +kernel
theorem dX2_isMadeAlike_108 : decode cX2_isMadeAlike 108 = .ok (.ifCond .eq 8, 3) := by decide +kernel
theorem dX2_isMadeAlike_111 : decode cX2_isMadeAlike 111 = .ok (.aload_n 0, 1) := by decide +kernel
theorem dX2_isMadeAlike_112 : decode cX2_isMadeAlike 112 = .ok (.iload_n 1, 1) := by decide +kernel
theorem dX2_isMadeAlike_113 : decode cX2_isMadeAlike 113 = .ok (.invokevirtual 184, 3) := by decide +kernel
theorem dX2_isMadeAlike_116 : decode cX2_isMadeAlike 116 = .ok (.iload 4, 2) := by decide +kernel
theorem dX2_isMadeAlike_118 : decode cX2_isMadeAlike 118 = .ok (.ireturn, 1) := by decide +kernel
theorem dX2_valueBeside_0 : decode cX2_valueBeside 0 = .ok (.aload_n 0, 1) := by decide +kernel
theorem dX2_valueBeside_1 : decode cX2_valueBeside 1 = .ok (.getfield 28, 3) := by decide +kernel
theorem dX2_valueBeside_4 : decode cX2_valueBeside 4 = .ok (.iload_n 1, 1) := by decide +kernel
theorem dX2_valueBeside_5 : decode cX2_valueBeside 5 = .ok (.invokevirtual 85, 3) := by decide +kernel
theorem dX2_valueBeside_8 : decode cX2_valueBeside 8 = .ok (.iload_n 2, 1) := by decide +kernel
theorem dX2_valueBeside_9 : decode cX2_valueBeside 9 = .ok (.iconst 2, 1) := by decide +kernel
theorem dX2_valueBeside_10 : decode cX2_valueBeside 10 = .ok (.invokevirtual 107, 3) := by decide +kernel
theorem dX2_valueBeside_13 : decode cX2_valueBeside 13 = .ok (.ifCond .eq 28, 3) := by decide +kernel
theorem dX2_valueBeside_16 : decode cX2_valueBeside 16 = .ok (.aload_n 0, 1) := by decide +kernel
theorem dX2_valueBeside_17 : decode cX2_valueBeside 17 = .ok (.getfield 28, 3) := by decide +kernel
theorem dX2_valueBeside_20 : decode cX2_valueBeside 20 = .ok (.getfield 65, 3) := by decide +kernel
theorem dX2_valueBeside_23 : decode cX2_valueBeside 23 = .ok (.iload_n 1, 1) := by decide +kernel
theorem dX2_valueBeside_24 : decode cX2_valueBeside 24 = .ok (.aaload, 1) := by decide +kernel
theorem dX2_valueBeside_25 : decode cX2_valueBeside 25 = .ok (.astore_n 3, 1) := by decide +kernel
theorem dX2_valueBeside_26 : decode cX2_valueBeside 26 = .ok (.aload_n 3, 1) := by decide +kernel
theorem dX2_valueBeside_27 : decode cX2_valueBeside 27 = .ok (.ifnonnull 7, 3) := by decide +kernel
theorem dX2_valueBeside_30 : decode cX2_valueBeside 30 = .ok (.iconst (-1), 1) := by decide +kernel
theorem dX2_valueBeside_31 : decode cX2_valueBeside 31 = .ok (.goto 9, 3) := by decide +kernel
theorem dX2_valueBeside_34 : decode cX2_valueBeside 34 = .ok (.aload_n 3, 1) := by decide +kernel
theorem dX2_valueBeside_35 : decode cX2_valueBeside 35 = .ok (.getfield 69, 3) := by decide +kernel
theorem dX2_valueBeside_38 : decode cX2_valueBeside 38 = .ok (.iload_n 2, 1) := by decide +kernel
theorem dX2_valueBeside_39 : decode cX2_valueBeside 39 = .ok (.iaload, 1) := by decide +kernel
theorem dX2_valueBeside_40 : decode cX2_valueBeside 40 = .ok (.ireturn, 1) := by decide +kernel
theorem dX2_valueBeside_41 : decode cX2_valueBeside 41 = .ok (.aload_n 0, 1) := by decide +kernel
theorem dX2_valueBeside_42 : decode cX2_valueBeside 42 = .ok (.getfield 28, 3) := by decide +kernel
theorem dX2_valueBeside_45 : decode cX2_valueBeside 45 = .ok (.iload_n 1, 1) := by decide +kernel
theorem dX2_valueBeside_46 : decode cX2_valueBeside 46 = .ok (.invokevirtual 50, 3) := by decide +kernel
theorem dX2_valueBeside_49 : decode cX2_valueBeside 49 = .ok (.getfield 54, 3) := by decide +kernel
theorem dX2_valueBeside_52 : decode cX2_valueBeside 52 = .ok (.iload_n 2, 1) := by decide +kernel
theorem dX2_valueBeside_53 : decode cX2_valueBeside 53 = .ok (.iaload, 1) := by decide +kernel
theorem dX2_valueBeside_54 : decode cX2_valueBeside 54 = .ok (.istore_n 3, 1) := by decide +kernel
theorem dX2_valueBeside_55 : decode cX2_valueBeside 55 = .ok (.iload_n 3, 1) := by decide +kernel
theorem dX2_valueBeside_56 : decode cX2_valueBeside 56 = .ok (.iconst (-1), 1) := by decide +kernel
theorem dX2_valueBeside_57 : decode cX2_valueBeside 57 = .ok (.if_icmp .ne 5, 3) := by decide +kernel
theorem dX2_valueBeside_60 : decode cX2_valueBeside 60 = .ok (.iconst 0, 1) := by decide +kernel
theorem dX2_valueBeside_61 : decode cX2_valueBeside 61 = .ok (.ireturn, 1) := by decide +kernel
theorem dX2_valueBeside_62 : decode cX2_valueBeside 62 = .ok (.iload_n 3, 1) := by decide +kernel
theorem dX2_valueBeside_63 : decode cX2_valueBeside 63 = .ok (.bipush 10, 2) := by decide +kernel
theorem dX2_valueBeside_65 : decode cX2_valueBeside 65 = .ok (.if_icmp .ge 10, 3) := by decide +kernel
theorem dX2_valueBeside_68 : decode cX2_valueBeside 68 = .ok (.aload_n 0, 1) := by decide +kernel
theorem dX2_valueBeside_69 : decode cX2_valueBeside 69 = .ok (.iload_n 1, 1) := by decide +kernel
theorem dX2_valueBeside_70 : decode cX2_valueBeside 70 = .ok (.iload_n 3, 1) := by decide +kernel
theorem dX2_valueBeside_71 : decode cX2_valueBeside 71 = .ok (.invokevirtual 59, 3) := by decide +kernel
theorem dX2_valueBeside_74 : decode cX2_valueBeside 74 = .ok (.ireturn, 1) := by decide +kernel
theorem dX2_valueBeside_75 : decode cX2_valueBeside 75 = .ok (.bipush 16, 2) := by decide +kernel
theorem dX2_valueBeside_77 : decode cX2_valueBeside 77 = .ok (.iload_n 3, 1) := by decide +kernel
theorem dX2_valueBeside_78 : decode cX2_valueBeside 78 = .ok (.invokestatic 62, 3) := by decide +kernel
theorem dX2_valueBeside_81 : decode cX2_valueBeside 81 = .ok (.imul, 1) := by decide +kernel
theorem dX2_valueBeside_82 : decode cX2_valueBeside 82 = .ok (.iload_n 1, 1) := by decide +kernel
theorem dX2_valueBeside_83 : decode cX2_valueBeside 83 = .ok (.bipush 16, 2) := by decide +kernel
theorem dX2_valueBeside_85 : decode cX2_valueBeside 85 = .ok (.irem, 1) := by decide +kernel
theorem dX2_valueBeside_86 : decode cX2_valueBeside 86 = .ok (.iadd, 1) := by decide +kernel
theorem dX2_valueBeside_87 : decode cX2_valueBeside 87 = .ok (.istore 4, 2) := by decide +kernel
theorem dX2_valueBeside_89 : decode cX2_valueBeside 89 = .ok (.aload_n 0, 1) := by decide +kernel
theorem dX2_valueBeside_90 : decode cX2_valueBeside 90 = .ok (.getfield 21, 3) := by decide +kernel
theorem dX2_valueBeside_93 : decode cX2_valueBeside 93 = .ok (.iload 4, 2) := by decide +kernel
theorem dX2_valueBeside_95 : decode cX2_valueBeside 95 = .ok (.iconst 3, 1) := by decide +kernel
theorem dX2_valueBeside_96 : decode cX2_valueBeside 96 = .ok (.imul, 1) := by decide +kernel
theorem dX2_valueBeside_97 : decode cX2_valueBeside 97 = .ok (.iload_n 3, 1) := by decide +kernel
theorem dX2_valueBeside_98 : decode cX2_valueBeside 98 = .ok (.invokestatic 73, 3) := by decide +kernel
theorem dX2_valueBeside_101 : decode cX2_valueBeside 101 = .ok (.iadd, 1) := by decide +kernel
theorem dX2_valueBeside_102 : decode cX2_valueBeside 102 = .ok (.iaload, 1) := by decide +kernel
theorem dX2_valueBeside_103 : decode cX2_valueBeside 103 = .ok (.istore 5, 2) := by decide +kernel
theorem dX2_valueBeside_105 : decode cX2_valueBeside 105 = .ok (.iload 5, 2) := by decide +kernel
theorem dX2_valueBeside_107 : decode cX2_valueBeside 107 = .ok (.iconst (-1), 1) := by decide +kernel
theorem dX2_valueBeside_108 : decode cX2_valueBeside 108 = .ok (.if_icmp .ne 7, 3) := by decide +kernel
theorem dX2_valueBeside_111 : decode cX2_valueBeside 111 = .ok (.iconst (-1), 1) := by decide +kernel
theorem dX2_valueBeside_112 : decode cX2_valueBeside 112 = .ok (.goto 12, 3) := by decide +kernel
theorem dX2_valueBeside_115 : decode cX2_valueBeside 115 = .ok (.aload_n 0, 1) := by decide +kernel
theorem dX2_valueBeside_116 : decode cX2_valueBeside 116 = .ok (.iload 5, 2) := by decide +kernel
theorem dX2_valueBeside_118 : decode cX2_valueBeside 118 = .ok (.iload 4, 2) := by decide +kernel
theorem dX2_valueBeside_120 : decode cX2_valueBeside 120 = .ok (.iload_n 1, 1) := by decide +kernel
theorem dX2_valueBeside_121 : decode cX2_valueBeside 121 = .ok (.invokevirtual 76, 3) := by decide +kernel
theorem dX2_valueBeside_124 : decode cX2_valueBeside 124 = .ok (.ireturn, 1) := by decide +kernel
theorem dX2_forgetComputed_0 : decode cX2_forgetComputed 0 = .ok (.iconst 0, 1) := by decide +kernel
theorem dX2_forgetComputed_1 : decode cX2_forgetComputed 1 = .ok (.istore_n 2, 1) := by decide +kernel
theorem dX2_forgetComputed_2 : decode cX2_forgetComputed 2 = .ok (.iload_n 2, 1) := by decide +kernel
theorem dX2_forgetComputed_3 : decode cX2_forgetComputed 3 = .ok (.iconst 3, 1) := by decide +kernel
theorem dX2_forgetComputed_4 : decode cX2_forgetComputed 4 = .ok (.if_icmp .ge 36, 3) := by decide +kernel
theorem dX2_forgetComputed_7 : decode cX2_forgetComputed 7 = .ok (.aload_n 0, 1) := by decide +kernel
theorem dX2_forgetComputed_8 : decode cX2_forgetComputed 8 = .ok (.getfield 28, 3) := by decide +kernel
theorem dX2_forgetComputed_11 : decode cX2_forgetComputed 11 = .ok (.iload_n 1, 1) := by decide +kernel
theorem dX2_forgetComputed_12 : decode cX2_forgetComputed 12 = .ok (.invokevirtual 85, 3) := by decide +kernel
theorem dX2_forgetComputed_15 : decode cX2_forgetComputed 15 = .ok (.iload_n 2, 1) := by decide +kernel
theorem dX2_forgetComputed_16 : decode cX2_forgetComputed 16 = .ok (.iconst 2, 1) := by decide +kernel
theorem dX2_forgetComputed_17 : decode cX2_forgetComputed 17 = .ok (.invokevirtual 107, 3) := by decide +kernel
theorem dX2_forgetComputed_20 : decode cX2_forgetComputed 20 = .ok (.ifCond .eq 14, 3) := by decide +kernel
theorem dX2_forgetComputed_23 : decode cX2_forgetComputed 23 = .ok (.aload_n 0, 1) := by decide +kernel
theorem dX2_forgetComputed_24 : decode cX2_forgetComputed 24 = .ok (.getfield 21, 3) := by decide +kernel
theorem dX2_forgetComputed_27 : decode cX2_forgetComputed 27 = .ok (.iload_n 1, 1) := by decide +kernel
theorem dX2_forgetComputed_28 : decode cX2_forgetComputed 28 = .ok (.iconst 3, 1) := by decide +kernel
theorem dX2_forgetComputed_29 : decode cX2_forgetComputed 29 = .ok (.imul, 1) := by decide +kernel
theorem dX2_forgetComputed_30 : decode cX2_forgetComputed 30 = .ok (.iload_n 2, 1) := by decide +kernel
theorem dX2_forgetComputed_31 : decode cX2_forgetComputed 31 = .ok (.iadd, 1) := by decide +kernel
theorem dX2_forgetComputed_32 : decode cX2_forgetComputed 32 = .ok (.iconst (-1), 1) := by decide +kernel
theorem dX2_forgetComputed_33 : decode cX2_forgetComputed 33 = .ok (.iastore, 1) := by decide +kernel
theorem dX2_forgetComputed_34 : decode cX2_forgetComputed 34 = .ok (.iinc 2 1, 3) := by decide +kernel
theorem dX2_forgetComputed_37 : decode cX2_forgetComputed 37 = .ok (.goto (-35), 3) := by decide +kernel
theorem dX2_forgetComputed_40 : decode cX2_forgetComputed 40 = .ok (.return_, 1) := by decide +kernel
theorem dX2_readWorld_0 : decode cX2_readWorld 0 = .ok (.iconst 0, 1) := by decide +kernel
theorem dX2_readWorld_1 : decode cX2_readWorld 1 = .ok (.istore_n 1, 1) := by decide +kernel
theorem dX2_readWorld_2 : decode cX2_readWorld 2 = .ok (.iconst 0, 1) := by decide +kernel
theorem dX2_readWorld_3 : decode cX2_readWorld 3 = .ok (.istore_n 2, 1) := by decide +kernel
theorem dX2_readWorld_4 : decode cX2_readWorld 4 = .ok (.iconst 0, 1) := by decide +kernel
theorem dX2_readWorld_5 : decode cX2_readWorld 5 = .ok (.istore_n 3, 1) := by decide +kernel
theorem dX2_readWorld_6 : decode cX2_readWorld 6 = .ok (.iload_n 3, 1) := by decide +kernel
theorem dX2_readWorld_7 : decode cX2_readWorld 7 = .ok (.aload_n 0, 1) := by decide +kernel
theorem dX2_readWorld_8 : decode cX2_readWorld 8 = .ok (.getfield 28, 3) := by decide +kernel
theorem dX2_readWorld_11 : decode cX2_readWorld 11 = .ok (.invokevirtual 32, 3) := by decide +kernel
theorem dX2_readWorld_14 : decode cX2_readWorld 14 = .ok (.if_icmp .ge 80, 3) := by decide +kernel
theorem dX2_readWorld_17 : decode cX2_readWorld 17 = .ok (.aload_n 0, 1) := by decide +kernel
theorem dX2_readWorld_18 : decode cX2_readWorld 18 = .ok (.getfield 28, 3) := by decide +kernel
theorem dX2_readWorld_21 : decode cX2_readWorld 21 = .ok (.getfield 65, 3) := by decide +kernel
theorem dX2_readWorld_24 : decode cX2_readWorld 24 = .ok (.iload_n 3, 1) := by decide +kernel
theorem dX2_readWorld_25 : decode cX2_readWorld 25 = .ok (.aaload, 1) := by decide +kernel
theorem dX2_readWorld_26 : decode cX2_readWorld 26 = .ok (.astore 4, 2) := by decide +kernel
theorem dX2_readWorld_28 : decode cX2_readWorld 28 = .ok (.aload_n 0, 1) := by decide +kernel
theorem dX2_readWorld_29 : decode cX2_readWorld 29 = .ok (.iload_n 3, 1) := by decide +kernel
theorem dX2_readWorld_30 : decode cX2_readWorld 30 = .ok (.invokevirtual 38, 3) := by decide +kernel
theorem dX2_readWorld_33 : decode cX2_readWorld 33 = .ok (.aload 4, 2) := by decide +kernel
theorem dX2_readWorld_35 : decode cX2_readWorld 35 = .ok (.ifnonnull 6, 3) := by decide +kernel
theorem dX2_readWorld_38 : decode cX2_readWorld 38 = .ok (.goto 50, 3) := by decide +kernel
theorem dX2_readWorld_41 : decode cX2_readWorld 41 = .ok (.aload_n 0, 1) := by decide +kernel
theorem dX2_readWorld_42 : decode cX2_readWorld 42 = .ok (.getfield 28, 3) := by decide +kernel
theorem dX2_readWorld_45 : decode cX2_readWorld 45 = .ok (.getfield 187, 3) := by decide +kernel
theorem dX2_readWorld_48 : decode cX2_readWorld 48 = .ok (.aload 4, 2) := by decide +kernel
theorem dX2_readWorld_50 : decode cX2_readWorld 50 = .ok (.getfield 191, 3) := by decide +kernel
theorem dX2_readWorld_53 : decode cX2_readWorld 53 = .ok (.baload, 1) := by decide +kernel
theorem dX2_readWorld_54 : decode cX2_readWorld 54 = .ok (.ifCond .eq 19, 3) := by decide +kernel
theorem dX2_readWorld_57 : decode cX2_readWorld 57 = .ok (.aload_n 0, 1) := by decide +kernel
theorem dX2_readWorld_58 : decode cX2_readWorld 58 = .ok (.getfield 28, 3) := by decide +kernel
theorem dX2_readWorld_61 : decode cX2_readWorld 61 = .ok (.getfield 65, 3) := by decide +kernel
theorem dX2_readWorld_64 : decode cX2_readWorld 64 = .ok (.iload_n 3, 1) := by decide +kernel
theorem dX2_readWorld_65 : decode cX2_readWorld 65 = .ok (.aconst_null, 1) := by decide +kernel
theorem dX2_readWorld_66 : decode cX2_readWorld 66 = .ok (.aastore, 1) := by decide +kernel
theorem dX2_readWorld_67 : decode cX2_readWorld 67 = .ok (.iinc 1 1, 3) := by decide +kernel
theorem dX2_readWorld_70 : decode cX2_readWorld 70 = .ok (.goto 13, 3) := by decide +kernel
theorem dX2_readWorld_73 : decode cX2_readWorld 73 = .ok (.iload_n 2, 1) := by decide +kernel
theorem dX2_readWorld_74 : decode cX2_readWorld 74 = .ok (.aload_n 0, 1) := by decide +kernel
theorem dX2_readWorld_75 : decode cX2_readWorld 75 = .ok (.iload_n 3, 1) := by decide +kernel
theorem dX2_readWorld_76 : decode cX2_readWorld 76 = .ok (.aload 4, 2) := by decide +kernel
theorem dX2_readWorld_78 : decode cX2_readWorld 78 = .ok (.invokevirtual 194, 3) := by decide +kernel
theorem dX2_readWorld_81 : decode cX2_readWorld 81 = .ok (.iadd, 1) := by decide +kernel
theorem dX2_readWorld_82 : decode cX2_readWorld 82 = .ok (.istore_n 2, 1) := by decide +kernel
theorem dX2_readWorld_83 : decode cX2_readWorld 83 = .ok (.aload_n 0, 1) := by decide +kernel
theorem dX2_readWorld_84 : decode cX2_readWorld 84 = .ok (.iload_n 3, 1) := by decide +kernel
theorem dX2_readWorld_85 : decode cX2_readWorld 85 = .ok (.invokevirtual 38, 3) := by decide +kernel
theorem dX2_readWorld_88 : decode cX2_readWorld 88 = .ok (.iinc 3 1, 3) := by decide +kernel
theorem dX2_readWorld_91 : decode cX2_readWorld 91 = .ok (.goto (-85), 3) := by decide +kernel
theorem dX2_readWorld_94 : decode cX2_readWorld 94 = .ok (.iload_n 1, 1) := by decide +kernel
theorem dX2_readWorld_95 : decode cX2_readWorld 95 = .ok (.iload_n 2, 1) := by decide +kernel
theorem dX2_readWorld_96 : decode cX2_readWorld 96 = .ok (.iadd, 1) := by decide +kernel
theorem dX2_readWorld_97 : decode cX2_readWorld 97 = .ok (.ifCond .le 16, 3) := by decide +kernel
theorem dX2_readWorld_100 : decode cX2_readWorld 100 = .ok (.aload_n 0, 1) := by decide +kernel
theorem dX2_readWorld_101 : decode cX2_readWorld 101 = .ok (.getfield 28, 3) := by decide +kernel
theorem dX2_readWorld_104 : decode cX2_readWorld 104 = .ok (.dup, 1) := by decide +kernel
theorem dX2_readWorld_105 : decode cX2_readWorld 105 = .ok (.getfield 198, 3) := by decide +kernel
theorem dX2_readWorld_108 : decode cX2_readWorld 108 = .ok (.iconst 1, 1) := by decide +kernel
theorem dX2_readWorld_109 : decode cX2_readWorld 109 = .ok (.iadd, 1) := by decide +kernel
theorem dX2_readWorld_110 : decode cX2_readWorld 110 = .ok (.putfield 198, 3) := by decide +kernel
theorem dX2_readWorld_113 : decode cX2_readWorld 113 = .ok (.bipush 100, 2) := by decide +kernel
theorem dX2_readWorld_115 : decode cX2_readWorld 115 = .ok (.iload_n 1, 1) := by decide +kernel
theorem dX2_readWorld_116 : decode cX2_readWorld 116 = .ok (.imul, 1) := by decide +kernel
theorem dX2_readWorld_117 : decode cX2_readWorld 117 = .ok (.iload_n 2, 1) := by decide +kernel
theorem dX2_readWorld_118 : decode cX2_readWorld 118 = .ok (.iadd, 1) := by decide +kernel
theorem dX2_readWorld_119 : decode cX2_readWorld 119 = .ok (.ireturn, 1) := by decide +kernel
theorem dX2_followDrift_0 : decode cX2_followDrift 0 = .ok (.aload_n 0, 1) := by decide +kernel
theorem dX2_followDrift_1 : decode cX2_followDrift 1 = .ok (.getfield 28, 3) := by decide +kernel
theorem dX2_followDrift_4 : decode cX2_followDrift 4 = .ok (.iload_n 1, 1) := by decide +kernel
theorem dX2_followDrift_5 : decode cX2_followDrift 5 = .ok (.invokevirtual 85, 3) := by decide +kernel
theorem dX2_followDrift_8 : decode cX2_followDrift 8 = .ok (.astore_n 3, 1) := by decide +kernel
theorem dX2_followDrift_9 : decode cX2_followDrift 9 = .ok (.aload_n 3, 1) := by decide +kernel
theorem dX2_followDrift_10 : decode cX2_followDrift 10 = .ok (.getfield 201, 3) := by decide +kernel
theorem dX2_followDrift_13 : decode cX2_followDrift 13 = .ok (.ifCond .eq 18, 3) := by decide +kernel
theorem dX2_followDrift_16 : decode cX2_followDrift 16 = .ok (.aload_n 0, 1) := by decide +kernel
theorem dX2_followDrift_17 : decode cX2_followDrift 17 = .ok (.getfield 28, 3) := by decide +kernel
theorem dX2_followDrift_20 : decode cX2_followDrift 20 = .ok (.iload_n 1, 1) := by decide +kernel
theorem dX2_followDrift_21 : decode cX2_followDrift 21 = .ok (.invokevirtual 95, 3) := by decide +kernel
theorem dX2_followDrift_24 : decode cX2_followDrift 24 = .ok (.ifCond .eq 7, 3) := by decide +kernel
theorem dX2_followDrift_27 : decode cX2_followDrift 27 = .ok (.iconst 1, 1) := by decide +kernel
theorem dX2_followDrift_28 : decode cX2_followDrift 28 = .ok (.goto 4, 3) := by decide +kernel
theorem dX2_followDrift_31 : decode cX2_followDrift 31 = .ok (.iconst 0, 1) := by decide +kernel
theorem dX2_followDrift_32 : decode cX2_followDrift 32 = .ok (.istore 4, 2) := by decide +kernel
theorem dX2_followDrift_34 : decode cX2_followDrift 34 = .ok (.iconst 0, 1) := by decide +kernel
theorem dX2_followDrift_35 : decode cX2_followDrift 35 = .ok (.istore 5, 2) := by decide +kernel
theorem dX2_followDrift_37 : decode cX2_followDrift 37 = .ok (.iconst 0, 1) := by decide +kernel
theorem dX2_followDrift_38 : decode cX2_followDrift 38 = .ok (.istore 6, 2) := by decide +kernel
theorem dX2_followDrift_40 : decode cX2_followDrift 40 = .ok (.iload 6, 2) := by decide +kernel
theorem dX2_followDrift_42 : decode cX2_followDrift 42 = .ok (.iconst 3, 1) := by decide +kernel
theorem dX2_followDrift_43 : decode cX2_followDrift 43 = .ok (.if_icmp .ge 84, 3) := by decide +kernel
theorem dX2_followDrift_46 : decode cX2_followDrift 46 = .ok (.aload_n 0, 1) := by decide +kernel
theorem dX2_followDrift_47 : decode cX2_followDrift 47 = .ok (.getfield 28, 3) := by decide +kernel
theorem dX2_followDrift_50 : decode cX2_followDrift 50 = .ok (.getfield 204, 3) := by decide +kernel
theorem dX2_followDrift_53 : decode cX2_followDrift 53 = .ok (.aload_n 2, 1) := by decide +kernel
theorem dX2_followDrift_54 : decode cX2_followDrift 54 = .ok (.getfield 191, 3) := by decide +kernel
theorem dX2_followDrift_57 : decode cX2_followDrift 57 = .ok (.iconst 3, 1) := by decide +kernel
theorem dX2_followDrift_58 : decode cX2_followDrift 58 = .ok (.imul, 1) := by decide +kernel
theorem dX2_followDrift_59 : decode cX2_followDrift 59 = .ok (.iload 6, 2) := by decide +kernel
theorem dX2_followDrift_61 : decode cX2_followDrift 61 = .ok (.iadd, 1) := by decide +kernel
theorem dX2_followDrift_62 : decode cX2_followDrift 62 = .ok (.iaload, 1) := by decide +kernel
theorem dX2_followDrift_63 : decode cX2_followDrift 63 = .ok (.istore 7, 2) := by decide +kernel
theorem dX2_followDrift_65 : decode cX2_followDrift 65 = .ok (.aload_n 3, 1) := by decide +kernel
theorem dX2_followDrift_66 : decode cX2_followDrift 66 = .ok (.iload 6, 2) := by decide +kernel
theorem dX2_followDrift_68 : decode cX2_followDrift 68 = .ok (.iconst 4, 1) := by decide +kernel
theorem dX2_followDrift_69 : decode cX2_followDrift 69 = .ok (.invokevirtual 107, 3) := by decide +kernel
theorem dX2_followDrift_72 : decode cX2_followDrift 72 = .ok (.ifCond .ne 49, 3) := by decide +kernel
theorem dX2_followDrift_75 : decode cX2_followDrift 75 = .ok (.iload 7, 2) := by decide +kernel
theorem dX2_followDrift_77 : decode cX2_followDrift 77 = .ok (.aload_n 2, 1) := by decide +kernel
theorem dX2_followDrift_78 : decode cX2_followDrift 78 = .ok (.getfield 69, 3) := by decide +kernel
theorem dX2_followDrift_81 : decode cX2_followDrift 81 = .ok (.iload 6, 2) := by decide +kernel
theorem dX2_followDrift_83 : decode cX2_followDrift 83 = .ok (.iaload, 1) := by decide +kernel
theorem dX2_followDrift_84 : decode cX2_followDrift 84 = .ok (.if_icmp .ne 6, 3) := by decide +kernel
theorem dX2_followDrift_87 : decode cX2_followDrift 87 = .ok (.goto 34, 3) := by decide +kernel
theorem dX2_followDrift_90 : decode cX2_followDrift 90 = .ok (.aload_n 2, 1) := by decide +kernel
theorem dX2_followDrift_91 : decode cX2_followDrift 91 = .ok (.iload 6, 2) := by decide +kernel
theorem dX2_followDrift_93 : decode cX2_followDrift 93 = .ok (.iload 7, 2) := by decide +kernel
theorem dX2_followDrift_95 : decode cX2_followDrift 95 = .ok (.iload 4, 2) := by decide +kernel
theorem dX2_followDrift_97 : decode cX2_followDrift 97 = .ok (.ifCond .eq 17, 3) := by decide +kernel
theorem dX2_followDrift_100 : decode cX2_followDrift 100 = .ok (.aload_n 0, 1) := by decide +kernel
theorem dX2_followDrift_101 : decode cX2_followDrift 101 = .ok (.getfield 9, 3) := by decide +kernel
theorem dX2_followDrift_104 : decode cX2_followDrift 104 = .ok (.iload_n 1, 1) := by decide +kernel
theorem dX2_followDrift_105 : decode cX2_followDrift 105 = .ok (.iconst 3, 1) := by decide +kernel
theorem dX2_followDrift_106 : decode cX2_followDrift 106 = .ok (.imul, 1) := by decide +kernel
theorem dX2_followDrift_107 : decode cX2_followDrift 107 = .ok (.iload 6, 2) := by decide +kernel
theorem dX2_followDrift_109 : decode cX2_followDrift 109 = .ok (.iadd, 1) := by decide +kernel
theorem dX2_followDrift_110 : decode cX2_followDrift 110 = .ok (.iaload, 1) := by decide +kernel
theorem dX2_followDrift_111 : decode cX2_followDrift 111 = .ok (.goto 4, 3) := by decide +kernel
theorem dX2_followDrift_114 : decode cX2_followDrift 114 = .ok (.iconst (-1), 1) := by decide +kernel
theorem dX2_followDrift_115 : decode cX2_followDrift 115 = .ok (.invokevirtual 207, 3) := by decide +kernel
theorem dX2_followDrift_118 : decode cX2_followDrift 118 = .ok (.iinc 5 1, 3) := by decide +kernel
theorem dX2_followDrift_121 : decode cX2_followDrift 121 = .ok (.iinc 6 1, 3) := by decide +kernel
theorem dX2_followDrift_124 : decode cX2_followDrift 124 = .ok (.goto (-84), 3) := by decide +kernel
theorem dX2_followDrift_127 : decode cX2_followDrift 127 = .ok (.iload 5, 2) := by decide +kernel
theorem dX2_followDrift_129 : decode cX2_followDrift 129 = .ok (.ireturn, 1) := by decide +kernel
theorem dX3_init_0 : decode cX3_init 0 = .ok (.aload_n 0, 1) := by decide +kernel
theorem dX3_init_1 : decode cX3_init 1 = .ok (.invokespecial 3, 3) := by decide +kernel
theorem dX3_init_4 : decode cX3_init 4 = .ok (.aload_n 0, 1) := by decide +kernel
theorem dX3_init_5 : decode cX3_init 5 = .ok (.iconst 3, 1) := by decide +kernel
theorem dX3_init_6 : decode cX3_init 6 = .ok (.newarray .int, 2) := by decide +kernel
theorem dX3_init_8 : decode cX3_init 8 = .ok (.putfield 9, 3) := by decide +kernel
theorem dX3_init_11 : decode cX3_init 11 = .ok (.aload_n 0, 1) := by decide +kernel
theorem dX3_init_12 : decode cX3_init 12 = .ok (.iconst 3, 1) := by decide +kernel
theorem dX3_init_13 : decode cX3_init 13 = .ok (.newarray .int, 2) := by decide +kernel
theorem dX3_init_15 : decode cX3_init 15 = .ok (.putfield 15, 3) := by decide +kernel
theorem dX3_init_18 : decode cX3_init 18 = .ok (.aload_n 0, 1) := by decide +kernel
theorem dX3_init_19 : decode cX3_init 19 = .ok (.iload_n 1, 1) := by decide +kernel
theorem dX3_init_20 : decode cX3_init 20 = .ok (.putfield 18, 3) := by decide +kernel
theorem dX3_init_23 : decode cX3_init 23 = .ok (.return_, 1) := by decide +kernel
theorem dX3_write_0 : decode cX3_write 0 = .ok (.aload_n 0, 1) := by decide +kernel
theorem dX3_write_1 : decode cX3_write 1 = .ok (.getfield 9, 3) := by decide +kernel
theorem dX3_write_4 : decode cX3_write 4 = .ok (.iload_n 1, 1) := by decide +kernel
theorem dX3_write_5 : decode cX3_write 5 = .ok (.iload_n 2, 1) := by decide +kernel
theorem dX3_write_6 : decode cX3_write 6 = .ok (.iastore, 1) := by decide +kernel
theorem dX3_write_7 : decode cX3_write 7 = .ok (.aload_n 0, 1) := by decide +kernel
theorem dX3_write_8 : decode cX3_write 8 = .ok (.dup, 1) := by decide +kernel
theorem dX3_write_9 : decode cX3_write 9 = .ok (.getfield 22, 3) := by decide +kernel
theorem dX3_write_12 : decode cX3_write 12 = .ok (.iconst 1, 1) := by decide +kernel
theorem dX3_write_13 : decode cX3_write 13 = .ok (.iload_n 1, 1) := by decide +kernel
theorem dX3_write_14 : decode cX3_write 14 = .ok (.ishl, 1) := by decide +kernel
theorem dX3_write_15 : decode cX3_write 15 = .ok (.iconst (-1), 1) := by decide +kernel
theorem dX3_write_16 : decode cX3_write 16 = .ok (.ixor, 1) := by decide +kernel
theorem dX3_write_17 : decode cX3_write 17 = .ok (.iand, 1) := by decide +kernel
theorem dX3_write_18 : decode cX3_write 18 = .ok (.putfield 22, 3) := by decide +kernel
theorem dX3_write_21 : decode cX3_write 21 = .ok (.return_, 1) := by decide +kernel
theorem dX3_follow_0 : decode cX3_follow 0 = .ok (.aload_n 0, 1) := by decide +kernel
theorem dX3_follow_1 : decode cX3_follow 1 = .ok (.iload_n 1, 1) := by decide +kernel
theorem dX3_follow_2 : decode cX3_follow 2 = .ok (.iload_n 2, 1) := by decide +kernel
theorem dX3_follow_3 : decode cX3_follow 3 = .ok (.invokevirtual 25, 3) := by decide +kernel
theorem dX3_follow_6 : decode cX3_follow 6 = .ok (.iload_n 3, 1) := by decide +kernel
theorem dX3_follow_7 : decode cX3_follow 7 = .ok (.iconst (-1), 1) := by decide +kernel
theorem dX3_follow_8 : decode cX3_follow 8 = .ok (.if_icmp .eq 22, 3) := by decide +kernel
theorem dX3_follow_11 : decode cX3_follow 11 = .ok (.aload_n 0, 1) := by decide +kernel
theorem dX3_follow_12 : decode cX3_follow 12 = .ok (.dup, 1) := by decide +kernel
theorem dX3_follow_13 : decode cX3_follow 13 = .ok (.getfield 22, 3) := by decide +kernel
theorem dX3_follow_16 : decode cX3_follow 16 = .ok (.iconst 1, 1) := by decide +kernel
theorem dX3_follow_17 : decode cX3_follow 17 = .ok (.iload_n 1, 1) := by decide +kernel
theorem dX3_follow_18 : decode cX3_follow 18 = .ok (.ishl, 1) := by decide +kernel
theorem dX3_follow_19 : decode cX3_follow 19 = .ok (.ior, 1) := by decide +kernel
theorem dX3_follow_20 : decode cX3_follow 20 = .ok (.putfield 22, 3) := by decide +kernel
theorem dX3_follow_23 : decode cX3_follow 23 = .ok (.aload_n 0, 1) := by decide +kernel
theorem dX3_follow_24 : decode cX3_follow 24 = .ok (.getfield 15, 3) := by decide +kernel
theorem dX3_follow_27 : decode cX3_follow 27 = .ok (.iload_n 1, 1) := by decide +kernel
theorem dX3_follow_28 : decode cX3_follow 28 = .ok (.iload_n 3, 1) := by decide +kernel
theorem dX3_follow_29 : decode cX3_follow 29 = .ok (.iastore, 1) := by decide +kernel
theorem dX3_follow_30 : decode cX3_follow 30 = .ok (.return_, 1) := by decide +kernel
theorem dX3_isAdoptedOn_0 : decode cX3_isAdoptedOn 0 = .ok (.aload_n 0, 1) := by decide +kernel
theorem dX3_isAdoptedOn_1 : decode cX3_isAdoptedOn 1 = .ok (.getfield 22, 3) := by decide +kernel
theorem dX3_isAdoptedOn_4 : decode cX3_isAdoptedOn 4 = .ok (.iconst 1, 1) := by decide +kernel
theorem dX3_isAdoptedOn_5 : decode cX3_isAdoptedOn 5 = .ok (.iload_n 1, 1) := by decide +kernel
theorem dX3_isAdoptedOn_6 : decode cX3_isAdoptedOn 6 = .ok (.ishl, 1) := by decide +kernel
theorem dX3_isAdoptedOn_7 : decode cX3_isAdoptedOn 7 = .ok (.iand, 1) := by decide +kernel
theorem dX3_isAdoptedOn_8 : decode cX3_isAdoptedOn 8 = .ok (.ifCond .eq 17, 3) := by decide +kernel
theorem dX3_isAdoptedOn_11 : decode cX3_isAdoptedOn 11 = .ok (.aload_n 0, 1) := by decide +kernel
theorem dX3_isAdoptedOn_12 : decode cX3_isAdoptedOn 12 = .ok (.getfield 15, 3) := by decide +kernel
theorem dX3_isAdoptedOn_15 : decode cX3_isAdoptedOn 15 = .ok (.iload_n 1, 1) := by decide +kernel
theorem dX3_isAdoptedOn_16 : decode cX3_isAdoptedOn 16 = .ok (.iaload, 1) := by decide +kernel
theorem dX3_isAdoptedOn_17 : decode cX3_isAdoptedOn 17 = .ok (.iload_n 2, 1) := by decide +kernel
theorem dX3_isAdoptedOn_18 : decode cX3_isAdoptedOn 18 = .ok (.if_icmp .ne 7, 3) := by decide +kernel
theorem dX3_isAdoptedOn_21 : decode cX3_isAdoptedOn 21 = .ok (.iconst 1, 1) := by decide +kernel
theorem dX3_isAdoptedOn_22 : decode cX3_isAdoptedOn 22 = .ok (.goto 4, 3) := by decide +kernel
theorem dX3_isAdoptedOn_25 : decode cX3_isAdoptedOn 25 = .ok (.iconst 0, 1) := by decide +kernel
theorem dX3_isAdoptedOn_26 : decode cX3_isAdoptedOn 26 = .ok (.ireturn, 1) := by decide +kernel
theorem dX3_turn_0 : decode cX3_turn 0 = .ok (.aload_n 0, 1) := by decide +kernel
theorem dX3_turn_1 : decode cX3_turn 1 = .ok (.getfield 9, 3) := by decide +kernel
theorem dX3_turn_4 : decode cX3_turn 4 = .ok (.iconst 0, 1) := by decide +kernel
theorem dX3_turn_5 : decode cX3_turn 5 = .ok (.invokestatic 29, 3) := by decide +kernel
theorem dX3_turn_8 : decode cX3_turn 8 = .ok (.aload_n 0, 1) := by decide +kernel
theorem dX3_turn_9 : decode cX3_turn 9 = .ok (.getfield 15, 3) := by decide +kernel
theorem dX3_turn_12 : decode cX3_turn 12 = .ok (.iconst 0, 1) := by decide +kernel
theorem dX3_turn_13 : decode cX3_turn 13 = .ok (.invokestatic 29, 3) := by decide +kernel
theorem dX3_turn_16 : decode cX3_turn 16 = .ok (.aload_n 0, 1) := by decide +kernel
theorem dX3_turn_17 : decode cX3_turn 17 = .ok (.aload_n 0, 1) := by decide +kernel
theorem dX3_turn_18 : decode cX3_turn 18 = .ok (.getfield 22, 3) := by decide +kernel
theorem dX3_turn_21 : decode cX3_turn 21 = .ok (.iconst 4, 1) := by decide +kernel
theorem dX3_turn_22 : decode cX3_turn 22 = .ok (.iand, 1) := by decide +kernel
theorem dX3_turn_23 : decode cX3_turn 23 = .ok (.aload_n 0, 1) := by decide +kernel
theorem dX3_turn_24 : decode cX3_turn 24 = .ok (.getfield 22, 3) := by decide +kernel
theorem dX3_turn_27 : decode cX3_turn 27 = .ok (.iconst 1, 1) := by decide +kernel
theorem dX3_turn_28 : decode cX3_turn 28 = .ok (.iand, 1) := by decide +kernel
theorem dX3_turn_29 : decode cX3_turn 29 = .ok (.iconst 1, 1) := by decide +kernel
theorem dX3_turn_30 : decode cX3_turn 30 = .ok (.ishl, 1) := by decide +kernel
theorem dX3_turn_31 : decode cX3_turn 31 = .ok (.ior, 1) := by decide +kernel
theorem dX3_turn_32 : decode cX3_turn 32 = .ok (.aload_n 0, 1) := by decide +kernel
theorem dX3_turn_33 : decode cX3_turn 33 = .ok (.getfield 22, 3) := by decide +kernel
theorem dX3_turn_36 : decode cX3_turn 36 = .ok (.iconst 2, 1) := by decide +kernel
theorem dX3_turn_37 : decode cX3_turn 37 = .ok (.iand, 1) := by decide +kernel
theorem dX3_turn_38 : decode cX3_turn 38 = .ok (.iconst 1, 1) := by decide +kernel
theorem dX3_turn_39 : decode cX3_turn 39 = .ok (.ishr, 1) := by decide +kernel
theorem dX3_turn_40 : decode cX3_turn 40 = .ok (.ior, 1) := by decide +kernel
theorem dX3_turn_41 : decode cX3_turn 41 = .ok (.putfield 22, 3) := by decide +kernel
theorem dX3_turn_44 : decode cX3_turn 44 = .ok (.return_, 1) := by decide +kernel
theorem dX3_turnRow_0 : decode cX3_turnRow 0 = .ok (.aload_n 0, 1) := by decide +kernel
theorem dX3_turnRow_1 : decode cX3_turnRow 1 = .ok (.iload_n 1, 1) := by decide +kernel
theorem dX3_turnRow_2 : decode cX3_turnRow 2 = .ok (.iaload, 1) := by decide +kernel
theorem dX3_turnRow_3 : decode cX3_turnRow 3 = .ok (.istore_n 2, 1) := by decide +kernel
theorem dX3_turnRow_4 : decode cX3_turnRow 4 = .ok (.aload_n 0, 1) := by decide +kernel
theorem dX3_turnRow_5 : decode cX3_turnRow 5 = .ok (.iload_n 1, 1) := by decide +kernel
theorem dX3_turnRow_6 : decode cX3_turnRow 6 = .ok (.iconst 2, 1) := by decide +kernel
theorem dX3_turnRow_7 : decode cX3_turnRow 7 = .ok (.aload_n 0, 1) := by decide +kernel
theorem dX3_turnRow_8 : decode cX3_turnRow 8 = .ok (.iload_n 1, 1) := by decide +kernel
theorem dX3_turnRow_9 : decode cX3_turnRow 9 = .ok (.iconst 1, 1) := by decide +kernel
theorem dX3_turnRow_10 : decode cX3_turnRow 10 = .ok (.iadd, 1) := by decide +kernel
theorem dX3_turnRow_11 : decode cX3_turnRow 11 = .ok (.iaload, 1) := by decide +kernel
theorem dX3_turnRow_12 : decode cX3_turnRow 12 = .ok (.imul, 1) := by decide +kernel
theorem dX3_turnRow_13 : decode cX3_turnRow 13 = .ok (.iastore, 1) := by decide +kernel
theorem dX3_turnRow_14 : decode cX3_turnRow 14 = .ok (.aload_n 0, 1) := by decide +kernel
theorem dX3_turnRow_15 : decode cX3_turnRow 15 = .ok (.iload_n 1, 1) := by decide +kernel
theorem dX3_turnRow_16 : decode cX3_turnRow 16 = .ok (.iconst 1, 1) := by decide +kernel
theorem dX3_turnRow_17 : decode cX3_turnRow 17 = .ok (.iadd, 1) := by decide +kernel
theorem dX3_turnRow_18 : decode cX3_turnRow 18 = .ok (.iconst 2, 1) := by decide +kernel
theorem dX3_turnRow_19 : decode cX3_turnRow 19 = .ok (.iload_n 2, 1) := by decide +kernel
theorem dX3_turnRow_20 : decode cX3_turnRow 20 = .ok (.imul, 1) := by decide +kernel
theorem dX3_turnRow_21 : decode cX3_turnRow 21 = .ok (.iastore, 1) := by decide +kernel
theorem dX3_turnRow_22 : decode cX3_turnRow 22 = .ok (.aload_n 0, 1) := by decide +kernel
theorem dX3_turnRow_23 : decode cX3_turnRow 23 = .ok (.iload_n 1, 1) := by decide +kernel
theorem dX3_turnRow_24 : decode cX3_turnRow 24 = .ok (.iconst 2, 1) := by decide +kernel
theorem dX3_turnRow_25 : decode cX3_turnRow 25 = .ok (.iadd, 1) := by decide +kernel
theorem dX3_turnRow_26 : decode cX3_turnRow 26 = .ok (.iconst 2, 1) := by decide +kernel
theorem dX3_turnRow_27 : decode cX3_turnRow 27 = .ok (.aload_n 0, 1) := by decide +kernel
theorem dX3_turnRow_28 : decode cX3_turnRow 28 = .ok (.iload_n 1, 1) := by decide +kernel
theorem dX3_turnRow_29 : decode cX3_turnRow 29 = .ok (.iconst 2, 1) := by decide +kernel
theorem dX3_turnRow_30 : decode cX3_turnRow 30 = .ok (.iadd, 1) := by decide +kernel
theorem dX3_turnRow_31 : decode cX3_turnRow 31 = .ok (.iaload, 1) := by decide +kernel
theorem dX3_turnRow_32 : decode cX3_turnRow 32 = .ok (.imul, 1) := by decide +kernel
theorem dX3_turnRow_33 : decode cX3_turnRow 33 = .ok (.iastore, 1) := by decide +kernel
theorem dX3_turnRow_34 : decode cX3_turnRow 34 = .ok (.return_, 1) := by decide +kernel
theorem dX4_init_0 : decode cX4_init 0 = .ok (.aload_n 0, 1) := by decide +kernel
theorem dX4_init_1 : decode cX4_init 1 = .ok (.invokespecial 3, 3) := by decide +kernel
theorem dX4_init_4 : decode cX4_init 4 = .ok (.aload_n 0, 1) := by decide +kernel
theorem dX4_init_5 : decode cX4_init 5 = .ok (.iconst 3, 1) := by decide +kernel
theorem dX4_init_6 : decode cX4_init 6 = .ok (.anewarray 9, 3) := by decide +kernel
theorem dX4_init_9 : decode cX4_init 9 = .ok (.putfield 11, 3) := by decide +kernel
theorem dX4_init_12 : decode cX4_init 12 = .ok (.aload_n 0, 1) := by decide +kernel
theorem dX4_init_13 : decode cX4_init 13 = .ok (.iconst 4, 1) := by decide +kernel
theorem dX4_init_14 : decode cX4_init 14 = .ok (.anewarray 17, 3) := by decide +kernel
theorem dX4_init_17 : decode cX4_init 17 = .ok (.putfield 19, 3) := by decide +kernel
theorem dX4_init_20 : decode cX4_init 20 = .ok (.aload_n 0, 1) := by decide +kernel
theorem dX4_init_21 : decode cX4_init 21 = .ok (.bipush 60, 2) := by decide +kernel
theorem dX4_init_23 : decode cX4_init 23 = .ok (.newarray .int, 2) := by decide +kernel
theorem dX4_init_25 : decode cX4_init 25 = .ok (.putfield 23, 3) := by decide +kernel
theorem dX4_init_28 : decode cX4_init 28 = .ok (.aload_n 0, 1) := by decide +kernel
theorem dX4_init_29 : decode cX4_init 29 = .ok (.sipush 180, 3) := by decide +kernel
theorem dX4_init_32 : decode cX4_init 32 = .ok (.newarray .int, 2) := by decide +kernel
theorem dX4_init_34 : decode cX4_init 34 = .ok (.putfield 27, 3) := by decide +kernel
theorem dX4_init_37 : decode cX4_init 37 = .ok (.aload_n 0, 1) := by decide +kernel
theorem dX4_init_38 : decode cX4_init 38 = .ok (.bipush 60, 2) := by decide +kernel
theorem dX4_init_40 : decode cX4_init 40 = .ok (.newarray .boolean, 2) := by decide +kernel
theorem dX4_init_42 : decode cX4_init 42 = .ok (.putfield 30, 3) := by decide +kernel
theorem dX4_init_45 : decode cX4_init 45 = .ok (.aload_n 0, 1) := by decide +kernel
theorem dX4_init_46 : decode cX4_init 46 = .ok (.bipush 64, 2) := by decide +kernel
theorem dX4_init_48 : decode cX4_init 48 = .ok (.anewarray 34, 3) := by decide +kernel
theorem dX4_init_51 : decode cX4_init 51 = .ok (.putfield 36, 3) := by decide +kernel
theorem dX4_init_54 : decode cX4_init 54 = .ok (.aload_n 0, 1) := by decide +kernel
theorem dX4_init_55 : decode cX4_init 55 = .ok (.bipush 64, 2) := by decide +kernel
theorem dX4_init_57 : decode cX4_init 57 = .ok (.newarray .int, 2) := by decide +kernel
theorem dX4_init_59 : decode cX4_init 59 = .ok (.putfield 40, 3) := by decide +kernel
theorem dX4_init_62 : decode cX4_init 62 = .ok (.iconst 0, 1) := by decide +kernel
theorem dX4_init_63 : decode cX4_init 63 = .ok (.istore_n 1, 1) := by decide +kernel
theorem dX4_init_64 : decode cX4_init 64 = .ok (.iload_n 1, 1) := by decide +kernel
theorem dX4_init_65 : decode cX4_init 65 = .ok (.iconst 3, 1) := by decide +kernel
theorem dX4_init_66 : decode cX4_init 66 = .ok (.if_icmp .ge 22, 3) := by decide +kernel
theorem dX4_init_69 : decode cX4_init 69 = .ok (.aload_n 0, 1) := by decide +kernel
theorem dX4_init_70 : decode cX4_init 70 = .ok (.getfield 11, 3) := by decide +kernel
theorem dX4_init_73 : decode cX4_init 73 = .ok (.iload_n 1, 1) := by decide +kernel
theorem dX4_init_74 : decode cX4_init 74 = .ok (.new 9, 3) := by decide +kernel
theorem dX4_init_77 : decode cX4_init 77 = .ok (.dup, 1) := by decide +kernel
theorem dX4_init_78 : decode cX4_init 78 = .ok (.invokespecial 43, 3) := by decide +kernel
theorem dX4_init_81 : decode cX4_init 81 = .ok (.aastore, 1) := by decide +kernel
theorem dX4_init_82 : decode cX4_init 82 = .ok (.iinc 1 1, 3) := by decide +kernel
theorem dX4_init_85 : decode cX4_init 85 = .ok (.goto (-21), 3) := by decide +kernel
theorem dX4_init_88 : decode cX4_init 88 = .ok (.return_, 1) := by decide +kernel
theorem dX4_names_0 : decode cX4_names 0 = .ok (.bipush 16, 2) := by decide +kernel
theorem dX4_names_2 : decode cX4_names 2 = .ok (.aload_n 0, 1) := by decide +kernel
theorem dX4_names_3 : decode cX4_names 3 = .ok (.getfield 44, 3) := by decide +kernel
theorem dX4_names_6 : decode cX4_names 6 = .ok (.imul, 1) := by decide +kernel
theorem dX4_names_7 : decode cX4_names 7 = .ok (.ireturn, 1) := by decide +kernel
theorem dX4_isName_0 : decode cX4_isName 0 = .ok (.iload_n 1, 1) := by decide +kernel
theorem dX4_isName_1 : decode cX4_isName 1 = .ok (.aload_n 0, 1) := by decide +kernel
theorem dX4_isName_2 : decode cX4_isName 2 = .ok (.invokevirtual 48, 3) := by decide +kernel
theorem dX4_isName_5 : decode cX4_isName 5 = .ok (.invokestatic 52, 3) := by decide +kernel
theorem dX4_isName_8 : decode cX4_isName 8 = .ok (.ireturn, 1) := by decide +kernel
theorem dX4_generatorOf_0 : decode cX4_generatorOf 0 = .ok (.aload_n 0, 1) := by decide +kernel
theorem dX4_generatorOf_1 : decode cX4_generatorOf 1 = .ok (.getfield 19, 3) := by decide +kernel
theorem dX4_generatorOf_4 : decode cX4_generatorOf 4 = .ok (.iload_n 1, 1) := by decide +kernel
theorem dX4_generatorOf_5 : decode cX4_generatorOf 5 = .ok (.bipush 16, 2) := by decide +kernel
theorem dX4_generatorOf_7 : decode cX4_generatorOf 7 = .ok (.idiv, 1) := by decide +kernel
theorem dX4_generatorOf_8 : decode cX4_generatorOf 8 = .ok (.aaload, 1) := by decide +kernel
theorem dX4_generatorOf_9 : decode cX4_generatorOf 9 = .ok (.areturn, 1) := by decide +kernel
theorem dX4_typeOfGenerator_0 : decode cX4_typeOfGenerator 0 = .ok (.aload_n 0, 1) := by decide +kernel
theorem dX4_typeOfGenerator_1 : decode cX4_typeOfGenerator 1 = .ok (.getfield 11, 3) := by decide +kernel
theorem dX4_typeOfGenerator_4 : decode cX4_typeOfGenerator 4 = .ok (.aload_n 0, 1) := by decide +kernel
theorem dX4_typeOfGenerator_5 : decode cX4_typeOfGenerator 5 = .ok (.getfield 19, 3) := by decide +kernel
theorem dX4_typeOfGenerator_8 : decode cX4_typeOfGenerator 8 = .ok (.iload_n 1, 1) := by decide +kernel
theorem dX4_typeOfGenerator_9 : decode cX4_typeOfGenerator 9 = .ok (.aaload, 1) := by decide +kernel
theorem dX4_typeOfGenerator_10 : decode cX4_typeOfGenerator 10 = .ok (.getfield 56, 3) := by decide +kernel
theorem dX4_typeOfGenerator_13 : decode cX4_typeOfGenerator 13 = .ok (.aaload, 1) := by decide +kernel
theorem dX4_typeOfGenerator_14 : decode cX4_typeOfGenerator 14 = .ok (.areturn, 1) := by decide +kernel
theorem dX4_typeNumberOf_0 : decode cX4_typeNumberOf 0 = .ok (.aload_n 0, 1) := by decide +kernel
theorem dX4_typeNumberOf_1 : decode cX4_typeNumberOf 1 = .ok (.getfield 19, 3) := by decide +kernel
theorem dX4_typeNumberOf_4 : decode cX4_typeNumberOf 4 = .ok (.iload_n 1, 1) := by decide +kernel
theorem dX4_typeNumberOf_5 : decode cX4_typeNumberOf 5 = .ok (.bipush 16, 2) := by decide +kernel
theorem dX4_typeNumberOf_7 : decode cX4_typeNumberOf 7 = .ok (.idiv, 1) := by decide +kernel
theorem dX4_typeNumberOf_8 : decode cX4_typeNumberOf 8 = .ok (.aaload, 1) := by decide +kernel
theorem dX4_typeNumberOf_9 : decode cX4_typeNumberOf 9 = .ok (.getfield 56, 3) := by decide +kernel
theorem dX4_typeNumberOf_12 : decode cX4_typeNumberOf 12 = .ok (.ireturn, 1) := by decide +kernel
theorem dX4_typeOf_0 : decode cX4_typeOf 0 = .ok (.aload_n 0, 1) := by decide +kernel
theorem dX4_typeOf_1 : decode cX4_typeOf 1 = .ok (.getfield 11, 3) := by decide +kernel
theorem dX4_typeOf_4 : decode cX4_typeOf 4 = .ok (.aload_n 0, 1) := by decide +kernel
theorem dX4_typeOf_5 : decode cX4_typeOf 5 = .ok (.getfield 19, 3) := by decide +kernel
theorem dX4_typeOf_8 : decode cX4_typeOf 8 = .ok (.iload_n 1, 1) := by decide +kernel
theorem dX4_typeOf_9 : decode cX4_typeOf 9 = .ok (.bipush 16, 2) := by decide +kernel
theorem dX4_typeOf_11 : decode cX4_typeOf 11 = .ok (.idiv, 1) := by decide +kernel
theorem dX4_typeOf_12 : decode cX4_typeOf 12 = .ok (.aaload, 1) := by decide +kernel
theorem dX4_typeOf_13 : decode cX4_typeOf 13 = .ok (.getfield 56, 3) := by decide +kernel
theorem dX4_typeOf_16 : decode cX4_typeOf 16 = .ok (.aaload, 1) := by decide +kernel
theorem dX4_typeOf_17 : decode cX4_typeOf 17 = .ok (.areturn, 1) := by decide +kernel
theorem dX4_hasKey_0 : decode cX4_hasKey 0 = .ok (.aload_n 0, 1) := by decide +kernel
theorem dX4_hasKey_1 : decode cX4_hasKey 1 = .ok (.getfield 19, 3) := by decide +kernel
theorem dX4_hasKey_4 : decode cX4_hasKey 4 = .ok (.iload_n 1, 1) := by decide +kernel
theorem dX4_hasKey_5 : decode cX4_hasKey 5 = .ok (.bipush 16, 2) := by decide +kernel
theorem dX4_hasKey_7 : decode cX4_hasKey 7 = .ok (.idiv, 1) := by decide +kernel
theorem dX4_hasKey_8 : decode cX4_hasKey 8 = .ok (.aaload, 1) := by decide +kernel
theorem dX4_hasKey_9 : decode cX4_hasKey 9 = .ok (.iload_n 1, 1) := by decide +kernel
theorem dX4_hasKey_10 : decode cX4_hasKey 10 = .ok (.bipush 16, 2) := by decide +kernel
theorem dX4_hasKey_12 : decode cX4_hasKey 12 = .ok (.irem, 1) := by decide +kernel
theorem dX4_hasKey_13 : decode cX4_hasKey 13 = .ok (.invokevirtual 59, 3) := by decide +kernel
theorem dX4_hasKey_16 : decode cX4_hasKey 16 = .ok (.ireturn, 1) := by decide +kernel
theorem dX4_generatorOfSource_0 : decode cX4_generatorOfSource 0 = .ok (.iload_n 0, 1) := by decide +kernel
theorem dX4_generatorOfSource_1 : decode cX4_generatorOfSource 1 = .ok (.bipush 10, 2) := by decide +kernel
theorem dX4_generatorOfSource_3 : decode cX4_generatorOfSource 3 = .ok (.isub, 1) := by decide +kernel
theorem dX4_generatorOfSource_4 : decode cX4_generatorOfSource 4 = .ok (.iconst 3, 1) := by decide +kernel
theorem dX4_generatorOfSource_5 : decode cX4_generatorOfSource 5 = .ok (.idiv, 1) := by decide +kernel
theorem dX4_generatorOfSource_6 : decode cX4_generatorOfSource 6 = .ok (.ireturn, 1) := by decide +kernel
theorem dX4_attributeOfSource_0 : decode cX4_attributeOfSource 0 = .ok (.iload_n 0, 1) := by decide +kernel
theorem dX4_attributeOfSource_1 : decode cX4_attributeOfSource 1 = .ok (.bipush 10, 2) := by decide +kernel
theorem dX4_attributeOfSource_3 : decode cX4_attributeOfSource 3 = .ok (.isub, 1) := by decide +kernel
theorem dX4_attributeOfSource_4 : decode cX4_attributeOfSource 4 = .ok (.iconst 3, 1) := by decide +kernel
theorem dX4_attributeOfSource_5 : decode cX4_attributeOfSource 5 = .ok (.irem, 1) := by decide +kernel
theorem dX4_attributeOfSource_6 : decode cX4_attributeOfSource 6 = .ok (.ireturn, 1) := by decide +kernel
theorem dX4_isComputedSource_0 : decode cX4_isComputedSource 0 = .ok (.aload_n 0, 1) := by decide +kernel
theorem dX4_isComputedSource_1 : decode cX4_isComputedSource 1 = .ok (.iload_n 1, 1) := by decide +kernel
theorem dX4_isComputedSource_2 : decode cX4_isComputedSource 2 = .ok (.invokestatic 63, 3) := by decide +kernel
theorem dX4_isComputedSource_5 : decode cX4_isComputedSource 5 = .ok (.invokevirtual 67, 3) := by decide +kernel
theorem dX4_isComputedSource_8 : decode cX4_isComputedSource 8 = .ok (.iload_n 1, 1) := by decide +kernel
theorem dX4_isComputedSource_9 : decode cX4_isComputedSource 9 = .ok (.invokestatic 71, 3) := by decide +kernel
theorem dX4_isComputedSource_12 : decode cX4_isComputedSource 12 = .ok (.iconst 2, 1) := by decide +kernel
theorem dX4_isComputedSource_13 : decode cX4_isComputedSource 13 = .ok (.invokevirtual 74, 3) := by decide +kernel
theorem dX4_isComputedSource_16 : decode cX4_isComputedSource 16 = .ok (.ireturn, 1) := by decide +kernel
theorem dX4_isInUse_0 : decode cX4_isInUse 0 = .ok (.iconst 0, 1) := by decide +kernel
theorem dX4_isInUse_1 : decode cX4_isInUse 1 = .ok (.istore_n 2, 1) := by decide +kernel
theorem dX4_isInUse_2 : decode cX4_isInUse 2 = .ok (.iload_n 2, 1) := by decide +kernel
theorem dX4_isInUse_3 : decode cX4_isInUse 3 = .ok (.aload_n 0, 1) := by decide +kernel
theorem dX4_isInUse_4 : decode cX4_isInUse 4 = .ok (.getfield 44, 3) := by decide +kernel
theorem dX4_isInUse_7 : decode cX4_isInUse 7 = .ok (.if_icmp .ge 24, 3) := by decide +kernel
theorem dX4_isInUse_10 : decode cX4_isInUse 10 = .ok (.aload_n 0, 1) := by decide +kernel
theorem dX4_isInUse_11 : decode cX4_isInUse 11 = .ok (.getfield 19, 3) := by decide +kernel
theorem dX4_isInUse_14 : decode cX4_isInUse 14 = .ok (.iload_n 2, 1) := by decide +kernel
theorem dX4_isInUse_15 : decode cX4_isInUse 15 = .ok (.aaload, 1) := by decide +kernel
theorem dX4_isInUse_16 : decode cX4_isInUse 16 = .ok (.getfield 56, 3) := by decide +kernel
theorem dX4_isInUse_19 : decode cX4_isInUse 19 = .ok (.iload_n 1, 1) := by decide +kernel
theorem dX4_isInUse_20 : decode cX4_isInUse 20 = .ok (.if_icmp .ne 5, 3) := by decide +kernel
theorem dX4_isInUse_23 : decode cX4_isInUse 23 = .ok (.iconst 1, 1) := by decide +kernel
theorem dX4_isInUse_24 : decode cX4_isInUse 24 = .ok (.ireturn, 1) := by decide +kernel
theorem dX4_isInUse_25 : decode cX4_isInUse 25 = .ok (.iinc 2 1, 3) := by decide +kernel
theorem dX4_isInUse_28 : decode cX4_isInUse 28 = .ok (.goto (-26), 3) := by decide +kernel
theorem dX4_isInUse_31 : decode cX4_isInUse 31 = .ok (.iconst 0, 1) := by decide +kernel
theorem dX4_isInUse_32 : decode cX4_isInUse 32 = .ok (.istore_n 2, 1) := by decide +kernel
theorem dX4_isInUse_33 : decode cX4_isInUse 33 = .ok (.iload_n 2, 1) := by decide +kernel
theorem dX4_isInUse_34 : decode cX4_isInUse 34 = .ok (.aload_n 0, 1) := by decide +kernel
theorem dX4_isInUse_35 : decode cX4_isInUse 35 = .ok (.getfield 77, 3) := by decide +kernel
theorem dX4_isInUse_38 : decode cX4_isInUse 38 = .ok (.if_icmp .ge 21, 3) := by decide +kernel
theorem dX4_isInUse_41 : decode cX4_isInUse 41 = .ok (.aload_n 0, 1) := by decide +kernel
theorem dX4_isInUse_42 : decode cX4_isInUse 42 = .ok (.getfield 23, 3) := by decide +kernel
theorem dX4_isInUse_45 : decode cX4_isInUse 45 = .ok (.iload_n 2, 1) := by decide +kernel
theorem dX4_isInUse_46 : decode cX4_isInUse 46 = .ok (.iaload, 1) := by decide +kernel
theorem dX4_isInUse_47 : decode cX4_isInUse 47 = .ok (.iload_n 1, 1) := by decide +kernel
theorem dX4_isInUse_48 : decode cX4_isInUse 48 = .ok (.if_icmp .ne 5, 3) := by decide +kernel
theorem dX4_isInUse_51 : decode cX4_isInUse 51 = .ok (.iconst 1, 1) := by decide +kernel
theorem dX4_isInUse_52 : decode cX4_isInUse 52 = .ok (.ireturn, 1) := by decide +kernel
theorem dX4_isInUse_53 : decode cX4_isInUse 53 = .ok (.iinc 2 1, 3) := by decide +kernel
theorem dX4_isInUse_56 : decode cX4_isInUse 56 = .ok (.goto (-23), 3) := by decide +kernel
theorem dX4_isInUse_59 : decode cX4_isInUse 59 = .ok (.iconst 0, 1) := by decide +kernel
theorem dX4_isInUse_60 : decode cX4_isInUse 60 = .ok (.ireturn, 1) := by decide +kernel
theorem dX4_hasEntry_0 : decode cX4_hasEntry 0 = .ok (.iconst 0, 1) := by decide +kernel
theorem dX4_hasEntry_1 : decode cX4_hasEntry 1 = .ok (.istore_n 2, 1) := by decide +kernel
theorem dX4_hasEntry_2 : decode cX4_hasEntry 2 = .ok (.iload_n 2, 1) := by decide +kernel
theorem dX4_hasEntry_3 : decode cX4_hasEntry 3 = .ok (.bipush 64, 2) := by decide +kernel
theorem dX4_hasEntry_5 : decode cX4_hasEntry 5 = .ok (.if_icmp .ge 33, 3) := by decide +kernel
theorem dX4_hasEntry_8 : decode cX4_hasEntry 8 = .ok (.aload_n 0, 1) := by decide +kernel
theorem dX4_hasEntry_9 : decode cX4_hasEntry 9 = .ok (.getfield 36, 3) := by decide +kernel
theorem dX4_hasEntry_12 : decode cX4_hasEntry 12 = .ok (.iload_n 2, 1) := by decide +kernel
theorem dX4_hasEntry_13 : decode cX4_hasEntry 13 = .ok (.aaload, 1) := by decide +kernel
theorem dX4_hasEntry_14 : decode cX4_hasEntry 14 = .ok (.ifnull 18, 3) := by decide +kernel
theorem dX4_hasEntry_17 : decode cX4_hasEntry 17 = .ok (.aload_n 0, 1) := by decide +kernel
theorem dX4_hasEntry_18 : decode cX4_hasEntry 18 = .ok (.getfield 36, 3) := by decide +kernel
theorem dX4_hasEntry_21 : decode cX4_hasEntry 21 = .ok (.iload_n 2, 1) := by decide +kernel
theorem dX4_hasEntry_22 : decode cX4_hasEntry 22 = .ok (.aaload, 1) := by decide +kernel
theorem dX4_hasEntry_23 : decode cX4_hasEntry 23 = .ok (.getfield 80, 3) := by decide +kernel
theorem dX4_hasEntry_26 : decode cX4_hasEntry 26 = .ok (.iload_n 1, 1) := by decide +kernel
theorem dX4_hasEntry_27 : decode cX4_hasEntry 27 = .ok (.if_icmp .ne 5, 3) := by decide +kernel
theorem dX4_hasEntry_30 : decode cX4_hasEntry 30 = .ok (.iconst 1, 1) := by decide +kernel
theorem dX4_hasEntry_31 : decode cX4_hasEntry 31 = .ok (.ireturn, 1) := by decide +kernel
theorem dX4_hasEntry_32 : decode cX4_hasEntry 32 = .ok (.iinc 2 1, 3) := by decide +kernel
theorem dX4_hasEntry_35 : decode cX4_hasEntry 35 = .ok (.goto (-33), 3) := by decide +kernel
theorem dX4_hasEntry_38 : decode cX4_hasEntry 38 = .ok (.iconst 0, 1) := by decide +kernel
theorem dX4_hasEntry_39 : decode cX4_hasEntry 39 = .ok (.ireturn, 1) := by decide +kernel
theorem dX4_addGenerator_0 : decode cX4_addGenerator 0 = .ok (.aload_n 0, 1) := by decide +kernel
theorem dX4_addGenerator_1 : decode cX4_addGenerator 1 = .ok (.getfield 19, 3) := by decide +kernel
theorem dX4_addGenerator_4 : decode cX4_addGenerator 4 = .ok (.aload_n 0, 1) := by decide +kernel
theorem dX4_addGenerator_5 : decode cX4_addGenerator 5 = .ok (.getfield 44, 3) := by decide +kernel
theorem dX4_addGenerator_8 : decode cX4_addGenerator 8 = .ok (.new 17, 3) := by decide +kernel
theorem dX4_addGenerator_11 : decode cX4_addGenerator 11 = .ok (.dup, 1) := by decide +kernel
theorem dX4_addGenerator_12 : decode cX4_addGenerator 12 = .ok (.iload_n 1, 1) := by decide +kernel
theorem dX4_addGenerator_13 : decode cX4_addGenerator 13 = .ok (.invokespecial 83, 3) := by decide +kernel
theorem dX4_addGenerator_16 : decode cX4_addGenerator 16 = .ok (.aastore, 1) := by decide +kernel
theorem dX4_addGenerator_17 : decode cX4_addGenerator 17 = .ok (.aload_n 0, 1) := by decide +kernel
theorem dX4_addGenerator_18 : decode cX4_addGenerator 18 = .ok (.dup, 1) := by decide +kernel
theorem dX4_addGenerator_19 : decode cX4_addGenerator 19 = .ok (.getfield 44, 3) := by decide +kernel
theorem dX4_addGenerator_22 : decode cX4_addGenerator 22 = .ok (.iconst 1, 1) := by decide +kernel
theorem dX4_addGenerator_23 : decode cX4_addGenerator 23 = .ok (.iadd, 1) := by decide +kernel
theorem dX4_addGenerator_24 : decode cX4_addGenerator 24 = .ok (.putfield 44, 3) := by decide +kernel
theorem dX4_addGenerator_27 : decode cX4_addGenerator 27 = .ok (.aload_n 0, 1) := by decide +kernel
theorem dX4_addGenerator_28 : decode cX4_addGenerator 28 = .ok (.getfield 44, 3) := by decide +kernel
theorem dX4_addGenerator_31 : decode cX4_addGenerator 31 = .ok (.iconst 1, 1) := by decide +kernel
theorem dX4_addGenerator_32 : decode cX4_addGenerator 32 = .ok (.isub, 1) := by decide +kernel
theorem dX4_addGenerator_33 : decode cX4_addGenerator 33 = .ok (.ireturn, 1) := by decide +kernel
theorem dX4_addResource_0 : decode cX4_addResource 0 = .ok (.aload_n 0, 1) := by decide +kernel
theorem dX4_addResource_1 : decode cX4_addResource 1 = .ok (.getfield 23, 3) := by decide +kernel
theorem dX4_addResource_4 : decode cX4_addResource 4 = .ok (.aload_n 0, 1) := by decide +kernel
theorem dX4_addResource_5 : decode cX4_addResource 5 = .ok (.getfield 77, 3) := by decide +kernel
theorem dX4_addResource_8 : decode cX4_addResource 8 = .ok (.iload_n 1, 1) := by decide +kernel
theorem dX4_addResource_9 : decode cX4_addResource 9 = .ok (.iastore, 1) := by decide +kernel
theorem dX4_addResource_10 : decode cX4_addResource 10 = .ok (.aload_n 0, 1) := by decide +kernel
theorem dX4_addResource_11 : decode cX4_addResource 11 = .ok (.dup, 1) := by decide +kernel
theorem dX4_addResource_12 : decode cX4_addResource 12 = .ok (.getfield 77, 3) := by decide +kernel
theorem dX4_addResource_15 : decode cX4_addResource 15 = .ok (.iconst 1, 1) := by decide +kernel
theorem dX4_addResource_16 : decode cX4_addResource 16 = .ok (.iadd, 1) := by decide +kernel
theorem dX4_addResource_17 : decode cX4_addResource 17 = .ok (.putfield 77, 3) := by decide +kernel
theorem dX4_addResource_20 : decode cX4_addResource 20 = .ok (.aload_n 0, 1) := by decide +kernel
theorem dX4_addResource_21 : decode cX4_addResource 21 = .ok (.getfield 77, 3) := by decide +kernel
theorem dX4_addResource_24 : decode cX4_addResource 24 = .ok (.iconst 1, 1) := by decide +kernel
theorem dX4_addResource_25 : decode cX4_addResource 25 = .ok (.isub, 1) := by decide +kernel
theorem dX4_addResource_26 : decode cX4_addResource 26 = .ok (.ireturn, 1) := by decide +kernel
theorem dX4_importResource_0 : decode cX4_importResource 0 = .ok (.new 34, 3) := by decide +kernel
theorem dX4_importResource_3 : decode cX4_importResource 3 = .ok (.dup, 1) := by decide +kernel
theorem dX4_importResource_4 : decode cX4_importResource 4 = .ok (.iload_n 2, 1) := by decide +kernel
theorem dX4_importResource_5 : decode cX4_importResource 5 = .ok (.invokespecial 86, 3) := by decide +kernel
theorem dX4_importResource_8 : decode cX4_importResource 8 = .ok (.astore_n 3, 1) := by decide +kernel
theorem dX4_importResource_9 : decode cX4_importResource 9 = .ok (.iconst 0, 1) := by decide +kernel
theorem dX4_importResource_10 : decode cX4_importResource 10 = .ok (.istore 4, 2) := by decide +kernel
theorem dX4_importResource_12 : decode cX4_importResource 12 = .ok (.iload 4, 2) := by decide +kernel
theorem dX4_importResource_14 : decode cX4_importResource 14 = .ok (.iconst 3, 1) := by decide +kernel
theorem dX4_importResource_15 : decode cX4_importResource 15 = .ok (.if_icmp .ge 41, 3) := by decide +kernel
theorem dX4_importResource_18 : decode cX4_importResource 18 = .ok (.aload_n 0, 1) := by decide +kernel
theorem dX4_importResource_19 : decode cX4_importResource 19 = .ok (.iload_n 1, 1) := by decide +kernel
theorem dX4_importResource_20 : decode cX4_importResource 20 = .ok (.invokevirtual 87, 3) := by decide +kernel
theorem dX4_importResource_23 : decode cX4_importResource 23 = .ok (.iload 4, 2) := by decide +kernel
theorem dX4_importResource_25 : decode cX4_importResource 25 = .ok (.iconst 4, 1) := by decide +kernel
theorem dX4_importResource_26 : decode cX4_importResource 26 = .ok (.invokevirtual 74, 3) := by decide +kernel
theorem dX4_importResource_29 : decode cX4_importResource 29 = .ok (.ifCond .ne 21, 3) := by decide +kernel
theorem dX4_importResource_32 : decode cX4_importResource 32 = .ok (.aload_n 3, 1) := by decide +kernel
theorem dX4_importResource_33 : decode cX4_importResource 33 = .ok (.getfield 90, 3) := by decide +kernel
theorem dX4_importResource_36 : decode cX4_importResource 36 = .ok (.iload 4, 2) := by decide +kernel
theorem dX4_importResource_38 : decode cX4_importResource 38 = .ok (.aload_n 0, 1) := by decide +kernel
theorem dX4_importResource_39 : decode cX4_importResource 39 = .ok (.getfield 27, 3) := by decide +kernel
theorem dX4_importResource_42 : decode cX4_importResource 42 = .ok (.iload_n 2, 1) := by decide +kernel
theorem dX4_importResource_43 : decode cX4_importResource 43 = .ok (.iconst 3, 1) := by decide +kernel
theorem dX4_importResource_44 : decode cX4_importResource 44 = .ok (.imul, 1) := by decide +kernel
theorem dX4_importResource_45 : decode cX4_importResource 45 = .ok (.iload 4, 2) := by decide +kernel
theorem dX4_importResource_47 : decode cX4_importResource 47 = .ok (.iadd, 1) := by decide +kernel
theorem dX4_importResource_48 : decode cX4_importResource 48 = .ok (.iaload, 1) := by decide +kernel
theorem dX4_importResource_49 : decode cX4_importResource 49 = .ok (.iastore, 1) := by decide +kernel
theorem dX4_importResource_50 : decode cX4_importResource 50 = .ok (.iinc 4 1, 3) := by decide +kernel
theorem dX4_importResource_53 : decode cX4_importResource 53 = .ok (.goto (-41), 3) := by decide +kernel
theorem dX4_importResource_56 : decode cX4_importResource 56 = .ok (.aload_n 0, 1) := by decide +kernel
theorem dX4_importResource_57 : decode cX4_importResource 57 = .ok (.getfield 36, 3) := by decide +kernel
theorem dX4_importResource_60 : decode cX4_importResource 60 = .ok (.iload_n 1, 1) := by decide +kernel
theorem dX4_importResource_61 : decode cX4_importResource 61 = .ok (.aload_n 3, 1) := by decide +kernel
theorem dX4_importResource_62 : decode cX4_importResource 62 = .ok (.aastore, 1) := by decide +kernel
theorem dX4_importResource_63 : decode cX4_importResource 63 = .ok (.return_, 1) := by decide +kernel
theorem dX4_takeComputedValue_0 : decode cX4_takeComputedValue 0 = .ok (.iload_n 1, 1) := by decide +kernel
theorem dX4_takeComputedValue_1 : decode cX4_takeComputedValue 1 = .ok (.bipush 7, 2) := by decide +kernel
theorem dX4_takeComputedValue_3 : decode cX4_takeComputedValue 3 = .ok (.aload_n 0, 1) := by decide +kernel
theorem dX4_takeComputedValue_4 : decode cX4_takeComputedValue 4 = .ok (.getfield 40, 3) := by decide +kernel
theorem dX4_takeComputedValue_7 : decode cX4_takeComputedValue 7 = .ok (.iload_n 1, 1) := by decide +kernel
theorem dX4_takeComputedValue_8 : decode cX4_takeComputedValue 8 = .ok (.iaload, 1) := by decide +kernel
theorem dX4_takeComputedValue_9 : decode cX4_takeComputedValue 9 = .ok (.imul, 1) := by decide +kernel
theorem dX4_takeComputedValue_10 : decode cX4_takeComputedValue 10 = .ok (.iadd, 1) := by decide +kernel
theorem dX4_takeComputedValue_11 : decode cX4_takeComputedValue 11 = .ok (.bipush 64, 2) := by decide +kernel
theorem dX4_takeComputedValue_13 : decode cX4_takeComputedValue 13 = .ok (.irem, 1) := by decide +kernel
theorem dX4_takeComputedValue_14 : decode cX4_takeComputedValue 14 = .ok (.aload_n 0, 1) := by decide +kernel
theorem dX4_takeComputedValue_15 : decode cX4_takeComputedValue 15 = .ok (.iload_n 1, 1) := by decide +kernel
theorem dX4_takeComputedValue_16 : decode cX4_takeComputedValue 16 = .ok (.invokevirtual 87, 3) := by decide +kernel
theorem dX4_takeComputedValue_19 : decode cX4_takeComputedValue 19 = .ok (.getfield 93, 3) := by decide +kernel
theorem dX4_takeComputedValue_22 : decode cX4_takeComputedValue 22 = .ok (.ishl, 1) := by decide +kernel
theorem dX4_takeComputedValue_23 : decode cX4_takeComputedValue 23 = .ok (.istore_n 2, 1) := by decide +kernel
theorem dX4_takeComputedValue_24 : decode cX4_takeComputedValue 24 = .ok (.aload_n 0, 1) := by decide +kernel
theorem dX4_takeComputedValue_25 : decode cX4_takeComputedValue 25 = .ok (.getfield 40, 3) := by decide +kernel
theorem dX4_takeComputedValue_28 : decode cX4_takeComputedValue 28 = .ok (.iload_n 1, 1) := by decide +kernel
theorem dX4_takeComputedValue_29 : decode cX4_takeComputedValue 29 = .ok (.dup2, 1) := by decide +kernel
theorem dX4_takeComputedValue_30 : decode cX4_takeComputedValue 30 = .ok (.iaload, 1) := by decide +kernel
theorem dX4_takeComputedValue_31 : decode cX4_takeComputedValue 31 = .ok (.iconst 1, 1) := by decide +kernel
theorem dX4_takeComputedValue_32 : decode cX4_takeComputedValue 32 = .ok (.iadd, 1) := by decide +kernel
theorem dX4_takeComputedValue_33 : decode cX4_takeComputedValue 33 = .ok (.iastore, 1) := by decide +kernel
theorem dX4_takeComputedValue_34 : decode cX4_takeComputedValue 34 = .ok (.iload_n 2, 1) := by decide +kernel
theorem dX4_takeComputedValue_35 : decode cX4_takeComputedValue 35 = .ok (.ireturn, 1) := by decide +kernel
theorem dX4_upgradeType_0 : decode cX4_upgradeType 0 = .ok (.aload_n 0, 1) := by decide +kernel
theorem dX4_upgradeType_1 : decode cX4_upgradeType 1 = .ok (.getfield 11, 3) := by decide +kernel
theorem dX4_upgradeType_4 : decode cX4_upgradeType 4 = .ok (.iload_n 1, 1) := by decide +kernel
theorem dX4_upgradeType_5 : decode cX4_upgradeType 5 = .ok (.aaload, 1) := by decide +kernel
theorem dX4_upgradeType_6 : decode cX4_upgradeType 6 = .ok (.astore_n 2, 1) := by decide +kernel
theorem dX4_upgradeType_7 : decode cX4_upgradeType 7 = .ok (.aload_n 2, 1) := by decide +kernel
theorem dX4_upgradeType_8 : decode cX4_upgradeType 8 = .ok (.getfield 96, 3) := by decide +kernel
theorem dX4_upgradeType_11 : decode cX4_upgradeType 11 = .ok (.iconst 0, 1) := by decide +kernel
theorem dX4_upgradeType_12 : decode cX4_upgradeType 12 = .ok (.iaload, 1) := by decide +kernel
theorem dX4_upgradeType_13 : decode cX4_upgradeType 13 = .ok (.istore_n 3, 1) := by decide +kernel
theorem dX4_upgradeType_14 : decode cX4_upgradeType 14 = .ok (.aload_n 2, 1) := by decide +kernel
theorem dX4_upgradeType_15 : decode cX4_upgradeType 15 = .ok (.getfield 96, 3) := by decide +kernel
theorem dX4_upgradeType_18 : decode cX4_upgradeType 18 = .ok (.iconst 0, 1) := by decide +kernel
theorem dX4_upgradeType_19 : decode cX4_upgradeType 19 = .ok (.aload_n 2, 1) := by decide +kernel
theorem dX4_upgradeType_20 : decode cX4_upgradeType 20 = .ok (.getfield 96, 3) := by decide +kernel
theorem dX4_upgradeType_23 : decode cX4_upgradeType 23 = .ok (.iconst 1, 1) := by decide +kernel
theorem dX4_upgradeType_24 : decode cX4_upgradeType 24 = .ok (.iaload, 1) := by decide +kernel
theorem dX4_upgradeType_25 : decode cX4_upgradeType 25 = .ok (.iastore, 1) := by decide +kernel
theorem dX4_upgradeType_26 : decode cX4_upgradeType 26 = .ok (.aload_n 2, 1) := by decide +kernel
theorem dX4_upgradeType_27 : decode cX4_upgradeType 27 = .ok (.getfield 96, 3) := by decide +kernel
theorem dX4_upgradeType_30 : decode cX4_upgradeType 30 = .ok (.iconst 1, 1) := by decide +kernel
theorem dX4_upgradeType_31 : decode cX4_upgradeType 31 = .ok (.iload_n 3, 1) := by decide +kernel
theorem dX4_upgradeType_32 : decode cX4_upgradeType 32 = .ok (.iastore, 1) := by decide +kernel
theorem dX4_upgradeType_33 : decode cX4_upgradeType 33 = .ok (.aload_n 2, 1) := by decide +kernel
theorem dX4_upgradeType_34 : decode cX4_upgradeType 34 = .ok (.dup, 1) := by decide +kernel
theorem dX4_upgradeType_35 : decode cX4_upgradeType 35 = .ok (.getfield 93, 3) := by decide +kernel
theorem dX4_upgradeType_38 : decode cX4_upgradeType 38 = .ok (.iconst 1, 1) := by decide +kernel
theorem dX4_upgradeType_39 : decode cX4_upgradeType 39 = .ok (.iadd, 1) := by decide +kernel
theorem dX4_upgradeType_40 : decode cX4_upgradeType 40 = .ok (.putfield 93, 3) := by decide +kernel
theorem dX4_upgradeType_43 : decode cX4_upgradeType 43 = .ok (.iconst 0, 1) := by decide +kernel
theorem dX4_upgradeType_44 : decode cX4_upgradeType 44 = .ok (.istore 4, 2) := by decide +kernel
theorem dX4_upgradeType_46 : decode cX4_upgradeType 46 = .ok (.iload 4, 2) := by decide +kernel
theorem dX4_upgradeType_48 : decode cX4_upgradeType 48 = .ok (.aload_n 0, 1) := by decide +kernel
theorem dX4_upgradeType_49 : decode cX4_upgradeType 49 = .ok (.getfield 44, 3) := by decide +kernel
theorem dX4_upgradeType_52 : decode cX4_upgradeType 52 = .ok (.if_icmp .ge 21, 3) := by decide +kernel
theorem dX4_upgradeType_55 : decode cX4_upgradeType 55 = .ok (.aload_n 0, 1) := by decide +kernel
theorem dX4_upgradeType_56 : decode cX4_upgradeType 56 = .ok (.aload_n 0, 1) := by decide +kernel
theorem dX4_upgradeType_57 : decode cX4_upgradeType 57 = .ok (.getfield 19, 3) := by decide +kernel
theorem dX4_upgradeType_60 : decode cX4_upgradeType 60 = .ok (.iload 4, 2) := by decide +kernel
theorem dX4_upgradeType_62 : decode cX4_upgradeType 62 = .ok (.aaload, 1) := by decide +kernel
theorem dX4_upgradeType_63 : decode cX4_upgradeType 63 = .ok (.iload_n 1, 1) := by decide +kernel
theorem dX4_upgradeType_64 : decode cX4_upgradeType 64 = .ok (.invokevirtual 99, 3) := by decide +kernel
theorem dX4_upgradeType_67 : decode cX4_upgradeType 67 = .ok (.iinc 4 1, 3) := by decide +kernel
theorem dX4_upgradeType_70 : decode cX4_upgradeType 70 = .ok (.goto (-24), 3) := by decide +kernel
theorem dX4_upgradeType_73 : decode cX4_upgradeType 73 = .ok (.iconst 0, 1) := by decide +kernel
theorem dX4_upgradeType_74 : decode cX4_upgradeType 74 = .ok (.istore 4, 2) := by decide +kernel
theorem dX4_upgradeType_76 : decode cX4_upgradeType 76 = .ok (.iload 4, 2) := by decide +kernel
theorem dX4_upgradeType_78 : decode cX4_upgradeType 78 = .ok (.aload_n 0, 1) := by decide +kernel
theorem dX4_upgradeType_79 : decode cX4_upgradeType 79 = .ok (.getfield 77, 3) := by decide +kernel
theorem dX4_upgradeType_82 : decode cX4_upgradeType 82 = .ok (.if_icmp .ge 31, 3) := by decide +kernel
theorem dX4_upgradeType_85 : decode cX4_upgradeType 85 = .ok (.aload_n 0, 1) := by decide +kernel
theorem dX4_upgradeType_86 : decode cX4_upgradeType 86 = .ok (.getfield 23, 3) := by decide +kernel
theorem dX4_upgradeType_89 : decode cX4_upgradeType 89 = .ok (.iload 4, 2) := by decide +kernel
theorem dX4_upgradeType_91 : decode cX4_upgradeType 91 = .ok (.iaload, 1) := by decide +kernel
theorem dX4_upgradeType_92 : decode cX4_upgradeType 92 = .ok (.iload_n 1, 1) := by decide +kernel
theorem dX4_upgradeType_93 : decode cX4_upgradeType 93 = .ok (.if_icmp .ne 14, 3) := by decide +kernel
theorem dX4_upgradeType_96 : decode cX4_upgradeType 96 = .ok (.aload_n 0, 1) := by decide +kernel
theorem dX4_upgradeType_97 : decode cX4_upgradeType 97 = .ok (.getfield 27, 3) := by decide +kernel
theorem dX4_upgradeType_100 : decode cX4_upgradeType 100 = .ok (.iload 4, 2) := by decide +kernel
theorem dX4_upgradeType_102 : decode cX4_upgradeType 102 = .ok (.iconst 3, 1) := by decide +kernel
theorem dX4_upgradeType_103 : decode cX4_upgradeType 103 = .ok (.imul, 1) := by decide +kernel
theorem dX4_upgradeType_104 : decode cX4_upgradeType 104 = .ok (.invokestatic 103, 3) := by decide +kernel
theorem dX4_upgradeType_107 : decode cX4_upgradeType 107 = .ok (.iinc 4 1, 3) := by decide +kernel
theorem dX4_upgradeType_110 : decode cX4_upgradeType 110 = .ok (.goto (-34), 3) := by decide +kernel
theorem dX4_upgradeType_113 : decode cX4_upgradeType 113 = .ok (.iconst 0, 1) := by decide +kernel
theorem dX4_upgradeType_114 : decode cX4_upgradeType 114 = .ok (.istore 4, 2) := by decide +kernel
theorem dX4_upgradeType_116 : decode cX4_upgradeType 116 = .ok (.iload 4, 2) := by decide +kernel
theorem dX4_upgradeType_118 : decode cX4_upgradeType 118 = .ok (.aload_n 0, 1) := by decide +kernel
theorem dX4_upgradeType_119 : decode cX4_upgradeType 119 = .ok (.invokevirtual 48, 3) := by decide +kernel
theorem dX4_upgradeType_122 : decode cX4_upgradeType 122 = .ok (.if_icmp .ge 39, 3) := by decide +kernel
theorem dX4_upgradeType_125 : decode cX4_upgradeType 125 = .ok (.aload_n 0, 1) := by decide +kernel
theorem dX4_upgradeType_126 : decode cX4_upgradeType 126 = .ok (.getfield 36, 3) := by decide +kernel
theorem dX4_upgradeType_129 : decode cX4_upgradeType 129 = .ok (.iload 4, 2) := by decide +kernel
theorem dX4_upgradeType_131 : decode cX4_upgradeType 131 = .ok (.aaload, 1) := by decide +kernel
theorem dX4_upgradeType_132 : decode cX4_upgradeType 132 = .ok (.ifnull 23, 3) := by decide +kernel
theorem dX4_upgradeType_135 : decode cX4_upgradeType 135 = .ok (.aload_n 0, 1) := by decide +kernel
theorem dX4_upgradeType_136 : decode cX4_upgradeType 136 = .ok (.iload 4, 2) := by decide +kernel
theorem dX4_upgradeType_138 : decode cX4_upgradeType 138 = .ok (.invokevirtual 107, 3) := by decide +kernel
theorem dX4_upgradeType_141 : decode cX4_upgradeType 141 = .ok (.iload_n 1, 1) := by decide +kernel
theorem dX4_upgradeType_142 : decode cX4_upgradeType 142 = .ok (.if_icmp .ne 13, 3) := by decide +kernel
theorem dX4_upgradeType_145 : decode cX4_upgradeType 145 = .ok (.aload_n 0, 1) := by decide +kernel
theorem dX4_upgradeType_146 : decode cX4_upgradeType 146 = .ok (.getfield 36, 3) := by decide +kernel
theorem dX4_upgradeType_149 : decode cX4_upgradeType 149 = .ok (.iload 4, 2) := by decide +kernel
theorem dX4_upgradeType_151 : decode cX4_upgradeType 151 = .ok (.aaload, 1) := by decide +kernel
theorem dX4_upgradeType_152 : decode cX4_upgradeType 152 = .ok (.invokevirtual 110, 3) := by decide +kernel
theorem dX4_upgradeType_155 : decode cX4_upgradeType 155 = .ok (.iinc 4 1, 3) := by decide +kernel
theorem dX4_upgradeType_158 : decode cX4_upgradeType 158 = .ok (.goto (-42), 3) := by decide +kernel
theorem dX4_upgradeType_161 : decode cX4_upgradeType 161 = .ok (.aload_n 0, 1) := by decide +kernel
theorem dX4_upgradeType_162 : decode cX4_upgradeType 162 = .ok (.dup, 1) := by decide +kernel
theorem dX4_upgradeType_163 : decode cX4_upgradeType 163 = .ok (.getfield 113, 3) := by decide +kernel
theorem dX4_upgradeType_166 : decode cX4_upgradeType 166 = .ok (.iconst 1, 1) := by decide +kernel
theorem dX4_upgradeType_167 : decode cX4_upgradeType 167 = .ok (.iadd, 1) := by decide +kernel
theorem dX4_upgradeType_168 : decode cX4_upgradeType 168 = .ok (.putfield 113, 3) := by decide +kernel
theorem dX4_upgradeType_171 : decode cX4_upgradeType 171 = .ok (.return_, 1) := by decide +kernel
theorem dX4_turnSources_0 : decode cX4_turnSources 0 = .ok (.iconst 0, 1) := by decide +kernel
theorem dX4_turnSources_1 : decode cX4_turnSources 1 = .ok (.istore_n 3, 1) := by decide +kernel
theorem dX4_turnSources_2 : decode cX4_turnSources 2 = .ok (.iload_n 3, 1) := by decide +kernel
theorem dX4_turnSources_3 : decode cX4_turnSources 3 = .ok (.iconst 3, 1) := by decide +kernel
theorem dX4_turnSources_4 : decode cX4_turnSources 4 = .ok (.if_icmp .ge 26, 3) := by decide +kernel
theorem dX4_turnSources_7 : decode cX4_turnSources 7 = .ok (.aload_n 1, 1) := by decide +kernel
theorem dX4_turnSources_8 : decode cX4_turnSources 8 = .ok (.getfield 116, 3) := by decide +kernel
theorem dX4_turnSources_11 : decode cX4_turnSources 11 = .ok (.iload_n 3, 1) := by decide +kernel
theorem dX4_turnSources_12 : decode cX4_turnSources 12 = .ok (.aload_n 0, 1) := by decide +kernel
theorem dX4_turnSources_13 : decode cX4_turnSources 13 = .ok (.aload_n 1, 1) := by decide +kernel
theorem dX4_turnSources_14 : decode cX4_turnSources 14 = .ok (.getfield 116, 3) := by decide +kernel
theorem dX4_turnSources_17 : decode cX4_turnSources 17 = .ok (.iload_n 3, 1) := by decide +kernel
theorem dX4_turnSources_18 : decode cX4_turnSources 18 = .ok (.iaload, 1) := by decide +kernel
theorem dX4_turnSources_19 : decode cX4_turnSources 19 = .ok (.iload_n 2, 1) := by decide +kernel
theorem dX4_turnSources_20 : decode cX4_turnSources 20 = .ok (.invokevirtual 119, 3) := by decide +kernel
theorem dX4_turnSources_23 : decode cX4_turnSources 23 = .ok (.iastore, 1) := by decide +kernel
theorem dX4_turnSources_24 : decode cX4_turnSources 24 = .ok (.iinc 3 1, 3) := by decide +kernel
theorem dX4_turnSources_27 : decode cX4_turnSources 27 = .ok (.goto (-25), 3) := by decide +kernel
theorem dX4_turnSources_30 : decode cX4_turnSources 30 = .ok (.aload_n 1, 1) := by decide +kernel
theorem dX4_turnSources_31 : decode cX4_turnSources 31 = .ok (.getfield 56, 3) := by decide +kernel
theorem dX4_turnSources_34 : decode cX4_turnSources 34 = .ok (.iload_n 2, 1) := by decide +kernel
theorem dX4_turnSources_35 : decode cX4_turnSources 35 = .ok (.if_icmp .ne 29, 3) := by decide +kernel
theorem dX4_turnSources_38 : decode cX4_turnSources 38 = .ok (.aload_n 1, 1) := by decide +kernel
theorem dX4_turnSources_39 : decode cX4_turnSources 39 = .ok (.getfield 116, 3) := by decide +kernel
theorem dX4_turnSources_42 : decode cX4_turnSources 42 = .ok (.iconst 0, 1) := by decide +kernel
theorem dX4_turnSources_43 : decode cX4_turnSources 43 = .ok (.iaload, 1) := by decide +kernel
theorem dX4_turnSources_44 : decode cX4_turnSources 44 = .ok (.istore_n 3, 1) := by decide +kernel
theorem dX4_turnSources_45 : decode cX4_turnSources 45 = .ok (.aload_n 1, 1) := by decide +kernel
theorem dX4_turnSources_46 : decode cX4_turnSources 46 = .ok (.getfield 116, 3) := by decide +kernel
theorem dX4_turnSources_49 : decode cX4_turnSources 49 = .ok (.iconst 0, 1) := by decide +kernel
theorem dX4_turnSources_50 : decode cX4_turnSources 50 = .ok (.aload_n 1, 1) := by decide +kernel
theorem dX4_turnSources_51 : decode cX4_turnSources 51 = .ok (.getfield 116, 3) := by decide +kernel
theorem dX4_turnSources_54 : decode cX4_turnSources 54 = .ok (.iconst 1, 1) := by decide +kernel
theorem dX4_turnSources_55 : decode cX4_turnSources 55 = .ok (.iaload, 1) := by decide +kernel
theorem dX4_turnSources_56 : decode cX4_turnSources 56 = .ok (.iastore, 1) := by decide +kernel
theorem dX4_turnSources_57 : decode cX4_turnSources 57 = .ok (.aload_n 1, 1) := by decide +kernel
theorem dX4_turnSources_58 : decode cX4_turnSources 58 = .ok (.getfield 116, 3) := by decide +kernel
theorem dX4_turnSources_61 : decode cX4_turnSources 61 = .ok (.iconst 1, 1) := by decide +kernel
theorem dX4_turnSources_62 : decode cX4_turnSources 62 = .ok (.iload_n 3, 1) := by decide +kernel
theorem dX4_turnSources_63 : decode cX4_turnSources 63 = .ok (.iastore, 1) := by decide +kernel
theorem dX4_turnSources_64 : decode cX4_turnSources 64 = .ok (.return_, 1) := by decide +kernel
theorem dX4_turnedSource_0 : decode cX4_turnedSource 0 = .ok (.iload_n 1, 1) := by decide +kernel
theorem dX4_turnedSource_1 : decode cX4_turnedSource 1 = .ok (.bipush 10, 2) := by decide +kernel
theorem dX4_turnedSource_3 : decode cX4_turnedSource 3 = .ok (.if_icmp .lt 11, 3) := by decide +kernel
theorem dX4_turnedSource_6 : decode cX4_turnedSource 6 = .ok (.iload_n 1, 1) := by decide +kernel
theorem dX4_turnedSource_7 : decode cX4_turnedSource 7 = .ok (.invokestatic 71, 3) := by decide +kernel
theorem dX4_turnedSource_10 : decode cX4_turnedSource 10 = .ok (.iconst 1, 1) := by decide +kernel
theorem dX4_turnedSource_11 : decode cX4_turnedSource 11 = .ok (.if_icmp .le 5, 3) := by decide +kernel
theorem dX4_turnedSource_14 : decode cX4_turnedSource 14 = .ok (.iload_n 1, 1) := by decide +kernel
theorem dX4_turnedSource_15 : decode cX4_turnedSource 15 = .ok (.ireturn, 1) := by decide +kernel
theorem dX4_turnedSource_16 : decode cX4_turnedSource 16 = .ok (.aload_n 0, 1) := by decide +kernel
theorem dX4_turnedSource_17 : decode cX4_turnedSource 17 = .ok (.getfield 19, 3) := by decide +kernel
theorem dX4_turnedSource_20 : decode cX4_turnedSource 20 = .ok (.iload_n 1, 1) := by decide +kernel
theorem dX4_turnedSource_21 : decode cX4_turnedSource 21 = .ok (.invokestatic 63, 3) := by decide +kernel
theorem dX4_turnedSource_24 : decode cX4_turnedSource 24 = .ok (.aaload, 1) := by decide +kernel
theorem dX4_turnedSource_25 : decode cX4_turnedSource 25 = .ok (.getfield 56, 3) := by decide +kernel
theorem dX4_turnedSource_28 : decode cX4_turnedSource 28 = .ok (.iload_n 2, 1) := by decide +kernel
theorem dX4_turnedSource_29 : decode cX4_turnedSource 29 = .ok (.if_icmp .eq 5, 3) := by decide +kernel
theorem dX4_turnedSource_32 : decode cX4_turnedSource 32 = .ok (.iload_n 1, 1) := by decide +kernel
theorem dX4_turnedSource_33 : decode cX4_turnedSource 33 = .ok (.ireturn, 1) := by decide +kernel
theorem dX4_turnedSource_34 : decode cX4_turnedSource 34 = .ok (.iload_n 1, 1) := by decide +kernel
theorem dX4_turnedSource_35 : decode cX4_turnedSource 35 = .ok (.invokestatic 71, 3) := by decide +kernel
theorem dX4_turnedSource_38 : decode cX4_turnedSource 38 = .ok (.ifCond .ne 9, 3) := by decide +kernel
theorem dX4_turnedSource_41 : decode cX4_turnedSource 41 = .ok (.iload_n 1, 1) := by decide +kernel
theorem dX4_turnedSource_42 : decode cX4_turnedSource 42 = .ok (.iconst 1, 1) := by decide +kernel
theorem dX4_turnedSource_43 : decode cX4_turnedSource 43 = .ok (.iadd, 1) := by decide +kernel
theorem dX4_turnedSource_44 : decode cX4_turnedSource 44 = .ok (.goto 6, 3) := by decide +kernel
theorem dX4_turnedSource_47 : decode cX4_turnedSource 47 = .ok (.iload_n 1, 1) := by decide +kernel
theorem dX4_turnedSource_48 : decode cX4_turnedSource 48 = .ok (.iconst 1, 1) := by decide +kernel
theorem dX4_turnedSource_49 : decode cX4_turnedSource 49 = .ok (.isub, 1) := by decide +kernel
theorem dX4_turnedSource_50 : decode cX4_turnedSource 50 = .ok (.ireturn, 1) := by decide +kernel
theorem dX5_init_0 : decode cX5_init 0 = .ok (.aload_n 0, 1) := by decide +kernel
theorem dX5_init_1 : decode cX5_init 1 = .ok (.invokespecial 3, 3) := by decide +kernel
theorem dX5_init_4 : decode cX5_init 4 = .ok (.aload_n 0, 1) := by decide +kernel
theorem dX5_init_5 : decode cX5_init 5 = .ok (.bipush 8, 2) := by decide +kernel
theorem dX5_init_7 : decode cX5_init 7 = .ok (.newarray .int, 2) := by decide +kernel
theorem dX5_init_9 : decode cX5_init 9 = .ok (.putfield 9, 3) := by decide +kernel
theorem dX5_init_12 : decode cX5_init 12 = .ok (.aload_n 0, 1) := by decide +kernel
theorem dX5_init_13 : decode cX5_init 13 = .ok (.iconst 3, 1) := by decide +kernel
theorem dX5_init_14 : decode cX5_init 14 = .ok (.newarray .int, 2) := by decide +kernel
theorem dX5_init_16 : decode cX5_init 16 = .ok (.putfield 15, 3) := by decide +kernel
theorem dX5_init_19 : decode cX5_init 19 = .ok (.aload_n 0, 1) := by decide +kernel
theorem dX5_init_20 : decode cX5_init 20 = .ok (.iload_n 1, 1) := by decide +kernel
theorem dX5_init_21 : decode cX5_init 21 = .ok (.putfield 18, 3) := by decide +kernel
theorem dX5_init_24 : decode cX5_init 24 = .ok (.aload_n 0, 1) := by decide +kernel
theorem dX5_init_25 : decode cX5_init 25 = .ok (.getfield 15, 3) := by decide +kernel
theorem dX5_init_28 : decode cX5_init 28 = .ok (.iconst (-1), 1) := by decide +kernel
theorem dX5_init_29 : decode cX5_init 29 = .ok (.invokestatic 22, 3) := by decide +kernel
theorem dX5_init_32 : decode cX5_init 32 = .ok (.return_, 1) := by decide +kernel
theorem dX5_hasKey_0 : decode cX5_hasKey 0 = .ok (.iconst 0, 1) := by decide +kernel
theorem dX5_hasKey_1 : decode cX5_hasKey 1 = .ok (.istore_n 2, 1) := by decide +kernel
theorem dX5_hasKey_2 : decode cX5_hasKey 2 = .ok (.iload_n 2, 1) := by decide +kernel
theorem dX5_hasKey_3 : decode cX5_hasKey 3 = .ok (.aload_n 0, 1) := by decide +kernel
theorem dX5_hasKey_4 : decode cX5_hasKey 4 = .ok (.getfield 28, 3) := by decide +kernel
theorem dX5_hasKey_7 : decode cX5_hasKey 7 = .ok (.if_icmp .ge 21, 3) := by decide +kernel
theorem dX5_hasKey_10 : decode cX5_hasKey 10 = .ok (.aload_n 0, 1) := by decide +kernel
theorem dX5_hasKey_11 : decode cX5_hasKey 11 = .ok (.getfield 9, 3) := by decide +kernel
theorem dX5_hasKey_14 : decode cX5_hasKey 14 = .ok (.iload_n 2, 1) := by decide +kernel
theorem dX5_hasKey_15 : decode cX5_hasKey 15 = .ok (.iaload, 1) := by decide +kernel
theorem dX5_hasKey_16 : decode cX5_hasKey 16 = .ok (.iload_n 1, 1) := by decide +kernel
theorem dX5_hasKey_17 : decode cX5_hasKey 17 = .ok (.if_icmp .ne 5, 3) := by decide +kernel
theorem dX5_hasKey_20 : decode cX5_hasKey 20 = .ok (.iconst 1, 1) := by decide +kernel
theorem dX5_hasKey_21 : decode cX5_hasKey 21 = .ok (.ireturn, 1) := by decide +kernel
theorem dX5_hasKey_22 : decode cX5_hasKey 22 = .ok (.iinc 2 1, 3) := by decide +kernel
theorem dX5_hasKey_25 : decode cX5_hasKey 25 = .ok (.goto (-23), 3) := by decide +kernel
theorem dX5_hasKey_28 : decode cX5_hasKey 28 = .ok (.iconst 0, 1) := by decide +kernel
theorem dX5_hasKey_29 : decode cX5_hasKey 29 = .ok (.ireturn, 1) := by decide +kernel
theorem dX5_hasKeysOf_0 : decode cX5_hasKeysOf 0 = .ok (.iconst 0, 1) := by decide +kernel
theorem dX5_hasKeysOf_1 : decode cX5_hasKeysOf 1 = .ok (.istore_n 2, 1) := by decide +kernel
theorem dX5_hasKeysOf_2 : decode cX5_hasKeysOf 2 = .ok (.iload_n 2, 1) := by decide +kernel
theorem dX5_hasKeysOf_3 : decode cX5_hasKeysOf 3 = .ok (.aload_n 1, 1) := by decide +kernel
theorem dX5_hasKeysOf_4 : decode cX5_hasKeysOf 4 = .ok (.getfield 28, 3) := by decide +kernel
theorem dX5_hasKeysOf_7 : decode cX5_hasKeysOf 7 = .ok (.if_icmp .ge 24, 3) := by decide +kernel
theorem dX5_hasKeysOf_10 : decode cX5_hasKeysOf 10 = .ok (.aload_n 0, 1) := by decide +kernel
theorem dX5_hasKeysOf_11 : decode cX5_hasKeysOf 11 = .ok (.aload_n 1, 1) := by decide +kernel
theorem dX5_hasKeysOf_12 : decode cX5_hasKeysOf 12 = .ok (.getfield 9, 3) := by decide +kernel
theorem dX5_hasKeysOf_15 : decode cX5_hasKeysOf 15 = .ok (.iload_n 2, 1) := by decide +kernel
theorem dX5_hasKeysOf_16 : decode cX5_hasKeysOf 16 = .ok (.iaload, 1) := by decide +kernel
theorem dX5_hasKeysOf_17 : decode cX5_hasKeysOf 17 = .ok (.invokevirtual 31, 3) := by decide +kernel
theorem dX5_hasKeysOf_20 : decode cX5_hasKeysOf 20 = .ok (.ifCond .ne 5, 3) := by decide +kernel
theorem dX5_hasKeysOf_23 : decode cX5_hasKeysOf 23 = .ok (.iconst 0, 1) := by decide +kernel
theorem dX5_hasKeysOf_24 : decode cX5_hasKeysOf 24 = .ok (.ireturn, 1) := by decide +kernel
theorem dX5_hasKeysOf_25 : decode cX5_hasKeysOf 25 = .ok (.iinc 2 1, 3) := by decide +kernel
theorem dX5_hasKeysOf_28 : decode cX5_hasKeysOf 28 = .ok (.goto (-26), 3) := by decide +kernel
theorem dX5_hasKeysOf_31 : decode cX5_hasKeysOf 31 = .ok (.iconst 1, 1) := by decide +kernel
theorem dX5_hasKeysOf_32 : decode cX5_hasKeysOf 32 = .ok (.ireturn, 1) := by decide +kernel
theorem dX5_putKey_0 : decode cX5_putKey 0 = .ok (.aload_n 0, 1) := by decide +kernel
theorem dX5_putKey_1 : decode cX5_putKey 1 = .ok (.getfield 28, 3) := by decide +kernel
theorem dX5_putKey_4 : decode cX5_putKey 4 = .ok (.istore_n 3, 1) := by decide +kernel
theorem dX5_putKey_5 : decode cX5_putKey 5 = .ok (.iload_n 3, 1) := by decide +kernel
theorem dX5_putKey_6 : decode cX5_putKey 6 = .ok (.iload_n 1, 1) := by decide +kernel
theorem dX5_putKey_7 : decode cX5_putKey 7 = .ok (.if_icmp .le 23, 3) := by decide +kernel
theorem dX5_putKey_10 : decode cX5_putKey 10 = .ok (.aload_n 0, 1) := by decide +kernel
theorem dX5_putKey_11 : decode cX5_putKey 11 = .ok (.getfield 9, 3) := by decide +kernel
theorem dX5_putKey_14 : decode cX5_putKey 14 = .ok (.iload_n 3, 1) := by decide +kernel
theorem dX5_putKey_15 : decode cX5_putKey 15 = .ok (.aload_n 0, 1) := by decide +kernel
theorem dX5_putKey_16 : decode cX5_putKey 16 = .ok (.getfield 9, 3) := by decide +kernel
theorem dX5_putKey_19 : decode cX5_putKey 19 = .ok (.iload_n 3, 1) := by decide +kernel
theorem dX5_putKey_20 : decode cX5_putKey 20 = .ok (.iconst 1, 1) := by decide +kernel
theorem dX5_putKey_21 : decode cX5_putKey 21 = .ok (.isub, 1) := by decide +kernel
theorem dX5_putKey_22 : decode cX5_putKey 22 = .ok (.iaload, 1) := by decide +kernel
theorem dX5_putKey_23 : decode cX5_putKey 23 = .ok (.iastore, 1) := by decide +kernel
theorem dX5_putKey_24 : decode cX5_putKey 24 = .ok (.iinc 3 (-1), 3) := by decide +kernel
theorem dX5_putKey_27 : decode cX5_putKey 27 = .ok (.goto (-22), 3) := by decide +kernel
theorem dX5_putKey_30 : decode cX5_putKey 30 = .ok (.aload_n 0, 1) := by decide +kernel
theorem dX5_putKey_31 : decode cX5_putKey 31 = .ok (.getfield 9, 3) := by decide +kernel
theorem dX5_putKey_34 : decode cX5_putKey 34 = .ok (.iload_n 1, 1) := by decide +kernel
theorem dX5_putKey_35 : decode cX5_putKey 35 = .ok (.iload_n 2, 1) := by decide +kernel
theorem dX5_putKey_36 : decode cX5_putKey 36 = .ok (.iastore, 1) := by decide +kernel
theorem dX5_putKey_37 : decode cX5_putKey 37 = .ok (.aload_n 0, 1) := by decide +kernel
theorem dX5_putKey_38 : decode cX5_putKey 38 = .ok (.dup, 1) := by decide +kernel
theorem dX5_putKey_39 : decode cX5_putKey 39 = .ok (.getfield 28, 3) := by decide +kernel
theorem dX5_putKey_42 : decode cX5_putKey 42 = .ok (.iconst 1, 1) := by decide +kernel
theorem dX5_putKey_43 : decode cX5_putKey 43 = .ok (.iadd, 1) := by decide +kernel
theorem dX5_putKey_44 : decode cX5_putKey 44 = .ok (.putfield 28, 3) := by decide +kernel
theorem dX5_putKey_47 : decode cX5_putKey 47 = .ok (.return_, 1) := by decide +kernel
theorem dX5_takeKey_0 : decode cX5_takeKey 0 = .ok (.aload_n 0, 1) := by decide +kernel
theorem dX5_takeKey_1 : decode cX5_takeKey 1 = .ok (.getfield 9, 3) := by decide +kernel
theorem dX5_takeKey_4 : decode cX5_takeKey 4 = .ok (.iload_n 1, 1) := by decide +kernel
theorem dX5_takeKey_5 : decode cX5_takeKey 5 = .ok (.iaload, 1) := by decide +kernel
theorem dX5_takeKey_6 : decode cX5_takeKey 6 = .ok (.istore_n 2, 1) := by decide +kernel
theorem dX5_takeKey_7 : decode cX5_takeKey 7 = .ok (.aload_n 0, 1) := by decide +kernel
theorem dX5_takeKey_8 : decode cX5_takeKey 8 = .ok (.dup, 1) := by decide +kernel
theorem dX5_takeKey_9 : decode cX5_takeKey 9 = .ok (.getfield 28, 3) := by decide +kernel
theorem dX5_takeKey_12 : decode cX5_takeKey 12 = .ok (.iconst 1, 1) := by decide +kernel
theorem dX5_takeKey_13 : decode cX5_takeKey 13 = .ok (.isub, 1) := by decide +kernel
theorem dX5_takeKey_14 : decode cX5_takeKey 14 = .ok (.putfield 28, 3) := by decide +kernel
theorem dX5_takeKey_17 : decode cX5_takeKey 17 = .ok (.iload_n 1, 1) := by decide +kernel
theorem dX5_takeKey_18 : decode cX5_takeKey 18 = .ok (.istore_n 3, 1) := by decide +kernel
theorem dX5_takeKey_19 : decode cX5_takeKey 19 = .ok (.iload_n 3, 1) := by decide +kernel
theorem dX5_takeKey_20 : decode cX5_takeKey 20 = .ok (.aload_n 0, 1) := by decide +kernel
theorem dX5_takeKey_21 : decode cX5_takeKey 21 = .ok (.getfield 28, 3) := by decide +kernel
theorem dX5_takeKey_24 : decode cX5_takeKey 24 = .ok (.if_icmp .ge 23, 3) := by decide +kernel
theorem dX5_takeKey_27 : decode cX5_takeKey 27 = .ok (.aload_n 0, 1) := by decide +kernel
theorem dX5_takeKey_28 : decode cX5_takeKey 28 = .ok (.getfield 9, 3) := by decide +kernel
theorem dX5_takeKey_31 : decode cX5_takeKey 31 = .ok (.iload_n 3, 1) := by decide +kernel
theorem dX5_takeKey_32 : decode cX5_takeKey 32 = .ok (.aload_n 0, 1) := by decide +kernel
theorem dX5_takeKey_33 : decode cX5_takeKey 33 = .ok (.getfield 9, 3) := by decide +kernel
theorem dX5_takeKey_36 : decode cX5_takeKey 36 = .ok (.iload_n 3, 1) := by decide +kernel
theorem dX5_takeKey_37 : decode cX5_takeKey 37 = .ok (.iconst 1, 1) := by decide +kernel
theorem dX5_takeKey_38 : decode cX5_takeKey 38 = .ok (.iadd, 1) := by decide +kernel
theorem dX5_takeKey_39 : decode cX5_takeKey 39 = .ok (.iaload, 1) := by decide +kernel
theorem dX5_takeKey_40 : decode cX5_takeKey 40 = .ok (.iastore, 1) := by decide +kernel
theorem dX5_takeKey_41 : decode cX5_takeKey 41 = .ok (.iinc 3 1, 3) := by decide +kernel
theorem dX5_takeKey_44 : decode cX5_takeKey 44 = .ok (.goto (-25), 3) := by decide +kernel
theorem dX5_takeKey_47 : decode cX5_takeKey 47 = .ok (.iload_n 2, 1) := by decide +kernel
theorem dX5_takeKey_48 : decode cX5_takeKey 48 = .ok (.ireturn, 1) := by decide +kernel
theorem dX6_init_0 : decode cX6_init 0 = .ok (.aload_n 0, 1) := by decide +kernel
theorem dX6_init_1 : decode cX6_init 1 = .ok (.invokespecial 1, 3) := by decide +kernel
theorem dX6_init_4 : decode cX6_init 4 = .ok (.aload_n 0, 1) := by decide +kernel
theorem dX6_init_5 : decode cX6_init 5 = .ok (.iload_n 1, 1) := by decide +kernel
theorem dX6_init_6 : decode cX6_init 6 = .ok (.putfield 7, 3) := by decide +kernel
theorem dX6_init_9 : decode cX6_init 9 = .ok (.aload_n 0, 1) := by decide +kernel
theorem dX6_init_10 : decode cX6_init 10 = .ok (.iload_n 2, 1) := by decide +kernel
theorem dX6_init_11 : decode cX6_init 11 = .ok (.putfield 13, 3) := by decide +kernel
theorem dX6_init_14 : decode cX6_init 14 = .ok (.aload_n 0, 1) := by decide +kernel
theorem dX6_init_15 : decode cX6_init 15 = .ok (.aload_n 3, 1) := by decide +kernel
theorem dX6_init_16 : decode cX6_init 16 = .ok (.putfield 16, 3) := by decide +kernel
theorem dX6_init_19 : decode cX6_init 19 = .ok (.return_, 1) := by decide +kernel
theorem dX7_init_0 : decode cX7_init 0 = .ok (.aload_n 0, 1) := by decide +kernel
theorem dX7_init_1 : decode cX7_init 1 = .ok (.invokespecial 3, 3) := by decide +kernel
theorem dX7_init_4 : decode cX7_init 4 = .ok (.aload_n 0, 1) := by decide +kernel
theorem dX7_init_5 : decode cX7_init 5 = .ok (.bipush 10, 2) := by decide +kernel
theorem dX7_init_7 : decode cX7_init 7 = .ok (.newarray .long, 2) := by decide +kernel
theorem dX7_init_9 : decode cX7_init 9 = .ok (.putfield 9, 3) := by decide +kernel
theorem dX7_init_12 : decode cX7_init 12 = .ok (.return_, 1) := by decide +kernel
theorem dX7_range_0 : decode cX7_range 0 = .ok (.ldc2_w 15, 3) := by decide +kernel
theorem dX7_range_3 : decode cX7_range 3 = .ok (.iload_n 0, 1) := by decide +kernel
theorem dX7_range_4 : decode cX7_range 4 = .ok (.lshl, 1) := by decide +kernel
theorem dX7_range_5 : decode cX7_range 5 = .ok (.ldc2_w 15, 3) := by decide +kernel
theorem dX7_range_8 : decode cX7_range 8 = .ok (.bipush 63, 2) := by decide +kernel
theorem dX7_range_10 : decode cX7_range 10 = .ok (.iload_n 1, 1) := by decide +kernel
theorem dX7_range_11 : decode cX7_range 11 = .ok (.isub, 1) := by decide +kernel
theorem dX7_range_12 : decode cX7_range 12 = .ok (.lushr, 1) := by decide +kernel
theorem dX7_range_13 : decode cX7_range 13 = .ok (.land, 1) := by decide +kernel
theorem dX7_range_14 : decode cX7_range 14 = .ok (.lreturn, 1) := by decide +kernel
theorem dX7_least_0 : decode cX7_least 0 = .ok (.lload_n 0, 1) := by decide +kernel
theorem dX7_least_1 : decode cX7_least 1 = .ok (.invokestatic 17, 3) := by decide +kernel
theorem dX7_least_4 : decode cX7_least 4 = .ok (.ireturn, 1) := by decide +kernel
theorem dX7_greatest_0 : decode cX7_greatest 0 = .ok (.bipush 63, 2) := by decide +kernel
theorem dX7_greatest_2 : decode cX7_greatest 2 = .ok (.lload_n 0, 1) := by decide +kernel
theorem dX7_greatest_3 : decode cX7_greatest 3 = .ok (.invokestatic 23, 3) := by decide +kernel
theorem dX7_greatest_6 : decode cX7_greatest 6 = .ok (.isub, 1) := by decide +kernel
theorem dX7_greatest_7 : decode cX7_greatest 7 = .ok (.ireturn, 1) := by decide +kernel
theorem dX7_fill_0 : decode cX7_fill 0 = .ok (.aload_n 0, 1) := by decide +kernel
theorem dX7_fill_1 : decode cX7_fill 1 = .ok (.getfield 9, 3) := by decide +kernel
theorem dX7_fill_4 : decode cX7_fill 4 = .ok (.ldc2_w 15, 3) := by decide +kernel
theorem dX7_fill_7 : decode cX7_fill 7 = .ok (.invokestatic 26, 3) := by decide +kernel
theorem dX7_fill_10 : decode cX7_fill 10 = .ok (.return_, 1) := by decide +kernel
theorem dX7_copy_0 : decode cX7_copy 0 = .ok (.aload_n 1, 1) := by decide +kernel
theorem dX7_copy_1 : decode cX7_copy 1 = .ok (.getfield 9, 3) := by decide +kernel
theorem dX7_copy_4 : decode cX7_copy 4 = .ok (.iconst 0, 1) := by decide +kernel
theorem dX7_copy_5 : decode cX7_copy 5 = .ok (.aload_n 0, 1) := by decide +kernel
theorem dX7_copy_6 : decode cX7_copy 6 = .ok (.getfield 9, 3) := by decide +kernel
theorem dX7_copy_9 : decode cX7_copy 9 = .ok (.iconst 0, 1) := by decide +kernel
theorem dX7_copy_10 : decode cX7_copy 10 = .ok (.bipush 10, 2) := by decide +kernel
theorem dX7_copy_12 : decode cX7_copy 12 = .ok (.invokestatic 32, 3) := by decide +kernel
theorem dX7_copy_15 : decode cX7_copy 15 = .ok (.return_, 1) := by decide +kernel
theorem dX7_hasEmpty_0 : decode cX7_hasEmpty 0 = .ok (.iconst 0, 1) := by decide +kernel
theorem dX7_hasEmpty_1 : decode cX7_hasEmpty 1 = .ok (.istore_n 1, 1) := by decide +kernel
theorem dX7_hasEmpty_2 : decode cX7_hasEmpty 2 = .ok (.iload_n 1, 1) := by decide +kernel
theorem dX7_hasEmpty_3 : decode cX7_hasEmpty 3 = .ok (.bipush 10, 2) := by decide +kernel
theorem dX7_hasEmpty_5 : decode cX7_hasEmpty 5 = .ok (.if_icmp .ge 22, 3) := by decide +kernel
theorem dX7_hasEmpty_8 : decode cX7_hasEmpty 8 = .ok (.aload_n 0, 1) := by decide +kernel
theorem dX7_hasEmpty_9 : decode cX7_hasEmpty 9 = .ok (.getfield 9, 3) := by decide +kernel
theorem dX7_hasEmpty_12 : decode cX7_hasEmpty 12 = .ok (.iload_n 1, 1) := by decide +kernel
theorem dX7_hasEmpty_13 : decode cX7_hasEmpty 13 = .ok (.laload, 1) := by decide +kernel
theorem dX7_hasEmpty_14 : decode cX7_hasEmpty 14 = .ok (.lconst 0, 1) := by decide +kernel
theorem dX7_hasEmpty_15 : decode cX7_hasEmpty 15 = .ok (.lcmp, 1) := by decide +kernel
theorem dX7_hasEmpty_16 : decode cX7_hasEmpty 16 = .ok (.ifCond .ne 5, 3) := by decide +kernel
theorem dX7_hasEmpty_19 : decode cX7_hasEmpty 19 = .ok (.iconst 1, 1) := by decide +kernel
theorem dX7_hasEmpty_20 : decode cX7_hasEmpty 20 = .ok (.ireturn, 1) := by decide +kernel
theorem dX7_hasEmpty_21 : decode cX7_hasEmpty 21 = .ok (.iinc 1 1, 3) := by decide +kernel
theorem dX7_hasEmpty_24 : decode cX7_hasEmpty 24 = .ok (.goto (-22), 3) := by decide +kernel
theorem dX7_hasEmpty_27 : decode cX7_hasEmpty 27 = .ok (.iconst 0, 1) := by decide +kernel
theorem dX7_hasEmpty_28 : decode cX7_hasEmpty 28 = .ok (.ireturn, 1) := by decide +kernel
theorem dX7_hasNoneBut_0 : decode cX7_hasNoneBut 0 = .ok (.aload_n 0, 1) := by decide +kernel
theorem dX7_hasNoneBut_1 : decode cX7_hasNoneBut 1 = .ok (.getfield 9, 3) := by decide +kernel
theorem dX7_hasNoneBut_4 : decode cX7_hasNoneBut 4 = .ok (.iload_n 1, 1) := by decide +kernel
theorem dX7_hasNoneBut_5 : decode cX7_hasNoneBut 5 = .ok (.laload, 1) := by decide +kernel
theorem dX7_hasNoneBut_6 : decode cX7_hasNoneBut 6 = .ok (.lconst 1, 1) := by decide +kernel
theorem dX7_hasNoneBut_7 : decode cX7_hasNoneBut 7 = .ok (.iload_n 2, 1) := by decide +kernel
theorem dX7_hasNoneBut_8 : decode cX7_hasNoneBut 8 = .ok (.lshl, 1) := by decide +kernel
theorem dX7_hasNoneBut_9 : decode cX7_hasNoneBut 9 = .ok (.ldc2_w 15, 3) := by decide +kernel
theorem dX7_hasNoneBut_12 : decode cX7_hasNoneBut 12 = .ok (.lxor, 1) := by decide +kernel
theorem dX7_hasNoneBut_13 : decode cX7_hasNoneBut 13 = .ok (.land, 1) := by decide +kernel
theorem dX7_hasNoneBut_14 : decode cX7_hasNoneBut 14 = .ok (.lconst 0, 1) := by decide +kernel
theorem dX7_hasNoneBut_15 : decode cX7_hasNoneBut 15 = .ok (.lcmp, 1) := by decide +kernel
theorem dX7_hasNoneBut_16 : decode cX7_hasNoneBut 16 = .ok (.ifCond .ne 7, 3) := by decide +kernel
theorem dX7_hasNoneBut_19 : decode cX7_hasNoneBut 19 = .ok (.iconst 1, 1) := by decide +kernel
theorem dX7_hasNoneBut_20 : decode cX7_hasNoneBut 20 = .ok (.goto 4, 3) := by decide +kernel
theorem dX7_hasNoneBut_23 : decode cX7_hasNoneBut 23 = .ok (.iconst 0, 1) := by decide +kernel
theorem dX7_hasNoneBut_24 : decode cX7_hasNoneBut 24 = .ok (.ireturn, 1) := by decide +kernel
theorem dX7_summary_0 : decode cX7_summary 0 = .ok (.aload_n 0, 1) := by decide +kernel
theorem dX7_summary_1 : decode cX7_summary 1 = .ok (.getfield 9, 3) := by decide +kernel
theorem dX7_summary_4 : decode cX7_summary 4 = .ok (.iload_n 1, 1) := by decide +kernel
theorem dX7_summary_5 : decode cX7_summary 5 = .ok (.laload, 1) := by decide +kernel
theorem dX7_summary_6 : decode cX7_summary 6 = .ok (.lstore_n 2, 1) := by decide +kernel
theorem dX7_summary_7 : decode cX7_summary 7 = .ok (.lload_n 2, 1) := by decide +kernel
theorem dX7_summary_8 : decode cX7_summary 8 = .ok (.lconst 0, 1) := by decide +kernel
theorem dX7_summary_9 : decode cX7_summary 9 = .ok (.lcmp, 1) := by decide +kernel
theorem dX7_summary_10 : decode cX7_summary 10 = .ok (.ifCond .ne 7, 3) := by decide +kernel
theorem dX7_summary_13 : decode cX7_summary 13 = .ok (.iconst 0, 1) := by decide +kernel
theorem dX7_summary_14 : decode cX7_summary 14 = .ok (.goto 24, 3) := by decide +kernel
theorem dX7_summary_17 : decode cX7_summary 17 = .ok (.sipush 10000, 3) := by decide +kernel
theorem dX7_summary_20 : decode cX7_summary 20 = .ok (.lload_n 2, 1) := by decide +kernel
theorem dX7_summary_21 : decode cX7_summary 21 = .ok (.invokestatic 38, 3) := by decide +kernel
theorem dX7_summary_24 : decode cX7_summary 24 = .ok (.imul, 1) := by decide +kernel
theorem dX7_summary_25 : decode cX7_summary 25 = .ok (.bipush 100, 2) := by decide +kernel
theorem dX7_summary_27 : decode cX7_summary 27 = .ok (.lload_n 2, 1) := by decide +kernel
theorem dX7_summary_28 : decode cX7_summary 28 = .ok (.invokestatic 41, 3) := by decide +kernel
theorem dX7_summary_31 : decode cX7_summary 31 = .ok (.imul, 1) := by decide +kernel
theorem dX7_summary_32 : decode cX7_summary 32 = .ok (.iadd, 1) := by decide +kernel
theorem dX7_summary_33 : decode cX7_summary 33 = .ok (.lload_n 2, 1) := by decide +kernel
theorem dX7_summary_34 : decode cX7_summary 34 = .ok (.invokestatic 44, 3) := by decide +kernel
theorem dX7_summary_37 : decode cX7_summary 37 = .ok (.iadd, 1) := by decide +kernel
theorem dX7_summary_38 : decode cX7_summary 38 = .ok (.ireturn, 1) := by decide +kernel
theorem dX7_narrow_0 : decode cX7_narrow 0 = .ok (.aload_n 1, 1) := by decide +kernel
theorem dX7_narrow_1 : decode cX7_narrow 1 = .ok (.getfield 47, 3) := by decide +kernel
theorem dX7_narrow_4 : decode cX7_narrow 4 = .ok (.istore_n 2, 1) := by decide +kernel
theorem dX7_narrow_5 : decode cX7_narrow 5 = .ok (.aload_n 1, 1) := by decide +kernel
theorem dX7_narrow_6 : decode cX7_narrow 6 = .ok (.getfield 53, 3) := by decide +kernel
theorem dX7_narrow_9 : decode cX7_narrow 9 = .ok (.tableswitch 188 0 6 #[43, 55, 72, 91, 188, 107, 152], 43) := by decide +kernel
theorem dX7_narrow_52 : decode cX7_narrow 52 = .ok (.aload_n 0, 1) := by decide +kernel
theorem dX7_narrow_53 : decode cX7_narrow 53 = .ok (.iload_n 2, 1) := by decide +kernel
theorem dX7_narrow_54 : decode cX7_narrow 54 = .ok (.lconst 1, 1) := by decide +kernel
theorem dX7_narrow_55 : decode cX7_narrow 55 = .ok (.aload_n 1, 1) := by decide +kernel
theorem dX7_narrow_56 : decode cX7_narrow 56 = .ok (.getfield 56, 3) := by decide +kernel
theorem dX7_narrow_59 : decode cX7_narrow 59 = .ok (.lshl, 1) := by decide +kernel
theorem dX7_narrow_60 : decode cX7_narrow 60 = .ok (.invokevirtual 59, 3) := by decide +kernel
theorem dX7_narrow_63 : decode cX7_narrow 63 = .ok (.ireturn, 1) := by decide +kernel
theorem dX7_narrow_64 : decode cX7_narrow 64 = .ok (.aload_n 0, 1) := by decide +kernel
theorem dX7_narrow_65 : decode cX7_narrow 65 = .ok (.iload_n 2, 1) := by decide +kernel
theorem dX7_narrow_66 : decode cX7_narrow 66 = .ok (.aload_n 1, 1) := by decide +kernel
theorem dX7_narrow_67 : decode cX7_narrow 67 = .ok (.getfield 56, 3) := by decide +kernel
theorem dX7_narrow_70 : decode cX7_narrow 70 = .ok (.aload_n 1, 1) := by decide +kernel
theorem dX7_narrow_71 : decode cX7_narrow 71 = .ok (.getfield 63, 3) := by decide +kernel
theorem dX7_narrow_74 : decode cX7_narrow 74 = .ok (.invokestatic 66, 3) := by decide +kernel
theorem dX7_narrow_77 : decode cX7_narrow 77 = .ok (.invokevirtual 59, 3) := by decide +kernel
theorem dX7_narrow_80 : decode cX7_narrow 80 = .ok (.ireturn, 1) := by decide +kernel
theorem dX7_narrow_81 : decode cX7_narrow 81 = .ok (.aload_n 0, 1) := by decide +kernel
theorem dX7_narrow_82 : decode cX7_narrow 82 = .ok (.iload_n 2, 1) := by decide +kernel
theorem dX7_narrow_83 : decode cX7_narrow 83 = .ok (.lconst 1, 1) := by decide +kernel
theorem dX7_narrow_84 : decode cX7_narrow 84 = .ok (.aload_n 1, 1) := by decide +kernel
theorem dX7_narrow_85 : decode cX7_narrow 85 = .ok (.getfield 56, 3) := by decide +kernel
theorem dX7_narrow_88 : decode cX7_narrow 88 = .ok (.lshl, 1) := by decide +kernel
theorem dX7_narrow_89 : decode cX7_narrow 89 = .ok (.lconst 1, 1) := by decide +kernel
theorem dX7_narrow_90 : decode cX7_narrow 90 = .ok (.aload_n 1, 1) := by decide +kernel
theorem dX7_narrow_91 : decode cX7_narrow 91 = .ok (.getfield 63, 3) := by decide +kernel
theorem dX7_narrow_94 : decode cX7_narrow 94 = .ok (.lshl, 1) := by decide +kernel
theorem dX7_narrow_95 : decode cX7_narrow 95 = .ok (.lor, 1) := by decide +kernel
theorem dX7_narrow_96 : decode cX7_narrow 96 = .ok (.invokevirtual 59, 3) := by decide +kernel
theorem dX7_narrow_99 : decode cX7_narrow 99 = .ok (.ireturn, 1) := by decide +kernel
theorem dX7_narrow_100 : decode cX7_narrow 100 = .ok (.aload_n 0, 1) := by decide +kernel
theorem dX7_narrow_101 : decode cX7_narrow 101 = .ok (.iload_n 2, 1) := by decide +kernel
theorem dX7_narrow_102 : decode cX7_narrow 102 = .ok (.lconst 1, 1) := by decide +kernel
theorem dX7_narrow_103 : decode cX7_narrow 103 = .ok (.aload_n 1, 1) := by decide +kernel
theorem dX7_narrow_104 : decode cX7_narrow 104 = .ok (.getfield 56, 3) := by decide +kernel
theorem dX7_narrow_107 : decode cX7_narrow 107 = .ok (.lshl, 1) := by decide +kernel
theorem dX7_narrow_108 : decode cX7_narrow 108 = .ok (.ldc2_w 15, 3) := by decide +kernel
theorem dX7_narrow_111 : decode cX7_narrow 111 = .ok (.lxor, 1) := by decide +kernel
theorem dX7_narrow_112 : decode cX7_narrow 112 = .ok (.invokevirtual 59, 3) := by decide +kernel
theorem dX7_narrow_115 : decode cX7_narrow 115 = .ok (.ireturn, 1) := by decide +kernel
theorem dX7_narrow_116 : decode cX7_narrow 116 = .ok (.aload_n 0, 1) := by decide +kernel
theorem dX7_narrow_117 : decode cX7_narrow 117 = .ok (.iload_n 2, 1) := by decide +kernel
theorem dX7_narrow_118 : decode cX7_narrow 118 = .ok (.aload_n 0, 1) := by decide +kernel
theorem dX7_narrow_119 : decode cX7_narrow 119 = .ok (.getfield 9, 3) := by decide +kernel
theorem dX7_narrow_122 : decode cX7_narrow 122 = .ok (.aload_n 1, 1) := by decide +kernel
theorem dX7_narrow_123 : decode cX7_narrow 123 = .ok (.getfield 56, 3) := by decide +kernel
theorem dX7_narrow_126 : decode cX7_narrow 126 = .ok (.laload, 1) := by decide +kernel
theorem dX7_narrow_127 : decode cX7_narrow 127 = .ok (.aload_n 1, 1) := by decide +kernel
theorem dX7_narrow_128 : decode cX7_narrow 128 = .ok (.getfield 63, 3) := by decide +kernel
theorem dX7_narrow_131 : decode cX7_narrow 131 = .ok (.invokestatic 70, 3) := by decide +kernel
theorem dX7_narrow_134 : decode cX7_narrow 134 = .ok (.invokevirtual 59, 3) := by decide +kernel
theorem dX7_narrow_137 : decode cX7_narrow 137 = .ok (.aload_n 0, 1) := by decide +kernel
theorem dX7_narrow_138 : decode cX7_narrow 138 = .ok (.aload_n 1, 1) := by decide +kernel
theorem dX7_narrow_139 : decode cX7_narrow 139 = .ok (.getfield 56, 3) := by decide +kernel
theorem dX7_narrow_142 : decode cX7_narrow 142 = .ok (.aload_n 0, 1) := by decide +kernel
theorem dX7_narrow_143 : decode cX7_narrow 143 = .ok (.getfield 9, 3) := by decide +kernel
theorem dX7_narrow_146 : decode cX7_narrow 146 = .ok (.iload_n 2, 1) := by decide +kernel
theorem dX7_narrow_147 : decode cX7_narrow 147 = .ok (.laload, 1) := by decide +kernel
theorem dX7_narrow_148 : decode cX7_narrow 148 = .ok (.aload_n 1, 1) := by decide +kernel
theorem dX7_narrow_149 : decode cX7_narrow 149 = .ok (.getfield 63, 3) := by decide +kernel
theorem dX7_narrow_152 : decode cX7_narrow 152 = .ok (.ineg, 1) := by decide +kernel
theorem dX7_narrow_153 : decode cX7_narrow 153 = .ok (.invokestatic 70, 3) := by decide +kernel
theorem dX7_narrow_156 : decode cX7_narrow 156 = .ok (.invokevirtual 59, 3) := by decide +kernel
theorem dX7_narrow_159 : decode cX7_narrow 159 = .ok (.ior, 1) := by decide +kernel
theorem dX7_narrow_160 : decode cX7_narrow 160 = .ok (.ireturn, 1) := by decide +kernel
theorem dX7_narrow_161 : decode cX7_narrow 161 = .ok (.aload_n 0, 1) := by decide +kernel
theorem dX7_narrow_162 : decode cX7_narrow 162 = .ok (.iload_n 2, 1) := by decide +kernel
theorem dX7_narrow_163 : decode cX7_narrow 163 = .ok (.aload_n 0, 1) := by decide +kernel
theorem dX7_narrow_164 : decode cX7_narrow 164 = .ok (.getfield 9, 3) := by decide +kernel
theorem dX7_narrow_167 : decode cX7_narrow 167 = .ok (.aload_n 1, 1) := by decide +kernel
theorem dX7_narrow_168 : decode cX7_narrow 168 = .ok (.getfield 56, 3) := by decide +kernel
theorem dX7_narrow_171 : decode cX7_narrow 171 = .ok (.laload, 1) := by decide +kernel
theorem dX7_narrow_172 : decode cX7_narrow 172 = .ok (.invokestatic 74, 3) := by decide +kernel
theorem dX7_narrow_175 : decode cX7_narrow 175 = .ok (.invokevirtual 59, 3) := by decide +kernel
theorem dX7_narrow_178 : decode cX7_narrow 178 = .ok (.aload_n 0, 1) := by decide +kernel
theorem dX7_narrow_179 : decode cX7_narrow 179 = .ok (.aload_n 1, 1) := by decide +kernel
theorem dX7_narrow_180 : decode cX7_narrow 180 = .ok (.getfield 56, 3) := by decide +kernel
theorem dX7_narrow_183 : decode cX7_narrow 183 = .ok (.aload_n 0, 1) := by decide +kernel
theorem dX7_narrow_184 : decode cX7_narrow 184 = .ok (.getfield 9, 3) := by decide +kernel
theorem dX7_narrow_187 : decode cX7_narrow 187 = .ok (.iload_n 2, 1) := by decide +kernel
theorem dX7_narrow_188 : decode cX7_narrow 188 = .ok (.laload, 1) := by decide +kernel
theorem dX7_narrow_189 : decode cX7_narrow 189 = .ok (.invokestatic 78, 3) := by decide +kernel
theorem dX7_narrow_192 : decode cX7_narrow 192 = .ok (.invokevirtual 59, 3) := by decide +kernel
theorem dX7_narrow_195 : decode cX7_narrow 195 = .ok (.ior, 1) := by decide +kernel
theorem dX7_narrow_196 : decode cX7_narrow 196 = .ok (.ireturn, 1) := by decide +kernel
theorem dX7_narrow_197 : decode cX7_narrow 197 = .ok (.iconst 0, 1) := by decide +kernel
theorem dX7_narrow_198 : decode cX7_narrow 198 = .ok (.ireturn, 1) := by decide +kernel
theorem dX7_keep_0 : decode cX7_keep 0 = .ok (.aload_n 0, 1) := by decide +kernel
theorem dX7_keep_1 : decode cX7_keep 1 = .ok (.getfield 9, 3) := by decide +kernel
theorem dX7_keep_4 : decode cX7_keep 4 = .ok (.iload_n 1, 1) := by decide +kernel
theorem dX7_keep_5 : decode cX7_keep 5 = .ok (.laload, 1) := by decide +kernel
theorem dX7_keep_6 : decode cX7_keep 6 = .ok (.lstore 4, 2) := by decide +kernel
theorem dX7_keep_8 : decode cX7_keep 8 = .ok (.aload_n 0, 1) := by decide +kernel
theorem dX7_keep_9 : decode cX7_keep 9 = .ok (.getfield 9, 3) := by decide +kernel
theorem dX7_keep_12 : decode cX7_keep 12 = .ok (.iload_n 1, 1) := by decide +kernel
theorem dX7_keep_13 : decode cX7_keep 13 = .ok (.lload 4, 2) := by decide +kernel
theorem dX7_keep_15 : decode cX7_keep 15 = .ok (.lload_n 2, 1) := by decide +kernel
theorem dX7_keep_16 : decode cX7_keep 16 = .ok (.land, 1) := by decide +kernel
theorem dX7_keep_17 : decode cX7_keep 17 = .ok (.lastore, 1) := by decide +kernel
theorem dX7_keep_18 : decode cX7_keep 18 = .ok (.aload_n 0, 1) := by decide +kernel
theorem dX7_keep_19 : decode cX7_keep 19 = .ok (.getfield 9, 3) := by decide +kernel
theorem dX7_keep_22 : decode cX7_keep 22 = .ok (.iload_n 1, 1) := by decide +kernel
theorem dX7_keep_23 : decode cX7_keep 23 = .ok (.laload, 1) := by decide +kernel
theorem dX7_keep_24 : decode cX7_keep 24 = .ok (.lload 4, 2) := by decide +kernel
theorem dX7_keep_26 : decode cX7_keep 26 = .ok (.lcmp, 1) := by decide +kernel
theorem dX7_keep_27 : decode cX7_keep 27 = .ok (.ifCond .eq 7, 3) := by decide +kernel
theorem dX7_keep_30 : decode cX7_keep 30 = .ok (.iconst 1, 1) := by decide +kernel
theorem dX7_keep_31 : decode cX7_keep 31 = .ok (.goto 4, 3) := by decide +kernel
theorem dX7_keep_34 : decode cX7_keep 34 = .ok (.iconst 0, 1) := by decide +kernel
theorem dX7_keep_35 : decode cX7_keep 35 = .ok (.ireturn, 1) := by decide +kernel
theorem dX7_moved_0 : decode cX7_moved 0 = .ok (.iload_n 2, 1) := by decide +kernel
theorem dX7_moved_1 : decode cX7_moved 1 = .ok (.ifCond .lt 9, 3) := by decide +kernel
theorem dX7_moved_4 : decode cX7_moved 4 = .ok (.lload_n 0, 1) := by decide +kernel
theorem dX7_moved_5 : decode cX7_moved 5 = .ok (.iload_n 2, 1) := by decide +kernel
theorem dX7_moved_6 : decode cX7_moved 6 = .ok (.lshl, 1) := by decide +kernel
theorem dX7_moved_7 : decode cX7_moved 7 = .ok (.goto 7, 3) := by decide +kernel
theorem dX7_moved_10 : decode cX7_moved 10 = .ok (.lload_n 0, 1) := by decide +kernel
theorem dX7_moved_11 : decode cX7_moved 11 = .ok (.iload_n 2, 1) := by decide +kernel
theorem dX7_moved_12 : decode cX7_moved 12 = .ok (.ineg, 1) := by decide +kernel
theorem dX7_moved_13 : decode cX7_moved 13 = .ok (.lushr, 1) := by decide +kernel
theorem dX7_moved_14 : decode cX7_moved 14 = .ok (.lreturn, 1) := by decide +kernel
theorem dX7_below_0 : decode cX7_below 0 = .ok (.lload_n 0, 1) := by decide +kernel
theorem dX7_below_1 : decode cX7_below 1 = .ok (.lconst 0, 1) := by decide +kernel
theorem dX7_below_2 : decode cX7_below 2 = .ok (.lcmp, 1) := by decide +kernel
theorem dX7_below_3 : decode cX7_below 3 = .ok (.ifCond .ne 7, 3) := by decide +kernel
theorem dX7_below_6 : decode cX7_below 6 = .ok (.lconst 0, 1) := by decide +kernel
theorem dX7_below_7 : decode cX7_below 7 = .ok (.goto 13, 3) := by decide +kernel
theorem dX7_below_10 : decode cX7_below 10 = .ok (.ldc2_w 15, 3) := by decide +kernel
theorem dX7_below_13 : decode cX7_below 13 = .ok (.lload_n 0, 1) := by decide +kernel
theorem dX7_below_14 : decode cX7_below 14 = .ok (.invokestatic 23, 3) := by decide +kernel
theorem dX7_below_17 : decode cX7_below 17 = .ok (.lushr, 1) := by decide +kernel
theorem dX7_below_18 : decode cX7_below 18 = .ok (.iconst 1, 1) := by decide +kernel
theorem dX7_below_19 : decode cX7_below 19 = .ok (.lushr, 1) := by decide +kernel
theorem dX7_below_20 : decode cX7_below 20 = .ok (.lreturn, 1) := by decide +kernel
theorem dX7_above_0 : decode cX7_above 0 = .ok (.lload_n 0, 1) := by decide +kernel
theorem dX7_above_1 : decode cX7_above 1 = .ok (.lconst 0, 1) := by decide +kernel
theorem dX7_above_2 : decode cX7_above 2 = .ok (.lcmp, 1) := by decide +kernel
theorem dX7_above_3 : decode cX7_above 3 = .ok (.ifCond .ne 7, 3) := by decide +kernel
theorem dX7_above_6 : decode cX7_above 6 = .ok (.lconst 0, 1) := by decide +kernel
theorem dX7_above_7 : decode cX7_above 7 = .ok (.goto 13, 3) := by decide +kernel
theorem dX7_above_10 : decode cX7_above 10 = .ok (.ldc2_w 15, 3) := by decide +kernel
theorem dX7_above_13 : decode cX7_above 13 = .ok (.lload_n 0, 1) := by decide +kernel
theorem dX7_above_14 : decode cX7_above 14 = .ok (.invokestatic 17, 3) := by decide +kernel
theorem dX7_above_17 : decode cX7_above 17 = .ok (.lshl, 1) := by decide +kernel
theorem dX7_above_18 : decode cX7_above 18 = .ok (.iconst 1, 1) := by decide +kernel
theorem dX7_above_19 : decode cX7_above 19 = .ok (.lshl, 1) := by decide +kernel
theorem dX7_above_20 : decode cX7_above 20 = .ok (.lreturn, 1) := by decide +kernel
theorem dX8_init_0 : decode cX8_init 0 = .ok (.aload_n 0, 1) := by decide +kernel
theorem dX8_init_1 : decode cX8_init 1 = .ok (.invokespecial 3, 3) := by decide +kernel
theorem dX8_init_4 : decode cX8_init 4 = .ok (.aload_n 0, 1) := by decide +kernel
theorem dX8_init_5 : decode cX8_init 5 = .ok (.iload_n 1, 1) := by decide +kernel
theorem dX8_init_6 : decode cX8_init 6 = .ok (.putfield 9, 3) := by decide +kernel
theorem dX8_init_9 : decode cX8_init 9 = .ok (.aload_n 0, 1) := by decide +kernel
theorem dX8_init_10 : decode cX8_init 10 = .ok (.iload_n 2, 1) := by decide +kernel
theorem dX8_init_11 : decode cX8_init 11 = .ok (.putfield 15, 3) := by decide +kernel
theorem dX8_init_14 : decode cX8_init 14 = .ok (.aload_n 0, 1) := by decide +kernel
theorem dX8_init_15 : decode cX8_init 15 = .ok (.iload_n 3, 1) := by decide +kernel
theorem dX8_init_16 : decode cX8_init 16 = .ok (.putfield 18, 3) := by decide +kernel
theorem dX8_init_19 : decode cX8_init 19 = .ok (.aload_n 0, 1) := by decide +kernel
theorem dX8_init_20 : decode cX8_init 20 = .ok (.iload 4, 2) := by decide +kernel
theorem dX8_init_22 : decode cX8_init 22 = .ok (.putfield 21, 3) := by decide +kernel
theorem dX8_init_25 : decode cX8_init 25 = .ok (.aload_n 0, 1) := by decide +kernel
theorem dX8_init_26 : decode cX8_init 26 = .ok (.iload 5, 2) := by decide +kernel
theorem dX8_init_28 : decode cX8_init 28 = .ok (.putfield 24, 3) := by decide +kernel
theorem dX8_init_31 : decode cX8_init 31 = .ok (.aload_n 0, 1) := by decide +kernel
theorem dX8_init_32 : decode cX8_init 32 = .ok (.iload 6, 2) := by decide +kernel
theorem dX8_init_34 : decode cX8_init 34 = .ok (.putfield 27, 3) := by decide +kernel
theorem dX8_init_37 : decode cX8_init 37 = .ok (.return_, 1) := by decide +kernel
theorem dX8_isNarrowing_0 : decode cX8_isNarrowing 0 = .ok (.aload_n 0, 1) := by decide +kernel
theorem dX8_isNarrowing_1 : decode cX8_isNarrowing 1 = .ok (.getfield 18, 3) := by decide +kernel
theorem dX8_isNarrowing_4 : decode cX8_isNarrowing 4 = .ok (.bipush 6, 2) := by decide +kernel
theorem dX8_isNarrowing_6 : decode cX8_isNarrowing 6 = .ok (.if_icmp .gt 7, 3) := by decide +kernel
theorem dX8_isNarrowing_9 : decode cX8_isNarrowing 9 = .ok (.iconst 1, 1) := by decide +kernel
theorem dX8_isNarrowing_10 : decode cX8_isNarrowing 10 = .ok (.goto 4, 3) := by decide +kernel
theorem dX8_isNarrowing_13 : decode cX8_isNarrowing 13 = .ok (.iconst 0, 1) := by decide +kernel
theorem dX8_isNarrowing_14 : decode cX8_isNarrowing 14 = .ok (.ireturn, 1) := by decide +kernel
theorem dX8_isJoining_0 : decode cX8_isJoining 0 = .ok (.aload_n 0, 1) := by decide +kernel
theorem dX8_isJoining_1 : decode cX8_isJoining 1 = .ok (.getfield 18, 3) := by decide +kernel
theorem dX8_isJoining_4 : decode cX8_isJoining 4 = .ok (.iconst 5, 1) := by decide +kernel
theorem dX8_isJoining_5 : decode cX8_isJoining 5 = .ok (.if_icmp .eq 12, 3) := by decide +kernel
theorem dX8_isJoining_8 : decode cX8_isJoining 8 = .ok (.aload_n 0, 1) := by decide +kernel
theorem dX8_isJoining_9 : decode cX8_isJoining 9 = .ok (.getfield 18, 3) := by decide +kernel
theorem dX8_isJoining_12 : decode cX8_isJoining 12 = .ok (.bipush 6, 2) := by decide +kernel
theorem dX8_isJoining_14 : decode cX8_isJoining 14 = .ok (.if_icmp .ne 7, 3) := by decide +kernel
theorem dX8_isJoining_17 : decode cX8_isJoining 17 = .ok (.iconst 1, 1) := by decide +kernel
theorem dX8_isJoining_18 : decode cX8_isJoining 18 = .ok (.goto 4, 3) := by decide +kernel
theorem dX8_isJoining_21 : decode cX8_isJoining 21 = .ok (.iconst 0, 1) := by decide +kernel
theorem dX8_isJoining_22 : decode cX8_isJoining 22 = .ok (.ireturn, 1) := by decide +kernel
theorem dX8_fields_0 : decode cX8_fields 0 = .ok (.iconst 1, 1) := by decide +kernel
theorem dX8_fields_1 : decode cX8_fields 1 = .ok (.aload_n 0, 1) := by decide +kernel
theorem dX8_fields_2 : decode cX8_fields 2 = .ok (.getfield 21, 3) := by decide +kernel
theorem dX8_fields_5 : decode cX8_fields 5 = .ok (.ishl, 1) := by decide +kernel
theorem dX8_fields_6 : decode cX8_fields 6 = .ok (.aload_n 0, 1) := by decide +kernel
theorem dX8_fields_7 : decode cX8_fields 7 = .ok (.invokevirtual 30, 3) := by decide +kernel
theorem dX8_fields_10 : decode cX8_fields 10 = .ok (.ifCond .eq 12, 3) := by decide +kernel
theorem dX8_fields_13 : decode cX8_fields 13 = .ok (.iconst 1, 1) := by decide +kernel
theorem dX8_fields_14 : decode cX8_fields 14 = .ok (.aload_n 0, 1) := by decide +kernel
theorem dX8_fields_15 : decode cX8_fields 15 = .ok (.getfield 24, 3) := by decide +kernel
theorem dX8_fields_18 : decode cX8_fields 18 = .ok (.ishl, 1) := by decide +kernel
theorem dX8_fields_19 : decode cX8_fields 19 = .ok (.goto 4, 3) := by decide +kernel
theorem dX8_fields_22 : decode cX8_fields 22 = .ok (.iconst 0, 1) := by decide +kernel
theorem dX8_fields_23 : decode cX8_fields 23 = .ok (.ior, 1) := by decide +kernel
theorem dX8_fields_24 : decode cX8_fields 24 = .ok (.ireturn, 1) := by decide +kernel
theorem dX8_isTogetherWith_0 : decode cX8_isTogetherWith 0 = .ok (.aload_n 0, 1) := by decide +kernel
theorem dX8_isTogetherWith_1 : decode cX8_isTogetherWith 1 = .ok (.getfield 9, 3) := by decide +kernel
theorem dX8_isTogetherWith_4 : decode cX8_isTogetherWith 4 = .ok (.aload_n 1, 1) := by decide +kernel
theorem dX8_isTogetherWith_5 : decode cX8_isTogetherWith 5 = .ok (.getfield 9, 3) := by decide +kernel
theorem dX8_isTogetherWith_8 : decode cX8_isTogetherWith 8 = .ok (.if_icmp .ne 18, 3) := by decide +kernel
theorem dX8_isTogetherWith_11 : decode cX8_isTogetherWith 11 = .ok (.aload_n 0, 1) := by decide +kernel
theorem dX8_isTogetherWith_12 : decode cX8_isTogetherWith 12 = .ok (.getfield 15, 3) := by decide +kernel
theorem dX8_isTogetherWith_15 : decode cX8_isTogetherWith 15 = .ok (.aload_n 1, 1) := by decide +kernel
theorem dX8_isTogetherWith_16 : decode cX8_isTogetherWith 16 = .ok (.getfield 15, 3) := by decide +kernel
theorem dX8_isTogetherWith_19 : decode cX8_isTogetherWith 19 = .ok (.if_icmp .ne 7, 3) := by decide +kernel
theorem dX8_isTogetherWith_22 : decode cX8_isTogetherWith 22 = .ok (.iconst 1, 1) := by decide +kernel
theorem dX8_isTogetherWith_23 : decode cX8_isTogetherWith 23 = .ok (.goto 4, 3) := by decide +kernel
theorem dX8_isTogetherWith_26 : decode cX8_isTogetherWith 26 = .ok (.iconst 0, 1) := by decide +kernel
theorem dX8_isTogetherWith_27 : decode cX8_isTogetherWith 27 = .ok (.ireturn, 1) := by decide +kernel
theorem dX9_init_0 : decode cX9_init 0 = .ok (.aload_n 0, 1) := by decide +kernel
theorem dX9_init_1 : decode cX9_init 1 = .ok (.invokespecial 3, 3) := by decide +kernel
theorem dX9_init_4 : decode cX9_init 4 = .ok (.aload_n 0, 1) := by decide +kernel
theorem dX9_init_5 : decode cX9_init 5 = .ok (.iconst 3, 1) := by decide +kernel
theorem dX9_init_6 : decode cX9_init 6 = .ok (.newarray .int, 2) := by decide +kernel
theorem dX9_init_8 : decode cX9_init 8 = .ok (.putfield 9, 3) := by decide +kernel
theorem dX9_init_11 : decode cX9_init 11 = .ok (.return_, 1) := by decide +kernel
theorem dX9_is_0 : decode cX9_is 0 = .ok (.aload_n 0, 1) := by decide +kernel
theorem dX9_is_1 : decode cX9_is 1 = .ok (.getfield 9, 3) := by decide +kernel
theorem dX9_is_4 : decode cX9_is 4 = .ok (.iload_n 1, 1) := by decide +kernel
theorem dX9_is_5 : decode cX9_is 5 = .ok (.iaload, 1) := by decide +kernel
theorem dX9_is_6 : decode cX9_is 6 = .ok (.iload_n 2, 1) := by decide +kernel
theorem dX9_is_7 : decode cX9_is 7 = .ok (.iand, 1) := by decide +kernel
theorem dX9_is_8 : decode cX9_is 8 = .ok (.ifCond .eq 7, 3) := by decide +kernel
theorem dX9_is_11 : decode cX9_is 11 = .ok (.iconst 1, 1) := by decide +kernel
theorem dX9_is_12 : decode cX9_is 12 = .ok (.goto 4, 3) := by decide +kernel
theorem dX9_is_15 : decode cX9_is 15 = .ok (.iconst 0, 1) := by decide +kernel
theorem dX9_is_16 : decode cX9_is 16 = .ok (.ireturn, 1) := by decide +kernel
theorem dX10_init_0 : decode cX10_init 0 = .ok (.aload_n 0, 1) := by decide +kernel
theorem dX10_init_1 : decode cX10_init 1 = .ok (.invokespecial 3, 3) := by decide +kernel
theorem dX10_init_4 : decode cX10_init 4 = .ok (.aload_n 0, 1) := by decide +kernel
theorem dX10_init_5 : decode cX10_init 5 = .ok (.new 9, 3) := by decide +kernel
theorem dX10_init_8 : decode cX10_init 8 = .ok (.dup, 1) := by decide +kernel
theorem dX10_init_9 : decode cX10_init 9 = .ok (.invokespecial 11, 3) := by decide +kernel
theorem dX10_init_12 : decode cX10_init 12 = .ok (.putfield 12, 3) := by decide +kernel
theorem dX10_init_15 : decode cX10_init 15 = .ok (.aload_n 0, 1) := by decide +kernel
theorem dX10_init_16 : decode cX10_init 16 = .ok (.bipush 10, 2) := by decide +kernel
theorem dX10_init_18 : decode cX10_init 18 = .ok (.newarray .int, 2) := by decide +kernel
theorem dX10_init_20 : decode cX10_init 20 = .ok (.putfield 18, 3) := by decide +kernel
theorem dX10_init_23 : decode cX10_init 23 = .ok (.aload_n 0, 1) := by decide +kernel
theorem dX10_init_24 : decode cX10_init 24 = .ok (.new 9, 3) := by decide +kernel
theorem dX10_init_27 : decode cX10_init 27 = .ok (.dup, 1) := by decide +kernel
theorem dX10_init_28 : decode cX10_init 28 = .ok (.invokespecial 11, 3) := by decide +kernel
theorem dX10_init_31 : decode cX10_init 31 = .ok (.putfield 22, 3) := by decide +kernel
theorem dX10_init_34 : decode cX10_init 34 = .ok (.aload_n 0, 1) := by decide +kernel
theorem dX10_init_35 : decode cX10_init 35 = .ok (.new 9, 3) := by decide +kernel
theorem dX10_init_38 : decode cX10_init 38 = .ok (.dup, 1) := by decide +kernel
theorem dX10_init_39 : decode cX10_init 39 = .ok (.invokespecial 11, 3) := by decide +kernel
theorem dX10_init_42 : decode cX10_init 42 = .ok (.putfield 25, 3) := by decide +kernel
theorem dX10_init_45 : decode cX10_init 45 = .ok (.aload_n 0, 1) := by decide +kernel
theorem dX10_init_46 : decode cX10_init 46 = .ok (.bipush 30, 2) := by decide +kernel
theorem dX10_init_48 : decode cX10_init 48 = .ok (.anewarray 28, 3) := by decide +kernel
theorem dX10_init_51 : decode cX10_init 51 = .ok (.putfield 30, 3) := by decide +kernel
theorem dX10_init_54 : decode cX10_init 54 = .ok (.aload_n 0, 1) := by decide +kernel
theorem dX10_init_55 : decode cX10_init 55 = .ok (.bipush 30, 2) := by decide +kernel
theorem dX10_init_57 : decode cX10_init 57 = .ok (.newarray .int, 2) := by decide +kernel
theorem dX10_init_59 : decode cX10_init 59 = .ok (.putfield 34, 3) := by decide +kernel
theorem dX10_init_62 : decode cX10_init 62 = .ok (.aload_n 0, 1) := by decide +kernel
theorem dX10_init_63 : decode cX10_init 63 = .ok (.bipush 30, 2) := by decide +kernel
theorem dX10_init_65 : decode cX10_init 65 = .ok (.newarray .int, 2) := by decide +kernel
theorem dX10_init_67 : decode cX10_init 67 = .ok (.putfield 37, 3) := by decide +kernel
theorem dX10_init_70 : decode cX10_init 70 = .ok (.aload_n 0, 1) := by decide +kernel
theorem dX10_init_71 : decode cX10_init 71 = .ok (.aload_n 1, 1) := by decide +kernel
theorem dX10_init_72 : decode cX10_init 72 = .ok (.putfield 40, 3) := by decide +kernel
theorem dX10_init_75 : decode cX10_init 75 = .ok (.return_, 1) := by decide +kernel
theorem dX10_forget_0 : decode cX10_forget 0 = .ok (.aload_n 0, 1) := by decide +kernel
theorem dX10_forget_1 : decode cX10_forget 1 = .ok (.iconst 0, 1) := by decide +kernel
theorem dX10_forget_2 : decode cX10_forget 2 = .ok (.putfield 44, 3) := by decide +kernel
theorem dX10_forget_5 : decode cX10_forget 5 = .ok (.return_, 1) := by decide +kernel
theorem dX10_settle_0 : decode cX10_settle 0 = .ok (.aload_n 0, 1) := by decide +kernel
theorem dX10_settle_1 : decode cX10_settle 1 = .ok (.getfield 44, 3) := by decide +kernel
theorem dX10_settle_4 : decode cX10_settle 4 = .ok (.ifCond .eq 4, 3) := by decide +kernel
theorem dX10_settle_7 : decode cX10_settle 7 = .ok (.return_, 1) := by decide +kernel
theorem dX10_settle_8 : decode cX10_settle 8 = .ok (.aload_n 0, 1) := by decide +kernel
theorem dX10_settle_9 : decode cX10_settle 9 = .ok (.getfield 40, 3) := by decide +kernel
theorem dX10_settle_12 : decode cX10_settle 12 = .ok (.invokevirtual 48, 3) := by decide +kernel
theorem dX10_settle_15 : decode cX10_settle 15 = .ok (.aload_n 0, 1) := by decide +kernel
theorem dX10_settle_16 : decode cX10_settle 16 = .ok (.getfield 12, 3) := by decide +kernel
theorem dX10_settle_19 : decode cX10_settle 19 = .ok (.invokevirtual 53, 3) := by decide +kernel
theorem dX10_settle_22 : decode cX10_settle 22 = .ok (.aload_n 0, 1) := by decide +kernel
theorem dX10_settle_23 : decode cX10_settle 23 = .ok (.aload_n 0, 1) := by decide +kernel
theorem dX10_settle_24 : decode cX10_settle 24 = .ok (.getfield 12, 3) := by decide +kernel
theorem dX10_settle_27 : decode cX10_settle 27 = .ok (.invokevirtual 56, 3) := by decide +kernel
theorem dX10_settle_30 : decode cX10_settle 30 = .ok (.iconst 0, 1) := by decide +kernel
theorem dX10_settle_31 : decode cX10_settle 31 = .ok (.istore_n 1, 1) := by decide +kernel
theorem dX10_settle_32 : decode cX10_settle 32 = .ok (.iload_n 1, 1) := by decide +kernel
theorem dX10_settle_33 : decode cX10_settle 33 = .ok (.aload_n 0, 1) := by decide +kernel
theorem dX10_settle_34 : decode cX10_settle 34 = .ok (.getfield 40, 3) := by decide +kernel
theorem dX10_settle_37 : decode cX10_settle 37 = .ok (.getfield 60, 3) := by decide +kernel
theorem dX10_settle_40 : decode cX10_settle 40 = .ok (.if_icmp .ge 37, 3) := by decide +kernel
theorem dX10_settle_43 : decode cX10_settle 43 = .ok (.aload_n 0, 1) := by decide +kernel
theorem dX10_settle_44 : decode cX10_settle 44 = .ok (.getfield 40, 3) := by decide +kernel
theorem dX10_settle_47 : decode cX10_settle 47 = .ok (.getfield 64, 3) := by decide +kernel
theorem dX10_settle_50 : decode cX10_settle 50 = .ok (.iload_n 1, 1) := by decide +kernel
theorem dX10_settle_51 : decode cX10_settle 51 = .ok (.aaload, 1) := by decide +kernel
theorem dX10_settle_52 : decode cX10_settle 52 = .ok (.aload_n 0, 1) := by decide +kernel
theorem dX10_settle_53 : decode cX10_settle 53 = .ok (.getfield 40, 3) := by decide +kernel
theorem dX10_settle_56 : decode cX10_settle 56 = .ok (.getfield 64, 3) := by decide +kernel
theorem dX10_settle_59 : decode cX10_settle 59 = .ok (.iload_n 1, 1) := by decide +kernel
theorem dX10_settle_60 : decode cX10_settle 60 = .ok (.aaload, 1) := by decide +kernel
theorem dX10_settle_61 : decode cX10_settle 61 = .ok (.aload_n 0, 1) := by decide +kernel
theorem dX10_settle_62 : decode cX10_settle 62 = .ok (.getfield 12, 3) := by decide +kernel
theorem dX10_settle_65 : decode cX10_settle 65 = .ok (.invokestatic 67, 3) := by decide +kernel
theorem dX10_settle_68 : decode cX10_settle 68 = .ok (.putfield 71, 3) := by decide +kernel
theorem dX10_settle_71 : decode cX10_settle 71 = .ok (.iinc 1 1, 3) := by decide +kernel
theorem dX10_settle_74 : decode cX10_settle 74 = .ok (.goto (-42), 3) := by decide +kernel
theorem dX10_settle_77 : decode cX10_settle 77 = .ok (.aload_n 0, 1) := by decide +kernel
theorem dX10_settle_78 : decode cX10_settle 78 = .ok (.aload_n 0, 1) := by decide +kernel
theorem dX10_settle_79 : decode cX10_settle 79 = .ok (.getfield 12, 3) := by decide +kernel
theorem dX10_settle_82 : decode cX10_settle 82 = .ok (.invokevirtual 74, 3) := by decide +kernel
theorem dX10_settle_85 : decode cX10_settle 85 = .ok (.putfield 78, 3) := by decide +kernel
theorem dX10_settle_88 : decode cX10_settle 88 = .ok (.aload_n 0, 1) := by decide +kernel
theorem dX10_settle_89 : decode cX10_settle 89 = .ok (.getfield 22, 3) := by decide +kernel
theorem dX10_settle_92 : decode cX10_settle 92 = .ok (.aload_n 0, 1) := by decide +kernel
theorem dX10_settle_93 : decode cX10_settle 93 = .ok (.getfield 12, 3) := by decide +kernel
theorem dX10_settle_96 : decode cX10_settle 96 = .ok (.invokevirtual 81, 3) := by decide +kernel
theorem dX10_settle_99 : decode cX10_settle 99 = .ok (.aload_n 0, 1) := by decide +kernel
theorem dX10_settle_100 : decode cX10_settle 100 = .ok (.getfield 78, 3) := by decide +kernel
theorem dX10_settle_103 : decode cX10_settle 103 = .ok (.ifCond .ne 7, 3) := by decide +kernel
theorem dX10_settle_106 : decode cX10_settle 106 = .ok (.aload_n 0, 1) := by decide +kernel
theorem dX10_settle_107 : decode cX10_settle 107 = .ok (.invokevirtual 84, 3) := by decide +kernel
theorem dX10_settle_110 : decode cX10_settle 110 = .ok (.iconst 0, 1) := by decide +kernel
theorem dX10_settle_111 : decode cX10_settle 111 = .ok (.istore_n 1, 1) := by decide +kernel
theorem dX10_settle_112 : decode cX10_settle 112 = .ok (.iload_n 1, 1) := by decide +kernel
theorem dX10_settle_113 : decode cX10_settle 113 = .ok (.bipush 10, 2) := by decide +kernel
theorem dX10_settle_115 : decode cX10_settle 115 = .ok (.if_icmp .ge 20, 3) := by decide +kernel
theorem dX10_settle_118 : decode cX10_settle 118 = .ok (.aload_n 0, 1) := by decide +kernel
theorem dX10_settle_119 : decode cX10_settle 119 = .ok (.getfield 18, 3) := by decide +kernel
theorem dX10_settle_122 : decode cX10_settle 122 = .ok (.iload_n 1, 1) := by decide +kernel
theorem dX10_settle_123 : decode cX10_settle 123 = .ok (.aload_n 0, 1) := by decide +kernel
theorem dX10_settle_124 : decode cX10_settle 124 = .ok (.iload_n 1, 1) := by decide +kernel
theorem dX10_settle_125 : decode cX10_settle 125 = .ok (.invokevirtual 87, 3) := by decide +kernel
theorem dX10_settle_128 : decode cX10_settle 128 = .ok (.iastore, 1) := by decide +kernel
theorem dX10_settle_129 : decode cX10_settle 129 = .ok (.iinc 1 1, 3) := by decide +kernel
theorem dX10_settle_132 : decode cX10_settle 132 = .ok (.goto (-20), 3) := by decide +kernel
theorem dX10_settle_135 : decode cX10_settle 135 = .ok (.aload_n 0, 1) := by decide +kernel
theorem dX10_settle_136 : decode cX10_settle 136 = .ok (.invokevirtual 91, 3) := by decide +kernel
theorem dX10_settle_139 : decode cX10_settle 139 = .ok (.aload_n 0, 1) := by decide +kernel
theorem dX10_settle_140 : decode cX10_settle 140 = .ok (.iconst 0, 1) := by decide +kernel
theorem dX10_settle_141 : decode cX10_settle 141 = .ok (.putfield 94, 3) := by decide +kernel
theorem dX10_settle_144 : decode cX10_settle 144 = .ok (.aload_n 0, 1) := by decide +kernel
theorem dX10_settle_145 : decode cX10_settle 145 = .ok (.iconst 1, 1) := by decide +kernel
theorem dX10_settle_146 : decode cX10_settle 146 = .ok (.putfield 44, 3) := by decide +kernel
theorem dX10_settle_149 : decode cX10_settle 149 = .ok (.return_, 1) := by decide +kernel
theorem dX10_findValue_0 : decode cX10_findValue 0 = .ok (.aload_n 0, 1) := by decide +kernel
theorem dX10_findValue_1 : decode cX10_findValue 1 = .ok (.getfield 78, 3) := by decide +kernel
theorem dX10_findValue_4 : decode cX10_findValue 4 = .ok (.ifCond .eq 6, 3) := by decide +kernel
theorem dX10_findValue_7 : decode cX10_findValue 7 = .ok (.bipush (-2), 2) := by decide +kernel
theorem dX10_findValue_9 : decode cX10_findValue 9 = .ok (.ireturn, 1) := by decide +kernel
theorem dX10_findValue_10 : decode cX10_findValue 10 = .ok (.aload_n 0, 1) := by decide +kernel
theorem dX10_findValue_11 : decode cX10_findValue 11 = .ok (.getfield 22, 3) := by decide +kernel
theorem dX10_findValue_14 : decode cX10_findValue 14 = .ok (.getfield 97, 3) := by decide +kernel
theorem dX10_findValue_17 : decode cX10_findValue 17 = .ok (.iload_n 1, 1) := by decide +kernel
theorem dX10_findValue_18 : decode cX10_findValue 18 = .ok (.laload, 1) := by decide +kernel
theorem dX10_findValue_19 : decode cX10_findValue 19 = .ok (.lstore_n 2, 1) := by decide +kernel
theorem dX10_findValue_20 : decode cX10_findValue 20 = .ok (.lload_n 2, 1) := by decide +kernel
theorem dX10_findValue_21 : decode cX10_findValue 21 = .ok (.invokestatic 101, 3) := by decide +kernel
theorem dX10_findValue_24 : decode cX10_findValue 24 = .ok (.iconst 1, 1) := by decide +kernel
theorem dX10_findValue_25 : decode cX10_findValue 25 = .ok (.if_icmp .ne 10, 3) := by decide +kernel
theorem dX10_findValue_28 : decode cX10_findValue 28 = .ok (.lload_n 2, 1) := by decide +kernel
theorem dX10_findValue_29 : decode cX10_findValue 29 = .ok (.invokestatic 107, 3) := by decide +kernel
theorem dX10_findValue_32 : decode cX10_findValue 32 = .ok (.goto 4, 3) := by decide +kernel
theorem dX10_findValue_35 : decode cX10_findValue 35 = .ok (.iconst (-1), 1) := by decide +kernel
theorem dX10_findValue_36 : decode cX10_findValue 36 = .ok (.ireturn, 1) := by decide +kernel
theorem dX10_isTainted_0 : decode cX10_isTainted 0 = .ok (.aload_n 0, 1) := by decide +kernel
theorem dX10_isTainted_1 : decode cX10_isTainted 1 = .ok (.getfield 110, 3) := by decide +kernel
theorem dX10_isTainted_4 : decode cX10_isTainted 4 = .ok (.iconst 1, 1) := by decide +kernel
theorem dX10_isTainted_5 : decode cX10_isTainted 5 = .ok (.iload_n 1, 1) := by decide +kernel
theorem dX10_isTainted_6 : decode cX10_isTainted 6 = .ok (.ishl, 1) := by decide +kernel
theorem dX10_isTainted_7 : decode cX10_isTainted 7 = .ok (.iand, 1) := by decide +kernel
theorem dX10_isTainted_8 : decode cX10_isTainted 8 = .ok (.ifCond .eq 7, 3) := by decide +kernel
theorem dX10_isTainted_11 : decode cX10_isTainted 11 = .ok (.iconst 1, 1) := by decide +kernel
theorem dX10_isTainted_12 : decode cX10_isTainted 12 = .ok (.goto 4, 3) := by decide +kernel
theorem dX10_isTainted_15 : decode cX10_isTainted 15 = .ok (.iconst 0, 1) := by decide +kernel
theorem dX10_isTainted_16 : decode cX10_isTainted 16 = .ok (.ireturn, 1) := by decide +kernel
theorem dX10_narrowBackwards_0 : decode cX10_narrowBackwards 0 = .ok (.aload_n 0, 1) := by decide +kernel
theorem dX10_narrowBackwards_1 : decode cX10_narrowBackwards 1 = .ok (.getfield 25, 3) := by decide +kernel
theorem dX10_narrowBackwards_4 : decode cX10_narrowBackwards 4 = .ok (.invokevirtual 53, 3) := by decide +kernel
theorem dX10_narrowBackwards_7 : decode cX10_narrowBackwards 7 = .ok (.iconst 1, 1) := by decide +kernel
theorem dX10_narrowBackwards_8 : decode cX10_narrowBackwards 8 = .ok (.istore_n 1, 1) := by decide +kernel
theorem dX10_narrowBackwards_9 : decode cX10_narrowBackwards 9 = .ok (.iconst 0, 1) := by decide +kernel
theorem dX10_narrowBackwards_10 : decode cX10_narrowBackwards 10 = .ok (.istore_n 2, 1) := by decide +kernel
theorem dX10_narrowBackwards_11 : decode cX10_narrowBackwards 11 = .ok (.iload_n 1, 1) := by decide +kernel
theorem dX10_narrowBackwards_12 : decode cX10_narrowBackwards 12 = .ok (.ifCond .eq 53, 3) := by decide +kernel
theorem dX10_narrowBackwards_15 : decode cX10_narrowBackwards 15 = .ok (.iload_n 2, 1) := by decide +kernel
theorem dX10_narrowBackwards_16 : decode cX10_narrowBackwards 16 = .ok (.ldc 113, 2) := by decide +kernel
theorem dX10_narrowBackwards_18 : decode cX10_narrowBackwards 18 = .ok (.if_icmp .ge 47, 3) := by decide +kernel
theorem dX10_narrowBackwards_21 : decode cX10_narrowBackwards 21 = .ok (.iconst 0, 1) := by decide +kernel
theorem dX10_narrowBackwards_22 : decode cX10_narrowBackwards 22 = .ok (.istore_n 1, 1) := by decide +kernel
theorem dX10_narrowBackwards_23 : decode cX10_narrowBackwards 23 = .ok (.aload_n 0, 1) := by decide +kernel
theorem dX10_narrowBackwards_24 : decode cX10_narrowBackwards 24 = .ok (.getfield 40, 3) := by decide +kernel
theorem dX10_narrowBackwards_27 : decode cX10_narrowBackwards 27 = .ok (.getfield 60, 3) := by decide +kernel
theorem dX10_narrowBackwards_30 : decode cX10_narrowBackwards 30 = .ok (.iconst 1, 1) := by decide +kernel
theorem dX10_narrowBackwards_31 : decode cX10_narrowBackwards 31 = .ok (.isub, 1) := by decide +kernel
theorem dX10_narrowBackwards_32 : decode cX10_narrowBackwards 32 = .ok (.istore_n 3, 1) := by decide +kernel
theorem dX10_narrowBackwards_33 : decode cX10_narrowBackwards 33 = .ok (.iload_n 3, 1) := by decide +kernel
theorem dX10_narrowBackwards_34 : decode cX10_narrowBackwards 34 = .ok (.ifCond .lt 25, 3) := by decide +kernel
theorem dX10_narrowBackwards_37 : decode cX10_narrowBackwards 37 = .ok (.iload_n 1, 1) := by decide +kernel
theorem dX10_narrowBackwards_38 : decode cX10_narrowBackwards 38 = .ok (.aload_n 0, 1) := by decide +kernel
theorem dX10_narrowBackwards_39 : decode cX10_narrowBackwards 39 = .ok (.aload_n 0, 1) := by decide +kernel
theorem dX10_narrowBackwards_40 : decode cX10_narrowBackwards 40 = .ok (.getfield 40, 3) := by decide +kernel
theorem dX10_narrowBackwards_43 : decode cX10_narrowBackwards 43 = .ok (.getfield 64, 3) := by decide +kernel
theorem dX10_narrowBackwards_46 : decode cX10_narrowBackwards 46 = .ok (.iload_n 3, 1) := by decide +kernel
theorem dX10_narrowBackwards_47 : decode cX10_narrowBackwards 47 = .ok (.aaload, 1) := by decide +kernel
theorem dX10_narrowBackwards_48 : decode cX10_narrowBackwards 48 = .ok (.invokevirtual 114, 3) := by decide +kernel
theorem dX10_narrowBackwards_51 : decode cX10_narrowBackwards 51 = .ok (.ior, 1) := by decide +kernel
theorem dX10_narrowBackwards_52 : decode cX10_narrowBackwards 52 = .ok (.istore_n 1, 1) := by decide +kernel
theorem dX10_narrowBackwards_53 : decode cX10_narrowBackwards 53 = .ok (.iinc 3 (-1), 3) := by decide +kernel
theorem dX10_narrowBackwards_56 : decode cX10_narrowBackwards 56 = .ok (.goto (-23), 3) := by decide +kernel
theorem dX10_narrowBackwards_59 : decode cX10_narrowBackwards 59 = .ok (.iinc 2 1, 3) := by decide +kernel
theorem dX10_narrowBackwards_62 : decode cX10_narrowBackwards 62 = .ok (.goto (-51), 3) := by decide +kernel
theorem dX10_narrowBackwards_65 : decode cX10_narrowBackwards 65 = .ok (.aload_n 0, 1) := by decide +kernel
theorem dX10_narrowBackwards_66 : decode cX10_narrowBackwards 66 = .ok (.getfield 25, 3) := by decide +kernel
theorem dX10_narrowBackwards_69 : decode cX10_narrowBackwards 69 = .ok (.areturn, 1) := by decide +kernel
theorem dX10_narrowOut_0 : decode cX10_narrowOut 0 = .ok (.iconst 0, 1) := by decide +kernel
theorem dX10_narrowOut_1 : decode cX10_narrowOut 1 = .ok (.istore_n 2, 1) := by decide +kernel
theorem dX10_narrowOut_2 : decode cX10_narrowOut 2 = .ok (.iload_n 2, 1) := by decide +kernel
theorem dX10_narrowOut_3 : decode cX10_narrowOut 3 = .ok (.ldc 113, 2) := by decide +kernel
theorem dX10_narrowOut_5 : decode cX10_narrowOut 5 = .ok (.if_icmp .ge 31, 3) := by decide +kernel
theorem dX10_narrowOut_8 : decode cX10_narrowOut 8 = .ok (.aload_n 1, 1) := by decide +kernel
theorem dX10_narrowOut_9 : decode cX10_narrowOut 9 = .ok (.aload_n 0, 1) := by decide +kernel
theorem dX10_narrowOut_10 : decode cX10_narrowOut 10 = .ok (.getfield 25, 3) := by decide +kernel
theorem dX10_narrowOut_13 : decode cX10_narrowOut 13 = .ok (.invokestatic 67, 3) := by decide +kernel
theorem dX10_narrowOut_16 : decode cX10_narrowOut 16 = .ok (.ifCond .eq 20, 3) := by decide +kernel
theorem dX10_narrowOut_19 : decode cX10_narrowOut 19 = .ok (.aload_n 0, 1) := by decide +kernel
theorem dX10_narrowOut_20 : decode cX10_narrowOut 20 = .ok (.getfield 25, 3) := by decide +kernel
theorem dX10_narrowOut_23 : decode cX10_narrowOut 23 = .ok (.aload_n 1, 1) := by decide +kernel
theorem dX10_narrowOut_24 : decode cX10_narrowOut 24 = .ok (.invokevirtual 118, 3) := by decide +kernel
theorem dX10_narrowOut_27 : decode cX10_narrowOut 27 = .ok (.ifCond .eq 9, 3) := by decide +kernel
theorem dX10_narrowOut_30 : decode cX10_narrowOut 30 = .ok (.iinc 2 1, 3) := by decide +kernel
theorem dX10_narrowOut_33 : decode cX10_narrowOut 33 = .ok (.goto (-31), 3) := by decide +kernel
theorem dX10_narrowOut_36 : decode cX10_narrowOut 36 = .ok (.iload_n 2, 1) := by decide +kernel
theorem dX10_narrowOut_37 : decode cX10_narrowOut 37 = .ok (.ifCond .le 7, 3) := by decide +kernel
theorem dX10_narrowOut_40 : decode cX10_narrowOut 40 = .ok (.iconst 1, 1) := by decide +kernel
theorem dX10_narrowOut_41 : decode cX10_narrowOut 41 = .ok (.goto 4, 3) := by decide +kernel
theorem dX10_narrowOut_44 : decode cX10_narrowOut 44 = .ok (.iconst 0, 1) := by decide +kernel
theorem dX10_narrowOut_45 : decode cX10_narrowOut 45 = .ok (.ireturn, 1) := by decide +kernel
theorem dX10_isCounting_0 : decode cX10_isCounting 0 = .ok (.aload_n 0, 1) := by decide +kernel
theorem dX10_isCounting_1 : decode cX10_isCounting 1 = .ok (.getfield 121, 3) := by decide +kernel
theorem dX10_isCounting_4 : decode cX10_isCounting 4 = .ok (.ifCond .eq 17, 3) := by decide +kernel
theorem dX10_isCounting_7 : decode cX10_isCounting 7 = .ok (.aload_n 0, 1) := by decide +kernel
theorem dX10_isCounting_8 : decode cX10_isCounting 8 = .ok (.invokevirtual 124, 3) := by decide +kernel
theorem dX10_isCounting_11 : decode cX10_isCounting 11 = .ok (.ifCond .eq 10, 3) := by decide +kernel
theorem dX10_isCounting_14 : decode cX10_isCounting 14 = .ok (.aload_n 0, 1) := by decide +kernel
theorem dX10_isCounting_15 : decode cX10_isCounting 15 = .ok (.getfield 127, 3) := by decide +kernel
theorem dX10_isCounting_18 : decode cX10_isCounting 18 = .ok (.ifCond .eq 5, 3) := by decide +kernel
theorem dX10_isCounting_21 : decode cX10_isCounting 21 = .ok (.iconst 0, 1) := by decide +kernel
theorem dX10_isCounting_22 : decode cX10_isCounting 22 = .ok (.ireturn, 1) := by decide +kernel
theorem dX10_isCounting_23 : decode cX10_isCounting 23 = .ok (.aload_n 0, 1) := by decide +kernel
theorem dX10_isCounting_24 : decode cX10_isCounting 24 = .ok (.getfield 130, 3) := by decide +kernel
theorem dX10_isCounting_27 : decode cX10_isCounting 27 = .ok (.ifnull 24, 3) := by decide +kernel
theorem dX10_isCounting_30 : decode cX10_isCounting 30 = .ok (.aload_n 1, 1) := by decide +kernel
theorem dX10_isCounting_31 : decode cX10_isCounting 31 = .ok (.aload_n 0, 1) := by decide +kernel
theorem dX10_isCounting_32 : decode cX10_isCounting 32 = .ok (.getfield 130, 3) := by decide +kernel
theorem dX10_isCounting_35 : decode cX10_isCounting 35 = .ok (.getfield 134, 3) := by decide +kernel
theorem dX10_isCounting_38 : decode cX10_isCounting 38 = .ok (.aload_n 0, 1) := by decide +kernel
theorem dX10_isCounting_39 : decode cX10_isCounting 39 = .ok (.getfield 130, 3) := by decide +kernel
theorem dX10_isCounting_42 : decode cX10_isCounting 42 = .ok (.getfield 137, 3) := by decide +kernel
theorem dX10_isCounting_45 : decode cX10_isCounting 45 = .ok (.invokevirtual 140, 3) := by decide +kernel
theorem dX10_isCounting_48 : decode cX10_isCounting 48 = .ok (.ifCond .eq 7, 3) := by decide +kernel
theorem dX10_isCounting_51 : decode cX10_isCounting 51 = .ok (.iconst 1, 1) := by decide +kernel
theorem dX10_isCounting_52 : decode cX10_isCounting 52 = .ok (.goto 4, 3) := by decide +kernel
theorem dX10_isCounting_55 : decode cX10_isCounting 55 = .ok (.iconst 0, 1) := by decide +kernel
theorem dX10_isCounting_56 : decode cX10_isCounting 56 = .ok (.ireturn, 1) := by decide +kernel
theorem dX10_narrowAll_0 : decode cX10_narrowAll 0 = .ok (.iconst 1, 1) := by decide +kernel
theorem dX10_narrowAll_1 : decode cX10_narrowAll 1 = .ok (.istore_n 2, 1) := by decide +kernel
theorem dX10_narrowAll_2 : decode cX10_narrowAll 2 = .ok (.iconst 0, 1) := by decide +kernel
theorem dX10_narrowAll_3 : decode cX10_narrowAll 3 = .ok (.istore_n 3, 1) := by decide +kernel
theorem dX10_narrowAll_4 : decode cX10_narrowAll 4 = .ok (.iload_n 2, 1) := by decide +kernel
theorem dX10_narrowAll_5 : decode cX10_narrowAll 5 = .ok (.ifCond .eq 68, 3) := by decide +kernel
theorem dX10_narrowAll_8 : decode cX10_narrowAll 8 = .ok (.iload_n 3, 1) := by decide +kernel
theorem dX10_narrowAll_9 : decode cX10_narrowAll 9 = .ok (.ldc 113, 2) := by decide +kernel
theorem dX10_narrowAll_11 : decode cX10_narrowAll 11 = .ok (.if_icmp .ge 62, 3) := by decide +kernel
theorem dX10_narrowAll_14 : decode cX10_narrowAll 14 = .ok (.iconst 0, 1) := by decide +kernel
theorem dX10_narrowAll_15 : decode cX10_narrowAll 15 = .ok (.istore_n 2, 1) := by decide +kernel
theorem dX10_narrowAll_16 : decode cX10_narrowAll 16 = .ok (.iconst 0, 1) := by decide +kernel
theorem dX10_narrowAll_17 : decode cX10_narrowAll 17 = .ok (.istore 4, 2) := by decide +kernel
theorem dX10_narrowAll_19 : decode cX10_narrowAll 19 = .ok (.iload 4, 2) := by decide +kernel
theorem dX10_narrowAll_21 : decode cX10_narrowAll 21 = .ok (.aload_n 0, 1) := by decide +kernel
theorem dX10_narrowAll_22 : decode cX10_narrowAll 22 = .ok (.getfield 40, 3) := by decide +kernel
theorem dX10_narrowAll_25 : decode cX10_narrowAll 25 = .ok (.getfield 60, 3) := by decide +kernel
theorem dX10_narrowAll_28 : decode cX10_narrowAll 28 = .ok (.if_icmp .ge 39, 3) := by decide +kernel
theorem dX10_narrowAll_31 : decode cX10_narrowAll 31 = .ok (.aload_n 0, 1) := by decide +kernel
theorem dX10_narrowAll_32 : decode cX10_narrowAll 32 = .ok (.getfield 40, 3) := by decide +kernel
theorem dX10_narrowAll_35 : decode cX10_narrowAll 35 = .ok (.getfield 64, 3) := by decide +kernel
theorem dX10_narrowAll_38 : decode cX10_narrowAll 38 = .ok (.iload 4, 2) := by decide +kernel
theorem dX10_narrowAll_40 : decode cX10_narrowAll 40 = .ok (.aaload, 1) := by decide +kernel
theorem dX10_narrowAll_41 : decode cX10_narrowAll 41 = .ok (.astore 5, 2) := by decide +kernel
theorem dX10_narrowAll_43 : decode cX10_narrowAll 43 = .ok (.aload 5, 2) := by decide +kernel
theorem dX10_narrowAll_45 : decode cX10_narrowAll 45 = .ok (.aload_n 1, 1) := by decide +kernel
theorem dX10_narrowAll_46 : decode cX10_narrowAll 46 = .ok (.invokestatic 67, 3) := by decide +kernel
theorem dX10_narrowAll_49 : decode cX10_narrowAll 49 = .ok (.ifCond .eq 12, 3) := by decide +kernel
theorem dX10_narrowAll_52 : decode cX10_narrowAll 52 = .ok (.iload_n 2, 1) := by decide +kernel
theorem dX10_narrowAll_53 : decode cX10_narrowAll 53 = .ok (.aload_n 1, 1) := by decide +kernel
theorem dX10_narrowAll_54 : decode cX10_narrowAll 54 = .ok (.aload 5, 2) := by decide +kernel
theorem dX10_narrowAll_56 : decode cX10_narrowAll 56 = .ok (.invokevirtual 118, 3) := by decide +kernel
theorem dX10_narrowAll_59 : decode cX10_narrowAll 59 = .ok (.ior, 1) := by decide +kernel
theorem dX10_narrowAll_60 : decode cX10_narrowAll 60 = .ok (.istore_n 2, 1) := by decide +kernel
theorem dX10_narrowAll_61 : decode cX10_narrowAll 61 = .ok (.iinc 4 1, 3) := by decide +kernel
theorem dX10_narrowAll_64 : decode cX10_narrowAll 64 = .ok (.goto (-45), 3) := by decide +kernel
theorem dX10_narrowAll_67 : decode cX10_narrowAll 67 = .ok (.iinc 3 1, 3) := by decide +kernel
theorem dX10_narrowAll_70 : decode cX10_narrowAll 70 = .ok (.goto (-66), 3) := by decide +kernel
theorem dX10_narrowAll_73 : decode cX10_narrowAll 73 = .ok (.return_, 1) := by decide +kernel
theorem dX10_takeDefaults_0 : decode cX10_takeDefaults 0 = .ok (.iconst 0, 1) := by decide +kernel
theorem dX10_takeDefaults_1 : decode cX10_takeDefaults 1 = .ok (.istore_n 1, 1) := by decide +kernel
theorem dX10_takeDefaults_2 : decode cX10_takeDefaults 2 = .ok (.iload_n 1, 1) := by decide +kernel
theorem dX10_takeDefaults_3 : decode cX10_takeDefaults 3 = .ok (.bipush 10, 2) := by decide +kernel
theorem dX10_takeDefaults_5 : decode cX10_takeDefaults 5 = .ok (.if_icmp .ge 96, 3) := by decide +kernel
theorem dX10_takeDefaults_8 : decode cX10_takeDefaults 8 = .ok (.aload_n 0, 1) := by decide +kernel
theorem dX10_takeDefaults_9 : decode cX10_takeDefaults 9 = .ok (.getfield 22, 3) := by decide +kernel
theorem dX10_takeDefaults_12 : decode cX10_takeDefaults 12 = .ok (.getfield 97, 3) := by decide +kernel
theorem dX10_takeDefaults_15 : decode cX10_takeDefaults 15 = .ok (.iload_n 1, 1) := by decide +kernel
theorem dX10_takeDefaults_16 : decode cX10_takeDefaults 16 = .ok (.laload, 1) := by decide +kernel
theorem dX10_takeDefaults_17 : decode cX10_takeDefaults 17 = .ok (.lstore_n 2, 1) := by decide +kernel
theorem dX10_takeDefaults_18 : decode cX10_takeDefaults 18 = .ok (.lload_n 2, 1) := by decide +kernel
theorem dX10_takeDefaults_19 : decode cX10_takeDefaults 19 = .ok (.aload_n 0, 1) := by decide +kernel
theorem dX10_takeDefaults_20 : decode cX10_takeDefaults 20 = .ok (.iload_n 1, 1) := by decide +kernel
theorem dX10_takeDefaults_21 : decode cX10_takeDefaults 21 = .ok (.invokevirtual 144, 3) := by decide +kernel
theorem dX10_takeDefaults_24 : decode cX10_takeDefaults 24 = .ok (.land, 1) := by decide +kernel
theorem dX10_takeDefaults_25 : decode cX10_takeDefaults 25 = .ok (.lstore 4, 2) := by decide +kernel
theorem dX10_takeDefaults_27 : decode cX10_takeDefaults 27 = .ok (.lload_n 2, 1) := by decide +kernel
theorem dX10_takeDefaults_28 : decode cX10_takeDefaults 28 = .ok (.invokestatic 101, 3) := by decide +kernel
theorem dX10_takeDefaults_31 : decode cX10_takeDefaults 31 = .ok (.iconst 1, 1) := by decide +kernel
theorem dX10_takeDefaults_32 : decode cX10_takeDefaults 32 = .ok (.if_icmp .le 63, 3) := by decide +kernel
theorem dX10_takeDefaults_35 : decode cX10_takeDefaults 35 = .ok (.lload 4, 2) := by decide +kernel
theorem dX10_takeDefaults_37 : decode cX10_takeDefaults 37 = .ok (.invokestatic 101, 3) := by decide +kernel
theorem dX10_takeDefaults_40 : decode cX10_takeDefaults 40 = .ok (.iconst 1, 1) := by decide +kernel
theorem dX10_takeDefaults_41 : decode cX10_takeDefaults 41 = .ok (.if_icmp .ne 54, 3) := by decide +kernel
theorem dX10_takeDefaults_44 : decode cX10_takeDefaults 44 = .ok (.aload_n 0, 1) := by decide +kernel
theorem dX10_takeDefaults_45 : decode cX10_takeDefaults 45 = .ok (.getfield 25, 3) := by decide +kernel
theorem dX10_takeDefaults_48 : decode cX10_takeDefaults 48 = .ok (.aload_n 0, 1) := by decide +kernel
theorem dX10_takeDefaults_49 : decode cX10_takeDefaults 49 = .ok (.getfield 22, 3) := by decide +kernel
theorem dX10_takeDefaults_52 : decode cX10_takeDefaults 52 = .ok (.invokevirtual 81, 3) := by decide +kernel
theorem dX10_takeDefaults_55 : decode cX10_takeDefaults 55 = .ok (.aload_n 0, 1) := by decide +kernel
theorem dX10_takeDefaults_56 : decode cX10_takeDefaults 56 = .ok (.getfield 22, 3) := by decide +kernel
theorem dX10_takeDefaults_59 : decode cX10_takeDefaults 59 = .ok (.getfield 97, 3) := by decide +kernel
theorem dX10_takeDefaults_62 : decode cX10_takeDefaults 62 = .ok (.iload_n 1, 1) := by decide +kernel
theorem dX10_takeDefaults_63 : decode cX10_takeDefaults 63 = .ok (.lload 4, 2) := by decide +kernel
theorem dX10_takeDefaults_65 : decode cX10_takeDefaults 65 = .ok (.lastore, 1) := by decide +kernel
theorem dX10_takeDefaults_66 : decode cX10_takeDefaults 66 = .ok (.aload_n 0, 1) := by decide +kernel
theorem dX10_takeDefaults_67 : decode cX10_takeDefaults 67 = .ok (.aload_n 0, 1) := by decide +kernel
theorem dX10_takeDefaults_68 : decode cX10_takeDefaults 68 = .ok (.getfield 22, 3) := by decide +kernel
theorem dX10_takeDefaults_71 : decode cX10_takeDefaults 71 = .ok (.invokevirtual 56, 3) := by decide +kernel
theorem dX10_takeDefaults_74 : decode cX10_takeDefaults 74 = .ok (.aload_n 0, 1) := by decide +kernel
theorem dX10_takeDefaults_75 : decode cX10_takeDefaults 75 = .ok (.getfield 22, 3) := by decide +kernel
theorem dX10_takeDefaults_78 : decode cX10_takeDefaults 78 = .ok (.invokevirtual 74, 3) := by decide +kernel
theorem dX10_takeDefaults_81 : decode cX10_takeDefaults 81 = .ok (.ifCond .eq 14, 3) := by decide +kernel
theorem dX10_takeDefaults_84 : decode cX10_takeDefaults 84 = .ok (.aload_n 0, 1) := by decide +kernel
theorem dX10_takeDefaults_85 : decode cX10_takeDefaults 85 = .ok (.getfield 22, 3) := by decide +kernel
theorem dX10_takeDefaults_88 : decode cX10_takeDefaults 88 = .ok (.aload_n 0, 1) := by decide +kernel
theorem dX10_takeDefaults_89 : decode cX10_takeDefaults 89 = .ok (.getfield 25, 3) := by decide +kernel
theorem dX10_takeDefaults_92 : decode cX10_takeDefaults 92 = .ok (.invokevirtual 81, 3) := by decide +kernel
theorem dX10_takeDefaults_95 : decode cX10_takeDefaults 95 = .ok (.iinc 1 1, 3) := by decide +kernel
theorem dX10_takeDefaults_98 : decode cX10_takeDefaults 98 = .ok (.goto (-96), 3) := by decide +kernel
theorem dX10_takeDefaults_101 : decode cX10_takeDefaults 101 = .ok (.return_, 1) := by decide +kernel
theorem dX10_defaultsOf_0 : decode cX10_defaultsOf 0 = .ok (.lconst 0, 1) := by decide +kernel
theorem dX10_defaultsOf_1 : decode cX10_defaultsOf 1 = .ok (.lstore_n 2, 1) := by decide +kernel
theorem dX10_defaultsOf_2 : decode cX10_defaultsOf 2 = .ok (.iconst (-1), 1) := by decide +kernel
theorem dX10_defaultsOf_3 : decode cX10_defaultsOf 3 = .ok (.istore 4, 2) := by decide +kernel
theorem dX10_defaultsOf_5 : decode cX10_defaultsOf 5 = .ok (.iconst 0, 1) := by decide +kernel
theorem dX10_defaultsOf_6 : decode cX10_defaultsOf 6 = .ok (.istore 5, 2) := by decide +kernel
theorem dX10_defaultsOf_8 : decode cX10_defaultsOf 8 = .ok (.iload 5, 2) := by decide +kernel
theorem dX10_defaultsOf_10 : decode cX10_defaultsOf 10 = .ok (.aload_n 0, 1) := by decide +kernel
theorem dX10_defaultsOf_11 : decode cX10_defaultsOf 11 = .ok (.getfield 40, 3) := by decide +kernel
theorem dX10_defaultsOf_14 : decode cX10_defaultsOf 14 = .ok (.getfield 60, 3) := by decide +kernel
theorem dX10_defaultsOf_17 : decode cX10_defaultsOf 17 = .ok (.if_icmp .ge 112, 3) := by decide +kernel
theorem dX10_defaultsOf_20 : decode cX10_defaultsOf 20 = .ok (.aload_n 0, 1) := by decide +kernel
theorem dX10_defaultsOf_21 : decode cX10_defaultsOf 21 = .ok (.getfield 40, 3) := by decide +kernel
theorem dX10_defaultsOf_24 : decode cX10_defaultsOf 24 = .ok (.getfield 64, 3) := by decide +kernel
theorem dX10_defaultsOf_27 : decode cX10_defaultsOf 27 = .ok (.iload 5, 2) := by decide +kernel
theorem dX10_defaultsOf_29 : decode cX10_defaultsOf 29 = .ok (.aaload, 1) := by decide +kernel
theorem dX10_defaultsOf_30 : decode cX10_defaultsOf 30 = .ok (.astore 6, 2) := by decide +kernel
theorem dX10_defaultsOf_32 : decode cX10_defaultsOf 32 = .ok (.aload 6, 2) := by decide +kernel
theorem dX10_defaultsOf_34 : decode cX10_defaultsOf 34 = .ok (.getfield 148, 3) := by decide +kernel
theorem dX10_defaultsOf_37 : decode cX10_defaultsOf 37 = .ok (.iconst 4, 1) := by decide +kernel
theorem dX10_defaultsOf_38 : decode cX10_defaultsOf 38 = .ok (.if_icmp .ne 85, 3) := by decide +kernel
theorem dX10_defaultsOf_41 : decode cX10_defaultsOf 41 = .ok (.aload 6, 2) := by decide +kernel
theorem dX10_defaultsOf_43 : decode cX10_defaultsOf 43 = .ok (.getfield 134, 3) := by decide +kernel
theorem dX10_defaultsOf_46 : decode cX10_defaultsOf 46 = .ok (.iload_n 1, 1) := by decide +kernel
theorem dX10_defaultsOf_47 : decode cX10_defaultsOf 47 = .ok (.if_icmp .ne 76, 3) := by decide +kernel
theorem dX10_defaultsOf_50 : decode cX10_defaultsOf 50 = .ok (.aload 6, 2) := by decide +kernel
theorem dX10_defaultsOf_52 : decode cX10_defaultsOf 52 = .ok (.aload_n 0, 1) := by decide +kernel
theorem dX10_defaultsOf_53 : decode cX10_defaultsOf 53 = .ok (.getfield 22, 3) := by decide +kernel
theorem dX10_defaultsOf_56 : decode cX10_defaultsOf 56 = .ok (.invokestatic 67, 3) := by decide +kernel
theorem dX10_defaultsOf_59 : decode cX10_defaultsOf 59 = .ok (.ifCond .ne 6, 3) := by decide +kernel
theorem dX10_defaultsOf_62 : decode cX10_defaultsOf 62 = .ok (.goto 61, 3) := by decide +kernel
theorem dX10_defaultsOf_65 : decode cX10_defaultsOf 65 = .ok (.aload 6, 2) := by decide +kernel
theorem dX10_defaultsOf_67 : decode cX10_defaultsOf 67 = .ok (.getfield 151, 3) := by decide +kernel
theorem dX10_defaultsOf_70 : decode cX10_defaultsOf 70 = .ok (.iconst (-1), 1) := by decide +kernel
theorem dX10_defaultsOf_71 : decode cX10_defaultsOf 71 = .ok (.if_icmp .ne 7, 3) := by decide +kernel
theorem dX10_defaultsOf_74 : decode cX10_defaultsOf 74 = .ok (.iconst (-1), 1) := by decide +kernel
theorem dX10_defaultsOf_75 : decode cX10_defaultsOf 75 = .ok (.goto 16, 3) := by decide +kernel
theorem dX10_defaultsOf_78 : decode cX10_defaultsOf 78 = .ok (.aload_n 0, 1) := by decide +kernel
theorem dX10_defaultsOf_79 : decode cX10_defaultsOf 79 = .ok (.getfield 40, 3) := by decide +kernel
theorem dX10_defaultsOf_82 : decode cX10_defaultsOf 82 = .ok (.getfield 154, 3) := by decide +kernel
theorem dX10_defaultsOf_85 : decode cX10_defaultsOf 85 = .ok (.aload 6, 2) := by decide +kernel
theorem dX10_defaultsOf_87 : decode cX10_defaultsOf 87 = .ok (.getfield 151, 3) := by decide +kernel
theorem dX10_defaultsOf_90 : decode cX10_defaultsOf 90 = .ok (.iaload, 1) := by decide +kernel
theorem dX10_defaultsOf_91 : decode cX10_defaultsOf 91 = .ok (.istore 7, 2) := by decide +kernel
theorem dX10_defaultsOf_93 : decode cX10_defaultsOf 93 = .ok (.iload 7, 2) := by decide +kernel
theorem dX10_defaultsOf_95 : decode cX10_defaultsOf 95 = .ok (.iload 4, 2) := by decide +kernel
theorem dX10_defaultsOf_97 : decode cX10_defaultsOf 97 = .ok (.if_icmp .le 9, 3) := by decide +kernel
theorem dX10_defaultsOf_100 : decode cX10_defaultsOf 100 = .ok (.iload 7, 2) := by decide +kernel
theorem dX10_defaultsOf_102 : decode cX10_defaultsOf 102 = .ok (.istore 4, 2) := by decide +kernel
theorem dX10_defaultsOf_104 : decode cX10_defaultsOf 104 = .ok (.lconst 0, 1) := by decide +kernel
theorem dX10_defaultsOf_105 : decode cX10_defaultsOf 105 = .ok (.lstore_n 2, 1) := by decide +kernel
theorem dX10_defaultsOf_106 : decode cX10_defaultsOf 106 = .ok (.iload 7, 2) := by decide +kernel
theorem dX10_defaultsOf_108 : decode cX10_defaultsOf 108 = .ok (.iload 4, 2) := by decide +kernel
theorem dX10_defaultsOf_110 : decode cX10_defaultsOf 110 = .ok (.if_icmp .ne 13, 3) := by decide +kernel
theorem dX10_defaultsOf_113 : decode cX10_defaultsOf 113 = .ok (.lload_n 2, 1) := by decide +kernel
theorem dX10_defaultsOf_114 : decode cX10_defaultsOf 114 = .ok (.lconst 1, 1) := by decide +kernel
theorem dX10_defaultsOf_115 : decode cX10_defaultsOf 115 = .ok (.aload 6, 2) := by decide +kernel
theorem dX10_defaultsOf_117 : decode cX10_defaultsOf 117 = .ok (.getfield 137, 3) := by decide +kernel
theorem dX10_defaultsOf_120 : decode cX10_defaultsOf 120 = .ok (.lshl, 1) := by decide +kernel
theorem dX10_defaultsOf_121 : decode cX10_defaultsOf 121 = .ok (.lor, 1) := by decide +kernel
theorem dX10_defaultsOf_122 : decode cX10_defaultsOf 122 = .ok (.lstore_n 2, 1) := by decide +kernel
theorem dX10_defaultsOf_123 : decode cX10_defaultsOf 123 = .ok (.iinc 5 1, 3) := by decide +kernel
theorem dX10_defaultsOf_126 : decode cX10_defaultsOf 126 = .ok (.goto (-118), 3) := by decide +kernel
theorem dX10_defaultsOf_129 : decode cX10_defaultsOf 129 = .ok (.lload_n 2, 1) := by decide +kernel
theorem dX10_defaultsOf_130 : decode cX10_defaultsOf 130 = .ok (.lreturn, 1) := by decide +kernel
theorem dX10_findTainted_0 : decode cX10_findTainted 0 = .ok (.aload_n 0, 1) := by decide +kernel
theorem dX10_findTainted_1 : decode cX10_findTainted 1 = .ok (.iconst 0, 1) := by decide +kernel
theorem dX10_findTainted_2 : decode cX10_findTainted 2 = .ok (.putfield 110, 3) := by decide +kernel
theorem dX10_findTainted_5 : decode cX10_findTainted 5 = .ok (.iconst 0, 1) := by decide +kernel
theorem dX10_findTainted_6 : decode cX10_findTainted 6 = .ok (.istore_n 1, 1) := by decide +kernel
theorem dX10_findTainted_7 : decode cX10_findTainted 7 = .ok (.iload_n 1, 1) := by decide +kernel
theorem dX10_findTainted_8 : decode cX10_findTainted 8 = .ok (.aload_n 0, 1) := by decide +kernel
theorem dX10_findTainted_9 : decode cX10_findTainted 9 = .ok (.getfield 40, 3) := by decide +kernel
theorem dX10_findTainted_12 : decode cX10_findTainted 12 = .ok (.getfield 60, 3) := by decide +kernel
theorem dX10_findTainted_15 : decode cX10_findTainted 15 = .ok (.if_icmp .ge 50, 3) := by decide +kernel
theorem dX10_findTainted_18 : decode cX10_findTainted 18 = .ok (.aload_n 0, 1) := by decide +kernel
theorem dX10_findTainted_19 : decode cX10_findTainted 19 = .ok (.getfield 40, 3) := by decide +kernel
theorem dX10_findTainted_22 : decode cX10_findTainted 22 = .ok (.getfield 64, 3) := by decide +kernel
theorem dX10_findTainted_25 : decode cX10_findTainted 25 = .ok (.iload_n 1, 1) := by decide +kernel
theorem dX10_findTainted_26 : decode cX10_findTainted 26 = .ok (.aaload, 1) := by decide +kernel
theorem dX10_findTainted_27 : decode cX10_findTainted 27 = .ok (.astore_n 2, 1) := by decide +kernel
theorem dX10_findTainted_28 : decode cX10_findTainted 28 = .ok (.aload_n 2, 1) := by decide +kernel
theorem dX10_findTainted_29 : decode cX10_findTainted 29 = .ok (.getfield 121, 3) := by decide +kernel
theorem dX10_findTainted_32 : decode cX10_findTainted 32 = .ok (.ifCond .eq 27, 3) := by decide +kernel
theorem dX10_findTainted_35 : decode cX10_findTainted 35 = .ok (.aload_n 2, 1) := by decide +kernel
theorem dX10_findTainted_36 : decode cX10_findTainted 36 = .ok (.getfield 148, 3) := by decide +kernel
theorem dX10_findTainted_39 : decode cX10_findTainted 39 = .ok (.bipush 11, 2) := by decide +kernel
theorem dX10_findTainted_41 : decode cX10_findTainted 41 = .ok (.if_icmp .ne 18, 3) := by decide +kernel
theorem dX10_findTainted_44 : decode cX10_findTainted 44 = .ok (.aload_n 0, 1) := by decide +kernel
theorem dX10_findTainted_45 : decode cX10_findTainted 45 = .ok (.dup, 1) := by decide +kernel
theorem dX10_findTainted_46 : decode cX10_findTainted 46 = .ok (.getfield 110, 3) := by decide +kernel
theorem dX10_findTainted_49 : decode cX10_findTainted 49 = .ok (.iconst 1, 1) := by decide +kernel
theorem dX10_findTainted_50 : decode cX10_findTainted 50 = .ok (.aload_n 2, 1) := by decide +kernel
theorem dX10_findTainted_51 : decode cX10_findTainted 51 = .ok (.getfield 134, 3) := by decide +kernel
theorem dX10_findTainted_54 : decode cX10_findTainted 54 = .ok (.ishl, 1) := by decide +kernel
theorem dX10_findTainted_55 : decode cX10_findTainted 55 = .ok (.ior, 1) := by decide +kernel
theorem dX10_findTainted_56 : decode cX10_findTainted 56 = .ok (.putfield 110, 3) := by decide +kernel
theorem dX10_findTainted_59 : decode cX10_findTainted 59 = .ok (.iinc 1 1, 3) := by decide +kernel
theorem dX10_findTainted_62 : decode cX10_findTainted 62 = .ok (.goto (-55), 3) := by decide +kernel
theorem dX10_findTainted_65 : decode cX10_findTainted 65 = .ok (.iconst 1, 1) := by decide +kernel
theorem dX10_findTainted_66 : decode cX10_findTainted 66 = .ok (.istore_n 1, 1) := by decide +kernel
theorem dX10_findTainted_67 : decode cX10_findTainted 67 = .ok (.iconst 0, 1) := by decide +kernel
theorem dX10_findTainted_68 : decode cX10_findTainted 68 = .ok (.istore_n 2, 1) := by decide +kernel
theorem dX10_findTainted_69 : decode cX10_findTainted 69 = .ok (.iload_n 1, 1) := by decide +kernel
theorem dX10_findTainted_70 : decode cX10_findTainted 70 = .ok (.ifCond .eq 94, 3) := by decide +kernel
theorem dX10_findTainted_73 : decode cX10_findTainted 73 = .ok (.iload_n 2, 1) := by decide +kernel
theorem dX10_findTainted_74 : decode cX10_findTainted 74 = .ok (.ldc 113, 2) := by decide +kernel
theorem dX10_findTainted_76 : decode cX10_findTainted 76 = .ok (.if_icmp .ge 88, 3) := by decide +kernel
theorem dX10_findTainted_79 : decode cX10_findTainted 79 = .ok (.aload_n 0, 1) := by decide +kernel
theorem dX10_findTainted_80 : decode cX10_findTainted 80 = .ok (.getfield 110, 3) := by decide +kernel
theorem dX10_findTainted_83 : decode cX10_findTainted 83 = .ok (.istore_n 3, 1) := by decide +kernel
theorem dX10_findTainted_84 : decode cX10_findTainted 84 = .ok (.iconst 0, 1) := by decide +kernel
theorem dX10_findTainted_85 : decode cX10_findTainted 85 = .ok (.istore 4, 2) := by decide +kernel
theorem dX10_findTainted_87 : decode cX10_findTainted 87 = .ok (.iload 4, 2) := by decide +kernel
theorem dX10_findTainted_89 : decode cX10_findTainted 89 = .ok (.aload_n 0, 1) := by decide +kernel
theorem dX10_findTainted_90 : decode cX10_findTainted 90 = .ok (.getfield 40, 3) := by decide +kernel
theorem dX10_findTainted_93 : decode cX10_findTainted 93 = .ok (.getfield 60, 3) := by decide +kernel
theorem dX10_findTainted_96 : decode cX10_findTainted 96 = .ok (.if_icmp .ge 48, 3) := by decide +kernel
theorem dX10_findTainted_99 : decode cX10_findTainted 99 = .ok (.aload_n 0, 1) := by decide +kernel
theorem dX10_findTainted_100 : decode cX10_findTainted 100 = .ok (.aload_n 0, 1) := by decide +kernel
theorem dX10_findTainted_101 : decode cX10_findTainted 101 = .ok (.getfield 40, 3) := by decide +kernel
theorem dX10_findTainted_104 : decode cX10_findTainted 104 = .ok (.getfield 64, 3) := by decide +kernel
theorem dX10_findTainted_107 : decode cX10_findTainted 107 = .ok (.iload 4, 2) := by decide +kernel
theorem dX10_findTainted_109 : decode cX10_findTainted 109 = .ok (.aaload, 1) := by decide +kernel
theorem dX10_findTainted_110 : decode cX10_findTainted 110 = .ok (.invokevirtual 157, 3) := by decide +kernel
theorem dX10_findTainted_113 : decode cX10_findTainted 113 = .ok (.ifCond .eq 25, 3) := by decide +kernel
theorem dX10_findTainted_116 : decode cX10_findTainted 116 = .ok (.aload_n 0, 1) := by decide +kernel
theorem dX10_findTainted_117 : decode cX10_findTainted 117 = .ok (.dup, 1) := by decide +kernel
theorem dX10_findTainted_118 : decode cX10_findTainted 118 = .ok (.getfield 110, 3) := by decide +kernel
theorem dX10_findTainted_121 : decode cX10_findTainted 121 = .ok (.aload_n 0, 1) := by decide +kernel
theorem dX10_findTainted_122 : decode cX10_findTainted 122 = .ok (.getfield 40, 3) := by decide +kernel
theorem dX10_findTainted_125 : decode cX10_findTainted 125 = .ok (.getfield 64, 3) := by decide +kernel
theorem dX10_findTainted_128 : decode cX10_findTainted 128 = .ok (.iload 4, 2) := by decide +kernel
theorem dX10_findTainted_130 : decode cX10_findTainted 130 = .ok (.aaload, 1) := by decide +kernel
theorem dX10_findTainted_131 : decode cX10_findTainted 131 = .ok (.invokevirtual 160, 3) := by decide +kernel
theorem dX10_findTainted_134 : decode cX10_findTainted 134 = .ok (.ior, 1) := by decide +kernel
theorem dX10_findTainted_135 : decode cX10_findTainted 135 = .ok (.putfield 110, 3) := by decide +kernel
theorem dX10_findTainted_138 : decode cX10_findTainted 138 = .ok (.iinc 4 1, 3) := by decide +kernel
theorem dX10_findTainted_141 : decode cX10_findTainted 141 = .ok (.goto (-54), 3) := by decide +kernel
theorem dX10_findTainted_144 : decode cX10_findTainted 144 = .ok (.aload_n 0, 1) := by decide +kernel
theorem dX10_findTainted_145 : decode cX10_findTainted 145 = .ok (.getfield 110, 3) := by decide +kernel
theorem dX10_findTainted_148 : decode cX10_findTainted 148 = .ok (.iload_n 3, 1) := by decide +kernel
theorem dX10_findTainted_149 : decode cX10_findTainted 149 = .ok (.if_icmp .eq 7, 3) := by decide +kernel
theorem dX10_findTainted_152 : decode cX10_findTainted 152 = .ok (.iconst 1, 1) := by decide +kernel
theorem dX10_findTainted_153 : decode cX10_findTainted 153 = .ok (.goto 4, 3) := by decide +kernel
theorem dX10_findTainted_156 : decode cX10_findTainted 156 = .ok (.iconst 0, 1) := by decide +kernel
theorem dX10_findTainted_157 : decode cX10_findTainted 157 = .ok (.istore_n 1, 1) := by decide +kernel
theorem dX10_findTainted_158 : decode cX10_findTainted 158 = .ok (.iinc 2 1, 3) := by decide +kernel
theorem dX10_findTainted_161 : decode cX10_findTainted 161 = .ok (.goto (-92), 3) := by decide +kernel
theorem dX10_findTainted_164 : decode cX10_findTainted 164 = .ok (.return_, 1) := by decide +kernel
theorem dX10_isTainting_0 : decode cX10_isTainting 0 = .ok (.aload_n 1, 1) := by decide +kernel
theorem dX10_isTainting_1 : decode cX10_isTainting 1 = .ok (.getfield 121, 3) := by decide +kernel
theorem dX10_isTainting_4 : decode cX10_isTainting 4 = .ok (.ifCond .eq 17, 3) := by decide +kernel
theorem dX10_isTainting_7 : decode cX10_isTainting 7 = .ok (.aload_n 1, 1) := by decide +kernel
theorem dX10_isTainting_8 : decode cX10_isTainting 8 = .ok (.invokevirtual 124, 3) := by decide +kernel
theorem dX10_isTainting_11 : decode cX10_isTainting 11 = .ok (.ifCond .eq 10, 3) := by decide +kernel
theorem dX10_isTainting_14 : decode cX10_isTainting 14 = .ok (.aload_n 1, 1) := by decide +kernel
theorem dX10_isTainting_15 : decode cX10_isTainting 15 = .ok (.getfield 127, 3) := by decide +kernel
theorem dX10_isTainting_18 : decode cX10_isTainting 18 = .ok (.ifCond .eq 5, 3) := by decide +kernel
theorem dX10_isTainting_21 : decode cX10_isTainting 21 = .ok (.iconst 0, 1) := by decide +kernel
theorem dX10_isTainting_22 : decode cX10_isTainting 22 = .ok (.ireturn, 1) := by decide +kernel
theorem dX10_isTainting_23 : decode cX10_isTainting 23 = .ok (.aload_n 1, 1) := by decide +kernel
theorem dX10_isTainting_24 : decode cX10_isTainting 24 = .ok (.getfield 130, 3) := by decide +kernel
theorem dX10_isTainting_27 : decode cX10_isTainting 27 = .ok (.ifnull 19, 3) := by decide +kernel
theorem dX10_isTainting_30 : decode cX10_isTainting 30 = .ok (.aload_n 0, 1) := by decide +kernel
theorem dX10_isTainting_31 : decode cX10_isTainting 31 = .ok (.aload_n 1, 1) := by decide +kernel
theorem dX10_isTainting_32 : decode cX10_isTainting 32 = .ok (.getfield 130, 3) := by decide +kernel
theorem dX10_isTainting_35 : decode cX10_isTainting 35 = .ok (.getfield 134, 3) := by decide +kernel
theorem dX10_isTainting_38 : decode cX10_isTainting 38 = .ok (.invokevirtual 164, 3) := by decide +kernel
theorem dX10_isTainting_41 : decode cX10_isTainting 41 = .ok (.ifCond .eq 5, 3) := by decide +kernel
theorem dX10_isTainting_44 : decode cX10_isTainting 44 = .ok (.iconst 1, 1) := by decide +kernel
theorem dX10_isTainting_45 : decode cX10_isTainting 45 = .ok (.ireturn, 1) := by decide +kernel
theorem dX10_isTainting_46 : decode cX10_isTainting 46 = .ok (.aload_n 1, 1) := by decide +kernel
theorem dX10_isTainting_47 : decode cX10_isTainting 47 = .ok (.invokevirtual 168, 3) := by decide +kernel
theorem dX10_isTainting_50 : decode cX10_isTainting 50 = .ok (.ifCond .eq 26, 3) := by decide +kernel
theorem dX10_isTainting_53 : decode cX10_isTainting 53 = .ok (.aload_n 1, 1) := by decide +kernel
theorem dX10_isTainting_54 : decode cX10_isTainting 54 = .ok (.getfield 71, 3) := by decide +kernel
theorem dX10_isTainting_57 : decode cX10_isTainting 57 = .ok (.ifCond .eq 19, 3) := by decide +kernel
theorem dX10_isTainting_60 : decode cX10_isTainting 60 = .ok (.aload_n 1, 1) := by decide +kernel
theorem dX10_isTainting_61 : decode cX10_isTainting 61 = .ok (.invokevirtual 160, 3) := by decide +kernel
theorem dX10_isTainting_64 : decode cX10_isTainting 64 = .ok (.aload_n 0, 1) := by decide +kernel
theorem dX10_isTainting_65 : decode cX10_isTainting 65 = .ok (.getfield 110, 3) := by decide +kernel
theorem dX10_isTainting_68 : decode cX10_isTainting 68 = .ok (.iand, 1) := by decide +kernel
theorem dX10_isTainting_69 : decode cX10_isTainting 69 = .ok (.ifCond .eq 7, 3) := by decide +kernel
theorem dX10_isTainting_72 : decode cX10_isTainting 72 = .ok (.iconst 1, 1) := by decide +kernel
theorem dX10_isTainting_73 : decode cX10_isTainting 73 = .ok (.goto 4, 3) := by decide +kernel
theorem dX10_isTainting_76 : decode cX10_isTainting 76 = .ok (.iconst 0, 1) := by decide +kernel
theorem dX10_isTainting_77 : decode cX10_isTainting 77 = .ok (.ireturn, 1) := by decide +kernel
theorem dX10_leastConflict_0 : decode cX10_leastConflict 0 = .ok (.aload_n 0, 1) := by decide +kernel
theorem dX10_leastConflict_1 : decode cX10_leastConflict 1 = .ok (.getfield 94, 3) := by decide +kernel
theorem dX10_leastConflict_4 : decode cX10_leastConflict 4 = .ok (.ifCond .ne 27, 3) := by decide +kernel
theorem dX10_leastConflict_7 : decode cX10_leastConflict 7 = .ok (.aload_n 0, 1) := by decide +kernel
theorem dX10_leastConflict_8 : decode cX10_leastConflict 8 = .ok (.aload_n 0, 1) := by decide +kernel
theorem dX10_leastConflict_9 : decode cX10_leastConflict 9 = .ok (.getfield 78, 3) := by decide +kernel
theorem dX10_leastConflict_12 : decode cX10_leastConflict 12 = .ok (.ifCond .eq 10, 3) := by decide +kernel
theorem dX10_leastConflict_15 : decode cX10_leastConflict 15 = .ok (.aload_n 0, 1) := by decide +kernel
theorem dX10_leastConflict_16 : decode cX10_leastConflict 16 = .ok (.invokevirtual 171, 3) := by decide +kernel
theorem dX10_leastConflict_19 : decode cX10_leastConflict 19 = .ok (.goto 4, 3) := by decide +kernel
theorem dX10_leastConflict_22 : decode cX10_leastConflict 22 = .ok (.iconst 0, 1) := by decide +kernel
theorem dX10_leastConflict_23 : decode cX10_leastConflict 23 = .ok (.putfield 174, 3) := by decide +kernel
theorem dX10_leastConflict_26 : decode cX10_leastConflict 26 = .ok (.aload_n 0, 1) := by decide +kernel
theorem dX10_leastConflict_27 : decode cX10_leastConflict 27 = .ok (.iconst 1, 1) := by decide +kernel
theorem dX10_leastConflict_28 : decode cX10_leastConflict 28 = .ok (.putfield 94, 3) := by decide +kernel
theorem dX10_leastConflict_31 : decode cX10_leastConflict 31 = .ok (.aload_n 0, 1) := by decide +kernel
theorem dX10_leastConflict_32 : decode cX10_leastConflict 32 = .ok (.getfield 174, 3) := by decide +kernel
theorem dX10_leastConflict_35 : decode cX10_leastConflict 35 = .ok (.ireturn, 1) := by decide +kernel
theorem dX10_seekConflict_0 : decode cX10_seekConflict 0 = .ok (.aload_n 0, 1) := by decide +kernel
theorem dX10_seekConflict_1 : decode cX10_seekConflict 1 = .ok (.invokevirtual 177, 3) := by decide +kernel
theorem dX10_seekConflict_4 : decode cX10_seekConflict 4 = .ok (.iconst 0, 1) := by decide +kernel
theorem dX10_seekConflict_5 : decode cX10_seekConflict 5 = .ok (.istore_n 1, 1) := by decide +kernel
theorem dX10_seekConflict_6 : decode cX10_seekConflict 6 = .ok (.iload_n 1, 1) := by decide +kernel
theorem dX10_seekConflict_7 : decode cX10_seekConflict 7 = .ok (.aload_n 0, 1) := by decide +kernel
theorem dX10_seekConflict_8 : decode cX10_seekConflict 8 = .ok (.getfield 180, 3) := by decide +kernel
theorem dX10_seekConflict_11 : decode cX10_seekConflict 11 = .ok (.if_icmp .ge 26, 3) := by decide +kernel
theorem dX10_seekConflict_14 : decode cX10_seekConflict 14 = .ok (.aload_n 0, 1) := by decide +kernel
theorem dX10_seekConflict_15 : decode cX10_seekConflict 15 = .ok (.iload_n 1, 1) := by decide +kernel
theorem dX10_seekConflict_16 : decode cX10_seekConflict 16 = .ok (.iload_n 1, 1) := by decide +kernel
theorem dX10_seekConflict_17 : decode cX10_seekConflict 17 = .ok (.iload_n 1, 1) := by decide +kernel
theorem dX10_seekConflict_18 : decode cX10_seekConflict 18 = .ok (.invokevirtual 183, 3) := by decide +kernel
theorem dX10_seekConflict_21 : decode cX10_seekConflict 21 = .ok (.ifCond .eq 10, 3) := by decide +kernel
theorem dX10_seekConflict_24 : decode cX10_seekConflict 24 = .ok (.aload_n 0, 1) := by decide +kernel
theorem dX10_seekConflict_25 : decode cX10_seekConflict 25 = .ok (.getfield 34, 3) := by decide +kernel
theorem dX10_seekConflict_28 : decode cX10_seekConflict 28 = .ok (.iload_n 1, 1) := by decide +kernel
theorem dX10_seekConflict_29 : decode cX10_seekConflict 29 = .ok (.iaload, 1) := by decide +kernel
theorem dX10_seekConflict_30 : decode cX10_seekConflict 30 = .ok (.ireturn, 1) := by decide +kernel
theorem dX10_seekConflict_31 : decode cX10_seekConflict 31 = .ok (.iinc 1 1, 3) := by decide +kernel
theorem dX10_seekConflict_34 : decode cX10_seekConflict 34 = .ok (.goto (-28), 3) := by decide +kernel
theorem dX10_seekConflict_37 : decode cX10_seekConflict 37 = .ok (.iconst 0, 1) := by decide +kernel
theorem dX10_seekConflict_38 : decode cX10_seekConflict 38 = .ok (.istore_n 1, 1) := by decide +kernel
theorem dX10_seekConflict_39 : decode cX10_seekConflict 39 = .ok (.iload_n 1, 1) := by decide +kernel
theorem dX10_seekConflict_40 : decode cX10_seekConflict 40 = .ok (.aload_n 0, 1) := by decide +kernel
theorem dX10_seekConflict_41 : decode cX10_seekConflict 41 = .ok (.getfield 180, 3) := by decide +kernel
theorem dX10_seekConflict_44 : decode cX10_seekConflict 44 = .ok (.if_icmp .ge 55, 3) := by decide +kernel
theorem dX10_seekConflict_47 : decode cX10_seekConflict 47 = .ok (.iconst 0, 1) := by decide +kernel
theorem dX10_seekConflict_48 : decode cX10_seekConflict 48 = .ok (.istore_n 2, 1) := by decide +kernel
theorem dX10_seekConflict_49 : decode cX10_seekConflict 49 = .ok (.iload_n 2, 1) := by decide +kernel
theorem dX10_seekConflict_50 : decode cX10_seekConflict 50 = .ok (.iload_n 1, 1) := by decide +kernel
theorem dX10_seekConflict_51 : decode cX10_seekConflict 51 = .ok (.if_icmp .ge 42, 3) := by decide +kernel
theorem dX10_seekConflict_54 : decode cX10_seekConflict 54 = .ok (.aload_n 0, 1) := by decide +kernel
theorem dX10_seekConflict_55 : decode cX10_seekConflict 55 = .ok (.iload_n 2, 1) := by decide +kernel
theorem dX10_seekConflict_56 : decode cX10_seekConflict 56 = .ok (.iload_n 1, 1) := by decide +kernel
theorem dX10_seekConflict_57 : decode cX10_seekConflict 57 = .ok (.invokevirtual 187, 3) := by decide +kernel
theorem dX10_seekConflict_60 : decode cX10_seekConflict 60 = .ok (.ifCond .eq 27, 3) := by decide +kernel
theorem dX10_seekConflict_63 : decode cX10_seekConflict 63 = .ok (.aload_n 0, 1) := by decide +kernel
theorem dX10_seekConflict_64 : decode cX10_seekConflict 64 = .ok (.iload_n 2, 1) := by decide +kernel
theorem dX10_seekConflict_65 : decode cX10_seekConflict 65 = .ok (.iload_n 1, 1) := by decide +kernel
theorem dX10_seekConflict_66 : decode cX10_seekConflict 66 = .ok (.iload_n 1, 1) := by decide +kernel
theorem dX10_seekConflict_67 : decode cX10_seekConflict 67 = .ok (.invokevirtual 183, 3) := by decide +kernel
theorem dX10_seekConflict_70 : decode cX10_seekConflict 70 = .ok (.ifCond .eq 17, 3) := by decide +kernel
theorem dX10_seekConflict_73 : decode cX10_seekConflict 73 = .ok (.aload_n 0, 1) := by decide +kernel
theorem dX10_seekConflict_74 : decode cX10_seekConflict 74 = .ok (.getfield 34, 3) := by decide +kernel
theorem dX10_seekConflict_77 : decode cX10_seekConflict 77 = .ok (.iload_n 2, 1) := by decide +kernel
theorem dX10_seekConflict_78 : decode cX10_seekConflict 78 = .ok (.iaload, 1) := by decide +kernel
theorem dX10_seekConflict_79 : decode cX10_seekConflict 79 = .ok (.aload_n 0, 1) := by decide +kernel
theorem dX10_seekConflict_80 : decode cX10_seekConflict 80 = .ok (.getfield 34, 3) := by decide +kernel
theorem dX10_seekConflict_83 : decode cX10_seekConflict 83 = .ok (.iload_n 1, 1) := by decide +kernel
theorem dX10_seekConflict_84 : decode cX10_seekConflict 84 = .ok (.iaload, 1) := by decide +kernel
theorem dX10_seekConflict_85 : decode cX10_seekConflict 85 = .ok (.ior, 1) := by decide +kernel
theorem dX10_seekConflict_86 : decode cX10_seekConflict 86 = .ok (.ireturn, 1) := by decide +kernel
theorem dX10_seekConflict_87 : decode cX10_seekConflict 87 = .ok (.iinc 2 1, 3) := by decide +kernel
theorem dX10_seekConflict_90 : decode cX10_seekConflict 90 = .ok (.goto (-41), 3) := by decide +kernel
theorem dX10_seekConflict_93 : decode cX10_seekConflict 93 = .ok (.iinc 1 1, 3) := by decide +kernel
theorem dX10_seekConflict_96 : decode cX10_seekConflict 96 = .ok (.goto (-57), 3) := by decide +kernel
theorem dX10_seekConflict_99 : decode cX10_seekConflict 99 = .ok (.aload_n 0, 1) := by decide +kernel
theorem dX10_seekConflict_100 : decode cX10_seekConflict 100 = .ok (.invokevirtual 190, 3) := by decide +kernel
theorem dX10_seekConflict_103 : decode cX10_seekConflict 103 = .ok (.ireturn, 1) := by decide +kernel
theorem dX10_seekTriple_0 : decode cX10_seekTriple 0 = .ok (.iconst 0, 1) := by decide +kernel
theorem dX10_seekTriple_1 : decode cX10_seekTriple 1 = .ok (.istore_n 1, 1) := by decide +kernel
theorem dX10_seekTriple_2 : decode cX10_seekTriple 2 = .ok (.iload_n 1, 1) := by decide +kernel
theorem dX10_seekTriple_3 : decode cX10_seekTriple 3 = .ok (.aload_n 0, 1) := by decide +kernel
theorem dX10_seekTriple_4 : decode cX10_seekTriple 4 = .ok (.getfield 180, 3) := by decide +kernel
theorem dX10_seekTriple_7 : decode cX10_seekTriple 7 = .ok (.if_icmp .ge 76, 3) := by decide +kernel
theorem dX10_seekTriple_10 : decode cX10_seekTriple 10 = .ok (.iconst 0, 1) := by decide +kernel
theorem dX10_seekTriple_11 : decode cX10_seekTriple 11 = .ok (.istore_n 2, 1) := by decide +kernel
theorem dX10_seekTriple_12 : decode cX10_seekTriple 12 = .ok (.iload_n 2, 1) := by decide +kernel
theorem dX10_seekTriple_13 : decode cX10_seekTriple 13 = .ok (.iload_n 1, 1) := by decide +kernel
theorem dX10_seekTriple_14 : decode cX10_seekTriple 14 = .ok (.if_icmp .ge 63, 3) := by decide +kernel
theorem dX10_seekTriple_17 : decode cX10_seekTriple 17 = .ok (.iconst 0, 1) := by decide +kernel
theorem dX10_seekTriple_18 : decode cX10_seekTriple 18 = .ok (.istore_n 3, 1) := by decide +kernel
theorem dX10_seekTriple_19 : decode cX10_seekTriple 19 = .ok (.iload_n 3, 1) := by decide +kernel
theorem dX10_seekTriple_20 : decode cX10_seekTriple 20 = .ok (.iload_n 2, 1) := by decide +kernel
theorem dX10_seekTriple_21 : decode cX10_seekTriple 21 = .ok (.if_icmp .ge 50, 3) := by decide +kernel
theorem dX10_seekTriple_24 : decode cX10_seekTriple 24 = .ok (.aload_n 0, 1) := by decide +kernel
theorem dX10_seekTriple_25 : decode cX10_seekTriple 25 = .ok (.iload_n 3, 1) := by decide +kernel
theorem dX10_seekTriple_26 : decode cX10_seekTriple 26 = .ok (.iload_n 2, 1) := by decide +kernel
theorem dX10_seekTriple_27 : decode cX10_seekTriple 27 = .ok (.iload_n 1, 1) := by decide +kernel
theorem dX10_seekTriple_28 : decode cX10_seekTriple 28 = .ok (.invokevirtual 193, 3) := by decide +kernel
theorem dX10_seekTriple_31 : decode cX10_seekTriple 31 = .ok (.ifCond .eq 34, 3) := by decide +kernel
theorem dX10_seekTriple_34 : decode cX10_seekTriple 34 = .ok (.aload_n 0, 1) := by decide +kernel
theorem dX10_seekTriple_35 : decode cX10_seekTriple 35 = .ok (.iload_n 3, 1) := by decide +kernel
theorem dX10_seekTriple_36 : decode cX10_seekTriple 36 = .ok (.iload_n 2, 1) := by decide +kernel
theorem dX10_seekTriple_37 : decode cX10_seekTriple 37 = .ok (.iload_n 1, 1) := by decide +kernel
theorem dX10_seekTriple_38 : decode cX10_seekTriple 38 = .ok (.invokevirtual 183, 3) := by decide +kernel
theorem dX10_seekTriple_41 : decode cX10_seekTriple 41 = .ok (.ifCond .eq 24, 3) := by decide +kernel
theorem dX10_seekTriple_44 : decode cX10_seekTriple 44 = .ok (.aload_n 0, 1) := by decide +kernel
theorem dX10_seekTriple_45 : decode cX10_seekTriple 45 = .ok (.getfield 34, 3) := by decide +kernel
theorem dX10_seekTriple_48 : decode cX10_seekTriple 48 = .ok (.iload_n 3, 1) := by decide +kernel
theorem dX10_seekTriple_49 : decode cX10_seekTriple 49 = .ok (.iaload, 1) := by decide +kernel
theorem dX10_seekTriple_50 : decode cX10_seekTriple 50 = .ok (.aload_n 0, 1) := by decide +kernel
theorem dX10_seekTriple_51 : decode cX10_seekTriple 51 = .ok (.getfield 34, 3) := by decide +kernel
theorem dX10_seekTriple_54 : decode cX10_seekTriple 54 = .ok (.iload_n 2, 1) := by decide +kernel
theorem dX10_seekTriple_55 : decode cX10_seekTriple 55 = .ok (.iaload, 1) := by decide +kernel
theorem dX10_seekTriple_56 : decode cX10_seekTriple 56 = .ok (.ior, 1) := by decide +kernel
theorem dX10_seekTriple_57 : decode cX10_seekTriple 57 = .ok (.aload_n 0, 1) := by decide +kernel
theorem dX10_seekTriple_58 : decode cX10_seekTriple 58 = .ok (.getfield 34, 3) := by decide +kernel
theorem dX10_seekTriple_61 : decode cX10_seekTriple 61 = .ok (.iload_n 1, 1) := by decide +kernel
theorem dX10_seekTriple_62 : decode cX10_seekTriple 62 = .ok (.iaload, 1) := by decide +kernel
theorem dX10_seekTriple_63 : decode cX10_seekTriple 63 = .ok (.ior, 1) := by decide +kernel
theorem dX10_seekTriple_64 : decode cX10_seekTriple 64 = .ok (.ireturn, 1) := by decide +kernel
theorem dX10_seekTriple_65 : decode cX10_seekTriple 65 = .ok (.iinc 3 1, 3) := by decide +kernel
theorem dX10_seekTriple_68 : decode cX10_seekTriple 68 = .ok (.goto (-49), 3) := by decide +kernel
theorem dX10_seekTriple_71 : decode cX10_seekTriple 71 = .ok (.iinc 2 1, 3) := by decide +kernel
theorem dX10_seekTriple_74 : decode cX10_seekTriple 74 = .ok (.goto (-62), 3) := by decide +kernel
theorem dX10_seekTriple_77 : decode cX10_seekTriple 77 = .ok (.iinc 1 1, 3) := by decide +kernel
theorem dX10_seekTriple_80 : decode cX10_seekTriple 80 = .ok (.goto (-78), 3) := by decide +kernel
theorem dX10_seekTriple_83 : decode cX10_seekTriple 83 = .ok (.iconst (-1), 1) := by decide +kernel
theorem dX10_seekTriple_84 : decode cX10_seekTriple 84 = .ok (.ireturn, 1) := by decide +kernel
theorem dX10_findSuspects_0 : decode cX10_findSuspects 0 = .ok (.aload_n 0, 1) := by decide +kernel
theorem dX10_findSuspects_1 : decode cX10_findSuspects 1 = .ok (.iconst 0, 1) := by decide +kernel
theorem dX10_findSuspects_2 : decode cX10_findSuspects 2 = .ok (.putfield 180, 3) := by decide +kernel
theorem dX10_findSuspects_5 : decode cX10_findSuspects 5 = .ok (.iconst 0, 1) := by decide +kernel
theorem dX10_findSuspects_6 : decode cX10_findSuspects 6 = .ok (.istore_n 1, 1) := by decide +kernel
theorem dX10_findSuspects_7 : decode cX10_findSuspects 7 = .ok (.iload_n 1, 1) := by decide +kernel
theorem dX10_findSuspects_8 : decode cX10_findSuspects 8 = .ok (.aload_n 0, 1) := by decide +kernel
theorem dX10_findSuspects_9 : decode cX10_findSuspects 9 = .ok (.getfield 40, 3) := by decide +kernel
theorem dX10_findSuspects_12 : decode cX10_findSuspects 12 = .ok (.getfield 60, 3) := by decide +kernel
theorem dX10_findSuspects_15 : decode cX10_findSuspects 15 = .ok (.if_icmp .ge 85, 3) := by decide +kernel
theorem dX10_findSuspects_18 : decode cX10_findSuspects 18 = .ok (.aload_n 0, 1) := by decide +kernel
theorem dX10_findSuspects_19 : decode cX10_findSuspects 19 = .ok (.getfield 40, 3) := by decide +kernel
theorem dX10_findSuspects_22 : decode cX10_findSuspects 22 = .ok (.getfield 64, 3) := by decide +kernel
theorem dX10_findSuspects_25 : decode cX10_findSuspects 25 = .ok (.iload_n 1, 1) := by decide +kernel
theorem dX10_findSuspects_26 : decode cX10_findSuspects 26 = .ok (.aaload, 1) := by decide +kernel
theorem dX10_findSuspects_27 : decode cX10_findSuspects 27 = .ok (.getfield 71, 3) := by decide +kernel
theorem dX10_findSuspects_30 : decode cX10_findSuspects 30 = .ok (.ifCond .eq 64, 3) := by decide +kernel
theorem dX10_findSuspects_33 : decode cX10_findSuspects 33 = .ok (.aload_n 0, 1) := by decide +kernel
theorem dX10_findSuspects_34 : decode cX10_findSuspects 34 = .ok (.getfield 30, 3) := by decide +kernel
theorem dX10_findSuspects_37 : decode cX10_findSuspects 37 = .ok (.aload_n 0, 1) := by decide +kernel
theorem dX10_findSuspects_38 : decode cX10_findSuspects 38 = .ok (.getfield 180, 3) := by decide +kernel
theorem dX10_findSuspects_41 : decode cX10_findSuspects 41 = .ok (.aload_n 0, 1) := by decide +kernel
theorem dX10_findSuspects_42 : decode cX10_findSuspects 42 = .ok (.getfield 40, 3) := by decide +kernel
theorem dX10_findSuspects_45 : decode cX10_findSuspects 45 = .ok (.getfield 64, 3) := by decide +kernel
theorem dX10_findSuspects_48 : decode cX10_findSuspects 48 = .ok (.iload_n 1, 1) := by decide +kernel
theorem dX10_findSuspects_49 : decode cX10_findSuspects 49 = .ok (.aaload, 1) := by decide +kernel
theorem dX10_findSuspects_50 : decode cX10_findSuspects 50 = .ok (.aastore, 1) := by decide +kernel
theorem dX10_findSuspects_51 : decode cX10_findSuspects 51 = .ok (.aload_n 0, 1) := by decide +kernel
theorem dX10_findSuspects_52 : decode cX10_findSuspects 52 = .ok (.getfield 34, 3) := by decide +kernel
theorem dX10_findSuspects_55 : decode cX10_findSuspects 55 = .ok (.aload_n 0, 1) := by decide +kernel
theorem dX10_findSuspects_56 : decode cX10_findSuspects 56 = .ok (.getfield 180, 3) := by decide +kernel
theorem dX10_findSuspects_59 : decode cX10_findSuspects 59 = .ok (.iconst 1, 1) := by decide +kernel
theorem dX10_findSuspects_60 : decode cX10_findSuspects 60 = .ok (.iload_n 1, 1) := by decide +kernel
theorem dX10_findSuspects_61 : decode cX10_findSuspects 61 = .ok (.ishl, 1) := by decide +kernel
theorem dX10_findSuspects_62 : decode cX10_findSuspects 62 = .ok (.iastore, 1) := by decide +kernel
theorem dX10_findSuspects_63 : decode cX10_findSuspects 63 = .ok (.aload_n 0, 1) := by decide +kernel
theorem dX10_findSuspects_64 : decode cX10_findSuspects 64 = .ok (.getfield 37, 3) := by decide +kernel
theorem dX10_findSuspects_67 : decode cX10_findSuspects 67 = .ok (.aload_n 0, 1) := by decide +kernel
theorem dX10_findSuspects_68 : decode cX10_findSuspects 68 = .ok (.getfield 180, 3) := by decide +kernel
theorem dX10_findSuspects_71 : decode cX10_findSuspects 71 = .ok (.aload_n 0, 1) := by decide +kernel
theorem dX10_findSuspects_72 : decode cX10_findSuspects 72 = .ok (.getfield 40, 3) := by decide +kernel
theorem dX10_findSuspects_75 : decode cX10_findSuspects 75 = .ok (.getfield 64, 3) := by decide +kernel
theorem dX10_findSuspects_78 : decode cX10_findSuspects 78 = .ok (.iload_n 1, 1) := by decide +kernel
theorem dX10_findSuspects_79 : decode cX10_findSuspects 79 = .ok (.aaload, 1) := by decide +kernel
theorem dX10_findSuspects_80 : decode cX10_findSuspects 80 = .ok (.invokevirtual 160, 3) := by decide +kernel
theorem dX10_findSuspects_83 : decode cX10_findSuspects 83 = .ok (.iastore, 1) := by decide +kernel
theorem dX10_findSuspects_84 : decode cX10_findSuspects 84 = .ok (.aload_n 0, 1) := by decide +kernel
theorem dX10_findSuspects_85 : decode cX10_findSuspects 85 = .ok (.dup, 1) := by decide +kernel
theorem dX10_findSuspects_86 : decode cX10_findSuspects 86 = .ok (.getfield 180, 3) := by decide +kernel
theorem dX10_findSuspects_89 : decode cX10_findSuspects 89 = .ok (.iconst 1, 1) := by decide +kernel
theorem dX10_findSuspects_90 : decode cX10_findSuspects 90 = .ok (.iadd, 1) := by decide +kernel
theorem dX10_findSuspects_91 : decode cX10_findSuspects 91 = .ok (.putfield 180, 3) := by decide +kernel
theorem dX10_findSuspects_94 : decode cX10_findSuspects 94 = .ok (.iinc 1 1, 3) := by decide +kernel
theorem dX10_findSuspects_97 : decode cX10_findSuspects 97 = .ok (.goto (-90), 3) := by decide +kernel
theorem dX10_findSuspects_100 : decode cX10_findSuspects 100 = .ok (.return_, 1) := by decide +kernel
theorem dX10_isJoined_0 : decode cX10_isJoined 0 = .ok (.aload_n 0, 1) := by decide +kernel
theorem dX10_isJoined_1 : decode cX10_isJoined 1 = .ok (.getfield 37, 3) := by decide +kernel
theorem dX10_isJoined_4 : decode cX10_isJoined 4 = .ok (.iload_n 1, 1) := by decide +kernel
theorem dX10_isJoined_5 : decode cX10_isJoined 5 = .ok (.iaload, 1) := by decide +kernel
theorem dX10_isJoined_6 : decode cX10_isJoined 6 = .ok (.aload_n 0, 1) := by decide +kernel
theorem dX10_isJoined_7 : decode cX10_isJoined 7 = .ok (.getfield 37, 3) := by decide +kernel
theorem dX10_isJoined_10 : decode cX10_isJoined 10 = .ok (.iload_n 2, 1) := by decide +kernel
theorem dX10_isJoined_11 : decode cX10_isJoined 11 = .ok (.iaload, 1) := by decide +kernel
theorem dX10_isJoined_12 : decode cX10_isJoined 12 = .ok (.iand, 1) := by decide +kernel
theorem dX10_isJoined_13 : decode cX10_isJoined 13 = .ok (.ifCond .eq 7, 3) := by decide +kernel
theorem dX10_isJoined_16 : decode cX10_isJoined 16 = .ok (.iconst 1, 1) := by decide +kernel
theorem dX10_isJoined_17 : decode cX10_isJoined 17 = .ok (.goto 4, 3) := by decide +kernel
theorem dX10_isJoined_20 : decode cX10_isJoined 20 = .ok (.iconst 0, 1) := by decide +kernel
theorem dX10_isJoined_21 : decode cX10_isJoined 21 = .ok (.ireturn, 1) := by decide +kernel
theorem dX10_isChain_0 : decode cX10_isChain 0 = .ok (.aload_n 0, 1) := by decide +kernel
theorem dX10_isChain_1 : decode cX10_isChain 1 = .ok (.iload_n 1, 1) := by decide +kernel
theorem dX10_isChain_2 : decode cX10_isChain 2 = .ok (.iload_n 2, 1) := by decide +kernel
theorem dX10_isChain_3 : decode cX10_isChain 3 = .ok (.invokevirtual 187, 3) := by decide +kernel
theorem dX10_isChain_6 : decode cX10_isChain 6 = .ok (.ifCond .eq 27, 3) := by decide +kernel
theorem dX10_isChain_9 : decode cX10_isChain 9 = .ok (.aload_n 0, 1) := by decide +kernel
theorem dX10_isChain_10 : decode cX10_isChain 10 = .ok (.iload_n 1, 1) := by decide +kernel
theorem dX10_isChain_11 : decode cX10_isChain 11 = .ok (.iload_n 3, 1) := by decide +kernel
theorem dX10_isChain_12 : decode cX10_isChain 12 = .ok (.invokevirtual 187, 3) := by decide +kernel
theorem dX10_isChain_15 : decode cX10_isChain 15 = .ok (.ifCond .ne 12, 3) := by decide +kernel
theorem dX10_isChain_18 : decode cX10_isChain 18 = .ok (.aload_n 0, 1) := by decide +kernel
theorem dX10_isChain_19 : decode cX10_isChain 19 = .ok (.iload_n 2, 1) := by decide +kernel
theorem dX10_isChain_20 : decode cX10_isChain 20 = .ok (.iload_n 3, 1) := by decide +kernel
theorem dX10_isChain_21 : decode cX10_isChain 21 = .ok (.invokevirtual 187, 3) := by decide +kernel
theorem dX10_isChain_24 : decode cX10_isChain 24 = .ok (.ifCond .eq 7, 3) := by decide +kernel
theorem dX10_isChain_27 : decode cX10_isChain 27 = .ok (.iconst 1, 1) := by decide +kernel
theorem dX10_isChain_28 : decode cX10_isChain 28 = .ok (.goto 4, 3) := by decide +kernel
theorem dX10_isChain_31 : decode cX10_isChain 31 = .ok (.iconst 0, 1) := by decide +kernel
theorem dX10_isChain_32 : decode cX10_isChain 32 = .ok (.ireturn, 1) := by decide +kernel
theorem dX10_isChain_33 : decode cX10_isChain 33 = .ok (.aload_n 0, 1) := by decide +kernel
theorem dX10_isChain_34 : decode cX10_isChain 34 = .ok (.iload_n 1, 1) := by decide +kernel
theorem dX10_isChain_35 : decode cX10_isChain 35 = .ok (.iload_n 3, 1) := by decide +kernel
theorem dX10_isChain_36 : decode cX10_isChain 36 = .ok (.invokevirtual 187, 3) := by decide +kernel
theorem dX10_isChain_39 : decode cX10_isChain 39 = .ok (.ifCond .eq 16, 3) := by decide +kernel
theorem dX10_isChain_42 : decode cX10_isChain 42 = .ok (.aload_n 0, 1) := by decide +kernel
theorem dX10_isChain_43 : decode cX10_isChain 43 = .ok (.iload_n 2, 1) := by decide +kernel
theorem dX10_isChain_44 : decode cX10_isChain 44 = .ok (.iload_n 3, 1) := by decide +kernel
theorem dX10_isChain_45 : decode cX10_isChain 45 = .ok (.invokevirtual 187, 3) := by decide +kernel
theorem dX10_isChain_48 : decode cX10_isChain 48 = .ok (.ifCond .eq 7, 3) := by decide +kernel
theorem dX10_isChain_51 : decode cX10_isChain 51 = .ok (.iconst 1, 1) := by decide +kernel
theorem dX10_isChain_52 : decode cX10_isChain 52 = .ok (.goto 4, 3) := by decide +kernel
theorem dX10_isChain_55 : decode cX10_isChain 55 = .ok (.iconst 0, 1) := by decide +kernel
theorem dX10_isChain_56 : decode cX10_isChain 56 = .ok (.ireturn, 1) := by decide +kernel
theorem dX10_isClash_0 : decode cX10_isClash 0 = .ok (.aload_n 0, 1) := by decide +kernel
theorem dX10_isClash_1 : decode cX10_isClash 1 = .ok (.getfield 25, 3) := by decide +kernel
theorem dX10_isClash_4 : decode cX10_isClash 4 = .ok (.invokevirtual 53, 3) := by decide +kernel
theorem dX10_isClash_7 : decode cX10_isClash 7 = .ok (.iconst 1, 1) := by decide +kernel
theorem dX10_isClash_8 : decode cX10_isClash 8 = .ok (.istore 4, 2) := by decide +kernel
theorem dX10_isClash_10 : decode cX10_isClash 10 = .ok (.iconst 0, 1) := by decide +kernel
theorem dX10_isClash_11 : decode cX10_isClash 11 = .ok (.istore 5, 2) := by decide +kernel
theorem dX10_isClash_13 : decode cX10_isClash 13 = .ok (.iload 4, 2) := by decide +kernel
theorem dX10_isClash_15 : decode cX10_isClash 15 = .ok (.ifCond .eq 59, 3) := by decide +kernel
theorem dX10_isClash_18 : decode cX10_isClash 18 = .ok (.iload 5, 2) := by decide +kernel
theorem dX10_isClash_20 : decode cX10_isClash 20 = .ok (.ldc 113, 2) := by decide +kernel
theorem dX10_isClash_22 : decode cX10_isClash 22 = .ok (.if_icmp .ge 52, 3) := by decide +kernel
theorem dX10_isClash_25 : decode cX10_isClash 25 = .ok (.aload_n 0, 1) := by decide +kernel
theorem dX10_isClash_26 : decode cX10_isClash 26 = .ok (.getfield 25, 3) := by decide +kernel
theorem dX10_isClash_29 : decode cX10_isClash 29 = .ok (.aload_n 0, 1) := by decide +kernel
theorem dX10_isClash_30 : decode cX10_isClash 30 = .ok (.getfield 30, 3) := by decide +kernel
theorem dX10_isClash_33 : decode cX10_isClash 33 = .ok (.iload_n 1, 1) := by decide +kernel
theorem dX10_isClash_34 : decode cX10_isClash 34 = .ok (.aaload, 1) := by decide +kernel
theorem dX10_isClash_35 : decode cX10_isClash 35 = .ok (.invokevirtual 118, 3) := by decide +kernel
theorem dX10_isClash_38 : decode cX10_isClash 38 = .ok (.aload_n 0, 1) := by decide +kernel
theorem dX10_isClash_39 : decode cX10_isClash 39 = .ok (.getfield 25, 3) := by decide +kernel
theorem dX10_isClash_42 : decode cX10_isClash 42 = .ok (.aload_n 0, 1) := by decide +kernel
theorem dX10_isClash_43 : decode cX10_isClash 43 = .ok (.getfield 30, 3) := by decide +kernel
theorem dX10_isClash_46 : decode cX10_isClash 46 = .ok (.iload_n 2, 1) := by decide +kernel
theorem dX10_isClash_47 : decode cX10_isClash 47 = .ok (.aaload, 1) := by decide +kernel
theorem dX10_isClash_48 : decode cX10_isClash 48 = .ok (.invokevirtual 118, 3) := by decide +kernel
theorem dX10_isClash_51 : decode cX10_isClash 51 = .ok (.ior, 1) := by decide +kernel
theorem dX10_isClash_52 : decode cX10_isClash 52 = .ok (.aload_n 0, 1) := by decide +kernel
theorem dX10_isClash_53 : decode cX10_isClash 53 = .ok (.getfield 25, 3) := by decide +kernel
theorem dX10_isClash_56 : decode cX10_isClash 56 = .ok (.aload_n 0, 1) := by decide +kernel
theorem dX10_isClash_57 : decode cX10_isClash 57 = .ok (.getfield 30, 3) := by decide +kernel
theorem dX10_isClash_60 : decode cX10_isClash 60 = .ok (.iload_n 3, 1) := by decide +kernel
theorem dX10_isClash_61 : decode cX10_isClash 61 = .ok (.aaload, 1) := by decide +kernel
theorem dX10_isClash_62 : decode cX10_isClash 62 = .ok (.invokevirtual 118, 3) := by decide +kernel
theorem dX10_isClash_65 : decode cX10_isClash 65 = .ok (.ior, 1) := by decide +kernel
theorem dX10_isClash_66 : decode cX10_isClash 66 = .ok (.istore 4, 2) := by decide +kernel
theorem dX10_isClash_68 : decode cX10_isClash 68 = .ok (.iinc 5 1, 3) := by decide +kernel
theorem dX10_isClash_71 : decode cX10_isClash 71 = .ok (.goto (-58), 3) := by decide +kernel
theorem dX10_isClash_74 : decode cX10_isClash 74 = .ok (.aload_n 0, 1) := by decide +kernel
theorem dX10_isClash_75 : decode cX10_isClash 75 = .ok (.getfield 25, 3) := by decide +kernel
theorem dX10_isClash_78 : decode cX10_isClash 78 = .ok (.invokevirtual 74, 3) := by decide +kernel
theorem dX10_isClash_81 : decode cX10_isClash 81 = .ok (.ireturn, 1) := by decide +kernel
theorem dX11_init_0 : decode cX11_init 0 = .ok (.aload_n 0, 1) := by decide +kernel
theorem dX11_init_1 : decode cX11_init 1 = .ok (.invokespecial 1, 3) := by decide +kernel
theorem dX11_init_4 : decode cX11_init 4 = .ok (.aload_n 0, 1) := by decide +kernel
theorem dX11_init_5 : decode cX11_init 5 = .ok (.new 7, 3) := by decide +kernel
theorem dX11_init_8 : decode cX11_init 8 = .ok (.dup, 1) := by decide +kernel
theorem dX11_init_9 : decode cX11_init 9 = .ok (.invokespecial 9, 3) := by decide +kernel
theorem dX11_init_12 : decode cX11_init 12 = .ok (.putfield 10, 3) := by decide +kernel
theorem dX11_init_15 : decode cX11_init 15 = .ok (.aload_n 0, 1) := by decide +kernel
theorem dX11_init_16 : decode cX11_init 16 = .ok (.new 16, 3) := by decide +kernel
theorem dX11_init_19 : decode cX11_init 19 = .ok (.dup, 1) := by decide +kernel
theorem dX11_init_20 : decode cX11_init 20 = .ok (.aload_n 0, 1) := by decide +kernel
theorem dX11_init_21 : decode cX11_init 21 = .ok (.getfield 10, 3) := by decide +kernel
theorem dX11_init_24 : decode cX11_init 24 = .ok (.invokespecial 18, 3) := by decide +kernel
theorem dX11_init_27 : decode cX11_init 27 = .ok (.putfield 21, 3) := by decide +kernel
theorem dX11_init_30 : decode cX11_init 30 = .ok (.aload_n 0, 1) := by decide +kernel
theorem dX11_init_31 : decode cX11_init 31 = .ok (.new 25, 3) := by decide +kernel
theorem dX11_init_34 : decode cX11_init 34 = .ok (.dup, 1) := by decide +kernel
theorem dX11_init_35 : decode cX11_init 35 = .ok (.invokespecial 27, 3) := by decide +kernel
theorem dX11_init_38 : decode cX11_init 38 = .ok (.putfield 28, 3) := by decide +kernel
theorem dX11_init_41 : decode cX11_init 41 = .ok (.aload_n 0, 1) := by decide +kernel
theorem dX11_init_42 : decode cX11_init 42 = .ok (.new 32, 3) := by decide +kernel
theorem dX11_init_45 : decode cX11_init 45 = .ok (.dup, 1) := by decide +kernel
theorem dX11_init_46 : decode cX11_init 46 = .ok (.aload_n 0, 1) := by decide +kernel
theorem dX11_init_47 : decode cX11_init 47 = .ok (.getfield 21, 3) := by decide +kernel
theorem dX11_init_50 : decode cX11_init 50 = .ok (.aload_n 0, 1) := by decide +kernel
theorem dX11_init_51 : decode cX11_init 51 = .ok (.getfield 28, 3) := by decide +kernel
theorem dX11_init_54 : decode cX11_init 54 = .ok (.invokespecial 34, 3) := by decide +kernel
theorem dX11_init_57 : decode cX11_init 57 = .ok (.putfield 37, 3) := by decide +kernel
theorem dX11_init_60 : decode cX11_init 60 = .ok (.aload_n 0, 1) := by decide +kernel
theorem dX11_init_61 : decode cX11_init 61 = .ok (.new 41, 3) := by decide +kernel
theorem dX11_init_64 : decode cX11_init 64 = .ok (.dup, 1) := by decide +kernel
theorem dX11_init_65 : decode cX11_init 65 = .ok (.aload_n 0, 1) := by decide +kernel
theorem dX11_init_66 : decode cX11_init 66 = .ok (.getfield 28, 3) := by decide +kernel
theorem dX11_init_69 : decode cX11_init 69 = .ok (.aload_n 0, 1) := by decide +kernel
theorem dX11_init_70 : decode cX11_init 70 = .ok (.getfield 37, 3) := by decide +kernel
theorem dX11_init_73 : decode cX11_init 73 = .ok (.invokespecial 43, 3) := by decide +kernel
theorem dX11_init_76 : decode cX11_init 76 = .ok (.putfield 46, 3) := by decide +kernel
theorem dX11_init_79 : decode cX11_init 79 = .ok (.aload_n 0, 1) := by decide +kernel
theorem dX11_init_80 : decode cX11_init 80 = .ok (.bipush 8, 2) := by decide +kernel
theorem dX11_init_82 : decode cX11_init 82 = .ok (.newarray .int, 2) := by decide +kernel
theorem dX11_init_84 : decode cX11_init 84 = .ok (.putfield 50, 3) := by decide +kernel
theorem dX11_init_87 : decode cX11_init 87 = .ok (.aload_n 0, 1) := by decide +kernel
theorem dX11_init_88 : decode cX11_init 88 = .ok (.bipush 8, 2) := by decide +kernel
theorem dX11_init_90 : decode cX11_init 90 = .ok (.newarray .long, 2) := by decide +kernel
theorem dX11_init_92 : decode cX11_init 92 = .ok (.putfield 54, 3) := by decide +kernel
theorem dX11_init_95 : decode cX11_init 95 = .ok (.aload_n 0, 1) := by decide +kernel
theorem dX11_init_96 : decode cX11_init 96 = .ok (.bipush 40, 2) := by decide +kernel
theorem dX11_init_98 : decode cX11_init 98 = .ok (.anewarray 58, 3) := by decide +kernel
theorem dX11_init_101 : decode cX11_init 101 = .ok (.putfield 60, 3) := by decide +kernel
theorem dX11_init_104 : decode cX11_init 104 = .ok (.return_, 1) := by decide +kernel
theorem dX11_tell_0 : decode cX11_tell 0 = .ok (.iload_n 1, 1) := by decide +kernel
theorem dX11_tell_1 : decode cX11_tell 1 = .ok (.bipush 6, 2) := by decide +kernel
theorem dX11_tell_3 : decode cX11_tell 3 = .ok (.invokestatic 64, 3) := by decide +kernel
theorem dX11_tell_6 : decode cX11_tell 6 = .ok (.invokestatic 68, 3) := by decide +kernel
theorem dX11_tell_9 : decode cX11_tell 9 = .ok (.aload_n 0, 1) := by decide +kernel
theorem dX11_tell_10 : decode cX11_tell 10 = .ok (.iload_n 2, 1) := by decide +kernel
theorem dX11_tell_11 : decode cX11_tell 11 = .ok (.iload_n 3, 1) := by decide +kernel
theorem dX11_tell_12 : decode cX11_tell 12 = .ok (.iload 4, 2) := by decide +kernel
theorem dX11_tell_14 : decode cX11_tell 14 = .ok (.iload 5, 2) := by decide +kernel
theorem dX11_tell_16 : decode cX11_tell 16 = .ok (.invokevirtual 72, 3) := by decide +kernel
theorem dX11_tell_19 : decode cX11_tell 19 = .ok (.aload_n 0, 1) := by decide +kernel
theorem dX11_tell_20 : decode cX11_tell 20 = .ok (.new 76, 3) := by decide +kernel
theorem dX11_tell_23 : decode cX11_tell 23 = .ok (.dup, 1) := by decide +kernel
theorem dX11_tell_24 : decode cX11_tell 24 = .ok (.iload_n 1, 1) := by decide +kernel
theorem dX11_tell_25 : decode cX11_tell 25 = .ok (.iconst (-1), 1) := by decide +kernel
theorem dX11_tell_26 : decode cX11_tell 26 = .ok (.iload_n 2, 1) := by decide +kernel
theorem dX11_tell_27 : decode cX11_tell 27 = .ok (.iload_n 3, 1) := by decide +kernel
theorem dX11_tell_28 : decode cX11_tell 28 = .ok (.iload 4, 2) := by decide +kernel
theorem dX11_tell_30 : decode cX11_tell 30 = .ok (.iload 5, 2) := by decide +kernel
theorem dX11_tell_32 : decode cX11_tell 32 = .ok (.invokespecial 78, 3) := by decide +kernel
theorem dX11_tell_35 : decode cX11_tell 35 = .ok (.invokevirtual 81, 3) := by decide +kernel
theorem dX11_tell_38 : decode cX11_tell 38 = .ok (.ireturn, 1) := by decide +kernel
theorem dX11_draft_0 : decode cX11_draft 0 = .ok (.iload_n 1, 1) := by decide +kernel
theorem dX11_draft_1 : decode cX11_draft 1 = .ok (.iconst 3, 1) := by decide +kernel
theorem dX11_draft_2 : decode cX11_draft 2 = .ok (.invokestatic 64, 3) := by decide +kernel
theorem dX11_draft_5 : decode cX11_draft 5 = .ok (.invokestatic 68, 3) := by decide +kernel
theorem dX11_draft_8 : decode cX11_draft 8 = .ok (.aload_n 0, 1) := by decide +kernel
theorem dX11_draft_9 : decode cX11_draft 9 = .ok (.iload_n 2, 1) := by decide +kernel
theorem dX11_draft_10 : decode cX11_draft 10 = .ok (.iload_n 3, 1) := by decide +kernel
theorem dX11_draft_11 : decode cX11_draft 11 = .ok (.iload 4, 2) := by decide +kernel
theorem dX11_draft_13 : decode cX11_draft 13 = .ok (.iload 5, 2) := by decide +kernel
theorem dX11_draft_15 : decode cX11_draft 15 = .ok (.invokevirtual 72, 3) := by decide +kernel
theorem dX11_draft_18 : decode cX11_draft 18 = .ok (.aload_n 0, 1) := by decide +kernel
theorem dX11_draft_19 : decode cX11_draft 19 = .ok (.new 76, 3) := by decide +kernel
theorem dX11_draft_22 : decode cX11_draft 22 = .ok (.dup, 1) := by decide +kernel
theorem dX11_draft_23 : decode cX11_draft 23 = .ok (.iconst (-1), 1) := by decide +kernel
theorem dX11_draft_24 : decode cX11_draft 24 = .ok (.iload_n 1, 1) := by decide +kernel
theorem dX11_draft_25 : decode cX11_draft 25 = .ok (.iload_n 2, 1) := by decide +kernel
theorem dX11_draft_26 : decode cX11_draft 26 = .ok (.iload_n 3, 1) := by decide +kernel
theorem dX11_draft_27 : decode cX11_draft 27 = .ok (.iload 4, 2) := by decide +kernel
theorem dX11_draft_29 : decode cX11_draft 29 = .ok (.iload 5, 2) := by decide +kernel
theorem dX11_draft_31 : decode cX11_draft 31 = .ok (.invokespecial 78, 3) := by decide +kernel
theorem dX11_draft_34 : decode cX11_draft 34 = .ok (.invokevirtual 81, 3) := by decide +kernel
theorem dX11_draft_37 : decode cX11_draft 37 = .ok (.ireturn, 1) := by decide +kernel
theorem dX11_publish_0 : decode cX11_publish 0 = .ok (.iload_n 1, 1) := by decide +kernel
theorem dX11_publish_1 : decode cX11_publish 1 = .ok (.iconst 3, 1) := by decide +kernel
theorem dX11_publish_2 : decode cX11_publish 2 = .ok (.invokestatic 64, 3) := by decide +kernel
theorem dX11_publish_5 : decode cX11_publish 5 = .ok (.invokestatic 68, 3) := by decide +kernel
theorem dX11_publish_8 : decode cX11_publish 8 = .ok (.aload_n 0, 1) := by decide +kernel
theorem dX11_publish_9 : decode cX11_publish 9 = .ok (.getfield 10, 3) := by decide +kernel
theorem dX11_publish_12 : decode cX11_publish 12 = .ok (.getfield 85, 3) := by decide +kernel
theorem dX11_publish_15 : decode cX11_publish 15 = .ok (.iload_n 1, 1) := by decide +kernel
theorem dX11_publish_16 : decode cX11_publish 16 = .ok (.iaload, 1) := by decide +kernel
theorem dX11_publish_17 : decode cX11_publish 17 = .ok (.iconst 3, 1) := by decide +kernel
theorem dX11_publish_18 : decode cX11_publish 18 = .ok (.if_icmp .ge 7, 3) := by decide +kernel
theorem dX11_publish_21 : decode cX11_publish 21 = .ok (.iconst 1, 1) := by decide +kernel
theorem dX11_publish_22 : decode cX11_publish 22 = .ok (.goto 4, 3) := by decide +kernel
theorem dX11_publish_25 : decode cX11_publish 25 = .ok (.iconst 0, 1) := by decide +kernel
theorem dX11_publish_26 : decode cX11_publish 26 = .ok (.invokestatic 88, 3) := by decide +kernel
theorem dX11_publish_29 : decode cX11_publish 29 = .ok (.aload_n 0, 1) := by decide +kernel
theorem dX11_publish_30 : decode cX11_publish 30 = .ok (.getfield 21, 3) := by decide +kernel
theorem dX11_publish_33 : decode cX11_publish 33 = .ok (.invokevirtual 91, 3) := by decide +kernel
theorem dX11_publish_36 : decode cX11_publish 36 = .ok (.aload_n 0, 1) := by decide +kernel
theorem dX11_publish_37 : decode cX11_publish 37 = .ok (.getfield 10, 3) := by decide +kernel
theorem dX11_publish_40 : decode cX11_publish 40 = .ok (.iload_n 1, 1) := by decide +kernel
theorem dX11_publish_41 : decode cX11_publish 41 = .ok (.invokevirtual 94, 3) := by decide +kernel
theorem dX11_publish_44 : decode cX11_publish 44 = .ok (.ireturn, 1) := by decide +kernel
theorem dX11_remove_0 : decode cX11_remove 0 = .ok (.iload_n 1, 1) := by decide +kernel
theorem dX11_remove_1 : decode cX11_remove 1 = .ok (.aload_n 0, 1) := by decide +kernel
theorem dX11_remove_2 : decode cX11_remove 2 = .ok (.getfield 10, 3) := by decide +kernel
theorem dX11_remove_5 : decode cX11_remove 5 = .ok (.getfield 98, 3) := by decide +kernel
theorem dX11_remove_8 : decode cX11_remove 8 = .ok (.invokestatic 64, 3) := by decide +kernel
theorem dX11_remove_11 : decode cX11_remove 11 = .ok (.invokestatic 68, 3) := by decide +kernel
theorem dX11_remove_14 : decode cX11_remove 14 = .ok (.aload_n 0, 1) := by decide +kernel
theorem dX11_remove_15 : decode cX11_remove 15 = .ok (.getfield 10, 3) := by decide +kernel
theorem dX11_remove_18 : decode cX11_remove 18 = .ok (.getfield 102, 3) := by decide +kernel
theorem dX11_remove_21 : decode cX11_remove 21 = .ok (.iload_n 1, 1) := by decide +kernel
theorem dX11_remove_22 : decode cX11_remove 22 = .ok (.aaload, 1) := by decide +kernel
theorem dX11_remove_23 : decode cX11_remove 23 = .ok (.astore_n 2, 1) := by decide +kernel
theorem dX11_remove_24 : decode cX11_remove 24 = .ok (.aload_n 2, 1) := by decide +kernel
theorem dX11_remove_25 : decode cX11_remove 25 = .ok (.getfield 106, 3) := by decide +kernel
theorem dX11_remove_28 : decode cX11_remove 28 = .ok (.iconst (-1), 1) := by decide +kernel
theorem dX11_remove_29 : decode cX11_remove 29 = .ok (.if_icmp .eq 14, 3) := by decide +kernel
theorem dX11_remove_32 : decode cX11_remove 32 = .ok (.aload_n 2, 1) := by decide +kernel
theorem dX11_remove_33 : decode cX11_remove 33 = .ok (.getfield 109, 3) := by decide +kernel
theorem dX11_remove_36 : decode cX11_remove 36 = .ok (.ifCond .ne 7, 3) := by decide +kernel
theorem dX11_remove_39 : decode cX11_remove 39 = .ok (.iconst 1, 1) := by decide +kernel
theorem dX11_remove_40 : decode cX11_remove 40 = .ok (.goto 4, 3) := by decide +kernel
theorem dX11_remove_43 : decode cX11_remove 43 = .ok (.iconst 0, 1) := by decide +kernel
theorem dX11_remove_44 : decode cX11_remove 44 = .ok (.invokestatic 68, 3) := by decide +kernel
theorem dX11_remove_47 : decode cX11_remove 47 = .ok (.aload_n 2, 1) := by decide +kernel
theorem dX11_remove_48 : decode cX11_remove 48 = .ok (.iconst 1, 1) := by decide +kernel
theorem dX11_remove_49 : decode cX11_remove 49 = .ok (.putfield 109, 3) := by decide +kernel
theorem dX11_remove_52 : decode cX11_remove 52 = .ok (.aload_n 0, 1) := by decide +kernel
theorem dX11_remove_53 : decode cX11_remove 53 = .ok (.getfield 21, 3) := by decide +kernel
theorem dX11_remove_56 : decode cX11_remove 56 = .ok (.invokevirtual 91, 3) := by decide +kernel
theorem dX11_remove_59 : decode cX11_remove 59 = .ok (.aload_n 0, 1) := by decide +kernel
theorem dX11_remove_60 : decode cX11_remove 60 = .ok (.getfield 21, 3) := by decide +kernel
theorem dX11_remove_63 : decode cX11_remove 63 = .ok (.invokevirtual 113, 3) := by decide +kernel
theorem dX11_remove_66 : decode cX11_remove 66 = .ok (.aload_n 0, 1) := by decide +kernel
theorem dX11_remove_67 : decode cX11_remove 67 = .ok (.getfield 10, 3) := by decide +kernel
theorem dX11_remove_70 : decode cX11_remove 70 = .ok (.invokevirtual 116, 3) := by decide +kernel
theorem dX11_remove_73 : decode cX11_remove 73 = .ok (.ireturn, 1) := by decide +kernel
theorem dX11_setLayer_0 : decode cX11_setLayer 0 = .ok (.iload_n 1, 1) := by decide +kernel
theorem dX11_setLayer_1 : decode cX11_setLayer 1 = .ok (.bipush 6, 2) := by decide +kernel
theorem dX11_setLayer_3 : decode cX11_setLayer 3 = .ok (.invokestatic 64, 3) := by decide +kernel
theorem dX11_setLayer_6 : decode cX11_setLayer 6 = .ok (.ifCond .eq 15, 3) := by decide +kernel
theorem dX11_setLayer_9 : decode cX11_setLayer 9 = .ok (.iload_n 2, 1) := by decide +kernel
theorem dX11_setLayer_10 : decode cX11_setLayer 10 = .ok (.iconst 4, 1) := by decide +kernel
theorem dX11_setLayer_11 : decode cX11_setLayer 11 = .ok (.invokestatic 64, 3) := by decide +kernel
theorem dX11_setLayer_14 : decode cX11_setLayer 14 = .ok (.ifCond .eq 7, 3) := by decide +kernel
theorem dX11_setLayer_17 : decode cX11_setLayer 17 = .ok (.iconst 1, 1) := by decide +kernel
theorem dX11_setLayer_18 : decode cX11_setLayer 18 = .ok (.goto 4, 3) := by decide +kernel
theorem dX11_setLayer_21 : decode cX11_setLayer 21 = .ok (.iconst 0, 1) := by decide +kernel
theorem dX11_setLayer_22 : decode cX11_setLayer 22 = .ok (.invokestatic 68, 3) := by decide +kernel
theorem dX11_setLayer_25 : decode cX11_setLayer 25 = .ok (.aload_n 0, 1) := by decide +kernel
theorem dX11_setLayer_26 : decode cX11_setLayer 26 = .ok (.getfield 10, 3) := by decide +kernel
theorem dX11_setLayer_29 : decode cX11_setLayer 29 = .ok (.getfield 120, 3) := by decide +kernel
theorem dX11_setLayer_32 : decode cX11_setLayer 32 = .ok (.iload_n 1, 1) := by decide +kernel
theorem dX11_setLayer_33 : decode cX11_setLayer 33 = .ok (.iaload, 1) := by decide +kernel
theorem dX11_setLayer_34 : decode cX11_setLayer 34 = .ok (.istore_n 3, 1) := by decide +kernel
theorem dX11_setLayer_35 : decode cX11_setLayer 35 = .ok (.aload_n 0, 1) := by decide +kernel
theorem dX11_setLayer_36 : decode cX11_setLayer 36 = .ok (.getfield 10, 3) := by decide +kernel
theorem dX11_setLayer_39 : decode cX11_setLayer 39 = .ok (.getfield 120, 3) := by decide +kernel
theorem dX11_setLayer_42 : decode cX11_setLayer 42 = .ok (.iload_n 1, 1) := by decide +kernel
theorem dX11_setLayer_43 : decode cX11_setLayer 43 = .ok (.iload_n 2, 1) := by decide +kernel
theorem dX11_setLayer_44 : decode cX11_setLayer 44 = .ok (.iastore, 1) := by decide +kernel
theorem dX11_setLayer_45 : decode cX11_setLayer 45 = .ok (.aload_n 0, 1) := by decide +kernel
theorem dX11_setLayer_46 : decode cX11_setLayer 46 = .ok (.getfield 21, 3) := by decide +kernel
theorem dX11_setLayer_49 : decode cX11_setLayer 49 = .ok (.invokevirtual 91, 3) := by decide +kernel
theorem dX11_setLayer_52 : decode cX11_setLayer 52 = .ok (.iload_n 3, 1) := by decide +kernel
theorem dX11_setLayer_53 : decode cX11_setLayer 53 = .ok (.ireturn, 1) := by decide +kernel
theorem dX11_lock_0 : decode cX11_lock 0 = .ok (.iload_n 1, 1) := by decide +kernel
theorem dX11_lock_1 : decode cX11_lock 1 = .ok (.bipush 10, 2) := by decide +kernel
theorem dX11_lock_3 : decode cX11_lock 3 = .ok (.invokestatic 64, 3) := by decide +kernel
theorem dX11_lock_6 : decode cX11_lock 6 = .ok (.ifCond .eq 20, 3) := by decide +kernel
theorem dX11_lock_9 : decode cX11_lock 9 = .ok (.iload_n 2, 1) := by decide +kernel
theorem dX11_lock_10 : decode cX11_lock 10 = .ok (.iconst (-1), 1) := by decide +kernel
theorem dX11_lock_11 : decode cX11_lock 11 = .ok (.if_icmp .eq 11, 3) := by decide +kernel
theorem dX11_lock_14 : decode cX11_lock 14 = .ok (.iload_n 2, 1) := by decide +kernel
theorem dX11_lock_15 : decode cX11_lock 15 = .ok (.iconst 4, 1) := by decide +kernel
theorem dX11_lock_16 : decode cX11_lock 16 = .ok (.invokestatic 64, 3) := by decide +kernel
theorem dX11_lock_19 : decode cX11_lock 19 = .ok (.ifCond .eq 7, 3) := by decide +kernel
theorem dX11_lock_22 : decode cX11_lock 22 = .ok (.iconst 1, 1) := by decide +kernel
theorem dX11_lock_23 : decode cX11_lock 23 = .ok (.goto 4, 3) := by decide +kernel
theorem dX11_lock_26 : decode cX11_lock 26 = .ok (.iconst 0, 1) := by decide +kernel
theorem dX11_lock_27 : decode cX11_lock 27 = .ok (.invokestatic 68, 3) := by decide +kernel
theorem dX11_lock_30 : decode cX11_lock 30 = .ok (.aload_n 0, 1) := by decide +kernel
theorem dX11_lock_31 : decode cX11_lock 31 = .ok (.getfield 10, 3) := by decide +kernel
theorem dX11_lock_34 : decode cX11_lock 34 = .ok (.getfield 123, 3) := by decide +kernel
theorem dX11_lock_37 : decode cX11_lock 37 = .ok (.iload_n 1, 1) := by decide +kernel
theorem dX11_lock_38 : decode cX11_lock 38 = .ok (.iaload, 1) := by decide +kernel
theorem dX11_lock_39 : decode cX11_lock 39 = .ok (.istore_n 3, 1) := by decide +kernel
theorem dX11_lock_40 : decode cX11_lock 40 = .ok (.aload_n 0, 1) := by decide +kernel
theorem dX11_lock_41 : decode cX11_lock 41 = .ok (.getfield 10, 3) := by decide +kernel
theorem dX11_lock_44 : decode cX11_lock 44 = .ok (.getfield 123, 3) := by decide +kernel
theorem dX11_lock_47 : decode cX11_lock 47 = .ok (.iload_n 1, 1) := by decide +kernel
theorem dX11_lock_48 : decode cX11_lock 48 = .ok (.iload_n 2, 1) := by decide +kernel
theorem dX11_lock_49 : decode cX11_lock 49 = .ok (.iastore, 1) := by decide +kernel
theorem dX11_lock_50 : decode cX11_lock 50 = .ok (.aload_n 0, 1) := by decide +kernel
theorem dX11_lock_51 : decode cX11_lock 51 = .ok (.getfield 21, 3) := by decide +kernel
theorem dX11_lock_54 : decode cX11_lock 54 = .ok (.invokevirtual 91, 3) := by decide +kernel
theorem dX11_lock_57 : decode cX11_lock 57 = .ok (.iload_n 3, 1) := by decide +kernel
theorem dX11_lock_58 : decode cX11_lock 58 = .ok (.ireturn, 1) := by decide +kernel
theorem dX11_except_0 : decode cX11_except 0 = .ok (.iload_n 1, 1) := by decide +kernel
theorem dX11_except_1 : decode cX11_except 1 = .ok (.bipush 6, 2) := by decide +kernel
theorem dX11_except_3 : decode cX11_except 3 = .ok (.invokestatic 64, 3) := by decide +kernel
theorem dX11_except_6 : decode cX11_except 6 = .ok (.ifCond .eq 16, 3) := by decide +kernel
theorem dX11_except_9 : decode cX11_except 9 = .ok (.iload_n 2, 1) := by decide +kernel
theorem dX11_except_10 : decode cX11_except 10 = .ok (.bipush 10, 2) := by decide +kernel
theorem dX11_except_12 : decode cX11_except 12 = .ok (.invokestatic 64, 3) := by decide +kernel
theorem dX11_except_15 : decode cX11_except 15 = .ok (.ifCond .eq 7, 3) := by decide +kernel
theorem dX11_except_18 : decode cX11_except 18 = .ok (.iconst 1, 1) := by decide +kernel
theorem dX11_except_19 : decode cX11_except 19 = .ok (.goto 4, 3) := by decide +kernel
theorem dX11_except_22 : decode cX11_except 22 = .ok (.iconst 0, 1) := by decide +kernel
theorem dX11_except_23 : decode cX11_except 23 = .ok (.invokestatic 68, 3) := by decide +kernel
theorem dX11_except_26 : decode cX11_except 26 = .ok (.iload_n 3, 1) := by decide +kernel
theorem dX11_except_27 : decode cX11_except 27 = .ok (.iconst 1, 1) := by decide +kernel
theorem dX11_except_28 : decode cX11_except 28 = .ok (.bipush 30, 2) := by decide +kernel
theorem dX11_except_30 : decode cX11_except 30 = .ok (.invokestatic 126, 3) := by decide +kernel
theorem dX11_except_33 : decode cX11_except 33 = .ok (.invokestatic 130, 3) := by decide +kernel
theorem dX11_except_36 : decode cX11_except 36 = .ok (.aload_n 0, 1) := by decide +kernel
theorem dX11_except_37 : decode cX11_except 37 = .ok (.getfield 10, 3) := by decide +kernel
theorem dX11_except_40 : decode cX11_except 40 = .ok (.getfield 133, 3) := by decide +kernel
theorem dX11_except_43 : decode cX11_except 43 = .ok (.iload_n 3, 1) := by decide +kernel
theorem dX11_except_44 : decode cX11_except 44 = .ok (.iadd, 1) := by decide +kernel
theorem dX11_except_45 : decode cX11_except 45 = .ok (.istore 4, 2) := by decide +kernel
theorem dX11_except_47 : decode cX11_except 47 = .ok (.aload_n 0, 1) := by decide +kernel
theorem dX11_except_48 : decode cX11_except 48 = .ok (.getfield 10, 3) := by decide +kernel
theorem dX11_except_51 : decode cX11_except 51 = .ok (.getfield 136, 3) := by decide +kernel
theorem dX11_except_54 : decode cX11_except 54 = .ok (.iload_n 1, 1) := by decide +kernel
theorem dX11_except_55 : decode cX11_except 55 = .ok (.bipush 10, 2) := by decide +kernel
theorem dX11_except_57 : decode cX11_except 57 = .ok (.imul, 1) := by decide +kernel
theorem dX11_except_58 : decode cX11_except 58 = .ok (.iload_n 2, 1) := by decide +kernel
theorem dX11_except_59 : decode cX11_except 59 = .ok (.iadd, 1) := by decide +kernel
theorem dX11_except_60 : decode cX11_except 60 = .ok (.iload 4, 2) := by decide +kernel
theorem dX11_except_62 : decode cX11_except 62 = .ok (.iastore, 1) := by decide +kernel
theorem dX11_except_63 : decode cX11_except 63 = .ok (.aload_n 0, 1) := by decide +kernel
theorem dX11_except_64 : decode cX11_except 64 = .ok (.getfield 21, 3) := by decide +kernel
theorem dX11_except_67 : decode cX11_except 67 = .ok (.invokevirtual 91, 3) := by decide +kernel
theorem dX11_except_70 : decode cX11_except 70 = .ok (.iload 4, 2) := by decide +kernel
theorem dX11_except_72 : decode cX11_except 72 = .ok (.ireturn, 1) := by decide +kernel
theorem dX11_pass_0 : decode cX11_pass 0 = .ok (.iload_n 1, 1) := by decide +kernel
theorem dX11_pass_1 : decode cX11_pass 1 = .ok (.iconst 1, 1) := by decide +kernel
theorem dX11_pass_2 : decode cX11_pass 2 = .ok (.bipush 30, 2) := by decide +kernel
theorem dX11_pass_4 : decode cX11_pass 4 = .ok (.invokestatic 126, 3) := by decide +kernel
theorem dX11_pass_7 : decode cX11_pass 7 = .ok (.invokestatic 130, 3) := by decide +kernel
theorem dX11_pass_10 : decode cX11_pass 10 = .ok (.aload_n 0, 1) := by decide +kernel
theorem dX11_pass_11 : decode cX11_pass 11 = .ok (.getfield 10, 3) := by decide +kernel
theorem dX11_pass_14 : decode cX11_pass 14 = .ok (.dup, 1) := by decide +kernel
theorem dX11_pass_15 : decode cX11_pass 15 = .ok (.getfield 133, 3) := by decide +kernel
theorem dX11_pass_18 : decode cX11_pass 18 = .ok (.iload_n 1, 1) := by decide +kernel
theorem dX11_pass_19 : decode cX11_pass 19 = .ok (.iadd, 1) := by decide +kernel
theorem dX11_pass_20 : decode cX11_pass 20 = .ok (.putfield 133, 3) := by decide +kernel
theorem dX11_pass_23 : decode cX11_pass 23 = .ok (.aload_n 0, 1) := by decide +kernel
theorem dX11_pass_24 : decode cX11_pass 24 = .ok (.getfield 21, 3) := by decide +kernel
theorem dX11_pass_27 : decode cX11_pass 27 = .ok (.invokevirtual 91, 3) := by decide +kernel
theorem dX11_pass_30 : decode cX11_pass 30 = .ok (.aload_n 0, 1) := by decide +kernel
theorem dX11_pass_31 : decode cX11_pass 31 = .ok (.getfield 46, 3) := by decide +kernel
theorem dX11_pass_34 : decode cX11_pass 34 = .ok (.aload_n 0, 1) := by decide +kernel
theorem dX11_pass_35 : decode cX11_pass 35 = .ok (.getfield 10, 3) := by decide +kernel
theorem dX11_pass_38 : decode cX11_pass 38 = .ok (.getfield 133, 3) := by decide +kernel
theorem dX11_pass_41 : decode cX11_pass 41 = .ok (.invokevirtual 139, 3) := by decide +kernel
theorem dX11_pass_44 : decode cX11_pass 44 = .ok (.aload_n 0, 1) := by decide +kernel
theorem dX11_pass_45 : decode cX11_pass 45 = .ok (.getfield 10, 3) := by decide +kernel
theorem dX11_pass_48 : decode cX11_pass 48 = .ok (.getfield 133, 3) := by decide +kernel
theorem dX11_pass_51 : decode cX11_pass 51 = .ok (.ireturn, 1) := by decide +kernel
theorem dX11_standing_0 : decode cX11_standing 0 = .ok (.iload_n 1, 1) := by decide +kernel
theorem dX11_standing_1 : decode cX11_standing 1 = .ok (.aload_n 0, 1) := by decide +kernel
theorem dX11_standing_2 : decode cX11_standing 2 = .ok (.getfield 10, 3) := by decide +kernel
theorem dX11_standing_5 : decode cX11_standing 5 = .ok (.getfield 98, 3) := by decide +kernel
theorem dX11_standing_8 : decode cX11_standing 8 = .ok (.invokestatic 64, 3) := by decide +kernel
theorem dX11_standing_11 : decode cX11_standing 11 = .ok (.invokestatic 68, 3) := by decide +kernel
theorem dX11_standing_14 : decode cX11_standing 14 = .ok (.aload_n 0, 1) := by decide +kernel
theorem dX11_standing_15 : decode cX11_standing 15 = .ok (.getfield 21, 3) := by decide +kernel
theorem dX11_standing_18 : decode cX11_standing 18 = .ok (.invokevirtual 113, 3) := by decide +kernel
theorem dX11_standing_21 : decode cX11_standing 21 = .ok (.aload_n 0, 1) := by decide +kernel
theorem dX11_standing_22 : decode cX11_standing 22 = .ok (.getfield 10, 3) := by decide +kernel
theorem dX11_standing_25 : decode cX11_standing 25 = .ok (.getfield 102, 3) := by decide +kernel
theorem dX11_standing_28 : decode cX11_standing 28 = .ok (.iload_n 1, 1) := by decide +kernel
theorem dX11_standing_29 : decode cX11_standing 29 = .ok (.aaload, 1) := by decide +kernel
theorem dX11_standing_30 : decode cX11_standing 30 = .ok (.astore_n 2, 1) := by decide +kernel
theorem dX11_standing_31 : decode cX11_standing 31 = .ok (.aload_n 2, 1) := by decide +kernel
theorem dX11_standing_32 : decode cX11_standing 32 = .ok (.getfield 143, 3) := by decide +kernel
theorem dX11_standing_35 : decode cX11_standing 35 = .ok (.ifCond .ne 5, 3) := by decide +kernel
theorem dX11_standing_38 : decode cX11_standing 38 = .ok (.iconst (-1), 1) := by decide +kernel
theorem dX11_standing_39 : decode cX11_standing 39 = .ok (.ireturn, 1) := by decide +kernel
theorem dX11_standing_40 : decode cX11_standing 40 = .ok (.aload_n 2, 1) := by decide +kernel
theorem dX11_standing_41 : decode cX11_standing 41 = .ok (.getfield 146, 3) := by decide +kernel
theorem dX11_standing_44 : decode cX11_standing 44 = .ok (.ifCond .eq 8, 3) := by decide +kernel
theorem dX11_standing_47 : decode cX11_standing 47 = .ok (.aload_n 2, 1) := by decide +kernel
theorem dX11_standing_48 : decode cX11_standing 48 = .ok (.getfield 146, 3) := by decide +kernel
theorem dX11_standing_51 : decode cX11_standing 51 = .ok (.ireturn, 1) := by decide +kernel
theorem dX11_standing_52 : decode cX11_standing 52 = .ok (.aload_n 2, 1) := by decide +kernel
theorem dX11_standing_53 : decode cX11_standing 53 = .ok (.invokevirtual 149, 3) := by decide +kernel
theorem dX11_standing_56 : decode cX11_standing 56 = .ok (.ifCond .eq 15, 3) := by decide +kernel
theorem dX11_standing_59 : decode cX11_standing 59 = .ok (.aload_n 2, 1) := by decide +kernel
theorem dX11_standing_60 : decode cX11_standing 60 = .ok (.getfield 153, 3) := by decide +kernel
theorem dX11_standing_63 : decode cX11_standing 63 = .ok (.ifCond .ne 8, 3) := by decide +kernel
theorem dX11_standing_66 : decode cX11_standing 66 = .ok (.bipush 10, 2) := by decide +kernel
theorem dX11_standing_68 : decode cX11_standing 68 = .ok (.goto 4, 3) := by decide +kernel
theorem dX11_standing_71 : decode cX11_standing 71 = .ok (.iconst 0, 1) := by decide +kernel
theorem dX11_standing_72 : decode cX11_standing 72 = .ok (.ireturn, 1) := by decide +kernel
theorem dX11_value_0 : decode cX11_value 0 = .ok (.iload_n 1, 1) := by decide +kernel
theorem dX11_value_1 : decode cX11_value 1 = .ok (.bipush 10, 2) := by decide +kernel
theorem dX11_value_3 : decode cX11_value 3 = .ok (.invokestatic 64, 3) := by decide +kernel
theorem dX11_value_6 : decode cX11_value 6 = .ok (.invokestatic 68, 3) := by decide +kernel
theorem dX11_value_9 : decode cX11_value 9 = .ok (.aload_n 0, 1) := by decide +kernel
theorem dX11_value_10 : decode cX11_value 10 = .ok (.getfield 21, 3) := by decide +kernel
theorem dX11_value_13 : decode cX11_value 13 = .ok (.invokevirtual 113, 3) := by decide +kernel
theorem dX11_value_16 : decode cX11_value 16 = .ok (.aload_n 0, 1) := by decide +kernel
theorem dX11_value_17 : decode cX11_value 17 = .ok (.getfield 21, 3) := by decide +kernel
theorem dX11_value_20 : decode cX11_value 20 = .ok (.getfield 156, 3) := by decide +kernel
theorem dX11_value_23 : decode cX11_value 23 = .ok (.iload_n 1, 1) := by decide +kernel
theorem dX11_value_24 : decode cX11_value 24 = .ok (.iaload, 1) := by decide +kernel
theorem dX11_value_25 : decode cX11_value 25 = .ok (.ireturn, 1) := by decide +kernel
theorem dX11_set_0 : decode cX11_set 0 = .ok (.iload_n 1, 1) := by decide +kernel
theorem dX11_set_1 : decode cX11_set 1 = .ok (.bipush 10, 2) := by decide +kernel
theorem dX11_set_3 : decode cX11_set 3 = .ok (.invokestatic 64, 3) := by decide +kernel
theorem dX11_set_6 : decode cX11_set 6 = .ok (.invokestatic 68, 3) := by decide +kernel
theorem dX11_set_9 : decode cX11_set 9 = .ok (.aload_n 0, 1) := by decide +kernel
theorem dX11_set_10 : decode cX11_set 10 = .ok (.getfield 21, 3) := by decide +kernel
theorem dX11_set_13 : decode cX11_set 13 = .ok (.invokevirtual 113, 3) := by decide +kernel
theorem dX11_set_16 : decode cX11_set 16 = .ok (.aload_n 0, 1) := by decide +kernel
theorem dX11_set_17 : decode cX11_set 17 = .ok (.getfield 21, 3) := by decide +kernel
theorem dX11_set_20 : decode cX11_set 20 = .ok (.getfield 159, 3) := by decide +kernel
theorem dX11_set_23 : decode cX11_set 23 = .ok (.iload_n 1, 1) := by decide +kernel
theorem dX11_set_24 : decode cX11_set 24 = .ok (.invokevirtual 163, 3) := by decide +kernel
theorem dX11_set_27 : decode cX11_set 27 = .ok (.ireturn, 1) := by decide +kernel
theorem dX11_setAnew_0 : decode cX11_setAnew 0 = .ok (.iload_n 1, 1) := by decide +kernel
theorem dX11_setAnew_1 : decode cX11_setAnew 1 = .ok (.bipush 10, 2) := by decide +kernel
theorem dX11_setAnew_3 : decode cX11_setAnew 3 = .ok (.invokestatic 64, 3) := by decide +kernel
theorem dX11_setAnew_6 : decode cX11_setAnew 6 = .ok (.invokestatic 68, 3) := by decide +kernel
theorem dX11_setAnew_9 : decode cX11_setAnew 9 = .ok (.aload_n 0, 1) := by decide +kernel
theorem dX11_setAnew_10 : decode cX11_setAnew 10 = .ok (.getfield 21, 3) := by decide +kernel
theorem dX11_setAnew_13 : decode cX11_setAnew 13 = .ok (.invokevirtual 113, 3) := by decide +kernel
theorem dX11_setAnew_16 : decode cX11_setAnew 16 = .ok (.aload_n 0, 1) := by decide +kernel
theorem dX11_setAnew_17 : decode cX11_setAnew 17 = .ok (.getfield 21, 3) := by decide +kernel
theorem dX11_setAnew_20 : decode cX11_setAnew 20 = .ok (.invokevirtual 168, 3) := by decide +kernel
theorem dX11_setAnew_23 : decode cX11_setAnew 23 = .ok (.iload_n 1, 1) := by decide +kernel
theorem dX11_setAnew_24 : decode cX11_setAnew 24 = .ok (.invokevirtual 163, 3) := by decide +kernel
theorem dX11_setAnew_27 : decode cX11_setAnew 27 = .ok (.ireturn, 1) := by decide +kernel
theorem dX11_conflict_0 : decode cX11_conflict 0 = .ok (.aload_n 0, 1) := by decide +kernel
theorem dX11_conflict_1 : decode cX11_conflict 1 = .ok (.getfield 21, 3) := by decide +kernel
theorem dX11_conflict_4 : decode cX11_conflict 4 = .ok (.invokevirtual 113, 3) := by decide +kernel
theorem dX11_conflict_7 : decode cX11_conflict 7 = .ok (.aload_n 0, 1) := by decide +kernel
theorem dX11_conflict_8 : decode cX11_conflict 8 = .ok (.getfield 21, 3) := by decide +kernel
theorem dX11_conflict_11 : decode cX11_conflict 11 = .ok (.invokevirtual 172, 3) := by decide +kernel
theorem dX11_conflict_14 : decode cX11_conflict 14 = .ok (.ireturn, 1) := by decide +kernel
theorem dX11_policy_0 : decode cX11_policy 0 = .ok (.iload_n 1, 1) := by decide +kernel
theorem dX11_policy_1 : decode cX11_policy 1 = .ok (.bipush 10, 2) := by decide +kernel
theorem dX11_policy_3 : decode cX11_policy 3 = .ok (.invokestatic 64, 3) := by decide +kernel
theorem dX11_policy_6 : decode cX11_policy 6 = .ok (.invokestatic 68, 3) := by decide +kernel
theorem dX11_policy_9 : decode cX11_policy 9 = .ok (.iload_n 2, 1) := by decide +kernel
theorem dX11_policy_10 : decode cX11_policy 10 = .ok (.iconst 0, 1) := by decide +kernel
theorem dX11_policy_11 : decode cX11_policy 11 = .ok (.bipush 63, 2) := by decide +kernel
theorem dX11_policy_13 : decode cX11_policy 13 = .ok (.invokestatic 126, 3) := by decide +kernel
theorem dX11_policy_16 : decode cX11_policy 16 = .ok (.ifCond .eq 17, 3) := by decide +kernel
theorem dX11_policy_19 : decode cX11_policy 19 = .ok (.iload_n 3, 1) := by decide +kernel
theorem dX11_policy_20 : decode cX11_policy 20 = .ok (.iload_n 2, 1) := by decide +kernel
theorem dX11_policy_21 : decode cX11_policy 21 = .ok (.bipush 63, 2) := by decide +kernel
theorem dX11_policy_23 : decode cX11_policy 23 = .ok (.invokestatic 126, 3) := by decide +kernel
theorem dX11_policy_26 : decode cX11_policy 26 = .ok (.ifCond .eq 7, 3) := by decide +kernel
theorem dX11_policy_29 : decode cX11_policy 29 = .ok (.iconst 1, 1) := by decide +kernel
theorem dX11_policy_30 : decode cX11_policy 30 = .ok (.goto 4, 3) := by decide +kernel
theorem dX11_policy_33 : decode cX11_policy 33 = .ok (.iconst 0, 1) := by decide +kernel
theorem dX11_policy_34 : decode cX11_policy 34 = .ok (.invokestatic 130, 3) := by decide +kernel
theorem dX11_policy_37 : decode cX11_policy 37 = .ok (.aload_n 0, 1) := by decide +kernel
theorem dX11_policy_38 : decode cX11_policy 38 = .ok (.getfield 175, 3) := by decide +kernel
theorem dX11_policy_41 : decode cX11_policy 41 = .ok (.bipush 8, 2) := by decide +kernel
theorem dX11_policy_43 : decode cX11_policy 43 = .ok (.if_icmp .ge 7, 3) := by decide +kernel
theorem dX11_policy_46 : decode cX11_policy 46 = .ok (.iconst 1, 1) := by decide +kernel
theorem dX11_policy_47 : decode cX11_policy 47 = .ok (.goto 4, 3) := by decide +kernel
theorem dX11_policy_50 : decode cX11_policy 50 = .ok (.iconst 0, 1) := by decide +kernel
theorem dX11_policy_51 : decode cX11_policy 51 = .ok (.invokestatic 88, 3) := by decide +kernel
theorem dX11_policy_54 : decode cX11_policy 54 = .ok (.aload_n 0, 1) := by decide +kernel
theorem dX11_policy_55 : decode cX11_policy 55 = .ok (.getfield 50, 3) := by decide +kernel
theorem dX11_policy_58 : decode cX11_policy 58 = .ok (.aload_n 0, 1) := by decide +kernel
theorem dX11_policy_59 : decode cX11_policy 59 = .ok (.getfield 175, 3) := by decide +kernel
theorem dX11_policy_62 : decode cX11_policy 62 = .ok (.iload_n 1, 1) := by decide +kernel
theorem dX11_policy_63 : decode cX11_policy 63 = .ok (.iastore, 1) := by decide +kernel
theorem dX11_policy_64 : decode cX11_policy 64 = .ok (.aload_n 0, 1) := by decide +kernel
theorem dX11_policy_65 : decode cX11_policy 65 = .ok (.getfield 54, 3) := by decide +kernel
theorem dX11_policy_68 : decode cX11_policy 68 = .ok (.aload_n 0, 1) := by decide +kernel
theorem dX11_policy_69 : decode cX11_policy 69 = .ok (.getfield 175, 3) := by decide +kernel
theorem dX11_policy_72 : decode cX11_policy 72 = .ok (.iload_n 2, 1) := by decide +kernel
theorem dX11_policy_73 : decode cX11_policy 73 = .ok (.iload_n 3, 1) := by decide +kernel
theorem dX11_policy_74 : decode cX11_policy 74 = .ok (.invokestatic 178, 3) := by decide +kernel
theorem dX11_policy_77 : decode cX11_policy 77 = .ok (.lastore, 1) := by decide +kernel
theorem dX11_policy_78 : decode cX11_policy 78 = .ok (.aload_n 0, 1) := by decide +kernel
theorem dX11_policy_79 : decode cX11_policy 79 = .ok (.dup, 1) := by decide +kernel
theorem dX11_policy_80 : decode cX11_policy 80 = .ok (.getfield 175, 3) := by decide +kernel
theorem dX11_policy_83 : decode cX11_policy 83 = .ok (.iconst 1, 1) := by decide +kernel
theorem dX11_policy_84 : decode cX11_policy 84 = .ok (.iadd, 1) := by decide +kernel
theorem dX11_policy_85 : decode cX11_policy 85 = .ok (.putfield 175, 3) := by decide +kernel
theorem dX11_policy_88 : decode cX11_policy 88 = .ok (.aload_n 0, 1) := by decide +kernel
theorem dX11_policy_89 : decode cX11_policy 89 = .ok (.getfield 175, 3) := by decide +kernel
theorem dX11_policy_92 : decode cX11_policy 92 = .ok (.iconst 1, 1) := by decide +kernel
theorem dX11_policy_93 : decode cX11_policy 93 = .ok (.isub, 1) := by decide +kernel
theorem dX11_policy_94 : decode cX11_policy 94 = .ok (.ireturn, 1) := by decide +kernel
theorem dX11_proof_0 : decode cX11_proof 0 = .ok (.iload_n 1, 1) := by decide +kernel
theorem dX11_proof_1 : decode cX11_proof 1 = .ok (.aload_n 0, 1) := by decide +kernel
theorem dX11_proof_2 : decode cX11_proof 2 = .ok (.getfield 175, 3) := by decide +kernel
theorem dX11_proof_5 : decode cX11_proof 5 = .ok (.invokestatic 64, 3) := by decide +kernel
theorem dX11_proof_8 : decode cX11_proof 8 = .ok (.invokestatic 68, 3) := by decide +kernel
theorem dX11_proof_11 : decode cX11_proof 11 = .ok (.aload_n 0, 1) := by decide +kernel
theorem dX11_proof_12 : decode cX11_proof 12 = .ok (.getfield 21, 3) := by decide +kernel
theorem dX11_proof_15 : decode cX11_proof 15 = .ok (.invokevirtual 113, 3) := by decide +kernel
theorem dX11_proof_18 : decode cX11_proof 18 = .ok (.aload_n 0, 1) := by decide +kernel
theorem dX11_proof_19 : decode cX11_proof 19 = .ok (.getfield 21, 3) := by decide +kernel
theorem dX11_proof_22 : decode cX11_proof 22 = .ok (.getfield 159, 3) := by decide +kernel
theorem dX11_proof_25 : decode cX11_proof 25 = .ok (.getfield 182, 3) := by decide +kernel
theorem dX11_proof_28 : decode cX11_proof 28 = .ok (.aload_n 0, 1) := by decide +kernel
theorem dX11_proof_29 : decode cX11_proof 29 = .ok (.getfield 50, 3) := by decide +kernel
theorem dX11_proof_32 : decode cX11_proof 32 = .ok (.iload_n 1, 1) := by decide +kernel
theorem dX11_proof_33 : decode cX11_proof 33 = .ok (.iaload, 1) := by decide +kernel
theorem dX11_proof_34 : decode cX11_proof 34 = .ok (.laload, 1) := by decide +kernel
theorem dX11_proof_35 : decode cX11_proof 35 = .ok (.lstore_n 2, 1) := by decide +kernel
theorem dX11_proof_36 : decode cX11_proof 36 = .ok (.lload_n 2, 1) := by decide +kernel
theorem dX11_proof_37 : decode cX11_proof 37 = .ok (.lconst 0, 1) := by decide +kernel
theorem dX11_proof_38 : decode cX11_proof 38 = .ok (.lcmp, 1) := by decide +kernel
theorem dX11_proof_39 : decode cX11_proof 39 = .ok (.ifCond .ne 6, 3) := by decide +kernel
theorem dX11_proof_42 : decode cX11_proof 42 = .ok (.bipush (-2), 2) := by decide +kernel
theorem dX11_proof_44 : decode cX11_proof 44 = .ok (.ireturn, 1) := by decide +kernel
theorem dX11_proof_45 : decode cX11_proof 45 = .ok (.lload_n 2, 1) := by decide +kernel
theorem dX11_proof_46 : decode cX11_proof 46 = .ok (.aload_n 0, 1) := by decide +kernel
theorem dX11_proof_47 : decode cX11_proof 47 = .ok (.getfield 54, 3) := by decide +kernel
theorem dX11_proof_50 : decode cX11_proof 50 = .ok (.iload_n 1, 1) := by decide +kernel
theorem dX11_proof_51 : decode cX11_proof 51 = .ok (.laload, 1) := by decide +kernel
theorem dX11_proof_52 : decode cX11_proof 52 = .ok (.ldc2_w 185, 3) := by decide +kernel
theorem dX11_proof_55 : decode cX11_proof 55 = .ok (.lxor, 1) := by decide +kernel
theorem dX11_proof_56 : decode cX11_proof 56 = .ok (.land, 1) := by decide +kernel
theorem dX11_proof_57 : decode cX11_proof 57 = .ok (.lstore 4, 2) := by decide +kernel
theorem dX11_proof_59 : decode cX11_proof 59 = .ok (.lload 4, 2) := by decide +kernel
theorem dX11_proof_61 : decode cX11_proof 61 = .ok (.lconst 0, 1) := by decide +kernel
theorem dX11_proof_62 : decode cX11_proof 62 = .ok (.lcmp, 1) := by decide +kernel
theorem dX11_proof_63 : decode cX11_proof 63 = .ok (.ifCond .ne 7, 3) := by decide +kernel
theorem dX11_proof_66 : decode cX11_proof 66 = .ok (.iconst (-1), 1) := by decide +kernel
theorem dX11_proof_67 : decode cX11_proof 67 = .ok (.goto 8, 3) := by decide +kernel
theorem dX11_proof_70 : decode cX11_proof 70 = .ok (.lload 4, 2) := by decide +kernel
theorem dX11_proof_72 : decode cX11_proof 72 = .ok (.invokestatic 187, 3) := by decide +kernel
theorem dX11_proof_75 : decode cX11_proof 75 = .ok (.ireturn, 1) := by decide +kernel
theorem dX11_tainted_0 : decode cX11_tainted 0 = .ok (.aload_n 0, 1) := by decide +kernel
theorem dX11_tainted_1 : decode cX11_tainted 1 = .ok (.getfield 21, 3) := by decide +kernel
theorem dX11_tainted_4 : decode cX11_tainted 4 = .ok (.invokevirtual 113, 3) := by decide +kernel
theorem dX11_tainted_7 : decode cX11_tainted 7 = .ok (.aload_n 0, 1) := by decide +kernel
theorem dX11_tainted_8 : decode cX11_tainted 8 = .ok (.getfield 21, 3) := by decide +kernel
theorem dX11_tainted_11 : decode cX11_tainted 11 = .ok (.getfield 191, 3) := by decide +kernel
theorem dX11_tainted_14 : decode cX11_tainted 14 = .ok (.ireturn, 1) := by decide +kernel
theorem dX11_setType_0 : decode cX11_setType 0 = .ok (.iload_n 1, 1) := by decide +kernel
theorem dX11_setType_1 : decode cX11_setType 1 = .ok (.iconst 3, 1) := by decide +kernel
theorem dX11_setType_2 : decode cX11_setType 2 = .ok (.invokestatic 64, 3) := by decide +kernel
theorem dX11_setType_5 : decode cX11_setType 5 = .ok (.invokestatic 68, 3) := by decide +kernel
theorem dX11_setType_8 : decode cX11_setType 8 = .ok (.iload_n 2, 1) := by decide +kernel
theorem dX11_setType_9 : decode cX11_setType 9 = .ok (.iconst 0, 1) := by decide +kernel
theorem dX11_setType_10 : decode cX11_setType 10 = .ok (.bipush 7, 2) := by decide +kernel
theorem dX11_setType_12 : decode cX11_setType 12 = .ok (.invokestatic 126, 3) := by decide +kernel
theorem dX11_setType_15 : decode cX11_setType 15 = .ok (.ifCond .eq 28, 3) := by decide +kernel
theorem dX11_setType_18 : decode cX11_setType 18 = .ok (.iload_n 3, 1) := by decide +kernel
theorem dX11_setType_19 : decode cX11_setType 19 = .ok (.iconst 0, 1) := by decide +kernel
theorem dX11_setType_20 : decode cX11_setType 20 = .ok (.bipush 7, 2) := by decide +kernel
theorem dX11_setType_22 : decode cX11_setType 22 = .ok (.invokestatic 126, 3) := by decide +kernel
theorem dX11_setType_25 : decode cX11_setType 25 = .ok (.ifCond .eq 18, 3) := by decide +kernel
theorem dX11_setType_28 : decode cX11_setType 28 = .ok (.iload 4, 2) := by decide +kernel
theorem dX11_setType_30 : decode cX11_setType 30 = .ok (.iconst 0, 1) := by decide +kernel
theorem dX11_setType_31 : decode cX11_setType 31 = .ok (.bipush 7, 2) := by decide +kernel
theorem dX11_setType_33 : decode cX11_setType 33 = .ok (.invokestatic 126, 3) := by decide +kernel
theorem dX11_setType_36 : decode cX11_setType 36 = .ok (.ifCond .eq 7, 3) := by decide +kernel
theorem dX11_setType_39 : decode cX11_setType 39 = .ok (.iconst 1, 1) := by decide +kernel
theorem dX11_setType_40 : decode cX11_setType 40 = .ok (.goto 4, 3) := by decide +kernel
theorem dX11_setType_43 : decode cX11_setType 43 = .ok (.iconst 0, 1) := by decide +kernel
theorem dX11_setType_44 : decode cX11_setType 44 = .ok (.invokestatic 130, 3) := by decide +kernel
theorem dX11_setType_47 : decode cX11_setType 47 = .ok (.aload_n 0, 1) := by decide +kernel
theorem dX11_setType_48 : decode cX11_setType 48 = .ok (.getfield 28, 3) := by decide +kernel
theorem dX11_setType_51 : decode cX11_setType 51 = .ok (.iload_n 1, 1) := by decide +kernel
theorem dX11_setType_52 : decode cX11_setType 52 = .ok (.invokevirtual 194, 3) := by decide +kernel
theorem dX11_setType_55 : decode cX11_setType 55 = .ok (.ifCond .ne 7, 3) := by decide +kernel
theorem dX11_setType_58 : decode cX11_setType 58 = .ok (.iconst 1, 1) := by decide +kernel
theorem dX11_setType_59 : decode cX11_setType 59 = .ok (.goto 4, 3) := by decide +kernel
theorem dX11_setType_62 : decode cX11_setType 62 = .ok (.iconst 0, 1) := by decide +kernel
theorem dX11_setType_63 : decode cX11_setType 63 = .ok (.invokestatic 88, 3) := by decide +kernel
theorem dX11_setType_66 : decode cX11_setType 66 = .ok (.aload_n 0, 1) := by decide +kernel
theorem dX11_setType_67 : decode cX11_setType 67 = .ok (.getfield 28, 3) := by decide +kernel
theorem dX11_setType_70 : decode cX11_setType 70 = .ok (.getfield 198, 3) := by decide +kernel
theorem dX11_setType_73 : decode cX11_setType 73 = .ok (.iload_n 1, 1) := by decide +kernel
theorem dX11_setType_74 : decode cX11_setType 74 = .ok (.aaload, 1) := by decide +kernel
theorem dX11_setType_75 : decode cX11_setType 75 = .ok (.astore 7, 2) := by decide +kernel
theorem dX11_setType_77 : decode cX11_setType 77 = .ok (.aload 7, 2) := by decide +kernel
theorem dX11_setType_79 : decode cX11_setType 79 = .ok (.getfield 202, 3) := by decide +kernel
theorem dX11_setType_82 : decode cX11_setType 82 = .ok (.iconst 0, 1) := by decide +kernel
theorem dX11_setType_83 : decode cX11_setType 83 = .ok (.iload_n 2, 1) := by decide +kernel
theorem dX11_setType_84 : decode cX11_setType 84 = .ok (.iastore, 1) := by decide +kernel
theorem dX11_setType_85 : decode cX11_setType 85 = .ok (.aload 7, 2) := by decide +kernel
theorem dX11_setType_87 : decode cX11_setType 87 = .ok (.getfield 202, 3) := by decide +kernel
theorem dX11_setType_90 : decode cX11_setType 90 = .ok (.iconst 1, 1) := by decide +kernel
theorem dX11_setType_91 : decode cX11_setType 91 = .ok (.iload_n 3, 1) := by decide +kernel
theorem dX11_setType_92 : decode cX11_setType 92 = .ok (.iastore, 1) := by decide +kernel
theorem dX11_setType_93 : decode cX11_setType 93 = .ok (.aload 7, 2) := by decide +kernel
theorem dX11_setType_95 : decode cX11_setType 95 = .ok (.getfield 202, 3) := by decide +kernel
theorem dX11_setType_98 : decode cX11_setType 98 = .ok (.iconst 2, 1) := by decide +kernel
theorem dX11_setType_99 : decode cX11_setType 99 = .ok (.iload 4, 2) := by decide +kernel
theorem dX11_setType_101 : decode cX11_setType 101 = .ok (.iastore, 1) := by decide +kernel
theorem dX11_setType_102 : decode cX11_setType 102 = .ok (.aload 7, 2) := by decide +kernel
theorem dX11_setType_104 : decode cX11_setType 104 = .ok (.iload 5, 2) := by decide +kernel
theorem dX11_setType_106 : decode cX11_setType 106 = .ok (.putfield 207, 3) := by decide +kernel
theorem dX11_setType_109 : decode cX11_setType 109 = .ok (.aload 7, 2) := by decide +kernel
theorem dX11_setType_111 : decode cX11_setType 111 = .ok (.iload 6, 2) := by decide +kernel
theorem dX11_setType_113 : decode cX11_setType 113 = .ok (.putfield 210, 3) := by decide +kernel
theorem dX11_setType_116 : decode cX11_setType 116 = .ok (.return_, 1) := by decide +kernel
theorem dX11_generator_0 : decode cX11_generator 0 = .ok (.iload_n 1, 1) := by decide +kernel
theorem dX11_generator_1 : decode cX11_generator 1 = .ok (.iconst 3, 1) := by decide +kernel
theorem dX11_generator_2 : decode cX11_generator 2 = .ok (.invokestatic 64, 3) := by decide +kernel
theorem dX11_generator_5 : decode cX11_generator 5 = .ok (.invokestatic 68, 3) := by decide +kernel
theorem dX11_generator_8 : decode cX11_generator 8 = .ok (.aload_n 0, 1) := by decide +kernel
theorem dX11_generator_9 : decode cX11_generator 9 = .ok (.getfield 28, 3) := by decide +kernel
theorem dX11_generator_12 : decode cX11_generator 12 = .ok (.getfield 213, 3) := by decide +kernel
theorem dX11_generator_15 : decode cX11_generator 15 = .ok (.iconst 4, 1) := by decide +kernel
theorem dX11_generator_16 : decode cX11_generator 16 = .ok (.if_icmp .ge 7, 3) := by decide +kernel
theorem dX11_generator_19 : decode cX11_generator 19 = .ok (.iconst 1, 1) := by decide +kernel
theorem dX11_generator_20 : decode cX11_generator 20 = .ok (.goto 4, 3) := by decide +kernel
theorem dX11_generator_23 : decode cX11_generator 23 = .ok (.iconst 0, 1) := by decide +kernel
theorem dX11_generator_24 : decode cX11_generator 24 = .ok (.invokestatic 88, 3) := by decide +kernel
theorem dX11_generator_27 : decode cX11_generator 27 = .ok (.aload_n 0, 1) := by decide +kernel
theorem dX11_generator_28 : decode cX11_generator 28 = .ok (.getfield 28, 3) := by decide +kernel
theorem dX11_generator_31 : decode cX11_generator 31 = .ok (.iload_n 1, 1) := by decide +kernel
theorem dX11_generator_32 : decode cX11_generator 32 = .ok (.invokevirtual 216, 3) := by decide +kernel
theorem dX11_generator_35 : decode cX11_generator 35 = .ok (.ireturn, 1) := by decide +kernel
theorem dX11_key_0 : decode cX11_key 0 = .ok (.iload_n 1, 1) := by decide +kernel
theorem dX11_key_1 : decode cX11_key 1 = .ok (.aload_n 0, 1) := by decide +kernel
theorem dX11_key_2 : decode cX11_key 2 = .ok (.getfield 28, 3) := by decide +kernel
theorem dX11_key_5 : decode cX11_key 5 = .ok (.getfield 213, 3) := by decide +kernel
theorem dX11_key_8 : decode cX11_key 8 = .ok (.invokestatic 64, 3) := by decide +kernel
theorem dX11_key_11 : decode cX11_key 11 = .ok (.invokestatic 68, 3) := by decide +kernel
theorem dX11_key_14 : decode cX11_key 14 = .ok (.aload_n 0, 1) := by decide +kernel
theorem dX11_key_15 : decode cX11_key 15 = .ok (.getfield 28, 3) := by decide +kernel
theorem dX11_key_18 : decode cX11_key 18 = .ok (.getfield 219, 3) := by decide +kernel
theorem dX11_key_21 : decode cX11_key 21 = .ok (.iload_n 1, 1) := by decide +kernel
theorem dX11_key_22 : decode cX11_key 22 = .ok (.aaload, 1) := by decide +kernel
theorem dX11_key_23 : decode cX11_key 23 = .ok (.astore 4, 2) := by decide +kernel
theorem dX11_key_25 : decode cX11_key 25 = .ok (.iload_n 2, 1) := by decide +kernel
theorem dX11_key_26 : decode cX11_key 26 = .ok (.iconst 0, 1) := by decide +kernel
theorem dX11_key_27 : decode cX11_key 27 = .ok (.aload 4, 2) := by decide +kernel
theorem dX11_key_29 : decode cX11_key 29 = .ok (.getfield 223, 3) := by decide +kernel
theorem dX11_key_32 : decode cX11_key 32 = .ok (.invokestatic 126, 3) := by decide +kernel
theorem dX11_key_35 : decode cX11_key 35 = .ok (.invokestatic 68, 3) := by decide +kernel
theorem dX11_key_38 : decode cX11_key 38 = .ok (.iload_n 3, 1) := by decide +kernel
theorem dX11_key_39 : decode cX11_key 39 = .ok (.bipush 16, 2) := by decide +kernel
theorem dX11_key_41 : decode cX11_key 41 = .ok (.invokestatic 64, 3) := by decide +kernel
theorem dX11_key_44 : decode cX11_key 44 = .ok (.invokestatic 130, 3) := by decide +kernel
theorem dX11_key_47 : decode cX11_key 47 = .ok (.aload 4, 2) := by decide +kernel
theorem dX11_key_49 : decode cX11_key 49 = .ok (.iload_n 3, 1) := by decide +kernel
theorem dX11_key_50 : decode cX11_key 50 = .ok (.invokevirtual 228, 3) := by decide +kernel
theorem dX11_key_53 : decode cX11_key 53 = .ok (.ifCond .ne 17, 3) := by decide +kernel
theorem dX11_key_56 : decode cX11_key 56 = .ok (.aload 4, 2) := by decide +kernel
theorem dX11_key_58 : decode cX11_key 58 = .ok (.getfield 223, 3) := by decide +kernel
theorem dX11_key_61 : decode cX11_key 61 = .ok (.bipush 8, 2) := by decide +kernel
theorem dX11_key_63 : decode cX11_key 63 = .ok (.if_icmp .ge 7, 3) := by decide +kernel
theorem dX11_key_66 : decode cX11_key 66 = .ok (.iconst 1, 1) := by decide +kernel
theorem dX11_key_67 : decode cX11_key 67 = .ok (.goto 4, 3) := by decide +kernel
theorem dX11_key_70 : decode cX11_key 70 = .ok (.iconst 0, 1) := by decide +kernel
theorem dX11_key_71 : decode cX11_key 71 = .ok (.invokestatic 88, 3) := by decide +kernel
theorem dX11_key_74 : decode cX11_key 74 = .ok (.aload 4, 2) := by decide +kernel
theorem dX11_key_76 : decode cX11_key 76 = .ok (.iload_n 2, 1) := by decide +kernel
theorem dX11_key_77 : decode cX11_key 77 = .ok (.iload_n 3, 1) := by decide +kernel
theorem dX11_key_78 : decode cX11_key 78 = .ok (.invokevirtual 231, 3) := by decide +kernel
theorem dX11_key_81 : decode cX11_key 81 = .ok (.aload 4, 2) := by decide +kernel
theorem dX11_key_83 : decode cX11_key 83 = .ok (.getfield 223, 3) := by decide +kernel
theorem dX11_key_86 : decode cX11_key 86 = .ok (.ireturn, 1) := by decide +kernel
theorem dX11_unkey_0 : decode cX11_unkey 0 = .ok (.iload_n 1, 1) := by decide +kernel
theorem dX11_unkey_1 : decode cX11_unkey 1 = .ok (.aload_n 0, 1) := by decide +kernel
theorem dX11_unkey_2 : decode cX11_unkey 2 = .ok (.getfield 28, 3) := by decide +kernel
theorem dX11_unkey_5 : decode cX11_unkey 5 = .ok (.getfield 213, 3) := by decide +kernel
theorem dX11_unkey_8 : decode cX11_unkey 8 = .ok (.invokestatic 64, 3) := by decide +kernel
theorem dX11_unkey_11 : decode cX11_unkey 11 = .ok (.invokestatic 68, 3) := by decide +kernel
theorem dX11_unkey_14 : decode cX11_unkey 14 = .ok (.aload_n 0, 1) := by decide +kernel
theorem dX11_unkey_15 : decode cX11_unkey 15 = .ok (.getfield 28, 3) := by decide +kernel
theorem dX11_unkey_18 : decode cX11_unkey 18 = .ok (.getfield 219, 3) := by decide +kernel
theorem dX11_unkey_21 : decode cX11_unkey 21 = .ok (.iload_n 1, 1) := by decide +kernel
theorem dX11_unkey_22 : decode cX11_unkey 22 = .ok (.aaload, 1) := by decide +kernel
theorem dX11_unkey_23 : decode cX11_unkey 23 = .ok (.astore_n 3, 1) := by decide +kernel
theorem dX11_unkey_24 : decode cX11_unkey 24 = .ok (.iload_n 2, 1) := by decide +kernel
theorem dX11_unkey_25 : decode cX11_unkey 25 = .ok (.aload_n 3, 1) := by decide +kernel
theorem dX11_unkey_26 : decode cX11_unkey 26 = .ok (.getfield 223, 3) := by decide +kernel
theorem dX11_unkey_29 : decode cX11_unkey 29 = .ok (.invokestatic 64, 3) := by decide +kernel
theorem dX11_unkey_32 : decode cX11_unkey 32 = .ok (.invokestatic 68, 3) := by decide +kernel
theorem dX11_unkey_35 : decode cX11_unkey 35 = .ok (.aload_n 3, 1) := by decide +kernel
theorem dX11_unkey_36 : decode cX11_unkey 36 = .ok (.iload_n 2, 1) := by decide +kernel
theorem dX11_unkey_37 : decode cX11_unkey 37 = .ok (.invokevirtual 235, 3) := by decide +kernel
theorem dX11_unkey_40 : decode cX11_unkey 40 = .ok (.ireturn, 1) := by decide +kernel
theorem dX11_bind_0 : decode cX11_bind 0 = .ok (.iload_n 1, 1) := by decide +kernel
theorem dX11_bind_1 : decode cX11_bind 1 = .ok (.aload_n 0, 1) := by decide +kernel
theorem dX11_bind_2 : decode cX11_bind 2 = .ok (.getfield 28, 3) := by decide +kernel
theorem dX11_bind_5 : decode cX11_bind 5 = .ok (.getfield 213, 3) := by decide +kernel
theorem dX11_bind_8 : decode cX11_bind 8 = .ok (.invokestatic 64, 3) := by decide +kernel
theorem dX11_bind_11 : decode cX11_bind 11 = .ok (.ifCond .eq 15, 3) := by decide +kernel
theorem dX11_bind_14 : decode cX11_bind 14 = .ok (.iload_n 2, 1) := by decide +kernel
theorem dX11_bind_15 : decode cX11_bind 15 = .ok (.iconst 3, 1) := by decide +kernel
theorem dX11_bind_16 : decode cX11_bind 16 = .ok (.invokestatic 64, 3) := by decide +kernel
theorem dX11_bind_19 : decode cX11_bind 19 = .ok (.ifCond .eq 7, 3) := by decide +kernel
theorem dX11_bind_22 : decode cX11_bind 22 = .ok (.iconst 1, 1) := by decide +kernel
theorem dX11_bind_23 : decode cX11_bind 23 = .ok (.goto 4, 3) := by decide +kernel
theorem dX11_bind_26 : decode cX11_bind 26 = .ok (.iconst 0, 1) := by decide +kernel
theorem dX11_bind_27 : decode cX11_bind 27 = .ok (.invokestatic 68, 3) := by decide +kernel
theorem dX11_bind_30 : decode cX11_bind 30 = .ok (.iload_n 3, 1) := by decide +kernel
theorem dX11_bind_31 : decode cX11_bind 31 = .ok (.iconst (-1), 1) := by decide +kernel
theorem dX11_bind_32 : decode cX11_bind 32 = .ok (.bipush 10, 2) := by decide +kernel
theorem dX11_bind_34 : decode cX11_bind 34 = .ok (.iconst 3, 1) := by decide +kernel
theorem dX11_bind_35 : decode cX11_bind 35 = .ok (.iload_n 1, 1) := by decide +kernel
theorem dX11_bind_36 : decode cX11_bind 36 = .ok (.imul, 1) := by decide +kernel
theorem dX11_bind_37 : decode cX11_bind 37 = .ok (.iadd, 1) := by decide +kernel
theorem dX11_bind_38 : decode cX11_bind 38 = .ok (.iconst 1, 1) := by decide +kernel
theorem dX11_bind_39 : decode cX11_bind 39 = .ok (.isub, 1) := by decide +kernel
theorem dX11_bind_40 : decode cX11_bind 40 = .ok (.invokestatic 126, 3) := by decide +kernel
theorem dX11_bind_43 : decode cX11_bind 43 = .ok (.invokestatic 68, 3) := by decide +kernel
theorem dX11_bind_46 : decode cX11_bind 46 = .ok (.aload_n 0, 1) := by decide +kernel
theorem dX11_bind_47 : decode cX11_bind 47 = .ok (.getfield 28, 3) := by decide +kernel
theorem dX11_bind_50 : decode cX11_bind 50 = .ok (.iload_n 1, 1) := by decide +kernel
theorem dX11_bind_51 : decode cX11_bind 51 = .ok (.invokevirtual 238, 3) := by decide +kernel
theorem dX11_bind_54 : decode cX11_bind 54 = .ok (.iload_n 2, 1) := by decide +kernel
theorem dX11_bind_55 : decode cX11_bind 55 = .ok (.iconst 2, 1) := by decide +kernel
theorem dX11_bind_56 : decode cX11_bind 56 = .ok (.invokevirtual 242, 3) := by decide +kernel
theorem dX11_bind_59 : decode cX11_bind 59 = .ok (.ifCond .ne 7, 3) := by decide +kernel
theorem dX11_bind_62 : decode cX11_bind 62 = .ok (.iconst 1, 1) := by decide +kernel
theorem dX11_bind_63 : decode cX11_bind 63 = .ok (.goto 4, 3) := by decide +kernel
theorem dX11_bind_66 : decode cX11_bind 66 = .ok (.iconst 0, 1) := by decide +kernel
theorem dX11_bind_67 : decode cX11_bind 67 = .ok (.invokestatic 88, 3) := by decide +kernel
theorem dX11_bind_70 : decode cX11_bind 70 = .ok (.iload_n 3, 1) := by decide +kernel
theorem dX11_bind_71 : decode cX11_bind 71 = .ok (.bipush 10, 2) := by decide +kernel
theorem dX11_bind_73 : decode cX11_bind 73 = .ok (.if_icmp .lt 14, 3) := by decide +kernel
theorem dX11_bind_76 : decode cX11_bind 76 = .ok (.aload_n 0, 1) := by decide +kernel
theorem dX11_bind_77 : decode cX11_bind 77 = .ok (.getfield 28, 3) := by decide +kernel
theorem dX11_bind_80 : decode cX11_bind 80 = .ok (.iload_n 3, 1) := by decide +kernel
theorem dX11_bind_81 : decode cX11_bind 81 = .ok (.invokevirtual 245, 3) := by decide +kernel
theorem dX11_bind_84 : decode cX11_bind 84 = .ok (.ifCond .eq 7, 3) := by decide +kernel
theorem dX11_bind_87 : decode cX11_bind 87 = .ok (.iconst 1, 1) := by decide +kernel
theorem dX11_bind_88 : decode cX11_bind 88 = .ok (.goto 4, 3) := by decide +kernel
theorem dX11_bind_91 : decode cX11_bind 91 = .ok (.iconst 0, 1) := by decide +kernel
theorem dX11_bind_92 : decode cX11_bind 92 = .ok (.invokestatic 88, 3) := by decide +kernel
theorem dX11_bind_95 : decode cX11_bind 95 = .ok (.aload_n 0, 1) := by decide +kernel
theorem dX11_bind_96 : decode cX11_bind 96 = .ok (.getfield 28, 3) := by decide +kernel
theorem dX11_bind_99 : decode cX11_bind 99 = .ok (.getfield 219, 3) := by decide +kernel
theorem dX11_bind_102 : decode cX11_bind 102 = .ok (.iload_n 1, 1) := by decide +kernel
theorem dX11_bind_103 : decode cX11_bind 103 = .ok (.aaload, 1) := by decide +kernel
theorem dX11_bind_104 : decode cX11_bind 104 = .ok (.astore 4, 2) := by decide +kernel
theorem dX11_bind_106 : decode cX11_bind 106 = .ok (.aload 4, 2) := by decide +kernel
theorem dX11_bind_108 : decode cX11_bind 108 = .ok (.getfield 248, 3) := by decide +kernel
theorem dX11_bind_111 : decode cX11_bind 111 = .ok (.iload_n 2, 1) := by decide +kernel
theorem dX11_bind_112 : decode cX11_bind 112 = .ok (.iaload, 1) := by decide +kernel
theorem dX11_bind_113 : decode cX11_bind 113 = .ok (.istore 5, 2) := by decide +kernel
theorem dX11_bind_115 : decode cX11_bind 115 = .ok (.aload 4, 2) := by decide +kernel
theorem dX11_bind_117 : decode cX11_bind 117 = .ok (.getfield 248, 3) := by decide +kernel
theorem dX11_bind_120 : decode cX11_bind 120 = .ok (.iload_n 2, 1) := by decide +kernel
theorem dX11_bind_121 : decode cX11_bind 121 = .ok (.iload_n 3, 1) := by decide +kernel
theorem dX11_bind_122 : decode cX11_bind 122 = .ok (.iastore, 1) := by decide +kernel
theorem dX11_bind_123 : decode cX11_bind 123 = .ok (.iload 5, 2) := by decide +kernel
theorem dX11_bind_125 : decode cX11_bind 125 = .ok (.ireturn, 1) := by decide +kernel
theorem dX11_upgrade_0 : decode cX11_upgrade 0 = .ok (.iload_n 1, 1) := by decide +kernel
theorem dX11_upgrade_1 : decode cX11_upgrade 1 = .ok (.iconst 3, 1) := by decide +kernel
theorem dX11_upgrade_2 : decode cX11_upgrade 2 = .ok (.invokestatic 64, 3) := by decide +kernel
theorem dX11_upgrade_5 : decode cX11_upgrade 5 = .ok (.invokestatic 68, 3) := by decide +kernel
theorem dX11_upgrade_8 : decode cX11_upgrade 8 = .ok (.aload_n 0, 1) := by decide +kernel
theorem dX11_upgrade_9 : decode cX11_upgrade 9 = .ok (.getfield 28, 3) := by decide +kernel
theorem dX11_upgrade_12 : decode cX11_upgrade 12 = .ok (.getfield 198, 3) := by decide +kernel
theorem dX11_upgrade_15 : decode cX11_upgrade 15 = .ok (.iload_n 1, 1) := by decide +kernel
theorem dX11_upgrade_16 : decode cX11_upgrade 16 = .ok (.aaload, 1) := by decide +kernel
theorem dX11_upgrade_17 : decode cX11_upgrade 17 = .ok (.getfield 251, 3) := by decide +kernel
theorem dX11_upgrade_20 : decode cX11_upgrade 20 = .ok (.iconst 2, 1) := by decide +kernel
theorem dX11_upgrade_21 : decode cX11_upgrade 21 = .ok (.if_icmp .ge 17, 3) := by decide +kernel
theorem dX11_upgrade_24 : decode cX11_upgrade 24 = .ok (.aload_n 0, 1) := by decide +kernel
theorem dX11_upgrade_25 : decode cX11_upgrade 25 = .ok (.getfield 46, 3) := by decide +kernel
theorem dX11_upgrade_28 : decode cX11_upgrade 28 = .ok (.getfield 254, 3) := by decide +kernel
theorem dX11_upgrade_31 : decode cX11_upgrade 31 = .ok (.ifCond .ne 7, 3) := by decide +kernel
theorem dX11_upgrade_34 : decode cX11_upgrade 34 = .ok (.iconst 1, 1) := by decide +kernel
theorem dX11_upgrade_35 : decode cX11_upgrade 35 = .ok (.goto 4, 3) := by decide +kernel
theorem dX11_upgrade_38 : decode cX11_upgrade 38 = .ok (.iconst 0, 1) := by decide +kernel
theorem dX11_upgrade_39 : decode cX11_upgrade 39 = .ok (.invokestatic 88, 3) := by decide +kernel
theorem dX11_upgrade_42 : decode cX11_upgrade 42 = .ok (.aload_n 0, 1) := by decide +kernel
theorem dX11_upgrade_43 : decode cX11_upgrade 43 = .ok (.getfield 28, 3) := by decide +kernel
theorem dX11_upgrade_46 : decode cX11_upgrade 46 = .ok (.iload_n 1, 1) := by decide +kernel
theorem dX11_upgrade_47 : decode cX11_upgrade 47 = .ok (.invokevirtual 257, 3) := by decide +kernel
theorem dX11_upgrade_50 : decode cX11_upgrade 50 = .ok (.aload_n 0, 1) := by decide +kernel
theorem dX11_upgrade_51 : decode cX11_upgrade 51 = .ok (.getfield 28, 3) := by decide +kernel
theorem dX11_upgrade_54 : decode cX11_upgrade 54 = .ok (.getfield 198, 3) := by decide +kernel
theorem dX11_upgrade_57 : decode cX11_upgrade 57 = .ok (.iload_n 1, 1) := by decide +kernel
theorem dX11_upgrade_58 : decode cX11_upgrade 58 = .ok (.aaload, 1) := by decide +kernel
theorem dX11_upgrade_59 : decode cX11_upgrade 59 = .ok (.getfield 251, 3) := by decide +kernel
theorem dX11_upgrade_62 : decode cX11_upgrade 62 = .ok (.ireturn, 1) := by decide +kernel
theorem dX11_given_0 : decode cX11_given 0 = .ok (.aload_n 0, 1) := by decide +kernel
theorem dX11_given_1 : decode cX11_given 1 = .ok (.getfield 28, 3) := by decide +kernel
theorem dX11_given_4 : decode cX11_given 4 = .ok (.iload_n 1, 1) := by decide +kernel
theorem dX11_given_5 : decode cX11_given 5 = .ok (.invokevirtual 260, 3) := by decide +kernel
theorem dX11_given_8 : decode cX11_given 8 = .ok (.ifCond .eq 15, 3) := by decide +kernel
theorem dX11_given_11 : decode cX11_given 11 = .ok (.iload_n 2, 1) := by decide +kernel
theorem dX11_given_12 : decode cX11_given 12 = .ok (.iconst 3, 1) := by decide +kernel
theorem dX11_given_13 : decode cX11_given 13 = .ok (.invokestatic 64, 3) := by decide +kernel
theorem dX11_given_16 : decode cX11_given 16 = .ok (.ifCond .eq 7, 3) := by decide +kernel
theorem dX11_given_19 : decode cX11_given 19 = .ok (.iconst 1, 1) := by decide +kernel
theorem dX11_given_20 : decode cX11_given 20 = .ok (.goto 4, 3) := by decide +kernel
theorem dX11_given_23 : decode cX11_given 23 = .ok (.iconst 0, 1) := by decide +kernel
theorem dX11_given_24 : decode cX11_given 24 = .ok (.invokestatic 68, 3) := by decide +kernel
theorem dX11_given_27 : decode cX11_given 27 = .ok (.aload_n 0, 1) := by decide +kernel
theorem dX11_given_28 : decode cX11_given 28 = .ok (.getfield 21, 3) := by decide +kernel
theorem dX11_given_31 : decode cX11_given 31 = .ok (.invokevirtual 113, 3) := by decide +kernel
theorem dX11_given_34 : decode cX11_given 34 = .ok (.aload_n 0, 1) := by decide +kernel
theorem dX11_given_35 : decode cX11_given 35 = .ok (.getfield 37, 3) := by decide +kernel
theorem dX11_given_38 : decode cX11_given 38 = .ok (.invokevirtual 263, 3) := by decide +kernel
theorem dX11_given_41 : decode cX11_given 41 = .ok (.aload_n 0, 1) := by decide +kernel
theorem dX11_given_42 : decode cX11_given 42 = .ok (.getfield 37, 3) := by decide +kernel
theorem dX11_given_45 : decode cX11_given 45 = .ok (.getfield 266, 3) := by decide +kernel
theorem dX11_given_48 : decode cX11_given 48 = .ok (.iload_n 1, 1) := by decide +kernel
theorem dX11_given_49 : decode cX11_given 49 = .ok (.iconst 3, 1) := by decide +kernel
theorem dX11_given_50 : decode cX11_given 50 = .ok (.imul, 1) := by decide +kernel
theorem dX11_given_51 : decode cX11_given 51 = .ok (.iload_n 2, 1) := by decide +kernel
theorem dX11_given_52 : decode cX11_given 52 = .ok (.iadd, 1) := by decide +kernel
theorem dX11_given_53 : decode cX11_given 53 = .ok (.iaload, 1) := by decide +kernel
theorem dX11_given_54 : decode cX11_given 54 = .ok (.ireturn, 1) := by decide +kernel
theorem dX11_pending_0 : decode cX11_pending 0 = .ok (.aload_n 0, 1) := by decide +kernel
theorem dX11_pending_1 : decode cX11_pending 1 = .ok (.getfield 21, 3) := by decide +kernel
theorem dX11_pending_4 : decode cX11_pending 4 = .ok (.invokevirtual 113, 3) := by decide +kernel
theorem dX11_pending_7 : decode cX11_pending 7 = .ok (.aload_n 0, 1) := by decide +kernel
theorem dX11_pending_8 : decode cX11_pending 8 = .ok (.getfield 37, 3) := by decide +kernel
theorem dX11_pending_11 : decode cX11_pending 11 = .ok (.invokevirtual 269, 3) := by decide +kernel
theorem dX11_pending_14 : decode cX11_pending 14 = .ok (.ireturn, 1) := by decide +kernel
theorem dX11_differing_0 : decode cX11_differing 0 = .ok (.aload_n 0, 1) := by decide +kernel
theorem dX11_differing_1 : decode cX11_differing 1 = .ok (.getfield 21, 3) := by decide +kernel
theorem dX11_differing_4 : decode cX11_differing 4 = .ok (.invokevirtual 113, 3) := by decide +kernel
theorem dX11_differing_7 : decode cX11_differing 7 = .ok (.aload_n 0, 1) := by decide +kernel
theorem dX11_differing_8 : decode cX11_differing 8 = .ok (.getfield 37, 3) := by decide +kernel
theorem dX11_differing_11 : decode cX11_differing 11 = .ok (.invokevirtual 272, 3) := by decide +kernel
theorem dX11_differing_14 : decode cX11_differing 14 = .ok (.ireturn, 1) := by decide +kernel
theorem dX11_plan_0 : decode cX11_plan 0 = .ok (.iload_n 1, 1) := by decide +kernel
theorem dX11_plan_1 : decode cX11_plan 1 = .ok (.iconst 3, 1) := by decide +kernel
theorem dX11_plan_2 : decode cX11_plan 2 = .ok (.invokestatic 64, 3) := by decide +kernel
theorem dX11_plan_5 : decode cX11_plan 5 = .ok (.invokestatic 68, 3) := by decide +kernel
theorem dX11_plan_8 : decode cX11_plan 8 = .ok (.aload_n 0, 1) := by decide +kernel
theorem dX11_plan_9 : decode cX11_plan 9 = .ok (.getfield 275, 3) := by decide +kernel
theorem dX11_plan_12 : decode cX11_plan 12 = .ok (.bipush 40, 2) := by decide +kernel
theorem dX11_plan_14 : decode cX11_plan 14 = .ok (.if_icmp .ge 7, 3) := by decide +kernel
theorem dX11_plan_17 : decode cX11_plan 17 = .ok (.iconst 1, 1) := by decide +kernel
theorem dX11_plan_18 : decode cX11_plan 18 = .ok (.goto 4, 3) := by decide +kernel
theorem dX11_plan_21 : decode cX11_plan 21 = .ok (.iconst 0, 1) := by decide +kernel
theorem dX11_plan_22 : decode cX11_plan 22 = .ok (.invokestatic 88, 3) := by decide +kernel
theorem dX11_plan_25 : decode cX11_plan 25 = .ok (.aload_n 0, 1) := by decide +kernel
theorem dX11_plan_26 : decode cX11_plan 26 = .ok (.getfield 21, 3) := by decide +kernel
theorem dX11_plan_29 : decode cX11_plan 29 = .ok (.invokevirtual 113, 3) := by decide +kernel
theorem dX11_plan_32 : decode cX11_plan 32 = .ok (.aload_n 0, 1) := by decide +kernel
theorem dX11_plan_33 : decode cX11_plan 33 = .ok (.getfield 37, 3) := by decide +kernel
theorem dX11_plan_36 : decode cX11_plan 36 = .ok (.invokevirtual 269, 3) := by decide +kernel
theorem dX11_plan_39 : decode cX11_plan 39 = .ok (.istore_n 2, 1) := by decide +kernel
theorem dX11_plan_40 : decode cX11_plan 40 = .ok (.iload_n 2, 1) := by decide +kernel
theorem dX11_plan_41 : decode cX11_plan 41 = .ok (.iconst (-1), 1) := by decide +kernel
theorem dX11_plan_42 : decode cX11_plan 42 = .ok (.if_icmp .eq 7, 3) := by decide +kernel
theorem dX11_plan_45 : decode cX11_plan 45 = .ok (.iconst 1, 1) := by decide +kernel
theorem dX11_plan_46 : decode cX11_plan 46 = .ok (.goto 4, 3) := by decide +kernel
theorem dX11_plan_49 : decode cX11_plan 49 = .ok (.iconst 0, 1) := by decide +kernel
theorem dX11_plan_50 : decode cX11_plan 50 = .ok (.invokestatic 88, 3) := by decide +kernel
theorem dX11_plan_53 : decode cX11_plan 53 = .ok (.aload_n 0, 1) := by decide +kernel
theorem dX11_plan_54 : decode cX11_plan 54 = .ok (.getfield 60, 3) := by decide +kernel
theorem dX11_plan_57 : decode cX11_plan 57 = .ok (.aload_n 0, 1) := by decide +kernel
theorem dX11_plan_58 : decode cX11_plan 58 = .ok (.getfield 275, 3) := by decide +kernel
theorem dX11_plan_61 : decode cX11_plan 61 = .ok (.new 58, 3) := by decide +kernel
theorem dX11_plan_64 : decode cX11_plan 64 = .ok (.dup, 1) := by decide +kernel
theorem dX11_plan_65 : decode cX11_plan 65 = .ok (.iload_n 1, 1) := by decide +kernel
theorem dX11_plan_66 : decode cX11_plan 66 = .ok (.aload_n 0, 1) := by decide +kernel
theorem dX11_plan_67 : decode cX11_plan 67 = .ok (.getfield 28, 3) := by decide +kernel
theorem dX11_plan_70 : decode cX11_plan 70 = .ok (.getfield 278, 3) := by decide +kernel
theorem dX11_plan_73 : decode cX11_plan 73 = .ok (.aload_n 0, 1) := by decide +kernel
theorem dX11_plan_74 : decode cX11_plan 74 = .ok (.getfield 37, 3) := by decide +kernel
theorem dX11_plan_77 : decode cX11_plan 77 = .ok (.getfield 281, 3) := by decide +kernel
theorem dX11_plan_80 : decode cX11_plan 80 = .ok (.iload_n 2, 1) := by decide +kernel
theorem dX11_plan_81 : decode cX11_plan 81 = .ok (.invokestatic 284, 3) := by decide +kernel
theorem dX11_plan_84 : decode cX11_plan 84 = .ok (.invokespecial 290, 3) := by decide +kernel
theorem dX11_plan_87 : decode cX11_plan 87 = .ok (.aastore, 1) := by decide +kernel
theorem dX11_plan_88 : decode cX11_plan 88 = .ok (.aload_n 0, 1) := by decide +kernel
theorem dX11_plan_89 : decode cX11_plan 89 = .ok (.dup, 1) := by decide +kernel
theorem dX11_plan_90 : decode cX11_plan 90 = .ok (.getfield 275, 3) := by decide +kernel
theorem dX11_plan_93 : decode cX11_plan 93 = .ok (.iconst 1, 1) := by decide +kernel
theorem dX11_plan_94 : decode cX11_plan 94 = .ok (.iadd, 1) := by decide +kernel
theorem dX11_plan_95 : decode cX11_plan 95 = .ok (.putfield 275, 3) := by decide +kernel
theorem dX11_plan_98 : decode cX11_plan 98 = .ok (.aload_n 0, 1) := by decide +kernel
theorem dX11_plan_99 : decode cX11_plan 99 = .ok (.getfield 275, 3) := by decide +kernel
theorem dX11_plan_102 : decode cX11_plan 102 = .ok (.iconst 1, 1) := by decide +kernel
theorem dX11_plan_103 : decode cX11_plan 103 = .ok (.isub, 1) := by decide +kernel
theorem dX11_plan_104 : decode cX11_plan 104 = .ok (.ireturn, 1) := by decide +kernel
theorem dX11_action_0 : decode cX11_action 0 = .ok (.iload_n 1, 1) := by decide +kernel
theorem dX11_action_1 : decode cX11_action 1 = .ok (.aload_n 0, 1) := by decide +kernel
theorem dX11_action_2 : decode cX11_action 2 = .ok (.getfield 275, 3) := by decide +kernel
theorem dX11_action_5 : decode cX11_action 5 = .ok (.invokestatic 64, 3) := by decide +kernel
theorem dX11_action_8 : decode cX11_action 8 = .ok (.invokestatic 68, 3) := by decide +kernel
theorem dX11_action_11 : decode cX11_action 11 = .ok (.iload_n 2, 1) := by decide +kernel
theorem dX11_action_12 : decode cX11_action 12 = .ok (.aload_n 0, 1) := by decide +kernel
theorem dX11_action_13 : decode cX11_action 13 = .ok (.getfield 60, 3) := by decide +kernel
theorem dX11_action_16 : decode cX11_action 16 = .ok (.iload_n 1, 1) := by decide +kernel
theorem dX11_action_17 : decode cX11_action 17 = .ok (.aaload, 1) := by decide +kernel
theorem dX11_action_18 : decode cX11_action 18 = .ok (.getfield 293, 3) := by decide +kernel
theorem dX11_action_21 : decode cX11_action 21 = .ok (.arraylength, 1) := by decide +kernel
theorem dX11_action_22 : decode cX11_action 22 = .ok (.invokestatic 64, 3) := by decide +kernel
theorem dX11_action_25 : decode cX11_action 25 = .ok (.invokestatic 68, 3) := by decide +kernel
theorem dX11_action_28 : decode cX11_action 28 = .ok (.aload_n 0, 1) := by decide +kernel
theorem dX11_action_29 : decode cX11_action 29 = .ok (.getfield 60, 3) := by decide +kernel
theorem dX11_action_32 : decode cX11_action 32 = .ok (.iload_n 1, 1) := by decide +kernel
theorem dX11_action_33 : decode cX11_action 33 = .ok (.aaload, 1) := by decide +kernel
theorem dX11_action_34 : decode cX11_action 34 = .ok (.getfield 293, 3) := by decide +kernel
theorem dX11_action_37 : decode cX11_action 37 = .ok (.iload_n 2, 1) := by decide +kernel
theorem dX11_action_38 : decode cX11_action 38 = .ok (.iaload, 1) := by decide +kernel
theorem dX11_action_39 : decode cX11_action 39 = .ok (.ireturn, 1) := by decide +kernel
theorem dX11_approve_0 : decode cX11_approve 0 = .ok (.iload_n 1, 1) := by decide +kernel
theorem dX11_approve_1 : decode cX11_approve 1 = .ok (.aload_n 0, 1) := by decide +kernel
theorem dX11_approve_2 : decode cX11_approve 2 = .ok (.getfield 275, 3) := by decide +kernel
theorem dX11_approve_5 : decode cX11_approve 5 = .ok (.invokestatic 64, 3) := by decide +kernel
theorem dX11_approve_8 : decode cX11_approve 8 = .ok (.ifCond .eq 15, 3) := by decide +kernel
theorem dX11_approve_11 : decode cX11_approve 11 = .ok (.iload_n 2, 1) := by decide +kernel
theorem dX11_approve_12 : decode cX11_approve 12 = .ok (.iconst 3, 1) := by decide +kernel
theorem dX11_approve_13 : decode cX11_approve 13 = .ok (.invokestatic 64, 3) := by decide +kernel
theorem dX11_approve_16 : decode cX11_approve 16 = .ok (.ifCond .eq 7, 3) := by decide +kernel
theorem dX11_approve_19 : decode cX11_approve 19 = .ok (.iconst 1, 1) := by decide +kernel
theorem dX11_approve_20 : decode cX11_approve 20 = .ok (.goto 4, 3) := by decide +kernel
theorem dX11_approve_23 : decode cX11_approve 23 = .ok (.iconst 0, 1) := by decide +kernel
theorem dX11_approve_24 : decode cX11_approve 24 = .ok (.invokestatic 68, 3) := by decide +kernel
theorem dX11_approve_27 : decode cX11_approve 27 = .ok (.aload_n 0, 1) := by decide +kernel
theorem dX11_approve_28 : decode cX11_approve 28 = .ok (.getfield 60, 3) := by decide +kernel
theorem dX11_approve_31 : decode cX11_approve 31 = .ok (.iload_n 1, 1) := by decide +kernel
theorem dX11_approve_32 : decode cX11_approve 32 = .ok (.aaload, 1) := by decide +kernel
theorem dX11_approve_33 : decode cX11_approve 33 = .ok (.getfield 294, 3) := by decide +kernel
theorem dX11_approve_36 : decode cX11_approve 36 = .ok (.iload_n 2, 1) := by decide +kernel
theorem dX11_approve_37 : decode cX11_approve 37 = .ok (.if_icmp .eq 7, 3) := by decide +kernel
theorem dX11_approve_40 : decode cX11_approve 40 = .ok (.iconst 1, 1) := by decide +kernel
theorem dX11_approve_41 : decode cX11_approve 41 = .ok (.goto 4, 3) := by decide +kernel
theorem dX11_approve_44 : decode cX11_approve 44 = .ok (.iconst 0, 1) := by decide +kernel
theorem dX11_approve_45 : decode cX11_approve 45 = .ok (.invokestatic 88, 3) := by decide +kernel
theorem dX11_approve_48 : decode cX11_approve 48 = .ok (.aload_n 0, 1) := by decide +kernel
theorem dX11_approve_49 : decode cX11_approve 49 = .ok (.getfield 60, 3) := by decide +kernel
theorem dX11_approve_52 : decode cX11_approve 52 = .ok (.iload_n 1, 1) := by decide +kernel
theorem dX11_approve_53 : decode cX11_approve 53 = .ok (.aaload, 1) := by decide +kernel
theorem dX11_approve_54 : decode cX11_approve 54 = .ok (.getfield 297, 3) := by decide +kernel
theorem dX11_approve_57 : decode cX11_approve 57 = .ok (.ifCond .ne 7, 3) := by decide +kernel
theorem dX11_approve_60 : decode cX11_approve 60 = .ok (.iconst 1, 1) := by decide +kernel
theorem dX11_approve_61 : decode cX11_approve 61 = .ok (.goto 4, 3) := by decide +kernel
theorem dX11_approve_64 : decode cX11_approve 64 = .ok (.iconst 0, 1) := by decide +kernel
theorem dX11_approve_65 : decode cX11_approve 65 = .ok (.istore_n 3, 1) := by decide +kernel
theorem dX11_approve_66 : decode cX11_approve 66 = .ok (.aload_n 0, 1) := by decide +kernel
theorem dX11_approve_67 : decode cX11_approve 67 = .ok (.getfield 60, 3) := by decide +kernel
theorem dX11_approve_70 : decode cX11_approve 70 = .ok (.iload_n 1, 1) := by decide +kernel
theorem dX11_approve_71 : decode cX11_approve 71 = .ok (.aaload, 1) := by decide +kernel
theorem dX11_approve_72 : decode cX11_approve 72 = .ok (.iconst 1, 1) := by decide +kernel
theorem dX11_approve_73 : decode cX11_approve 73 = .ok (.putfield 297, 3) := by decide +kernel
theorem dX11_approve_76 : decode cX11_approve 76 = .ok (.iload_n 3, 1) := by decide +kernel
theorem dX11_approve_77 : decode cX11_approve 77 = .ok (.ireturn, 1) := by decide +kernel
theorem dX11_isStale_0 : decode cX11_isStale 0 = .ok (.iload_n 1, 1) := by decide +kernel
theorem dX11_isStale_1 : decode cX11_isStale 1 = .ok (.aload_n 0, 1) := by decide +kernel
theorem dX11_isStale_2 : decode cX11_isStale 2 = .ok (.getfield 275, 3) := by decide +kernel
theorem dX11_isStale_5 : decode cX11_isStale 5 = .ok (.invokestatic 64, 3) := by decide +kernel
theorem dX11_isStale_8 : decode cX11_isStale 8 = .ok (.invokestatic 68, 3) := by decide +kernel
theorem dX11_isStale_11 : decode cX11_isStale 11 = .ok (.aload_n 0, 1) := by decide +kernel
theorem dX11_isStale_12 : decode cX11_isStale 12 = .ok (.getfield 21, 3) := by decide +kernel
theorem dX11_isStale_15 : decode cX11_isStale 15 = .ok (.invokevirtual 113, 3) := by decide +kernel
theorem dX11_isStale_18 : decode cX11_isStale 18 = .ok (.aload_n 0, 1) := by decide +kernel
theorem dX11_isStale_19 : decode cX11_isStale 19 = .ok (.getfield 37, 3) := by decide +kernel
theorem dX11_isStale_22 : decode cX11_isStale 22 = .ok (.invokevirtual 269, 3) := by decide +kernel
theorem dX11_isStale_25 : decode cX11_isStale 25 = .ok (.pop, 1) := by decide +kernel
theorem dX11_isStale_26 : decode cX11_isStale 26 = .ok (.aload_n 0, 1) := by decide +kernel
theorem dX11_isStale_27 : decode cX11_isStale 27 = .ok (.getfield 60, 3) := by decide +kernel
theorem dX11_isStale_30 : decode cX11_isStale 30 = .ok (.iload_n 1, 1) := by decide +kernel
theorem dX11_isStale_31 : decode cX11_isStale 31 = .ok (.aaload, 1) := by decide +kernel
theorem dX11_isStale_32 : decode cX11_isStale 32 = .ok (.getfield 300, 3) := by decide +kernel
theorem dX11_isStale_35 : decode cX11_isStale 35 = .ok (.aload_n 0, 1) := by decide +kernel
theorem dX11_isStale_36 : decode cX11_isStale 36 = .ok (.getfield 28, 3) := by decide +kernel
theorem dX11_isStale_39 : decode cX11_isStale 39 = .ok (.getfield 278, 3) := by decide +kernel
theorem dX11_isStale_42 : decode cX11_isStale 42 = .ok (.if_icmp .ne 22, 3) := by decide +kernel
theorem dX11_isStale_45 : decode cX11_isStale 45 = .ok (.aload_n 0, 1) := by decide +kernel
theorem dX11_isStale_46 : decode cX11_isStale 46 = .ok (.getfield 37, 3) := by decide +kernel
theorem dX11_isStale_49 : decode cX11_isStale 49 = .ok (.aload_n 0, 1) := by decide +kernel
theorem dX11_isStale_50 : decode cX11_isStale 50 = .ok (.getfield 60, 3) := by decide +kernel
theorem dX11_isStale_53 : decode cX11_isStale 53 = .ok (.iload_n 1, 1) := by decide +kernel
theorem dX11_isStale_54 : decode cX11_isStale 54 = .ok (.aaload, 1) := by decide +kernel
theorem dX11_isStale_55 : decode cX11_isStale 55 = .ok (.getfield 293, 3) := by decide +kernel
theorem dX11_isStale_58 : decode cX11_isStale 58 = .ok (.invokevirtual 301, 3) := by decide +kernel
theorem dX11_isStale_61 : decode cX11_isStale 61 = .ok (.ifCond .ne 7, 3) := by decide +kernel
theorem dX11_isStale_64 : decode cX11_isStale 64 = .ok (.iconst 1, 1) := by decide +kernel
theorem dX11_isStale_65 : decode cX11_isStale 65 = .ok (.goto 4, 3) := by decide +kernel
theorem dX11_isStale_68 : decode cX11_isStale 68 = .ok (.iconst 0, 1) := by decide +kernel
theorem dX11_isStale_69 : decode cX11_isStale 69 = .ok (.ireturn, 1) := by decide +kernel
theorem dX11_rebase_0 : decode cX11_rebase 0 = .ok (.iload_n 1, 1) := by decide +kernel
theorem dX11_rebase_1 : decode cX11_rebase 1 = .ok (.aload_n 0, 1) := by decide +kernel
theorem dX11_rebase_2 : decode cX11_rebase 2 = .ok (.getfield 275, 3) := by decide +kernel
theorem dX11_rebase_5 : decode cX11_rebase 5 = .ok (.invokestatic 64, 3) := by decide +kernel
theorem dX11_rebase_8 : decode cX11_rebase 8 = .ok (.invokestatic 68, 3) := by decide +kernel
theorem dX11_rebase_11 : decode cX11_rebase 11 = .ok (.aload_n 0, 1) := by decide +kernel
theorem dX11_rebase_12 : decode cX11_rebase 12 = .ok (.getfield 60, 3) := by decide +kernel
theorem dX11_rebase_15 : decode cX11_rebase 15 = .ok (.iload_n 1, 1) := by decide +kernel
theorem dX11_rebase_16 : decode cX11_rebase 16 = .ok (.aaload, 1) := by decide +kernel
theorem dX11_rebase_17 : decode cX11_rebase 17 = .ok (.getfield 305, 3) := by decide +kernel
theorem dX11_rebase_20 : decode cX11_rebase 20 = .ok (.ifCond .ne 7, 3) := by decide +kernel
theorem dX11_rebase_23 : decode cX11_rebase 23 = .ok (.iconst 1, 1) := by decide +kernel
theorem dX11_rebase_24 : decode cX11_rebase 24 = .ok (.goto 4, 3) := by decide +kernel
theorem dX11_rebase_27 : decode cX11_rebase 27 = .ok (.iconst 0, 1) := by decide +kernel
theorem dX11_rebase_28 : decode cX11_rebase 28 = .ok (.invokestatic 88, 3) := by decide +kernel
theorem dX11_rebase_31 : decode cX11_rebase 31 = .ok (.aload_n 0, 1) := by decide +kernel
theorem dX11_rebase_32 : decode cX11_rebase 32 = .ok (.getfield 21, 3) := by decide +kernel
theorem dX11_rebase_35 : decode cX11_rebase 35 = .ok (.invokevirtual 113, 3) := by decide +kernel
theorem dX11_rebase_38 : decode cX11_rebase 38 = .ok (.aload_n 0, 1) := by decide +kernel
theorem dX11_rebase_39 : decode cX11_rebase 39 = .ok (.getfield 37, 3) := by decide +kernel
theorem dX11_rebase_42 : decode cX11_rebase 42 = .ok (.invokevirtual 269, 3) := by decide +kernel
theorem dX11_rebase_45 : decode cX11_rebase 45 = .ok (.pop, 1) := by decide +kernel
theorem dX11_rebase_46 : decode cX11_rebase 46 = .ok (.aload_n 0, 1) := by decide +kernel
theorem dX11_rebase_47 : decode cX11_rebase 47 = .ok (.getfield 37, 3) := by decide +kernel
theorem dX11_rebase_50 : decode cX11_rebase 50 = .ok (.aload_n 0, 1) := by decide +kernel
theorem dX11_rebase_51 : decode cX11_rebase 51 = .ok (.getfield 60, 3) := by decide +kernel
theorem dX11_rebase_54 : decode cX11_rebase 54 = .ok (.iload_n 1, 1) := by decide +kernel
theorem dX11_rebase_55 : decode cX11_rebase 55 = .ok (.aaload, 1) := by decide +kernel
theorem dX11_rebase_56 : decode cX11_rebase 56 = .ok (.getfield 293, 3) := by decide +kernel
theorem dX11_rebase_59 : decode cX11_rebase 59 = .ok (.invokevirtual 301, 3) := by decide +kernel
theorem dX11_rebase_62 : decode cX11_rebase 62 = .ok (.ifCond .ne 5, 3) := by decide +kernel
theorem dX11_rebase_65 : decode cX11_rebase 65 = .ok (.iconst 0, 1) := by decide +kernel
theorem dX11_rebase_66 : decode cX11_rebase 66 = .ok (.ireturn, 1) := by decide +kernel
theorem dX11_rebase_67 : decode cX11_rebase 67 = .ok (.aload_n 0, 1) := by decide +kernel
theorem dX11_rebase_68 : decode cX11_rebase 68 = .ok (.getfield 60, 3) := by decide +kernel
theorem dX11_rebase_71 : decode cX11_rebase 71 = .ok (.iload_n 1, 1) := by decide +kernel
theorem dX11_rebase_72 : decode cX11_rebase 72 = .ok (.aaload, 1) := by decide +kernel
theorem dX11_rebase_73 : decode cX11_rebase 73 = .ok (.aload_n 0, 1) := by decide +kernel
theorem dX11_rebase_74 : decode cX11_rebase 74 = .ok (.getfield 28, 3) := by decide +kernel
theorem dX11_rebase_77 : decode cX11_rebase 77 = .ok (.getfield 278, 3) := by decide +kernel
theorem dX11_rebase_80 : decode cX11_rebase 80 = .ok (.putfield 300, 3) := by decide +kernel
theorem dX11_rebase_83 : decode cX11_rebase 83 = .ok (.iconst 1, 1) := by decide +kernel
theorem dX11_rebase_84 : decode cX11_rebase 84 = .ok (.ireturn, 1) := by decide +kernel
theorem dX11_apply_0 : decode cX11_apply 0 = .ok (.iload_n 1, 1) := by decide +kernel
theorem dX11_apply_1 : decode cX11_apply 1 = .ok (.aload_n 0, 1) := by decide +kernel
theorem dX11_apply_2 : decode cX11_apply 2 = .ok (.getfield 275, 3) := by decide +kernel
theorem dX11_apply_5 : decode cX11_apply 5 = .ok (.invokestatic 64, 3) := by decide +kernel
theorem dX11_apply_8 : decode cX11_apply 8 = .ok (.invokestatic 68, 3) := by decide +kernel
theorem dX11_apply_11 : decode cX11_apply 11 = .ok (.aload_n 0, 1) := by decide +kernel
theorem dX11_apply_12 : decode cX11_apply 12 = .ok (.getfield 60, 3) := by decide +kernel
theorem dX11_apply_15 : decode cX11_apply 15 = .ok (.iload_n 1, 1) := by decide +kernel
theorem dX11_apply_16 : decode cX11_apply 16 = .ok (.aaload, 1) := by decide +kernel
theorem dX11_apply_17 : decode cX11_apply 17 = .ok (.astore_n 2, 1) := by decide +kernel
theorem dX11_apply_18 : decode cX11_apply 18 = .ok (.aload_n 2, 1) := by decide +kernel
theorem dX11_apply_19 : decode cX11_apply 19 = .ok (.getfield 297, 3) := by decide +kernel
theorem dX11_apply_22 : decode cX11_apply 22 = .ok (.ifCond .eq 22, 3) := by decide +kernel
theorem dX11_apply_25 : decode cX11_apply 25 = .ok (.aload_n 2, 1) := by decide +kernel
theorem dX11_apply_26 : decode cX11_apply 26 = .ok (.getfield 305, 3) := by decide +kernel
theorem dX11_apply_29 : decode cX11_apply 29 = .ok (.ifCond .ne 15, 3) := by decide +kernel
theorem dX11_apply_32 : decode cX11_apply 32 = .ok (.aload_n 2, 1) := by decide +kernel
theorem dX11_apply_33 : decode cX11_apply 33 = .ok (.getfield 293, 3) := by decide +kernel
theorem dX11_apply_36 : decode cX11_apply 36 = .ok (.arraylength, 1) := by decide +kernel
theorem dX11_apply_37 : decode cX11_apply 37 = .ok (.ifCond .le 7, 3) := by decide +kernel
theorem dX11_apply_40 : decode cX11_apply 40 = .ok (.iconst 1, 1) := by decide +kernel
theorem dX11_apply_41 : decode cX11_apply 41 = .ok (.goto 4, 3) := by decide +kernel
theorem dX11_apply_44 : decode cX11_apply 44 = .ok (.iconst 0, 1) := by decide +kernel
theorem dX11_apply_45 : decode cX11_apply 45 = .ok (.invokestatic 88, 3) := by decide +kernel
theorem dX11_apply_48 : decode cX11_apply 48 = .ok (.aload_n 2, 1) := by decide +kernel
theorem dX11_apply_49 : decode cX11_apply 49 = .ok (.getfield 300, 3) := by decide +kernel
theorem dX11_apply_52 : decode cX11_apply 52 = .ok (.aload_n 0, 1) := by decide +kernel
theorem dX11_apply_53 : decode cX11_apply 53 = .ok (.getfield 28, 3) := by decide +kernel
theorem dX11_apply_56 : decode cX11_apply 56 = .ok (.getfield 278, 3) := by decide +kernel
theorem dX11_apply_59 : decode cX11_apply 59 = .ok (.if_icmp .ne 17, 3) := by decide +kernel
theorem dX11_apply_62 : decode cX11_apply 62 = .ok (.aload_n 0, 1) := by decide +kernel
theorem dX11_apply_63 : decode cX11_apply 63 = .ok (.getfield 46, 3) := by decide +kernel
theorem dX11_apply_66 : decode cX11_apply 66 = .ok (.getfield 254, 3) := by decide +kernel
theorem dX11_apply_69 : decode cX11_apply 69 = .ok (.ifCond .ne 7, 3) := by decide +kernel
theorem dX11_apply_72 : decode cX11_apply 72 = .ok (.iconst 1, 1) := by decide +kernel
theorem dX11_apply_73 : decode cX11_apply 73 = .ok (.goto 4, 3) := by decide +kernel
theorem dX11_apply_76 : decode cX11_apply 76 = .ok (.iconst 0, 1) := by decide +kernel
theorem dX11_apply_77 : decode cX11_apply 77 = .ok (.invokestatic 88, 3) := by decide +kernel
theorem dX11_apply_80 : decode cX11_apply 80 = .ok (.aload_n 0, 1) := by decide +kernel
theorem dX11_apply_81 : decode cX11_apply 81 = .ok (.getfield 21, 3) := by decide +kernel
theorem dX11_apply_84 : decode cX11_apply 84 = .ok (.invokevirtual 113, 3) := by decide +kernel
theorem dX11_apply_87 : decode cX11_apply 87 = .ok (.aload_n 0, 1) := by decide +kernel
theorem dX11_apply_88 : decode cX11_apply 88 = .ok (.getfield 37, 3) := by decide +kernel
theorem dX11_apply_91 : decode cX11_apply 91 = .ok (.invokevirtual 269, 3) := by decide +kernel
theorem dX11_apply_94 : decode cX11_apply 94 = .ok (.pop, 1) := by decide +kernel
theorem dX11_apply_95 : decode cX11_apply 95 = .ok (.aload_n 0, 1) := by decide +kernel
theorem dX11_apply_96 : decode cX11_apply 96 = .ok (.getfield 37, 3) := by decide +kernel
theorem dX11_apply_99 : decode cX11_apply 99 = .ok (.aload_n 2, 1) := by decide +kernel
theorem dX11_apply_100 : decode cX11_apply 100 = .ok (.getfield 293, 3) := by decide +kernel
theorem dX11_apply_103 : decode cX11_apply 103 = .ok (.invokevirtual 301, 3) := by decide +kernel
theorem dX11_apply_106 : decode cX11_apply 106 = .ok (.invokestatic 88, 3) := by decide +kernel
theorem dX11_apply_109 : decode cX11_apply 109 = .ok (.aload_n 0, 1) := by decide +kernel
theorem dX11_apply_110 : decode cX11_apply 110 = .ok (.getfield 46, 3) := by decide +kernel
theorem dX11_apply_113 : decode cX11_apply 113 = .ok (.aload_n 2, 1) := by decide +kernel
theorem dX11_apply_114 : decode cX11_apply 114 = .ok (.aload_n 0, 1) := by decide +kernel
theorem dX11_apply_115 : decode cX11_apply 115 = .ok (.getfield 10, 3) := by decide +kernel
theorem dX11_apply_118 : decode cX11_apply 118 = .ok (.getfield 133, 3) := by decide +kernel
theorem dX11_apply_121 : decode cX11_apply 121 = .ok (.invokevirtual 308, 3) := by decide +kernel
theorem dX11_apply_124 : decode cX11_apply 124 = .ok (.aload_n 2, 1) := by decide +kernel
theorem dX11_apply_125 : decode cX11_apply 125 = .ok (.getfield 293, 3) := by decide +kernel
theorem dX11_apply_128 : decode cX11_apply 128 = .ok (.arraylength, 1) := by decide +kernel
theorem dX11_apply_129 : decode cX11_apply 129 = .ok (.ireturn, 1) := by decide +kernel
theorem dX11_step_0 : decode cX11_step 0 = .ok (.iload_n 1, 1) := by decide +kernel
theorem dX11_step_1 : decode cX11_step 1 = .ok (.iconst 0, 1) := by decide +kernel
theorem dX11_step_2 : decode cX11_step 2 = .ok (.iconst 2, 1) := by decide +kernel
theorem dX11_step_3 : decode cX11_step 3 = .ok (.invokestatic 126, 3) := by decide +kernel
theorem dX11_step_6 : decode cX11_step 6 = .ok (.invokestatic 130, 3) := by decide +kernel
theorem dX11_step_9 : decode cX11_step 9 = .ok (.aload_n 0, 1) := by decide +kernel
theorem dX11_step_10 : decode cX11_step 10 = .ok (.getfield 46, 3) := by decide +kernel
theorem dX11_step_13 : decode cX11_step 13 = .ok (.invokevirtual 312, 3) := by decide +kernel
theorem dX11_step_16 : decode cX11_step 16 = .ok (.invokestatic 88, 3) := by decide +kernel
theorem dX11_step_19 : decode cX11_step 19 = .ok (.aload_n 0, 1) := by decide +kernel
theorem dX11_step_20 : decode cX11_step 20 = .ok (.getfield 21, 3) := by decide +kernel
theorem dX11_step_23 : decode cX11_step 23 = .ok (.invokevirtual 113, 3) := by decide +kernel
theorem dX11_step_26 : decode cX11_step 26 = .ok (.aload_n 0, 1) := by decide +kernel
theorem dX11_step_27 : decode cX11_step 27 = .ok (.getfield 46, 3) := by decide +kernel
theorem dX11_step_30 : decode cX11_step 30 = .ok (.iload_n 1, 1) := by decide +kernel
theorem dX11_step_31 : decode cX11_step 31 = .ok (.invokevirtual 315, 3) := by decide +kernel
theorem dX11_step_34 : decode cX11_step 34 = .ok (.ireturn, 1) := by decide +kernel
theorem dX11_isApplying_0 : decode cX11_isApplying 0 = .ok (.aload_n 0, 1) := by decide +kernel
theorem dX11_isApplying_1 : decode cX11_isApplying 1 = .ok (.getfield 46, 3) := by decide +kernel
theorem dX11_isApplying_4 : decode cX11_isApplying 4 = .ok (.invokevirtual 312, 3) := by decide +kernel
theorem dX11_isApplying_7 : decode cX11_isApplying 7 = .ok (.ireturn, 1) := by decide +kernel
theorem dX11_isLocked_0 : decode cX11_isLocked 0 = .ok (.aload_n 0, 1) := by decide +kernel
theorem dX11_isLocked_1 : decode cX11_isLocked 1 = .ok (.getfield 46, 3) := by decide +kernel
theorem dX11_isLocked_4 : decode cX11_isLocked 4 = .ok (.getfield 254, 3) := by decide +kernel
theorem dX11_isLocked_7 : decode cX11_isLocked 7 = .ok (.ireturn, 1) := by decide +kernel
theorem dX11_serial_0 : decode cX11_serial 0 = .ok (.aload_n 0, 1) := by decide +kernel
theorem dX11_serial_1 : decode cX11_serial 1 = .ok (.getfield 28, 3) := by decide +kernel
theorem dX11_serial_4 : decode cX11_serial 4 = .ok (.getfield 278, 3) := by decide +kernel
theorem dX11_serial_7 : decode cX11_serial 7 = .ok (.ireturn, 1) := by decide +kernel
theorem dX11_entry_0 : decode cX11_entry 0 = .ok (.aload_n 0, 1) := by decide +kernel
theorem dX11_entry_1 : decode cX11_entry 1 = .ok (.getfield 28, 3) := by decide +kernel
theorem dX11_entry_4 : decode cX11_entry 4 = .ok (.iload_n 1, 1) := by decide +kernel
theorem dX11_entry_5 : decode cX11_entry 5 = .ok (.invokevirtual 260, 3) := by decide +kernel
theorem dX11_entry_8 : decode cX11_entry 8 = .ok (.invokestatic 68, 3) := by decide +kernel
theorem dX11_entry_11 : decode cX11_entry 11 = .ok (.aload_n 0, 1) := by decide +kernel
theorem dX11_entry_12 : decode cX11_entry 12 = .ok (.getfield 28, 3) := by decide +kernel
theorem dX11_entry_15 : decode cX11_entry 15 = .ok (.getfield 318, 3) := by decide +kernel
theorem dX11_entry_18 : decode cX11_entry 18 = .ok (.iload_n 1, 1) := by decide +kernel
theorem dX11_entry_19 : decode cX11_entry 19 = .ok (.aaload, 1) := by decide +kernel
theorem dX11_entry_20 : decode cX11_entry 20 = .ok (.astore_n 2, 1) := by decide +kernel
theorem dX11_entry_21 : decode cX11_entry 21 = .ok (.aload_n 2, 1) := by decide +kernel
theorem dX11_entry_22 : decode cX11_entry 22 = .ok (.ifnonnull 5, 3) := by decide +kernel
theorem dX11_entry_25 : decode cX11_entry 25 = .ok (.iconst (-1), 1) := by decide +kernel
theorem dX11_entry_26 : decode cX11_entry 26 = .ok (.ireturn, 1) := by decide +kernel
theorem dX11_entry_27 : decode cX11_entry 27 = .ok (.bipush 100, 2) := by decide +kernel
theorem dX11_entry_29 : decode cX11_entry 29 = .ok (.aload_n 2, 1) := by decide +kernel
theorem dX11_entry_30 : decode cX11_entry 30 = .ok (.getfield 322, 3) := by decide +kernel
theorem dX11_entry_33 : decode cX11_entry 33 = .ok (.imul, 1) := by decide +kernel
theorem dX11_entry_34 : decode cX11_entry 34 = .ok (.bipush 10, 2) := by decide +kernel
theorem dX11_entry_36 : decode cX11_entry 36 = .ok (.aload_n 2, 1) := by decide +kernel
theorem dX11_entry_37 : decode cX11_entry 37 = .ok (.getfield 327, 3) := by decide +kernel
theorem dX11_entry_40 : decode cX11_entry 40 = .ok (.imul, 1) := by decide +kernel
theorem dX11_entry_41 : decode cX11_entry 41 = .ok (.iadd, 1) := by decide +kernel
theorem dX11_entry_42 : decode cX11_entry 42 = .ok (.aload_n 2, 1) := by decide +kernel
theorem dX11_entry_43 : decode cX11_entry 43 = .ok (.getfield 330, 3) := by decide +kernel
theorem dX11_entry_46 : decode cX11_entry 46 = .ok (.ifCond .eq 7, 3) := by decide +kernel
theorem dX11_entry_49 : decode cX11_entry 49 = .ok (.iconst 1, 1) := by decide +kernel
theorem dX11_entry_50 : decode cX11_entry 50 = .ok (.goto 4, 3) := by decide +kernel
theorem dX11_entry_53 : decode cX11_entry 53 = .ok (.iconst 0, 1) := by decide +kernel
theorem dX11_entry_54 : decode cX11_entry 54 = .ok (.iadd, 1) := by decide +kernel
theorem dX11_entry_55 : decode cX11_entry 55 = .ok (.ireturn, 1) := by decide +kernel
theorem dX11_stored_0 : decode cX11_stored 0 = .ok (.aload_n 0, 1) := by decide +kernel
theorem dX11_stored_1 : decode cX11_stored 1 = .ok (.getfield 28, 3) := by decide +kernel
theorem dX11_stored_4 : decode cX11_stored 4 = .ok (.iload_n 1, 1) := by decide +kernel
theorem dX11_stored_5 : decode cX11_stored 5 = .ok (.invokevirtual 260, 3) := by decide +kernel
theorem dX11_stored_8 : decode cX11_stored 8 = .ok (.ifCond .eq 15, 3) := by decide +kernel
theorem dX11_stored_11 : decode cX11_stored 11 = .ok (.iload_n 2, 1) := by decide +kernel
theorem dX11_stored_12 : decode cX11_stored 12 = .ok (.iconst 3, 1) := by decide +kernel
theorem dX11_stored_13 : decode cX11_stored 13 = .ok (.invokestatic 64, 3) := by decide +kernel
theorem dX11_stored_16 : decode cX11_stored 16 = .ok (.ifCond .eq 7, 3) := by decide +kernel
theorem dX11_stored_19 : decode cX11_stored 19 = .ok (.iconst 1, 1) := by decide +kernel
theorem dX11_stored_20 : decode cX11_stored 20 = .ok (.goto 4, 3) := by decide +kernel
theorem dX11_stored_23 : decode cX11_stored 23 = .ok (.iconst 0, 1) := by decide +kernel
theorem dX11_stored_24 : decode cX11_stored 24 = .ok (.invokestatic 68, 3) := by decide +kernel
theorem dX11_stored_27 : decode cX11_stored 27 = .ok (.aload_n 0, 1) := by decide +kernel
theorem dX11_stored_28 : decode cX11_stored 28 = .ok (.getfield 28, 3) := by decide +kernel
theorem dX11_stored_31 : decode cX11_stored 31 = .ok (.getfield 318, 3) := by decide +kernel
theorem dX11_stored_34 : decode cX11_stored 34 = .ok (.iload_n 1, 1) := by decide +kernel
theorem dX11_stored_35 : decode cX11_stored 35 = .ok (.aaload, 1) := by decide +kernel
theorem dX11_stored_36 : decode cX11_stored 36 = .ok (.astore_n 3, 1) := by decide +kernel
theorem dX11_stored_37 : decode cX11_stored 37 = .ok (.aload_n 3, 1) := by decide +kernel
theorem dX11_stored_38 : decode cX11_stored 38 = .ok (.ifnull 7, 3) := by decide +kernel
theorem dX11_stored_41 : decode cX11_stored 41 = .ok (.iconst 1, 1) := by decide +kernel
theorem dX11_stored_42 : decode cX11_stored 42 = .ok (.goto 4, 3) := by decide +kernel
theorem dX11_stored_45 : decode cX11_stored 45 = .ok (.iconst 0, 1) := by decide +kernel
theorem dX11_stored_46 : decode cX11_stored 46 = .ok (.invokestatic 68, 3) := by decide +kernel
theorem dX11_stored_49 : decode cX11_stored 49 = .ok (.aload_n 3, 1) := by decide +kernel
theorem dX11_stored_50 : decode cX11_stored 50 = .ok (.getfield 333, 3) := by decide +kernel
theorem dX11_stored_53 : decode cX11_stored 53 = .ok (.iload_n 2, 1) := by decide +kernel
theorem dX11_stored_54 : decode cX11_stored 54 = .ok (.iaload, 1) := by decide +kernel
theorem dX11_stored_55 : decode cX11_stored 55 = .ok (.ireturn, 1) := by decide +kernel
theorem dX11_real_0 : decode cX11_real 0 = .ok (.iload_n 1, 1) := by decide +kernel
theorem dX11_real_1 : decode cX11_real 1 = .ok (.aload_n 0, 1) := by decide +kernel
theorem dX11_real_2 : decode cX11_real 2 = .ok (.getfield 28, 3) := by decide +kernel
theorem dX11_real_5 : decode cX11_real 5 = .ok (.getfield 335, 3) := by decide +kernel
theorem dX11_real_8 : decode cX11_real 8 = .ok (.invokestatic 64, 3) := by decide +kernel
theorem dX11_real_11 : decode cX11_real 11 = .ok (.ifCond .eq 15, 3) := by decide +kernel
theorem dX11_real_14 : decode cX11_real 14 = .ok (.iload_n 2, 1) := by decide +kernel
theorem dX11_real_15 : decode cX11_real 15 = .ok (.iconst 3, 1) := by decide +kernel
theorem dX11_real_16 : decode cX11_real 16 = .ok (.invokestatic 64, 3) := by decide +kernel
theorem dX11_real_19 : decode cX11_real 19 = .ok (.ifCond .eq 7, 3) := by decide +kernel
theorem dX11_real_22 : decode cX11_real 22 = .ok (.iconst 1, 1) := by decide +kernel
theorem dX11_real_23 : decode cX11_real 23 = .ok (.goto 4, 3) := by decide +kernel
theorem dX11_real_26 : decode cX11_real 26 = .ok (.iconst 0, 1) := by decide +kernel
theorem dX11_real_27 : decode cX11_real 27 = .ok (.invokestatic 68, 3) := by decide +kernel
theorem dX11_real_30 : decode cX11_real 30 = .ok (.aload_n 0, 1) := by decide +kernel
theorem dX11_real_31 : decode cX11_real 31 = .ok (.getfield 28, 3) := by decide +kernel
theorem dX11_real_34 : decode cX11_real 34 = .ok (.getfield 338, 3) := by decide +kernel
theorem dX11_real_37 : decode cX11_real 37 = .ok (.iload_n 1, 1) := by decide +kernel
theorem dX11_real_38 : decode cX11_real 38 = .ok (.baload, 1) := by decide +kernel
theorem dX11_real_39 : decode cX11_real 39 = .ok (.ifCond .eq 7, 3) := by decide +kernel
theorem dX11_real_42 : decode cX11_real 42 = .ok (.iconst (-1), 1) := by decide +kernel
theorem dX11_real_43 : decode cX11_real 43 = .ok (.goto 16, 3) := by decide +kernel
theorem dX11_real_46 : decode cX11_real 46 = .ok (.aload_n 0, 1) := by decide +kernel
theorem dX11_real_47 : decode cX11_real 47 = .ok (.getfield 28, 3) := by decide +kernel
theorem dX11_real_50 : decode cX11_real 50 = .ok (.getfield 342, 3) := by decide +kernel
theorem dX11_real_53 : decode cX11_real 53 = .ok (.iload_n 1, 1) := by decide +kernel
theorem dX11_real_54 : decode cX11_real 54 = .ok (.iconst 3, 1) := by decide +kernel
theorem dX11_real_55 : decode cX11_real 55 = .ok (.imul, 1) := by decide +kernel
theorem dX11_real_56 : decode cX11_real 56 = .ok (.iload_n 2, 1) := by decide +kernel
theorem dX11_real_57 : decode cX11_real 57 = .ok (.iadd, 1) := by decide +kernel
theorem dX11_real_58 : decode cX11_real 58 = .ok (.iaload, 1) := by decide +kernel
theorem dX11_real_59 : decode cX11_real 59 = .ok (.ireturn, 1) := by decide +kernel
theorem dX11_resources_0 : decode cX11_resources 0 = .ok (.aload_n 0, 1) := by decide +kernel
theorem dX11_resources_1 : decode cX11_resources 1 = .ok (.getfield 28, 3) := by decide +kernel
theorem dX11_resources_4 : decode cX11_resources 4 = .ok (.getfield 335, 3) := by decide +kernel
theorem dX11_resources_7 : decode cX11_resources 7 = .ok (.ireturn, 1) := by decide +kernel
theorem dX11_change_0 : decode cX11_change 0 = .ok (.iload_n 1, 1) := by decide +kernel
theorem dX11_change_1 : decode cX11_change 1 = .ok (.aload_n 0, 1) := by decide +kernel
theorem dX11_change_2 : decode cX11_change 2 = .ok (.getfield 28, 3) := by decide +kernel
theorem dX11_change_5 : decode cX11_change 5 = .ok (.getfield 335, 3) := by decide +kernel
theorem dX11_change_8 : decode cX11_change 8 = .ok (.invokestatic 64, 3) := by decide +kernel
theorem dX11_change_11 : decode cX11_change 11 = .ok (.ifCond .eq 15, 3) := by decide +kernel
theorem dX11_change_14 : decode cX11_change 14 = .ok (.iload_n 2, 1) := by decide +kernel
theorem dX11_change_15 : decode cX11_change 15 = .ok (.iconst 3, 1) := by decide +kernel
theorem dX11_change_16 : decode cX11_change 16 = .ok (.invokestatic 64, 3) := by decide +kernel
theorem dX11_change_19 : decode cX11_change 19 = .ok (.ifCond .eq 7, 3) := by decide +kernel
theorem dX11_change_22 : decode cX11_change 22 = .ok (.iconst 1, 1) := by decide +kernel
theorem dX11_change_23 : decode cX11_change 23 = .ok (.goto 4, 3) := by decide +kernel
theorem dX11_change_26 : decode cX11_change 26 = .ok (.iconst 0, 1) := by decide +kernel
theorem dX11_change_27 : decode cX11_change 27 = .ok (.invokestatic 68, 3) := by decide +kernel
theorem dX11_change_30 : decode cX11_change 30 = .ok (.iload_n 3, 1) := by decide +kernel
theorem dX11_change_31 : decode cX11_change 31 = .ok (.iconst 0, 1) := by decide +kernel
theorem dX11_change_32 : decode cX11_change 32 = .ok (.sipush 255, 3) := by decide +kernel
theorem dX11_change_35 : decode cX11_change 35 = .ok (.invokestatic 126, 3) := by decide +kernel
theorem dX11_change_38 : decode cX11_change 38 = .ok (.invokestatic 130, 3) := by decide +kernel
theorem dX11_change_41 : decode cX11_change 41 = .ok (.aload_n 0, 1) := by decide +kernel
theorem dX11_change_42 : decode cX11_change 42 = .ok (.getfield 28, 3) := by decide +kernel
theorem dX11_change_45 : decode cX11_change 45 = .ok (.getfield 338, 3) := by decide +kernel
theorem dX11_change_48 : decode cX11_change 48 = .ok (.iload_n 1, 1) := by decide +kernel
theorem dX11_change_49 : decode cX11_change 49 = .ok (.baload, 1) := by decide +kernel
theorem dX11_change_50 : decode cX11_change 50 = .ok (.ifCond .ne 7, 3) := by decide +kernel
theorem dX11_change_53 : decode cX11_change 53 = .ok (.iconst 1, 1) := by decide +kernel
theorem dX11_change_54 : decode cX11_change 54 = .ok (.goto 4, 3) := by decide +kernel
theorem dX11_change_57 : decode cX11_change 57 = .ok (.iconst 0, 1) := by decide +kernel
theorem dX11_change_58 : decode cX11_change 58 = .ok (.invokestatic 88, 3) := by decide +kernel
theorem dX11_change_61 : decode cX11_change 61 = .ok (.aload_n 0, 1) := by decide +kernel
theorem dX11_change_62 : decode cX11_change 62 = .ok (.getfield 28, 3) := by decide +kernel
theorem dX11_change_65 : decode cX11_change 65 = .ok (.getfield 342, 3) := by decide +kernel
theorem dX11_change_68 : decode cX11_change 68 = .ok (.iload_n 1, 1) := by decide +kernel
theorem dX11_change_69 : decode cX11_change 69 = .ok (.iconst 3, 1) := by decide +kernel
theorem dX11_change_70 : decode cX11_change 70 = .ok (.imul, 1) := by decide +kernel
theorem dX11_change_71 : decode cX11_change 71 = .ok (.iload_n 2, 1) := by decide +kernel
theorem dX11_change_72 : decode cX11_change 72 = .ok (.iadd, 1) := by decide +kernel
theorem dX11_change_73 : decode cX11_change 73 = .ok (.iaload, 1) := by decide +kernel
theorem dX11_change_74 : decode cX11_change 74 = .ok (.istore 4, 2) := by decide +kernel
theorem dX11_change_76 : decode cX11_change 76 = .ok (.aload_n 0, 1) := by decide +kernel
theorem dX11_change_77 : decode cX11_change 77 = .ok (.getfield 28, 3) := by decide +kernel
theorem dX11_change_80 : decode cX11_change 80 = .ok (.getfield 342, 3) := by decide +kernel
theorem dX11_change_83 : decode cX11_change 83 = .ok (.iload_n 1, 1) := by decide +kernel
theorem dX11_change_84 : decode cX11_change 84 = .ok (.iconst 3, 1) := by decide +kernel
theorem dX11_change_85 : decode cX11_change 85 = .ok (.imul, 1) := by decide +kernel
theorem dX11_change_86 : decode cX11_change 86 = .ok (.iload_n 2, 1) := by decide +kernel
theorem dX11_change_87 : decode cX11_change 87 = .ok (.iadd, 1) := by decide +kernel
theorem dX11_change_88 : decode cX11_change 88 = .ok (.iload_n 3, 1) := by decide +kernel
theorem dX11_change_89 : decode cX11_change 89 = .ok (.iastore, 1) := by decide +kernel
theorem dX11_change_90 : decode cX11_change 90 = .ok (.iload 4, 2) := by decide +kernel
theorem dX11_change_92 : decode cX11_change 92 = .ok (.ireturn, 1) := by decide +kernel
theorem dX11_destroy_0 : decode cX11_destroy 0 = .ok (.iload_n 1, 1) := by decide +kernel
theorem dX11_destroy_1 : decode cX11_destroy 1 = .ok (.aload_n 0, 1) := by decide +kernel
theorem dX11_destroy_2 : decode cX11_destroy 2 = .ok (.getfield 28, 3) := by decide +kernel
theorem dX11_destroy_5 : decode cX11_destroy 5 = .ok (.getfield 335, 3) := by decide +kernel
theorem dX11_destroy_8 : decode cX11_destroy 8 = .ok (.invokestatic 64, 3) := by decide +kernel
theorem dX11_destroy_11 : decode cX11_destroy 11 = .ok (.invokestatic 68, 3) := by decide +kernel
theorem dX11_destroy_14 : decode cX11_destroy 14 = .ok (.aload_n 0, 1) := by decide +kernel
theorem dX11_destroy_15 : decode cX11_destroy 15 = .ok (.getfield 28, 3) := by decide +kernel
theorem dX11_destroy_18 : decode cX11_destroy 18 = .ok (.getfield 338, 3) := by decide +kernel
theorem dX11_destroy_21 : decode cX11_destroy 21 = .ok (.iload_n 1, 1) := by decide +kernel
theorem dX11_destroy_22 : decode cX11_destroy 22 = .ok (.baload, 1) := by decide +kernel
theorem dX11_destroy_23 : decode cX11_destroy 23 = .ok (.ifCond .ne 7, 3) := by decide +kernel
theorem dX11_destroy_26 : decode cX11_destroy 26 = .ok (.iconst 1, 1) := by decide +kernel
theorem dX11_destroy_27 : decode cX11_destroy 27 = .ok (.goto 4, 3) := by decide +kernel
theorem dX11_destroy_30 : decode cX11_destroy 30 = .ok (.iconst 0, 1) := by decide +kernel
theorem dX11_destroy_31 : decode cX11_destroy 31 = .ok (.istore_n 2, 1) := by decide +kernel
theorem dX11_destroy_32 : decode cX11_destroy 32 = .ok (.aload_n 0, 1) := by decide +kernel
theorem dX11_destroy_33 : decode cX11_destroy 33 = .ok (.getfield 28, 3) := by decide +kernel
theorem dX11_destroy_36 : decode cX11_destroy 36 = .ok (.getfield 338, 3) := by decide +kernel
theorem dX11_destroy_39 : decode cX11_destroy 39 = .ok (.iload_n 1, 1) := by decide +kernel
theorem dX11_destroy_40 : decode cX11_destroy 40 = .ok (.iconst 1, 1) := by decide +kernel
theorem dX11_destroy_41 : decode cX11_destroy 41 = .ok (.bastore, 1) := by decide +kernel
theorem dX11_destroy_42 : decode cX11_destroy 42 = .ok (.iload_n 2, 1) := by decide +kernel
theorem dX11_destroy_43 : decode cX11_destroy 43 = .ok (.ireturn, 1) := by decide +kernel
theorem dX11_make_0 : decode cX11_make 0 = .ok (.iload_n 1, 1) := by decide +kernel
theorem dX11_make_1 : decode cX11_make 1 = .ok (.iconst 3, 1) := by decide +kernel
theorem dX11_make_2 : decode cX11_make 2 = .ok (.invokestatic 64, 3) := by decide +kernel
theorem dX11_make_5 : decode cX11_make 5 = .ok (.invokestatic 68, 3) := by decide +kernel
theorem dX11_make_8 : decode cX11_make 8 = .ok (.aload_n 0, 1) := by decide +kernel
theorem dX11_make_9 : decode cX11_make 9 = .ok (.getfield 28, 3) := by decide +kernel
theorem dX11_make_12 : decode cX11_make 12 = .ok (.getfield 335, 3) := by decide +kernel
theorem dX11_make_15 : decode cX11_make 15 = .ok (.bipush 60, 2) := by decide +kernel
theorem dX11_make_17 : decode cX11_make 17 = .ok (.if_icmp .ge 7, 3) := by decide +kernel
theorem dX11_make_20 : decode cX11_make 20 = .ok (.iconst 1, 1) := by decide +kernel
theorem dX11_make_21 : decode cX11_make 21 = .ok (.goto 4, 3) := by decide +kernel
theorem dX11_make_24 : decode cX11_make 24 = .ok (.iconst 0, 1) := by decide +kernel
theorem dX11_make_25 : decode cX11_make 25 = .ok (.invokestatic 88, 3) := by decide +kernel
theorem dX11_make_28 : decode cX11_make 28 = .ok (.aload_n 0, 1) := by decide +kernel
theorem dX11_make_29 : decode cX11_make 29 = .ok (.getfield 28, 3) := by decide +kernel
theorem dX11_make_32 : decode cX11_make 32 = .ok (.iload_n 1, 1) := by decide +kernel
theorem dX11_make_33 : decode cX11_make 33 = .ok (.invokevirtual 345, 3) := by decide +kernel
theorem dX11_make_36 : decode cX11_make 36 = .ok (.ireturn, 1) := by decide +kernel
theorem dX11_read_0 : decode cX11_read 0 = .ok (.aload_n 0, 1) := by decide +kernel
theorem dX11_read_1 : decode cX11_read 1 = .ok (.getfield 46, 3) := by decide +kernel
theorem dX11_read_4 : decode cX11_read 4 = .ok (.getfield 254, 3) := by decide +kernel
theorem dX11_read_7 : decode cX11_read 7 = .ok (.ifCond .ne 7, 3) := by decide +kernel
theorem dX11_read_10 : decode cX11_read 10 = .ok (.iconst 1, 1) := by decide +kernel
theorem dX11_read_11 : decode cX11_read 11 = .ok (.goto 4, 3) := by decide +kernel
theorem dX11_read_14 : decode cX11_read 14 = .ok (.iconst 0, 1) := by decide +kernel
theorem dX11_read_15 : decode cX11_read 15 = .ok (.invokestatic 88, 3) := by decide +kernel
theorem dX11_read_18 : decode cX11_read 18 = .ok (.aload_n 0, 1) := by decide +kernel
theorem dX11_read_19 : decode cX11_read 19 = .ok (.getfield 21, 3) := by decide +kernel
theorem dX11_read_22 : decode cX11_read 22 = .ok (.invokevirtual 113, 3) := by decide +kernel
theorem dX11_read_25 : decode cX11_read 25 = .ok (.aload_n 0, 1) := by decide +kernel
theorem dX11_read_26 : decode cX11_read 26 = .ok (.getfield 37, 3) := by decide +kernel
theorem dX11_read_29 : decode cX11_read 29 = .ok (.invokevirtual 348, 3) := by decide +kernel
theorem dX11_read_32 : decode cX11_read 32 = .ok (.ireturn, 1) := by decide +kernel
theorem dX11_move_0 : decode cX11_move 0 = .ok (.aload_n 0, 1) := by decide +kernel
theorem dX11_move_1 : decode cX11_move 1 = .ok (.getfield 28, 3) := by decide +kernel
theorem dX11_move_4 : decode cX11_move 4 = .ok (.iload_n 1, 1) := by decide +kernel
theorem dX11_move_5 : decode cX11_move 5 = .ok (.invokevirtual 260, 3) := by decide +kernel
theorem dX11_move_8 : decode cX11_move 8 = .ok (.ifCond .eq 18, 3) := by decide +kernel
theorem dX11_move_11 : decode cX11_move 11 = .ok (.aload_n 0, 1) := by decide +kernel
theorem dX11_move_12 : decode cX11_move 12 = .ok (.getfield 28, 3) := by decide +kernel
theorem dX11_move_15 : decode cX11_move 15 = .ok (.iload_n 2, 1) := by decide +kernel
theorem dX11_move_16 : decode cX11_move 16 = .ok (.invokevirtual 260, 3) := by decide +kernel
theorem dX11_move_19 : decode cX11_move 19 = .ok (.ifCond .eq 7, 3) := by decide +kernel
theorem dX11_move_22 : decode cX11_move 22 = .ok (.iconst 1, 1) := by decide +kernel
theorem dX11_move_23 : decode cX11_move 23 = .ok (.goto 4, 3) := by decide +kernel
theorem dX11_move_26 : decode cX11_move 26 = .ok (.iconst 0, 1) := by decide +kernel
theorem dX11_move_27 : decode cX11_move 27 = .ok (.invokestatic 68, 3) := by decide +kernel
theorem dX11_move_30 : decode cX11_move 30 = .ok (.aload_n 0, 1) := by decide +kernel
theorem dX11_move_31 : decode cX11_move 31 = .ok (.getfield 46, 3) := by decide +kernel
theorem dX11_move_34 : decode cX11_move 34 = .ok (.getfield 254, 3) := by decide +kernel
theorem dX11_move_37 : decode cX11_move 37 = .ok (.ifCond .ne 31, 3) := by decide +kernel
theorem dX11_move_40 : decode cX11_move 40 = .ok (.aload_n 0, 1) := by decide +kernel
theorem dX11_move_41 : decode cX11_move 41 = .ok (.getfield 28, 3) := by decide +kernel
theorem dX11_move_44 : decode cX11_move 44 = .ok (.getfield 318, 3) := by decide +kernel
theorem dX11_move_47 : decode cX11_move 47 = .ok (.iload_n 1, 1) := by decide +kernel
theorem dX11_move_48 : decode cX11_move 48 = .ok (.aaload, 1) := by decide +kernel
theorem dX11_move_49 : decode cX11_move 49 = .ok (.ifnull 19, 3) := by decide +kernel
theorem dX11_move_52 : decode cX11_move 52 = .ok (.aload_n 0, 1) := by decide +kernel
theorem dX11_move_53 : decode cX11_move 53 = .ok (.getfield 28, 3) := by decide +kernel
theorem dX11_move_56 : decode cX11_move 56 = .ok (.getfield 318, 3) := by decide +kernel
theorem dX11_move_59 : decode cX11_move 59 = .ok (.iload_n 2, 1) := by decide +kernel
theorem dX11_move_60 : decode cX11_move 60 = .ok (.aaload, 1) := by decide +kernel
theorem dX11_move_61 : decode cX11_move 61 = .ok (.ifnonnull 7, 3) := by decide +kernel
theorem dX11_move_64 : decode cX11_move 64 = .ok (.iconst 1, 1) := by decide +kernel
theorem dX11_move_65 : decode cX11_move 65 = .ok (.goto 4, 3) := by decide +kernel
theorem dX11_move_68 : decode cX11_move 68 = .ok (.iconst 0, 1) := by decide +kernel
theorem dX11_move_69 : decode cX11_move 69 = .ok (.invokestatic 88, 3) := by decide +kernel
theorem dX11_move_72 : decode cX11_move 72 = .ok (.aload_n 0, 1) := by decide +kernel
theorem dX11_move_73 : decode cX11_move 73 = .ok (.getfield 28, 3) := by decide +kernel
theorem dX11_move_76 : decode cX11_move 76 = .ok (.iload_n 1, 1) := by decide +kernel
theorem dX11_move_77 : decode cX11_move 77 = .ok (.invokevirtual 351, 3) := by decide +kernel
theorem dX11_move_80 : decode cX11_move 80 = .ok (.aload_n 0, 1) := by decide +kernel
theorem dX11_move_81 : decode cX11_move 81 = .ok (.getfield 28, 3) := by decide +kernel
theorem dX11_move_84 : decode cX11_move 84 = .ok (.iload_n 2, 1) := by decide +kernel
theorem dX11_move_85 : decode cX11_move 85 = .ok (.invokevirtual 351, 3) := by decide +kernel
theorem dX11_move_88 : decode cX11_move 88 = .ok (.if_icmp .ne 7, 3) := by decide +kernel
theorem dX11_move_91 : decode cX11_move 91 = .ok (.iconst 1, 1) := by decide +kernel
theorem dX11_move_92 : decode cX11_move 92 = .ok (.goto 4, 3) := by decide +kernel
theorem dX11_move_95 : decode cX11_move 95 = .ok (.iconst 0, 1) := by decide +kernel
theorem dX11_move_96 : decode cX11_move 96 = .ok (.invokestatic 88, 3) := by decide +kernel
theorem dX11_move_99 : decode cX11_move 99 = .ok (.aload_n 0, 1) := by decide +kernel
theorem dX11_move_100 : decode cX11_move 100 = .ok (.getfield 28, 3) := by decide +kernel
theorem dX11_move_103 : decode cX11_move 103 = .ok (.getfield 318, 3) := by decide +kernel
theorem dX11_move_106 : decode cX11_move 106 = .ok (.iload_n 2, 1) := by decide +kernel
theorem dX11_move_107 : decode cX11_move 107 = .ok (.aload_n 0, 1) := by decide +kernel
theorem dX11_move_108 : decode cX11_move 108 = .ok (.getfield 28, 3) := by decide +kernel
theorem dX11_move_111 : decode cX11_move 111 = .ok (.getfield 318, 3) := by decide +kernel
theorem dX11_move_114 : decode cX11_move 114 = .ok (.iload_n 1, 1) := by decide +kernel
theorem dX11_move_115 : decode cX11_move 115 = .ok (.aaload, 1) := by decide +kernel
theorem dX11_move_116 : decode cX11_move 116 = .ok (.aastore, 1) := by decide +kernel
theorem dX11_move_117 : decode cX11_move 117 = .ok (.aload_n 0, 1) := by decide +kernel
theorem dX11_move_118 : decode cX11_move 118 = .ok (.getfield 28, 3) := by decide +kernel
theorem dX11_move_121 : decode cX11_move 121 = .ok (.getfield 318, 3) := by decide +kernel
theorem dX11_move_124 : decode cX11_move 124 = .ok (.iload_n 1, 1) := by decide +kernel
theorem dX11_move_125 : decode cX11_move 125 = .ok (.aconst_null, 1) := by decide +kernel
theorem dX11_move_126 : decode cX11_move 126 = .ok (.aastore, 1) := by decide +kernel
theorem dX11_move_127 : decode cX11_move 127 = .ok (.aload_n 0, 1) := by decide +kernel
theorem dX11_move_128 : decode cX11_move 128 = .ok (.getfield 28, 3) := by decide +kernel
theorem dX11_move_131 : decode cX11_move 131 = .ok (.dup, 1) := by decide +kernel
theorem dX11_move_132 : decode cX11_move 132 = .ok (.getfield 278, 3) := by decide +kernel
theorem dX11_move_135 : decode cX11_move 135 = .ok (.iconst 1, 1) := by decide +kernel
theorem dX11_move_136 : decode cX11_move 136 = .ok (.iadd, 1) := by decide +kernel
theorem dX11_move_137 : decode cX11_move 137 = .ok (.putfield 278, 3) := by decide +kernel
theorem dX11_move_140 : decode cX11_move 140 = .ok (.aload_n 0, 1) := by decide +kernel
theorem dX11_move_141 : decode cX11_move 141 = .ok (.getfield 28, 3) := by decide +kernel
theorem dX11_move_144 : decode cX11_move 144 = .ok (.getfield 278, 3) := by decide +kernel
theorem dX11_move_147 : decode cX11_move 147 = .ok (.ireturn, 1) := by decide +kernel
theorem dX11_take_0 : decode cX11_take 0 = .ok (.aload_n 0, 1) := by decide +kernel
theorem dX11_take_1 : decode cX11_take 1 = .ok (.getfield 28, 3) := by decide +kernel
theorem dX11_take_4 : decode cX11_take 4 = .ok (.iload_n 1, 1) := by decide +kernel
theorem dX11_take_5 : decode cX11_take 5 = .ok (.invokevirtual 260, 3) := by decide +kernel
theorem dX11_take_8 : decode cX11_take 8 = .ok (.ifCond .eq 21, 3) := by decide +kernel
theorem dX11_take_11 : decode cX11_take 11 = .ok (.iload_n 2, 1) := by decide +kernel
theorem dX11_take_12 : decode cX11_take 12 = .ok (.aload_n 0, 1) := by decide +kernel
theorem dX11_take_13 : decode cX11_take 13 = .ok (.getfield 28, 3) := by decide +kernel
theorem dX11_take_16 : decode cX11_take 16 = .ok (.getfield 335, 3) := by decide +kernel
theorem dX11_take_19 : decode cX11_take 19 = .ok (.invokestatic 64, 3) := by decide +kernel
theorem dX11_take_22 : decode cX11_take 22 = .ok (.ifCond .eq 7, 3) := by decide +kernel
theorem dX11_take_25 : decode cX11_take 25 = .ok (.iconst 1, 1) := by decide +kernel
theorem dX11_take_26 : decode cX11_take 26 = .ok (.goto 4, 3) := by decide +kernel
theorem dX11_take_29 : decode cX11_take 29 = .ok (.iconst 0, 1) := by decide +kernel
theorem dX11_take_30 : decode cX11_take 30 = .ok (.invokestatic 68, 3) := by decide +kernel
theorem dX11_take_33 : decode cX11_take 33 = .ok (.aload_n 0, 1) := by decide +kernel
theorem dX11_take_34 : decode cX11_take 34 = .ok (.getfield 46, 3) := by decide +kernel
theorem dX11_take_37 : decode cX11_take 37 = .ok (.getfield 254, 3) := by decide +kernel
theorem dX11_take_40 : decode cX11_take 40 = .ok (.ifCond .ne 19, 3) := by decide +kernel
theorem dX11_take_43 : decode cX11_take 43 = .ok (.aload_n 0, 1) := by decide +kernel
theorem dX11_take_44 : decode cX11_take 44 = .ok (.getfield 28, 3) := by decide +kernel
theorem dX11_take_47 : decode cX11_take 47 = .ok (.getfield 318, 3) := by decide +kernel
theorem dX11_take_50 : decode cX11_take 50 = .ok (.iload_n 1, 1) := by decide +kernel
theorem dX11_take_51 : decode cX11_take 51 = .ok (.aaload, 1) := by decide +kernel
theorem dX11_take_52 : decode cX11_take 52 = .ok (.ifnonnull 7, 3) := by decide +kernel
theorem dX11_take_55 : decode cX11_take 55 = .ok (.iconst 1, 1) := by decide +kernel
theorem dX11_take_56 : decode cX11_take 56 = .ok (.goto 4, 3) := by decide +kernel
theorem dX11_take_59 : decode cX11_take 59 = .ok (.iconst 0, 1) := by decide +kernel
theorem dX11_take_60 : decode cX11_take 60 = .ok (.invokestatic 88, 3) := by decide +kernel
theorem dX11_take_63 : decode cX11_take 63 = .ok (.aload_n 0, 1) := by decide +kernel
theorem dX11_take_64 : decode cX11_take 64 = .ok (.getfield 28, 3) := by decide +kernel
theorem dX11_take_67 : decode cX11_take 67 = .ok (.getfield 338, 3) := by decide +kernel
theorem dX11_take_70 : decode cX11_take 70 = .ok (.iload_n 2, 1) := by decide +kernel
theorem dX11_take_71 : decode cX11_take 71 = .ok (.baload, 1) := by decide +kernel
theorem dX11_take_72 : decode cX11_take 72 = .ok (.ifCond .ne 18, 3) := by decide +kernel
theorem dX11_take_75 : decode cX11_take 75 = .ok (.aload_n 0, 1) := by decide +kernel
theorem dX11_take_76 : decode cX11_take 76 = .ok (.getfield 28, 3) := by decide +kernel
theorem dX11_take_79 : decode cX11_take 79 = .ok (.iload_n 2, 1) := by decide +kernel
theorem dX11_take_80 : decode cX11_take 80 = .ok (.invokevirtual 354, 3) := by decide +kernel
theorem dX11_take_83 : decode cX11_take 83 = .ok (.ifCond .ne 7, 3) := by decide +kernel
theorem dX11_take_86 : decode cX11_take 86 = .ok (.iconst 1, 1) := by decide +kernel
theorem dX11_take_87 : decode cX11_take 87 = .ok (.goto 4, 3) := by decide +kernel
theorem dX11_take_90 : decode cX11_take 90 = .ok (.iconst 0, 1) := by decide +kernel
theorem dX11_take_91 : decode cX11_take 91 = .ok (.invokestatic 88, 3) := by decide +kernel
theorem dX11_take_94 : decode cX11_take 94 = .ok (.aload_n 0, 1) := by decide +kernel
theorem dX11_take_95 : decode cX11_take 95 = .ok (.getfield 28, 3) := by decide +kernel
theorem dX11_take_98 : decode cX11_take 98 = .ok (.iload_n 1, 1) := by decide +kernel
theorem dX11_take_99 : decode cX11_take 99 = .ok (.invokevirtual 351, 3) := by decide +kernel
theorem dX11_take_102 : decode cX11_take 102 = .ok (.aload_n 0, 1) := by decide +kernel
theorem dX11_take_103 : decode cX11_take 103 = .ok (.getfield 28, 3) := by decide +kernel
theorem dX11_take_106 : decode cX11_take 106 = .ok (.getfield 357, 3) := by decide +kernel
theorem dX11_take_109 : decode cX11_take 109 = .ok (.iload_n 2, 1) := by decide +kernel
theorem dX11_take_110 : decode cX11_take 110 = .ok (.iaload, 1) := by decide +kernel
theorem dX11_take_111 : decode cX11_take 111 = .ok (.if_icmp .ne 7, 3) := by decide +kernel
theorem dX11_take_114 : decode cX11_take 114 = .ok (.iconst 1, 1) := by decide +kernel
theorem dX11_take_115 : decode cX11_take 115 = .ok (.goto 4, 3) := by decide +kernel
theorem dX11_take_118 : decode cX11_take 118 = .ok (.iconst 0, 1) := by decide +kernel
theorem dX11_take_119 : decode cX11_take 119 = .ok (.invokestatic 88, 3) := by decide +kernel
theorem dX11_take_122 : decode cX11_take 122 = .ok (.aload_n 0, 1) := by decide +kernel
theorem dX11_take_123 : decode cX11_take 123 = .ok (.getfield 28, 3) := by decide +kernel
theorem dX11_take_126 : decode cX11_take 126 = .ok (.iload_n 1, 1) := by decide +kernel
theorem dX11_take_127 : decode cX11_take 127 = .ok (.iload_n 2, 1) := by decide +kernel
theorem dX11_take_128 : decode cX11_take 128 = .ok (.invokevirtual 360, 3) := by decide +kernel
theorem dX11_take_131 : decode cX11_take 131 = .ok (.aload_n 0, 1) := by decide +kernel
theorem dX11_take_132 : decode cX11_take 132 = .ok (.getfield 28, 3) := by decide +kernel
theorem dX11_take_135 : decode cX11_take 135 = .ok (.dup, 1) := by decide +kernel
theorem dX11_take_136 : decode cX11_take 136 = .ok (.getfield 278, 3) := by decide +kernel
theorem dX11_take_139 : decode cX11_take 139 = .ok (.iconst 1, 1) := by decide +kernel
theorem dX11_take_140 : decode cX11_take 140 = .ok (.iadd, 1) := by decide +kernel
theorem dX11_take_141 : decode cX11_take 141 = .ok (.putfield 278, 3) := by decide +kernel
theorem dX11_take_144 : decode cX11_take 144 = .ok (.aload_n 0, 1) := by decide +kernel
theorem dX11_take_145 : decode cX11_take 145 = .ok (.getfield 28, 3) := by decide +kernel
theorem dX11_take_148 : decode cX11_take 148 = .ok (.getfield 278, 3) := by decide +kernel
theorem dX11_take_151 : decode cX11_take 151 = .ok (.ireturn, 1) := by decide +kernel
theorem dX11_needIndex_0 : decode cX11_needIndex 0 = .ok (.iload_n 0, 1) := by decide +kernel
theorem dX11_needIndex_1 : decode cX11_needIndex 1 = .ok (.ifCond .ne 11, 3) := by decide +kernel
theorem dX11_needIndex_4 : decode cX11_needIndex 4 = .ok (.new 363, 3) := by decide +kernel
theorem dX11_needIndex_7 : decode cX11_needIndex 7 = .ok (.dup, 1) := by decide +kernel
theorem dX11_needIndex_8 : decode cX11_needIndex 8 = .ok (.invokespecial 365, 3) := by decide +kernel
theorem dX11_needIndex_11 : decode cX11_needIndex 11 = .ok (.athrow, 1) := by decide +kernel
theorem dX11_needIndex_12 : decode cX11_needIndex 12 = .ok (.return_, 1) := by decide +kernel
theorem dX11_needArgument_0 : decode cX11_needArgument 0 = .ok (.iload_n 0, 1) := by decide +kernel
theorem dX11_needArgument_1 : decode cX11_needArgument 1 = .ok (.ifCond .ne 11, 3) := by decide +kernel
theorem dX11_needArgument_4 : decode cX11_needArgument 4 = .ok (.new 366, 3) := by decide +kernel
theorem dX11_needArgument_7 : decode cX11_needArgument 7 = .ok (.dup, 1) := by decide +kernel
theorem dX11_needArgument_8 : decode cX11_needArgument 8 = .ok (.invokespecial 368, 3) := by decide +kernel
theorem dX11_needArgument_11 : decode cX11_needArgument 11 = .ok (.athrow, 1) := by decide +kernel
theorem dX11_needArgument_12 : decode cX11_needArgument 12 = .ok (.return_, 1) := by decide +kernel
theorem dX11_needState_0 : decode cX11_needState 0 = .ok (.iload_n 0, 1) := by decide +kernel
theorem dX11_needState_1 : decode cX11_needState 1 = .ok (.ifCond .ne 11, 3) := by decide +kernel
theorem dX11_needState_4 : decode cX11_needState 4 = .ok (.new 369, 3) := by decide +kernel
theorem dX11_needState_7 : decode cX11_needState 7 = .ok (.dup, 1) := by decide +kernel
theorem dX11_needState_8 : decode cX11_needState 8 = .ok (.invokespecial 371, 3) := by decide +kernel
theorem dX11_needState_11 : decode cX11_needState 11 = .ok (.athrow, 1) := by decide +kernel
theorem dX11_needState_12 : decode cX11_needState 12 = .ok (.return_, 1) := by decide +kernel
theorem dX11_isBelow_0 : decode cX11_isBelow 0 = .ok (.iload_n 0, 1) := by decide +kernel
theorem dX11_isBelow_1 : decode cX11_isBelow 1 = .ok (.ifCond .lt 12, 3) := by decide +kernel
theorem dX11_isBelow_4 : decode cX11_isBelow 4 = .ok (.iload_n 0, 1) := by decide +kernel
theorem dX11_isBelow_5 : decode cX11_isBelow 5 = .ok (.iload_n 1, 1) := by decide +kernel
theorem dX11_isBelow_6 : decode cX11_isBelow 6 = .ok (.if_icmp .ge 7, 3) := by decide +kernel
theorem dX11_isBelow_9 : decode cX11_isBelow 9 = .ok (.iconst 1, 1) := by decide +kernel
theorem dX11_isBelow_10 : decode cX11_isBelow 10 = .ok (.goto 4, 3) := by decide +kernel
theorem dX11_isBelow_13 : decode cX11_isBelow 13 = .ok (.iconst 0, 1) := by decide +kernel
theorem dX11_isBelow_14 : decode cX11_isBelow 14 = .ok (.ireturn, 1) := by decide +kernel
theorem dX11_isWithin_0 : decode cX11_isWithin 0 = .ok (.iload_n 0, 1) := by decide +kernel
theorem dX11_isWithin_1 : decode cX11_isWithin 1 = .ok (.iload_n 1, 1) := by decide +kernel
theorem dX11_isWithin_2 : decode cX11_isWithin 2 = .ok (.if_icmp .lt 12, 3) := by decide +kernel
theorem dX11_isWithin_5 : decode cX11_isWithin 5 = .ok (.iload_n 0, 1) := by decide +kernel
theorem dX11_isWithin_6 : decode cX11_isWithin 6 = .ok (.iload_n 2, 1) := by decide +kernel
theorem dX11_isWithin_7 : decode cX11_isWithin 7 = .ok (.if_icmp .gt 7, 3) := by decide +kernel
theorem dX11_isWithin_10 : decode cX11_isWithin 10 = .ok (.iconst 1, 1) := by decide +kernel
theorem dX11_isWithin_11 : decode cX11_isWithin 11 = .ok (.goto 4, 3) := by decide +kernel
theorem dX11_isWithin_14 : decode cX11_isWithin 14 = .ok (.iconst 0, 1) := by decide +kernel
theorem dX11_isWithin_15 : decode cX11_isWithin 15 = .ok (.ireturn, 1) := by decide +kernel
theorem dX11_needStatement_0 : decode cX11_needStatement 0 = .ok (.iload_n 2, 1) := by decide +kernel
theorem dX11_needStatement_1 : decode cX11_needStatement 1 = .ok (.iload_n 1, 1) := by decide +kernel
theorem dX11_needStatement_2 : decode cX11_needStatement 2 = .ok (.bipush 12, 2) := by decide +kernel
theorem dX11_needStatement_4 : decode cX11_needStatement 4 = .ok (.if_icmp .ne 7, 3) := by decide +kernel
theorem dX11_needStatement_7 : decode cX11_needStatement 7 = .ok (.iconst 3, 1) := by decide +kernel
theorem dX11_needStatement_8 : decode cX11_needStatement 8 = .ok (.goto 5, 3) := by decide +kernel
theorem dX11_needStatement_11 : decode cX11_needStatement 11 = .ok (.bipush 10, 2) := by decide +kernel
theorem dX11_needStatement_13 : decode cX11_needStatement 13 = .ok (.invokestatic 64, 3) := by decide +kernel
theorem dX11_needStatement_16 : decode cX11_needStatement 16 = .ok (.invokestatic 68, 3) := by decide +kernel
theorem dX11_needStatement_19 : decode cX11_needStatement 19 = .ok (.iload_n 1, 1) := by decide +kernel
theorem dX11_needStatement_20 : decode cX11_needStatement 20 = .ok (.iconst 5, 1) := by decide +kernel
theorem dX11_needStatement_21 : decode cX11_needStatement 21 = .ok (.if_icmp .eq 9, 3) := by decide +kernel
theorem dX11_needStatement_24 : decode cX11_needStatement 24 = .ok (.iload_n 1, 1) := by decide +kernel
theorem dX11_needStatement_25 : decode cX11_needStatement 25 = .ok (.bipush 6, 2) := by decide +kernel
theorem dX11_needStatement_27 : decode cX11_needStatement 27 = .ok (.if_icmp .ne 12, 3) := by decide +kernel
theorem dX11_needStatement_30 : decode cX11_needStatement 30 = .ok (.iload_n 3, 1) := by decide +kernel
theorem dX11_needStatement_31 : decode cX11_needStatement 31 = .ok (.bipush 10, 2) := by decide +kernel
theorem dX11_needStatement_33 : decode cX11_needStatement 33 = .ok (.invokestatic 64, 3) := by decide +kernel
theorem dX11_needStatement_36 : decode cX11_needStatement 36 = .ok (.ifCond .eq 7, 3) := by decide +kernel
theorem dX11_needStatement_39 : decode cX11_needStatement 39 = .ok (.iconst 1, 1) := by decide +kernel
theorem dX11_needStatement_40 : decode cX11_needStatement 40 = .ok (.goto 4, 3) := by decide +kernel
theorem dX11_needStatement_43 : decode cX11_needStatement 43 = .ok (.iconst 0, 1) := by decide +kernel
theorem dX11_needStatement_44 : decode cX11_needStatement 44 = .ok (.invokestatic 68, 3) := by decide +kernel
theorem dX11_needStatement_47 : decode cX11_needStatement 47 = .ok (.iload_n 1, 1) := by decide +kernel
theorem dX11_needStatement_48 : decode cX11_needStatement 48 = .ok (.iconst 0, 1) := by decide +kernel
theorem dX11_needStatement_49 : decode cX11_needStatement 49 = .ok (.bipush 12, 2) := by decide +kernel
theorem dX11_needStatement_51 : decode cX11_needStatement 51 = .ok (.invokestatic 126, 3) := by decide +kernel
theorem dX11_needStatement_54 : decode cX11_needStatement 54 = .ok (.invokestatic 130, 3) := by decide +kernel
theorem dX11_needStatement_57 : decode cX11_needStatement 57 = .ok (.iload_n 1, 1) := by decide +kernel
theorem dX11_needStatement_58 : decode cX11_needStatement 58 = .ok (.iload_n 3, 1) := by decide +kernel
theorem dX11_needStatement_59 : decode cX11_needStatement 59 = .ok (.invokestatic 372, 3) := by decide +kernel
theorem dX11_needStatement_62 : decode cX11_needStatement 62 = .ok (.ifCond .eq 17, 3) := by decide +kernel
theorem dX11_needStatement_65 : decode cX11_needStatement 65 = .ok (.iload_n 1, 1) := by decide +kernel
theorem dX11_needStatement_66 : decode cX11_needStatement 66 = .ok (.iload_n 3, 1) := by decide +kernel
theorem dX11_needStatement_67 : decode cX11_needStatement 67 = .ok (.iload 4, 2) := by decide +kernel
theorem dX11_needStatement_69 : decode cX11_needStatement 69 = .ok (.invokestatic 375, 3) := by decide +kernel
theorem dX11_needStatement_72 : decode cX11_needStatement 72 = .ok (.ifCond .eq 7, 3) := by decide +kernel
theorem dX11_needStatement_75 : decode cX11_needStatement 75 = .ok (.iconst 1, 1) := by decide +kernel
theorem dX11_needStatement_76 : decode cX11_needStatement 76 = .ok (.goto 4, 3) := by decide +kernel
theorem dX11_needStatement_79 : decode cX11_needStatement 79 = .ok (.iconst 0, 1) := by decide +kernel
theorem dX11_needStatement_80 : decode cX11_needStatement 80 = .ok (.invokestatic 130, 3) := by decide +kernel
theorem dX11_needStatement_83 : decode cX11_needStatement 83 = .ok (.aload_n 0, 1) := by decide +kernel
theorem dX11_needStatement_84 : decode cX11_needStatement 84 = .ok (.getfield 10, 3) := by decide +kernel
theorem dX11_needStatement_87 : decode cX11_needStatement 87 = .ok (.getfield 98, 3) := by decide +kernel
theorem dX11_needStatement_90 : decode cX11_needStatement 90 = .ok (.bipush 30, 2) := by decide +kernel
theorem dX11_needStatement_92 : decode cX11_needStatement 92 = .ok (.if_icmp .ge 7, 3) := by decide +kernel
theorem dX11_needStatement_95 : decode cX11_needStatement 95 = .ok (.iconst 1, 1) := by decide +kernel
theorem dX11_needStatement_96 : decode cX11_needStatement 96 = .ok (.goto 4, 3) := by decide +kernel
theorem dX11_needStatement_99 : decode cX11_needStatement 99 = .ok (.iconst 0, 1) := by decide +kernel
theorem dX11_needStatement_100 : decode cX11_needStatement 100 = .ok (.invokestatic 88, 3) := by decide +kernel
theorem dX11_needStatement_103 : decode cX11_needStatement 103 = .ok (.return_, 1) := by decide +kernel
theorem dX11_isFirstNumber_0 : decode cX11_isFirstNumber 0 = .ok (.iload_n 0, 1) := by decide +kernel
theorem dX11_isFirstNumber_1 : decode cX11_isFirstNumber 1 = .ok (.bipush 7, 2) := by decide +kernel
theorem dX11_isFirstNumber_3 : decode cX11_isFirstNumber 3 = .ok (.if_icmp .gt 11, 3) := by decide +kernel
theorem dX11_isFirstNumber_6 : decode cX11_isFirstNumber 6 = .ok (.iload_n 1, 1) := by decide +kernel
theorem dX11_isFirstNumber_7 : decode cX11_isFirstNumber 7 = .ok (.iconst 0, 1) := by decide +kernel
theorem dX11_isFirstNumber_8 : decode cX11_isFirstNumber 8 = .ok (.bipush 63, 2) := by decide +kernel
theorem dX11_isFirstNumber_10 : decode cX11_isFirstNumber 10 = .ok (.invokestatic 126, 3) := by decide +kernel
theorem dX11_isFirstNumber_13 : decode cX11_isFirstNumber 13 = .ok (.ireturn, 1) := by decide +kernel
theorem dX11_isFirstNumber_14 : decode cX11_isFirstNumber 14 = .ok (.iload_n 0, 1) := by decide +kernel
theorem dX11_isFirstNumber_15 : decode cX11_isFirstNumber 15 = .ok (.bipush 12, 2) := by decide +kernel
theorem dX11_isFirstNumber_17 : decode cX11_isFirstNumber 17 = .ok (.if_icmp .ne 12, 3) := by decide +kernel
theorem dX11_isFirstNumber_20 : decode cX11_isFirstNumber 20 = .ok (.iload_n 1, 1) := by decide +kernel
theorem dX11_isFirstNumber_21 : decode cX11_isFirstNumber 21 = .ok (.iconst 1, 1) := by decide +kernel
theorem dX11_isFirstNumber_22 : decode cX11_isFirstNumber 22 = .ok (.iconst 3, 1) := by decide +kernel
theorem dX11_isFirstNumber_23 : decode cX11_isFirstNumber 23 = .ok (.invokestatic 126, 3) := by decide +kernel
theorem dX11_isFirstNumber_26 : decode cX11_isFirstNumber 26 = .ok (.goto 12, 3) := by decide +kernel
theorem dX11_isFirstNumber_29 : decode cX11_isFirstNumber 29 = .ok (.iload_n 1, 1) := by decide +kernel
theorem dX11_isFirstNumber_30 : decode cX11_isFirstNumber 30 = .ok (.ifCond .ne 7, 3) := by decide +kernel
theorem dX11_isFirstNumber_33 : decode cX11_isFirstNumber 33 = .ok (.iconst 1, 1) := by decide +kernel
theorem dX11_isFirstNumber_34 : decode cX11_isFirstNumber 34 = .ok (.goto 4, 3) := by decide +kernel
theorem dX11_isFirstNumber_37 : decode cX11_isFirstNumber 37 = .ok (.iconst 0, 1) := by decide +kernel
theorem dX11_isFirstNumber_38 : decode cX11_isFirstNumber 38 = .ok (.ireturn, 1) := by decide +kernel
theorem dX11_isSecondNumber_0 : decode cX11_isSecondNumber 0 = .ok (.iload_n 0, 1) := by decide +kernel
theorem dX11_isSecondNumber_1 : decode cX11_isSecondNumber 1 = .ok (.tableswitch 60 1 5 #[35, 43, 60, 60, 51], 35) := by decide +kernel
theorem dX11_isSecondNumber_36 : decode cX11_isSecondNumber 36 = .ok (.iload_n 2, 1) := by decide +kernel
theorem dX11_isSecondNumber_37 : decode cX11_isSecondNumber 37 = .ok (.iload_n 1, 1) := by decide +kernel
theorem dX11_isSecondNumber_38 : decode cX11_isSecondNumber 38 = .ok (.bipush 63, 2) := by decide +kernel
theorem dX11_isSecondNumber_40 : decode cX11_isSecondNumber 40 = .ok (.invokestatic 126, 3) := by decide +kernel
theorem dX11_isSecondNumber_43 : decode cX11_isSecondNumber 43 = .ok (.ireturn, 1) := by decide +kernel
theorem dX11_isSecondNumber_44 : decode cX11_isSecondNumber 44 = .ok (.iload_n 2, 1) := by decide +kernel
theorem dX11_isSecondNumber_45 : decode cX11_isSecondNumber 45 = .ok (.iconst 0, 1) := by decide +kernel
theorem dX11_isSecondNumber_46 : decode cX11_isSecondNumber 46 = .ok (.bipush 63, 2) := by decide +kernel
theorem dX11_isSecondNumber_48 : decode cX11_isSecondNumber 48 = .ok (.invokestatic 126, 3) := by decide +kernel
theorem dX11_isSecondNumber_51 : decode cX11_isSecondNumber 51 = .ok (.ireturn, 1) := by decide +kernel
theorem dX11_isSecondNumber_52 : decode cX11_isSecondNumber 52 = .ok (.iload_n 2, 1) := by decide +kernel
theorem dX11_isSecondNumber_53 : decode cX11_isSecondNumber 53 = .ok (.bipush (-63), 2) := by decide +kernel
theorem dX11_isSecondNumber_55 : decode cX11_isSecondNumber 55 = .ok (.bipush 63, 2) := by decide +kernel
theorem dX11_isSecondNumber_57 : decode cX11_isSecondNumber 57 = .ok (.invokestatic 126, 3) := by decide +kernel
theorem dX11_isSecondNumber_60 : decode cX11_isSecondNumber 60 = .ok (.ireturn, 1) := by decide +kernel
theorem dX11_isSecondNumber_61 : decode cX11_isSecondNumber 61 = .ok (.iload_n 2, 1) := by decide +kernel
theorem dX11_isSecondNumber_62 : decode cX11_isSecondNumber 62 = .ok (.ifCond .ne 7, 3) := by decide +kernel
theorem dX11_isSecondNumber_65 : decode cX11_isSecondNumber 65 = .ok (.iconst 1, 1) := by decide +kernel
theorem dX11_isSecondNumber_66 : decode cX11_isSecondNumber 66 = .ok (.goto 4, 3) := by decide +kernel
theorem dX11_isSecondNumber_69 : decode cX11_isSecondNumber 69 = .ok (.iconst 0, 1) := by decide +kernel
theorem dX11_isSecondNumber_70 : decode cX11_isSecondNumber 70 = .ok (.ireturn, 1) := by decide +kernel
theorem dX11_addStatement_0 : decode cX11_addStatement 0 = .ok (.aload_n 0, 1) := by decide +kernel
theorem dX11_addStatement_1 : decode cX11_addStatement 1 = .ok (.getfield 10, 3) := by decide +kernel
theorem dX11_addStatement_4 : decode cX11_addStatement 4 = .ok (.getfield 102, 3) := by decide +kernel
theorem dX11_addStatement_7 : decode cX11_addStatement 7 = .ok (.aload_n 0, 1) := by decide +kernel
theorem dX11_addStatement_8 : decode cX11_addStatement 8 = .ok (.getfield 10, 3) := by decide +kernel
theorem dX11_addStatement_11 : decode cX11_addStatement 11 = .ok (.getfield 98, 3) := by decide +kernel
theorem dX11_addStatement_14 : decode cX11_addStatement 14 = .ok (.aload_n 1, 1) := by decide +kernel
theorem dX11_addStatement_15 : decode cX11_addStatement 15 = .ok (.aastore, 1) := by decide +kernel
theorem dX11_addStatement_16 : decode cX11_addStatement 16 = .ok (.aload_n 0, 1) := by decide +kernel
theorem dX11_addStatement_17 : decode cX11_addStatement 17 = .ok (.getfield 10, 3) := by decide +kernel
theorem dX11_addStatement_20 : decode cX11_addStatement 20 = .ok (.dup, 1) := by decide +kernel
theorem dX11_addStatement_21 : decode cX11_addStatement 21 = .ok (.getfield 98, 3) := by decide +kernel
theorem dX11_addStatement_24 : decode cX11_addStatement 24 = .ok (.iconst 1, 1) := by decide +kernel
theorem dX11_addStatement_25 : decode cX11_addStatement 25 = .ok (.iadd, 1) := by decide +kernel
theorem dX11_addStatement_26 : decode cX11_addStatement 26 = .ok (.putfield 98, 3) := by decide +kernel
theorem dX11_addStatement_29 : decode cX11_addStatement 29 = .ok (.aload_n 0, 1) := by decide +kernel
theorem dX11_addStatement_30 : decode cX11_addStatement 30 = .ok (.getfield 21, 3) := by decide +kernel
theorem dX11_addStatement_33 : decode cX11_addStatement 33 = .ok (.invokevirtual 91, 3) := by decide +kernel
theorem dX11_addStatement_36 : decode cX11_addStatement 36 = .ok (.aload_n 0, 1) := by decide +kernel
theorem dX11_addStatement_37 : decode cX11_addStatement 37 = .ok (.getfield 10, 3) := by decide +kernel
theorem dX11_addStatement_40 : decode cX11_addStatement 40 = .ok (.getfield 98, 3) := by decide +kernel
theorem dX11_addStatement_43 : decode cX11_addStatement 43 = .ok (.iconst 1, 1) := by decide +kernel
theorem dX11_addStatement_44 : decode cX11_addStatement 44 = .ok (.isub, 1) := by decide +kernel
theorem dX11_addStatement_45 : decode cX11_addStatement 45 = .ok (.ireturn, 1) := by decide +kernel
theorem dJ6_numberOfLeadingZeros_0f7a4_0 : decode cJ6_numberOfLeadingZeros_0f7a4 0 = .ok (.iload_n 0, 1) := by decide +kernel
theorem dJ6_numberOfLeadingZeros_0f7a4_1 : decode cJ6_numberOfLeadingZeros_0f7a4 1 = .ok (.ifCond .gt 14, 3) := by decide +kernel
theorem dJ6_numberOfLeadingZeros_0f7a4_4 : decode cJ6_numberOfLeadingZeros_0f7a4 4 = .ok (.iload_n 0, 1) := by decide +kernel
theorem dJ6_numberOfLeadingZeros_0f7a4_5 : decode cJ6_numberOfLeadingZeros_0f7a4 5 = .ok (.ifCond .ne 8, 3) := by decide +kernel
theorem dJ6_numberOfLeadingZeros_0f7a4_8 : decode cJ6_numberOfLeadingZeros_0f7a4 8 = .ok (.bipush 32, 2) := by decide +kernel
theorem dJ6_numberOfLeadingZeros_0f7a4_10 : decode cJ6_numberOfLeadingZeros_0f7a4 10 = .ok (.goto 4, 3) := by decide +kernel
theorem dJ6_numberOfLeadingZeros_0f7a4_13 : decode cJ6_numberOfLeadingZeros_0f7a4 13 = .ok (.iconst 0, 1) := by decide +kernel
theorem dJ6_numberOfLeadingZeros_0f7a4_14 : decode cJ6_numberOfLeadingZeros_0f7a4 14 = .ok (.ireturn, 1) := by decide +kernel
theorem dJ6_numberOfLeadingZeros_0f7a4_15 : decode cJ6_numberOfLeadingZeros_0f7a4 15 = .ok (.bipush 31, 2) := by decide +kernel
theorem dJ6_numberOfLeadingZeros_0f7a4_17 : decode cJ6_numberOfLeadingZeros_0f7a4 17 = .ok (.istore_n 1, 1) := by decide +kernel
theorem dJ6_numberOfLeadingZeros_0f7a4_18 : decode cJ6_numberOfLeadingZeros_0f7a4 18 = .ok (.iload_n 0, 1) := by decide +kernel
theorem dJ6_numberOfLeadingZeros_0f7a4_19 : decode cJ6_numberOfLeadingZeros_0f7a4 19 = .ok (.ldc_w 264, 3) := by decide +kernel
theorem dJ6_numberOfLeadingZeros_0f7a4_22 : decode cJ6_numberOfLeadingZeros_0f7a4 22 = .ok (.if_icmp .lt 11, 3) := by decide +kernel
theorem dJ6_numberOfLeadingZeros_0f7a4_25 : decode cJ6_numberOfLeadingZeros_0f7a4 25 = .ok (.iinc 1 (-16), 3) := by decide +kernel
theorem dJ6_numberOfLeadingZeros_0f7a4_28 : decode cJ6_numberOfLeadingZeros_0f7a4 28 = .ok (.iload_n 0, 1) := by decide +kernel
theorem dJ6_numberOfLeadingZeros_0f7a4_29 : decode cJ6_numberOfLeadingZeros_0f7a4 29 = .ok (.bipush 16, 2) := by decide +kernel
theorem dJ6_numberOfLeadingZeros_0f7a4_31 : decode cJ6_numberOfLeadingZeros_0f7a4 31 = .ok (.iushr, 1) := by decide +kernel
theorem dJ6_numberOfLeadingZeros_0f7a4_32 : decode cJ6_numberOfLeadingZeros_0f7a4 32 = .ok (.istore_n 0, 1) := by decide +kernel
theorem dJ6_numberOfLeadingZeros_0f7a4_33 : decode cJ6_numberOfLeadingZeros_0f7a4 33 = .ok (.iload_n 0, 1) := by decide +kernel
theorem dJ6_numberOfLeadingZeros_0f7a4_34 : decode cJ6_numberOfLeadingZeros_0f7a4 34 = .ok (.sipush 256, 3) := by decide +kernel
theorem dJ6_numberOfLeadingZeros_0f7a4_37 : decode cJ6_numberOfLeadingZeros_0f7a4 37 = .ok (.if_icmp .lt 11, 3) := by decide +kernel
theorem dJ6_numberOfLeadingZeros_0f7a4_40 : decode cJ6_numberOfLeadingZeros_0f7a4 40 = .ok (.iinc 1 (-8), 3) := by decide +kernel
theorem dJ6_numberOfLeadingZeros_0f7a4_43 : decode cJ6_numberOfLeadingZeros_0f7a4 43 = .ok (.iload_n 0, 1) := by decide +kernel
theorem dJ6_numberOfLeadingZeros_0f7a4_44 : decode cJ6_numberOfLeadingZeros_0f7a4 44 = .ok (.bipush 8, 2) := by decide +kernel
theorem dJ6_numberOfLeadingZeros_0f7a4_46 : decode cJ6_numberOfLeadingZeros_0f7a4 46 = .ok (.iushr, 1) := by decide +kernel
theorem dJ6_numberOfLeadingZeros_0f7a4_47 : decode cJ6_numberOfLeadingZeros_0f7a4 47 = .ok (.istore_n 0, 1) := by decide +kernel
theorem dJ6_numberOfLeadingZeros_0f7a4_48 : decode cJ6_numberOfLeadingZeros_0f7a4 48 = .ok (.iload_n 0, 1) := by decide +kernel
theorem dJ6_numberOfLeadingZeros_0f7a4_49 : decode cJ6_numberOfLeadingZeros_0f7a4 49 = .ok (.bipush 16, 2) := by decide +kernel
theorem dJ6_numberOfLeadingZeros_0f7a4_51 : decode cJ6_numberOfLeadingZeros_0f7a4 51 = .ok (.if_icmp .lt 10, 3) := by decide +kernel
theorem dJ6_numberOfLeadingZeros_0f7a4_54 : decode cJ6_numberOfLeadingZeros_0f7a4 54 = .ok (.iinc 1 (-4), 3) := by decide +kernel
theorem dJ6_numberOfLeadingZeros_0f7a4_57 : decode cJ6_numberOfLeadingZeros_0f7a4 57 = .ok (.iload_n 0, 1) := by decide +kernel
theorem dJ6_numberOfLeadingZeros_0f7a4_58 : decode cJ6_numberOfLeadingZeros_0f7a4 58 = .ok (.iconst 4, 1) := by decide +kernel
theorem dJ6_numberOfLeadingZeros_0f7a4_59 : decode cJ6_numberOfLeadingZeros_0f7a4 59 = .ok (.iushr, 1) := by decide +kernel
theorem dJ6_numberOfLeadingZeros_0f7a4_60 : decode cJ6_numberOfLeadingZeros_0f7a4 60 = .ok (.istore_n 0, 1) := by decide +kernel
theorem dJ6_numberOfLeadingZeros_0f7a4_61 : decode cJ6_numberOfLeadingZeros_0f7a4 61 = .ok (.iload_n 0, 1) := by decide +kernel
theorem dJ6_numberOfLeadingZeros_0f7a4_62 : decode cJ6_numberOfLeadingZeros_0f7a4 62 = .ok (.iconst 4, 1) := by decide +kernel
theorem dJ6_numberOfLeadingZeros_0f7a4_63 : decode cJ6_numberOfLeadingZeros_0f7a4 63 = .ok (.if_icmp .lt 10, 3) := by decide +kernel
theorem dJ6_numberOfLeadingZeros_0f7a4_66 : decode cJ6_numberOfLeadingZeros_0f7a4 66 = .ok (.iinc 1 (-2), 3) := by decide +kernel
theorem dJ6_numberOfLeadingZeros_0f7a4_69 : decode cJ6_numberOfLeadingZeros_0f7a4 69 = .ok (.iload_n 0, 1) := by decide +kernel
theorem dJ6_numberOfLeadingZeros_0f7a4_70 : decode cJ6_numberOfLeadingZeros_0f7a4 70 = .ok (.iconst 2, 1) := by decide +kernel
theorem dJ6_numberOfLeadingZeros_0f7a4_71 : decode cJ6_numberOfLeadingZeros_0f7a4 71 = .ok (.iushr, 1) := by decide +kernel
theorem dJ6_numberOfLeadingZeros_0f7a4_72 : decode cJ6_numberOfLeadingZeros_0f7a4 72 = .ok (.istore_n 0, 1) := by decide +kernel
theorem dJ6_numberOfLeadingZeros_0f7a4_73 : decode cJ6_numberOfLeadingZeros_0f7a4 73 = .ok (.iload_n 1, 1) := by decide +kernel
theorem dJ6_numberOfLeadingZeros_0f7a4_74 : decode cJ6_numberOfLeadingZeros_0f7a4 74 = .ok (.iload_n 0, 1) := by decide +kernel
theorem dJ6_numberOfLeadingZeros_0f7a4_75 : decode cJ6_numberOfLeadingZeros_0f7a4 75 = .ok (.iconst 1, 1) := by decide +kernel
theorem dJ6_numberOfLeadingZeros_0f7a4_76 : decode cJ6_numberOfLeadingZeros_0f7a4 76 = .ok (.iushr, 1) := by decide +kernel
theorem dJ6_numberOfLeadingZeros_0f7a4_77 : decode cJ6_numberOfLeadingZeros_0f7a4 77 = .ok (.isub, 1) := by decide +kernel
theorem dJ6_numberOfLeadingZeros_0f7a4_78 : decode cJ6_numberOfLeadingZeros_0f7a4 78 = .ok (.ireturn, 1) := by decide +kernel
theorem dJ6_numberOfTrailingZeros_0f7a4_0 : decode cJ6_numberOfTrailingZeros_0f7a4 0 = .ok (.iload_n 0, 1) := by decide +kernel
theorem dJ6_numberOfTrailingZeros_0f7a4_1 : decode cJ6_numberOfTrailingZeros_0f7a4 1 = .ok (.iconst (-1), 1) := by decide +kernel
theorem dJ6_numberOfTrailingZeros_0f7a4_2 : decode cJ6_numberOfTrailingZeros_0f7a4 2 = .ok (.ixor, 1) := by decide +kernel
theorem dJ6_numberOfTrailingZeros_0f7a4_3 : decode cJ6_numberOfTrailingZeros_0f7a4 3 = .ok (.iload_n 0, 1) := by decide +kernel
theorem dJ6_numberOfTrailingZeros_0f7a4_4 : decode cJ6_numberOfTrailingZeros_0f7a4 4 = .ok (.iconst 1, 1) := by decide +kernel
theorem dJ6_numberOfTrailingZeros_0f7a4_5 : decode cJ6_numberOfTrailingZeros_0f7a4 5 = .ok (.isub, 1) := by decide +kernel
theorem dJ6_numberOfTrailingZeros_0f7a4_6 : decode cJ6_numberOfTrailingZeros_0f7a4 6 = .ok (.iand, 1) := by decide +kernel
theorem dJ6_numberOfTrailingZeros_0f7a4_7 : decode cJ6_numberOfTrailingZeros_0f7a4 7 = .ok (.istore_n 0, 1) := by decide +kernel
theorem dJ6_numberOfTrailingZeros_0f7a4_8 : decode cJ6_numberOfTrailingZeros_0f7a4 8 = .ok (.iload_n 0, 1) := by decide +kernel
theorem dJ6_numberOfTrailingZeros_0f7a4_9 : decode cJ6_numberOfTrailingZeros_0f7a4 9 = .ok (.ifCond .gt 8, 3) := by decide +kernel
theorem dJ6_numberOfTrailingZeros_0f7a4_12 : decode cJ6_numberOfTrailingZeros_0f7a4 12 = .ok (.iload_n 0, 1) := by decide +kernel
theorem dJ6_numberOfTrailingZeros_0f7a4_13 : decode cJ6_numberOfTrailingZeros_0f7a4 13 = .ok (.bipush 32, 2) := by decide +kernel
theorem dJ6_numberOfTrailingZeros_0f7a4_15 : decode cJ6_numberOfTrailingZeros_0f7a4 15 = .ok (.iand, 1) := by decide +kernel
theorem dJ6_numberOfTrailingZeros_0f7a4_16 : decode cJ6_numberOfTrailingZeros_0f7a4 16 = .ok (.ireturn, 1) := by decide +kernel
theorem dJ6_numberOfTrailingZeros_0f7a4_17 : decode cJ6_numberOfTrailingZeros_0f7a4 17 = .ok (.iconst 1, 1) := by decide +kernel
theorem dJ6_numberOfTrailingZeros_0f7a4_18 : decode cJ6_numberOfTrailingZeros_0f7a4 18 = .ok (.istore_n 1, 1) := by decide +kernel
theorem dJ6_numberOfTrailingZeros_0f7a4_19 : decode cJ6_numberOfTrailingZeros_0f7a4 19 = .ok (.iload_n 0, 1) := by decide +kernel
theorem dJ6_numberOfTrailingZeros_0f7a4_20 : decode cJ6_numberOfTrailingZeros_0f7a4 20 = .ok (.ldc_w 264, 3) := by decide +kernel
theorem dJ6_numberOfTrailingZeros_0f7a4_23 : decode cJ6_numberOfTrailingZeros_0f7a4 23 = .ok (.if_icmp .le 11, 3) := by decide +kernel
theorem dJ6_numberOfTrailingZeros_0f7a4_26 : decode cJ6_numberOfTrailingZeros_0f7a4 26 = .ok (.iinc 1 16, 3) := by decide +kernel
theorem dJ6_numberOfTrailingZeros_0f7a4_29 : decode cJ6_numberOfTrailingZeros_0f7a4 29 = .ok (.iload_n 0, 1) := by decide +kernel
theorem dJ6_numberOfTrailingZeros_0f7a4_30 : decode cJ6_numberOfTrailingZeros_0f7a4 30 = .ok (.bipush 16, 2) := by decide +kernel
theorem dJ6_numberOfTrailingZeros_0f7a4_32 : decode cJ6_numberOfTrailingZeros_0f7a4 32 = .ok (.iushr, 1) := by decide +kernel
theorem dJ6_numberOfTrailingZeros_0f7a4_33 : decode cJ6_numberOfTrailingZeros_0f7a4 33 = .ok (.istore_n 0, 1) := by decide +kernel
theorem dJ6_numberOfTrailingZeros_0f7a4_34 : decode cJ6_numberOfTrailingZeros_0f7a4 34 = .ok (.iload_n 0, 1) := by decide +kernel
theorem dJ6_numberOfTrailingZeros_0f7a4_35 : decode cJ6_numberOfTrailingZeros_0f7a4 35 = .ok (.sipush 256, 3) := by decide +kernel
theorem dJ6_numberOfTrailingZeros_0f7a4_38 : decode cJ6_numberOfTrailingZeros_0f7a4 38 = .ok (.if_icmp .le 11, 3) := by decide +kernel
theorem dJ6_numberOfTrailingZeros_0f7a4_41 : decode cJ6_numberOfTrailingZeros_0f7a4 41 = .ok (.iinc 1 8, 3) := by decide +kernel
theorem dJ6_numberOfTrailingZeros_0f7a4_44 : decode cJ6_numberOfTrailingZeros_0f7a4 44 = .ok (.iload_n 0, 1) := by decide +kernel
theorem dJ6_numberOfTrailingZeros_0f7a4_45 : decode cJ6_numberOfTrailingZeros_0f7a4 45 = .ok (.bipush 8, 2) := by decide +kernel
theorem dJ6_numberOfTrailingZeros_0f7a4_47 : decode cJ6_numberOfTrailingZeros_0f7a4 47 = .ok (.iushr, 1) := by decide +kernel
theorem dJ6_numberOfTrailingZeros_0f7a4_48 : decode cJ6_numberOfTrailingZeros_0f7a4 48 = .ok (.istore_n 0, 1) := by decide +kernel
theorem dJ6_numberOfTrailingZeros_0f7a4_49 : decode cJ6_numberOfTrailingZeros_0f7a4 49 = .ok (.iload_n 0, 1) := by decide +kernel
theorem dJ6_numberOfTrailingZeros_0f7a4_50 : decode cJ6_numberOfTrailingZeros_0f7a4 50 = .ok (.bipush 16, 2) := by decide +kernel
theorem dJ6_numberOfTrailingZeros_0f7a4_52 : decode cJ6_numberOfTrailingZeros_0f7a4 52 = .ok (.if_icmp .le 10, 3) := by decide +kernel
theorem dJ6_numberOfTrailingZeros_0f7a4_55 : decode cJ6_numberOfTrailingZeros_0f7a4 55 = .ok (.iinc 1 4, 3) := by decide +kernel
theorem dJ6_numberOfTrailingZeros_0f7a4_58 : decode cJ6_numberOfTrailingZeros_0f7a4 58 = .ok (.iload_n 0, 1) := by decide +kernel
theorem dJ6_numberOfTrailingZeros_0f7a4_59 : decode cJ6_numberOfTrailingZeros_0f7a4 59 = .ok (.iconst 4, 1) := by decide +kernel
theorem dJ6_numberOfTrailingZeros_0f7a4_60 : decode cJ6_numberOfTrailingZeros_0f7a4 60 = .ok (.iushr, 1) := by decide +kernel
theorem dJ6_numberOfTrailingZeros_0f7a4_61 : decode cJ6_numberOfTrailingZeros_0f7a4 61 = .ok (.istore_n 0, 1) := by decide +kernel
theorem dJ6_numberOfTrailingZeros_0f7a4_62 : decode cJ6_numberOfTrailingZeros_0f7a4 62 = .ok (.iload_n 0, 1) := by decide +kernel
theorem dJ6_numberOfTrailingZeros_0f7a4_63 : decode cJ6_numberOfTrailingZeros_0f7a4 63 = .ok (.iconst 4, 1) := by decide +kernel
theorem dJ6_numberOfTrailingZeros_0f7a4_64 : decode cJ6_numberOfTrailingZeros_0f7a4 64 = .ok (.if_icmp .le 10, 3) := by decide +kernel
theorem dJ6_numberOfTrailingZeros_0f7a4_67 : decode cJ6_numberOfTrailingZeros_0f7a4 67 = .ok (.iinc 1 2, 3) := by decide +kernel
theorem dJ6_numberOfTrailingZeros_0f7a4_70 : decode cJ6_numberOfTrailingZeros_0f7a4 70 = .ok (.iload_n 0, 1) := by decide +kernel
theorem dJ6_numberOfTrailingZeros_0f7a4_71 : decode cJ6_numberOfTrailingZeros_0f7a4 71 = .ok (.iconst 2, 1) := by decide +kernel
theorem dJ6_numberOfTrailingZeros_0f7a4_72 : decode cJ6_numberOfTrailingZeros_0f7a4 72 = .ok (.iushr, 1) := by decide +kernel
theorem dJ6_numberOfTrailingZeros_0f7a4_73 : decode cJ6_numberOfTrailingZeros_0f7a4 73 = .ok (.istore_n 0, 1) := by decide +kernel
theorem dJ6_numberOfTrailingZeros_0f7a4_74 : decode cJ6_numberOfTrailingZeros_0f7a4 74 = .ok (.iload_n 1, 1) := by decide +kernel
theorem dJ6_numberOfTrailingZeros_0f7a4_75 : decode cJ6_numberOfTrailingZeros_0f7a4 75 = .ok (.iload_n 0, 1) := by decide +kernel
theorem dJ6_numberOfTrailingZeros_0f7a4_76 : decode cJ6_numberOfTrailingZeros_0f7a4 76 = .ok (.iconst 1, 1) := by decide +kernel
theorem dJ6_numberOfTrailingZeros_0f7a4_77 : decode cJ6_numberOfTrailingZeros_0f7a4 77 = .ok (.iushr, 1) := by decide +kernel
theorem dJ6_numberOfTrailingZeros_0f7a4_78 : decode cJ6_numberOfTrailingZeros_0f7a4 78 = .ok (.iadd, 1) := by decide +kernel
theorem dJ6_numberOfTrailingZeros_0f7a4_79 : decode cJ6_numberOfTrailingZeros_0f7a4 79 = .ok (.ireturn, 1) := by decide +kernel
theorem dJ13_numberOfLeadingZeros_95d88_0 : decode cJ13_numberOfLeadingZeros_95d88 0 = .ok (.lload_n 0, 1) := by decide +kernel
theorem dJ13_numberOfLeadingZeros_95d88_1 : decode cJ13_numberOfLeadingZeros_95d88 1 = .ok (.bipush 32, 2) := by decide +kernel
theorem dJ13_numberOfLeadingZeros_95d88_3 : decode cJ13_numberOfLeadingZeros_95d88 3 = .ok (.lushr, 1) := by decide +kernel
theorem dJ13_numberOfLeadingZeros_95d88_4 : decode cJ13_numberOfLeadingZeros_95d88 4 = .ok (.l2i, 1) := by decide +kernel
theorem dJ13_numberOfLeadingZeros_95d88_5 : decode cJ13_numberOfLeadingZeros_95d88 5 = .ok (.istore_n 2, 1) := by decide +kernel
theorem dJ13_numberOfLeadingZeros_95d88_6 : decode cJ13_numberOfLeadingZeros_95d88 6 = .ok (.iload_n 2, 1) := by decide +kernel
theorem dJ13_numberOfLeadingZeros_95d88_7 : decode cJ13_numberOfLeadingZeros_95d88 7 = .ok (.ifCond .ne 14, 3) := by decide +kernel
theorem dJ13_numberOfLeadingZeros_95d88_10 : decode cJ13_numberOfLeadingZeros_95d88 10 = .ok (.bipush 32, 2) := by decide +kernel
theorem dJ13_numberOfLeadingZeros_95d88_12 : decode cJ13_numberOfLeadingZeros_95d88 12 = .ok (.lload_n 0, 1) := by decide +kernel
theorem dJ13_numberOfLeadingZeros_95d88_13 : decode cJ13_numberOfLeadingZeros_95d88 13 = .ok (.l2i, 1) := by decide +kernel
theorem dJ13_numberOfLeadingZeros_95d88_14 : decode cJ13_numberOfLeadingZeros_95d88 14 = .ok (.invokestatic 308, 3) := by decide +kernel
theorem dJ13_numberOfLeadingZeros_95d88_17 : decode cJ13_numberOfLeadingZeros_95d88 17 = .ok (.iadd, 1) := by decide +kernel
theorem dJ13_numberOfLeadingZeros_95d88_18 : decode cJ13_numberOfLeadingZeros_95d88 18 = .ok (.goto 7, 3) := by decide +kernel
theorem dJ13_numberOfLeadingZeros_95d88_21 : decode cJ13_numberOfLeadingZeros_95d88 21 = .ok (.iload_n 2, 1) := by decide +kernel
theorem dJ13_numberOfLeadingZeros_95d88_22 : decode cJ13_numberOfLeadingZeros_95d88 22 = .ok (.invokestatic 308, 3) := by decide +kernel
theorem dJ13_numberOfLeadingZeros_95d88_25 : decode cJ13_numberOfLeadingZeros_95d88 25 = .ok (.ireturn, 1) := by decide +kernel
theorem dJ13_numberOfTrailingZeros_95d88_0 : decode cJ13_numberOfTrailingZeros_95d88 0 = .ok (.lload_n 0, 1) := by decide +kernel
theorem dJ13_numberOfTrailingZeros_95d88_1 : decode cJ13_numberOfTrailingZeros_95d88 1 = .ok (.l2i, 1) := by decide +kernel
theorem dJ13_numberOfTrailingZeros_95d88_2 : decode cJ13_numberOfTrailingZeros_95d88 2 = .ok (.istore_n 2, 1) := by decide +kernel
theorem dJ13_numberOfTrailingZeros_95d88_3 : decode cJ13_numberOfTrailingZeros_95d88 3 = .ok (.iload_n 2, 1) := by decide +kernel
theorem dJ13_numberOfTrailingZeros_95d88_4 : decode cJ13_numberOfTrailingZeros_95d88 4 = .ok (.ifCond .ne 17, 3) := by decide +kernel
theorem dJ13_numberOfTrailingZeros_95d88_7 : decode cJ13_numberOfTrailingZeros_95d88 7 = .ok (.bipush 32, 2) := by decide +kernel
theorem dJ13_numberOfTrailingZeros_95d88_9 : decode cJ13_numberOfTrailingZeros_95d88 9 = .ok (.lload_n 0, 1) := by decide +kernel
theorem dJ13_numberOfTrailingZeros_95d88_10 : decode cJ13_numberOfTrailingZeros_95d88 10 = .ok (.bipush 32, 2) := by decide +kernel
theorem dJ13_numberOfTrailingZeros_95d88_12 : decode cJ13_numberOfTrailingZeros_95d88 12 = .ok (.lushr, 1) := by decide +kernel
theorem dJ13_numberOfTrailingZeros_95d88_13 : decode cJ13_numberOfTrailingZeros_95d88 13 = .ok (.l2i, 1) := by decide +kernel
theorem dJ13_numberOfTrailingZeros_95d88_14 : decode cJ13_numberOfTrailingZeros_95d88 14 = .ok (.invokestatic 311, 3) := by decide +kernel
theorem dJ13_numberOfTrailingZeros_95d88_17 : decode cJ13_numberOfTrailingZeros_95d88 17 = .ok (.iadd, 1) := by decide +kernel
theorem dJ13_numberOfTrailingZeros_95d88_18 : decode cJ13_numberOfTrailingZeros_95d88 18 = .ok (.goto 7, 3) := by decide +kernel
theorem dJ13_numberOfTrailingZeros_95d88_21 : decode cJ13_numberOfTrailingZeros_95d88 21 = .ok (.iload_n 2, 1) := by decide +kernel
theorem dJ13_numberOfTrailingZeros_95d88_22 : decode cJ13_numberOfTrailingZeros_95d88 22 = .ok (.invokestatic 311, 3) := by decide +kernel
theorem dJ13_numberOfTrailingZeros_95d88_25 : decode cJ13_numberOfTrailingZeros_95d88 25 = .ok (.ireturn, 1) := by decide +kernel
theorem dJ13_bitCount_95d88_0 : decode cJ13_bitCount_95d88 0 = .ok (.lload_n 0, 1) := by decide +kernel
theorem dJ13_bitCount_95d88_1 : decode cJ13_bitCount_95d88 1 = .ok (.lload_n 0, 1) := by decide +kernel
theorem dJ13_bitCount_95d88_2 : decode cJ13_bitCount_95d88 2 = .ok (.iconst 1, 1) := by decide +kernel
theorem dJ13_bitCount_95d88_3 : decode cJ13_bitCount_95d88 3 = .ok (.lushr, 1) := by decide +kernel
theorem dJ13_bitCount_95d88_4 : decode cJ13_bitCount_95d88 4 = .ok (.ldc2_w 314, 3) := by decide +kernel
theorem dJ13_bitCount_95d88_7 : decode cJ13_bitCount_95d88 7 = .ok (.land, 1) := by decide +kernel
theorem dJ13_bitCount_95d88_8 : decode cJ13_bitCount_95d88 8 = .ok (.lsub, 1) := by decide +kernel
theorem dJ13_bitCount_95d88_9 : decode cJ13_bitCount_95d88 9 = .ok (.lstore_n 0, 1) := by decide +kernel
theorem dJ13_bitCount_95d88_10 : decode cJ13_bitCount_95d88 10 = .ok (.lload_n 0, 1) := by decide +kernel
theorem dJ13_bitCount_95d88_11 : decode cJ13_bitCount_95d88 11 = .ok (.ldc2_w 316, 3) := by decide +kernel
theorem dJ13_bitCount_95d88_14 : decode cJ13_bitCount_95d88 14 = .ok (.land, 1) := by decide +kernel
theorem dJ13_bitCount_95d88_15 : decode cJ13_bitCount_95d88 15 = .ok (.lload_n 0, 1) := by decide +kernel
theorem dJ13_bitCount_95d88_16 : decode cJ13_bitCount_95d88 16 = .ok (.iconst 2, 1) := by decide +kernel
theorem dJ13_bitCount_95d88_17 : decode cJ13_bitCount_95d88 17 = .ok (.lushr, 1) := by decide +kernel
theorem dJ13_bitCount_95d88_18 : decode cJ13_bitCount_95d88 18 = .ok (.ldc2_w 316, 3) := by decide +kernel
theorem dJ13_bitCount_95d88_21 : decode cJ13_bitCount_95d88 21 = .ok (.land, 1) := by decide +kernel
theorem dJ13_bitCount_95d88_22 : decode cJ13_bitCount_95d88 22 = .ok (.ladd, 1) := by decide +kernel
theorem dJ13_bitCount_95d88_23 : decode cJ13_bitCount_95d88 23 = .ok (.lstore_n 0, 1) := by decide +kernel
theorem dJ13_bitCount_95d88_24 : decode cJ13_bitCount_95d88 24 = .ok (.lload_n 0, 1) := by decide +kernel
theorem dJ13_bitCount_95d88_25 : decode cJ13_bitCount_95d88 25 = .ok (.lload_n 0, 1) := by decide +kernel
theorem dJ13_bitCount_95d88_26 : decode cJ13_bitCount_95d88 26 = .ok (.iconst 4, 1) := by decide +kernel
theorem dJ13_bitCount_95d88_27 : decode cJ13_bitCount_95d88 27 = .ok (.lushr, 1) := by decide +kernel
theorem dJ13_bitCount_95d88_28 : decode cJ13_bitCount_95d88 28 = .ok (.ladd, 1) := by decide +kernel
theorem dJ13_bitCount_95d88_29 : decode cJ13_bitCount_95d88 29 = .ok (.ldc2_w 318, 3) := by decide +kernel
theorem dJ13_bitCount_95d88_32 : decode cJ13_bitCount_95d88 32 = .ok (.land, 1) := by decide +kernel
theorem dJ13_bitCount_95d88_33 : decode cJ13_bitCount_95d88 33 = .ok (.lstore_n 0, 1) := by decide +kernel
theorem dJ13_bitCount_95d88_34 : decode cJ13_bitCount_95d88 34 = .ok (.lload_n 0, 1) := by decide +kernel
theorem dJ13_bitCount_95d88_35 : decode cJ13_bitCount_95d88 35 = .ok (.lload_n 0, 1) := by decide +kernel
theorem dJ13_bitCount_95d88_36 : decode cJ13_bitCount_95d88 36 = .ok (.bipush 8, 2) := by decide +kernel
theorem dJ13_bitCount_95d88_38 : decode cJ13_bitCount_95d88 38 = .ok (.lushr, 1) := by decide +kernel
theorem dJ13_bitCount_95d88_39 : decode cJ13_bitCount_95d88 39 = .ok (.ladd, 1) := by decide +kernel
theorem dJ13_bitCount_95d88_40 : decode cJ13_bitCount_95d88 40 = .ok (.lstore_n 0, 1) := by decide +kernel
theorem dJ13_bitCount_95d88_41 : decode cJ13_bitCount_95d88 41 = .ok (.lload_n 0, 1) := by decide +kernel
theorem dJ13_bitCount_95d88_42 : decode cJ13_bitCount_95d88 42 = .ok (.lload_n 0, 1) := by decide +kernel
theorem dJ13_bitCount_95d88_43 : decode cJ13_bitCount_95d88 43 = .ok (.bipush 16, 2) := by decide +kernel
theorem dJ13_bitCount_95d88_45 : decode cJ13_bitCount_95d88 45 = .ok (.lushr, 1) := by decide +kernel
theorem dJ13_bitCount_95d88_46 : decode cJ13_bitCount_95d88 46 = .ok (.ladd, 1) := by decide +kernel
theorem dJ13_bitCount_95d88_47 : decode cJ13_bitCount_95d88 47 = .ok (.lstore_n 0, 1) := by decide +kernel
theorem dJ13_bitCount_95d88_48 : decode cJ13_bitCount_95d88 48 = .ok (.lload_n 0, 1) := by decide +kernel
theorem dJ13_bitCount_95d88_49 : decode cJ13_bitCount_95d88 49 = .ok (.lload_n 0, 1) := by decide +kernel
theorem dJ13_bitCount_95d88_50 : decode cJ13_bitCount_95d88 50 = .ok (.bipush 32, 2) := by decide +kernel
theorem dJ13_bitCount_95d88_52 : decode cJ13_bitCount_95d88 52 = .ok (.lushr, 1) := by decide +kernel
theorem dJ13_bitCount_95d88_53 : decode cJ13_bitCount_95d88 53 = .ok (.ladd, 1) := by decide +kernel
theorem dJ13_bitCount_95d88_54 : decode cJ13_bitCount_95d88 54 = .ok (.lstore_n 0, 1) := by decide +kernel
theorem dJ13_bitCount_95d88_55 : decode cJ13_bitCount_95d88 55 = .ok (.lload_n 0, 1) := by decide +kernel
theorem dJ13_bitCount_95d88_56 : decode cJ13_bitCount_95d88 56 = .ok (.l2i, 1) := by decide +kernel
theorem dJ13_bitCount_95d88_57 : decode cJ13_bitCount_95d88 57 = .ok (.bipush 127, 2) := by decide +kernel
theorem dJ13_bitCount_95d88_59 : decode cJ13_bitCount_95d88 59 = .ok (.iand, 1) := by decide +kernel
theorem dJ13_bitCount_95d88_60 : decode cJ13_bitCount_95d88 60 = .ok (.ireturn, 1) := by decide +kernel
theorem dJ9_min_7cf53_0 : decode cJ9_min_7cf53 0 = .ok (.iload_n 0, 1) := by decide +kernel
theorem dJ9_min_7cf53_1 : decode cJ9_min_7cf53 1 = .ok (.iload_n 1, 1) := by decide +kernel
theorem dJ9_min_7cf53_2 : decode cJ9_min_7cf53 2 = .ok (.if_icmp .gt 7, 3) := by decide +kernel
theorem dJ9_min_7cf53_5 : decode cJ9_min_7cf53 5 = .ok (.iload_n 0, 1) := by decide +kernel
theorem dJ9_min_7cf53_6 : decode cJ9_min_7cf53 6 = .ok (.goto 4, 3) := by decide +kernel
theorem dJ9_min_7cf53_9 : decode cJ9_min_7cf53 9 = .ok (.iload_n 1, 1) := by decide +kernel
theorem dJ9_min_7cf53_10 : decode cJ9_min_7cf53 10 = .ok (.ireturn, 1) := by decide +kernel
theorem dJ7_fill_d0a16_0 : decode cJ7_fill_d0a16 0 = .ok (.iconst 0, 1) := by decide +kernel
theorem dJ7_fill_d0a16_1 : decode cJ7_fill_d0a16 1 = .ok (.istore_n 3, 1) := by decide +kernel
theorem dJ7_fill_d0a16_2 : decode cJ7_fill_d0a16 2 = .ok (.aload_n 0, 1) := by decide +kernel
theorem dJ7_fill_d0a16_3 : decode cJ7_fill_d0a16 3 = .ok (.arraylength, 1) := by decide +kernel
theorem dJ7_fill_d0a16_4 : decode cJ7_fill_d0a16 4 = .ok (.istore 4, 2) := by decide +kernel
theorem dJ7_fill_d0a16_6 : decode cJ7_fill_d0a16 6 = .ok (.iload_n 3, 1) := by decide +kernel
theorem dJ7_fill_d0a16_7 : decode cJ7_fill_d0a16 7 = .ok (.iload 4, 2) := by decide +kernel
theorem dJ7_fill_d0a16_9 : decode cJ7_fill_d0a16 9 = .ok (.if_icmp .ge 13, 3) := by decide +kernel
theorem dJ7_fill_d0a16_12 : decode cJ7_fill_d0a16 12 = .ok (.aload_n 0, 1) := by decide +kernel
theorem dJ7_fill_d0a16_13 : decode cJ7_fill_d0a16 13 = .ok (.iload_n 3, 1) := by decide +kernel
theorem dJ7_fill_d0a16_14 : decode cJ7_fill_d0a16 14 = .ok (.lload_n 1, 1) := by decide +kernel
theorem dJ7_fill_d0a16_15 : decode cJ7_fill_d0a16 15 = .ok (.lastore, 1) := by decide +kernel
theorem dJ7_fill_d0a16_16 : decode cJ7_fill_d0a16 16 = .ok (.iinc 3 1, 3) := by decide +kernel
theorem dJ7_fill_d0a16_19 : decode cJ7_fill_d0a16 19 = .ok (.goto (-13), 3) := by decide +kernel
theorem dJ7_fill_d0a16_22 : decode cJ7_fill_d0a16 22 = .ok (.return_, 1) := by decide +kernel
theorem dJ7_fill_53178_0 : decode cJ7_fill_53178 0 = .ok (.iconst 0, 1) := by decide +kernel
theorem dJ7_fill_53178_1 : decode cJ7_fill_53178 1 = .ok (.istore_n 2, 1) := by decide +kernel
theorem dJ7_fill_53178_2 : decode cJ7_fill_53178 2 = .ok (.aload_n 0, 1) := by decide +kernel
theorem dJ7_fill_53178_3 : decode cJ7_fill_53178 3 = .ok (.arraylength, 1) := by decide +kernel
theorem dJ7_fill_53178_4 : decode cJ7_fill_53178 4 = .ok (.istore_n 3, 1) := by decide +kernel
theorem dJ7_fill_53178_5 : decode cJ7_fill_53178 5 = .ok (.iload_n 2, 1) := by decide +kernel
theorem dJ7_fill_53178_6 : decode cJ7_fill_53178 6 = .ok (.iload_n 3, 1) := by decide +kernel
theorem dJ7_fill_53178_7 : decode cJ7_fill_53178 7 = .ok (.if_icmp .ge 13, 3) := by decide +kernel
theorem dJ7_fill_53178_10 : decode cJ7_fill_53178 10 = .ok (.aload_n 0, 1) := by decide +kernel
theorem dJ7_fill_53178_11 : decode cJ7_fill_53178 11 = .ok (.iload_n 2, 1) := by decide +kernel
theorem dJ7_fill_53178_12 : decode cJ7_fill_53178 12 = .ok (.iload_n 1, 1) := by decide +kernel
theorem dJ7_fill_53178_13 : decode cJ7_fill_53178 13 = .ok (.iastore, 1) := by decide +kernel
theorem dJ7_fill_53178_14 : decode cJ7_fill_53178 14 = .ok (.iinc 2 1, 3) := by decide +kernel
theorem dJ7_fill_53178_17 : decode cJ7_fill_53178 17 = .ok (.goto (-12), 3) := by decide +kernel
theorem dJ7_fill_53178_20 : decode cJ7_fill_53178 20 = .ok (.return_, 1) := by decide +kernel
theorem dJ7_copyOf_59c91_0 : decode cJ7_copyOf_59c91 0 = .ok (.iload_n 1, 1) := by decide +kernel
theorem dJ7_copyOf_59c91_1 : decode cJ7_copyOf_59c91 1 = .ok (.aload_n 0, 1) := by decide +kernel
theorem dJ7_copyOf_59c91_2 : decode cJ7_copyOf_59c91 2 = .ok (.arraylength, 1) := by decide +kernel
theorem dJ7_copyOf_59c91_3 : decode cJ7_copyOf_59c91 3 = .ok (.if_icmp .ne 11, 3) := by decide +kernel
theorem dJ7_copyOf_59c91_6 : decode cJ7_copyOf_59c91 6 = .ok (.aload_n 0, 1) := by decide +kernel
theorem dJ7_copyOf_59c91_7 : decode cJ7_copyOf_59c91 7 = .ok (.invokevirtual 316, 3) := by decide +kernel
theorem dJ7_copyOf_59c91_10 : decode cJ7_copyOf_59c91 10 = .ok (.checkcast 317, 3) := by decide +kernel
theorem dJ7_copyOf_59c91_13 : decode cJ7_copyOf_59c91 13 = .ok (.areturn, 1) := by decide +kernel
theorem dJ7_copyOf_59c91_14 : decode cJ7_copyOf_59c91 14 = .ok (.iload_n 1, 1) := by decide +kernel
theorem dJ7_copyOf_59c91_15 : decode cJ7_copyOf_59c91 15 = .ok (.newarray .int, 2) := by decide +kernel
theorem dJ7_copyOf_59c91_17 : decode cJ7_copyOf_59c91 17 = .ok (.astore_n 2, 1) := by decide +kernel
theorem dJ7_copyOf_59c91_18 : decode cJ7_copyOf_59c91 18 = .ok (.aload_n 0, 1) := by decide +kernel
theorem dJ7_copyOf_59c91_19 : decode cJ7_copyOf_59c91 19 = .ok (.iconst 0, 1) := by decide +kernel
theorem dJ7_copyOf_59c91_20 : decode cJ7_copyOf_59c91 20 = .ok (.aload_n 2, 1) := by decide +kernel
theorem dJ7_copyOf_59c91_21 : decode cJ7_copyOf_59c91 21 = .ok (.iconst 0, 1) := by decide +kernel
theorem dJ7_copyOf_59c91_22 : decode cJ7_copyOf_59c91 22 = .ok (.aload_n 0, 1) := by decide +kernel
theorem dJ7_copyOf_59c91_23 : decode cJ7_copyOf_59c91 23 = .ok (.arraylength, 1) := by decide +kernel
theorem dJ7_copyOf_59c91_24 : decode cJ7_copyOf_59c91 24 = .ok (.iload_n 1, 1) := by decide +kernel
theorem dJ7_copyOf_59c91_25 : decode cJ7_copyOf_59c91 25 = .ok (.invokestatic 304, 3) := by decide +kernel
theorem dJ7_copyOf_59c91_28 : decode cJ7_copyOf_59c91 28 = .ok (.invokestatic 150, 3) := by decide +kernel
theorem dJ7_copyOf_59c91_31 : decode cJ7_copyOf_59c91 31 = .ok (.aload_n 2, 1) := by decide +kernel
theorem dJ7_copyOf_59c91_32 : decode cJ7_copyOf_59c91 32 = .ok (.areturn, 1) := by decide +kernel
