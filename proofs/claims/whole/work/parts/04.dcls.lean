theorem dX0_init_0 : decode cX0_init 0 = .ok (.aload_n 0, 1) := by decide +kernel
theorem dX0_init_1 : decode cX0_init 1 = .ok (.invokespecial 3, 3) := by decide +kernel
theorem dX0_init_4 : decode cX0_init 4 = .ok (.aload_n 0, 1) := by decide +kernel
theorem dX0_init_5 : decode cX0_init 5 = .ok (.bipush 7, 2) := by decide +kernel
theorem dX0_init_7 : decode cX0_init 7 = .ok (.putfield 9, 3) := by decide +kernel
theorem dX0_init_10 : decode cX0_init 10 = .ok (.aload_n 0, 1) := by decide +kernel
theorem dX0_init_11 : decode cX0_init 11 = .ok (.iconst 3, 1) := by decide +kernel
theorem dX0_init_12 : decode cX0_init 12 = .ok (.newarray .int, 2) := by decide +kernel
theorem dX0_init_14 : decode cX0_init 14 = .ok (.putfield 15, 3) := by decide +kernel
theorem dX0_init_17 : decode cX0_init 17 = .ok (.return_, 1) := by decide +kernel
theorem dX0_isFine_0 : decode cX0_isFine 0 = .ok (.aload_n 0, 1) := by decide +kernel
theorem dX0_isFine_1 : decode cX0_isFine 1 = .ok (.getfield 19, 3) := by decide +kernel
theorem dX0_isFine_4 : decode cX0_isFine 4 = .ok (.iload_n 1, 1) := by decide +kernel
theorem dX0_isFine_5 : decode cX0_isFine 5 = .ok (.iand, 1) := by decide +kernel
theorem dX0_isFine_6 : decode cX0_isFine 6 = .ok (.ifCond .eq 7, 3) := by decide +kernel
theorem dX0_isFine_9 : decode cX0_isFine 9 = .ok (.iconst 1, 1) := by decide +kernel
theorem dX0_isFine_10 : decode cX0_isFine 10 = .ok (.goto 4, 3) := by decide +kernel
theorem dX0_isFine_13 : decode cX0_isFine 13 = .ok (.iconst 0, 1) := by decide +kernel
theorem dX0_isFine_14 : decode cX0_isFine 14 = .ok (.ireturn, 1) := by decide +kernel
theorem dX0_addFilter_0 : decode cX0_addFilter 0 = .ok (.aload_n 0, 1) := by decide +kernel
theorem dX0_addFilter_1 : decode cX0_addFilter 1 = .ok (.getfield 22, 3) := by decide +kernel
theorem dX0_addFilter_4 : decode cX0_addFilter 4 = .ok (.ifCond .lt 41, 3) := by decide +kernel
theorem dX0_addFilter_7 : decode cX0_addFilter 7 = .ok (.aload_n 0, 1) := by decide +kernel
theorem dX0_addFilter_8 : decode cX0_addFilter 8 = .ok (.getfield 22, 3) := by decide +kernel
theorem dX0_addFilter_11 : decode cX0_addFilter 11 = .ok (.iconst 3, 1) := by decide +kernel
theorem dX0_addFilter_12 : decode cX0_addFilter 12 = .ok (.if_icmp .ge 33, 3) := by decide +kernel
theorem dX0_addFilter_15 : decode cX0_addFilter 15 = .ok (.aload_n 0, 1) := by decide +kernel
theorem dX0_addFilter_16 : decode cX0_addFilter 16 = .ok (.getfield 15, 3) := by decide +kernel
theorem dX0_addFilter_19 : decode cX0_addFilter 19 = .ok (.aload_n 0, 1) := by decide +kernel
theorem dX0_addFilter_20 : decode cX0_addFilter 20 = .ok (.getfield 22, 3) := by decide +kernel
theorem dX0_addFilter_23 : decode cX0_addFilter 23 = .ok (.iload_n 1, 1) := by decide +kernel
theorem dX0_addFilter_24 : decode cX0_addFilter 24 = .ok (.iastore, 1) := by decide +kernel
theorem dX0_addFilter_25 : decode cX0_addFilter 25 = .ok (.aload_n 0, 1) := by decide +kernel
theorem dX0_addFilter_26 : decode cX0_addFilter 26 = .ok (.dup, 1) := by decide +kernel
theorem dX0_addFilter_27 : decode cX0_addFilter 27 = .ok (.getfield 22, 3) := by decide +kernel
theorem dX0_addFilter_30 : decode cX0_addFilter 30 = .ok (.iconst 1, 1) := by decide +kernel
theorem dX0_addFilter_31 : decode cX0_addFilter 31 = .ok (.iadd, 1) := by decide +kernel
theorem dX0_addFilter_32 : decode cX0_addFilter 32 = .ok (.putfield 22, 3) := by decide +kernel
theorem dX0_addFilter_35 : decode cX0_addFilter 35 = .ok (.aload_n 0, 1) := by decide +kernel
theorem dX0_addFilter_36 : decode cX0_addFilter 36 = .ok (.dup, 1) := by decide +kernel
theorem dX0_addFilter_37 : decode cX0_addFilter 37 = .ok (.getfield 9, 3) := by decide +kernel
theorem dX0_addFilter_40 : decode cX0_addFilter 40 = .ok (.iload_n 1, 1) := by decide +kernel
theorem dX0_addFilter_41 : decode cX0_addFilter 41 = .ok (.iand, 1) := by decide +kernel
theorem dX0_addFilter_42 : decode cX0_addFilter 42 = .ok (.putfield 9, 3) := by decide +kernel
theorem dX0_addFilter_45 : decode cX0_addFilter 45 = .ok (.return_, 1) := by decide +kernel
theorem dX0_letPassAnew_0 : decode cX0_letPassAnew 0 = .ok (.bipush 7, 2) := by decide +kernel
theorem dX0_letPassAnew_2 : decode cX0_letPassAnew 2 = .ok (.istore_n 1, 1) := by decide +kernel
theorem dX0_letPassAnew_3 : decode cX0_letPassAnew 3 = .ok (.iconst 0, 1) := by decide +kernel
theorem dX0_letPassAnew_4 : decode cX0_letPassAnew 4 = .ok (.istore_n 2, 1) := by decide +kernel
theorem dX0_letPassAnew_5 : decode cX0_letPassAnew 5 = .ok (.iload_n 2, 1) := by decide +kernel
theorem dX0_letPassAnew_6 : decode cX0_letPassAnew 6 = .ok (.iconst 3, 1) := by decide +kernel
theorem dX0_letPassAnew_7 : decode cX0_letPassAnew 7 = .ok (.if_icmp .ge 26, 3) := by decide +kernel
theorem dX0_letPassAnew_10 : decode cX0_letPassAnew 10 = .ok (.iload_n 2, 1) := by decide +kernel
theorem dX0_letPassAnew_11 : decode cX0_letPassAnew 11 = .ok (.aload_n 0, 1) := by decide +kernel
theorem dX0_letPassAnew_12 : decode cX0_letPassAnew 12 = .ok (.getfield 22, 3) := by decide +kernel
theorem dX0_letPassAnew_15 : decode cX0_letPassAnew 15 = .ok (.if_icmp .ge 18, 3) := by decide +kernel
theorem dX0_letPassAnew_18 : decode cX0_letPassAnew 18 = .ok (.iload_n 1, 1) := by decide +kernel
theorem dX0_letPassAnew_19 : decode cX0_letPassAnew 19 = .ok (.aload_n 0, 1) := by decide +kernel
theorem dX0_letPassAnew_20 : decode cX0_letPassAnew 20 = .ok (.getfield 15, 3) := by decide +kernel
theorem dX0_letPassAnew_23 : decode cX0_letPassAnew 23 = .ok (.iload_n 2, 1) := by decide +kernel
theorem dX0_letPassAnew_24 : decode cX0_letPassAnew 24 = .ok (.iaload, 1) := by decide +kernel
theorem dX0_letPassAnew_25 : decode cX0_letPassAnew 25 = .ok (.iand, 1) := by decide +kernel
theorem dX0_letPassAnew_26 : decode cX0_letPassAnew 26 = .ok (.istore_n 1, 1) := by decide +kernel
theorem dX0_letPassAnew_27 : decode cX0_letPassAnew 27 = .ok (.iinc 2 1, 3) := by decide +kernel
theorem dX0_letPassAnew_30 : decode cX0_letPassAnew 30 = .ok (.goto (-25), 3) := by decide +kernel
theorem dX0_letPassAnew_33 : decode cX0_letPassAnew 33 = .ok (.iload_n 1, 1) := by decide +kernel
theorem dX0_letPassAnew_34 : decode cX0_letPassAnew 34 = .ok (.ireturn, 1) := by decide +kernel
theorem dX0_copyFrom_0 : decode cX0_copyFrom 0 = .ok (.aload_n 0, 1) := by decide +kernel
theorem dX0_copyFrom_1 : decode cX0_copyFrom 1 = .ok (.aload_n 1, 1) := by decide +kernel
theorem dX0_copyFrom_2 : decode cX0_copyFrom 2 = .ok (.getfield 25, 3) := by decide +kernel
theorem dX0_copyFrom_5 : decode cX0_copyFrom 5 = .ok (.putfield 25, 3) := by decide +kernel
theorem dX0_copyFrom_8 : decode cX0_copyFrom 8 = .ok (.aload_n 0, 1) := by decide +kernel
theorem dX0_copyFrom_9 : decode cX0_copyFrom 9 = .ok (.aload_n 1, 1) := by decide +kernel
theorem dX0_copyFrom_10 : decode cX0_copyFrom 10 = .ok (.getfield 28, 3) := by decide +kernel
theorem dX0_copyFrom_13 : decode cX0_copyFrom 13 = .ok (.putfield 28, 3) := by decide +kernel
theorem dX0_copyFrom_16 : decode cX0_copyFrom 16 = .ok (.aload_n 0, 1) := by decide +kernel
theorem dX0_copyFrom_17 : decode cX0_copyFrom 17 = .ok (.aload_n 1, 1) := by decide +kernel
theorem dX0_copyFrom_18 : decode cX0_copyFrom 18 = .ok (.getfield 31, 3) := by decide +kernel
theorem dX0_copyFrom_21 : decode cX0_copyFrom 21 = .ok (.putfield 31, 3) := by decide +kernel
theorem dX0_copyFrom_24 : decode cX0_copyFrom 24 = .ok (.aload_n 0, 1) := by decide +kernel
theorem dX0_copyFrom_25 : decode cX0_copyFrom 25 = .ok (.aload_n 1, 1) := by decide +kernel
theorem dX0_copyFrom_26 : decode cX0_copyFrom 26 = .ok (.getfield 34, 3) := by decide +kernel
theorem dX0_copyFrom_29 : decode cX0_copyFrom 29 = .ok (.putfield 34, 3) := by decide +kernel
theorem dX0_copyFrom_32 : decode cX0_copyFrom 32 = .ok (.aload_n 0, 1) := by decide +kernel
theorem dX0_copyFrom_33 : decode cX0_copyFrom 33 = .ok (.aload_n 1, 1) := by decide +kernel
theorem dX0_copyFrom_34 : decode cX0_copyFrom 34 = .ok (.getfield 19, 3) := by decide +kernel
theorem dX0_copyFrom_37 : decode cX0_copyFrom 37 = .ok (.putfield 19, 3) := by decide +kernel
theorem dX0_copyFrom_40 : decode cX0_copyFrom 40 = .ok (.aload_n 0, 1) := by decide +kernel
theorem dX0_copyFrom_41 : decode cX0_copyFrom 41 = .ok (.aload_n 1, 1) := by decide +kernel
theorem dX0_copyFrom_42 : decode cX0_copyFrom 42 = .ok (.getfield 37, 3) := by decide +kernel
theorem dX0_copyFrom_45 : decode cX0_copyFrom 45 = .ok (.putfield 37, 3) := by decide +kernel
theorem dX0_copyFrom_48 : decode cX0_copyFrom 48 = .ok (.aload_n 0, 1) := by decide +kernel
theorem dX0_copyFrom_49 : decode cX0_copyFrom 49 = .ok (.aload_n 1, 1) := by decide +kernel
theorem dX0_copyFrom_50 : decode cX0_copyFrom 50 = .ok (.getfield 22, 3) := by decide +kernel
theorem dX0_copyFrom_53 : decode cX0_copyFrom 53 = .ok (.putfield 22, 3) := by decide +kernel
theorem dX0_copyFrom_56 : decode cX0_copyFrom 56 = .ok (.aload_n 0, 1) := by decide +kernel
theorem dX0_copyFrom_57 : decode cX0_copyFrom 57 = .ok (.aload_n 1, 1) := by decide +kernel
theorem dX0_copyFrom_58 : decode cX0_copyFrom 58 = .ok (.getfield 9, 3) := by decide +kernel
theorem dX0_copyFrom_61 : decode cX0_copyFrom 61 = .ok (.putfield 9, 3) := by decide +kernel
theorem dX0_copyFrom_64 : decode cX0_copyFrom 64 = .ok (.iconst 0, 1) := by decide +kernel
theorem dX0_copyFrom_65 : decode cX0_copyFrom 65 = .ok (.istore_n 2, 1) := by decide +kernel
theorem dX0_copyFrom_66 : decode cX0_copyFrom 66 = .ok (.iload_n 2, 1) := by decide +kernel
theorem dX0_copyFrom_67 : decode cX0_copyFrom 67 = .ok (.iconst 3, 1) := by decide +kernel
theorem dX0_copyFrom_68 : decode cX0_copyFrom 68 = .ok (.if_icmp .ge 21, 3) := by decide +kernel
theorem dX0_copyFrom_71 : decode cX0_copyFrom 71 = .ok (.aload_n 0, 1) := by decide +kernel
theorem dX0_copyFrom_72 : decode cX0_copyFrom 72 = .ok (.getfield 15, 3) := by decide +kernel
theorem dX0_copyFrom_75 : decode cX0_copyFrom 75 = .ok (.iload_n 2, 1) := by decide +kernel
theorem dX0_copyFrom_76 : decode cX0_copyFrom 76 = .ok (.aload_n 1, 1) := by decide +kernel
theorem dX0_copyFrom_77 : decode cX0_copyFrom 77 = .ok (.getfield 15, 3) := by decide +kernel
theorem dX0_copyFrom_80 : decode cX0_copyFrom 80 = .ok (.iload_n 2, 1) := by decide +kernel
theorem dX0_copyFrom_81 : decode cX0_copyFrom 81 = .ok (.iaload, 1) := by decide +kernel
theorem dX0_copyFrom_82 : decode cX0_copyFrom 82 = .ok (.iastore, 1) := by decide +kernel
theorem dX0_copyFrom_83 : decode cX0_copyFrom 83 = .ok (.iinc 2 1, 3) := by decide +kernel
theorem dX0_copyFrom_86 : decode cX0_copyFrom 86 = .ok (.goto (-20), 3) := by decide +kernel
theorem dX0_copyFrom_89 : decode cX0_copyFrom 89 = .ok (.return_, 1) := by decide +kernel
theorem dX1_init_0 : decode cX1_init 0 = .ok (.aload_n 0, 1) := by decide +kernel
theorem dX1_init_1 : decode cX1_init 1 = .ok (.invokespecial 3, 3) := by decide +kernel
theorem dX1_init_4 : decode cX1_init 4 = .ok (.aload_n 0, 1) := by decide +kernel
theorem dX1_init_5 : decode cX1_init 5 = .ok (.bipush 120, 2) := by decide +kernel
theorem dX1_init_7 : decode cX1_init 7 = .ok (.newarray .int, 2) := by decide +kernel
theorem dX1_init_9 : decode cX1_init 9 = .ok (.putfield 11, 3) := by decide +kernel
theorem dX1_init_12 : decode cX1_init 12 = .ok (.aload_n 0, 1) := by decide +kernel
theorem dX1_init_13 : decode cX1_init 13 = .ok (.bipush 17, 2) := by decide +kernel
theorem dX1_init_15 : decode cX1_init 15 = .ok (.putfield 15, 3) := by decide +kernel
theorem dX1_init_18 : decode cX1_init 18 = .ok (.return_, 1) := by decide +kernel
theorem dX1_add_0 : decode cX1_add 0 = .ok (.aload_n 0, 1) := by decide +kernel
theorem dX1_add_1 : decode cX1_add 1 = .ok (.getfield 19, 3) := by decide +kernel
theorem dX1_add_4 : decode cX1_add 4 = .ok (.ifCond .ne 10, 3) := by decide +kernel
theorem dX1_add_7 : decode cX1_add 7 = .ok (.aload_n 0, 1) := by decide +kernel
theorem dX1_add_8 : decode cX1_add 8 = .ok (.getfield 15, 3) := by decide +kernel
theorem dX1_add_11 : decode cX1_add 11 = .ok (.goto 14, 3) := by decide +kernel
theorem dX1_add_14 : decode cX1_add 14 = .ok (.aload_n 0, 1) := by decide +kernel
theorem dX1_add_15 : decode cX1_add 15 = .ok (.aload_n 0, 1) := by decide +kernel
theorem dX1_add_16 : decode cX1_add 16 = .ok (.getfield 19, 3) := by decide +kernel
theorem dX1_add_19 : decode cX1_add 19 = .ok (.iconst 1, 1) := by decide +kernel
theorem dX1_add_20 : decode cX1_add 20 = .ok (.isub, 1) := by decide +kernel
theorem dX1_add_21 : decode cX1_add 21 = .ok (.iconst 5, 1) := by decide +kernel
theorem dX1_add_22 : decode cX1_add 22 = .ok (.invokevirtual 22, 3) := by decide +kernel
theorem dX1_add_25 : decode cX1_add 25 = .ok (.istore 6, 2) := by decide +kernel
theorem dX1_add_27 : decode cX1_add 27 = .ok (.aload_n 0, 1) := by decide +kernel
theorem dX1_add_28 : decode cX1_add 28 = .ok (.getfield 19, 3) := by decide +kernel
theorem dX1_add_31 : decode cX1_add 31 = .ok (.bipush 20, 2) := by decide +kernel
theorem dX1_add_33 : decode cX1_add 33 = .ok (.if_icmp .ne 46, 3) := by decide +kernel
theorem dX1_add_36 : decode cX1_add 36 = .ok (.aload_n 0, 1) := by decide +kernel
theorem dX1_add_37 : decode cX1_add 37 = .ok (.aload_n 0, 1) := by decide +kernel
theorem dX1_add_38 : decode cX1_add 38 = .ok (.iconst 0, 1) := by decide +kernel
theorem dX1_add_39 : decode cX1_add 39 = .ok (.iconst 5, 1) := by decide +kernel
theorem dX1_add_40 : decode cX1_add 40 = .ok (.invokevirtual 22, 3) := by decide +kernel
theorem dX1_add_43 : decode cX1_add 43 = .ok (.putfield 15, 3) := by decide +kernel
theorem dX1_add_46 : decode cX1_add 46 = .ok (.aload_n 0, 1) := by decide +kernel
theorem dX1_add_47 : decode cX1_add 47 = .ok (.aload_n 0, 1) := by decide +kernel
theorem dX1_add_48 : decode cX1_add 48 = .ok (.getfield 26, 3) := by decide +kernel
theorem dX1_add_51 : decode cX1_add 51 = .ok (.iconst 1, 1) := by decide +kernel
theorem dX1_add_52 : decode cX1_add 52 = .ok (.iadd, 1) := by decide +kernel
theorem dX1_add_53 : decode cX1_add 53 = .ok (.bipush 20, 2) := by decide +kernel
theorem dX1_add_55 : decode cX1_add 55 = .ok (.irem, 1) := by decide +kernel
theorem dX1_add_56 : decode cX1_add 56 = .ok (.putfield 26, 3) := by decide +kernel
theorem dX1_add_59 : decode cX1_add 59 = .ok (.aload_n 0, 1) := by decide +kernel
theorem dX1_add_60 : decode cX1_add 60 = .ok (.dup, 1) := by decide +kernel
theorem dX1_add_61 : decode cX1_add 61 = .ok (.getfield 19, 3) := by decide +kernel
theorem dX1_add_64 : decode cX1_add 64 = .ok (.iconst 1, 1) := by decide +kernel
theorem dX1_add_65 : decode cX1_add 65 = .ok (.isub, 1) := by decide +kernel
theorem dX1_add_66 : decode cX1_add 66 = .ok (.putfield 19, 3) := by decide +kernel
theorem dX1_add_69 : decode cX1_add 69 = .ok (.aload_n 0, 1) := by decide +kernel
theorem dX1_add_70 : decode cX1_add 70 = .ok (.dup, 1) := by decide +kernel
theorem dX1_add_71 : decode cX1_add 71 = .ok (.getfield 29, 3) := by decide +kernel
theorem dX1_add_74 : decode cX1_add 74 = .ok (.iconst 1, 1) := by decide +kernel
theorem dX1_add_75 : decode cX1_add 75 = .ok (.iadd, 1) := by decide +kernel
theorem dX1_add_76 : decode cX1_add 76 = .ok (.putfield 29, 3) := by decide +kernel
theorem dX1_add_79 : decode cX1_add 79 = .ok (.aload_n 0, 1) := by decide +kernel
theorem dX1_add_80 : decode cX1_add 80 = .ok (.getfield 19, 3) := by decide +kernel
theorem dX1_add_83 : decode cX1_add 83 = .ok (.istore 7, 2) := by decide +kernel
theorem dX1_add_85 : decode cX1_add 85 = .ok (.aload_n 0, 1) := by decide +kernel
theorem dX1_add_86 : decode cX1_add 86 = .ok (.dup, 1) := by decide +kernel
theorem dX1_add_87 : decode cX1_add 87 = .ok (.getfield 19, 3) := by decide +kernel
theorem dX1_add_90 : decode cX1_add 90 = .ok (.iconst 1, 1) := by decide +kernel
theorem dX1_add_91 : decode cX1_add 91 = .ok (.iadd, 1) := by decide +kernel
theorem dX1_add_92 : decode cX1_add 92 = .ok (.putfield 19, 3) := by decide +kernel
theorem dX1_add_95 : decode cX1_add 95 = .ok (.aload_n 0, 1) := by decide +kernel
theorem dX1_add_96 : decode cX1_add 96 = .ok (.iload 7, 2) := by decide +kernel
theorem dX1_add_98 : decode cX1_add 98 = .ok (.iconst 0, 1) := by decide +kernel
theorem dX1_add_99 : decode cX1_add 99 = .ok (.iload_n 1, 1) := by decide +kernel
theorem dX1_add_100 : decode cX1_add 100 = .ok (.invokevirtual 32, 3) := by decide +kernel
theorem dX1_add_103 : decode cX1_add 103 = .ok (.aload_n 0, 1) := by decide +kernel
theorem dX1_add_104 : decode cX1_add 104 = .ok (.iload 7, 2) := by decide +kernel
theorem dX1_add_106 : decode cX1_add 106 = .ok (.iconst 1, 1) := by decide +kernel
theorem dX1_add_107 : decode cX1_add 107 = .ok (.iload_n 2, 1) := by decide +kernel
theorem dX1_add_108 : decode cX1_add 108 = .ok (.invokevirtual 32, 3) := by decide +kernel
theorem dX1_add_111 : decode cX1_add 111 = .ok (.aload_n 0, 1) := by decide +kernel
theorem dX1_add_112 : decode cX1_add 112 = .ok (.iload 7, 2) := by decide +kernel
theorem dX1_add_114 : decode cX1_add 114 = .ok (.iconst 2, 1) := by decide +kernel
theorem dX1_add_115 : decode cX1_add 115 = .ok (.iload_n 3, 1) := by decide +kernel
theorem dX1_add_116 : decode cX1_add 116 = .ok (.invokevirtual 32, 3) := by decide +kernel
theorem dX1_add_119 : decode cX1_add 119 = .ok (.aload_n 0, 1) := by decide +kernel
theorem dX1_add_120 : decode cX1_add 120 = .ok (.iload 7, 2) := by decide +kernel
theorem dX1_add_122 : decode cX1_add 122 = .ok (.iconst 3, 1) := by decide +kernel
theorem dX1_add_123 : decode cX1_add 123 = .ok (.iload 4, 2) := by decide +kernel
theorem dX1_add_125 : decode cX1_add 125 = .ok (.invokevirtual 32, 3) := by decide +kernel
theorem dX1_add_128 : decode cX1_add 128 = .ok (.aload_n 0, 1) := by decide +kernel
theorem dX1_add_129 : decode cX1_add 129 = .ok (.iload 7, 2) := by decide +kernel
theorem dX1_add_131 : decode cX1_add 131 = .ok (.iconst 4, 1) := by decide +kernel
theorem dX1_add_132 : decode cX1_add 132 = .ok (.iload 5, 2) := by decide +kernel
theorem dX1_add_134 : decode cX1_add 134 = .ok (.invokevirtual 32, 3) := by decide +kernel
theorem dX1_add_137 : decode cX1_add 137 = .ok (.aload_n 0, 1) := by decide +kernel
theorem dX1_add_138 : decode cX1_add 138 = .ok (.iload 7, 2) := by decide +kernel
theorem dX1_add_140 : decode cX1_add 140 = .ok (.iconst 5, 1) := by decide +kernel
theorem dX1_add_141 : decode cX1_add 141 = .ok (.aload_n 0, 1) := by decide +kernel
theorem dX1_add_142 : decode cX1_add 142 = .ok (.iload 6, 2) := by decide +kernel
theorem dX1_add_144 : decode cX1_add 144 = .ok (.iload 7, 2) := by decide +kernel
theorem dX1_add_146 : decode cX1_add 146 = .ok (.invokevirtual 36, 3) := by decide +kernel
theorem dX1_add_149 : decode cX1_add 149 = .ok (.invokevirtual 32, 3) := by decide +kernel
theorem dX1_add_152 : decode cX1_add 152 = .ok (.return_, 1) := by decide +kernel
theorem dX1_read_0 : decode cX1_read 0 = .ok (.aload_n 0, 1) := by decide +kernel
theorem dX1_read_1 : decode cX1_read 1 = .ok (.iload_n 1, 1) := by decide +kernel
theorem dX1_read_2 : decode cX1_read 2 = .ok (.iload_n 2, 1) := by decide +kernel
theorem dX1_read_3 : decode cX1_read 3 = .ok (.invokevirtual 39, 3) := by decide +kernel
theorem dX1_read_6 : decode cX1_read 6 = .ok (.ifCond .eq 17, 3) := by decide +kernel
theorem dX1_read_9 : decode cX1_read 9 = .ok (.aload_n 0, 1) := by decide +kernel
theorem dX1_read_10 : decode cX1_read 10 = .ok (.getfield 11, 3) := by decide +kernel
theorem dX1_read_13 : decode cX1_read 13 = .ok (.aload_n 0, 1) := by decide +kernel
theorem dX1_read_14 : decode cX1_read 14 = .ok (.iload_n 1, 1) := by decide +kernel
theorem dX1_read_15 : decode cX1_read 15 = .ok (.iload_n 2, 1) := by decide +kernel
theorem dX1_read_16 : decode cX1_read 16 = .ok (.invokevirtual 43, 3) := by decide +kernel
theorem dX1_read_19 : decode cX1_read 19 = .ok (.iaload, 1) := by decide +kernel
theorem dX1_read_20 : decode cX1_read 20 = .ok (.goto 4, 3) := by decide +kernel
theorem dX1_read_23 : decode cX1_read 23 = .ok (.iconst (-1), 1) := by decide +kernel
theorem dX1_read_24 : decode cX1_read 24 = .ok (.ireturn, 1) := by decide +kernel
theorem dX1_write_0 : decode cX1_write 0 = .ok (.aload_n 0, 1) := by decide +kernel
theorem dX1_write_1 : decode cX1_write 1 = .ok (.iload_n 1, 1) := by decide +kernel
theorem dX1_write_2 : decode cX1_write 2 = .ok (.iload_n 2, 1) := by decide +kernel
theorem dX1_write_3 : decode cX1_write 3 = .ok (.invokevirtual 39, 3) := by decide +kernel
theorem dX1_write_6 : decode cX1_write 6 = .ok (.ifCond .eq 15, 3) := by decide +kernel
theorem dX1_write_9 : decode cX1_write 9 = .ok (.aload_n 0, 1) := by decide +kernel
theorem dX1_write_10 : decode cX1_write 10 = .ok (.getfield 11, 3) := by decide +kernel
theorem dX1_write_13 : decode cX1_write 13 = .ok (.aload_n 0, 1) := by decide +kernel
theorem dX1_write_14 : decode cX1_write 14 = .ok (.iload_n 1, 1) := by decide +kernel
theorem dX1_write_15 : decode cX1_write 15 = .ok (.iload_n 2, 1) := by decide +kernel
theorem dX1_write_16 : decode cX1_write 16 = .ok (.invokevirtual 43, 3) := by decide +kernel
theorem dX1_write_19 : decode cX1_write 19 = .ok (.iload_n 3, 1) := by decide +kernel
theorem dX1_write_20 : decode cX1_write 20 = .ok (.iastore, 1) := by decide +kernel
theorem dX1_write_21 : decode cX1_write 21 = .ok (.return_, 1) := by decide +kernel
theorem dX1_firstBroken_0 : decode cX1_firstBroken 0 = .ok (.aload_n 0, 1) := by decide +kernel
theorem dX1_firstBroken_1 : decode cX1_firstBroken 1 = .ok (.getfield 15, 3) := by decide +kernel
theorem dX1_firstBroken_4 : decode cX1_firstBroken 4 = .ok (.istore_n 1, 1) := by decide +kernel
theorem dX1_firstBroken_5 : decode cX1_firstBroken 5 = .ok (.iconst 0, 1) := by decide +kernel
theorem dX1_firstBroken_6 : decode cX1_firstBroken 6 = .ok (.istore_n 2, 1) := by decide +kernel
theorem dX1_firstBroken_7 : decode cX1_firstBroken 7 = .ok (.iload_n 2, 1) := by decide +kernel
theorem dX1_firstBroken_8 : decode cX1_firstBroken 8 = .ok (.aload_n 0, 1) := by decide +kernel
theorem dX1_firstBroken_9 : decode cX1_firstBroken 9 = .ok (.getfield 19, 3) := by decide +kernel
theorem dX1_firstBroken_12 : decode cX1_firstBroken 12 = .ok (.if_icmp .ge 30, 3) := by decide +kernel
theorem dX1_firstBroken_15 : decode cX1_firstBroken 15 = .ok (.aload_n 0, 1) := by decide +kernel
theorem dX1_firstBroken_16 : decode cX1_firstBroken 16 = .ok (.iload_n 2, 1) := by decide +kernel
theorem dX1_firstBroken_17 : decode cX1_firstBroken 17 = .ok (.iconst 5, 1) := by decide +kernel
theorem dX1_firstBroken_18 : decode cX1_firstBroken 18 = .ok (.invokevirtual 22, 3) := by decide +kernel
theorem dX1_firstBroken_21 : decode cX1_firstBroken 21 = .ok (.istore_n 3, 1) := by decide +kernel
theorem dX1_firstBroken_22 : decode cX1_firstBroken 22 = .ok (.aload_n 0, 1) := by decide +kernel
theorem dX1_firstBroken_23 : decode cX1_firstBroken 23 = .ok (.iload_n 1, 1) := by decide +kernel
theorem dX1_firstBroken_24 : decode cX1_firstBroken 24 = .ok (.iload_n 2, 1) := by decide +kernel
theorem dX1_firstBroken_25 : decode cX1_firstBroken 25 = .ok (.invokevirtual 36, 3) := by decide +kernel
theorem dX1_firstBroken_28 : decode cX1_firstBroken 28 = .ok (.iload_n 3, 1) := by decide +kernel
theorem dX1_firstBroken_29 : decode cX1_firstBroken 29 = .ok (.if_icmp .eq 5, 3) := by decide +kernel
theorem dX1_firstBroken_32 : decode cX1_firstBroken 32 = .ok (.iload_n 2, 1) := by decide +kernel
theorem dX1_firstBroken_33 : decode cX1_firstBroken 33 = .ok (.ireturn, 1) := by decide +kernel
theorem dX1_firstBroken_34 : decode cX1_firstBroken 34 = .ok (.iload_n 3, 1) := by decide +kernel
theorem dX1_firstBroken_35 : decode cX1_firstBroken 35 = .ok (.istore_n 1, 1) := by decide +kernel
theorem dX1_firstBroken_36 : decode cX1_firstBroken 36 = .ok (.iinc 2 1, 3) := by decide +kernel
theorem dX1_firstBroken_39 : decode cX1_firstBroken 39 = .ok (.goto (-32), 3) := by decide +kernel
theorem dX1_firstBroken_42 : decode cX1_firstBroken 42 = .ok (.iconst (-1), 1) := by decide +kernel
theorem dX1_firstBroken_43 : decode cX1_firstBroken 43 = .ok (.ireturn, 1) := by decide +kernel
theorem dX1_checkAfter_0 : decode cX1_checkAfter 0 = .ok (.bipush 31, 2) := by decide +kernel
theorem dX1_checkAfter_2 : decode cX1_checkAfter 2 = .ok (.iload_n 1, 1) := by decide +kernel
theorem dX1_checkAfter_3 : decode cX1_checkAfter 3 = .ok (.imul, 1) := by decide +kernel
theorem dX1_checkAfter_4 : decode cX1_checkAfter 4 = .ok (.istore_n 3, 1) := by decide +kernel
theorem dX1_checkAfter_5 : decode cX1_checkAfter 5 = .ok (.iconst 0, 1) := by decide +kernel
theorem dX1_checkAfter_6 : decode cX1_checkAfter 6 = .ok (.istore 4, 2) := by decide +kernel
theorem dX1_checkAfter_8 : decode cX1_checkAfter 8 = .ok (.iload 4, 2) := by decide +kernel
theorem dX1_checkAfter_10 : decode cX1_checkAfter 10 = .ok (.iconst 4, 1) := by decide +kernel
theorem dX1_checkAfter_11 : decode cX1_checkAfter 11 = .ok (.if_icmp .gt 22, 3) := by decide +kernel
theorem dX1_checkAfter_14 : decode cX1_checkAfter 14 = .ok (.bipush 31, 2) := by decide +kernel
theorem dX1_checkAfter_16 : decode cX1_checkAfter 16 = .ok (.iload_n 3, 1) := by decide +kernel
theorem dX1_checkAfter_17 : decode cX1_checkAfter 17 = .ok (.imul, 1) := by decide +kernel
theorem dX1_checkAfter_18 : decode cX1_checkAfter 18 = .ok (.aload_n 0, 1) := by decide +kernel
theorem dX1_checkAfter_19 : decode cX1_checkAfter 19 = .ok (.iload_n 2, 1) := by decide +kernel
theorem dX1_checkAfter_20 : decode cX1_checkAfter 20 = .ok (.iload 4, 2) := by decide +kernel
theorem dX1_checkAfter_22 : decode cX1_checkAfter 22 = .ok (.invokevirtual 22, 3) := by decide +kernel
theorem dX1_checkAfter_25 : decode cX1_checkAfter 25 = .ok (.iadd, 1) := by decide +kernel
theorem dX1_checkAfter_26 : decode cX1_checkAfter 26 = .ok (.istore_n 3, 1) := by decide +kernel
theorem dX1_checkAfter_27 : decode cX1_checkAfter 27 = .ok (.iinc 4 1, 3) := by decide +kernel
theorem dX1_checkAfter_30 : decode cX1_checkAfter 30 = .ok (.goto (-22), 3) := by decide +kernel
theorem dX1_checkAfter_33 : decode cX1_checkAfter 33 = .ok (.iload_n 3, 1) := by decide +kernel
theorem dX1_checkAfter_34 : decode cX1_checkAfter 34 = .ok (.ireturn, 1) := by decide +kernel
theorem dX1_isCell_0 : decode cX1_isCell 0 = .ok (.iload_n 1, 1) := by decide +kernel
theorem dX1_isCell_1 : decode cX1_isCell 1 = .ok (.ifCond .lt 25, 3) := by decide +kernel
theorem dX1_isCell_4 : decode cX1_isCell 4 = .ok (.iload_n 1, 1) := by decide +kernel
theorem dX1_isCell_5 : decode cX1_isCell 5 = .ok (.aload_n 0, 1) := by decide +kernel
theorem dX1_isCell_6 : decode cX1_isCell 6 = .ok (.getfield 19, 3) := by decide +kernel
theorem dX1_isCell_9 : decode cX1_isCell 9 = .ok (.if_icmp .ge 17, 3) := by decide +kernel
theorem dX1_isCell_12 : decode cX1_isCell 12 = .ok (.iload_n 2, 1) := by decide +kernel
theorem dX1_isCell_13 : decode cX1_isCell 13 = .ok (.ifCond .lt 13, 3) := by decide +kernel
theorem dX1_isCell_16 : decode cX1_isCell 16 = .ok (.iload_n 2, 1) := by decide +kernel
theorem dX1_isCell_17 : decode cX1_isCell 17 = .ok (.bipush 6, 2) := by decide +kernel
theorem dX1_isCell_19 : decode cX1_isCell 19 = .ok (.if_icmp .ge 7, 3) := by decide +kernel
theorem dX1_isCell_22 : decode cX1_isCell 22 = .ok (.iconst 1, 1) := by decide +kernel
theorem dX1_isCell_23 : decode cX1_isCell 23 = .ok (.goto 4, 3) := by decide +kernel
theorem dX1_isCell_26 : decode cX1_isCell 26 = .ok (.iconst 0, 1) := by decide +kernel
theorem dX1_isCell_27 : decode cX1_isCell 27 = .ok (.ireturn, 1) := by decide +kernel
theorem dX1_cellOf_0 : decode cX1_cellOf 0 = .ok (.aload_n 0, 1) := by decide +kernel
theorem dX1_cellOf_1 : decode cX1_cellOf 1 = .ok (.getfield 26, 3) := by decide +kernel
theorem dX1_cellOf_4 : decode cX1_cellOf 4 = .ok (.iload_n 1, 1) := by decide +kernel
theorem dX1_cellOf_5 : decode cX1_cellOf 5 = .ok (.iadd, 1) := by decide +kernel
theorem dX1_cellOf_6 : decode cX1_cellOf 6 = .ok (.bipush 20, 2) := by decide +kernel
theorem dX1_cellOf_8 : decode cX1_cellOf 8 = .ok (.irem, 1) := by decide +kernel
theorem dX1_cellOf_9 : decode cX1_cellOf 9 = .ok (.bipush 6, 2) := by decide +kernel
theorem dX1_cellOf_11 : decode cX1_cellOf 11 = .ok (.imul, 1) := by decide +kernel
theorem dX1_cellOf_12 : decode cX1_cellOf 12 = .ok (.iload_n 2, 1) := by decide +kernel
theorem dX1_cellOf_13 : decode cX1_cellOf 13 = .ok (.iadd, 1) := by decide +kernel
theorem dX1_cellOf_14 : decode cX1_cellOf 14 = .ok (.ireturn, 1) := by decide +kernel
theorem dX2_init_0 : decode cX2_init 0 = .ok (.aload_n 0, 1) := by decide +kernel
theorem dX2_init_1 : decode cX2_init 1 = .ok (.invokespecial 3, 3) := by decide +kernel
theorem dX2_init_4 : decode cX2_init 4 = .ok (.aload_n 0, 1) := by decide +kernel
theorem dX2_init_5 : decode cX2_init 5 = .ok (.bipush 6, 2) := by decide +kernel
theorem dX2_init_7 : decode cX2_init 7 = .ok (.newarray .int, 2) := by decide +kernel
theorem dX2_init_9 : decode cX2_init 9 = .ok (.putfield 9, 3) := by decide +kernel
theorem dX2_init_12 : decode cX2_init 12 = .ok (.aload_n 0, 1) := by decide +kernel
theorem dX2_init_13 : decode cX2_init 13 = .ok (.bipush 6, 2) := by decide +kernel
theorem dX2_init_15 : decode cX2_init 15 = .ok (.newarray .int, 2) := by decide +kernel
theorem dX2_init_17 : decode cX2_init 17 = .ok (.putfield 15, 3) := by decide +kernel
theorem dX2_init_20 : decode cX2_init 20 = .ok (.aload_n 0, 1) := by decide +kernel
theorem dX2_init_21 : decode cX2_init 21 = .ok (.bipush 6, 2) := by decide +kernel
theorem dX2_init_23 : decode cX2_init 23 = .ok (.newarray .int, 2) := by decide +kernel
theorem dX2_init_25 : decode cX2_init 25 = .ok (.putfield 18, 3) := by decide +kernel
theorem dX2_init_28 : decode cX2_init 28 = .ok (.aload_n 0, 1) := by decide +kernel
theorem dX2_init_29 : decode cX2_init 29 = .ok (.bipush 6, 2) := by decide +kernel
theorem dX2_init_31 : decode cX2_init 31 = .ok (.newarray .int, 2) := by decide +kernel
theorem dX2_init_33 : decode cX2_init 33 = .ok (.putfield 21, 3) := by decide +kernel
theorem dX2_init_36 : decode cX2_init 36 = .ok (.return_, 1) := by decide +kernel
theorem dX2_isTold_0 : decode cX2_isTold 0 = .ok (.iload_n 1, 1) := by decide +kernel
theorem dX2_isTold_1 : decode cX2_isTold 1 = .ok (.ifCond .lt 9, 3) := by decide +kernel
theorem dX2_isTold_4 : decode cX2_isTold 4 = .ok (.iload_n 1, 1) := by decide +kernel
theorem dX2_isTold_5 : decode cX2_isTold 5 = .ok (.bipush 6, 2) := by decide +kernel
theorem dX2_isTold_7 : decode cX2_isTold 7 = .ok (.if_icmp .lt 5, 3) := by decide +kernel
theorem dX2_isTold_10 : decode cX2_isTold 10 = .ok (.iconst 0, 1) := by decide +kernel
theorem dX2_isTold_11 : decode cX2_isTold 11 = .ok (.ireturn, 1) := by decide +kernel
theorem dX2_isTold_12 : decode cX2_isTold 12 = .ok (.iload_n 2, 1) := by decide +kernel
theorem dX2_isTold_13 : decode cX2_isTold 13 = .ok (.ifCond .eq 12, 3) := by decide +kernel
theorem dX2_isTold_16 : decode cX2_isTold 16 = .ok (.aload_n 0, 1) := by decide +kernel
theorem dX2_isTold_17 : decode cX2_isTold 17 = .ok (.getfield 15, 3) := by decide +kernel
theorem dX2_isTold_20 : decode cX2_isTold 20 = .ok (.iload_n 1, 1) := by decide +kernel
theorem dX2_isTold_21 : decode cX2_isTold 21 = .ok (.iaload, 1) := by decide +kernel
theorem dX2_isTold_22 : decode cX2_isTold 22 = .ok (.goto 9, 3) := by decide +kernel
theorem dX2_isTold_25 : decode cX2_isTold 25 = .ok (.aload_n 0, 1) := by decide +kernel
theorem dX2_isTold_26 : decode cX2_isTold 26 = .ok (.getfield 9, 3) := by decide +kernel
theorem dX2_isTold_29 : decode cX2_isTold 29 = .ok (.iload_n 1, 1) := by decide +kernel
theorem dX2_isTold_30 : decode cX2_isTold 30 = .ok (.iaload, 1) := by decide +kernel
theorem dX2_isTold_31 : decode cX2_isTold 31 = .ok (.istore 4, 2) := by decide +kernel
theorem dX2_isTold_33 : decode cX2_isTold 33 = .ok (.iload 4, 2) := by decide +kernel
theorem dX2_isTold_35 : decode cX2_isTold 35 = .ok (.iload_n 3, 1) := by decide +kernel
theorem dX2_isTold_36 : decode cX2_isTold 36 = .ok (.ishr, 1) := by decide +kernel
theorem dX2_isTold_37 : decode cX2_isTold 37 = .ok (.iconst 1, 1) := by decide +kernel
theorem dX2_isTold_38 : decode cX2_isTold 38 = .ok (.iand, 1) := by decide +kernel
theorem dX2_isTold_39 : decode cX2_isTold 39 = .ok (.ifCond .eq 7, 3) := by decide +kernel
theorem dX2_isTold_42 : decode cX2_isTold 42 = .ok (.iconst 1, 1) := by decide +kernel
theorem dX2_isTold_43 : decode cX2_isTold 43 = .ok (.goto 4, 3) := by decide +kernel
theorem dX2_isTold_46 : decode cX2_isTold 46 = .ok (.iconst 0, 1) := by decide +kernel
theorem dX2_isTold_47 : decode cX2_isTold 47 = .ok (.ireturn, 1) := by decide +kernel
theorem dX2_tell_0 : decode cX2_tell 0 = .ok (.iload_n 1, 1) := by decide +kernel
theorem dX2_tell_1 : decode cX2_tell 1 = .ok (.ifCond .lt 9, 3) := by decide +kernel
theorem dX2_tell_4 : decode cX2_tell 4 = .ok (.iload_n 1, 1) := by decide +kernel
theorem dX2_tell_5 : decode cX2_tell 5 = .ok (.bipush 6, 2) := by decide +kernel
theorem dX2_tell_7 : decode cX2_tell 7 = .ok (.if_icmp .lt 4, 3) := by decide +kernel
theorem dX2_tell_10 : decode cX2_tell 10 = .ok (.return_, 1) := by decide +kernel
theorem dX2_tell_11 : decode cX2_tell 11 = .ok (.iload_n 2, 1) := by decide +kernel
theorem dX2_tell_12 : decode cX2_tell 12 = .ok (.ifCond .eq 10, 3) := by decide +kernel
theorem dX2_tell_15 : decode cX2_tell 15 = .ok (.aload_n 0, 1) := by decide +kernel
theorem dX2_tell_16 : decode cX2_tell 16 = .ok (.getfield 15, 3) := by decide +kernel
theorem dX2_tell_19 : decode cX2_tell 19 = .ok (.goto 7, 3) := by decide +kernel
theorem dX2_tell_22 : decode cX2_tell 22 = .ok (.aload_n 0, 1) := by decide +kernel
theorem dX2_tell_23 : decode cX2_tell 23 = .ok (.getfield 9, 3) := by decide +kernel
theorem dX2_tell_26 : decode cX2_tell 26 = .ok (.astore 5, 2) := by decide +kernel
theorem dX2_tell_28 : decode cX2_tell 28 = .ok (.iconst 1, 1) := by decide +kernel
theorem dX2_tell_29 : decode cX2_tell 29 = .ok (.iload_n 3, 1) := by decide +kernel
theorem dX2_tell_30 : decode cX2_tell 30 = .ok (.ishl, 1) := by decide +kernel
theorem dX2_tell_31 : decode cX2_tell 31 = .ok (.istore 6, 2) := by decide +kernel
theorem dX2_tell_33 : decode cX2_tell 33 = .ok (.aload 5, 2) := by decide +kernel
theorem dX2_tell_35 : decode cX2_tell 35 = .ok (.iload_n 1, 1) := by decide +kernel
theorem dX2_tell_36 : decode cX2_tell 36 = .ok (.iload 4, 2) := by decide +kernel
theorem dX2_tell_38 : decode cX2_tell 38 = .ok (.ifCond .eq 13, 3) := by decide +kernel
theorem dX2_tell_41 : decode cX2_tell 41 = .ok (.aload 5, 2) := by decide +kernel
theorem dX2_tell_43 : decode cX2_tell 43 = .ok (.iload_n 1, 1) := by decide +kernel
theorem dX2_tell_44 : decode cX2_tell 44 = .ok (.iaload, 1) := by decide +kernel
theorem dX2_tell_45 : decode cX2_tell 45 = .ok (.iload 6, 2) := by decide +kernel
theorem dX2_tell_47 : decode cX2_tell 47 = .ok (.ior, 1) := by decide +kernel
theorem dX2_tell_48 : decode cX2_tell 48 = .ok (.goto 12, 3) := by decide +kernel
theorem dX2_tell_51 : decode cX2_tell 51 = .ok (.aload 5, 2) := by decide +kernel
theorem dX2_tell_53 : decode cX2_tell 53 = .ok (.iload_n 1, 1) := by decide +kernel
theorem dX2_tell_54 : decode cX2_tell 54 = .ok (.iaload, 1) := by decide +kernel
theorem dX2_tell_55 : decode cX2_tell 55 = .ok (.iload 6, 2) := by decide +kernel
theorem dX2_tell_57 : decode cX2_tell 57 = .ok (.iconst (-1), 1) := by decide +kernel
theorem dX2_tell_58 : decode cX2_tell 58 = .ok (.ixor, 1) := by decide +kernel
theorem dX2_tell_59 : decode cX2_tell 59 = .ok (.iand, 1) := by decide +kernel
theorem dX2_tell_60 : decode cX2_tell 60 = .ok (.iastore, 1) := by decide +kernel
theorem dX2_tell_61 : decode cX2_tell 61 = .ok (.iconst 0, 1) := by decide +kernel
theorem dX2_tell_62 : decode cX2_tell 62 = .ok (.istore 7, 2) := by decide +kernel
theorem dX2_tell_64 : decode cX2_tell 64 = .ok (.iload 7, 2) := by decide +kernel
theorem dX2_tell_66 : decode cX2_tell 66 = .ok (.bipush 6, 2) := by decide +kernel
theorem dX2_tell_68 : decode cX2_tell 68 = .ok (.if_icmp .ge 22, 3) := by decide +kernel
theorem dX2_tell_71 : decode cX2_tell 71 = .ok (.aload_n 0, 1) := by decide +kernel
theorem dX2_tell_72 : decode cX2_tell 72 = .ok (.getfield 18, 3) := by decide +kernel
theorem dX2_tell_75 : decode cX2_tell 75 = .ok (.iload 7, 2) := by decide +kernel
theorem dX2_tell_77 : decode cX2_tell 77 = .ok (.aload_n 0, 1) := by decide +kernel
theorem dX2_tell_78 : decode cX2_tell 78 = .ok (.iload 7, 2) := by decide +kernel
theorem dX2_tell_80 : decode cX2_tell 80 = .ok (.invokevirtual 24, 3) := by decide +kernel
theorem dX2_tell_83 : decode cX2_tell 83 = .ok (.iastore, 1) := by decide +kernel
theorem dX2_tell_84 : decode cX2_tell 84 = .ok (.iinc 7 1, 3) := by decide +kernel
theorem dX2_tell_87 : decode cX2_tell 87 = .ok (.goto (-23), 3) := by decide +kernel
theorem dX2_tell_90 : decode cX2_tell 90 = .ok (.return_, 1) := by decide +kernel
theorem dX2_groupsOf_0 : decode cX2_groupsOf 0 = .ok (.iload_n 1, 1) := by decide +kernel
theorem dX2_groupsOf_1 : decode cX2_groupsOf 1 = .ok (.ifCond .lt 9, 3) := by decide +kernel
theorem dX2_groupsOf_4 : decode cX2_groupsOf 4 = .ok (.iload_n 1, 1) := by decide +kernel
theorem dX2_groupsOf_5 : decode cX2_groupsOf 5 = .ok (.bipush 6, 2) := by decide +kernel
theorem dX2_groupsOf_7 : decode cX2_groupsOf 7 = .ok (.if_icmp .lt 7, 3) := by decide +kernel
theorem dX2_groupsOf_10 : decode cX2_groupsOf 10 = .ok (.iconst 0, 1) := by decide +kernel
theorem dX2_groupsOf_11 : decode cX2_groupsOf 11 = .ok (.goto 9, 3) := by decide +kernel
theorem dX2_groupsOf_14 : decode cX2_groupsOf 14 = .ok (.aload_n 0, 1) := by decide +kernel
theorem dX2_groupsOf_15 : decode cX2_groupsOf 15 = .ok (.getfield 18, 3) := by decide +kernel
theorem dX2_groupsOf_18 : decode cX2_groupsOf 18 = .ok (.iload_n 1, 1) := by decide +kernel
theorem dX2_groupsOf_19 : decode cX2_groupsOf 19 = .ok (.iaload, 1) := by decide +kernel
theorem dX2_groupsOf_20 : decode cX2_groupsOf 20 = .ok (.ireturn, 1) := by decide +kernel
theorem dX2_groupsFoundAnew_0 : decode cX2_groupsFoundAnew 0 = .ok (.iload_n 1, 1) := by decide +kernel
theorem dX2_groupsFoundAnew_1 : decode cX2_groupsFoundAnew 1 = .ok (.ifCond .lt 9, 3) := by decide +kernel
theorem dX2_groupsFoundAnew_4 : decode cX2_groupsFoundAnew 4 = .ok (.iload_n 1, 1) := by decide +kernel
theorem dX2_groupsFoundAnew_5 : decode cX2_groupsFoundAnew 5 = .ok (.bipush 6, 2) := by decide +kernel
theorem dX2_groupsFoundAnew_7 : decode cX2_groupsFoundAnew 7 = .ok (.if_icmp .lt 7, 3) := by decide +kernel
theorem dX2_groupsFoundAnew_10 : decode cX2_groupsFoundAnew 10 = .ok (.iconst 0, 1) := by decide +kernel
theorem dX2_groupsFoundAnew_11 : decode cX2_groupsFoundAnew 11 = .ok (.goto 9, 3) := by decide +kernel
theorem dX2_groupsFoundAnew_14 : decode cX2_groupsFoundAnew 14 = .ok (.aload_n 0, 1) := by decide +kernel
theorem dX2_groupsFoundAnew_15 : decode cX2_groupsFoundAnew 15 = .ok (.getfield 21, 3) := by decide +kernel
theorem dX2_groupsFoundAnew_18 : decode cX2_groupsFoundAnew 18 = .ok (.iload_n 1, 1) := by decide +kernel
theorem dX2_groupsFoundAnew_19 : decode cX2_groupsFoundAnew 19 = .ok (.iaload, 1) := by decide +kernel
theorem dX2_groupsFoundAnew_20 : decode cX2_groupsFoundAnew 20 = .ok (.ireturn, 1) := by decide +kernel
theorem dX2_isWithin_0 : decode cX2_isWithin 0 = .ok (.aload_n 0, 1) := by decide +kernel
theorem dX2_isWithin_1 : decode cX2_isWithin 1 = .ok (.iload_n 2, 1) := by decide +kernel
theorem dX2_isWithin_2 : decode cX2_isWithin 2 = .ok (.invokevirtual 28, 3) := by decide +kernel
theorem dX2_isWithin_5 : decode cX2_isWithin 5 = .ok (.iload_n 1, 1) := by decide +kernel
theorem dX2_isWithin_6 : decode cX2_isWithin 6 = .ok (.ishr, 1) := by decide +kernel
theorem dX2_isWithin_7 : decode cX2_isWithin 7 = .ok (.iconst 1, 1) := by decide +kernel
theorem dX2_isWithin_8 : decode cX2_isWithin 8 = .ok (.iand, 1) := by decide +kernel
theorem dX2_isWithin_9 : decode cX2_isWithin 9 = .ok (.ifCond .eq 7, 3) := by decide +kernel
theorem dX2_isWithin_12 : decode cX2_isWithin 12 = .ok (.iconst 1, 1) := by decide +kernel
theorem dX2_isWithin_13 : decode cX2_isWithin 13 = .ok (.goto 4, 3) := by decide +kernel
theorem dX2_isWithin_16 : decode cX2_isWithin 16 = .ok (.iconst 0, 1) := by decide +kernel
theorem dX2_isWithin_17 : decode cX2_isWithin 17 = .ok (.ireturn, 1) := by decide +kernel
theorem dX2_findAnew_0 : decode cX2_findAnew 0 = .ok (.iconst 0, 1) := by decide +kernel
theorem dX2_findAnew_1 : decode cX2_findAnew 1 = .ok (.istore_n 1, 1) := by decide +kernel
theorem dX2_findAnew_2 : decode cX2_findAnew 2 = .ok (.iload_n 1, 1) := by decide +kernel
theorem dX2_findAnew_3 : decode cX2_findAnew 3 = .ok (.bipush 6, 2) := by decide +kernel
theorem dX2_findAnew_5 : decode cX2_findAnew 5 = .ok (.if_icmp .ge 16, 3) := by decide +kernel
theorem dX2_findAnew_8 : decode cX2_findAnew 8 = .ok (.aload_n 0, 1) := by decide +kernel
theorem dX2_findAnew_9 : decode cX2_findAnew 9 = .ok (.getfield 21, 3) := by decide +kernel
theorem dX2_findAnew_12 : decode cX2_findAnew 12 = .ok (.iload_n 1, 1) := by decide +kernel
theorem dX2_findAnew_13 : decode cX2_findAnew 13 = .ok (.iconst 0, 1) := by decide +kernel
theorem dX2_findAnew_14 : decode cX2_findAnew 14 = .ok (.iastore, 1) := by decide +kernel
theorem dX2_findAnew_15 : decode cX2_findAnew 15 = .ok (.iinc 1 1, 3) := by decide +kernel
theorem dX2_findAnew_18 : decode cX2_findAnew 18 = .ok (.goto (-16), 3) := by decide +kernel
theorem dX2_findAnew_21 : decode cX2_findAnew 21 = .ok (.iconst 0, 1) := by decide +kernel
theorem dX2_findAnew_22 : decode cX2_findAnew 22 = .ok (.istore_n 1, 1) := by decide +kernel
theorem dX2_findAnew_23 : decode cX2_findAnew 23 = .ok (.iload_n 1, 1) := by decide +kernel
theorem dX2_findAnew_24 : decode cX2_findAnew 24 = .ok (.bipush 6, 2) := by decide +kernel
theorem dX2_findAnew_26 : decode cX2_findAnew 26 = .ok (.if_icmp .ge 80, 3) := by decide +kernel
theorem dX2_findAnew_29 : decode cX2_findAnew 29 = .ok (.aload_n 0, 1) := by decide +kernel
theorem dX2_findAnew_30 : decode cX2_findAnew 30 = .ok (.iload_n 1, 1) := by decide +kernel
theorem dX2_findAnew_31 : decode cX2_findAnew 31 = .ok (.invokevirtual 28, 3) := by decide +kernel
theorem dX2_findAnew_34 : decode cX2_findAnew 34 = .ok (.istore_n 2, 1) := by decide +kernel
theorem dX2_findAnew_35 : decode cX2_findAnew 35 = .ok (.iconst 0, 1) := by decide +kernel
theorem dX2_findAnew_36 : decode cX2_findAnew 36 = .ok (.istore_n 3, 1) := by decide +kernel
theorem dX2_findAnew_37 : decode cX2_findAnew 37 = .ok (.iload_n 3, 1) := by decide +kernel
theorem dX2_findAnew_38 : decode cX2_findAnew 38 = .ok (.bipush 6, 2) := by decide +kernel
theorem dX2_findAnew_40 : decode cX2_findAnew 40 = .ok (.if_icmp .ge 60, 3) := by decide +kernel
theorem dX2_findAnew_43 : decode cX2_findAnew 43 = .ok (.iconst 0, 1) := by decide +kernel
theorem dX2_findAnew_44 : decode cX2_findAnew 44 = .ok (.istore 4, 2) := by decide +kernel
theorem dX2_findAnew_46 : decode cX2_findAnew 46 = .ok (.iload 4, 2) := by decide +kernel
theorem dX2_findAnew_48 : decode cX2_findAnew 48 = .ok (.bipush 6, 2) := by decide +kernel
theorem dX2_findAnew_50 : decode cX2_findAnew 50 = .ok (.if_icmp .ge 44, 3) := by decide +kernel
theorem dX2_findAnew_53 : decode cX2_findAnew 53 = .ok (.iload_n 2, 1) := by decide +kernel
theorem dX2_findAnew_54 : decode cX2_findAnew 54 = .ok (.iload_n 3, 1) := by decide +kernel
theorem dX2_findAnew_55 : decode cX2_findAnew 55 = .ok (.ishr, 1) := by decide +kernel
theorem dX2_findAnew_56 : decode cX2_findAnew 56 = .ok (.iconst 1, 1) := by decide +kernel
theorem dX2_findAnew_57 : decode cX2_findAnew 57 = .ok (.iand, 1) := by decide +kernel
theorem dX2_findAnew_58 : decode cX2_findAnew 58 = .ok (.ifCond .eq 30, 3) := by decide +kernel
theorem dX2_findAnew_61 : decode cX2_findAnew 61 = .ok (.aload_n 0, 1) := by decide +kernel
theorem dX2_findAnew_62 : decode cX2_findAnew 62 = .ok (.getfield 9, 3) := by decide +kernel
theorem dX2_findAnew_65 : decode cX2_findAnew 65 = .ok (.iload_n 3, 1) := by decide +kernel
theorem dX2_findAnew_66 : decode cX2_findAnew 66 = .ok (.iaload, 1) := by decide +kernel
theorem dX2_findAnew_67 : decode cX2_findAnew 67 = .ok (.iload 4, 2) := by decide +kernel
theorem dX2_findAnew_69 : decode cX2_findAnew 69 = .ok (.ishr, 1) := by decide +kernel
theorem dX2_findAnew_70 : decode cX2_findAnew 70 = .ok (.iconst 1, 1) := by decide +kernel
theorem dX2_findAnew_71 : decode cX2_findAnew 71 = .ok (.iand, 1) := by decide +kernel
theorem dX2_findAnew_72 : decode cX2_findAnew 72 = .ok (.ifCond .eq 16, 3) := by decide +kernel
theorem dX2_findAnew_75 : decode cX2_findAnew 75 = .ok (.aload_n 0, 1) := by decide +kernel
theorem dX2_findAnew_76 : decode cX2_findAnew 76 = .ok (.getfield 21, 3) := by decide +kernel
theorem dX2_findAnew_79 : decode cX2_findAnew 79 = .ok (.iload 4, 2) := by decide +kernel
theorem dX2_findAnew_81 : decode cX2_findAnew 81 = .ok (.dup2, 1) := by decide +kernel
theorem dX2_findAnew_82 : decode cX2_findAnew 82 = .ok (.iaload, 1) := by decide +kernel
theorem dX2_findAnew_83 : decode cX2_findAnew 83 = .ok (.iconst 1, 1) := by decide +kernel
theorem dX2_findAnew_84 : decode cX2_findAnew 84 = .ok (.iload_n 1, 1) := by decide +kernel
theorem dX2_findAnew_85 : decode cX2_findAnew 85 = .ok (.ishl, 1) := by decide +kernel
theorem dX2_findAnew_86 : decode cX2_findAnew 86 = .ok (.ior, 1) := by decide +kernel
theorem dX2_findAnew_87 : decode cX2_findAnew 87 = .ok (.iastore, 1) := by decide +kernel
theorem dX2_findAnew_88 : decode cX2_findAnew 88 = .ok (.iinc 4 1, 3) := by decide +kernel
theorem dX2_findAnew_91 : decode cX2_findAnew 91 = .ok (.goto (-45), 3) := by decide +kernel
theorem dX2_findAnew_94 : decode cX2_findAnew 94 = .ok (.iinc 3 1, 3) := by decide +kernel
theorem dX2_findAnew_97 : decode cX2_findAnew 97 = .ok (.goto (-60), 3) := by decide +kernel
theorem dX2_findAnew_100 : decode cX2_findAnew 100 = .ok (.iinc 1 1, 3) := by decide +kernel
theorem dX2_findAnew_103 : decode cX2_findAnew 103 = .ok (.goto (-80), 3) := by decide +kernel
theorem dX2_findAnew_106 : decode cX2_findAnew 106 = .ok (.return_, 1) := by decide +kernel
theorem dX2_groupsUpFrom_0 : decode cX2_groupsUpFrom 0 = .ok (.iconst 0, 1) := by decide +kernel
theorem dX2_groupsUpFrom_1 : decode cX2_groupsUpFrom 1 = .ok (.istore_n 2, 1) := by decide +kernel
theorem dX2_groupsUpFrom_2 : decode cX2_groupsUpFrom 2 = .ok (.iconst 0, 1) := by decide +kernel
theorem dX2_groupsUpFrom_3 : decode cX2_groupsUpFrom 3 = .ok (.istore_n 3, 1) := by decide +kernel
theorem dX2_groupsUpFrom_4 : decode cX2_groupsUpFrom 4 = .ok (.iload_n 3, 1) := by decide +kernel
theorem dX2_groupsUpFrom_5 : decode cX2_groupsUpFrom 5 = .ok (.bipush 6, 2) := by decide +kernel
theorem dX2_groupsUpFrom_7 : decode cX2_groupsUpFrom 7 = .ok (.if_icmp .ge 24, 3) := by decide +kernel
theorem dX2_groupsUpFrom_10 : decode cX2_groupsUpFrom 10 = .ok (.iload_n 2, 1) := by decide +kernel
theorem dX2_groupsUpFrom_11 : decode cX2_groupsUpFrom 11 = .ok (.aload_n 0, 1) := by decide +kernel
theorem dX2_groupsUpFrom_12 : decode cX2_groupsUpFrom 12 = .ok (.getfield 9, 3) := by decide +kernel
theorem dX2_groupsUpFrom_15 : decode cX2_groupsUpFrom 15 = .ok (.iload_n 3, 1) := by decide +kernel
theorem dX2_groupsUpFrom_16 : decode cX2_groupsUpFrom 16 = .ok (.iaload, 1) := by decide +kernel
theorem dX2_groupsUpFrom_17 : decode cX2_groupsUpFrom 17 = .ok (.iload_n 1, 1) := by decide +kernel
theorem dX2_groupsUpFrom_18 : decode cX2_groupsUpFrom 18 = .ok (.ishr, 1) := by decide +kernel
theorem dX2_groupsUpFrom_19 : decode cX2_groupsUpFrom 19 = .ok (.iconst 1, 1) := by decide +kernel
theorem dX2_groupsUpFrom_20 : decode cX2_groupsUpFrom 20 = .ok (.iand, 1) := by decide +kernel
theorem dX2_groupsUpFrom_21 : decode cX2_groupsUpFrom 21 = .ok (.iload_n 3, 1) := by decide +kernel
theorem dX2_groupsUpFrom_22 : decode cX2_groupsUpFrom 22 = .ok (.ishl, 1) := by decide +kernel
theorem dX2_groupsUpFrom_23 : decode cX2_groupsUpFrom 23 = .ok (.ior, 1) := by decide +kernel
theorem dX2_groupsUpFrom_24 : decode cX2_groupsUpFrom 24 = .ok (.istore_n 2, 1) := by decide +kernel
theorem dX2_groupsUpFrom_25 : decode cX2_groupsUpFrom 25 = .ok (.iinc 3 1, 3) := by decide +kernel
theorem dX2_groupsUpFrom_28 : decode cX2_groupsUpFrom 28 = .ok (.goto (-24), 3) := by decide +kernel
theorem dX2_groupsUpFrom_31 : decode cX2_groupsUpFrom 31 = .ok (.iconst 0, 1) := by decide +kernel
theorem dX2_groupsUpFrom_32 : decode cX2_groupsUpFrom 32 = .ok (.istore_n 3, 1) := by decide +kernel
theorem dX2_groupsUpFrom_33 : decode cX2_groupsUpFrom 33 = .ok (.iload_n 3, 1) := by decide +kernel
theorem dX2_groupsUpFrom_34 : decode cX2_groupsUpFrom 34 = .ok (.bipush 6, 2) := by decide +kernel
theorem dX2_groupsUpFrom_36 : decode cX2_groupsUpFrom 36 = .ok (.if_icmp .ge 44, 3) := by decide +kernel
theorem dX2_groupsUpFrom_39 : decode cX2_groupsUpFrom 39 = .ok (.iconst 0, 1) := by decide +kernel
theorem dX2_groupsUpFrom_40 : decode cX2_groupsUpFrom 40 = .ok (.istore 4, 2) := by decide +kernel
theorem dX2_groupsUpFrom_42 : decode cX2_groupsUpFrom 42 = .ok (.iload 4, 2) := by decide +kernel
theorem dX2_groupsUpFrom_44 : decode cX2_groupsUpFrom 44 = .ok (.bipush 6, 2) := by decide +kernel
theorem dX2_groupsUpFrom_46 : decode cX2_groupsUpFrom 46 = .ok (.if_icmp .ge 28, 3) := by decide +kernel
theorem dX2_groupsUpFrom_49 : decode cX2_groupsUpFrom 49 = .ok (.aload_n 0, 1) := by decide +kernel
theorem dX2_groupsUpFrom_50 : decode cX2_groupsUpFrom 50 = .ok (.getfield 15, 3) := by decide +kernel
theorem dX2_groupsUpFrom_53 : decode cX2_groupsUpFrom 53 = .ok (.iload 4, 2) := by decide +kernel
theorem dX2_groupsUpFrom_55 : decode cX2_groupsUpFrom 55 = .ok (.iaload, 1) := by decide +kernel
theorem dX2_groupsUpFrom_56 : decode cX2_groupsUpFrom 56 = .ok (.iload_n 2, 1) := by decide +kernel
theorem dX2_groupsUpFrom_57 : decode cX2_groupsUpFrom 57 = .ok (.iand, 1) := by decide +kernel
theorem dX2_groupsUpFrom_58 : decode cX2_groupsUpFrom 58 = .ok (.ifCond .eq 10, 3) := by decide +kernel
theorem dX2_groupsUpFrom_61 : decode cX2_groupsUpFrom 61 = .ok (.iload_n 2, 1) := by decide +kernel
theorem dX2_groupsUpFrom_62 : decode cX2_groupsUpFrom 62 = .ok (.iconst 1, 1) := by decide +kernel
theorem dX2_groupsUpFrom_63 : decode cX2_groupsUpFrom 63 = .ok (.iload 4, 2) := by decide +kernel
theorem dX2_groupsUpFrom_65 : decode cX2_groupsUpFrom 65 = .ok (.ishl, 1) := by decide +kernel
theorem dX2_groupsUpFrom_66 : decode cX2_groupsUpFrom 66 = .ok (.ior, 1) := by decide +kernel
theorem dX2_groupsUpFrom_67 : decode cX2_groupsUpFrom 67 = .ok (.istore_n 2, 1) := by decide +kernel
theorem dX2_groupsUpFrom_68 : decode cX2_groupsUpFrom 68 = .ok (.iinc 4 1, 3) := by decide +kernel
theorem dX2_groupsUpFrom_71 : decode cX2_groupsUpFrom 71 = .ok (.goto (-29), 3) := by decide +kernel
theorem dX2_groupsUpFrom_74 : decode cX2_groupsUpFrom 74 = .ok (.iinc 3 1, 3) := by decide +kernel
theorem dX2_groupsUpFrom_77 : decode cX2_groupsUpFrom 77 = .ok (.goto (-44), 3) := by decide +kernel
theorem dX2_groupsUpFrom_80 : decode cX2_groupsUpFrom 80 = .ok (.iload_n 2, 1) := by decide +kernel
theorem dX2_groupsUpFrom_81 : decode cX2_groupsUpFrom 81 = .ok (.ireturn, 1) := by decide +kernel
theorem dX2_groupsDownFrom_0 : decode cX2_groupsDownFrom 0 = .ok (.iconst 1, 1) := by decide +kernel
theorem dX2_groupsDownFrom_1 : decode cX2_groupsDownFrom 1 = .ok (.iload_n 1, 1) := by decide +kernel
theorem dX2_groupsDownFrom_2 : decode cX2_groupsDownFrom 2 = .ok (.ishl, 1) := by decide +kernel
theorem dX2_groupsDownFrom_3 : decode cX2_groupsDownFrom 3 = .ok (.istore_n 2, 1) := by decide +kernel
theorem dX2_groupsDownFrom_4 : decode cX2_groupsDownFrom 4 = .ok (.iconst 0, 1) := by decide +kernel
theorem dX2_groupsDownFrom_5 : decode cX2_groupsDownFrom 5 = .ok (.istore_n 3, 1) := by decide +kernel
theorem dX2_groupsDownFrom_6 : decode cX2_groupsDownFrom 6 = .ok (.iload_n 3, 1) := by decide +kernel
theorem dX2_groupsDownFrom_7 : decode cX2_groupsDownFrom 7 = .ok (.bipush 6, 2) := by decide +kernel
theorem dX2_groupsDownFrom_9 : decode cX2_groupsDownFrom 9 = .ok (.if_icmp .ge 44, 3) := by decide +kernel
theorem dX2_groupsDownFrom_12 : decode cX2_groupsDownFrom 12 = .ok (.iconst 0, 1) := by decide +kernel
theorem dX2_groupsDownFrom_13 : decode cX2_groupsDownFrom 13 = .ok (.istore 4, 2) := by decide +kernel
theorem dX2_groupsDownFrom_15 : decode cX2_groupsDownFrom 15 = .ok (.iload 4, 2) := by decide +kernel
theorem dX2_groupsDownFrom_17 : decode cX2_groupsDownFrom 17 = .ok (.bipush 6, 2) := by decide +kernel
theorem dX2_groupsDownFrom_19 : decode cX2_groupsDownFrom 19 = .ok (.if_icmp .ge 28, 3) := by decide +kernel
theorem dX2_groupsDownFrom_22 : decode cX2_groupsDownFrom 22 = .ok (.iload_n 2, 1) := by decide +kernel
theorem dX2_groupsDownFrom_23 : decode cX2_groupsDownFrom 23 = .ok (.iload 4, 2) := by decide +kernel
theorem dX2_groupsDownFrom_25 : decode cX2_groupsDownFrom 25 = .ok (.ishr, 1) := by decide +kernel
theorem dX2_groupsDownFrom_26 : decode cX2_groupsDownFrom 26 = .ok (.iconst 1, 1) := by decide +kernel
theorem dX2_groupsDownFrom_27 : decode cX2_groupsDownFrom 27 = .ok (.iand, 1) := by decide +kernel
theorem dX2_groupsDownFrom_28 : decode cX2_groupsDownFrom 28 = .ok (.ifCond .eq 13, 3) := by decide +kernel
theorem dX2_groupsDownFrom_31 : decode cX2_groupsDownFrom 31 = .ok (.iload_n 2, 1) := by decide +kernel
theorem dX2_groupsDownFrom_32 : decode cX2_groupsDownFrom 32 = .ok (.aload_n 0, 1) := by decide +kernel
theorem dX2_groupsDownFrom_33 : decode cX2_groupsDownFrom 33 = .ok (.getfield 15, 3) := by decide +kernel
theorem dX2_groupsDownFrom_36 : decode cX2_groupsDownFrom 36 = .ok (.iload 4, 2) := by decide +kernel
theorem dX2_groupsDownFrom_38 : decode cX2_groupsDownFrom 38 = .ok (.iaload, 1) := by decide +kernel
theorem dX2_groupsDownFrom_39 : decode cX2_groupsDownFrom 39 = .ok (.ior, 1) := by decide +kernel
theorem dX2_groupsDownFrom_40 : decode cX2_groupsDownFrom 40 = .ok (.istore_n 2, 1) := by decide +kernel
theorem dX2_groupsDownFrom_41 : decode cX2_groupsDownFrom 41 = .ok (.iinc 4 1, 3) := by decide +kernel
theorem dX2_groupsDownFrom_44 : decode cX2_groupsDownFrom 44 = .ok (.goto (-29), 3) := by decide +kernel
theorem dX2_groupsDownFrom_47 : decode cX2_groupsDownFrom 47 = .ok (.iinc 3 1, 3) := by decide +kernel
theorem dX2_groupsDownFrom_50 : decode cX2_groupsDownFrom 50 = .ok (.goto (-44), 3) := by decide +kernel
theorem dX2_groupsDownFrom_53 : decode cX2_groupsDownFrom 53 = .ok (.iload_n 2, 1) := by decide +kernel
theorem dX2_groupsDownFrom_54 : decode cX2_groupsDownFrom 54 = .ok (.ireturn, 1) := by decide +kernel
theorem dX3_init_0 : decode cX3_init 0 = .ok (.aload_n 0, 1) := by decide +kernel
theorem dX3_init_1 : decode cX3_init 1 = .ok (.invokespecial 3, 3) := by decide +kernel
theorem dX3_init_4 : decode cX3_init 4 = .ok (.aload_n 0, 1) := by decide +kernel
theorem dX3_init_5 : decode cX3_init 5 = .ok (.bipush 16, 2) := by decide +kernel
theorem dX3_init_7 : decode cX3_init 7 = .ok (.newarray .int, 2) := by decide +kernel
theorem dX3_init_9 : decode cX3_init 9 = .ok (.putfield 9, 3) := by decide +kernel
theorem dX3_init_12 : decode cX3_init 12 = .ok (.aload_n 0, 1) := by decide +kernel
theorem dX3_init_13 : decode cX3_init 13 = .ok (.bipush 16, 2) := by decide +kernel
theorem dX3_init_15 : decode cX3_init 15 = .ok (.newarray .int, 2) := by decide +kernel
theorem dX3_init_17 : decode cX3_init 17 = .ok (.putfield 15, 3) := by decide +kernel
theorem dX3_init_20 : decode cX3_init 20 = .ok (.iconst 0, 1) := by decide +kernel
theorem dX3_init_21 : decode cX3_init 21 = .ok (.istore_n 1, 1) := by decide +kernel
theorem dX3_init_22 : decode cX3_init 22 = .ok (.iload_n 1, 1) := by decide +kernel
theorem dX3_init_23 : decode cX3_init 23 = .ok (.aload_n 0, 1) := by decide +kernel
theorem dX3_init_24 : decode cX3_init 24 = .ok (.getfield 15, 3) := by decide +kernel
theorem dX3_init_27 : decode cX3_init 27 = .ok (.arraylength, 1) := by decide +kernel
theorem dX3_init_28 : decode cX3_init 28 = .ok (.if_icmp .ge 16, 3) := by decide +kernel
theorem dX3_init_31 : decode cX3_init 31 = .ok (.aload_n 0, 1) := by decide +kernel
theorem dX3_init_32 : decode cX3_init 32 = .ok (.getfield 15, 3) := by decide +kernel
theorem dX3_init_35 : decode cX3_init 35 = .ok (.iload_n 1, 1) := by decide +kernel
theorem dX3_init_36 : decode cX3_init 36 = .ok (.iconst (-1), 1) := by decide +kernel
theorem dX3_init_37 : decode cX3_init 37 = .ok (.iastore, 1) := by decide +kernel
theorem dX3_init_38 : decode cX3_init 38 = .ok (.iinc 1 1, 3) := by decide +kernel
theorem dX3_init_41 : decode cX3_init 41 = .ok (.goto (-19), 3) := by decide +kernel
theorem dX3_init_44 : decode cX3_init 44 = .ok (.return_, 1) := by decide +kernel
theorem dX3_rightsOf_0 : decode cX3_rightsOf 0 = .ok (.iload_n 1, 1) := by decide +kernel
theorem dX3_rightsOf_1 : decode cX3_rightsOf 1 = .ok (.iload_n 2, 1) := by decide +kernel
theorem dX3_rightsOf_2 : decode cX3_rightsOf 2 = .ok (.invokestatic 18, 3) := by decide +kernel
theorem dX3_rightsOf_5 : decode cX3_rightsOf 5 = .ok (.ifCond .eq 16, 3) := by decide +kernel
theorem dX3_rightsOf_8 : decode cX3_rightsOf 8 = .ok (.aload_n 0, 1) := by decide +kernel
theorem dX3_rightsOf_9 : decode cX3_rightsOf 9 = .ok (.getfield 9, 3) := by decide +kernel
theorem dX3_rightsOf_12 : decode cX3_rightsOf 12 = .ok (.iload_n 1, 1) := by decide +kernel
theorem dX3_rightsOf_13 : decode cX3_rightsOf 13 = .ok (.iconst 4, 1) := by decide +kernel
theorem dX3_rightsOf_14 : decode cX3_rightsOf 14 = .ok (.imul, 1) := by decide +kernel
theorem dX3_rightsOf_15 : decode cX3_rightsOf 15 = .ok (.iload_n 2, 1) := by decide +kernel
theorem dX3_rightsOf_16 : decode cX3_rightsOf 16 = .ok (.iadd, 1) := by decide +kernel
theorem dX3_rightsOf_17 : decode cX3_rightsOf 17 = .ok (.iaload, 1) := by decide +kernel
theorem dX3_rightsOf_18 : decode cX3_rightsOf 18 = .ok (.goto 4, 3) := by decide +kernel
theorem dX3_rightsOf_21 : decode cX3_rightsOf 21 = .ok (.iconst 0, 1) := by decide +kernel
theorem dX3_rightsOf_22 : decode cX3_rightsOf 22 = .ok (.ireturn, 1) := by decide +kernel
theorem dX3_setRights_0 : decode cX3_setRights 0 = .ok (.iload_n 1, 1) := by decide +kernel
theorem dX3_setRights_1 : decode cX3_setRights 1 = .ok (.iload_n 2, 1) := by decide +kernel
theorem dX3_setRights_2 : decode cX3_setRights 2 = .ok (.invokestatic 18, 3) := by decide +kernel
theorem dX3_setRights_5 : decode cX3_setRights 5 = .ok (.ifCond .eq 14, 3) := by decide +kernel
theorem dX3_setRights_8 : decode cX3_setRights 8 = .ok (.aload_n 0, 1) := by decide +kernel
theorem dX3_setRights_9 : decode cX3_setRights 9 = .ok (.getfield 9, 3) := by decide +kernel
theorem dX3_setRights_12 : decode cX3_setRights 12 = .ok (.iload_n 1, 1) := by decide +kernel
theorem dX3_setRights_13 : decode cX3_setRights 13 = .ok (.iconst 4, 1) := by decide +kernel
theorem dX3_setRights_14 : decode cX3_setRights 14 = .ok (.imul, 1) := by decide +kernel
theorem dX3_setRights_15 : decode cX3_setRights 15 = .ok (.iload_n 2, 1) := by decide +kernel
theorem dX3_setRights_16 : decode cX3_setRights 16 = .ok (.iadd, 1) := by decide +kernel
theorem dX3_setRights_17 : decode cX3_setRights 17 = .ok (.iload_n 3, 1) := by decide +kernel
theorem dX3_setRights_18 : decode cX3_setRights 18 = .ok (.iastore, 1) := by decide +kernel
theorem dX3_setRights_19 : decode cX3_setRights 19 = .ok (.return_, 1) := by decide +kernel
theorem dX3_moveOf_0 : decode cX3_moveOf 0 = .ok (.iload_n 1, 1) := by decide +kernel
theorem dX3_moveOf_1 : decode cX3_moveOf 1 = .ok (.iload_n 2, 1) := by decide +kernel
theorem dX3_moveOf_2 : decode cX3_moveOf 2 = .ok (.invokestatic 18, 3) := by decide +kernel
theorem dX3_moveOf_5 : decode cX3_moveOf 5 = .ok (.ifCond .eq 16, 3) := by decide +kernel
theorem dX3_moveOf_8 : decode cX3_moveOf 8 = .ok (.aload_n 0, 1) := by decide +kernel
theorem dX3_moveOf_9 : decode cX3_moveOf 9 = .ok (.getfield 15, 3) := by decide +kernel
theorem dX3_moveOf_12 : decode cX3_moveOf 12 = .ok (.iload_n 1, 1) := by decide +kernel
theorem dX3_moveOf_13 : decode cX3_moveOf 13 = .ok (.iconst 4, 1) := by decide +kernel
theorem dX3_moveOf_14 : decode cX3_moveOf 14 = .ok (.imul, 1) := by decide +kernel
theorem dX3_moveOf_15 : decode cX3_moveOf 15 = .ok (.iload_n 2, 1) := by decide +kernel
theorem dX3_moveOf_16 : decode cX3_moveOf 16 = .ok (.iadd, 1) := by decide +kernel
theorem dX3_moveOf_17 : decode cX3_moveOf 17 = .ok (.iaload, 1) := by decide +kernel
theorem dX3_moveOf_18 : decode cX3_moveOf 18 = .ok (.goto 4, 3) := by decide +kernel
theorem dX3_moveOf_21 : decode cX3_moveOf 21 = .ok (.iconst (-1), 1) := by decide +kernel
theorem dX3_moveOf_22 : decode cX3_moveOf 22 = .ok (.ireturn, 1) := by decide +kernel
theorem dX3_setMove_0 : decode cX3_setMove 0 = .ok (.iload_n 1, 1) := by decide +kernel
theorem dX3_setMove_1 : decode cX3_setMove 1 = .ok (.iload_n 2, 1) := by decide +kernel
theorem dX3_setMove_2 : decode cX3_setMove 2 = .ok (.invokestatic 18, 3) := by decide +kernel
theorem dX3_setMove_5 : decode cX3_setMove 5 = .ok (.ifCond .eq 14, 3) := by decide +kernel
theorem dX3_setMove_8 : decode cX3_setMove 8 = .ok (.aload_n 0, 1) := by decide +kernel
theorem dX3_setMove_9 : decode cX3_setMove 9 = .ok (.getfield 15, 3) := by decide +kernel
theorem dX3_setMove_12 : decode cX3_setMove 12 = .ok (.iload_n 1, 1) := by decide +kernel
theorem dX3_setMove_13 : decode cX3_setMove 13 = .ok (.iconst 4, 1) := by decide +kernel
theorem dX3_setMove_14 : decode cX3_setMove 14 = .ok (.imul, 1) := by decide +kernel
theorem dX3_setMove_15 : decode cX3_setMove 15 = .ok (.iload_n 2, 1) := by decide +kernel
theorem dX3_setMove_16 : decode cX3_setMove 16 = .ok (.iadd, 1) := by decide +kernel
theorem dX3_setMove_17 : decode cX3_setMove 17 = .ok (.iload_n 3, 1) := by decide +kernel
theorem dX3_setMove_18 : decode cX3_setMove 18 = .ok (.iastore, 1) := by decide +kernel
theorem dX3_setMove_19 : decode cX3_setMove 19 = .ok (.return_, 1) := by decide +kernel
theorem dX3_isCell_0 : decode cX3_isCell 0 = .ok (.iload_n 0, 1) := by decide +kernel
theorem dX3_isCell_1 : decode cX3_isCell 1 = .ok (.ifCond .lt 21, 3) := by decide +kernel
theorem dX3_isCell_4 : decode cX3_isCell 4 = .ok (.iload_n 0, 1) := by decide +kernel
theorem dX3_isCell_5 : decode cX3_isCell 5 = .ok (.iconst 4, 1) := by decide +kernel
theorem dX3_isCell_6 : decode cX3_isCell 6 = .ok (.if_icmp .ge 16, 3) := by decide +kernel
theorem dX3_isCell_9 : decode cX3_isCell 9 = .ok (.iload_n 1, 1) := by decide +kernel
theorem dX3_isCell_10 : decode cX3_isCell 10 = .ok (.ifCond .lt 12, 3) := by decide +kernel
theorem dX3_isCell_13 : decode cX3_isCell 13 = .ok (.iload_n 1, 1) := by decide +kernel
theorem dX3_isCell_14 : decode cX3_isCell 14 = .ok (.iconst 4, 1) := by decide +kernel
theorem dX3_isCell_15 : decode cX3_isCell 15 = .ok (.if_icmp .ge 7, 3) := by decide +kernel
theorem dX3_isCell_18 : decode cX3_isCell 18 = .ok (.iconst 1, 1) := by decide +kernel
theorem dX3_isCell_19 : decode cX3_isCell 19 = .ok (.goto 4, 3) := by decide +kernel
theorem dX3_isCell_22 : decode cX3_isCell 22 = .ok (.iconst 0, 1) := by decide +kernel
theorem dX3_isCell_23 : decode cX3_isCell 23 = .ok (.ireturn, 1) := by decide +kernel
theorem dX4_init_0 : decode cX4_init 0 = .ok (.aload_n 0, 1) := by decide +kernel
theorem dX4_init_1 : decode cX4_init 1 = .ok (.invokespecial 3, 3) := by decide +kernel
theorem dX4_init_4 : decode cX4_init 4 = .ok (.aload_n 0, 1) := by decide +kernel
theorem dX4_init_5 : decode cX4_init 5 = .ok (.sipush 192, 3) := by decide +kernel
theorem dX4_init_8 : decode cX4_init 8 = .ok (.newarray .int, 2) := by decide +kernel
theorem dX4_init_10 : decode cX4_init 10 = .ok (.putfield 11, 3) := by decide +kernel
theorem dX4_init_13 : decode cX4_init 13 = .ok (.aload_n 0, 1) := by decide +kernel
theorem dX4_init_14 : decode cX4_init 14 = .ok (.sipush 192, 3) := by decide +kernel
theorem dX4_init_17 : decode cX4_init 17 = .ok (.newarray .int, 2) := by decide +kernel
theorem dX4_init_19 : decode cX4_init 19 = .ok (.putfield 15, 3) := by decide +kernel
theorem dX4_init_22 : decode cX4_init 22 = .ok (.return_, 1) := by decide +kernel
theorem dX4_clear_0 : decode cX4_clear 0 = .ok (.aload_n 0, 1) := by decide +kernel
theorem dX4_clear_1 : decode cX4_clear 1 = .ok (.iconst 0, 1) := by decide +kernel
theorem dX4_clear_2 : decode cX4_clear 2 = .ok (.putfield 18, 3) := by decide +kernel
theorem dX4_clear_5 : decode cX4_clear 5 = .ok (.iconst 0, 1) := by decide +kernel
theorem dX4_clear_6 : decode cX4_clear 6 = .ok (.istore_n 1, 1) := by decide +kernel
theorem dX4_clear_7 : decode cX4_clear 7 = .ok (.iload_n 1, 1) := by decide +kernel
theorem dX4_clear_8 : decode cX4_clear 8 = .ok (.sipush 192, 3) := by decide +kernel
theorem dX4_clear_11 : decode cX4_clear 11 = .ok (.if_icmp .ge 16, 3) := by decide +kernel
theorem dX4_clear_14 : decode cX4_clear 14 = .ok (.aload_n 0, 1) := by decide +kernel
theorem dX4_clear_15 : decode cX4_clear 15 = .ok (.getfield 15, 3) := by decide +kernel
theorem dX4_clear_18 : decode cX4_clear 18 = .ok (.iload_n 1, 1) := by decide +kernel
theorem dX4_clear_19 : decode cX4_clear 19 = .ok (.iconst (-1), 1) := by decide +kernel
theorem dX4_clear_20 : decode cX4_clear 20 = .ok (.iastore, 1) := by decide +kernel
theorem dX4_clear_21 : decode cX4_clear 21 = .ok (.iinc 1 1, 3) := by decide +kernel
theorem dX4_clear_24 : decode cX4_clear 24 = .ok (.goto (-17), 3) := by decide +kernel
theorem dX4_clear_27 : decode cX4_clear 27 = .ok (.return_, 1) := by decide +kernel
theorem dX4_add_0 : decode cX4_add 0 = .ok (.aload_n 1, 1) := by decide +kernel
theorem dX4_add_1 : decode cX4_add 1 = .ok (.getfield 22, 3) := by decide +kernel
theorem dX4_add_4 : decode cX4_add 4 = .ok (.iconst 4, 1) := by decide +kernel
theorem dX4_add_5 : decode cX4_add 5 = .ok (.imul, 1) := by decide +kernel
theorem dX4_add_6 : decode cX4_add 6 = .ok (.aload_n 1, 1) := by decide +kernel
theorem dX4_add_7 : decode cX4_add 7 = .ok (.getfield 27, 3) := by decide +kernel
theorem dX4_add_10 : decode cX4_add 10 = .ok (.iadd, 1) := by decide +kernel
theorem dX4_add_11 : decode cX4_add 11 = .ok (.bipush 8, 2) := by decide +kernel
theorem dX4_add_13 : decode cX4_add 13 = .ok (.imul, 1) := by decide +kernel
theorem dX4_add_14 : decode cX4_add 14 = .ok (.aload_n 1, 1) := by decide +kernel
theorem dX4_add_15 : decode cX4_add 15 = .ok (.getfield 30, 3) := by decide +kernel
theorem dX4_add_18 : decode cX4_add 18 = .ok (.iadd, 1) := by decide +kernel
theorem dX4_add_19 : decode cX4_add 19 = .ok (.istore_n 3, 1) := by decide +kernel
theorem dX4_add_20 : decode cX4_add 20 = .ok (.iload_n 3, 1) := by decide +kernel
theorem dX4_add_21 : decode cX4_add 21 = .ok (.ifCond .lt 57, 3) := by decide +kernel
theorem dX4_add_24 : decode cX4_add 24 = .ok (.iload_n 3, 1) := by decide +kernel
theorem dX4_add_25 : decode cX4_add 25 = .ok (.sipush 192, 3) := by decide +kernel
theorem dX4_add_28 : decode cX4_add 28 = .ok (.if_icmp .ge 50, 3) := by decide +kernel
theorem dX4_add_31 : decode cX4_add 31 = .ok (.aload_n 0, 1) := by decide +kernel
theorem dX4_add_32 : decode cX4_add 32 = .ok (.getfield 15, 3) := by decide +kernel
theorem dX4_add_35 : decode cX4_add 35 = .ok (.iload_n 3, 1) := by decide +kernel
theorem dX4_add_36 : decode cX4_add 36 = .ok (.iaload, 1) := by decide +kernel
theorem dX4_add_37 : decode cX4_add 37 = .ok (.iconst (-1), 1) := by decide +kernel
theorem dX4_add_38 : decode cX4_add 38 = .ok (.if_icmp .ne 40, 3) := by decide +kernel
theorem dX4_add_41 : decode cX4_add 41 = .ok (.aload_n 0, 1) := by decide +kernel
theorem dX4_add_42 : decode cX4_add 42 = .ok (.getfield 18, 3) := by decide +kernel
theorem dX4_add_45 : decode cX4_add 45 = .ok (.sipush 192, 3) := by decide +kernel
theorem dX4_add_48 : decode cX4_add 48 = .ok (.if_icmp .ge 30, 3) := by decide +kernel
theorem dX4_add_51 : decode cX4_add 51 = .ok (.aload_n 0, 1) := by decide +kernel
theorem dX4_add_52 : decode cX4_add 52 = .ok (.getfield 15, 3) := by decide +kernel
theorem dX4_add_55 : decode cX4_add 55 = .ok (.iload_n 3, 1) := by decide +kernel
theorem dX4_add_56 : decode cX4_add 56 = .ok (.iload_n 2, 1) := by decide +kernel
theorem dX4_add_57 : decode cX4_add 57 = .ok (.iastore, 1) := by decide +kernel
theorem dX4_add_58 : decode cX4_add 58 = .ok (.aload_n 0, 1) := by decide +kernel
theorem dX4_add_59 : decode cX4_add 59 = .ok (.getfield 11, 3) := by decide +kernel
theorem dX4_add_62 : decode cX4_add 62 = .ok (.aload_n 0, 1) := by decide +kernel
theorem dX4_add_63 : decode cX4_add 63 = .ok (.getfield 18, 3) := by decide +kernel
theorem dX4_add_66 : decode cX4_add 66 = .ok (.iload_n 3, 1) := by decide +kernel
theorem dX4_add_67 : decode cX4_add 67 = .ok (.iastore, 1) := by decide +kernel
theorem dX4_add_68 : decode cX4_add 68 = .ok (.aload_n 0, 1) := by decide +kernel
theorem dX4_add_69 : decode cX4_add 69 = .ok (.dup, 1) := by decide +kernel
theorem dX4_add_70 : decode cX4_add 70 = .ok (.getfield 18, 3) := by decide +kernel
theorem dX4_add_73 : decode cX4_add 73 = .ok (.iconst 1, 1) := by decide +kernel
theorem dX4_add_74 : decode cX4_add 74 = .ok (.iadd, 1) := by decide +kernel
theorem dX4_add_75 : decode cX4_add 75 = .ok (.putfield 18, 3) := by decide +kernel
theorem dX4_add_78 : decode cX4_add 78 = .ok (.return_, 1) := by decide +kernel
theorem dX4_restore_0 : decode cX4_restore 0 = .ok (.iload_n 2, 1) := by decide +kernel
theorem dX4_restore_1 : decode cX4_restore 1 = .ok (.ifCond .lt 10, 3) := by decide +kernel
theorem dX4_restore_4 : decode cX4_restore 4 = .ok (.iload_n 2, 1) := by decide +kernel
theorem dX4_restore_5 : decode cX4_restore 5 = .ok (.sipush 192, 3) := by decide +kernel
theorem dX4_restore_8 : decode cX4_restore 8 = .ok (.if_icmp .lt 5, 3) := by decide +kernel
theorem dX4_restore_11 : decode cX4_restore 11 = .ok (.iconst (-1), 1) := by decide +kernel
theorem dX4_restore_12 : decode cX4_restore 12 = .ok (.ireturn, 1) := by decide +kernel
theorem dX4_restore_13 : decode cX4_restore 13 = .ok (.aload_n 0, 1) := by decide +kernel
theorem dX4_restore_14 : decode cX4_restore 14 = .ok (.getfield 11, 3) := by decide +kernel
theorem dX4_restore_17 : decode cX4_restore 17 = .ok (.iload_n 2, 1) := by decide +kernel
theorem dX4_restore_18 : decode cX4_restore 18 = .ok (.iaload, 1) := by decide +kernel
theorem dX4_restore_19 : decode cX4_restore 19 = .ok (.istore_n 3, 1) := by decide +kernel
theorem dX4_restore_20 : decode cX4_restore 20 = .ok (.iload_n 3, 1) := by decide +kernel
theorem dX4_restore_21 : decode cX4_restore 21 = .ok (.ifCond .lt 10, 3) := by decide +kernel
theorem dX4_restore_24 : decode cX4_restore 24 = .ok (.iload_n 3, 1) := by decide +kernel
theorem dX4_restore_25 : decode cX4_restore 25 = .ok (.sipush 192, 3) := by decide +kernel
theorem dX4_restore_28 : decode cX4_restore 28 = .ok (.if_icmp .lt 5, 3) := by decide +kernel
theorem dX4_restore_31 : decode cX4_restore 31 = .ok (.iconst (-1), 1) := by decide +kernel
theorem dX4_restore_32 : decode cX4_restore 32 = .ok (.ireturn, 1) := by decide +kernel
theorem dX4_restore_33 : decode cX4_restore 33 = .ok (.aload_n 1, 1) := by decide +kernel
theorem dX4_restore_34 : decode cX4_restore 34 = .ok (.iload_n 3, 1) := by decide +kernel
theorem dX4_restore_35 : decode cX4_restore 35 = .ok (.bipush 8, 2) := by decide +kernel
theorem dX4_restore_37 : decode cX4_restore 37 = .ok (.irem, 1) := by decide +kernel
theorem dX4_restore_38 : decode cX4_restore 38 = .ok (.putfield 30, 3) := by decide +kernel
theorem dX4_restore_41 : decode cX4_restore 41 = .ok (.aload_n 1, 1) := by decide +kernel
theorem dX4_restore_42 : decode cX4_restore 42 = .ok (.iload_n 3, 1) := by decide +kernel
theorem dX4_restore_43 : decode cX4_restore 43 = .ok (.bipush 8, 2) := by decide +kernel
theorem dX4_restore_45 : decode cX4_restore 45 = .ok (.idiv, 1) := by decide +kernel
theorem dX4_restore_46 : decode cX4_restore 46 = .ok (.iconst 4, 1) := by decide +kernel
theorem dX4_restore_47 : decode cX4_restore 47 = .ok (.irem, 1) := by decide +kernel
theorem dX4_restore_48 : decode cX4_restore 48 = .ok (.putfield 27, 3) := by decide +kernel
theorem dX4_restore_51 : decode cX4_restore 51 = .ok (.aload_n 1, 1) := by decide +kernel
theorem dX4_restore_52 : decode cX4_restore 52 = .ok (.iload_n 3, 1) := by decide +kernel
theorem dX4_restore_53 : decode cX4_restore 53 = .ok (.bipush 8, 2) := by decide +kernel
theorem dX4_restore_55 : decode cX4_restore 55 = .ok (.idiv, 1) := by decide +kernel
theorem dX4_restore_56 : decode cX4_restore 56 = .ok (.iconst 4, 1) := by decide +kernel
theorem dX4_restore_57 : decode cX4_restore 57 = .ok (.idiv, 1) := by decide +kernel
theorem dX4_restore_58 : decode cX4_restore 58 = .ok (.putfield 22, 3) := by decide +kernel
theorem dX4_restore_61 : decode cX4_restore 61 = .ok (.aload_n 0, 1) := by decide +kernel
theorem dX4_restore_62 : decode cX4_restore 62 = .ok (.getfield 15, 3) := by decide +kernel
theorem dX4_restore_65 : decode cX4_restore 65 = .ok (.iload_n 3, 1) := by decide +kernel
theorem dX4_restore_66 : decode cX4_restore 66 = .ok (.iaload, 1) := by decide +kernel
theorem dX4_restore_67 : decode cX4_restore 67 = .ok (.ireturn, 1) := by decide +kernel
theorem dX5_init_0 : decode cX5_init 0 = .ok (.aload_n 0, 1) := by decide +kernel
theorem dX5_init_1 : decode cX5_init 1 = .ok (.invokespecial 3, 3) := by decide +kernel
theorem dX5_init_4 : decode cX5_init 4 = .ok (.aload_n 0, 1) := by decide +kernel
theorem dX5_init_5 : decode cX5_init 5 = .ok (.bipush 7, 2) := by decide +kernel
theorem dX5_init_7 : decode cX5_init 7 = .ok (.putfield 9, 3) := by decide +kernel
theorem dX5_init_10 : decode cX5_init 10 = .ok (.aload_n 0, 1) := by decide +kernel
theorem dX5_init_11 : decode cX5_init 11 = .ok (.bipush 12, 2) := by decide +kernel
theorem dX5_init_13 : decode cX5_init 13 = .ok (.newarray .int, 2) := by decide +kernel
theorem dX5_init_15 : decode cX5_init 15 = .ok (.putfield 15, 3) := by decide +kernel
theorem dX5_init_18 : decode cX5_init 18 = .ok (.iconst 0, 1) := by decide +kernel
theorem dX5_init_19 : decode cX5_init 19 = .ok (.istore_n 1, 1) := by decide +kernel
theorem dX5_init_20 : decode cX5_init 20 = .ok (.iload_n 1, 1) := by decide +kernel
theorem dX5_init_21 : decode cX5_init 21 = .ok (.aload_n 0, 1) := by decide +kernel
theorem dX5_init_22 : decode cX5_init 22 = .ok (.getfield 15, 3) := by decide +kernel
theorem dX5_init_25 : decode cX5_init 25 = .ok (.arraylength, 1) := by decide +kernel
theorem dX5_init_26 : decode cX5_init 26 = .ok (.if_icmp .ge 16, 3) := by decide +kernel
theorem dX5_init_29 : decode cX5_init 29 = .ok (.aload_n 0, 1) := by decide +kernel
theorem dX5_init_30 : decode cX5_init 30 = .ok (.getfield 15, 3) := by decide +kernel
theorem dX5_init_33 : decode cX5_init 33 = .ok (.iload_n 1, 1) := by decide +kernel
theorem dX5_init_34 : decode cX5_init 34 = .ok (.iconst (-1), 1) := by decide +kernel
theorem dX5_init_35 : decode cX5_init 35 = .ok (.iastore, 1) := by decide +kernel
theorem dX5_init_36 : decode cX5_init 36 = .ok (.iinc 1 1, 3) := by decide +kernel
theorem dX5_init_39 : decode cX5_init 39 = .ok (.goto (-19), 3) := by decide +kernel
theorem dX5_init_42 : decode cX5_init 42 = .ok (.return_, 1) := by decide +kernel
theorem dX5_rightsOf_0 : decode cX5_rightsOf 0 = .ok (.iload_n 1, 1) := by decide +kernel
theorem dX5_rightsOf_1 : decode cX5_rightsOf 1 = .ok (.ifCond .lt 9, 3) := by decide +kernel
theorem dX5_rightsOf_4 : decode cX5_rightsOf 4 = .ok (.iload_n 1, 1) := by decide +kernel
theorem dX5_rightsOf_5 : decode cX5_rightsOf 5 = .ok (.bipush 12, 2) := by decide +kernel
theorem dX5_rightsOf_7 : decode cX5_rightsOf 7 = .ok (.if_icmp .lt 7, 3) := by decide +kernel
theorem dX5_rightsOf_10 : decode cX5_rightsOf 10 = .ok (.iconst (-1), 1) := by decide +kernel
theorem dX5_rightsOf_11 : decode cX5_rightsOf 11 = .ok (.goto 9, 3) := by decide +kernel
theorem dX5_rightsOf_14 : decode cX5_rightsOf 14 = .ok (.aload_n 0, 1) := by decide +kernel
theorem dX5_rightsOf_15 : decode cX5_rightsOf 15 = .ok (.getfield 15, 3) := by decide +kernel
theorem dX5_rightsOf_18 : decode cX5_rightsOf 18 = .ok (.iload_n 1, 1) := by decide +kernel
theorem dX5_rightsOf_19 : decode cX5_rightsOf 19 = .ok (.iaload, 1) := by decide +kernel
theorem dX5_rightsOf_20 : decode cX5_rightsOf 20 = .ok (.ireturn, 1) := by decide +kernel
theorem dX5_putEntry_0 : decode cX5_putEntry 0 = .ok (.iload_n 1, 1) := by decide +kernel
theorem dX5_putEntry_1 : decode cX5_putEntry 1 = .ok (.ifCond .lt 9, 3) := by decide +kernel
theorem dX5_putEntry_4 : decode cX5_putEntry 4 = .ok (.iload_n 1, 1) := by decide +kernel
theorem dX5_putEntry_5 : decode cX5_putEntry 5 = .ok (.bipush 12, 2) := by decide +kernel
theorem dX5_putEntry_7 : decode cX5_putEntry 7 = .ok (.if_icmp .lt 4, 3) := by decide +kernel
theorem dX5_putEntry_10 : decode cX5_putEntry 10 = .ok (.return_, 1) := by decide +kernel
theorem dX5_putEntry_11 : decode cX5_putEntry 11 = .ok (.aload_n 0, 1) := by decide +kernel
theorem dX5_putEntry_12 : decode cX5_putEntry 12 = .ok (.dup, 1) := by decide +kernel
theorem dX5_putEntry_13 : decode cX5_putEntry 13 = .ok (.getfield 19, 3) := by decide +kernel
theorem dX5_putEntry_16 : decode cX5_putEntry 16 = .ok (.iload_n 2, 1) := by decide +kernel
theorem dX5_putEntry_17 : decode cX5_putEntry 17 = .ok (.iconst (-1), 1) := by decide +kernel
theorem dX5_putEntry_18 : decode cX5_putEntry 18 = .ok (.if_icmp .ne 7, 3) := by decide +kernel
theorem dX5_putEntry_21 : decode cX5_putEntry 21 = .ok (.iconst 0, 1) := by decide +kernel
theorem dX5_putEntry_22 : decode cX5_putEntry 22 = .ok (.goto 4, 3) := by decide +kernel
theorem dX5_putEntry_25 : decode cX5_putEntry 25 = .ok (.iconst 1, 1) := by decide +kernel
theorem dX5_putEntry_26 : decode cX5_putEntry 26 = .ok (.aload_n 0, 1) := by decide +kernel
theorem dX5_putEntry_27 : decode cX5_putEntry 27 = .ok (.getfield 15, 3) := by decide +kernel
theorem dX5_putEntry_30 : decode cX5_putEntry 30 = .ok (.iload_n 1, 1) := by decide +kernel
theorem dX5_putEntry_31 : decode cX5_putEntry 31 = .ok (.iaload, 1) := by decide +kernel
theorem dX5_putEntry_32 : decode cX5_putEntry 32 = .ok (.iconst (-1), 1) := by decide +kernel
theorem dX5_putEntry_33 : decode cX5_putEntry 33 = .ok (.if_icmp .ne 7, 3) := by decide +kernel
theorem dX5_putEntry_36 : decode cX5_putEntry 36 = .ok (.iconst 0, 1) := by decide +kernel
theorem dX5_putEntry_37 : decode cX5_putEntry 37 = .ok (.goto 4, 3) := by decide +kernel
theorem dX5_putEntry_40 : decode cX5_putEntry 40 = .ok (.iconst 1, 1) := by decide +kernel
theorem dX5_putEntry_41 : decode cX5_putEntry 41 = .ok (.isub, 1) := by decide +kernel
theorem dX5_putEntry_42 : decode cX5_putEntry 42 = .ok (.iadd, 1) := by decide +kernel
theorem dX5_putEntry_43 : decode cX5_putEntry 43 = .ok (.putfield 19, 3) := by decide +kernel
theorem dX5_putEntry_46 : decode cX5_putEntry 46 = .ok (.aload_n 0, 1) := by decide +kernel
theorem dX5_putEntry_47 : decode cX5_putEntry 47 = .ok (.getfield 15, 3) := by decide +kernel
theorem dX5_putEntry_50 : decode cX5_putEntry 50 = .ok (.iload_n 1, 1) := by decide +kernel
theorem dX5_putEntry_51 : decode cX5_putEntry 51 = .ok (.iload_n 2, 1) := by decide +kernel
theorem dX5_putEntry_52 : decode cX5_putEntry 52 = .ok (.iastore, 1) := by decide +kernel
theorem dX5_putEntry_53 : decode cX5_putEntry 53 = .ok (.aload_n 0, 1) := by decide +kernel
theorem dX5_putEntry_54 : decode cX5_putEntry 54 = .ok (.dup, 1) := by decide +kernel
theorem dX5_putEntry_55 : decode cX5_putEntry 55 = .ok (.getfield 22, 3) := by decide +kernel
theorem dX5_putEntry_58 : decode cX5_putEntry 58 = .ok (.iconst 1, 1) := by decide +kernel
theorem dX5_putEntry_59 : decode cX5_putEntry 59 = .ok (.iload_n 1, 1) := by decide +kernel
theorem dX5_putEntry_60 : decode cX5_putEntry 60 = .ok (.ishl, 1) := by decide +kernel
theorem dX5_putEntry_61 : decode cX5_putEntry 61 = .ok (.iconst (-1), 1) := by decide +kernel
theorem dX5_putEntry_62 : decode cX5_putEntry 62 = .ok (.ixor, 1) := by decide +kernel
theorem dX5_putEntry_63 : decode cX5_putEntry 63 = .ok (.iand, 1) := by decide +kernel
theorem dX5_putEntry_64 : decode cX5_putEntry 64 = .ok (.putfield 22, 3) := by decide +kernel
theorem dX5_putEntry_67 : decode cX5_putEntry 67 = .ok (.iload_n 3, 1) := by decide +kernel
theorem dX5_putEntry_68 : decode cX5_putEntry 68 = .ok (.ifCond .eq 20, 3) := by decide +kernel
theorem dX5_putEntry_71 : decode cX5_putEntry 71 = .ok (.iload_n 2, 1) := by decide +kernel
theorem dX5_putEntry_72 : decode cX5_putEntry 72 = .ok (.iconst (-1), 1) := by decide +kernel
theorem dX5_putEntry_73 : decode cX5_putEntry 73 = .ok (.if_icmp .eq 15, 3) := by decide +kernel
theorem dX5_putEntry_76 : decode cX5_putEntry 76 = .ok (.aload_n 0, 1) := by decide +kernel
theorem dX5_putEntry_77 : decode cX5_putEntry 77 = .ok (.dup, 1) := by decide +kernel
theorem dX5_putEntry_78 : decode cX5_putEntry 78 = .ok (.getfield 22, 3) := by decide +kernel
theorem dX5_putEntry_81 : decode cX5_putEntry 81 = .ok (.iconst 1, 1) := by decide +kernel
theorem dX5_putEntry_82 : decode cX5_putEntry 82 = .ok (.iload_n 1, 1) := by decide +kernel
theorem dX5_putEntry_83 : decode cX5_putEntry 83 = .ok (.ishl, 1) := by decide +kernel
theorem dX5_putEntry_84 : decode cX5_putEntry 84 = .ok (.ior, 1) := by decide +kernel
theorem dX5_putEntry_85 : decode cX5_putEntry 85 = .ok (.putfield 22, 3) := by decide +kernel
theorem dX5_putEntry_88 : decode cX5_putEntry 88 = .ok (.return_, 1) := by decide +kernel
theorem dX5_inherit_0 : decode cX5_inherit 0 = .ok (.iconst 0, 1) := by decide +kernel
theorem dX5_inherit_1 : decode cX5_inherit 1 = .ok (.istore_n 2, 1) := by decide +kernel
theorem dX5_inherit_2 : decode cX5_inherit 2 = .ok (.iload_n 2, 1) := by decide +kernel
theorem dX5_inherit_3 : decode cX5_inherit 3 = .ok (.bipush 12, 2) := by decide +kernel
theorem dX5_inherit_5 : decode cX5_inherit 5 = .ok (.if_icmp .ge 32, 3) := by decide +kernel
theorem dX5_inherit_8 : decode cX5_inherit 8 = .ok (.aload_n 1, 1) := by decide +kernel
theorem dX5_inherit_9 : decode cX5_inherit 9 = .ok (.getfield 22, 3) := by decide +kernel
theorem dX5_inherit_12 : decode cX5_inherit 12 = .ok (.iload_n 2, 1) := by decide +kernel
theorem dX5_inherit_13 : decode cX5_inherit 13 = .ok (.ishr, 1) := by decide +kernel
theorem dX5_inherit_14 : decode cX5_inherit 14 = .ok (.iconst 1, 1) := by decide +kernel
theorem dX5_inherit_15 : decode cX5_inherit 15 = .ok (.iand, 1) := by decide +kernel
theorem dX5_inherit_16 : decode cX5_inherit 16 = .ok (.ifCond .eq 15, 3) := by decide +kernel
theorem dX5_inherit_19 : decode cX5_inherit 19 = .ok (.aload_n 0, 1) := by decide +kernel
theorem dX5_inherit_20 : decode cX5_inherit 20 = .ok (.iload_n 2, 1) := by decide +kernel
theorem dX5_inherit_21 : decode cX5_inherit 21 = .ok (.aload_n 1, 1) := by decide +kernel
theorem dX5_inherit_22 : decode cX5_inherit 22 = .ok (.getfield 15, 3) := by decide +kernel
theorem dX5_inherit_25 : decode cX5_inherit 25 = .ok (.iload_n 2, 1) := by decide +kernel
theorem dX5_inherit_26 : decode cX5_inherit 26 = .ok (.iaload, 1) := by decide +kernel
theorem dX5_inherit_27 : decode cX5_inherit 27 = .ok (.iconst 1, 1) := by decide +kernel
theorem dX5_inherit_28 : decode cX5_inherit 28 = .ok (.invokevirtual 25, 3) := by decide +kernel
theorem dX5_inherit_31 : decode cX5_inherit 31 = .ok (.iinc 2 1, 3) := by decide +kernel
theorem dX5_inherit_34 : decode cX5_inherit 34 = .ok (.goto (-32), 3) := by decide +kernel
theorem dX5_inherit_37 : decode cX5_inherit 37 = .ok (.return_, 1) := by decide +kernel
theorem dX5_copyFrom_0 : decode cX5_copyFrom 0 = .ok (.aload_n 0, 1) := by decide +kernel
theorem dX5_copyFrom_1 : decode cX5_copyFrom 1 = .ok (.aload_n 1, 1) := by decide +kernel
theorem dX5_copyFrom_2 : decode cX5_copyFrom 2 = .ok (.getfield 29, 3) := by decide +kernel
theorem dX5_copyFrom_5 : decode cX5_copyFrom 5 = .ok (.putfield 29, 3) := by decide +kernel
theorem dX5_copyFrom_8 : decode cX5_copyFrom 8 = .ok (.aload_n 0, 1) := by decide +kernel
theorem dX5_copyFrom_9 : decode cX5_copyFrom 9 = .ok (.aload_n 1, 1) := by decide +kernel
theorem dX5_copyFrom_10 : decode cX5_copyFrom 10 = .ok (.getfield 32, 3) := by decide +kernel
theorem dX5_copyFrom_13 : decode cX5_copyFrom 13 = .ok (.putfield 32, 3) := by decide +kernel
theorem dX5_copyFrom_16 : decode cX5_copyFrom 16 = .ok (.aload_n 0, 1) := by decide +kernel
theorem dX5_copyFrom_17 : decode cX5_copyFrom 17 = .ok (.aload_n 1, 1) := by decide +kernel
theorem dX5_copyFrom_18 : decode cX5_copyFrom 18 = .ok (.getfield 35, 3) := by decide +kernel
theorem dX5_copyFrom_21 : decode cX5_copyFrom 21 = .ok (.putfield 35, 3) := by decide +kernel
theorem dX5_copyFrom_24 : decode cX5_copyFrom 24 = .ok (.aload_n 0, 1) := by decide +kernel
theorem dX5_copyFrom_25 : decode cX5_copyFrom 25 = .ok (.aload_n 1, 1) := by decide +kernel
theorem dX5_copyFrom_26 : decode cX5_copyFrom 26 = .ok (.getfield 38, 3) := by decide +kernel
theorem dX5_copyFrom_29 : decode cX5_copyFrom 29 = .ok (.putfield 38, 3) := by decide +kernel
theorem dX5_copyFrom_32 : decode cX5_copyFrom 32 = .ok (.aload_n 0, 1) := by decide +kernel
theorem dX5_copyFrom_33 : decode cX5_copyFrom 33 = .ok (.aload_n 1, 1) := by decide +kernel
theorem dX5_copyFrom_34 : decode cX5_copyFrom 34 = .ok (.getfield 41, 3) := by decide +kernel
theorem dX5_copyFrom_37 : decode cX5_copyFrom 37 = .ok (.putfield 41, 3) := by decide +kernel
theorem dX5_copyFrom_40 : decode cX5_copyFrom 40 = .ok (.aload_n 0, 1) := by decide +kernel
theorem dX5_copyFrom_41 : decode cX5_copyFrom 41 = .ok (.aload_n 1, 1) := by decide +kernel
theorem dX5_copyFrom_42 : decode cX5_copyFrom 42 = .ok (.getfield 44, 3) := by decide +kernel
theorem dX5_copyFrom_45 : decode cX5_copyFrom 45 = .ok (.putfield 44, 3) := by decide +kernel
theorem dX5_copyFrom_48 : decode cX5_copyFrom 48 = .ok (.aload_n 0, 1) := by decide +kernel
theorem dX5_copyFrom_49 : decode cX5_copyFrom 49 = .ok (.aload_n 1, 1) := by decide +kernel
theorem dX5_copyFrom_50 : decode cX5_copyFrom 50 = .ok (.getfield 9, 3) := by decide +kernel
theorem dX5_copyFrom_53 : decode cX5_copyFrom 53 = .ok (.putfield 9, 3) := by decide +kernel
theorem dX5_copyFrom_56 : decode cX5_copyFrom 56 = .ok (.aload_n 0, 1) := by decide +kernel
theorem dX5_copyFrom_57 : decode cX5_copyFrom 57 = .ok (.aload_n 1, 1) := by decide +kernel
theorem dX5_copyFrom_58 : decode cX5_copyFrom 58 = .ok (.getfield 19, 3) := by decide +kernel
theorem dX5_copyFrom_61 : decode cX5_copyFrom 61 = .ok (.putfield 19, 3) := by decide +kernel
theorem dX5_copyFrom_64 : decode cX5_copyFrom 64 = .ok (.aload_n 0, 1) := by decide +kernel
theorem dX5_copyFrom_65 : decode cX5_copyFrom 65 = .ok (.aload_n 1, 1) := by decide +kernel
theorem dX5_copyFrom_66 : decode cX5_copyFrom 66 = .ok (.getfield 22, 3) := by decide +kernel
theorem dX5_copyFrom_69 : decode cX5_copyFrom 69 = .ok (.putfield 22, 3) := by decide +kernel
theorem dX5_copyFrom_72 : decode cX5_copyFrom 72 = .ok (.iconst 0, 1) := by decide +kernel
theorem dX5_copyFrom_73 : decode cX5_copyFrom 73 = .ok (.istore_n 2, 1) := by decide +kernel
theorem dX5_copyFrom_74 : decode cX5_copyFrom 74 = .ok (.iload_n 2, 1) := by decide +kernel
theorem dX5_copyFrom_75 : decode cX5_copyFrom 75 = .ok (.bipush 12, 2) := by decide +kernel
theorem dX5_copyFrom_77 : decode cX5_copyFrom 77 = .ok (.if_icmp .ge 21, 3) := by decide +kernel
theorem dX5_copyFrom_80 : decode cX5_copyFrom 80 = .ok (.aload_n 0, 1) := by decide +kernel
theorem dX5_copyFrom_81 : decode cX5_copyFrom 81 = .ok (.getfield 15, 3) := by decide +kernel
theorem dX5_copyFrom_84 : decode cX5_copyFrom 84 = .ok (.iload_n 2, 1) := by decide +kernel
theorem dX5_copyFrom_85 : decode cX5_copyFrom 85 = .ok (.aload_n 1, 1) := by decide +kernel
theorem dX5_copyFrom_86 : decode cX5_copyFrom 86 = .ok (.getfield 15, 3) := by decide +kernel
theorem dX5_copyFrom_89 : decode cX5_copyFrom 89 = .ok (.iload_n 2, 1) := by decide +kernel
theorem dX5_copyFrom_90 : decode cX5_copyFrom 90 = .ok (.iaload, 1) := by decide +kernel
theorem dX5_copyFrom_91 : decode cX5_copyFrom 91 = .ok (.iastore, 1) := by decide +kernel
theorem dX5_copyFrom_92 : decode cX5_copyFrom 92 = .ok (.iinc 2 1, 3) := by decide +kernel
theorem dX5_copyFrom_95 : decode cX5_copyFrom 95 = .ok (.goto (-21), 3) := by decide +kernel
theorem dX5_copyFrom_98 : decode cX5_copyFrom 98 = .ok (.return_, 1) := by decide +kernel
theorem dX5_hasSomeRun_0 : decode cX5_hasSomeRun 0 = .ok (.aload_n 0, 1) := by decide +kernel
theorem dX5_hasSomeRun_1 : decode cX5_hasSomeRun 1 = .ok (.getfield 35, 3) := by decide +kernel
theorem dX5_hasSomeRun_4 : decode cX5_hasSomeRun 4 = .ok (.bipush 6, 2) := by decide +kernel
theorem dX5_hasSomeRun_6 : decode cX5_hasSomeRun 6 = .ok (.ishr, 1) := by decide +kernel
theorem dX5_hasSomeRun_7 : decode cX5_hasSomeRun 7 = .ok (.aload_n 0, 1) := by decide +kernel
theorem dX5_hasSomeRun_8 : decode cX5_hasSomeRun 8 = .ok (.getfield 35, 3) := by decide +kernel
theorem dX5_hasSomeRun_11 : decode cX5_hasSomeRun 11 = .ok (.iconst 3, 1) := by decide +kernel
theorem dX5_hasSomeRun_12 : decode cX5_hasSomeRun 12 = .ok (.ishr, 1) := by decide +kernel
theorem dX5_hasSomeRun_13 : decode cX5_hasSomeRun 13 = .ok (.ior, 1) := by decide +kernel
theorem dX5_hasSomeRun_14 : decode cX5_hasSomeRun 14 = .ok (.aload_n 0, 1) := by decide +kernel
theorem dX5_hasSomeRun_15 : decode cX5_hasSomeRun 15 = .ok (.getfield 35, 3) := by decide +kernel
theorem dX5_hasSomeRun_18 : decode cX5_hasSomeRun 18 = .ok (.iconst 0, 1) := by decide +kernel
theorem dX5_hasSomeRun_19 : decode cX5_hasSomeRun 19 = .ok (.ishr, 1) := by decide +kernel
theorem dX5_hasSomeRun_20 : decode cX5_hasSomeRun 20 = .ok (.ior, 1) := by decide +kernel
theorem dX5_hasSomeRun_21 : decode cX5_hasSomeRun 21 = .ok (.istore_n 1, 1) := by decide +kernel
theorem dX5_hasSomeRun_22 : decode cX5_hasSomeRun 22 = .ok (.iconst 0, 1) := by decide +kernel
theorem dX5_hasSomeRun_23 : decode cX5_hasSomeRun 23 = .ok (.istore_n 2, 1) := by decide +kernel
theorem dX5_hasSomeRun_24 : decode cX5_hasSomeRun 24 = .ok (.iload_n 2, 1) := by decide +kernel
theorem dX5_hasSomeRun_25 : decode cX5_hasSomeRun 25 = .ok (.bipush 12, 2) := by decide +kernel
theorem dX5_hasSomeRun_27 : decode cX5_hasSomeRun 27 = .ok (.if_icmp .ge 32, 3) := by decide +kernel
theorem dX5_hasSomeRun_30 : decode cX5_hasSomeRun 30 = .ok (.iload_n 1, 1) := by decide +kernel
theorem dX5_hasSomeRun_31 : decode cX5_hasSomeRun 31 = .ok (.aload_n 0, 1) := by decide +kernel
theorem dX5_hasSomeRun_32 : decode cX5_hasSomeRun 32 = .ok (.getfield 15, 3) := by decide +kernel
theorem dX5_hasSomeRun_35 : decode cX5_hasSomeRun 35 = .ok (.iload_n 2, 1) := by decide +kernel
theorem dX5_hasSomeRun_36 : decode cX5_hasSomeRun 36 = .ok (.iaload, 1) := by decide +kernel
theorem dX5_hasSomeRun_37 : decode cX5_hasSomeRun 37 = .ok (.iconst (-1), 1) := by decide +kernel
theorem dX5_hasSomeRun_38 : decode cX5_hasSomeRun 38 = .ok (.if_icmp .ne 7, 3) := by decide +kernel
theorem dX5_hasSomeRun_41 : decode cX5_hasSomeRun 41 = .ok (.iconst 0, 1) := by decide +kernel
theorem dX5_hasSomeRun_42 : decode cX5_hasSomeRun 42 = .ok (.goto 9, 3) := by decide +kernel
theorem dX5_hasSomeRun_45 : decode cX5_hasSomeRun 45 = .ok (.aload_n 0, 1) := by decide +kernel
theorem dX5_hasSomeRun_46 : decode cX5_hasSomeRun 46 = .ok (.getfield 15, 3) := by decide +kernel
theorem dX5_hasSomeRun_49 : decode cX5_hasSomeRun 49 = .ok (.iload_n 2, 1) := by decide +kernel
theorem dX5_hasSomeRun_50 : decode cX5_hasSomeRun 50 = .ok (.iaload, 1) := by decide +kernel
theorem dX5_hasSomeRun_51 : decode cX5_hasSomeRun 51 = .ok (.ior, 1) := by decide +kernel
theorem dX5_hasSomeRun_52 : decode cX5_hasSomeRun 52 = .ok (.istore_n 1, 1) := by decide +kernel
theorem dX5_hasSomeRun_53 : decode cX5_hasSomeRun 53 = .ok (.iinc 2 1, 3) := by decide +kernel
theorem dX5_hasSomeRun_56 : decode cX5_hasSomeRun 56 = .ok (.goto (-32), 3) := by decide +kernel
theorem dX5_hasSomeRun_59 : decode cX5_hasSomeRun 59 = .ok (.iload_n 1, 1) := by decide +kernel
theorem dX5_hasSomeRun_60 : decode cX5_hasSomeRun 60 = .ok (.iconst 4, 1) := by decide +kernel
theorem dX5_hasSomeRun_61 : decode cX5_hasSomeRun 61 = .ok (.iand, 1) := by decide +kernel
theorem dX5_hasSomeRun_62 : decode cX5_hasSomeRun 62 = .ok (.ifCond .eq 7, 3) := by decide +kernel
theorem dX5_hasSomeRun_65 : decode cX5_hasSomeRun 65 = .ok (.iconst 1, 1) := by decide +kernel
theorem dX5_hasSomeRun_66 : decode cX5_hasSomeRun 66 = .ok (.goto 4, 3) := by decide +kernel
theorem dX5_hasSomeRun_69 : decode cX5_hasSomeRun 69 = .ok (.iconst 0, 1) := by decide +kernel
theorem dX5_hasSomeRun_70 : decode cX5_hasSomeRun 70 = .ok (.ireturn, 1) := by decide +kernel
theorem dX5_countWays_0 : decode cX5_countWays 0 = .ok (.iload_n 1, 1) := by decide +kernel
theorem dX5_countWays_1 : decode cX5_countWays 1 = .ok (.aload_n 0, 1) := by decide +kernel
theorem dX5_countWays_2 : decode cX5_countWays 2 = .ok (.getfield 29, 3) := by decide +kernel
theorem dX5_countWays_5 : decode cX5_countWays 5 = .ok (.if_icmp .ne 15, 3) := by decide +kernel
theorem dX5_countWays_8 : decode cX5_countWays 8 = .ok (.aload_n 0, 1) := by decide +kernel
theorem dX5_countWays_9 : decode cX5_countWays 9 = .ok (.getfield 35, 3) := by decide +kernel
theorem dX5_countWays_12 : decode cX5_countWays 12 = .ok (.bipush 6, 2) := by decide +kernel
theorem dX5_countWays_14 : decode cX5_countWays 14 = .ok (.ishr, 1) := by decide +kernel
theorem dX5_countWays_15 : decode cX5_countWays 15 = .ok (.iload_n 3, 1) := by decide +kernel
theorem dX5_countWays_16 : decode cX5_countWays 16 = .ok (.invokestatic 47, 3) := by decide +kernel
theorem dX5_countWays_19 : decode cX5_countWays 19 = .ok (.ireturn, 1) := by decide +kernel
theorem dX5_countWays_20 : decode cX5_countWays 20 = .ok (.aload_n 0, 1) := by decide +kernel
theorem dX5_countWays_21 : decode cX5_countWays 21 = .ok (.iload_n 1, 1) := by decide +kernel
theorem dX5_countWays_22 : decode cX5_countWays 22 = .ok (.invokevirtual 51, 3) := by decide +kernel
theorem dX5_countWays_25 : decode cX5_countWays 25 = .ok (.istore 4, 2) := by decide +kernel
theorem dX5_countWays_27 : decode cX5_countWays 27 = .ok (.iload 4, 2) := by decide +kernel
theorem dX5_countWays_29 : decode cX5_countWays 29 = .ok (.iconst (-1), 1) := by decide +kernel
theorem dX5_countWays_30 : decode cX5_countWays 30 = .ok (.if_icmp .eq 15, 3) := by decide +kernel
theorem dX5_countWays_33 : decode cX5_countWays 33 = .ok (.iload 4, 2) := by decide +kernel
theorem dX5_countWays_35 : decode cX5_countWays 35 = .ok (.aload_n 0, 1) := by decide +kernel
theorem dX5_countWays_36 : decode cX5_countWays 36 = .ok (.getfield 9, 3) := by decide +kernel
theorem dX5_countWays_39 : decode cX5_countWays 39 = .ok (.iand, 1) := by decide +kernel
theorem dX5_countWays_40 : decode cX5_countWays 40 = .ok (.iload_n 3, 1) := by decide +kernel
theorem dX5_countWays_41 : decode cX5_countWays 41 = .ok (.invokestatic 47, 3) := by decide +kernel
theorem dX5_countWays_44 : decode cX5_countWays 44 = .ok (.ireturn, 1) := by decide +kernel
theorem dX5_countWays_45 : decode cX5_countWays 45 = .ok (.iload_n 2, 1) := by decide +kernel
theorem dX5_countWays_46 : decode cX5_countWays 46 = .ok (.aload_n 0, 1) := by decide +kernel
theorem dX5_countWays_47 : decode cX5_countWays 47 = .ok (.getfield 32, 3) := by decide +kernel
theorem dX5_countWays_50 : decode cX5_countWays 50 = .ok (.ishr, 1) := by decide +kernel
theorem dX5_countWays_51 : decode cX5_countWays 51 = .ok (.iconst 1, 1) := by decide +kernel
theorem dX5_countWays_52 : decode cX5_countWays 52 = .ok (.iand, 1) := by decide +kernel
theorem dX5_countWays_53 : decode cX5_countWays 53 = .ok (.ifCond .eq 7, 3) := by decide +kernel
theorem dX5_countWays_56 : decode cX5_countWays 56 = .ok (.iconst 1, 1) := by decide +kernel
theorem dX5_countWays_57 : decode cX5_countWays 57 = .ok (.goto 4, 3) := by decide +kernel
theorem dX5_countWays_60 : decode cX5_countWays 60 = .ok (.iconst 0, 1) := by decide +kernel
theorem dX5_countWays_61 : decode cX5_countWays 61 = .ok (.istore 5, 2) := by decide +kernel
theorem dX5_countWays_63 : decode cX5_countWays 63 = .ok (.iconst 0, 1) := by decide +kernel
theorem dX5_countWays_64 : decode cX5_countWays 64 = .ok (.istore 6, 2) := by decide +kernel
theorem dX5_countWays_66 : decode cX5_countWays 66 = .ok (.iload 5, 2) := by decide +kernel
theorem dX5_countWays_68 : decode cX5_countWays 68 = .ok (.istore 7, 2) := by decide +kernel
theorem dX5_countWays_70 : decode cX5_countWays 70 = .ok (.iconst 0, 1) := by decide +kernel
theorem dX5_countWays_71 : decode cX5_countWays 71 = .ok (.istore 8, 2) := by decide +kernel
theorem dX5_countWays_73 : decode cX5_countWays 73 = .ok (.iload 8, 2) := by decide +kernel
theorem dX5_countWays_75 : decode cX5_countWays 75 = .ok (.bipush 6, 2) := by decide +kernel
theorem dX5_countWays_77 : decode cX5_countWays 77 = .ok (.if_icmp .ge 55, 3) := by decide +kernel
theorem dX5_countWays_80 : decode cX5_countWays 80 = .ok (.aload_n 0, 1) := by decide +kernel
theorem dX5_countWays_81 : decode cX5_countWays 81 = .ok (.getfield 15, 3) := by decide +kernel
theorem dX5_countWays_84 : decode cX5_countWays 84 = .ok (.bipush 6, 2) := by decide +kernel
theorem dX5_countWays_86 : decode cX5_countWays 86 = .ok (.iload 8, 2) := by decide +kernel
theorem dX5_countWays_88 : decode cX5_countWays 88 = .ok (.iadd, 1) := by decide +kernel
theorem dX5_countWays_89 : decode cX5_countWays 89 = .ok (.iaload, 1) := by decide +kernel
theorem dX5_countWays_90 : decode cX5_countWays 90 = .ok (.istore 9, 2) := by decide +kernel
theorem dX5_countWays_92 : decode cX5_countWays 92 = .ok (.iload 9, 2) := by decide +kernel
theorem dX5_countWays_94 : decode cX5_countWays 94 = .ok (.iconst (-1), 1) := by decide +kernel
theorem dX5_countWays_95 : decode cX5_countWays 95 = .ok (.if_icmp .eq 31, 3) := by decide +kernel
theorem dX5_countWays_98 : decode cX5_countWays 98 = .ok (.iload_n 2, 1) := by decide +kernel
theorem dX5_countWays_99 : decode cX5_countWays 99 = .ok (.iload 8, 2) := by decide +kernel
theorem dX5_countWays_101 : decode cX5_countWays 101 = .ok (.ishr, 1) := by decide +kernel
theorem dX5_countWays_102 : decode cX5_countWays 102 = .ok (.iconst 1, 1) := by decide +kernel
theorem dX5_countWays_103 : decode cX5_countWays 103 = .ok (.iand, 1) := by decide +kernel
theorem dX5_countWays_104 : decode cX5_countWays 104 = .ok (.ifCond .eq 22, 3) := by decide +kernel
theorem dX5_countWays_107 : decode cX5_countWays 107 = .ok (.iconst 1, 1) := by decide +kernel
theorem dX5_countWays_108 : decode cX5_countWays 108 = .ok (.istore 7, 2) := by decide +kernel
theorem dX5_countWays_110 : decode cX5_countWays 110 = .ok (.iload 6, 2) := by decide +kernel
theorem dX5_countWays_112 : decode cX5_countWays 112 = .ok (.iload 9, 2) := by decide +kernel
theorem dX5_countWays_114 : decode cX5_countWays 114 = .ok (.aload_n 0, 1) := by decide +kernel
theorem dX5_countWays_115 : decode cX5_countWays 115 = .ok (.getfield 9, 3) := by decide +kernel
theorem dX5_countWays_118 : decode cX5_countWays 118 = .ok (.iand, 1) := by decide +kernel
theorem dX5_countWays_119 : decode cX5_countWays 119 = .ok (.iload_n 3, 1) := by decide +kernel
theorem dX5_countWays_120 : decode cX5_countWays 120 = .ok (.invokestatic 47, 3) := by decide +kernel
theorem dX5_countWays_123 : decode cX5_countWays 123 = .ok (.iadd, 1) := by decide +kernel
theorem dX5_countWays_124 : decode cX5_countWays 124 = .ok (.istore 6, 2) := by decide +kernel
theorem dX5_countWays_126 : decode cX5_countWays 126 = .ok (.iinc 8 1, 3) := by decide +kernel
theorem dX5_countWays_129 : decode cX5_countWays 129 = .ok (.goto (-56), 3) := by decide +kernel
theorem dX5_countWays_132 : decode cX5_countWays 132 = .ok (.iload 5, 2) := by decide +kernel
theorem dX5_countWays_134 : decode cX5_countWays 134 = .ok (.ifCond .eq 35, 3) := by decide +kernel
theorem dX5_countWays_137 : decode cX5_countWays 137 = .ok (.iload 6, 2) := by decide +kernel
theorem dX5_countWays_139 : decode cX5_countWays 139 = .ok (.aload_n 0, 1) := by decide +kernel
theorem dX5_countWays_140 : decode cX5_countWays 140 = .ok (.getfield 35, 3) := by decide +kernel
theorem dX5_countWays_143 : decode cX5_countWays 143 = .ok (.iconst 3, 1) := by decide +kernel
theorem dX5_countWays_144 : decode cX5_countWays 144 = .ok (.ishr, 1) := by decide +kernel
theorem dX5_countWays_145 : decode cX5_countWays 145 = .ok (.aload_n 0, 1) := by decide +kernel
theorem dX5_countWays_146 : decode cX5_countWays 146 = .ok (.getfield 19, 3) := by decide +kernel
theorem dX5_countWays_149 : decode cX5_countWays 149 = .ok (.ifCond .le 10, 3) := by decide +kernel
theorem dX5_countWays_152 : decode cX5_countWays 152 = .ok (.aload_n 0, 1) := by decide +kernel
theorem dX5_countWays_153 : decode cX5_countWays 153 = .ok (.getfield 9, 3) := by decide +kernel
theorem dX5_countWays_156 : decode cX5_countWays 156 = .ok (.goto 5, 3) := by decide +kernel
theorem dX5_countWays_159 : decode cX5_countWays 159 = .ok (.bipush 7, 2) := by decide +kernel
theorem dX5_countWays_161 : decode cX5_countWays 161 = .ok (.iand, 1) := by decide +kernel
theorem dX5_countWays_162 : decode cX5_countWays 162 = .ok (.iload_n 3, 1) := by decide +kernel
theorem dX5_countWays_163 : decode cX5_countWays 163 = .ok (.invokestatic 47, 3) := by decide +kernel
theorem dX5_countWays_166 : decode cX5_countWays 166 = .ok (.iadd, 1) := by decide +kernel
theorem dX5_countWays_167 : decode cX5_countWays 167 = .ok (.istore 6, 2) := by decide +kernel
theorem dX5_countWays_169 : decode cX5_countWays 169 = .ok (.iload 7, 2) := by decide +kernel
theorem dX5_countWays_171 : decode cX5_countWays 171 = .ok (.ifCond .eq 8, 3) := by decide +kernel
theorem dX5_countWays_174 : decode cX5_countWays 174 = .ok (.iload 6, 2) := by decide +kernel
theorem dX5_countWays_176 : decode cX5_countWays 176 = .ok (.goto 13, 3) := by decide +kernel
theorem dX5_countWays_179 : decode cX5_countWays 179 = .ok (.aload_n 0, 1) := by decide +kernel
theorem dX5_countWays_180 : decode cX5_countWays 180 = .ok (.getfield 35, 3) := by decide +kernel
theorem dX5_countWays_183 : decode cX5_countWays 183 = .ok (.iconst 0, 1) := by decide +kernel
theorem dX5_countWays_184 : decode cX5_countWays 184 = .ok (.ishr, 1) := by decide +kernel
theorem dX5_countWays_185 : decode cX5_countWays 185 = .ok (.iload_n 3, 1) := by decide +kernel
theorem dX5_countWays_186 : decode cX5_countWays 186 = .ok (.invokestatic 47, 3) := by decide +kernel
theorem dX5_countWays_189 : decode cX5_countWays 189 = .ok (.ireturn, 1) := by decide +kernel
theorem dX5_allowsAnew_0 : decode cX5_allowsAnew 0 = .ok (.iconst 0, 1) := by decide +kernel
theorem dX5_allowsAnew_1 : decode cX5_allowsAnew 1 = .ok (.istore 4, 2) := by decide +kernel
theorem dX5_allowsAnew_3 : decode cX5_allowsAnew 3 = .ok (.bipush 7, 2) := by decide +kernel
theorem dX5_allowsAnew_5 : decode cX5_allowsAnew 5 = .ok (.istore 5, 2) := by decide +kernel
theorem dX5_allowsAnew_7 : decode cX5_allowsAnew 7 = .ok (.iconst (-1), 1) := by decide +kernel
theorem dX5_allowsAnew_8 : decode cX5_allowsAnew 8 = .ok (.istore 6, 2) := by decide +kernel
theorem dX5_allowsAnew_10 : decode cX5_allowsAnew 10 = .ok (.iconst 0, 1) := by decide +kernel
theorem dX5_allowsAnew_11 : decode cX5_allowsAnew 11 = .ok (.istore 7, 2) := by decide +kernel
theorem dX5_allowsAnew_13 : decode cX5_allowsAnew 13 = .ok (.iconst 0, 1) := by decide +kernel
theorem dX5_allowsAnew_14 : decode cX5_allowsAnew 14 = .ok (.istore 8, 2) := by decide +kernel
theorem dX5_allowsAnew_16 : decode cX5_allowsAnew 16 = .ok (.iload 8, 2) := by decide +kernel
theorem dX5_allowsAnew_18 : decode cX5_allowsAnew 18 = .ok (.bipush 12, 2) := by decide +kernel
theorem dX5_allowsAnew_20 : decode cX5_allowsAnew 20 = .ok (.if_icmp .ge 80, 3) := by decide +kernel
theorem dX5_allowsAnew_23 : decode cX5_allowsAnew 23 = .ok (.aload_n 0, 1) := by decide +kernel
theorem dX5_allowsAnew_24 : decode cX5_allowsAnew 24 = .ok (.getfield 15, 3) := by decide +kernel
theorem dX5_allowsAnew_27 : decode cX5_allowsAnew 27 = .ok (.iload 8, 2) := by decide +kernel
theorem dX5_allowsAnew_29 : decode cX5_allowsAnew 29 = .ok (.iaload, 1) := by decide +kernel
theorem dX5_allowsAnew_30 : decode cX5_allowsAnew 30 = .ok (.iconst (-1), 1) := by decide +kernel
theorem dX5_allowsAnew_31 : decode cX5_allowsAnew 31 = .ok (.if_icmp .eq 63, 3) := by decide +kernel
theorem dX5_allowsAnew_34 : decode cX5_allowsAnew 34 = .ok (.aload_n 0, 1) := by decide +kernel
theorem dX5_allowsAnew_35 : decode cX5_allowsAnew 35 = .ok (.getfield 9, 3) := by decide +kernel
theorem dX5_allowsAnew_38 : decode cX5_allowsAnew 38 = .ok (.istore 5, 2) := by decide +kernel
theorem dX5_allowsAnew_40 : decode cX5_allowsAnew 40 = .ok (.iload 8, 2) := by decide +kernel
theorem dX5_allowsAnew_42 : decode cX5_allowsAnew 42 = .ok (.iload_n 1, 1) := by decide +kernel
theorem dX5_allowsAnew_43 : decode cX5_allowsAnew 43 = .ok (.if_icmp .ne 12, 3) := by decide +kernel
theorem dX5_allowsAnew_46 : decode cX5_allowsAnew 46 = .ok (.aload_n 0, 1) := by decide +kernel
theorem dX5_allowsAnew_47 : decode cX5_allowsAnew 47 = .ok (.getfield 15, 3) := by decide +kernel
theorem dX5_allowsAnew_50 : decode cX5_allowsAnew 50 = .ok (.iload 8, 2) := by decide +kernel
theorem dX5_allowsAnew_52 : decode cX5_allowsAnew 52 = .ok (.iaload, 1) := by decide +kernel
theorem dX5_allowsAnew_53 : decode cX5_allowsAnew 53 = .ok (.istore 6, 2) := by decide +kernel
theorem dX5_allowsAnew_55 : decode cX5_allowsAnew 55 = .ok (.iload 8, 2) := by decide +kernel
theorem dX5_allowsAnew_57 : decode cX5_allowsAnew 57 = .ok (.bipush 6, 2) := by decide +kernel
theorem dX5_allowsAnew_59 : decode cX5_allowsAnew 59 = .ok (.if_icmp .lt 35, 3) := by decide +kernel
theorem dX5_allowsAnew_62 : decode cX5_allowsAnew 62 = .ok (.iload_n 2, 1) := by decide +kernel
theorem dX5_allowsAnew_63 : decode cX5_allowsAnew 63 = .ok (.iload 8, 2) := by decide +kernel
theorem dX5_allowsAnew_65 : decode cX5_allowsAnew 65 = .ok (.bipush 6, 2) := by decide +kernel
theorem dX5_allowsAnew_67 : decode cX5_allowsAnew 67 = .ok (.isub, 1) := by decide +kernel
theorem dX5_allowsAnew_68 : decode cX5_allowsAnew 68 = .ok (.ishr, 1) := by decide +kernel
theorem dX5_allowsAnew_69 : decode cX5_allowsAnew 69 = .ok (.iconst 1, 1) := by decide +kernel
theorem dX5_allowsAnew_70 : decode cX5_allowsAnew 70 = .ok (.iand, 1) := by decide +kernel
theorem dX5_allowsAnew_71 : decode cX5_allowsAnew 71 = .ok (.ifCond .eq 23, 3) := by decide +kernel
theorem dX5_allowsAnew_74 : decode cX5_allowsAnew 74 = .ok (.iconst 1, 1) := by decide +kernel
theorem dX5_allowsAnew_75 : decode cX5_allowsAnew 75 = .ok (.istore 7, 2) := by decide +kernel
theorem dX5_allowsAnew_77 : decode cX5_allowsAnew 77 = .ok (.iload 4, 2) := by decide +kernel
theorem dX5_allowsAnew_79 : decode cX5_allowsAnew 79 = .ok (.aload_n 0, 1) := by decide +kernel
theorem dX5_allowsAnew_80 : decode cX5_allowsAnew 80 = .ok (.getfield 15, 3) := by decide +kernel
theorem dX5_allowsAnew_83 : decode cX5_allowsAnew 83 = .ok (.iload 8, 2) := by decide +kernel
theorem dX5_allowsAnew_85 : decode cX5_allowsAnew 85 = .ok (.iaload, 1) := by decide +kernel
theorem dX5_allowsAnew_86 : decode cX5_allowsAnew 86 = .ok (.aload_n 0, 1) := by decide +kernel
theorem dX5_allowsAnew_87 : decode cX5_allowsAnew 87 = .ok (.getfield 9, 3) := by decide +kernel
theorem dX5_allowsAnew_90 : decode cX5_allowsAnew 90 = .ok (.iand, 1) := by decide +kernel
theorem dX5_allowsAnew_91 : decode cX5_allowsAnew 91 = .ok (.ior, 1) := by decide +kernel
theorem dX5_allowsAnew_92 : decode cX5_allowsAnew 92 = .ok (.istore 4, 2) := by decide +kernel
theorem dX5_allowsAnew_94 : decode cX5_allowsAnew 94 = .ok (.iinc 8 1, 3) := by decide +kernel
theorem dX5_allowsAnew_97 : decode cX5_allowsAnew 97 = .ok (.goto (-81), 3) := by decide +kernel
theorem dX5_allowsAnew_100 : decode cX5_allowsAnew 100 = .ok (.iload_n 2, 1) := by decide +kernel
theorem dX5_allowsAnew_101 : decode cX5_allowsAnew 101 = .ok (.aload_n 0, 1) := by decide +kernel
theorem dX5_allowsAnew_102 : decode cX5_allowsAnew 102 = .ok (.getfield 32, 3) := by decide +kernel
theorem dX5_allowsAnew_105 : decode cX5_allowsAnew 105 = .ok (.ishr, 1) := by decide +kernel
theorem dX5_allowsAnew_106 : decode cX5_allowsAnew 106 = .ok (.iconst 1, 1) := by decide +kernel
theorem dX5_allowsAnew_107 : decode cX5_allowsAnew 107 = .ok (.iand, 1) := by decide +kernel
theorem dX5_allowsAnew_108 : decode cX5_allowsAnew 108 = .ok (.ifCond .eq 20, 3) := by decide +kernel
theorem dX5_allowsAnew_111 : decode cX5_allowsAnew 111 = .ok (.iconst 1, 1) := by decide +kernel
theorem dX5_allowsAnew_112 : decode cX5_allowsAnew 112 = .ok (.istore 7, 2) := by decide +kernel
theorem dX5_allowsAnew_114 : decode cX5_allowsAnew 114 = .ok (.iload 4, 2) := by decide +kernel
theorem dX5_allowsAnew_116 : decode cX5_allowsAnew 116 = .ok (.aload_n 0, 1) := by decide +kernel
theorem dX5_allowsAnew_117 : decode cX5_allowsAnew 117 = .ok (.getfield 35, 3) := by decide +kernel
theorem dX5_allowsAnew_120 : decode cX5_allowsAnew 120 = .ok (.iconst 3, 1) := by decide +kernel
theorem dX5_allowsAnew_121 : decode cX5_allowsAnew 121 = .ok (.ishr, 1) := by decide +kernel
theorem dX5_allowsAnew_122 : decode cX5_allowsAnew 122 = .ok (.iload 5, 2) := by decide +kernel
theorem dX5_allowsAnew_124 : decode cX5_allowsAnew 124 = .ok (.iand, 1) := by decide +kernel
theorem dX5_allowsAnew_125 : decode cX5_allowsAnew 125 = .ok (.ior, 1) := by decide +kernel
theorem dX5_allowsAnew_126 : decode cX5_allowsAnew 126 = .ok (.istore 4, 2) := by decide +kernel
theorem dX5_allowsAnew_128 : decode cX5_allowsAnew 128 = .ok (.iload 7, 2) := by decide +kernel
theorem dX5_allowsAnew_130 : decode cX5_allowsAnew 130 = .ok (.ifCond .eq 8, 3) := by decide +kernel
theorem dX5_allowsAnew_133 : decode cX5_allowsAnew 133 = .ok (.iload 4, 2) := by decide +kernel
theorem dX5_allowsAnew_135 : decode cX5_allowsAnew 135 = .ok (.goto 9, 3) := by decide +kernel
theorem dX5_allowsAnew_138 : decode cX5_allowsAnew 138 = .ok (.aload_n 0, 1) := by decide +kernel
theorem dX5_allowsAnew_139 : decode cX5_allowsAnew 139 = .ok (.getfield 35, 3) := by decide +kernel
theorem dX5_allowsAnew_142 : decode cX5_allowsAnew 142 = .ok (.iconst 0, 1) := by decide +kernel
theorem dX5_allowsAnew_143 : decode cX5_allowsAnew 143 = .ok (.ishr, 1) := by decide +kernel
theorem dX5_allowsAnew_144 : decode cX5_allowsAnew 144 = .ok (.istore 8, 2) := by decide +kernel
theorem dX5_allowsAnew_146 : decode cX5_allowsAnew 146 = .ok (.iload 6, 2) := by decide +kernel
theorem dX5_allowsAnew_148 : decode cX5_allowsAnew 148 = .ok (.iconst (-1), 1) := by decide +kernel
theorem dX5_allowsAnew_149 : decode cX5_allowsAnew 149 = .ok (.if_icmp .eq 12, 3) := by decide +kernel
theorem dX5_allowsAnew_152 : decode cX5_allowsAnew 152 = .ok (.iload 6, 2) := by decide +kernel
theorem dX5_allowsAnew_154 : decode cX5_allowsAnew 154 = .ok (.aload_n 0, 1) := by decide +kernel
theorem dX5_allowsAnew_155 : decode cX5_allowsAnew 155 = .ok (.getfield 9, 3) := by decide +kernel
theorem dX5_allowsAnew_158 : decode cX5_allowsAnew 158 = .ok (.iand, 1) := by decide +kernel
theorem dX5_allowsAnew_159 : decode cX5_allowsAnew 159 = .ok (.istore 8, 2) := by decide +kernel
theorem dX5_allowsAnew_161 : decode cX5_allowsAnew 161 = .ok (.iload_n 1, 1) := by decide +kernel
theorem dX5_allowsAnew_162 : decode cX5_allowsAnew 162 = .ok (.aload_n 0, 1) := by decide +kernel
theorem dX5_allowsAnew_163 : decode cX5_allowsAnew 163 = .ok (.getfield 29, 3) := by decide +kernel
theorem dX5_allowsAnew_166 : decode cX5_allowsAnew 166 = .ok (.if_icmp .ne 12, 3) := by decide +kernel
theorem dX5_allowsAnew_169 : decode cX5_allowsAnew 169 = .ok (.aload_n 0, 1) := by decide +kernel
theorem dX5_allowsAnew_170 : decode cX5_allowsAnew 170 = .ok (.getfield 35, 3) := by decide +kernel
theorem dX5_allowsAnew_173 : decode cX5_allowsAnew 173 = .ok (.bipush 6, 2) := by decide +kernel
theorem dX5_allowsAnew_175 : decode cX5_allowsAnew 175 = .ok (.ishr, 1) := by decide +kernel
theorem dX5_allowsAnew_176 : decode cX5_allowsAnew 176 = .ok (.istore 8, 2) := by decide +kernel
theorem dX5_allowsAnew_178 : decode cX5_allowsAnew 178 = .ok (.iload 8, 2) := by decide +kernel
theorem dX5_allowsAnew_180 : decode cX5_allowsAnew 180 = .ok (.iload_n 3, 1) := by decide +kernel
theorem dX5_allowsAnew_181 : decode cX5_allowsAnew 181 = .ok (.iand, 1) := by decide +kernel
theorem dX5_allowsAnew_182 : decode cX5_allowsAnew 182 = .ok (.ifCond .eq 7, 3) := by decide +kernel
theorem dX5_allowsAnew_185 : decode cX5_allowsAnew 185 = .ok (.iconst 1, 1) := by decide +kernel
theorem dX5_allowsAnew_186 : decode cX5_allowsAnew 186 = .ok (.goto 4, 3) := by decide +kernel
theorem dX5_allowsAnew_189 : decode cX5_allowsAnew 189 = .ok (.iconst 0, 1) := by decide +kernel
theorem dX5_allowsAnew_190 : decode cX5_allowsAnew 190 = .ok (.ireturn, 1) := by decide +kernel
theorem dX5_holdsRight_0 : decode cX5_holdsRight 0 = .ok (.iload_n 1, 1) := by decide +kernel
theorem dX5_holdsRight_1 : decode cX5_holdsRight 1 = .ok (.iconst 3, 1) := by decide +kernel
theorem dX5_holdsRight_2 : decode cX5_holdsRight 2 = .ok (.if_icmp .ge 22, 3) := by decide +kernel
theorem dX5_holdsRight_5 : decode cX5_holdsRight 5 = .ok (.aload_n 0, 1) := by decide +kernel
theorem dX5_holdsRight_6 : decode cX5_holdsRight 6 = .ok (.getfield 35, 3) := by decide +kernel
theorem dX5_holdsRight_9 : decode cX5_holdsRight 9 = .ok (.iconst 3, 1) := by decide +kernel
theorem dX5_holdsRight_10 : decode cX5_holdsRight 10 = .ok (.iload_n 1, 1) := by decide +kernel
theorem dX5_holdsRight_11 : decode cX5_holdsRight 11 = .ok (.imul, 1) := by decide +kernel
theorem dX5_holdsRight_12 : decode cX5_holdsRight 12 = .ok (.ishr, 1) := by decide +kernel
theorem dX5_holdsRight_13 : decode cX5_holdsRight 13 = .ok (.iload_n 2, 1) := by decide +kernel
theorem dX5_holdsRight_14 : decode cX5_holdsRight 14 = .ok (.iand, 1) := by decide +kernel
theorem dX5_holdsRight_15 : decode cX5_holdsRight 15 = .ok (.ifCond .eq 7, 3) := by decide +kernel
theorem dX5_holdsRight_18 : decode cX5_holdsRight 18 = .ok (.iconst 1, 1) := by decide +kernel
theorem dX5_holdsRight_19 : decode cX5_holdsRight 19 = .ok (.goto 4, 3) := by decide +kernel
theorem dX5_holdsRight_22 : decode cX5_holdsRight 22 = .ok (.iconst 0, 1) := by decide +kernel
theorem dX5_holdsRight_23 : decode cX5_holdsRight 23 = .ok (.ireturn, 1) := by decide +kernel
theorem dX5_holdsRight_24 : decode cX5_holdsRight 24 = .ok (.aload_n 0, 1) := by decide +kernel
theorem dX5_holdsRight_25 : decode cX5_holdsRight 25 = .ok (.iload_n 1, 1) := by decide +kernel
theorem dX5_holdsRight_26 : decode cX5_holdsRight 26 = .ok (.iconst 3, 1) := by decide +kernel
theorem dX5_holdsRight_27 : decode cX5_holdsRight 27 = .ok (.isub, 1) := by decide +kernel
theorem dX5_holdsRight_28 : decode cX5_holdsRight 28 = .ok (.invokevirtual 51, 3) := by decide +kernel
theorem dX5_holdsRight_31 : decode cX5_holdsRight 31 = .ok (.istore_n 3, 1) := by decide +kernel
theorem dX5_holdsRight_32 : decode cX5_holdsRight 32 = .ok (.iload_n 3, 1) := by decide +kernel
theorem dX5_holdsRight_33 : decode cX5_holdsRight 33 = .ok (.iconst (-1), 1) := by decide +kernel
theorem dX5_holdsRight_34 : decode cX5_holdsRight 34 = .ok (.if_icmp .eq 13, 3) := by decide +kernel
theorem dX5_holdsRight_37 : decode cX5_holdsRight 37 = .ok (.iload_n 3, 1) := by decide +kernel
theorem dX5_holdsRight_38 : decode cX5_holdsRight 38 = .ok (.iload_n 2, 1) := by decide +kernel
theorem dX5_holdsRight_39 : decode cX5_holdsRight 39 = .ok (.iand, 1) := by decide +kernel
theorem dX5_holdsRight_40 : decode cX5_holdsRight 40 = .ok (.ifCond .eq 7, 3) := by decide +kernel
theorem dX5_holdsRight_43 : decode cX5_holdsRight 43 = .ok (.iconst 1, 1) := by decide +kernel
theorem dX5_holdsRight_44 : decode cX5_holdsRight 44 = .ok (.goto 4, 3) := by decide +kernel
theorem dX5_holdsRight_47 : decode cX5_holdsRight 47 = .ok (.iconst 0, 1) := by decide +kernel
theorem dX5_holdsRight_48 : decode cX5_holdsRight 48 = .ok (.ireturn, 1) := by decide +kernel
theorem dX5_takeRight_0 : decode cX5_takeRight 0 = .ok (.iload_n 1, 1) := by decide +kernel
theorem dX5_takeRight_1 : decode cX5_takeRight 1 = .ok (.ifCond .lt 27, 3) := by decide +kernel
theorem dX5_takeRight_4 : decode cX5_takeRight 4 = .ok (.iload_n 1, 1) := by decide +kernel
theorem dX5_takeRight_5 : decode cX5_takeRight 5 = .ok (.iconst 3, 1) := by decide +kernel
theorem dX5_takeRight_6 : decode cX5_takeRight 6 = .ok (.if_icmp .ge 22, 3) := by decide +kernel
theorem dX5_takeRight_9 : decode cX5_takeRight 9 = .ok (.aload_n 0, 1) := by decide +kernel
theorem dX5_takeRight_10 : decode cX5_takeRight 10 = .ok (.dup, 1) := by decide +kernel
theorem dX5_takeRight_11 : decode cX5_takeRight 11 = .ok (.getfield 35, 3) := by decide +kernel
theorem dX5_takeRight_14 : decode cX5_takeRight 14 = .ok (.iload_n 2, 1) := by decide +kernel
theorem dX5_takeRight_15 : decode cX5_takeRight 15 = .ok (.iconst 3, 1) := by decide +kernel
theorem dX5_takeRight_16 : decode cX5_takeRight 16 = .ok (.iload_n 1, 1) := by decide +kernel
theorem dX5_takeRight_17 : decode cX5_takeRight 17 = .ok (.imul, 1) := by decide +kernel
theorem dX5_takeRight_18 : decode cX5_takeRight 18 = .ok (.ishl, 1) := by decide +kernel
theorem dX5_takeRight_19 : decode cX5_takeRight 19 = .ok (.iconst (-1), 1) := by decide +kernel
theorem dX5_takeRight_20 : decode cX5_takeRight 20 = .ok (.ixor, 1) := by decide +kernel
theorem dX5_takeRight_21 : decode cX5_takeRight 21 = .ok (.iand, 1) := by decide +kernel
theorem dX5_takeRight_22 : decode cX5_takeRight 22 = .ok (.putfield 35, 3) := by decide +kernel
theorem dX5_takeRight_25 : decode cX5_takeRight 25 = .ok (.goto 30, 3) := by decide +kernel
theorem dX5_takeRight_28 : decode cX5_takeRight 28 = .ok (.iload_n 1, 1) := by decide +kernel
theorem dX5_takeRight_29 : decode cX5_takeRight 29 = .ok (.iconst 3, 1) := by decide +kernel
theorem dX5_takeRight_30 : decode cX5_takeRight 30 = .ok (.if_icmp .lt 25, 3) := by decide +kernel
theorem dX5_takeRight_33 : decode cX5_takeRight 33 = .ok (.iload_n 1, 1) := by decide +kernel
theorem dX5_takeRight_34 : decode cX5_takeRight 34 = .ok (.iconst 3, 1) := by decide +kernel
theorem dX5_takeRight_35 : decode cX5_takeRight 35 = .ok (.isub, 1) := by decide +kernel
theorem dX5_takeRight_36 : decode cX5_takeRight 36 = .ok (.bipush 12, 2) := by decide +kernel
theorem dX5_takeRight_38 : decode cX5_takeRight 38 = .ok (.if_icmp .ge 17, 3) := by decide +kernel
theorem dX5_takeRight_41 : decode cX5_takeRight 41 = .ok (.aload_n 0, 1) := by decide +kernel
theorem dX5_takeRight_42 : decode cX5_takeRight 42 = .ok (.getfield 15, 3) := by decide +kernel
theorem dX5_takeRight_45 : decode cX5_takeRight 45 = .ok (.iload_n 1, 1) := by decide +kernel
theorem dX5_takeRight_46 : decode cX5_takeRight 46 = .ok (.iconst 3, 1) := by decide +kernel
theorem dX5_takeRight_47 : decode cX5_takeRight 47 = .ok (.isub, 1) := by decide +kernel
theorem dX5_takeRight_48 : decode cX5_takeRight 48 = .ok (.dup2, 1) := by decide +kernel
theorem dX5_takeRight_49 : decode cX5_takeRight 49 = .ok (.iaload, 1) := by decide +kernel
theorem dX5_takeRight_50 : decode cX5_takeRight 50 = .ok (.iload_n 2, 1) := by decide +kernel
theorem dX5_takeRight_51 : decode cX5_takeRight 51 = .ok (.iconst (-1), 1) := by decide +kernel
theorem dX5_takeRight_52 : decode cX5_takeRight 52 = .ok (.ixor, 1) := by decide +kernel
theorem dX5_takeRight_53 : decode cX5_takeRight 53 = .ok (.iand, 1) := by decide +kernel
theorem dX5_takeRight_54 : decode cX5_takeRight 54 = .ok (.iastore, 1) := by decide +kernel
theorem dX5_takeRight_55 : decode cX5_takeRight 55 = .ok (.return_, 1) := by decide +kernel
theorem dX5_oneIfIn_0 : decode cX5_oneIfIn 0 = .ok (.iload_n 0, 1) := by decide +kernel
theorem dX5_oneIfIn_1 : decode cX5_oneIfIn 1 = .ok (.iload_n 1, 1) := by decide +kernel
theorem dX5_oneIfIn_2 : decode cX5_oneIfIn 2 = .ok (.iand, 1) := by decide +kernel
theorem dX5_oneIfIn_3 : decode cX5_oneIfIn 3 = .ok (.ifCond .ne 7, 3) := by decide +kernel
theorem dX5_oneIfIn_6 : decode cX5_oneIfIn 6 = .ok (.iconst 0, 1) := by decide +kernel
theorem dX5_oneIfIn_7 : decode cX5_oneIfIn 7 = .ok (.goto 4, 3) := by decide +kernel
theorem dX5_oneIfIn_10 : decode cX5_oneIfIn 10 = .ok (.iconst 1, 1) := by decide +kernel
theorem dX5_oneIfIn_11 : decode cX5_oneIfIn 11 = .ok (.ireturn, 1) := by decide +kernel
theorem dX6_init_0 : decode cX6_init 0 = .ok (.aload_n 0, 1) := by decide +kernel
theorem dX6_init_1 : decode cX6_init 1 = .ok (.invokespecial 1, 3) := by decide +kernel
theorem dX6_init_4 : decode cX6_init 4 = .ok (.return_, 1) := by decide +kernel
theorem dX7_init_0 : decode cX7_init 0 = .ok (.aload_n 0, 1) := by decide +kernel
theorem dX7_init_1 : decode cX7_init 1 = .ok (.invokespecial 3, 3) := by decide +kernel
theorem dX7_init_4 : decode cX7_init 4 = .ok (.aload_n 0, 1) := by decide +kernel
theorem dX7_init_5 : decode cX7_init 5 = .ok (.new 9, 3) := by decide +kernel
theorem dX7_init_8 : decode cX7_init 8 = .ok (.dup, 1) := by decide +kernel
theorem dX7_init_9 : decode cX7_init 9 = .ok (.invokespecial 11, 3) := by decide +kernel
theorem dX7_init_12 : decode cX7_init 12 = .ok (.putfield 12, 3) := by decide +kernel
theorem dX7_init_15 : decode cX7_init 15 = .ok (.aload_n 0, 1) := by decide +kernel
theorem dX7_init_16 : decode cX7_init 16 = .ok (.new 16, 3) := by decide +kernel
theorem dX7_init_19 : decode cX7_init 19 = .ok (.dup, 1) := by decide +kernel
theorem dX7_init_20 : decode cX7_init 20 = .ok (.invokespecial 18, 3) := by decide +kernel
theorem dX7_init_23 : decode cX7_init 23 = .ok (.putfield 19, 3) := by decide +kernel
theorem dX7_init_26 : decode cX7_init 26 = .ok (.aload_n 0, 1) := by decide +kernel
theorem dX7_init_27 : decode cX7_init 27 = .ok (.new 23, 3) := by decide +kernel
theorem dX7_init_30 : decode cX7_init 30 = .ok (.dup, 1) := by decide +kernel
theorem dX7_init_31 : decode cX7_init 31 = .ok (.invokespecial 25, 3) := by decide +kernel
theorem dX7_init_34 : decode cX7_init 34 = .ok (.putfield 26, 3) := by decide +kernel
theorem dX7_init_37 : decode cX7_init 37 = .ok (.aload_n 0, 1) := by decide +kernel
theorem dX7_init_38 : decode cX7_init 38 = .ok (.bipush 12, 2) := by decide +kernel
theorem dX7_init_40 : decode cX7_init 40 = .ok (.anewarray 30, 3) := by decide +kernel
theorem dX7_init_43 : decode cX7_init 43 = .ok (.putfield 32, 3) := by decide +kernel
theorem dX7_init_46 : decode cX7_init 46 = .ok (.iconst 0, 1) := by decide +kernel
theorem dX7_init_47 : decode cX7_init 47 = .ok (.istore_n 1, 1) := by decide +kernel
theorem dX7_init_48 : decode cX7_init 48 = .ok (.iload_n 1, 1) := by decide +kernel
theorem dX7_init_49 : decode cX7_init 49 = .ok (.aload_n 0, 1) := by decide +kernel
theorem dX7_init_50 : decode cX7_init 50 = .ok (.getfield 32, 3) := by decide +kernel
theorem dX7_init_53 : decode cX7_init 53 = .ok (.arraylength, 1) := by decide +kernel
theorem dX7_init_54 : decode cX7_init 54 = .ok (.if_icmp .ge 22, 3) := by decide +kernel
theorem dX7_init_57 : decode cX7_init 57 = .ok (.aload_n 0, 1) := by decide +kernel
theorem dX7_init_58 : decode cX7_init 58 = .ok (.getfield 32, 3) := by decide +kernel
theorem dX7_init_61 : decode cX7_init 61 = .ok (.iload_n 1, 1) := by decide +kernel
theorem dX7_init_62 : decode cX7_init 62 = .ok (.new 30, 3) := by decide +kernel
theorem dX7_init_65 : decode cX7_init 65 = .ok (.dup, 1) := by decide +kernel
theorem dX7_init_66 : decode cX7_init 66 = .ok (.invokespecial 36, 3) := by decide +kernel
theorem dX7_init_69 : decode cX7_init 69 = .ok (.aastore, 1) := by decide +kernel
theorem dX7_init_70 : decode cX7_init 70 = .ok (.iinc 1 1, 3) := by decide +kernel
theorem dX7_init_73 : decode cX7_init 73 = .ok (.goto (-25), 3) := by decide +kernel
theorem dX7_init_76 : decode cX7_init 76 = .ok (.aload_n 0, 1) := by decide +kernel
theorem dX7_init_77 : decode cX7_init 77 = .ok (.bipush 8, 2) := by decide +kernel
theorem dX7_init_79 : decode cX7_init 79 = .ok (.anewarray 37, 3) := by decide +kernel
theorem dX7_init_82 : decode cX7_init 82 = .ok (.putfield 39, 3) := by decide +kernel
theorem dX7_init_85 : decode cX7_init 85 = .ok (.iconst 0, 1) := by decide +kernel
theorem dX7_init_86 : decode cX7_init 86 = .ok (.istore_n 1, 1) := by decide +kernel
theorem dX7_init_87 : decode cX7_init 87 = .ok (.iload_n 1, 1) := by decide +kernel
theorem dX7_init_88 : decode cX7_init 88 = .ok (.aload_n 0, 1) := by decide +kernel
theorem dX7_init_89 : decode cX7_init 89 = .ok (.getfield 39, 3) := by decide +kernel
theorem dX7_init_92 : decode cX7_init 92 = .ok (.arraylength, 1) := by decide +kernel
theorem dX7_init_93 : decode cX7_init 93 = .ok (.if_icmp .ge 22, 3) := by decide +kernel
theorem dX7_init_96 : decode cX7_init 96 = .ok (.aload_n 0, 1) := by decide +kernel
theorem dX7_init_97 : decode cX7_init 97 = .ok (.getfield 39, 3) := by decide +kernel
theorem dX7_init_100 : decode cX7_init 100 = .ok (.iload_n 1, 1) := by decide +kernel
theorem dX7_init_101 : decode cX7_init 101 = .ok (.new 37, 3) := by decide +kernel
theorem dX7_init_104 : decode cX7_init 104 = .ok (.dup, 1) := by decide +kernel
theorem dX7_init_105 : decode cX7_init 105 = .ok (.invokespecial 43, 3) := by decide +kernel
theorem dX7_init_108 : decode cX7_init 108 = .ok (.aastore, 1) := by decide +kernel
theorem dX7_init_109 : decode cX7_init 109 = .ok (.iinc 1 1, 3) := by decide +kernel
theorem dX7_init_112 : decode cX7_init 112 = .ok (.goto (-25), 3) := by decide +kernel
theorem dX7_init_115 : decode cX7_init 115 = .ok (.aload_n 0, 1) := by decide +kernel
theorem dX7_init_116 : decode cX7_init 116 = .ok (.bipush 10, 2) := by decide +kernel
theorem dX7_init_118 : decode cX7_init 118 = .ok (.anewarray 44, 3) := by decide +kernel
theorem dX7_init_121 : decode cX7_init 121 = .ok (.putfield 46, 3) := by decide +kernel
theorem dX7_init_124 : decode cX7_init 124 = .ok (.iconst 0, 1) := by decide +kernel
theorem dX7_init_125 : decode cX7_init 125 = .ok (.istore_n 1, 1) := by decide +kernel
theorem dX7_init_126 : decode cX7_init 126 = .ok (.iload_n 1, 1) := by decide +kernel
theorem dX7_init_127 : decode cX7_init 127 = .ok (.aload_n 0, 1) := by decide +kernel
theorem dX7_init_128 : decode cX7_init 128 = .ok (.getfield 46, 3) := by decide +kernel
theorem dX7_init_131 : decode cX7_init 131 = .ok (.arraylength, 1) := by decide +kernel
theorem dX7_init_132 : decode cX7_init 132 = .ok (.if_icmp .ge 22, 3) := by decide +kernel
theorem dX7_init_135 : decode cX7_init 135 = .ok (.aload_n 0, 1) := by decide +kernel
theorem dX7_init_136 : decode cX7_init 136 = .ok (.getfield 46, 3) := by decide +kernel
theorem dX7_init_139 : decode cX7_init 139 = .ok (.iload_n 1, 1) := by decide +kernel
theorem dX7_init_140 : decode cX7_init 140 = .ok (.new 44, 3) := by decide +kernel
theorem dX7_init_143 : decode cX7_init 143 = .ok (.dup, 1) := by decide +kernel
theorem dX7_init_144 : decode cX7_init 144 = .ok (.invokespecial 50, 3) := by decide +kernel
theorem dX7_init_147 : decode cX7_init 147 = .ok (.aastore, 1) := by decide +kernel
theorem dX7_init_148 : decode cX7_init 148 = .ok (.iinc 1 1, 3) := by decide +kernel
theorem dX7_init_151 : decode cX7_init 151 = .ok (.goto (-25), 3) := by decide +kernel
theorem dX7_init_154 : decode cX7_init 154 = .ok (.aload_n 0, 1) := by decide +kernel
theorem dX7_init_155 : decode cX7_init 155 = .ok (.iconst 4, 1) := by decide +kernel
theorem dX7_init_156 : decode cX7_init 156 = .ok (.anewarray 37, 3) := by decide +kernel
theorem dX7_init_159 : decode cX7_init 159 = .ok (.putfield 51, 3) := by decide +kernel
theorem dX7_init_162 : decode cX7_init 162 = .ok (.iconst 0, 1) := by decide +kernel
theorem dX7_init_163 : decode cX7_init 163 = .ok (.istore_n 1, 1) := by decide +kernel
theorem dX7_init_164 : decode cX7_init 164 = .ok (.iload_n 1, 1) := by decide +kernel
theorem dX7_init_165 : decode cX7_init 165 = .ok (.aload_n 0, 1) := by decide +kernel
theorem dX7_init_166 : decode cX7_init 166 = .ok (.getfield 51, 3) := by decide +kernel
theorem dX7_init_169 : decode cX7_init 169 = .ok (.arraylength, 1) := by decide +kernel
theorem dX7_init_170 : decode cX7_init 170 = .ok (.if_icmp .ge 22, 3) := by decide +kernel
theorem dX7_init_173 : decode cX7_init 173 = .ok (.aload_n 0, 1) := by decide +kernel
theorem dX7_init_174 : decode cX7_init 174 = .ok (.getfield 51, 3) := by decide +kernel
theorem dX7_init_177 : decode cX7_init 177 = .ok (.iload_n 1, 1) := by decide +kernel
theorem dX7_init_178 : decode cX7_init 178 = .ok (.new 37, 3) := by decide +kernel
theorem dX7_init_181 : decode cX7_init 181 = .ok (.dup, 1) := by decide +kernel
theorem dX7_init_182 : decode cX7_init 182 = .ok (.invokespecial 43, 3) := by decide +kernel
theorem dX7_init_185 : decode cX7_init 185 = .ok (.aastore, 1) := by decide +kernel
theorem dX7_init_186 : decode cX7_init 186 = .ok (.iinc 1 1, 3) := by decide +kernel
theorem dX7_init_189 : decode cX7_init 189 = .ok (.goto (-25), 3) := by decide +kernel
theorem dX7_init_192 : decode cX7_init 192 = .ok (.aload_n 0, 1) := by decide +kernel
theorem dX7_init_193 : decode cX7_init 193 = .ok (.new 30, 3) := by decide +kernel
theorem dX7_init_196 : decode cX7_init 196 = .ok (.dup, 1) := by decide +kernel
theorem dX7_init_197 : decode cX7_init 197 = .ok (.invokespecial 36, 3) := by decide +kernel
theorem dX7_init_200 : decode cX7_init 200 = .ok (.putfield 54, 3) := by decide +kernel
theorem dX7_init_203 : decode cX7_init 203 = .ok (.aload_n 0, 1) := by decide +kernel
theorem dX7_init_204 : decode cX7_init 204 = .ok (.bipush 15, 2) := by decide +kernel
theorem dX7_init_206 : decode cX7_init 206 = .ok (.newarray .int, 2) := by decide +kernel
theorem dX7_init_208 : decode cX7_init 208 = .ok (.putfield 58, 3) := by decide +kernel
theorem dX7_init_211 : decode cX7_init 211 = .ok (.aload_n 0, 1) := by decide +kernel
theorem dX7_init_212 : decode cX7_init 212 = .ok (.new 62, 3) := by decide +kernel
theorem dX7_init_215 : decode cX7_init 215 = .ok (.dup, 1) := by decide +kernel
theorem dX7_init_216 : decode cX7_init 216 = .ok (.invokespecial 64, 3) := by decide +kernel
theorem dX7_init_219 : decode cX7_init 219 = .ok (.putfield 65, 3) := by decide +kernel
theorem dX7_init_222 : decode cX7_init 222 = .ok (.aload_n 0, 1) := by decide +kernel
theorem dX7_init_223 : decode cX7_init 223 = .ok (.bipush 7, 2) := by decide +kernel
theorem dX7_init_225 : decode cX7_init 225 = .ok (.putfield 69, 3) := by decide +kernel
theorem dX7_init_228 : decode cX7_init 228 = .ok (.aload_n 0, 1) := by decide +kernel
theorem dX7_init_229 : decode cX7_init 229 = .ok (.bipush 7, 2) := by decide +kernel
theorem dX7_init_231 : decode cX7_init 231 = .ok (.putfield 73, 3) := by decide +kernel
theorem dX7_init_234 : decode cX7_init 234 = .ok (.return_, 1) := by decide +kernel
theorem dX7_member_0 : decode cX7_member 0 = .ok (.iload_n 1, 1) := by decide +kernel
theorem dX7_member_1 : decode cX7_member 1 = .ok (.bipush 6, 2) := by decide +kernel
theorem dX7_member_3 : decode cX7_member 3 = .ok (.invokestatic 76, 3) := by decide +kernel
theorem dX7_member_6 : decode cX7_member 6 = .ok (.iload_n 3, 1) := by decide +kernel
theorem dX7_member_7 : decode cX7_member 7 = .ok (.iload_n 2, 1) := by decide +kernel
theorem dX7_member_8 : decode cX7_member 8 = .ok (.ifCond .eq 8, 3) := by decide +kernel
theorem dX7_member_11 : decode cX7_member 11 = .ok (.bipush 6, 2) := by decide +kernel
theorem dX7_member_13 : decode cX7_member 13 = .ok (.goto 5, 3) := by decide +kernel
theorem dX7_member_16 : decode cX7_member 16 = .ok (.bipush 6, 2) := by decide +kernel
theorem dX7_member_18 : decode cX7_member 18 = .ok (.invokestatic 76, 3) := by decide +kernel
theorem dX7_member_21 : decode cX7_member 21 = .ok (.iload 4, 2) := by decide +kernel
theorem dX7_member_23 : decode cX7_member 23 = .ok (.ifCond .eq 29, 3) := by decide +kernel
theorem dX7_member_26 : decode cX7_member 26 = .ok (.iload_n 2, 1) := by decide +kernel
theorem dX7_member_27 : decode cX7_member 27 = .ok (.ifCond .eq 25, 3) := by decide +kernel
theorem dX7_member_30 : decode cX7_member 30 = .ok (.aload_n 0, 1) := by decide +kernel
theorem dX7_member_31 : decode cX7_member 31 = .ok (.getfield 12, 3) := by decide +kernel
theorem dX7_member_34 : decode cX7_member 34 = .ok (.iload_n 1, 1) := by decide +kernel
theorem dX7_member_35 : decode cX7_member 35 = .ok (.iload_n 3, 1) := by decide +kernel
theorem dX7_member_36 : decode cX7_member 36 = .ok (.invokevirtual 80, 3) := by decide +kernel
theorem dX7_member_39 : decode cX7_member 39 = .ok (.ifCond .eq 13, 3) := by decide +kernel
theorem dX7_member_42 : decode cX7_member 42 = .ok (.new 84, 3) := by decide +kernel
theorem dX7_member_45 : decode cX7_member 45 = .ok (.dup, 1) := by decide +kernel
theorem dX7_member_46 : decode cX7_member 46 = .ok (.ldc 86, 2) := by decide +kernel
theorem dX7_member_48 : decode cX7_member 48 = .ok (.invokespecial 88, 3) := by decide +kernel
theorem dX7_member_51 : decode cX7_member 51 = .ok (.athrow, 1) := by decide +kernel
theorem dX7_member_52 : decode cX7_member 52 = .ok (.aload_n 0, 1) := by decide +kernel
theorem dX7_member_53 : decode cX7_member 53 = .ok (.getfield 12, 3) := by decide +kernel
theorem dX7_member_56 : decode cX7_member 56 = .ok (.iload_n 1, 1) := by decide +kernel
theorem dX7_member_57 : decode cX7_member 57 = .ok (.iload_n 2, 1) := by decide +kernel
theorem dX7_member_58 : decode cX7_member 58 = .ok (.iload_n 3, 1) := by decide +kernel
theorem dX7_member_59 : decode cX7_member 59 = .ok (.invokevirtual 91, 3) := by decide +kernel
theorem dX7_member_62 : decode cX7_member 62 = .ok (.istore 5, 2) := by decide +kernel
theorem dX7_member_64 : decode cX7_member 64 = .ok (.aload_n 0, 1) := by decide +kernel
theorem dX7_member_65 : decode cX7_member 65 = .ok (.getfield 12, 3) := by decide +kernel
theorem dX7_member_68 : decode cX7_member 68 = .ok (.iload_n 1, 1) := by decide +kernel
theorem dX7_member_69 : decode cX7_member 69 = .ok (.iload_n 2, 1) := by decide +kernel
theorem dX7_member_70 : decode cX7_member 70 = .ok (.iload_n 3, 1) := by decide +kernel
theorem dX7_member_71 : decode cX7_member 71 = .ok (.iload 4, 2) := by decide +kernel
theorem dX7_member_73 : decode cX7_member 73 = .ok (.invokevirtual 95, 3) := by decide +kernel
theorem dX7_member_76 : decode cX7_member 76 = .ok (.iload 5, 2) := by decide +kernel
theorem dX7_member_78 : decode cX7_member 78 = .ok (.ireturn, 1) := by decide +kernel
theorem dX7_groups_0 : decode cX7_groups 0 = .ok (.iload_n 1, 1) := by decide +kernel
theorem dX7_groups_1 : decode cX7_groups 1 = .ok (.bipush 6, 2) := by decide +kernel
theorem dX7_groups_3 : decode cX7_groups 3 = .ok (.invokestatic 76, 3) := by decide +kernel
theorem dX7_groups_6 : decode cX7_groups 6 = .ok (.aload_n 0, 1) := by decide +kernel
theorem dX7_groups_7 : decode cX7_groups 7 = .ok (.getfield 12, 3) := by decide +kernel
theorem dX7_groups_10 : decode cX7_groups 10 = .ok (.iload_n 1, 1) := by decide +kernel
theorem dX7_groups_11 : decode cX7_groups 11 = .ok (.invokevirtual 99, 3) := by decide +kernel
theorem dX7_groups_14 : decode cX7_groups 14 = .ok (.ireturn, 1) := by decide +kernel
theorem dX7_thing_0 : decode cX7_thing 0 = .ok (.iload_n 2, 1) := by decide +kernel
theorem dX7_thing_1 : decode cX7_thing 1 = .ok (.bipush 6, 2) := by decide +kernel
theorem dX7_thing_3 : decode cX7_thing 3 = .ok (.invokestatic 76, 3) := by decide +kernel
theorem dX7_thing_6 : decode cX7_thing 6 = .ok (.iload_n 3, 1) := by decide +kernel
theorem dX7_thing_7 : decode cX7_thing 7 = .ok (.bipush 6, 2) := by decide +kernel
theorem dX7_thing_9 : decode cX7_thing 9 = .ok (.invokestatic 76, 3) := by decide +kernel
theorem dX7_thing_12 : decode cX7_thing 12 = .ok (.iload_n 1, 1) := by decide +kernel
theorem dX7_thing_13 : decode cX7_thing 13 = .ok (.iconst (-1), 1) := by decide +kernel
theorem dX7_thing_14 : decode cX7_thing 14 = .ok (.if_icmp .ne 7, 3) := by decide +kernel
theorem dX7_thing_17 : decode cX7_thing 17 = .ok (.aconst_null, 1) := by decide +kernel
theorem dX7_thing_18 : decode cX7_thing 18 = .ok (.goto 8, 3) := by decide +kernel
theorem dX7_thing_21 : decode cX7_thing 21 = .ok (.aload_n 0, 1) := by decide +kernel
theorem dX7_thing_22 : decode cX7_thing 22 = .ok (.iload_n 1, 1) := by decide +kernel
theorem dX7_thing_23 : decode cX7_thing 23 = .ok (.invokevirtual 103, 3) := by decide +kernel
theorem dX7_thing_26 : decode cX7_thing 26 = .ok (.astore 5, 2) := by decide +kernel
theorem dX7_thing_28 : decode cX7_thing 28 = .ok (.iload 4, 2) := by decide +kernel
theorem dX7_thing_30 : decode cX7_thing 30 = .ok (.iconst 0, 1) := by decide +kernel
theorem dX7_thing_31 : decode cX7_thing 31 = .ok (.sipush 1023, 3) := by decide +kernel
theorem dX7_thing_34 : decode cX7_thing 34 = .ok (.invokestatic 107, 3) := by decide +kernel
theorem dX7_thing_37 : decode cX7_thing 37 = .ok (.aload_n 0, 1) := by decide +kernel
theorem dX7_thing_38 : decode cX7_thing 38 = .ok (.getfield 111, 3) := by decide +kernel
theorem dX7_thing_41 : decode cX7_thing 41 = .ok (.aload_n 0, 1) := by decide +kernel
theorem dX7_thing_42 : decode cX7_thing 42 = .ok (.getfield 32, 3) := by decide +kernel
theorem dX7_thing_45 : decode cX7_thing 45 = .ok (.arraylength, 1) := by decide +kernel
theorem dX7_thing_46 : decode cX7_thing 46 = .ok (.invokestatic 114, 3) := by decide +kernel
theorem dX7_thing_49 : decode cX7_thing 49 = .ok (.aload_n 0, 1) := by decide +kernel
theorem dX7_thing_50 : decode cX7_thing 50 = .ok (.getfield 32, 3) := by decide +kernel
theorem dX7_thing_53 : decode cX7_thing 53 = .ok (.aload_n 0, 1) := by decide +kernel
theorem dX7_thing_54 : decode cX7_thing 54 = .ok (.getfield 111, 3) := by decide +kernel
theorem dX7_thing_57 : decode cX7_thing 57 = .ok (.aaload, 1) := by decide +kernel
theorem dX7_thing_58 : decode cX7_thing 58 = .ok (.astore 6, 2) := by decide +kernel
theorem dX7_thing_60 : decode cX7_thing 60 = .ok (.aload 6, 2) := by decide +kernel
theorem dX7_thing_62 : decode cX7_thing 62 = .ok (.iload_n 2, 1) := by decide +kernel
theorem dX7_thing_63 : decode cX7_thing 63 = .ok (.putfield 117, 3) := by decide +kernel
theorem dX7_thing_66 : decode cX7_thing 66 = .ok (.aload 6, 2) := by decide +kernel
theorem dX7_thing_68 : decode cX7_thing 68 = .ok (.iload_n 3, 1) := by decide +kernel
theorem dX7_thing_69 : decode cX7_thing 69 = .ok (.putfield 120, 3) := by decide +kernel
theorem dX7_thing_72 : decode cX7_thing 72 = .ok (.aload 6, 2) := by decide +kernel
theorem dX7_thing_74 : decode cX7_thing 74 = .ok (.iload 4, 2) := by decide +kernel
theorem dX7_thing_76 : decode cX7_thing 76 = .ok (.putfield 123, 3) := by decide +kernel
theorem dX7_thing_79 : decode cX7_thing 79 = .ok (.aload 5, 2) := by decide +kernel
theorem dX7_thing_81 : decode cX7_thing 81 = .ok (.ifnull 10, 3) := by decide +kernel
theorem dX7_thing_84 : decode cX7_thing 84 = .ok (.aload 6, 2) := by decide +kernel
theorem dX7_thing_86 : decode cX7_thing 86 = .ok (.aload 5, 2) := by decide +kernel
theorem dX7_thing_88 : decode cX7_thing 88 = .ok (.invokevirtual 126, 3) := by decide +kernel
theorem dX7_thing_91 : decode cX7_thing 91 = .ok (.aload_n 0, 1) := by decide +kernel
theorem dX7_thing_92 : decode cX7_thing 92 = .ok (.dup, 1) := by decide +kernel
theorem dX7_thing_93 : decode cX7_thing 93 = .ok (.getfield 111, 3) := by decide +kernel
theorem dX7_thing_96 : decode cX7_thing 96 = .ok (.iconst 1, 1) := by decide +kernel
theorem dX7_thing_97 : decode cX7_thing 97 = .ok (.iadd, 1) := by decide +kernel
theorem dX7_thing_98 : decode cX7_thing 98 = .ok (.putfield 111, 3) := by decide +kernel
theorem dX7_thing_101 : decode cX7_thing 101 = .ok (.aload_n 0, 1) := by decide +kernel
theorem dX7_thing_102 : decode cX7_thing 102 = .ok (.getfield 111, 3) := by decide +kernel
theorem dX7_thing_105 : decode cX7_thing 105 = .ok (.iconst 1, 1) := by decide +kernel
theorem dX7_thing_106 : decode cX7_thing 106 = .ok (.isub, 1) := by decide +kernel
theorem dX7_thing_107 : decode cX7_thing 107 = .ok (.ireturn, 1) := by decide +kernel
theorem dX7_type_0 : decode cX7_type 0 = .ok (.aload_n 0, 1) := by decide +kernel
theorem dX7_type_1 : decode cX7_type 1 = .ok (.iload_n 1, 1) := by decide +kernel
theorem dX7_type_2 : decode cX7_type 2 = .ok (.invokevirtual 103, 3) := by decide +kernel
theorem dX7_type_5 : decode cX7_type 5 = .ok (.astore_n 3, 1) := by decide +kernel
theorem dX7_type_6 : decode cX7_type 6 = .ok (.iload_n 2, 1) := by decide +kernel
theorem dX7_type_7 : decode cX7_type 7 = .ok (.iconst 0, 1) := by decide +kernel
theorem dX7_type_8 : decode cX7_type 8 = .ok (.iconst 3, 1) := by decide +kernel
theorem dX7_type_9 : decode cX7_type 9 = .ok (.invokestatic 107, 3) := by decide +kernel
theorem dX7_type_12 : decode cX7_type 12 = .ok (.aload_n 3, 1) := by decide +kernel
theorem dX7_type_13 : decode cX7_type 13 = .ok (.getfield 130, 3) := by decide +kernel
theorem dX7_type_16 : decode cX7_type 16 = .ok (.istore 4, 2) := by decide +kernel
theorem dX7_type_18 : decode cX7_type 18 = .ok (.aload_n 3, 1) := by decide +kernel
theorem dX7_type_19 : decode cX7_type 19 = .ok (.iload_n 2, 1) := by decide +kernel
theorem dX7_type_20 : decode cX7_type 20 = .ok (.putfield 130, 3) := by decide +kernel
theorem dX7_type_23 : decode cX7_type 23 = .ok (.iload 4, 2) := by decide +kernel
theorem dX7_type_25 : decode cX7_type 25 = .ok (.ireturn, 1) := by decide +kernel
theorem dX7_mode_0 : decode cX7_mode 0 = .ok (.aload_n 0, 1) := by decide +kernel
theorem dX7_mode_1 : decode cX7_mode 1 = .ok (.iload_n 1, 1) := by decide +kernel
theorem dX7_mode_2 : decode cX7_mode 2 = .ok (.invokevirtual 133, 3) := by decide +kernel
theorem dX7_mode_5 : decode cX7_mode 5 = .ok (.astore 4, 2) := by decide +kernel
theorem dX7_mode_7 : decode cX7_mode 7 = .ok (.aload_n 0, 1) := by decide +kernel
theorem dX7_mode_8 : decode cX7_mode 8 = .ok (.iload_n 2, 1) := by decide +kernel
theorem dX7_mode_9 : decode cX7_mode 9 = .ok (.invokevirtual 103, 3) := by decide +kernel
theorem dX7_mode_12 : decode cX7_mode 12 = .ok (.astore 5, 2) := by decide +kernel
theorem dX7_mode_14 : decode cX7_mode 14 = .ok (.iload_n 3, 1) := by decide +kernel
theorem dX7_mode_15 : decode cX7_mode 15 = .ok (.iconst 0, 1) := by decide +kernel
theorem dX7_mode_16 : decode cX7_mode 16 = .ok (.sipush 1023, 3) := by decide +kernel
theorem dX7_mode_19 : decode cX7_mode 19 = .ok (.invokestatic 107, 3) := by decide +kernel
theorem dX7_mode_22 : decode cX7_mode 22 = .ok (.aload 4, 2) := by decide +kernel
theorem dX7_mode_24 : decode cX7_mode 24 = .ok (.aload 5, 2) := by decide +kernel
theorem dX7_mode_26 : decode cX7_mode 26 = .ok (.invokestatic 137, 3) := by decide +kernel
theorem dX7_mode_29 : decode cX7_mode 29 = .ok (.invokestatic 141, 3) := by decide +kernel
theorem dX7_mode_32 : decode cX7_mode 32 = .ok (.aload 5, 2) := by decide +kernel
theorem dX7_mode_34 : decode cX7_mode 34 = .ok (.getfield 123, 3) := by decide +kernel
theorem dX7_mode_37 : decode cX7_mode 37 = .ok (.istore 6, 2) := by decide +kernel
theorem dX7_mode_39 : decode cX7_mode 39 = .ok (.aload 5, 2) := by decide +kernel
theorem dX7_mode_41 : decode cX7_mode 41 = .ok (.iload_n 3, 1) := by decide +kernel
theorem dX7_mode_42 : decode cX7_mode 42 = .ok (.putfield 123, 3) := by decide +kernel
theorem dX7_mode_45 : decode cX7_mode 45 = .ok (.iload 6, 2) := by decide +kernel
theorem dX7_mode_47 : decode cX7_mode 47 = .ok (.ireturn, 1) := by decide +kernel
theorem dX7_mask_0 : decode cX7_mask 0 = .ok (.aload_n 0, 1) := by decide +kernel
theorem dX7_mask_1 : decode cX7_mask 1 = .ok (.iload_n 1, 1) := by decide +kernel
theorem dX7_mask_2 : decode cX7_mask 2 = .ok (.invokevirtual 133, 3) := by decide +kernel
theorem dX7_mask_5 : decode cX7_mask 5 = .ok (.astore 4, 2) := by decide +kernel
theorem dX7_mask_7 : decode cX7_mask 7 = .ok (.aload_n 0, 1) := by decide +kernel
theorem dX7_mask_8 : decode cX7_mask 8 = .ok (.iload_n 2, 1) := by decide +kernel
theorem dX7_mask_9 : decode cX7_mask 9 = .ok (.invokevirtual 103, 3) := by decide +kernel
theorem dX7_mask_12 : decode cX7_mask 12 = .ok (.astore 5, 2) := by decide +kernel
theorem dX7_mask_14 : decode cX7_mask 14 = .ok (.iload_n 3, 1) := by decide +kernel
theorem dX7_mask_15 : decode cX7_mask 15 = .ok (.iconst 0, 1) := by decide +kernel
theorem dX7_mask_16 : decode cX7_mask 16 = .ok (.bipush 7, 2) := by decide +kernel
theorem dX7_mask_18 : decode cX7_mask 18 = .ok (.invokestatic 107, 3) := by decide +kernel
theorem dX7_mask_21 : decode cX7_mask 21 = .ok (.aload 4, 2) := by decide +kernel
theorem dX7_mask_23 : decode cX7_mask 23 = .ok (.aload 5, 2) := by decide +kernel
theorem dX7_mask_25 : decode cX7_mask 25 = .ok (.invokestatic 137, 3) := by decide +kernel
theorem dX7_mask_28 : decode cX7_mask 28 = .ok (.invokestatic 141, 3) := by decide +kernel
theorem dX7_mask_31 : decode cX7_mask 31 = .ok (.aload 5, 2) := by decide +kernel
theorem dX7_mask_33 : decode cX7_mask 33 = .ok (.getfield 145, 3) := by decide +kernel
theorem dX7_mask_36 : decode cX7_mask 36 = .ok (.istore 6, 2) := by decide +kernel
theorem dX7_mask_38 : decode cX7_mask 38 = .ok (.aload 5, 2) := by decide +kernel
theorem dX7_mask_40 : decode cX7_mask 40 = .ok (.iload_n 3, 1) := by decide +kernel
theorem dX7_mask_41 : decode cX7_mask 41 = .ok (.putfield 145, 3) := by decide +kernel
theorem dX7_mask_44 : decode cX7_mask 44 = .ok (.iload 6, 2) := by decide +kernel
theorem dX7_mask_46 : decode cX7_mask 46 = .ok (.ireturn, 1) := by decide +kernel
theorem dX7_entry_0 : decode cX7_entry 0 = .ok (.aload_n 0, 1) := by decide +kernel
theorem dX7_entry_1 : decode cX7_entry 1 = .ok (.iload_n 1, 1) := by decide +kernel
theorem dX7_entry_2 : decode cX7_entry 2 = .ok (.invokevirtual 133, 3) := by decide +kernel
theorem dX7_entry_5 : decode cX7_entry 5 = .ok (.astore 7, 2) := by decide +kernel
theorem dX7_entry_7 : decode cX7_entry 7 = .ok (.aload_n 0, 1) := by decide +kernel
theorem dX7_entry_8 : decode cX7_entry 8 = .ok (.iload_n 2, 1) := by decide +kernel
theorem dX7_entry_9 : decode cX7_entry 9 = .ok (.invokevirtual 103, 3) := by decide +kernel
theorem dX7_entry_12 : decode cX7_entry 12 = .ok (.astore 8, 2) := by decide +kernel
theorem dX7_entry_14 : decode cX7_entry 14 = .ok (.iload 4, 2) := by decide +kernel
theorem dX7_entry_16 : decode cX7_entry 16 = .ok (.iload_n 3, 1) := by decide +kernel
theorem dX7_entry_17 : decode cX7_entry 17 = .ok (.ifCond .eq 8, 3) := by decide +kernel
theorem dX7_entry_20 : decode cX7_entry 20 = .ok (.bipush 6, 2) := by decide +kernel
theorem dX7_entry_22 : decode cX7_entry 22 = .ok (.goto 5, 3) := by decide +kernel
theorem dX7_entry_25 : decode cX7_entry 25 = .ok (.bipush 6, 2) := by decide +kernel
theorem dX7_entry_27 : decode cX7_entry 27 = .ok (.invokestatic 76, 3) := by decide +kernel
theorem dX7_entry_30 : decode cX7_entry 30 = .ok (.iload 5, 2) := by decide +kernel
theorem dX7_entry_32 : decode cX7_entry 32 = .ok (.iconst (-1), 1) := by decide +kernel
theorem dX7_entry_33 : decode cX7_entry 33 = .ok (.bipush 7, 2) := by decide +kernel
theorem dX7_entry_35 : decode cX7_entry 35 = .ok (.invokestatic 107, 3) := by decide +kernel
theorem dX7_entry_38 : decode cX7_entry 38 = .ok (.aload 7, 2) := by decide +kernel
theorem dX7_entry_40 : decode cX7_entry 40 = .ok (.aload 8, 2) := by decide +kernel
theorem dX7_entry_42 : decode cX7_entry 42 = .ok (.invokestatic 137, 3) := by decide +kernel
theorem dX7_entry_45 : decode cX7_entry 45 = .ok (.invokestatic 141, 3) := by decide +kernel
theorem dX7_entry_48 : decode cX7_entry 48 = .ok (.iload_n 3, 1) := by decide +kernel
theorem dX7_entry_49 : decode cX7_entry 49 = .ok (.ifCond .eq 11, 3) := by decide +kernel
theorem dX7_entry_52 : decode cX7_entry 52 = .ok (.bipush 6, 2) := by decide +kernel
theorem dX7_entry_54 : decode cX7_entry 54 = .ok (.iload 4, 2) := by decide +kernel
theorem dX7_entry_56 : decode cX7_entry 56 = .ok (.iadd, 1) := by decide +kernel
theorem dX7_entry_57 : decode cX7_entry 57 = .ok (.goto 5, 3) := by decide +kernel
theorem dX7_entry_60 : decode cX7_entry 60 = .ok (.iload 4, 2) := by decide +kernel
theorem dX7_entry_62 : decode cX7_entry 62 = .ok (.istore 9, 2) := by decide +kernel
theorem dX7_entry_64 : decode cX7_entry 64 = .ok (.aload 8, 2) := by decide +kernel
theorem dX7_entry_66 : decode cX7_entry 66 = .ok (.iload 9, 2) := by decide +kernel
theorem dX7_entry_68 : decode cX7_entry 68 = .ok (.invokevirtual 148, 3) := by decide +kernel
theorem dX7_entry_71 : decode cX7_entry 71 = .ok (.istore 10, 2) := by decide +kernel
theorem dX7_entry_73 : decode cX7_entry 73 = .ok (.iload 5, 2) := by decide +kernel
theorem dX7_entry_75 : decode cX7_entry 75 = .ok (.iconst (-1), 1) := by decide +kernel
theorem dX7_entry_76 : decode cX7_entry 76 = .ok (.if_icmp .eq 18, 3) := by decide +kernel
theorem dX7_entry_79 : decode cX7_entry 79 = .ok (.iload 10, 2) := by decide +kernel
theorem dX7_entry_81 : decode cX7_entry 81 = .ok (.iconst (-1), 1) := by decide +kernel
theorem dX7_entry_82 : decode cX7_entry 82 = .ok (.if_icmp .ne 12, 3) := by decide +kernel
theorem dX7_entry_85 : decode cX7_entry 85 = .ok (.aload 8, 2) := by decide +kernel
theorem dX7_entry_87 : decode cX7_entry 87 = .ok (.getfield 151, 3) := by decide +kernel
theorem dX7_entry_90 : decode cX7_entry 90 = .ok (.iconst 5, 1) := by decide +kernel
theorem dX7_entry_91 : decode cX7_entry 91 = .ok (.invokestatic 114, 3) := by decide +kernel
theorem dX7_entry_94 : decode cX7_entry 94 = .ok (.aload 8, 2) := by decide +kernel
theorem dX7_entry_96 : decode cX7_entry 96 = .ok (.iload 9, 2) := by decide +kernel
theorem dX7_entry_98 : decode cX7_entry 98 = .ok (.iload 5, 2) := by decide +kernel
theorem dX7_entry_100 : decode cX7_entry 100 = .ok (.iload 6, 2) := by decide +kernel
theorem dX7_entry_102 : decode cX7_entry 102 = .ok (.invokevirtual 154, 3) := by decide +kernel
theorem dX7_entry_105 : decode cX7_entry 105 = .ok (.iload 10, 2) := by decide +kernel
theorem dX7_entry_107 : decode cX7_entry 107 = .ok (.ireturn, 1) := by decide +kernel
theorem dX7_give_0 : decode cX7_give 0 = .ok (.aload_n 0, 1) := by decide +kernel
theorem dX7_give_1 : decode cX7_give 1 = .ok (.iload_n 1, 1) := by decide +kernel
theorem dX7_give_2 : decode cX7_give 2 = .ok (.invokevirtual 133, 3) := by decide +kernel
theorem dX7_give_5 : decode cX7_give 5 = .ok (.astore 4, 2) := by decide +kernel
theorem dX7_give_7 : decode cX7_give 7 = .ok (.aload_n 0, 1) := by decide +kernel
theorem dX7_give_8 : decode cX7_give 8 = .ok (.iload_n 2, 1) := by decide +kernel
theorem dX7_give_9 : decode cX7_give 9 = .ok (.invokevirtual 103, 3) := by decide +kernel
theorem dX7_give_12 : decode cX7_give 12 = .ok (.astore 5, 2) := by decide +kernel
theorem dX7_give_14 : decode cX7_give 14 = .ok (.iload_n 3, 1) := by decide +kernel
theorem dX7_give_15 : decode cX7_give 15 = .ok (.bipush 6, 2) := by decide +kernel
theorem dX7_give_17 : decode cX7_give 17 = .ok (.invokestatic 76, 3) := by decide +kernel
theorem dX7_give_20 : decode cX7_give 20 = .ok (.iload_n 3, 1) := by decide +kernel
theorem dX7_give_21 : decode cX7_give 21 = .ok (.aload 5, 2) := by decide +kernel
theorem dX7_give_23 : decode cX7_give 23 = .ok (.getfield 117, 3) := by decide +kernel
theorem dX7_give_26 : decode cX7_give 26 = .ok (.if_icmp .ne 13, 3) := by decide +kernel
theorem dX7_give_29 : decode cX7_give 29 = .ok (.aload 4, 2) := by decide +kernel
theorem dX7_give_31 : decode cX7_give 31 = .ok (.aload 5, 2) := by decide +kernel
theorem dX7_give_33 : decode cX7_give 33 = .ok (.invokestatic 137, 3) := by decide +kernel
theorem dX7_give_36 : decode cX7_give 36 = .ok (.goto 9, 3) := by decide +kernel
theorem dX7_give_39 : decode cX7_give 39 = .ok (.aload 4, 2) := by decide +kernel
theorem dX7_give_41 : decode cX7_give 41 = .ok (.iconst 2, 1) := by decide +kernel
theorem dX7_give_42 : decode cX7_give 42 = .ok (.invokevirtual 158, 3) := by decide +kernel
theorem dX7_give_45 : decode cX7_give 45 = .ok (.invokestatic 141, 3) := by decide +kernel
theorem dX7_give_48 : decode cX7_give 48 = .ok (.aload 5, 2) := by decide +kernel
theorem dX7_give_50 : decode cX7_give 50 = .ok (.getfield 117, 3) := by decide +kernel
theorem dX7_give_53 : decode cX7_give 53 = .ok (.istore 6, 2) := by decide +kernel
theorem dX7_give_55 : decode cX7_give 55 = .ok (.aload 5, 2) := by decide +kernel
theorem dX7_give_57 : decode cX7_give 57 = .ok (.iload_n 3, 1) := by decide +kernel
theorem dX7_give_58 : decode cX7_give 58 = .ok (.putfield 117, 3) := by decide +kernel
theorem dX7_give_61 : decode cX7_give 61 = .ok (.iload 6, 2) := by decide +kernel
theorem dX7_give_63 : decode cX7_give 63 = .ok (.ireturn, 1) := by decide +kernel
theorem dX7_label_0 : decode cX7_label 0 = .ok (.aload_n 0, 1) := by decide +kernel
theorem dX7_label_1 : decode cX7_label 1 = .ok (.iload_n 1, 1) := by decide +kernel
theorem dX7_label_2 : decode cX7_label 2 = .ok (.invokevirtual 133, 3) := by decide +kernel
theorem dX7_label_5 : decode cX7_label 5 = .ok (.astore 5, 2) := by decide +kernel
theorem dX7_label_7 : decode cX7_label 7 = .ok (.aload_n 0, 1) := by decide +kernel
theorem dX7_label_8 : decode cX7_label 8 = .ok (.iload_n 2, 1) := by decide +kernel
theorem dX7_label_9 : decode cX7_label 9 = .ok (.invokevirtual 103, 3) := by decide +kernel
theorem dX7_label_12 : decode cX7_label 12 = .ok (.astore 6, 2) := by decide +kernel
theorem dX7_label_14 : decode cX7_label 14 = .ok (.iload_n 3, 1) := by decide +kernel
theorem dX7_label_15 : decode cX7_label 15 = .ok (.iconst 0, 1) := by decide +kernel
theorem dX7_label_16 : decode cX7_label 16 = .ok (.iconst 3, 1) := by decide +kernel
theorem dX7_label_17 : decode cX7_label 17 = .ok (.invokestatic 107, 3) := by decide +kernel
theorem dX7_label_20 : decode cX7_label 20 = .ok (.iload 4, 2) := by decide +kernel
theorem dX7_label_22 : decode cX7_label 22 = .ok (.iconst 0, 1) := by decide +kernel
theorem dX7_label_23 : decode cX7_label 23 = .ok (.bipush 7, 2) := by decide +kernel
theorem dX7_label_25 : decode cX7_label 25 = .ok (.invokestatic 107, 3) := by decide +kernel
theorem dX7_label_28 : decode cX7_label 28 = .ok (.aload 5, 2) := by decide +kernel
theorem dX7_label_30 : decode cX7_label 30 = .ok (.iconst 4, 1) := by decide +kernel
theorem dX7_label_31 : decode cX7_label 31 = .ok (.invokevirtual 158, 3) := by decide +kernel
theorem dX7_label_34 : decode cX7_label 34 = .ok (.ifCond .eq 26, 3) := by decide +kernel
theorem dX7_label_37 : decode cX7_label 37 = .ok (.aload 5, 2) := by decide +kernel
theorem dX7_label_39 : decode cX7_label 39 = .ok (.getfield 162, 3) := by decide +kernel
theorem dX7_label_42 : decode cX7_label 42 = .ok (.aload 5, 2) := by decide +kernel
theorem dX7_label_44 : decode cX7_label 44 = .ok (.getfield 165, 3) := by decide +kernel
theorem dX7_label_47 : decode cX7_label 47 = .ok (.iload_n 3, 1) := by decide +kernel
theorem dX7_label_48 : decode cX7_label 48 = .ok (.iload 4, 2) := by decide +kernel
theorem dX7_label_50 : decode cX7_label 50 = .ok (.invokestatic 168, 3) := by decide +kernel
theorem dX7_label_53 : decode cX7_label 53 = .ok (.ifCond .eq 7, 3) := by decide +kernel
theorem dX7_label_56 : decode cX7_label 56 = .ok (.iconst 1, 1) := by decide +kernel
theorem dX7_label_57 : decode cX7_label 57 = .ok (.goto 4, 3) := by decide +kernel
theorem dX7_label_60 : decode cX7_label 60 = .ok (.iconst 0, 1) := by decide +kernel
theorem dX7_label_61 : decode cX7_label 61 = .ok (.invokestatic 141, 3) := by decide +kernel
theorem dX7_label_64 : decode cX7_label 64 = .ok (.bipush 10, 2) := by decide +kernel
theorem dX7_label_66 : decode cX7_label 66 = .ok (.aload 6, 2) := by decide +kernel
theorem dX7_label_68 : decode cX7_label 68 = .ok (.getfield 172, 3) := by decide +kernel
theorem dX7_label_71 : decode cX7_label 71 = .ok (.imul, 1) := by decide +kernel
theorem dX7_label_72 : decode cX7_label 72 = .ok (.aload 6, 2) := by decide +kernel
theorem dX7_label_74 : decode cX7_label 74 = .ok (.getfield 173, 3) := by decide +kernel
theorem dX7_label_77 : decode cX7_label 77 = .ok (.iadd, 1) := by decide +kernel
theorem dX7_label_78 : decode cX7_label 78 = .ok (.istore 7, 2) := by decide +kernel
theorem dX7_label_80 : decode cX7_label 80 = .ok (.aload 6, 2) := by decide +kernel
theorem dX7_label_82 : decode cX7_label 82 = .ok (.iload_n 3, 1) := by decide +kernel
theorem dX7_label_83 : decode cX7_label 83 = .ok (.putfield 172, 3) := by decide +kernel
theorem dX7_label_86 : decode cX7_label 86 = .ok (.aload 6, 2) := by decide +kernel
theorem dX7_label_88 : decode cX7_label 88 = .ok (.iload 4, 2) := by decide +kernel
theorem dX7_label_90 : decode cX7_label 90 = .ok (.putfield 173, 3) := by decide +kernel
theorem dX7_label_93 : decode cX7_label 93 = .ok (.iload 7, 2) := by decide +kernel
theorem dX7_label_95 : decode cX7_label 95 = .ok (.ireturn, 1) := by decide +kernel
theorem dX7_rule_0 : decode cX7_rule 0 = .ok (.iload_n 1, 1) := by decide +kernel
theorem dX7_rule_1 : decode cX7_rule 1 = .ok (.iconst 4, 1) := by decide +kernel
theorem dX7_rule_2 : decode cX7_rule 2 = .ok (.invokestatic 76, 3) := by decide +kernel
theorem dX7_rule_5 : decode cX7_rule 5 = .ok (.iload_n 2, 1) := by decide +kernel
theorem dX7_rule_6 : decode cX7_rule 6 = .ok (.iconst 0, 1) := by decide +kernel
theorem dX7_rule_7 : decode cX7_rule 7 = .ok (.iconst 3, 1) := by decide +kernel
theorem dX7_rule_8 : decode cX7_rule 8 = .ok (.invokestatic 107, 3) := by decide +kernel
theorem dX7_rule_11 : decode cX7_rule 11 = .ok (.iload_n 3, 1) := by decide +kernel
theorem dX7_rule_12 : decode cX7_rule 12 = .ok (.iconst 0, 1) := by decide +kernel
theorem dX7_rule_13 : decode cX7_rule 13 = .ok (.bipush 7, 2) := by decide +kernel
theorem dX7_rule_15 : decode cX7_rule 15 = .ok (.invokestatic 107, 3) := by decide +kernel
theorem dX7_rule_18 : decode cX7_rule 18 = .ok (.aload_n 0, 1) := by decide +kernel
theorem dX7_rule_19 : decode cX7_rule 19 = .ok (.getfield 19, 3) := by decide +kernel
theorem dX7_rule_22 : decode cX7_rule 22 = .ok (.iload_n 1, 1) := by decide +kernel
theorem dX7_rule_23 : decode cX7_rule 23 = .ok (.iload_n 2, 1) := by decide +kernel
theorem dX7_rule_24 : decode cX7_rule 24 = .ok (.invokevirtual 174, 3) := by decide +kernel
theorem dX7_rule_27 : decode cX7_rule 27 = .ok (.istore 4, 2) := by decide +kernel
theorem dX7_rule_29 : decode cX7_rule 29 = .ok (.aload_n 0, 1) := by decide +kernel
theorem dX7_rule_30 : decode cX7_rule 30 = .ok (.getfield 19, 3) := by decide +kernel
theorem dX7_rule_33 : decode cX7_rule 33 = .ok (.iload_n 1, 1) := by decide +kernel
theorem dX7_rule_34 : decode cX7_rule 34 = .ok (.iload_n 2, 1) := by decide +kernel
theorem dX7_rule_35 : decode cX7_rule 35 = .ok (.iload_n 3, 1) := by decide +kernel
theorem dX7_rule_36 : decode cX7_rule 36 = .ok (.invokevirtual 177, 3) := by decide +kernel
theorem dX7_rule_39 : decode cX7_rule 39 = .ok (.iload 4, 2) := by decide +kernel
theorem dX7_rule_41 : decode cX7_rule 41 = .ok (.ireturn, 1) := by decide +kernel
theorem dX7_move_0 : decode cX7_move 0 = .ok (.iload_n 1, 1) := by decide +kernel
theorem dX7_move_1 : decode cX7_move 1 = .ok (.iconst 4, 1) := by decide +kernel
theorem dX7_move_2 : decode cX7_move 2 = .ok (.invokestatic 76, 3) := by decide +kernel
theorem dX7_move_5 : decode cX7_move 5 = .ok (.iload_n 3, 1) := by decide +kernel
theorem dX7_move_6 : decode cX7_move 6 = .ok (.iconst (-1), 1) := by decide +kernel
theorem dX7_move_7 : decode cX7_move 7 = .ok (.if_icmp .eq 8, 3) := by decide +kernel
theorem dX7_move_10 : decode cX7_move 10 = .ok (.iload_n 3, 1) := by decide +kernel
theorem dX7_move_11 : decode cX7_move 11 = .ok (.iconst 4, 1) := by decide +kernel
theorem dX7_move_12 : decode cX7_move 12 = .ok (.invokestatic 76, 3) := by decide +kernel
theorem dX7_move_15 : decode cX7_move 15 = .ok (.iload_n 2, 1) := by decide +kernel
theorem dX7_move_16 : decode cX7_move 16 = .ok (.iconst 0, 1) := by decide +kernel
theorem dX7_move_17 : decode cX7_move 17 = .ok (.iconst 3, 1) := by decide +kernel
theorem dX7_move_18 : decode cX7_move 18 = .ok (.invokestatic 107, 3) := by decide +kernel
theorem dX7_move_21 : decode cX7_move 21 = .ok (.aload_n 0, 1) := by decide +kernel
theorem dX7_move_22 : decode cX7_move 22 = .ok (.getfield 19, 3) := by decide +kernel
theorem dX7_move_25 : decode cX7_move 25 = .ok (.iload_n 1, 1) := by decide +kernel
theorem dX7_move_26 : decode cX7_move 26 = .ok (.iload_n 2, 1) := by decide +kernel
theorem dX7_move_27 : decode cX7_move 27 = .ok (.invokevirtual 180, 3) := by decide +kernel
theorem dX7_move_30 : decode cX7_move 30 = .ok (.istore 4, 2) := by decide +kernel
theorem dX7_move_32 : decode cX7_move 32 = .ok (.aload_n 0, 1) := by decide +kernel
theorem dX7_move_33 : decode cX7_move 33 = .ok (.getfield 19, 3) := by decide +kernel
theorem dX7_move_36 : decode cX7_move 36 = .ok (.iload_n 1, 1) := by decide +kernel
theorem dX7_move_37 : decode cX7_move 37 = .ok (.iload_n 2, 1) := by decide +kernel
theorem dX7_move_38 : decode cX7_move 38 = .ok (.iload_n 3, 1) := by decide +kernel
theorem dX7_move_39 : decode cX7_move 39 = .ok (.invokevirtual 183, 3) := by decide +kernel
theorem dX7_move_42 : decode cX7_move 42 = .ok (.iload 4, 2) := by decide +kernel
theorem dX7_move_44 : decode cX7_move 44 = .ok (.ireturn, 1) := by decide +kernel
theorem dX7_process_0 : decode cX7_process 0 = .ok (.iload_n 1, 1) := by decide +kernel
theorem dX7_process_1 : decode cX7_process 1 = .ok (.bipush 6, 2) := by decide +kernel
theorem dX7_process_3 : decode cX7_process 3 = .ok (.invokestatic 76, 3) := by decide +kernel
theorem dX7_process_6 : decode cX7_process 6 = .ok (.iload_n 2, 1) := by decide +kernel
theorem dX7_process_7 : decode cX7_process 7 = .ok (.iconst 4, 1) := by decide +kernel
theorem dX7_process_8 : decode cX7_process 8 = .ok (.invokestatic 76, 3) := by decide +kernel
theorem dX7_process_11 : decode cX7_process 11 = .ok (.iload_n 3, 1) := by decide +kernel
theorem dX7_process_12 : decode cX7_process 12 = .ok (.iconst 0, 1) := by decide +kernel
theorem dX7_process_13 : decode cX7_process 13 = .ok (.iconst 3, 1) := by decide +kernel
theorem dX7_process_14 : decode cX7_process 14 = .ok (.invokestatic 107, 3) := by decide +kernel
theorem dX7_process_17 : decode cX7_process 17 = .ok (.iload 4, 2) := by decide +kernel
theorem dX7_process_19 : decode cX7_process 19 = .ok (.iconst 0, 1) := by decide +kernel
theorem dX7_process_20 : decode cX7_process 20 = .ok (.bipush 7, 2) := by decide +kernel
theorem dX7_process_22 : decode cX7_process 22 = .ok (.invokestatic 107, 3) := by decide +kernel
theorem dX7_process_25 : decode cX7_process 25 = .ok (.iload 5, 2) := by decide +kernel
theorem dX7_process_27 : decode cX7_process 27 = .ok (.iconst 0, 1) := by decide +kernel
theorem dX7_process_28 : decode cX7_process 28 = .ok (.bipush 7, 2) := by decide +kernel
theorem dX7_process_30 : decode cX7_process 30 = .ok (.invokestatic 107, 3) := by decide +kernel
theorem dX7_process_33 : decode cX7_process 33 = .ok (.iload 6, 2) := by decide +kernel
theorem dX7_process_35 : decode cX7_process 35 = .ok (.iconst 0, 1) := by decide +kernel
theorem dX7_process_36 : decode cX7_process 36 = .ok (.bipush 7, 2) := by decide +kernel
theorem dX7_process_38 : decode cX7_process 38 = .ok (.invokestatic 107, 3) := by decide +kernel
theorem dX7_process_41 : decode cX7_process 41 = .ok (.iload 5, 2) := by decide +kernel
theorem dX7_process_43 : decode cX7_process 43 = .ok (.iload 6, 2) := by decide +kernel
theorem dX7_process_45 : decode cX7_process 45 = .ok (.invokestatic 186, 3) := by decide +kernel
theorem dX7_process_48 : decode cX7_process 48 = .ok (.aload_n 0, 1) := by decide +kernel
theorem dX7_process_49 : decode cX7_process 49 = .ok (.getfield 189, 3) := by decide +kernel
theorem dX7_process_52 : decode cX7_process 52 = .ok (.aload_n 0, 1) := by decide +kernel
theorem dX7_process_53 : decode cX7_process 53 = .ok (.getfield 39, 3) := by decide +kernel
theorem dX7_process_56 : decode cX7_process 56 = .ok (.arraylength, 1) := by decide +kernel
theorem dX7_process_57 : decode cX7_process 57 = .ok (.invokestatic 114, 3) := by decide +kernel
theorem dX7_process_60 : decode cX7_process 60 = .ok (.aload_n 0, 1) := by decide +kernel
theorem dX7_process_61 : decode cX7_process 61 = .ok (.getfield 39, 3) := by decide +kernel
theorem dX7_process_64 : decode cX7_process 64 = .ok (.aload_n 0, 1) := by decide +kernel
theorem dX7_process_65 : decode cX7_process 65 = .ok (.getfield 189, 3) := by decide +kernel
theorem dX7_process_68 : decode cX7_process 68 = .ok (.aaload, 1) := by decide +kernel
theorem dX7_process_69 : decode cX7_process 69 = .ok (.astore 7, 2) := by decide +kernel
theorem dX7_process_71 : decode cX7_process 71 = .ok (.aload 7, 2) := by decide +kernel
theorem dX7_process_73 : decode cX7_process 73 = .ok (.iload_n 1, 1) := by decide +kernel
theorem dX7_process_74 : decode cX7_process 74 = .ok (.putfield 192, 3) := by decide +kernel
theorem dX7_process_77 : decode cX7_process 77 = .ok (.aload 7, 2) := by decide +kernel
theorem dX7_process_79 : decode cX7_process 79 = .ok (.iload_n 2, 1) := by decide +kernel
theorem dX7_process_80 : decode cX7_process 80 = .ok (.putfield 195, 3) := by decide +kernel
theorem dX7_process_83 : decode cX7_process 83 = .ok (.aload 7, 2) := by decide +kernel
theorem dX7_process_85 : decode cX7_process 85 = .ok (.iload_n 3, 1) := by decide +kernel
theorem dX7_process_86 : decode cX7_process 86 = .ok (.putfield 162, 3) := by decide +kernel
theorem dX7_process_89 : decode cX7_process 89 = .ok (.aload 7, 2) := by decide +kernel
theorem dX7_process_91 : decode cX7_process 91 = .ok (.iload 4, 2) := by decide +kernel
theorem dX7_process_93 : decode cX7_process 93 = .ok (.putfield 165, 3) := by decide +kernel
theorem dX7_process_96 : decode cX7_process 96 = .ok (.aload 7, 2) := by decide +kernel
theorem dX7_process_98 : decode cX7_process 98 = .ok (.iload 5, 2) := by decide +kernel
theorem dX7_process_100 : decode cX7_process 100 = .ok (.putfield 198, 3) := by decide +kernel
theorem dX7_process_103 : decode cX7_process 103 = .ok (.aload 7, 2) := by decide +kernel
theorem dX7_process_105 : decode cX7_process 105 = .ok (.iload 6, 2) := by decide +kernel
theorem dX7_process_107 : decode cX7_process 107 = .ok (.putfield 201, 3) := by decide +kernel
theorem dX7_process_110 : decode cX7_process 110 = .ok (.aload_n 0, 1) := by decide +kernel
theorem dX7_process_111 : decode cX7_process 111 = .ok (.dup, 1) := by decide +kernel
theorem dX7_process_112 : decode cX7_process 112 = .ok (.getfield 189, 3) := by decide +kernel
theorem dX7_process_115 : decode cX7_process 115 = .ok (.iconst 1, 1) := by decide +kernel
theorem dX7_process_116 : decode cX7_process 116 = .ok (.iadd, 1) := by decide +kernel
theorem dX7_process_117 : decode cX7_process 117 = .ok (.putfield 189, 3) := by decide +kernel
theorem dX7_process_120 : decode cX7_process 120 = .ok (.aload_n 0, 1) := by decide +kernel
theorem dX7_process_121 : decode cX7_process 121 = .ok (.getfield 189, 3) := by decide +kernel
theorem dX7_process_124 : decode cX7_process 124 = .ok (.iconst 1, 1) := by decide +kernel
theorem dX7_process_125 : decode cX7_process 125 = .ok (.isub, 1) := by decide +kernel
theorem dX7_process_126 : decode cX7_process 126 = .ok (.ireturn, 1) := by decide +kernel
theorem dX7_filter_0 : decode cX7_filter 0 = .ok (.aload_n 0, 1) := by decide +kernel
theorem dX7_filter_1 : decode cX7_filter 1 = .ok (.iload_n 1, 1) := by decide +kernel
theorem dX7_filter_2 : decode cX7_filter 2 = .ok (.invokevirtual 133, 3) := by decide +kernel
theorem dX7_filter_5 : decode cX7_filter 5 = .ok (.astore_n 3, 1) := by decide +kernel
theorem dX7_filter_6 : decode cX7_filter 6 = .ok (.iload_n 2, 1) := by decide +kernel
theorem dX7_filter_7 : decode cX7_filter 7 = .ok (.iconst 0, 1) := by decide +kernel
theorem dX7_filter_8 : decode cX7_filter 8 = .ok (.bipush 7, 2) := by decide +kernel
theorem dX7_filter_10 : decode cX7_filter 10 = .ok (.invokestatic 107, 3) := by decide +kernel
theorem dX7_filter_13 : decode cX7_filter 13 = .ok (.aload_n 3, 1) := by decide +kernel
theorem dX7_filter_14 : decode cX7_filter 14 = .ok (.getfield 204, 3) := by decide +kernel
theorem dX7_filter_17 : decode cX7_filter 17 = .ok (.iconst 3, 1) := by decide +kernel
theorem dX7_filter_18 : decode cX7_filter 18 = .ok (.invokestatic 114, 3) := by decide +kernel
theorem dX7_filter_21 : decode cX7_filter 21 = .ok (.aload_n 3, 1) := by decide +kernel
theorem dX7_filter_22 : decode cX7_filter 22 = .ok (.iload_n 2, 1) := by decide +kernel
theorem dX7_filter_23 : decode cX7_filter 23 = .ok (.invokevirtual 207, 3) := by decide +kernel
theorem dX7_filter_26 : decode cX7_filter 26 = .ok (.aload_n 3, 1) := by decide +kernel
theorem dX7_filter_27 : decode cX7_filter 27 = .ok (.getfield 211, 3) := by decide +kernel
theorem dX7_filter_30 : decode cX7_filter 30 = .ok (.ireturn, 1) := by decide +kernel
theorem dX7_bound_0 : decode cX7_bound 0 = .ok (.aload_n 0, 1) := by decide +kernel
theorem dX7_bound_1 : decode cX7_bound 1 = .ok (.iload_n 1, 1) := by decide +kernel
theorem dX7_bound_2 : decode cX7_bound 2 = .ok (.invokevirtual 133, 3) := by decide +kernel
theorem dX7_bound_5 : decode cX7_bound 5 = .ok (.astore_n 3, 1) := by decide +kernel
theorem dX7_bound_6 : decode cX7_bound 6 = .ok (.iload_n 2, 1) := by decide +kernel
theorem dX7_bound_7 : decode cX7_bound 7 = .ok (.iconst 0, 1) := by decide +kernel
theorem dX7_bound_8 : decode cX7_bound 8 = .ok (.bipush 7, 2) := by decide +kernel
theorem dX7_bound_10 : decode cX7_bound 10 = .ok (.invokestatic 107, 3) := by decide +kernel
theorem dX7_bound_13 : decode cX7_bound 13 = .ok (.aload_n 3, 1) := by decide +kernel
theorem dX7_bound_14 : decode cX7_bound 14 = .ok (.dup, 1) := by decide +kernel
theorem dX7_bound_15 : decode cX7_bound 15 = .ok (.getfield 201, 3) := by decide +kernel
theorem dX7_bound_18 : decode cX7_bound 18 = .ok (.iload_n 2, 1) := by decide +kernel
theorem dX7_bound_19 : decode cX7_bound 19 = .ok (.iconst (-1), 1) := by decide +kernel
theorem dX7_bound_20 : decode cX7_bound 20 = .ok (.ixor, 1) := by decide +kernel
theorem dX7_bound_21 : decode cX7_bound 21 = .ok (.iand, 1) := by decide +kernel
theorem dX7_bound_22 : decode cX7_bound 22 = .ok (.putfield 201, 3) := by decide +kernel
theorem dX7_bound_25 : decode cX7_bound 25 = .ok (.aload_n 3, 1) := by decide +kernel
theorem dX7_bound_26 : decode cX7_bound 26 = .ok (.dup, 1) := by decide +kernel
theorem dX7_bound_27 : decode cX7_bound 27 = .ok (.getfield 198, 3) := by decide +kernel
theorem dX7_bound_30 : decode cX7_bound 30 = .ok (.iload_n 2, 1) := by decide +kernel
theorem dX7_bound_31 : decode cX7_bound 31 = .ok (.iconst (-1), 1) := by decide +kernel
theorem dX7_bound_32 : decode cX7_bound 32 = .ok (.ixor, 1) := by decide +kernel
theorem dX7_bound_33 : decode cX7_bound 33 = .ok (.iand, 1) := by decide +kernel
theorem dX7_bound_34 : decode cX7_bound 34 = .ok (.putfield 198, 3) := by decide +kernel
theorem dX7_bound_37 : decode cX7_bound 37 = .ok (.aload_n 3, 1) := by decide +kernel
theorem dX7_bound_38 : decode cX7_bound 38 = .ok (.getfield 201, 3) := by decide +kernel
theorem dX7_bound_41 : decode cX7_bound 41 = .ok (.ireturn, 1) := by decide +kernel
theorem dX7_about_0 : decode cX7_about 0 = .ok (.aload_n 0, 1) := by decide +kernel
theorem dX7_about_1 : decode cX7_about 1 = .ok (.iload_n 1, 1) := by decide +kernel
theorem dX7_about_2 : decode cX7_about 2 = .ok (.invokevirtual 133, 3) := by decide +kernel
theorem dX7_about_5 : decode cX7_about 5 = .ok (.astore_n 3, 1) := by decide +kernel
theorem dX7_about_6 : decode cX7_about 6 = .ok (.iload_n 2, 1) := by decide +kernel
theorem dX7_about_7 : decode cX7_about 7 = .ok (.iconst 0, 1) := by decide +kernel
theorem dX7_about_8 : decode cX7_about 8 = .ok (.bipush 6, 2) := by decide +kernel
theorem dX7_about_10 : decode cX7_about 10 = .ok (.invokestatic 107, 3) := by decide +kernel
theorem dX7_about_13 : decode cX7_about 13 = .ok (.iload_n 2, 1) := by decide +kernel
theorem dX7_about_14 : decode cX7_about 14 = .ok (.tableswitch 68 0 5 #[38, 43, 48, 53, 58, 63], 38) := by decide +kernel
theorem dX7_about_52 : decode cX7_about 52 = .ok (.aload_n 3, 1) := by decide +kernel
theorem dX7_about_53 : decode cX7_about 53 = .ok (.getfield 192, 3) := by decide +kernel
theorem dX7_about_56 : decode cX7_about 56 = .ok (.ireturn, 1) := by decide +kernel
theorem dX7_about_57 : decode cX7_about 57 = .ok (.aload_n 3, 1) := by decide +kernel
theorem dX7_about_58 : decode cX7_about 58 = .ok (.getfield 195, 3) := by decide +kernel
theorem dX7_about_61 : decode cX7_about 61 = .ok (.ireturn, 1) := by decide +kernel
theorem dX7_about_62 : decode cX7_about 62 = .ok (.aload_n 3, 1) := by decide +kernel
theorem dX7_about_63 : decode cX7_about 63 = .ok (.getfield 162, 3) := by decide +kernel
theorem dX7_about_66 : decode cX7_about 66 = .ok (.ireturn, 1) := by decide +kernel
theorem dX7_about_67 : decode cX7_about 67 = .ok (.aload_n 3, 1) := by decide +kernel
theorem dX7_about_68 : decode cX7_about 68 = .ok (.getfield 165, 3) := by decide +kernel
theorem dX7_about_71 : decode cX7_about 71 = .ok (.ireturn, 1) := by decide +kernel
theorem dX7_about_72 : decode cX7_about 72 = .ok (.aload_n 3, 1) := by decide +kernel
theorem dX7_about_73 : decode cX7_about 73 = .ok (.getfield 198, 3) := by decide +kernel
theorem dX7_about_76 : decode cX7_about 76 = .ok (.ireturn, 1) := by decide +kernel
theorem dX7_about_77 : decode cX7_about 77 = .ok (.aload_n 3, 1) := by decide +kernel
theorem dX7_about_78 : decode cX7_about 78 = .ok (.getfield 201, 3) := by decide +kernel
theorem dX7_about_81 : decode cX7_about 81 = .ok (.ireturn, 1) := by decide +kernel
theorem dX7_about_82 : decode cX7_about 82 = .ok (.aload_n 3, 1) := by decide +kernel
theorem dX7_about_83 : decode cX7_about 83 = .ok (.getfield 211, 3) := by decide +kernel
theorem dX7_about_86 : decode cX7_about 86 = .ok (.ireturn, 1) := by decide +kernel
theorem dX7_act_0 : decode cX7_act 0 = .ok (.aload_n 0, 1) := by decide +kernel
theorem dX7_act_1 : decode cX7_act 1 = .ok (.iload_n 1, 1) := by decide +kernel
theorem dX7_act_2 : decode cX7_act 2 = .ok (.invokevirtual 133, 3) := by decide +kernel
theorem dX7_act_5 : decode cX7_act 5 = .ok (.astore 4, 2) := by decide +kernel
theorem dX7_act_7 : decode cX7_act 7 = .ok (.aload_n 0, 1) := by decide +kernel
theorem dX7_act_8 : decode cX7_act 8 = .ok (.iload_n 2, 1) := by decide +kernel
theorem dX7_act_9 : decode cX7_act 9 = .ok (.invokevirtual 103, 3) := by decide +kernel
theorem dX7_act_12 : decode cX7_act 12 = .ok (.astore 5, 2) := by decide +kernel
theorem dX7_act_14 : decode cX7_act 14 = .ok (.iload_n 3, 1) := by decide +kernel
theorem dX7_act_15 : decode cX7_act 15 = .ok (.invokestatic 214, 3) := by decide +kernel
theorem dX7_act_18 : decode cX7_act 18 = .ok (.aload_n 0, 1) := by decide +kernel
theorem dX7_act_19 : decode cX7_act 19 = .ok (.aload 4, 2) := by decide +kernel
theorem dX7_act_21 : decode cX7_act 21 = .ok (.aload 5, 2) := by decide +kernel
theorem dX7_act_23 : decode cX7_act 23 = .ok (.iload_n 3, 1) := by decide +kernel
theorem dX7_act_24 : decode cX7_act 24 = .ok (.invokevirtual 217, 3) := by decide +kernel
theorem dX7_act_27 : decode cX7_act 27 = .ok (.istore 6, 2) := by decide +kernel
theorem dX7_act_29 : decode cX7_act 29 = .ok (.aload_n 0, 1) := by decide +kernel
theorem dX7_act_30 : decode cX7_act 30 = .ok (.iload_n 1, 1) := by decide +kernel
theorem dX7_act_31 : decode cX7_act 31 = .ok (.iload_n 2, 1) := by decide +kernel
theorem dX7_act_32 : decode cX7_act 32 = .ok (.iload_n 3, 1) := by decide +kernel
theorem dX7_act_33 : decode cX7_act 33 = .ok (.iload 6, 2) := by decide +kernel
theorem dX7_act_35 : decode cX7_act 35 = .ok (.invokevirtual 221, 3) := by decide +kernel
theorem dX7_act_38 : decode cX7_act 38 = .ok (.iload 6, 2) := by decide +kernel
theorem dX7_act_40 : decode cX7_act 40 = .ok (.ifCond .ne 16, 3) := by decide +kernel
theorem dX7_act_43 : decode cX7_act 43 = .ok (.iload_n 3, 1) := by decide +kernel
theorem dX7_act_44 : decode cX7_act 44 = .ok (.iconst 4, 1) := by decide +kernel
theorem dX7_act_45 : decode cX7_act 45 = .ok (.if_icmp .ne 11, 3) := by decide +kernel
theorem dX7_act_48 : decode cX7_act 48 = .ok (.aload_n 0, 1) := by decide +kernel
theorem dX7_act_49 : decode cX7_act 49 = .ok (.aload 4, 2) := by decide +kernel
theorem dX7_act_51 : decode cX7_act 51 = .ok (.aload 5, 2) := by decide +kernel
theorem dX7_act_53 : decode cX7_act 53 = .ok (.invokevirtual 225, 3) := by decide +kernel
theorem dX7_act_56 : decode cX7_act 56 = .ok (.iload 6, 2) := by decide +kernel
theorem dX7_act_58 : decode cX7_act 58 = .ok (.ireturn, 1) := by decide +kernel
theorem dX7_actBy_0 : decode cX7_actBy 0 = .ok (.aload_n 0, 1) := by decide +kernel
theorem dX7_actBy_1 : decode cX7_actBy 1 = .ok (.iload_n 1, 1) := by decide +kernel
theorem dX7_actBy_2 : decode cX7_actBy 2 = .ok (.invokevirtual 133, 3) := by decide +kernel
theorem dX7_actBy_5 : decode cX7_actBy 5 = .ok (.astore 4, 2) := by decide +kernel
theorem dX7_actBy_7 : decode cX7_actBy 7 = .ok (.aload_n 0, 1) := by decide +kernel
theorem dX7_actBy_8 : decode cX7_actBy 8 = .ok (.iload_n 2, 1) := by decide +kernel
theorem dX7_actBy_9 : decode cX7_actBy 9 = .ok (.invokevirtual 229, 3) := by decide +kernel
theorem dX7_actBy_12 : decode cX7_actBy 12 = .ok (.astore 5, 2) := by decide +kernel
theorem dX7_actBy_14 : decode cX7_actBy 14 = .ok (.iload_n 3, 1) := by decide +kernel
theorem dX7_actBy_15 : decode cX7_actBy 15 = .ok (.invokestatic 214, 3) := by decide +kernel
theorem dX7_actBy_18 : decode cX7_actBy 18 = .ok (.aload 5, 2) := by decide +kernel
theorem dX7_actBy_20 : decode cX7_actBy 20 = .ok (.getfield 233, 3) := by decide +kernel
theorem dX7_actBy_23 : decode cX7_actBy 23 = .ok (.iload_n 1, 1) := by decide +kernel
theorem dX7_actBy_24 : decode cX7_actBy 24 = .ok (.if_icmp .ne 7, 3) := by decide +kernel
theorem dX7_actBy_27 : decode cX7_actBy 27 = .ok (.iconst 1, 1) := by decide +kernel
theorem dX7_actBy_28 : decode cX7_actBy 28 = .ok (.goto 4, 3) := by decide +kernel
theorem dX7_actBy_31 : decode cX7_actBy 31 = .ok (.iconst 0, 1) := by decide +kernel
theorem dX7_actBy_32 : decode cX7_actBy 32 = .ok (.invokestatic 141, 3) := by decide +kernel
theorem dX7_actBy_35 : decode cX7_actBy 35 = .ok (.aload_n 0, 1) := by decide +kernel
theorem dX7_actBy_36 : decode cX7_actBy 36 = .ok (.aload 4, 2) := by decide +kernel
theorem dX7_actBy_38 : decode cX7_actBy 38 = .ok (.iload_n 2, 1) := by decide +kernel
theorem dX7_actBy_39 : decode cX7_actBy 39 = .ok (.iload_n 3, 1) := by decide +kernel
theorem dX7_actBy_40 : decode cX7_actBy 40 = .ok (.invokevirtual 236, 3) := by decide +kernel
theorem dX7_actBy_43 : decode cX7_actBy 43 = .ok (.istore 6, 2) := by decide +kernel
theorem dX7_actBy_45 : decode cX7_actBy 45 = .ok (.aload_n 0, 1) := by decide +kernel
theorem dX7_actBy_46 : decode cX7_actBy 46 = .ok (.iload_n 1, 1) := by decide +kernel
theorem dX7_actBy_47 : decode cX7_actBy 47 = .ok (.aload 5, 2) := by decide +kernel
theorem dX7_actBy_49 : decode cX7_actBy 49 = .ok (.getfield 240, 3) := by decide +kernel
theorem dX7_actBy_52 : decode cX7_actBy 52 = .ok (.iload_n 3, 1) := by decide +kernel
theorem dX7_actBy_53 : decode cX7_actBy 53 = .ok (.iload 6, 2) := by decide +kernel
theorem dX7_actBy_55 : decode cX7_actBy 55 = .ok (.invokevirtual 221, 3) := by decide +kernel
theorem dX7_actBy_58 : decode cX7_actBy 58 = .ok (.iload 6, 2) := by decide +kernel
theorem dX7_actBy_60 : decode cX7_actBy 60 = .ok (.ireturn, 1) := by decide +kernel
theorem dX7_token_0 : decode cX7_token 0 = .ok (.aload_n 0, 1) := by decide +kernel
theorem dX7_token_1 : decode cX7_token 1 = .ok (.iload_n 1, 1) := by decide +kernel
theorem dX7_token_2 : decode cX7_token 2 = .ok (.invokevirtual 133, 3) := by decide +kernel
theorem dX7_token_5 : decode cX7_token 5 = .ok (.astore 5, 2) := by decide +kernel
theorem dX7_token_7 : decode cX7_token 7 = .ok (.aload_n 0, 1) := by decide +kernel
theorem dX7_token_8 : decode cX7_token 8 = .ok (.iload_n 2, 1) := by decide +kernel
theorem dX7_token_9 : decode cX7_token 9 = .ok (.invokevirtual 103, 3) := by decide +kernel
theorem dX7_token_12 : decode cX7_token 12 = .ok (.pop, 1) := by decide +kernel
theorem dX7_token_13 : decode cX7_token 13 = .ok (.iload_n 3, 1) := by decide +kernel
theorem dX7_token_14 : decode cX7_token 14 = .ok (.iconst 1, 1) := by decide +kernel
theorem dX7_token_15 : decode cX7_token 15 = .ok (.bipush 7, 2) := by decide +kernel
theorem dX7_token_17 : decode cX7_token 17 = .ok (.invokestatic 107, 3) := by decide +kernel
theorem dX7_token_20 : decode cX7_token 20 = .ok (.iload 4, 2) := by decide +kernel
theorem dX7_token_22 : decode cX7_token 22 = .ok (.aload_n 0, 1) := by decide +kernel
theorem dX7_token_23 : decode cX7_token 23 = .ok (.getfield 243, 3) := by decide +kernel
theorem dX7_token_26 : decode cX7_token 26 = .ok (.sipush 10000, 3) := by decide +kernel
theorem dX7_token_29 : decode cX7_token 29 = .ok (.invokestatic 107, 3) := by decide +kernel
theorem dX7_token_32 : decode cX7_token 32 = .ok (.aload_n 0, 1) := by decide +kernel
theorem dX7_token_33 : decode cX7_token 33 = .ok (.getfield 246, 3) := by decide +kernel
theorem dX7_token_36 : decode cX7_token 36 = .ok (.aload_n 0, 1) := by decide +kernel
theorem dX7_token_37 : decode cX7_token 37 = .ok (.getfield 46, 3) := by decide +kernel
theorem dX7_token_40 : decode cX7_token 40 = .ok (.arraylength, 1) := by decide +kernel
theorem dX7_token_41 : decode cX7_token 41 = .ok (.invokestatic 114, 3) := by decide +kernel
theorem dX7_token_44 : decode cX7_token 44 = .ok (.aload_n 0, 1) := by decide +kernel
theorem dX7_token_45 : decode cX7_token 45 = .ok (.getfield 46, 3) := by decide +kernel
theorem dX7_token_48 : decode cX7_token 48 = .ok (.aload_n 0, 1) := by decide +kernel
theorem dX7_token_49 : decode cX7_token 49 = .ok (.getfield 246, 3) := by decide +kernel
theorem dX7_token_52 : decode cX7_token 52 = .ok (.aaload, 1) := by decide +kernel
theorem dX7_token_53 : decode cX7_token 53 = .ok (.astore 6, 2) := by decide +kernel
theorem dX7_token_55 : decode cX7_token 55 = .ok (.aload 6, 2) := by decide +kernel
theorem dX7_token_57 : decode cX7_token 57 = .ok (.iload_n 2, 1) := by decide +kernel
theorem dX7_token_58 : decode cX7_token 58 = .ok (.putfield 240, 3) := by decide +kernel
theorem dX7_token_61 : decode cX7_token 61 = .ok (.aload 6, 2) := by decide +kernel
theorem dX7_token_63 : decode cX7_token 63 = .ok (.aload 5, 2) := by decide +kernel
theorem dX7_token_65 : decode cX7_token 65 = .ok (.getfield 192, 3) := by decide +kernel
theorem dX7_token_68 : decode cX7_token 68 = .ok (.putfield 249, 3) := by decide +kernel
theorem dX7_token_71 : decode cX7_token 71 = .ok (.aload 6, 2) := by decide +kernel
theorem dX7_token_73 : decode cX7_token 73 = .ok (.aload 5, 2) := by decide +kernel
theorem dX7_token_75 : decode cX7_token 75 = .ok (.getfield 195, 3) := by decide +kernel
theorem dX7_token_78 : decode cX7_token 78 = .ok (.putfield 250, 3) := by decide +kernel
theorem dX7_token_81 : decode cX7_token 81 = .ok (.aload 6, 2) := by decide +kernel
theorem dX7_token_83 : decode cX7_token 83 = .ok (.iconst (-1), 1) := by decide +kernel
theorem dX7_token_84 : decode cX7_token 84 = .ok (.putfield 251, 3) := by decide +kernel
theorem dX7_token_87 : decode cX7_token 87 = .ok (.aload_n 0, 1) := by decide +kernel
theorem dX7_token_88 : decode cX7_token 88 = .ok (.aload 6, 2) := by decide +kernel
theorem dX7_token_90 : decode cX7_token 90 = .ok (.iload_n 3, 1) := by decide +kernel
theorem dX7_token_91 : decode cX7_token 91 = .ok (.iload 4, 2) := by decide +kernel
theorem dX7_token_93 : decode cX7_token 93 = .ok (.iload_n 1, 1) := by decide +kernel
theorem dX7_token_94 : decode cX7_token 94 = .ok (.iload_n 1, 1) := by decide +kernel
theorem dX7_token_95 : decode cX7_token 95 = .ok (.invokevirtual 254, 3) := by decide +kernel
theorem dX7_token_98 : decode cX7_token 98 = .ok (.ireturn, 1) := by decide +kernel
theorem dX7_narrow_0 : decode cX7_narrow 0 = .ok (.aload_n 0, 1) := by decide +kernel
theorem dX7_narrow_1 : decode cX7_narrow 1 = .ok (.iload_n 1, 1) := by decide +kernel
theorem dX7_narrow_2 : decode cX7_narrow 2 = .ok (.invokevirtual 133, 3) := by decide +kernel
theorem dX7_narrow_5 : decode cX7_narrow 5 = .ok (.pop, 1) := by decide +kernel
theorem dX7_narrow_6 : decode cX7_narrow 6 = .ok (.aload_n 0, 1) := by decide +kernel
theorem dX7_narrow_7 : decode cX7_narrow 7 = .ok (.iload_n 2, 1) := by decide +kernel
theorem dX7_narrow_8 : decode cX7_narrow 8 = .ok (.invokevirtual 229, 3) := by decide +kernel
theorem dX7_narrow_11 : decode cX7_narrow 11 = .ok (.astore 6, 2) := by decide +kernel
theorem dX7_narrow_13 : decode cX7_narrow 13 = .ok (.aload_n 0, 1) := by decide +kernel
theorem dX7_narrow_14 : decode cX7_narrow 14 = .ok (.iload 5, 2) := by decide +kernel
theorem dX7_narrow_16 : decode cX7_narrow 16 = .ok (.invokevirtual 133, 3) := by decide +kernel
theorem dX7_narrow_19 : decode cX7_narrow 19 = .ok (.pop, 1) := by decide +kernel
theorem dX7_narrow_20 : decode cX7_narrow 20 = .ok (.iload_n 3, 1) := by decide +kernel
theorem dX7_narrow_21 : decode cX7_narrow 21 = .ok (.iconst 1, 1) := by decide +kernel
theorem dX7_narrow_22 : decode cX7_narrow 22 = .ok (.bipush 7, 2) := by decide +kernel
theorem dX7_narrow_24 : decode cX7_narrow 24 = .ok (.invokestatic 107, 3) := by decide +kernel
theorem dX7_narrow_27 : decode cX7_narrow 27 = .ok (.iload_n 3, 1) := by decide +kernel
theorem dX7_narrow_28 : decode cX7_narrow 28 = .ok (.aload 6, 2) := by decide +kernel
theorem dX7_narrow_30 : decode cX7_narrow 30 = .ok (.getfield 258, 3) := by decide +kernel
theorem dX7_narrow_33 : decode cX7_narrow 33 = .ok (.invokestatic 186, 3) := by decide +kernel
theorem dX7_narrow_36 : decode cX7_narrow 36 = .ok (.iload 4, 2) := by decide +kernel
theorem dX7_narrow_38 : decode cX7_narrow 38 = .ok (.aload_n 0, 1) := by decide +kernel
theorem dX7_narrow_39 : decode cX7_narrow 39 = .ok (.getfield 243, 3) := by decide +kernel
theorem dX7_narrow_42 : decode cX7_narrow 42 = .ok (.aload 6, 2) := by decide +kernel
theorem dX7_narrow_44 : decode cX7_narrow 44 = .ok (.getfield 261, 3) := by decide +kernel
theorem dX7_narrow_47 : decode cX7_narrow 47 = .ok (.invokestatic 107, 3) := by decide +kernel
theorem dX7_narrow_50 : decode cX7_narrow 50 = .ok (.aload 6, 2) := by decide +kernel
theorem dX7_narrow_52 : decode cX7_narrow 52 = .ok (.getfield 233, 3) := by decide +kernel
theorem dX7_narrow_55 : decode cX7_narrow 55 = .ok (.iload_n 1, 1) := by decide +kernel
theorem dX7_narrow_56 : decode cX7_narrow 56 = .ok (.if_icmp .ne 7, 3) := by decide +kernel
theorem dX7_narrow_59 : decode cX7_narrow 59 = .ok (.iconst 1, 1) := by decide +kernel
theorem dX7_narrow_60 : decode cX7_narrow 60 = .ok (.goto 4, 3) := by decide +kernel
theorem dX7_narrow_63 : decode cX7_narrow 63 = .ok (.iconst 0, 1) := by decide +kernel
theorem dX7_narrow_64 : decode cX7_narrow 64 = .ok (.invokestatic 141, 3) := by decide +kernel
theorem dX7_narrow_67 : decode cX7_narrow 67 = .ok (.aload_n 0, 1) := by decide +kernel
theorem dX7_narrow_68 : decode cX7_narrow 68 = .ok (.getfield 246, 3) := by decide +kernel
theorem dX7_narrow_71 : decode cX7_narrow 71 = .ok (.aload_n 0, 1) := by decide +kernel
theorem dX7_narrow_72 : decode cX7_narrow 72 = .ok (.getfield 46, 3) := by decide +kernel
theorem dX7_narrow_75 : decode cX7_narrow 75 = .ok (.arraylength, 1) := by decide +kernel
theorem dX7_narrow_76 : decode cX7_narrow 76 = .ok (.invokestatic 114, 3) := by decide +kernel
theorem dX7_narrow_79 : decode cX7_narrow 79 = .ok (.aload_n 0, 1) := by decide +kernel
theorem dX7_narrow_80 : decode cX7_narrow 80 = .ok (.getfield 46, 3) := by decide +kernel
theorem dX7_narrow_83 : decode cX7_narrow 83 = .ok (.aload_n 0, 1) := by decide +kernel
theorem dX7_narrow_84 : decode cX7_narrow 84 = .ok (.getfield 246, 3) := by decide +kernel
theorem dX7_narrow_87 : decode cX7_narrow 87 = .ok (.aaload, 1) := by decide +kernel
theorem dX7_narrow_88 : decode cX7_narrow 88 = .ok (.astore 7, 2) := by decide +kernel
theorem dX7_narrow_90 : decode cX7_narrow 90 = .ok (.aload 7, 2) := by decide +kernel
theorem dX7_narrow_92 : decode cX7_narrow 92 = .ok (.aload 6, 2) := by decide +kernel
theorem dX7_narrow_94 : decode cX7_narrow 94 = .ok (.getfield 240, 3) := by decide +kernel
theorem dX7_narrow_97 : decode cX7_narrow 97 = .ok (.putfield 240, 3) := by decide +kernel
theorem dX7_narrow_100 : decode cX7_narrow 100 = .ok (.aload 7, 2) := by decide +kernel
theorem dX7_narrow_102 : decode cX7_narrow 102 = .ok (.aload 6, 2) := by decide +kernel
theorem dX7_narrow_104 : decode cX7_narrow 104 = .ok (.getfield 249, 3) := by decide +kernel
theorem dX7_narrow_107 : decode cX7_narrow 107 = .ok (.putfield 249, 3) := by decide +kernel
theorem dX7_narrow_110 : decode cX7_narrow 110 = .ok (.aload 7, 2) := by decide +kernel
theorem dX7_narrow_112 : decode cX7_narrow 112 = .ok (.aload 6, 2) := by decide +kernel
theorem dX7_narrow_114 : decode cX7_narrow 114 = .ok (.getfield 250, 3) := by decide +kernel
theorem dX7_narrow_117 : decode cX7_narrow 117 = .ok (.putfield 250, 3) := by decide +kernel
theorem dX7_narrow_120 : decode cX7_narrow 120 = .ok (.aload 7, 2) := by decide +kernel
theorem dX7_narrow_122 : decode cX7_narrow 122 = .ok (.iload_n 2, 1) := by decide +kernel
theorem dX7_narrow_123 : decode cX7_narrow 123 = .ok (.putfield 251, 3) := by decide +kernel
theorem dX7_narrow_126 : decode cX7_narrow 126 = .ok (.aload_n 0, 1) := by decide +kernel
theorem dX7_narrow_127 : decode cX7_narrow 127 = .ok (.aload 7, 2) := by decide +kernel
theorem dX7_narrow_129 : decode cX7_narrow 129 = .ok (.iload_n 3, 1) := by decide +kernel
theorem dX7_narrow_130 : decode cX7_narrow 130 = .ok (.iload 4, 2) := by decide +kernel
theorem dX7_narrow_132 : decode cX7_narrow 132 = .ok (.iload_n 1, 1) := by decide +kernel
theorem dX7_narrow_133 : decode cX7_narrow 133 = .ok (.iload 5, 2) := by decide +kernel
theorem dX7_narrow_135 : decode cX7_narrow 135 = .ok (.invokevirtual 254, 3) := by decide +kernel
theorem dX7_narrow_138 : decode cX7_narrow 138 = .ok (.ireturn, 1) := by decide +kernel
theorem dX7_takeBack_0 : decode cX7_takeBack 0 = .ok (.aload_n 0, 1) := by decide +kernel
theorem dX7_takeBack_1 : decode cX7_takeBack 1 = .ok (.iload_n 1, 1) := by decide +kernel
theorem dX7_takeBack_2 : decode cX7_takeBack 2 = .ok (.invokevirtual 133, 3) := by decide +kernel
theorem dX7_takeBack_5 : decode cX7_takeBack 5 = .ok (.pop, 1) := by decide +kernel
theorem dX7_takeBack_6 : decode cX7_takeBack 6 = .ok (.aload_n 0, 1) := by decide +kernel
theorem dX7_takeBack_7 : decode cX7_takeBack 7 = .ok (.iload_n 2, 1) := by decide +kernel
theorem dX7_takeBack_8 : decode cX7_takeBack 8 = .ok (.invokevirtual 229, 3) := by decide +kernel
theorem dX7_takeBack_11 : decode cX7_takeBack 11 = .ok (.astore_n 3, 1) := by decide +kernel
theorem dX7_takeBack_12 : decode cX7_takeBack 12 = .ok (.aload_n 3, 1) := by decide +kernel
theorem dX7_takeBack_13 : decode cX7_takeBack 13 = .ok (.getfield 264, 3) := by decide +kernel
theorem dX7_takeBack_16 : decode cX7_takeBack 16 = .ok (.iload_n 1, 1) := by decide +kernel
theorem dX7_takeBack_17 : decode cX7_takeBack 17 = .ok (.if_icmp .ne 7, 3) := by decide +kernel
theorem dX7_takeBack_20 : decode cX7_takeBack 20 = .ok (.iconst 1, 1) := by decide +kernel
theorem dX7_takeBack_21 : decode cX7_takeBack 21 = .ok (.goto 4, 3) := by decide +kernel
theorem dX7_takeBack_24 : decode cX7_takeBack 24 = .ok (.iconst 0, 1) := by decide +kernel
theorem dX7_takeBack_25 : decode cX7_takeBack 25 = .ok (.invokestatic 141, 3) := by decide +kernel
theorem dX7_takeBack_28 : decode cX7_takeBack 28 = .ok (.aload_n 0, 1) := by decide +kernel
theorem dX7_takeBack_29 : decode cX7_takeBack 29 = .ok (.iload_n 2, 1) := by decide +kernel
theorem dX7_takeBack_30 : decode cX7_takeBack 30 = .ok (.invokevirtual 267, 3) := by decide +kernel
theorem dX7_takeBack_33 : decode cX7_takeBack 33 = .ok (.istore 4, 2) := by decide +kernel
theorem dX7_takeBack_35 : decode cX7_takeBack 35 = .ok (.aload_n 3, 1) := by decide +kernel
theorem dX7_takeBack_36 : decode cX7_takeBack 36 = .ok (.iconst 1, 1) := by decide +kernel
theorem dX7_takeBack_37 : decode cX7_takeBack 37 = .ok (.putfield 270, 3) := by decide +kernel
theorem dX7_takeBack_40 : decode cX7_takeBack 40 = .ok (.iload 4, 2) := by decide +kernel
theorem dX7_takeBack_42 : decode cX7_takeBack 42 = .ok (.ireturn, 1) := by decide +kernel
theorem dX7_pass_0 : decode cX7_pass 0 = .ok (.iload_n 1, 1) := by decide +kernel
theorem dX7_pass_1 : decode cX7_pass 1 = .ok (.iconst 1, 1) := by decide +kernel
theorem dX7_pass_2 : decode cX7_pass 2 = .ok (.sipush 1000, 3) := by decide +kernel
theorem dX7_pass_5 : decode cX7_pass 5 = .ok (.invokestatic 107, 3) := by decide +kernel
theorem dX7_pass_8 : decode cX7_pass 8 = .ok (.aload_n 0, 1) := by decide +kernel
theorem dX7_pass_9 : decode cX7_pass 9 = .ok (.getfield 243, 3) := by decide +kernel
theorem dX7_pass_12 : decode cX7_pass 12 = .ok (.iload_n 1, 1) := by decide +kernel
theorem dX7_pass_13 : decode cX7_pass 13 = .ok (.iadd, 1) := by decide +kernel
theorem dX7_pass_14 : decode cX7_pass 14 = .ok (.sipush 10000, 3) := by decide +kernel
theorem dX7_pass_17 : decode cX7_pass 17 = .ok (.if_icmp .le 14, 3) := by decide +kernel
theorem dX7_pass_20 : decode cX7_pass 20 = .ok (.new 84, 3) := by decide +kernel
theorem dX7_pass_23 : decode cX7_pass 23 = .ok (.dup, 1) := by decide +kernel
theorem dX7_pass_24 : decode cX7_pass 24 = .ok (.ldc_w 274, 3) := by decide +kernel
theorem dX7_pass_27 : decode cX7_pass 27 = .ok (.invokespecial 88, 3) := by decide +kernel
theorem dX7_pass_30 : decode cX7_pass 30 = .ok (.athrow, 1) := by decide +kernel
theorem dX7_pass_31 : decode cX7_pass 31 = .ok (.aload_n 0, 1) := by decide +kernel
theorem dX7_pass_32 : decode cX7_pass 32 = .ok (.dup, 1) := by decide +kernel
theorem dX7_pass_33 : decode cX7_pass 33 = .ok (.getfield 243, 3) := by decide +kernel
theorem dX7_pass_36 : decode cX7_pass 36 = .ok (.iload_n 1, 1) := by decide +kernel
theorem dX7_pass_37 : decode cX7_pass 37 = .ok (.iadd, 1) := by decide +kernel
theorem dX7_pass_38 : decode cX7_pass 38 = .ok (.putfield 243, 3) := by decide +kernel
theorem dX7_pass_41 : decode cX7_pass 41 = .ok (.aload_n 0, 1) := by decide +kernel
theorem dX7_pass_42 : decode cX7_pass 42 = .ok (.getfield 243, 3) := by decide +kernel
theorem dX7_pass_45 : decode cX7_pass 45 = .ok (.ireturn, 1) := by decide +kernel
theorem dX7_watch_0 : decode cX7_watch 0 = .ok (.iload_n 1, 1) := by decide +kernel
theorem dX7_watch_1 : decode cX7_watch 1 = .ok (.iconst 0, 1) := by decide +kernel
theorem dX7_watch_2 : decode cX7_watch 2 = .ok (.bipush 7, 2) := by decide +kernel
theorem dX7_watch_4 : decode cX7_watch 4 = .ok (.invokestatic 107, 3) := by decide +kernel
theorem dX7_watch_7 : decode cX7_watch 7 = .ok (.iload_n 2, 1) := by decide +kernel
theorem dX7_watch_8 : decode cX7_watch 8 = .ok (.iconst 0, 1) := by decide +kernel
theorem dX7_watch_9 : decode cX7_watch 9 = .ok (.bipush 7, 2) := by decide +kernel
theorem dX7_watch_11 : decode cX7_watch 11 = .ok (.invokestatic 107, 3) := by decide +kernel
theorem dX7_watch_14 : decode cX7_watch 14 = .ok (.aload_n 0, 1) := by decide +kernel
theorem dX7_watch_15 : decode cX7_watch 15 = .ok (.iload_n 1, 1) := by decide +kernel
theorem dX7_watch_16 : decode cX7_watch 16 = .ok (.putfield 69, 3) := by decide +kernel
theorem dX7_watch_19 : decode cX7_watch 19 = .ok (.aload_n 0, 1) := by decide +kernel
theorem dX7_watch_20 : decode cX7_watch 20 = .ok (.iload_n 2, 1) := by decide +kernel
theorem dX7_watch_21 : decode cX7_watch 21 = .ok (.putfield 73, 3) := by decide +kernel
theorem dX7_watch_24 : decode cX7_watch 24 = .ok (.return_, 1) := by decide +kernel
theorem dX7_entries_0 : decode cX7_entries 0 = .ok (.aload_n 0, 1) := by decide +kernel
theorem dX7_entries_1 : decode cX7_entries 1 = .ok (.getfield 26, 3) := by decide +kernel
theorem dX7_entries_4 : decode cX7_entries 4 = .ok (.getfield 276, 3) := by decide +kernel
theorem dX7_entries_7 : decode cX7_entries 7 = .ok (.ireturn, 1) := by decide +kernel
theorem dX7_lost_0 : decode cX7_lost 0 = .ok (.aload_n 0, 1) := by decide +kernel
theorem dX7_lost_1 : decode cX7_lost 1 = .ok (.getfield 26, 3) := by decide +kernel
theorem dX7_lost_4 : decode cX7_lost 4 = .ok (.getfield 279, 3) := by decide +kernel
theorem dX7_lost_7 : decode cX7_lost 7 = .ok (.ireturn, 1) := by decide +kernel
theorem dX7_logged_0 : decode cX7_logged 0 = .ok (.iload_n 1, 1) := by decide +kernel
theorem dX7_logged_1 : decode cX7_logged 1 = .ok (.aload_n 0, 1) := by decide +kernel
theorem dX7_logged_2 : decode cX7_logged 2 = .ok (.getfield 26, 3) := by decide +kernel
theorem dX7_logged_5 : decode cX7_logged 5 = .ok (.getfield 276, 3) := by decide +kernel
theorem dX7_logged_8 : decode cX7_logged 8 = .ok (.invokestatic 76, 3) := by decide +kernel
theorem dX7_logged_11 : decode cX7_logged 11 = .ok (.iload_n 2, 1) := by decide +kernel
theorem dX7_logged_12 : decode cX7_logged 12 = .ok (.iconst 0, 1) := by decide +kernel
theorem dX7_logged_13 : decode cX7_logged 13 = .ok (.iconst 4, 1) := by decide +kernel
theorem dX7_logged_14 : decode cX7_logged 14 = .ok (.invokestatic 107, 3) := by decide +kernel
theorem dX7_logged_17 : decode cX7_logged 17 = .ok (.aload_n 0, 1) := by decide +kernel
theorem dX7_logged_18 : decode cX7_logged 18 = .ok (.getfield 26, 3) := by decide +kernel
theorem dX7_logged_21 : decode cX7_logged 21 = .ok (.iload_n 1, 1) := by decide +kernel
theorem dX7_logged_22 : decode cX7_logged 22 = .ok (.iload_n 2, 1) := by decide +kernel
theorem dX7_logged_23 : decode cX7_logged 23 = .ok (.invokevirtual 282, 3) := by decide +kernel
theorem dX7_logged_26 : decode cX7_logged 26 = .ok (.ireturn, 1) := by decide +kernel
theorem dX7_forge_0 : decode cX7_forge 0 = .ok (.iload_n 1, 1) := by decide +kernel
theorem dX7_forge_1 : decode cX7_forge 1 = .ok (.aload_n 0, 1) := by decide +kernel
theorem dX7_forge_2 : decode cX7_forge 2 = .ok (.getfield 26, 3) := by decide +kernel
theorem dX7_forge_5 : decode cX7_forge 5 = .ok (.getfield 276, 3) := by decide +kernel
theorem dX7_forge_8 : decode cX7_forge 8 = .ok (.invokestatic 76, 3) := by decide +kernel
theorem dX7_forge_11 : decode cX7_forge 11 = .ok (.iload_n 2, 1) := by decide +kernel
theorem dX7_forge_12 : decode cX7_forge 12 = .ok (.iconst 0, 1) := by decide +kernel
theorem dX7_forge_13 : decode cX7_forge 13 = .ok (.iconst 5, 1) := by decide +kernel
theorem dX7_forge_14 : decode cX7_forge 14 = .ok (.invokestatic 107, 3) := by decide +kernel
theorem dX7_forge_17 : decode cX7_forge 17 = .ok (.aload_n 0, 1) := by decide +kernel
theorem dX7_forge_18 : decode cX7_forge 18 = .ok (.getfield 26, 3) := by decide +kernel
theorem dX7_forge_21 : decode cX7_forge 21 = .ok (.iload_n 1, 1) := by decide +kernel
theorem dX7_forge_22 : decode cX7_forge 22 = .ok (.iconst 4, 1) := by decide +kernel
theorem dX7_forge_23 : decode cX7_forge 23 = .ok (.invokevirtual 282, 3) := by decide +kernel
theorem dX7_forge_26 : decode cX7_forge 26 = .ok (.istore_n 3, 1) := by decide +kernel
theorem dX7_forge_27 : decode cX7_forge 27 = .ok (.aload_n 0, 1) := by decide +kernel
theorem dX7_forge_28 : decode cX7_forge 28 = .ok (.getfield 26, 3) := by decide +kernel
theorem dX7_forge_31 : decode cX7_forge 31 = .ok (.iload_n 1, 1) := by decide +kernel
theorem dX7_forge_32 : decode cX7_forge 32 = .ok (.iconst 4, 1) := by decide +kernel
theorem dX7_forge_33 : decode cX7_forge 33 = .ok (.iload_n 2, 1) := by decide +kernel
theorem dX7_forge_34 : decode cX7_forge 34 = .ok (.invokevirtual 285, 3) := by decide +kernel
theorem dX7_forge_37 : decode cX7_forge 37 = .ok (.iload_n 3, 1) := by decide +kernel
theorem dX7_forge_38 : decode cX7_forge 38 = .ok (.ireturn, 1) := by decide +kernel
theorem dX7_broken_0 : decode cX7_broken 0 = .ok (.aload_n 0, 1) := by decide +kernel
theorem dX7_broken_1 : decode cX7_broken 1 = .ok (.getfield 26, 3) := by decide +kernel
theorem dX7_broken_4 : decode cX7_broken 4 = .ok (.invokevirtual 288, 3) := by decide +kernel
theorem dX7_broken_7 : decode cX7_broken 7 = .ok (.ireturn, 1) := by decide +kernel
theorem dX7_verdict_0 : decode cX7_verdict 0 = .ok (.aload_n 0, 1) := by decide +kernel
theorem dX7_verdict_1 : decode cX7_verdict 1 = .ok (.iload_n 1, 1) := by decide +kernel
theorem dX7_verdict_2 : decode cX7_verdict 2 = .ok (.invokevirtual 133, 3) := by decide +kernel
theorem dX7_verdict_5 : decode cX7_verdict 5 = .ok (.astore 4, 2) := by decide +kernel
theorem dX7_verdict_7 : decode cX7_verdict 7 = .ok (.aload_n 0, 1) := by decide +kernel
theorem dX7_verdict_8 : decode cX7_verdict 8 = .ok (.iload_n 2, 1) := by decide +kernel
theorem dX7_verdict_9 : decode cX7_verdict 9 = .ok (.invokevirtual 103, 3) := by decide +kernel
theorem dX7_verdict_12 : decode cX7_verdict 12 = .ok (.astore 5, 2) := by decide +kernel
theorem dX7_verdict_14 : decode cX7_verdict 14 = .ok (.iload_n 3, 1) := by decide +kernel
theorem dX7_verdict_15 : decode cX7_verdict 15 = .ok (.invokestatic 214, 3) := by decide +kernel
theorem dX7_verdict_18 : decode cX7_verdict 18 = .ok (.aload_n 0, 1) := by decide +kernel
theorem dX7_verdict_19 : decode cX7_verdict 19 = .ok (.aload 4, 2) := by decide +kernel
theorem dX7_verdict_21 : decode cX7_verdict 21 = .ok (.aload 5, 2) := by decide +kernel
theorem dX7_verdict_23 : decode cX7_verdict 23 = .ok (.iload_n 3, 1) := by decide +kernel
theorem dX7_verdict_24 : decode cX7_verdict 24 = .ok (.invokevirtual 217, 3) := by decide +kernel
theorem dX7_verdict_27 : decode cX7_verdict 27 = .ok (.ireturn, 1) := by decide +kernel
theorem dX7_verdictAnew_0 : decode cX7_verdictAnew 0 = .ok (.aload_n 0, 1) := by decide +kernel
theorem dX7_verdictAnew_1 : decode cX7_verdictAnew 1 = .ok (.iload_n 1, 1) := by decide +kernel
theorem dX7_verdictAnew_2 : decode cX7_verdictAnew 2 = .ok (.invokevirtual 133, 3) := by decide +kernel
theorem dX7_verdictAnew_5 : decode cX7_verdictAnew 5 = .ok (.astore 4, 2) := by decide +kernel
theorem dX7_verdictAnew_7 : decode cX7_verdictAnew 7 = .ok (.aload_n 0, 1) := by decide +kernel
theorem dX7_verdictAnew_8 : decode cX7_verdictAnew 8 = .ok (.iload_n 2, 1) := by decide +kernel
theorem dX7_verdictAnew_9 : decode cX7_verdictAnew 9 = .ok (.invokevirtual 103, 3) := by decide +kernel
theorem dX7_verdictAnew_12 : decode cX7_verdictAnew 12 = .ok (.astore 5, 2) := by decide +kernel
theorem dX7_verdictAnew_14 : decode cX7_verdictAnew 14 = .ok (.iload_n 3, 1) := by decide +kernel
theorem dX7_verdictAnew_15 : decode cX7_verdictAnew 15 = .ok (.invokestatic 214, 3) := by decide +kernel
theorem dX7_verdictAnew_18 : decode cX7_verdictAnew 18 = .ok (.aload_n 0, 1) := by decide +kernel
theorem dX7_verdictAnew_19 : decode cX7_verdictAnew 19 = .ok (.getfield 12, 3) := by decide +kernel
theorem dX7_verdictAnew_22 : decode cX7_verdictAnew 22 = .ok (.invokevirtual 292, 3) := by decide +kernel
theorem dX7_verdictAnew_25 : decode cX7_verdictAnew 25 = .ok (.aload_n 0, 1) := by decide +kernel
theorem dX7_verdictAnew_26 : decode cX7_verdictAnew 26 = .ok (.aload 4, 2) := by decide +kernel
theorem dX7_verdictAnew_28 : decode cX7_verdictAnew 28 = .ok (.aload 5, 2) := by decide +kernel
theorem dX7_verdictAnew_30 : decode cX7_verdictAnew 30 = .ok (.iload_n 3, 1) := by decide +kernel
theorem dX7_verdictAnew_31 : decode cX7_verdictAnew 31 = .ok (.invokevirtual 295, 3) := by decide +kernel
theorem dX7_verdictAnew_34 : decode cX7_verdictAnew 34 = .ok (.ireturn, 1) := by decide +kernel
theorem dX7_reach_0 : decode cX7_reach 0 = .ok (.aload_n 0, 1) := by decide +kernel
theorem dX7_reach_1 : decode cX7_reach 1 = .ok (.iload_n 1, 1) := by decide +kernel
theorem dX7_reach_2 : decode cX7_reach 2 = .ok (.invokevirtual 133, 3) := by decide +kernel
theorem dX7_reach_5 : decode cX7_reach 5 = .ok (.astore 4, 2) := by decide +kernel
theorem dX7_reach_7 : decode cX7_reach 7 = .ok (.aload_n 0, 1) := by decide +kernel
theorem dX7_reach_8 : decode cX7_reach 8 = .ok (.iload_n 2, 1) := by decide +kernel
theorem dX7_reach_9 : decode cX7_reach 9 = .ok (.invokevirtual 103, 3) := by decide +kernel
theorem dX7_reach_12 : decode cX7_reach 12 = .ok (.astore 5, 2) := by decide +kernel
theorem dX7_reach_14 : decode cX7_reach 14 = .ok (.iload_n 3, 1) := by decide +kernel
theorem dX7_reach_15 : decode cX7_reach 15 = .ok (.invokestatic 214, 3) := by decide +kernel
theorem dX7_reach_18 : decode cX7_reach 18 = .ok (.aload_n 0, 1) := by decide +kernel
theorem dX7_reach_19 : decode cX7_reach 19 = .ok (.aload 4, 2) := by decide +kernel
theorem dX7_reach_21 : decode cX7_reach 21 = .ok (.aload 5, 2) := by decide +kernel
theorem dX7_reach_23 : decode cX7_reach 23 = .ok (.iload_n 3, 1) := by decide +kernel
theorem dX7_reach_24 : decode cX7_reach 24 = .ok (.invokevirtual 298, 3) := by decide +kernel
theorem dX7_reach_27 : decode cX7_reach 27 = .ok (.ireturn, 1) := by decide +kernel
theorem dX7_reachAnew_0 : decode cX7_reachAnew 0 = .ok (.aload_n 0, 1) := by decide +kernel
theorem dX7_reachAnew_1 : decode cX7_reachAnew 1 = .ok (.iload_n 1, 1) := by decide +kernel
theorem dX7_reachAnew_2 : decode cX7_reachAnew 2 = .ok (.invokevirtual 133, 3) := by decide +kernel
theorem dX7_reachAnew_5 : decode cX7_reachAnew 5 = .ok (.astore 4, 2) := by decide +kernel
theorem dX7_reachAnew_7 : decode cX7_reachAnew 7 = .ok (.aload_n 0, 1) := by decide +kernel
theorem dX7_reachAnew_8 : decode cX7_reachAnew 8 = .ok (.iload_n 2, 1) := by decide +kernel
theorem dX7_reachAnew_9 : decode cX7_reachAnew 9 = .ok (.invokevirtual 103, 3) := by decide +kernel
theorem dX7_reachAnew_12 : decode cX7_reachAnew 12 = .ok (.astore 5, 2) := by decide +kernel
theorem dX7_reachAnew_14 : decode cX7_reachAnew 14 = .ok (.iload_n 3, 1) := by decide +kernel
theorem dX7_reachAnew_15 : decode cX7_reachAnew 15 = .ok (.invokestatic 214, 3) := by decide +kernel
theorem dX7_reachAnew_18 : decode cX7_reachAnew 18 = .ok (.aload_n 0, 1) := by decide +kernel
theorem dX7_reachAnew_19 : decode cX7_reachAnew 19 = .ok (.getfield 12, 3) := by decide +kernel
theorem dX7_reachAnew_22 : decode cX7_reachAnew 22 = .ok (.invokevirtual 292, 3) := by decide +kernel
theorem dX7_reachAnew_25 : decode cX7_reachAnew 25 = .ok (.aload_n 0, 1) := by decide +kernel
theorem dX7_reachAnew_26 : decode cX7_reachAnew 26 = .ok (.getfield 51, 3) := by decide +kernel
theorem dX7_reachAnew_29 : decode cX7_reachAnew 29 = .ok (.iconst 0, 1) := by decide +kernel
theorem dX7_reachAnew_30 : decode cX7_reachAnew 30 = .ok (.aaload, 1) := by decide +kernel
theorem dX7_reachAnew_31 : decode cX7_reachAnew 31 = .ok (.aload 4, 2) := by decide +kernel
theorem dX7_reachAnew_33 : decode cX7_reachAnew 33 = .ok (.invokevirtual 301, 3) := by decide +kernel
theorem dX7_reachAnew_36 : decode cX7_reachAnew 36 = .ok (.aload_n 0, 1) := by decide +kernel
theorem dX7_reachAnew_37 : decode cX7_reachAnew 37 = .ok (.iconst 0, 1) := by decide +kernel
theorem dX7_reachAnew_38 : decode cX7_reachAnew 38 = .ok (.aload 5, 2) := by decide +kernel
theorem dX7_reachAnew_40 : decode cX7_reachAnew 40 = .ok (.iload_n 3, 1) := by decide +kernel
theorem dX7_reachAnew_41 : decode cX7_reachAnew 41 = .ok (.invokevirtual 305, 3) := by decide +kernel
theorem dX7_reachAnew_44 : decode cX7_reachAnew 44 = .ok (.ireturn, 1) := by decide +kernel
theorem dX7_least_0 : decode cX7_least 0 = .ok (.iload_n 1, 1) := by decide +kernel
theorem dX7_least_1 : decode cX7_least 1 = .ok (.bipush 6, 2) := by decide +kernel
theorem dX7_least_3 : decode cX7_least 3 = .ok (.invokestatic 76, 3) := by decide +kernel
theorem dX7_least_6 : decode cX7_least 6 = .ok (.aload_n 0, 1) := by decide +kernel
theorem dX7_least_7 : decode cX7_least 7 = .ok (.iload_n 2, 1) := by decide +kernel
theorem dX7_least_8 : decode cX7_least 8 = .ok (.invokevirtual 103, 3) := by decide +kernel
theorem dX7_least_11 : decode cX7_least 11 = .ok (.astore 4, 2) := by decide +kernel
theorem dX7_least_13 : decode cX7_least 13 = .ok (.iload_n 3, 1) := by decide +kernel
theorem dX7_least_14 : decode cX7_least 14 = .ok (.invokestatic 214, 3) := by decide +kernel
theorem dX7_least_17 : decode cX7_least 17 = .ok (.aload 4, 2) := by decide +kernel
theorem dX7_least_19 : decode cX7_least 19 = .ok (.iload_n 1, 1) := by decide +kernel
theorem dX7_least_20 : decode cX7_least 20 = .ok (.aload_n 0, 1) := by decide +kernel
theorem dX7_least_21 : decode cX7_least 21 = .ok (.getfield 12, 3) := by decide +kernel
theorem dX7_least_24 : decode cX7_least 24 = .ok (.iload_n 1, 1) := by decide +kernel
theorem dX7_least_25 : decode cX7_least 25 = .ok (.invokevirtual 99, 3) := by decide +kernel
theorem dX7_least_28 : decode cX7_least 28 = .ok (.iload_n 3, 1) := by decide +kernel
theorem dX7_least_29 : decode cX7_least 29 = .ok (.invokevirtual 309, 3) := by decide +kernel
theorem dX7_least_32 : decode cX7_least 32 = .ok (.ireturn, 1) := by decide +kernel
theorem dX7_leastAnew_0 : decode cX7_leastAnew 0 = .ok (.iload_n 1, 1) := by decide +kernel
theorem dX7_leastAnew_1 : decode cX7_leastAnew 1 = .ok (.bipush 6, 2) := by decide +kernel
theorem dX7_leastAnew_3 : decode cX7_leastAnew 3 = .ok (.invokestatic 76, 3) := by decide +kernel
theorem dX7_leastAnew_6 : decode cX7_leastAnew 6 = .ok (.aload_n 0, 1) := by decide +kernel
theorem dX7_leastAnew_7 : decode cX7_leastAnew 7 = .ok (.iload_n 2, 1) := by decide +kernel
theorem dX7_leastAnew_8 : decode cX7_leastAnew 8 = .ok (.invokevirtual 103, 3) := by decide +kernel
theorem dX7_leastAnew_11 : decode cX7_leastAnew 11 = .ok (.astore 4, 2) := by decide +kernel
theorem dX7_leastAnew_13 : decode cX7_leastAnew 13 = .ok (.iload_n 3, 1) := by decide +kernel
theorem dX7_leastAnew_14 : decode cX7_leastAnew 14 = .ok (.invokestatic 214, 3) := by decide +kernel
theorem dX7_leastAnew_17 : decode cX7_leastAnew 17 = .ok (.aload_n 0, 1) := by decide +kernel
theorem dX7_leastAnew_18 : decode cX7_leastAnew 18 = .ok (.getfield 12, 3) := by decide +kernel
theorem dX7_leastAnew_21 : decode cX7_leastAnew 21 = .ok (.invokevirtual 292, 3) := by decide +kernel
theorem dX7_leastAnew_24 : decode cX7_leastAnew 24 = .ok (.aload_n 0, 1) := by decide +kernel
theorem dX7_leastAnew_25 : decode cX7_leastAnew 25 = .ok (.aload 4, 2) := by decide +kernel
theorem dX7_leastAnew_27 : decode cX7_leastAnew 27 = .ok (.iload_n 1, 1) := by decide +kernel
theorem dX7_leastAnew_28 : decode cX7_leastAnew 28 = .ok (.iload_n 3, 1) := by decide +kernel
theorem dX7_leastAnew_29 : decode cX7_leastAnew 29 = .ok (.invokevirtual 313, 3) := by decide +kernel
theorem dX7_leastAnew_32 : decode cX7_leastAnew 32 = .ok (.ireturn, 1) := by decide +kernel
theorem dX7_needPlace_0 : decode cX7_needPlace 0 = .ok (.iload_n 0, 1) := by decide +kernel
theorem dX7_needPlace_1 : decode cX7_needPlace 1 = .ok (.ifCond .lt 8, 3) := by decide +kernel
theorem dX7_needPlace_4 : decode cX7_needPlace 4 = .ok (.iload_n 0, 1) := by decide +kernel
theorem dX7_needPlace_5 : decode cX7_needPlace 5 = .ok (.iload_n 1, 1) := by decide +kernel
theorem dX7_needPlace_6 : decode cX7_needPlace 6 = .ok (.if_icmp .lt 14, 3) := by decide +kernel
theorem dX7_needPlace_9 : decode cX7_needPlace 9 = .ok (.new 317, 3) := by decide +kernel
theorem dX7_needPlace_12 : decode cX7_needPlace 12 = .ok (.dup, 1) := by decide +kernel
theorem dX7_needPlace_13 : decode cX7_needPlace 13 = .ok (.ldc_w 319, 3) := by decide +kernel
theorem dX7_needPlace_16 : decode cX7_needPlace 16 = .ok (.invokespecial 321, 3) := by decide +kernel
theorem dX7_needPlace_19 : decode cX7_needPlace 19 = .ok (.athrow, 1) := by decide +kernel
theorem dX7_needPlace_20 : decode cX7_needPlace 20 = .ok (.return_, 1) := by decide +kernel
theorem dX7_needRange_0 : decode cX7_needRange 0 = .ok (.iload_n 0, 1) := by decide +kernel
theorem dX7_needRange_1 : decode cX7_needRange 1 = .ok (.iload_n 1, 1) := by decide +kernel
theorem dX7_needRange_2 : decode cX7_needRange 2 = .ok (.if_icmp .lt 8, 3) := by decide +kernel
theorem dX7_needRange_5 : decode cX7_needRange 5 = .ok (.iload_n 0, 1) := by decide +kernel
theorem dX7_needRange_6 : decode cX7_needRange 6 = .ok (.iload_n 2, 1) := by decide +kernel
theorem dX7_needRange_7 : decode cX7_needRange 7 = .ok (.if_icmp .le 14, 3) := by decide +kernel
theorem dX7_needRange_10 : decode cX7_needRange 10 = .ok (.new 322, 3) := by decide +kernel
theorem dX7_needRange_13 : decode cX7_needRange 13 = .ok (.dup, 1) := by decide +kernel
theorem dX7_needRange_14 : decode cX7_needRange 14 = .ok (.ldc_w 324, 3) := by decide +kernel
theorem dX7_needRange_17 : decode cX7_needRange 17 = .ok (.invokespecial 326, 3) := by decide +kernel
theorem dX7_needRange_20 : decode cX7_needRange 20 = .ok (.athrow, 1) := by decide +kernel
theorem dX7_needRange_21 : decode cX7_needRange 21 = .ok (.return_, 1) := by decide +kernel
theorem dX7_needSubset_0 : decode cX7_needSubset 0 = .ok (.iload_n 0, 1) := by decide +kernel
theorem dX7_needSubset_1 : decode cX7_needSubset 1 = .ok (.iload_n 1, 1) := by decide +kernel
theorem dX7_needSubset_2 : decode cX7_needSubset 2 = .ok (.iconst (-1), 1) := by decide +kernel
theorem dX7_needSubset_3 : decode cX7_needSubset 3 = .ok (.ixor, 1) := by decide +kernel
theorem dX7_needSubset_4 : decode cX7_needSubset 4 = .ok (.iand, 1) := by decide +kernel
theorem dX7_needSubset_5 : decode cX7_needSubset 5 = .ok (.ifCond .eq 14, 3) := by decide +kernel
theorem dX7_needSubset_8 : decode cX7_needSubset 8 = .ok (.new 322, 3) := by decide +kernel
theorem dX7_needSubset_11 : decode cX7_needSubset 11 = .ok (.dup, 1) := by decide +kernel
theorem dX7_needSubset_12 : decode cX7_needSubset 12 = .ok (.ldc_w 327, 3) := by decide +kernel
theorem dX7_needSubset_15 : decode cX7_needSubset 15 = .ok (.invokespecial 326, 3) := by decide +kernel
theorem dX7_needSubset_18 : decode cX7_needSubset 18 = .ok (.athrow, 1) := by decide +kernel
theorem dX7_needSubset_19 : decode cX7_needSubset 19 = .ok (.return_, 1) := by decide +kernel
theorem dX7_needRight_0 : decode cX7_needRight 0 = .ok (.iload_n 0, 1) := by decide +kernel
theorem dX7_needRight_1 : decode cX7_needRight 1 = .ok (.iconst 1, 1) := by decide +kernel
theorem dX7_needRight_2 : decode cX7_needRight 2 = .ok (.if_icmp .eq 24, 3) := by decide +kernel
theorem dX7_needRight_5 : decode cX7_needRight 5 = .ok (.iload_n 0, 1) := by decide +kernel
theorem dX7_needRight_6 : decode cX7_needRight 6 = .ok (.iconst 2, 1) := by decide +kernel
theorem dX7_needRight_7 : decode cX7_needRight 7 = .ok (.if_icmp .eq 19, 3) := by decide +kernel
theorem dX7_needRight_10 : decode cX7_needRight 10 = .ok (.iload_n 0, 1) := by decide +kernel
theorem dX7_needRight_11 : decode cX7_needRight 11 = .ok (.iconst 4, 1) := by decide +kernel
theorem dX7_needRight_12 : decode cX7_needRight 12 = .ok (.if_icmp .eq 14, 3) := by decide +kernel
theorem dX7_needRight_15 : decode cX7_needRight 15 = .ok (.new 322, 3) := by decide +kernel
theorem dX7_needRight_18 : decode cX7_needRight 18 = .ok (.dup, 1) := by decide +kernel
theorem dX7_needRight_19 : decode cX7_needRight 19 = .ok (.ldc_w 329, 3) := by decide +kernel
theorem dX7_needRight_22 : decode cX7_needRight 22 = .ok (.invokespecial 326, 3) := by decide +kernel
theorem dX7_needRight_25 : decode cX7_needRight 25 = .ok (.athrow, 1) := by decide +kernel
theorem dX7_needRight_26 : decode cX7_needRight 26 = .ok (.return_, 1) := by decide +kernel
theorem dX7_needPower_0 : decode cX7_needPower 0 = .ok (.iload_n 0, 1) := by decide +kernel
theorem dX7_needPower_1 : decode cX7_needPower 1 = .ok (.ifCond .ne 14, 3) := by decide +kernel
theorem dX7_needPower_4 : decode cX7_needPower 4 = .ok (.new 331, 3) := by decide +kernel
theorem dX7_needPower_7 : decode cX7_needPower 7 = .ok (.dup, 1) := by decide +kernel
theorem dX7_needPower_8 : decode cX7_needPower 8 = .ok (.ldc_w 333, 3) := by decide +kernel
theorem dX7_needPower_11 : decode cX7_needPower 11 = .ok (.invokespecial 335, 3) := by decide +kernel
theorem dX7_needPower_14 : decode cX7_needPower 14 = .ok (.athrow, 1) := by decide +kernel
theorem dX7_needPower_15 : decode cX7_needPower 15 = .ok (.return_, 1) := by decide +kernel
theorem dX7_needRoom_0 : decode cX7_needRoom 0 = .ok (.iload_n 0, 1) := by decide +kernel
theorem dX7_needRoom_1 : decode cX7_needRoom 1 = .ok (.iload_n 1, 1) := by decide +kernel
theorem dX7_needRoom_2 : decode cX7_needRoom 2 = .ok (.if_icmp .lt 14, 3) := by decide +kernel
theorem dX7_needRoom_5 : decode cX7_needRoom 5 = .ok (.new 84, 3) := by decide +kernel
theorem dX7_needRoom_8 : decode cX7_needRoom 8 = .ok (.dup, 1) := by decide +kernel
theorem dX7_needRoom_9 : decode cX7_needRoom 9 = .ok (.ldc_w 336, 3) := by decide +kernel
theorem dX7_needRoom_12 : decode cX7_needRoom 12 = .ok (.invokespecial 88, 3) := by decide +kernel
theorem dX7_needRoom_15 : decode cX7_needRoom 15 = .ok (.athrow, 1) := by decide +kernel
theorem dX7_needRoom_16 : decode cX7_needRoom 16 = .ok (.return_, 1) := by decide +kernel
theorem dX7_needThing_0 : decode cX7_needThing 0 = .ok (.iload_n 1, 1) := by decide +kernel
theorem dX7_needThing_1 : decode cX7_needThing 1 = .ok (.aload_n 0, 1) := by decide +kernel
theorem dX7_needThing_2 : decode cX7_needThing 2 = .ok (.getfield 111, 3) := by decide +kernel
theorem dX7_needThing_5 : decode cX7_needThing 5 = .ok (.invokestatic 76, 3) := by decide +kernel
theorem dX7_needThing_8 : decode cX7_needThing 8 = .ok (.aload_n 0, 1) := by decide +kernel
theorem dX7_needThing_9 : decode cX7_needThing 9 = .ok (.getfield 32, 3) := by decide +kernel
theorem dX7_needThing_12 : decode cX7_needThing 12 = .ok (.iload_n 1, 1) := by decide +kernel
theorem dX7_needThing_13 : decode cX7_needThing 13 = .ok (.aaload, 1) := by decide +kernel
theorem dX7_needThing_14 : decode cX7_needThing 14 = .ok (.areturn, 1) := by decide +kernel
theorem dX7_needActor_0 : decode cX7_needActor 0 = .ok (.iload_n 1, 1) := by decide +kernel
theorem dX7_needActor_1 : decode cX7_needActor 1 = .ok (.aload_n 0, 1) := by decide +kernel
theorem dX7_needActor_2 : decode cX7_needActor 2 = .ok (.getfield 189, 3) := by decide +kernel
theorem dX7_needActor_5 : decode cX7_needActor 5 = .ok (.invokestatic 76, 3) := by decide +kernel
theorem dX7_needActor_8 : decode cX7_needActor 8 = .ok (.aload_n 0, 1) := by decide +kernel
theorem dX7_needActor_9 : decode cX7_needActor 9 = .ok (.getfield 39, 3) := by decide +kernel
theorem dX7_needActor_12 : decode cX7_needActor 12 = .ok (.iload_n 1, 1) := by decide +kernel
theorem dX7_needActor_13 : decode cX7_needActor 13 = .ok (.aaload, 1) := by decide +kernel
theorem dX7_needActor_14 : decode cX7_needActor 14 = .ok (.areturn, 1) := by decide +kernel
theorem dX7_needToken_0 : decode cX7_needToken 0 = .ok (.iload_n 1, 1) := by decide +kernel
theorem dX7_needToken_1 : decode cX7_needToken 1 = .ok (.aload_n 0, 1) := by decide +kernel
theorem dX7_needToken_2 : decode cX7_needToken 2 = .ok (.getfield 246, 3) := by decide +kernel
theorem dX7_needToken_5 : decode cX7_needToken 5 = .ok (.invokestatic 76, 3) := by decide +kernel
theorem dX7_needToken_8 : decode cX7_needToken 8 = .ok (.aload_n 0, 1) := by decide +kernel
theorem dX7_needToken_9 : decode cX7_needToken 9 = .ok (.getfield 46, 3) := by decide +kernel
theorem dX7_needToken_12 : decode cX7_needToken 12 = .ok (.iload_n 1, 1) := by decide +kernel
theorem dX7_needToken_13 : decode cX7_needToken 13 = .ok (.aaload, 1) := by decide +kernel
theorem dX7_needToken_14 : decode cX7_needToken 14 = .ok (.areturn, 1) := by decide +kernel
theorem dX7_mayChange_0 : decode cX7_mayChange 0 = .ok (.aload_n 0, 1) := by decide +kernel
theorem dX7_mayChange_1 : decode cX7_mayChange 1 = .ok (.getfield 192, 3) := by decide +kernel
theorem dX7_mayChange_4 : decode cX7_mayChange 4 = .ok (.aload_n 1, 1) := by decide +kernel
theorem dX7_mayChange_5 : decode cX7_mayChange 5 = .ok (.getfield 117, 3) := by decide +kernel
theorem dX7_mayChange_8 : decode cX7_mayChange 8 = .ok (.if_icmp .eq 11, 3) := by decide +kernel
theorem dX7_mayChange_11 : decode cX7_mayChange 11 = .ok (.aload_n 0, 1) := by decide +kernel
theorem dX7_mayChange_12 : decode cX7_mayChange 12 = .ok (.iconst 2, 1) := by decide +kernel
theorem dX7_mayChange_13 : decode cX7_mayChange 13 = .ok (.invokevirtual 158, 3) := by decide +kernel
theorem dX7_mayChange_16 : decode cX7_mayChange 16 = .ok (.ifCond .eq 7, 3) := by decide +kernel
theorem dX7_mayChange_19 : decode cX7_mayChange 19 = .ok (.iconst 1, 1) := by decide +kernel
theorem dX7_mayChange_20 : decode cX7_mayChange 20 = .ok (.goto 4, 3) := by decide +kernel
theorem dX7_mayChange_23 : decode cX7_mayChange 23 = .ok (.iconst 0, 1) := by decide +kernel
theorem dX7_mayChange_24 : decode cX7_mayChange 24 = .ok (.ireturn, 1) := by decide +kernel
theorem dX7_dominates_0 : decode cX7_dominates 0 = .ok (.iload_n 0, 1) := by decide +kernel
theorem dX7_dominates_1 : decode cX7_dominates 1 = .ok (.iload_n 2, 1) := by decide +kernel
theorem dX7_dominates_2 : decode cX7_dominates 2 = .ok (.if_icmp .lt 15, 3) := by decide +kernel
theorem dX7_dominates_5 : decode cX7_dominates 5 = .ok (.iload_n 3, 1) := by decide +kernel
theorem dX7_dominates_6 : decode cX7_dominates 6 = .ok (.iload_n 1, 1) := by decide +kernel
theorem dX7_dominates_7 : decode cX7_dominates 7 = .ok (.iconst (-1), 1) := by decide +kernel
theorem dX7_dominates_8 : decode cX7_dominates 8 = .ok (.ixor, 1) := by decide +kernel
theorem dX7_dominates_9 : decode cX7_dominates 9 = .ok (.iand, 1) := by decide +kernel
theorem dX7_dominates_10 : decode cX7_dominates 10 = .ok (.ifCond .ne 7, 3) := by decide +kernel
theorem dX7_dominates_13 : decode cX7_dominates 13 = .ok (.iconst 1, 1) := by decide +kernel
theorem dX7_dominates_14 : decode cX7_dominates 14 = .ok (.goto 4, 3) := by decide +kernel
theorem dX7_dominates_17 : decode cX7_dominates 17 = .ok (.iconst 0, 1) := by decide +kernel
theorem dX7_dominates_18 : decode cX7_dominates 18 = .ok (.ireturn, 1) := by decide +kernel
theorem dX7_judge_0 : decode cX7_judge 0 = .ok (.aload_n 1, 1) := by decide +kernel
theorem dX7_judge_1 : decode cX7_judge 1 = .ok (.iconst 1, 1) := by decide +kernel
theorem dX7_judge_2 : decode cX7_judge 2 = .ok (.invokevirtual 158, 3) := by decide +kernel
theorem dX7_judge_5 : decode cX7_judge 5 = .ok (.ifCond .eq 19, 3) := by decide +kernel
theorem dX7_judge_8 : decode cX7_judge 8 = .ok (.iload_n 3, 1) := by decide +kernel
theorem dX7_judge_9 : decode cX7_judge 9 = .ok (.iconst 4, 1) := by decide +kernel
theorem dX7_judge_10 : decode cX7_judge 10 = .ok (.if_icmp .ne 10, 3) := by decide +kernel
theorem dX7_judge_13 : decode cX7_judge 13 = .ok (.aload_n 2, 1) := by decide +kernel
theorem dX7_judge_14 : decode cX7_judge 14 = .ok (.invokevirtual 338, 3) := by decide +kernel
theorem dX7_judge_17 : decode cX7_judge 17 = .ok (.ifCond .eq 7, 3) := by decide +kernel
theorem dX7_judge_20 : decode cX7_judge 20 = .ok (.iconst 1, 1) := by decide +kernel
theorem dX7_judge_21 : decode cX7_judge 21 = .ok (.goto 4, 3) := by decide +kernel
theorem dX7_judge_24 : decode cX7_judge 24 = .ok (.iconst 0, 1) := by decide +kernel
theorem dX7_judge_25 : decode cX7_judge 25 = .ok (.istore 4, 2) := by decide +kernel
theorem dX7_judge_27 : decode cX7_judge 27 = .ok (.iload 4, 2) := by decide +kernel
theorem dX7_judge_29 : decode cX7_judge 29 = .ok (.ifCond .ne 28, 3) := by decide +kernel
theorem dX7_judge_32 : decode cX7_judge 32 = .ok (.aload_n 2, 1) := by decide +kernel
theorem dX7_judge_33 : decode cX7_judge 33 = .ok (.aload_n 1, 1) := by decide +kernel
theorem dX7_judge_34 : decode cX7_judge 34 = .ok (.getfield 192, 3) := by decide +kernel
theorem dX7_judge_37 : decode cX7_judge 37 = .ok (.aload_n 0, 1) := by decide +kernel
theorem dX7_judge_38 : decode cX7_judge 38 = .ok (.getfield 12, 3) := by decide +kernel
theorem dX7_judge_41 : decode cX7_judge 41 = .ok (.aload_n 1, 1) := by decide +kernel
theorem dX7_judge_42 : decode cX7_judge 42 = .ok (.getfield 192, 3) := by decide +kernel
theorem dX7_judge_45 : decode cX7_judge 45 = .ok (.invokevirtual 99, 3) := by decide +kernel
theorem dX7_judge_48 : decode cX7_judge 48 = .ok (.iload_n 3, 1) := by decide +kernel
theorem dX7_judge_49 : decode cX7_judge 49 = .ok (.invokevirtual 309, 3) := by decide +kernel
theorem dX7_judge_52 : decode cX7_judge 52 = .ok (.ifCond .ne 5, 3) := by decide +kernel
theorem dX7_judge_55 : decode cX7_judge 55 = .ok (.iconst 1, 1) := by decide +kernel
theorem dX7_judge_56 : decode cX7_judge 56 = .ok (.ireturn, 1) := by decide +kernel
theorem dX7_judge_57 : decode cX7_judge 57 = .ok (.aload_n 0, 1) := by decide +kernel
theorem dX7_judge_58 : decode cX7_judge 58 = .ok (.aload_n 1, 1) := by decide +kernel
theorem dX7_judge_59 : decode cX7_judge 59 = .ok (.aload_n 2, 1) := by decide +kernel
theorem dX7_judge_60 : decode cX7_judge 60 = .ok (.iload_n 3, 1) := by decide +kernel
theorem dX7_judge_61 : decode cX7_judge 61 = .ok (.aload_n 1, 1) := by decide +kernel
theorem dX7_judge_62 : decode cX7_judge 62 = .ok (.getfield 211, 3) := by decide +kernel
theorem dX7_judge_65 : decode cX7_judge 65 = .ok (.invokevirtual 342, 3) := by decide +kernel
theorem dX7_judge_68 : decode cX7_judge 68 = .ok (.ireturn, 1) := by decide +kernel
theorem dX7_judgeAnew_0 : decode cX7_judgeAnew 0 = .ok (.aload_n 1, 1) := by decide +kernel
theorem dX7_judgeAnew_1 : decode cX7_judgeAnew 1 = .ok (.iconst 1, 1) := by decide +kernel
theorem dX7_judgeAnew_2 : decode cX7_judgeAnew 2 = .ok (.invokevirtual 158, 3) := by decide +kernel
theorem dX7_judgeAnew_5 : decode cX7_judgeAnew 5 = .ok (.ifCond .eq 19, 3) := by decide +kernel
theorem dX7_judgeAnew_8 : decode cX7_judgeAnew 8 = .ok (.iload_n 3, 1) := by decide +kernel
theorem dX7_judgeAnew_9 : decode cX7_judgeAnew 9 = .ok (.iconst 4, 1) := by decide +kernel
theorem dX7_judgeAnew_10 : decode cX7_judgeAnew 10 = .ok (.if_icmp .ne 10, 3) := by decide +kernel
theorem dX7_judgeAnew_13 : decode cX7_judgeAnew 13 = .ok (.aload_n 2, 1) := by decide +kernel
theorem dX7_judgeAnew_14 : decode cX7_judgeAnew 14 = .ok (.invokevirtual 338, 3) := by decide +kernel
theorem dX7_judgeAnew_17 : decode cX7_judgeAnew 17 = .ok (.ifCond .eq 7, 3) := by decide +kernel
theorem dX7_judgeAnew_20 : decode cX7_judgeAnew 20 = .ok (.iconst 1, 1) := by decide +kernel
theorem dX7_judgeAnew_21 : decode cX7_judgeAnew 21 = .ok (.goto 4, 3) := by decide +kernel
theorem dX7_judgeAnew_24 : decode cX7_judgeAnew 24 = .ok (.iconst 0, 1) := by decide +kernel
theorem dX7_judgeAnew_25 : decode cX7_judgeAnew 25 = .ok (.istore 4, 2) := by decide +kernel
theorem dX7_judgeAnew_27 : decode cX7_judgeAnew 27 = .ok (.iload 4, 2) := by decide +kernel
theorem dX7_judgeAnew_29 : decode cX7_judgeAnew 29 = .ok (.ifCond .ne 28, 3) := by decide +kernel
theorem dX7_judgeAnew_32 : decode cX7_judgeAnew 32 = .ok (.aload_n 2, 1) := by decide +kernel
theorem dX7_judgeAnew_33 : decode cX7_judgeAnew 33 = .ok (.aload_n 1, 1) := by decide +kernel
theorem dX7_judgeAnew_34 : decode cX7_judgeAnew 34 = .ok (.getfield 192, 3) := by decide +kernel
theorem dX7_judgeAnew_37 : decode cX7_judgeAnew 37 = .ok (.aload_n 0, 1) := by decide +kernel
theorem dX7_judgeAnew_38 : decode cX7_judgeAnew 38 = .ok (.getfield 12, 3) := by decide +kernel
theorem dX7_judgeAnew_41 : decode cX7_judgeAnew 41 = .ok (.aload_n 1, 1) := by decide +kernel
theorem dX7_judgeAnew_42 : decode cX7_judgeAnew 42 = .ok (.getfield 192, 3) := by decide +kernel
theorem dX7_judgeAnew_45 : decode cX7_judgeAnew 45 = .ok (.invokevirtual 346, 3) := by decide +kernel
theorem dX7_judgeAnew_48 : decode cX7_judgeAnew 48 = .ok (.iload_n 3, 1) := by decide +kernel
theorem dX7_judgeAnew_49 : decode cX7_judgeAnew 49 = .ok (.invokevirtual 349, 3) := by decide +kernel
theorem dX7_judgeAnew_52 : decode cX7_judgeAnew 52 = .ok (.ifCond .ne 5, 3) := by decide +kernel
theorem dX7_judgeAnew_55 : decode cX7_judgeAnew 55 = .ok (.iconst 1, 1) := by decide +kernel
theorem dX7_judgeAnew_56 : decode cX7_judgeAnew 56 = .ok (.ireturn, 1) := by decide +kernel
theorem dX7_judgeAnew_57 : decode cX7_judgeAnew 57 = .ok (.aload_n 0, 1) := by decide +kernel
theorem dX7_judgeAnew_58 : decode cX7_judgeAnew 58 = .ok (.aload_n 1, 1) := by decide +kernel
theorem dX7_judgeAnew_59 : decode cX7_judgeAnew 59 = .ok (.aload_n 2, 1) := by decide +kernel
theorem dX7_judgeAnew_60 : decode cX7_judgeAnew 60 = .ok (.iload_n 3, 1) := by decide +kernel
theorem dX7_judgeAnew_61 : decode cX7_judgeAnew 61 = .ok (.aload_n 1, 1) := by decide +kernel
theorem dX7_judgeAnew_62 : decode cX7_judgeAnew 62 = .ok (.invokevirtual 353, 3) := by decide +kernel
theorem dX7_judgeAnew_65 : decode cX7_judgeAnew 65 = .ok (.invokevirtual 342, 3) := by decide +kernel
theorem dX7_judgeAnew_68 : decode cX7_judgeAnew 68 = .ok (.ireturn, 1) := by decide +kernel
theorem dX7_judgeBeyondModes_0 : decode cX7_judgeBeyondModes 0 = .ok (.iload_n 3, 1) := by decide +kernel
theorem dX7_judgeBeyondModes_1 : decode cX7_judgeBeyondModes 1 = .ok (.iconst 2, 1) := by decide +kernel
theorem dX7_judgeBeyondModes_2 : decode cX7_judgeBeyondModes 2 = .ok (.if_icmp .ne 25, 3) := by decide +kernel
theorem dX7_judgeBeyondModes_5 : decode cX7_judgeBeyondModes 5 = .ok (.aload_n 2, 1) := by decide +kernel
theorem dX7_judgeBeyondModes_6 : decode cX7_judgeBeyondModes 6 = .ok (.getfield 172, 3) := by decide +kernel
theorem dX7_judgeBeyondModes_9 : decode cX7_judgeBeyondModes 9 = .ok (.aload_n 2, 1) := by decide +kernel
theorem dX7_judgeBeyondModes_10 : decode cX7_judgeBeyondModes 10 = .ok (.getfield 173, 3) := by decide +kernel
theorem dX7_judgeBeyondModes_13 : decode cX7_judgeBeyondModes 13 = .ok (.aload_n 1, 1) := by decide +kernel
theorem dX7_judgeBeyondModes_14 : decode cX7_judgeBeyondModes 14 = .ok (.getfield 162, 3) := by decide +kernel
theorem dX7_judgeBeyondModes_17 : decode cX7_judgeBeyondModes 17 = .ok (.aload_n 1, 1) := by decide +kernel
theorem dX7_judgeBeyondModes_18 : decode cX7_judgeBeyondModes 18 = .ok (.getfield 165, 3) := by decide +kernel
theorem dX7_judgeBeyondModes_21 : decode cX7_judgeBeyondModes 21 = .ok (.invokestatic 168, 3) := by decide +kernel
theorem dX7_judgeBeyondModes_24 : decode cX7_judgeBeyondModes 24 = .ok (.goto 22, 3) := by decide +kernel
theorem dX7_judgeBeyondModes_27 : decode cX7_judgeBeyondModes 27 = .ok (.aload_n 1, 1) := by decide +kernel
theorem dX7_judgeBeyondModes_28 : decode cX7_judgeBeyondModes 28 = .ok (.getfield 162, 3) := by decide +kernel
theorem dX7_judgeBeyondModes_31 : decode cX7_judgeBeyondModes 31 = .ok (.aload_n 1, 1) := by decide +kernel
theorem dX7_judgeBeyondModes_32 : decode cX7_judgeBeyondModes 32 = .ok (.getfield 165, 3) := by decide +kernel
theorem dX7_judgeBeyondModes_35 : decode cX7_judgeBeyondModes 35 = .ok (.aload_n 2, 1) := by decide +kernel
theorem dX7_judgeBeyondModes_36 : decode cX7_judgeBeyondModes 36 = .ok (.getfield 172, 3) := by decide +kernel
theorem dX7_judgeBeyondModes_39 : decode cX7_judgeBeyondModes 39 = .ok (.aload_n 2, 1) := by decide +kernel
theorem dX7_judgeBeyondModes_40 : decode cX7_judgeBeyondModes 40 = .ok (.getfield 173, 3) := by decide +kernel
theorem dX7_judgeBeyondModes_43 : decode cX7_judgeBeyondModes 43 = .ok (.invokestatic 168, 3) := by decide +kernel
theorem dX7_judgeBeyondModes_46 : decode cX7_judgeBeyondModes 46 = .ok (.istore 5, 2) := by decide +kernel
theorem dX7_judgeBeyondModes_48 : decode cX7_judgeBeyondModes 48 = .ok (.iload 5, 2) := by decide +kernel
theorem dX7_judgeBeyondModes_50 : decode cX7_judgeBeyondModes 50 = .ok (.ifCond .ne 5, 3) := by decide +kernel
theorem dX7_judgeBeyondModes_53 : decode cX7_judgeBeyondModes 53 = .ok (.iconst 2, 1) := by decide +kernel
theorem dX7_judgeBeyondModes_54 : decode cX7_judgeBeyondModes 54 = .ok (.ireturn, 1) := by decide +kernel
theorem dX7_judgeBeyondModes_55 : decode cX7_judgeBeyondModes 55 = .ok (.aload_n 0, 1) := by decide +kernel
theorem dX7_judgeBeyondModes_56 : decode cX7_judgeBeyondModes 56 = .ok (.getfield 19, 3) := by decide +kernel
theorem dX7_judgeBeyondModes_59 : decode cX7_judgeBeyondModes 59 = .ok (.aload_n 1, 1) := by decide +kernel
theorem dX7_judgeBeyondModes_60 : decode cX7_judgeBeyondModes 60 = .ok (.getfield 195, 3) := by decide +kernel
theorem dX7_judgeBeyondModes_63 : decode cX7_judgeBeyondModes 63 = .ok (.aload_n 2, 1) := by decide +kernel
theorem dX7_judgeBeyondModes_64 : decode cX7_judgeBeyondModes 64 = .ok (.getfield 130, 3) := by decide +kernel
theorem dX7_judgeBeyondModes_67 : decode cX7_judgeBeyondModes 67 = .ok (.invokevirtual 174, 3) := by decide +kernel
theorem dX7_judgeBeyondModes_70 : decode cX7_judgeBeyondModes 70 = .ok (.iload_n 3, 1) := by decide +kernel
theorem dX7_judgeBeyondModes_71 : decode cX7_judgeBeyondModes 71 = .ok (.iand, 1) := by decide +kernel
theorem dX7_judgeBeyondModes_72 : decode cX7_judgeBeyondModes 72 = .ok (.ifCond .ne 5, 3) := by decide +kernel
theorem dX7_judgeBeyondModes_75 : decode cX7_judgeBeyondModes 75 = .ok (.iconst 3, 1) := by decide +kernel
theorem dX7_judgeBeyondModes_76 : decode cX7_judgeBeyondModes 76 = .ok (.ireturn, 1) := by decide +kernel
theorem dX7_judgeBeyondModes_77 : decode cX7_judgeBeyondModes 77 = .ok (.iload 4, 2) := by decide +kernel
theorem dX7_judgeBeyondModes_79 : decode cX7_judgeBeyondModes 79 = .ok (.iload_n 3, 1) := by decide +kernel
theorem dX7_judgeBeyondModes_80 : decode cX7_judgeBeyondModes 80 = .ok (.iand, 1) := by decide +kernel
theorem dX7_judgeBeyondModes_81 : decode cX7_judgeBeyondModes 81 = .ok (.ifCond .ne 7, 3) := by decide +kernel
theorem dX7_judgeBeyondModes_84 : decode cX7_judgeBeyondModes 84 = .ok (.iconst 4, 1) := by decide +kernel
theorem dX7_judgeBeyondModes_85 : decode cX7_judgeBeyondModes 85 = .ok (.goto 4, 3) := by decide +kernel
theorem dX7_judgeBeyondModes_88 : decode cX7_judgeBeyondModes 88 = .ok (.iconst 0, 1) := by decide +kernel
theorem dX7_judgeBeyondModes_89 : decode cX7_judgeBeyondModes 89 = .ok (.ireturn, 1) := by decide +kernel
theorem dX7_carryOutRun_0 : decode cX7_carryOutRun 0 = .ok (.aload_n 0, 1) := by decide +kernel
theorem dX7_carryOutRun_1 : decode cX7_carryOutRun 1 = .ok (.getfield 19, 3) := by decide +kernel
theorem dX7_carryOutRun_4 : decode cX7_carryOutRun 4 = .ok (.aload_n 1, 1) := by decide +kernel
theorem dX7_carryOutRun_5 : decode cX7_carryOutRun 5 = .ok (.getfield 195, 3) := by decide +kernel
theorem dX7_carryOutRun_8 : decode cX7_carryOutRun 8 = .ok (.aload_n 2, 1) := by decide +kernel
theorem dX7_carryOutRun_9 : decode cX7_carryOutRun 9 = .ok (.getfield 130, 3) := by decide +kernel
theorem dX7_carryOutRun_12 : decode cX7_carryOutRun 12 = .ok (.invokevirtual 180, 3) := by decide +kernel
theorem dX7_carryOutRun_15 : decode cX7_carryOutRun 15 = .ok (.istore_n 3, 1) := by decide +kernel
theorem dX7_carryOutRun_16 : decode cX7_carryOutRun 16 = .ok (.iload_n 3, 1) := by decide +kernel
theorem dX7_carryOutRun_17 : decode cX7_carryOutRun 17 = .ok (.iconst (-1), 1) := by decide +kernel
theorem dX7_carryOutRun_18 : decode cX7_carryOutRun 18 = .ok (.if_icmp .eq 8, 3) := by decide +kernel
theorem dX7_carryOutRun_21 : decode cX7_carryOutRun 21 = .ok (.aload_n 1, 1) := by decide +kernel
theorem dX7_carryOutRun_22 : decode cX7_carryOutRun 22 = .ok (.iload_n 3, 1) := by decide +kernel
theorem dX7_carryOutRun_23 : decode cX7_carryOutRun 23 = .ok (.putfield 195, 3) := by decide +kernel
theorem dX7_carryOutRun_26 : decode cX7_carryOutRun 26 = .ok (.aload_n 2, 1) := by decide +kernel
theorem dX7_carryOutRun_27 : decode cX7_carryOutRun 27 = .ok (.getfield 123, 3) := by decide +kernel
theorem dX7_carryOutRun_30 : decode cX7_carryOutRun 30 = .ok (.sipush 512, 3) := by decide +kernel
theorem dX7_carryOutRun_33 : decode cX7_carryOutRun 33 = .ok (.iand, 1) := by decide +kernel
theorem dX7_carryOutRun_34 : decode cX7_carryOutRun 34 = .ok (.ifCond .eq 30, 3) := by decide +kernel
theorem dX7_carryOutRun_37 : decode cX7_carryOutRun 37 = .ok (.aload_n 1, 1) := by decide +kernel
theorem dX7_carryOutRun_38 : decode cX7_carryOutRun 38 = .ok (.aload_n 2, 1) := by decide +kernel
theorem dX7_carryOutRun_39 : decode cX7_carryOutRun 39 = .ok (.getfield 117, 3) := by decide +kernel
theorem dX7_carryOutRun_42 : decode cX7_carryOutRun 42 = .ok (.putfield 192, 3) := by decide +kernel
theorem dX7_carryOutRun_45 : decode cX7_carryOutRun 45 = .ok (.aload_n 1, 1) := by decide +kernel
theorem dX7_carryOutRun_46 : decode cX7_carryOutRun 46 = .ok (.aload_n 2, 1) := by decide +kernel
theorem dX7_carryOutRun_47 : decode cX7_carryOutRun 47 = .ok (.getfield 117, 3) := by decide +kernel
theorem dX7_carryOutRun_50 : decode cX7_carryOutRun 50 = .ok (.ifCond .ne 10, 3) := by decide +kernel
theorem dX7_carryOutRun_53 : decode cX7_carryOutRun 53 = .ok (.aload_n 1, 1) := by decide +kernel
theorem dX7_carryOutRun_54 : decode cX7_carryOutRun 54 = .ok (.getfield 201, 3) := by decide +kernel
theorem dX7_carryOutRun_57 : decode cX7_carryOutRun 57 = .ok (.goto 4, 3) := by decide +kernel
theorem dX7_carryOutRun_60 : decode cX7_carryOutRun 60 = .ok (.iconst 0, 1) := by decide +kernel
theorem dX7_carryOutRun_61 : decode cX7_carryOutRun 61 = .ok (.putfield 198, 3) := by decide +kernel
theorem dX7_carryOutRun_64 : decode cX7_carryOutRun 64 = .ok (.return_, 1) := by decide +kernel
theorem dX7_note_0 : decode cX7_note 0 = .ok (.iload 4, 2) := by decide +kernel
theorem dX7_note_2 : decode cX7_note 2 = .ok (.ifCond .ne 10, 3) := by decide +kernel
theorem dX7_note_5 : decode cX7_note 5 = .ok (.aload_n 0, 1) := by decide +kernel
theorem dX7_note_6 : decode cX7_note 6 = .ok (.getfield 69, 3) := by decide +kernel
theorem dX7_note_9 : decode cX7_note 9 = .ok (.goto 7, 3) := by decide +kernel
theorem dX7_note_12 : decode cX7_note 12 = .ok (.aload_n 0, 1) := by decide +kernel
theorem dX7_note_13 : decode cX7_note 13 = .ok (.getfield 73, 3) := by decide +kernel
theorem dX7_note_16 : decode cX7_note 16 = .ok (.istore 5, 2) := by decide +kernel
theorem dX7_note_18 : decode cX7_note 18 = .ok (.iload 5, 2) := by decide +kernel
theorem dX7_note_20 : decode cX7_note 20 = .ok (.iload_n 3, 1) := by decide +kernel
theorem dX7_note_21 : decode cX7_note 21 = .ok (.iand, 1) := by decide +kernel
theorem dX7_note_22 : decode cX7_note 22 = .ok (.ifCond .eq 19, 3) := by decide +kernel
theorem dX7_note_25 : decode cX7_note 25 = .ok (.aload_n 0, 1) := by decide +kernel
theorem dX7_note_26 : decode cX7_note 26 = .ok (.getfield 26, 3) := by decide +kernel
theorem dX7_note_29 : decode cX7_note 29 = .ok (.aload_n 0, 1) := by decide +kernel
theorem dX7_note_30 : decode cX7_note 30 = .ok (.getfield 243, 3) := by decide +kernel
theorem dX7_note_33 : decode cX7_note 33 = .ok (.iload_n 1, 1) := by decide +kernel
theorem dX7_note_34 : decode cX7_note 34 = .ok (.iload_n 2, 1) := by decide +kernel
theorem dX7_note_35 : decode cX7_note 35 = .ok (.iload_n 3, 1) := by decide +kernel
theorem dX7_note_36 : decode cX7_note 36 = .ok (.iload 4, 2) := by decide +kernel
theorem dX7_note_38 : decode cX7_note 38 = .ok (.invokevirtual 356, 3) := by decide +kernel
theorem dX7_note_41 : decode cX7_note 41 = .ok (.return_, 1) := by decide +kernel
theorem dX7_handOut_0 : decode cX7_handOut 0 = .ok (.aload_n 1, 1) := by decide +kernel
theorem dX7_handOut_1 : decode cX7_handOut 1 = .ok (.iload_n 2, 1) := by decide +kernel
theorem dX7_handOut_2 : decode cX7_handOut 2 = .ok (.putfield 258, 3) := by decide +kernel
theorem dX7_handOut_5 : decode cX7_handOut 5 = .ok (.aload_n 1, 1) := by decide +kernel
theorem dX7_handOut_6 : decode cX7_handOut 6 = .ok (.iload_n 3, 1) := by decide +kernel
theorem dX7_handOut_7 : decode cX7_handOut 7 = .ok (.putfield 261, 3) := by decide +kernel
theorem dX7_handOut_10 : decode cX7_handOut 10 = .ok (.aload_n 1, 1) := by decide +kernel
theorem dX7_handOut_11 : decode cX7_handOut 11 = .ok (.iload 4, 2) := by decide +kernel
theorem dX7_handOut_13 : decode cX7_handOut 13 = .ok (.putfield 264, 3) := by decide +kernel
theorem dX7_handOut_16 : decode cX7_handOut 16 = .ok (.aload_n 1, 1) := by decide +kernel
theorem dX7_handOut_17 : decode cX7_handOut 17 = .ok (.iload 5, 2) := by decide +kernel
theorem dX7_handOut_19 : decode cX7_handOut 19 = .ok (.putfield 233, 3) := by decide +kernel
theorem dX7_handOut_22 : decode cX7_handOut 22 = .ok (.aload_n 0, 1) := by decide +kernel
theorem dX7_handOut_23 : decode cX7_handOut 23 = .ok (.dup, 1) := by decide +kernel
theorem dX7_handOut_24 : decode cX7_handOut 24 = .ok (.getfield 246, 3) := by decide +kernel
theorem dX7_handOut_27 : decode cX7_handOut 27 = .ok (.iconst 1, 1) := by decide +kernel
theorem dX7_handOut_28 : decode cX7_handOut 28 = .ok (.iadd, 1) := by decide +kernel
theorem dX7_handOut_29 : decode cX7_handOut 29 = .ok (.putfield 246, 3) := by decide +kernel
theorem dX7_handOut_32 : decode cX7_handOut 32 = .ok (.aload_n 0, 1) := by decide +kernel
theorem dX7_handOut_33 : decode cX7_handOut 33 = .ok (.getfield 246, 3) := by decide +kernel
theorem dX7_handOut_36 : decode cX7_handOut 36 = .ok (.iconst 1, 1) := by decide +kernel
theorem dX7_handOut_37 : decode cX7_handOut 37 = .ok (.isub, 1) := by decide +kernel
theorem dX7_handOut_38 : decode cX7_handOut 38 = .ok (.ireturn, 1) := by decide +kernel
theorem dX7_isThereStill_0 : decode cX7_isThereStill 0 = .ok (.iload_n 1, 1) := by decide +kernel
theorem dX7_isThereStill_1 : decode cX7_isThereStill 1 = .ok (.istore_n 2, 1) := by decide +kernel
theorem dX7_isThereStill_2 : decode cX7_isThereStill 2 = .ok (.iconst 0, 1) := by decide +kernel
theorem dX7_isThereStill_3 : decode cX7_isThereStill 3 = .ok (.istore_n 3, 1) := by decide +kernel
theorem dX7_isThereStill_4 : decode cX7_isThereStill 4 = .ok (.iload_n 3, 1) := by decide +kernel
theorem dX7_isThereStill_5 : decode cX7_isThereStill 5 = .ok (.aload_n 0, 1) := by decide +kernel
theorem dX7_isThereStill_6 : decode cX7_isThereStill 6 = .ok (.getfield 46, 3) := by decide +kernel
theorem dX7_isThereStill_9 : decode cX7_isThereStill 9 = .ok (.arraylength, 1) := by decide +kernel
theorem dX7_isThereStill_10 : decode cX7_isThereStill 10 = .ok (.if_icmp .ge 61, 3) := by decide +kernel
theorem dX7_isThereStill_13 : decode cX7_isThereStill 13 = .ok (.iload_n 2, 1) := by decide +kernel
theorem dX7_isThereStill_14 : decode cX7_isThereStill 14 = .ok (.ifCond .lt 57, 3) := by decide +kernel
theorem dX7_isThereStill_17 : decode cX7_isThereStill 17 = .ok (.iload_n 2, 1) := by decide +kernel
theorem dX7_isThereStill_18 : decode cX7_isThereStill 18 = .ok (.aload_n 0, 1) := by decide +kernel
theorem dX7_isThereStill_19 : decode cX7_isThereStill 19 = .ok (.getfield 246, 3) := by decide +kernel
theorem dX7_isThereStill_22 : decode cX7_isThereStill 22 = .ok (.if_icmp .ge 49, 3) := by decide +kernel
theorem dX7_isThereStill_25 : decode cX7_isThereStill 25 = .ok (.aload_n 0, 1) := by decide +kernel
theorem dX7_isThereStill_26 : decode cX7_isThereStill 26 = .ok (.getfield 46, 3) := by decide +kernel
theorem dX7_isThereStill_29 : decode cX7_isThereStill 29 = .ok (.iload_n 2, 1) := by decide +kernel
theorem dX7_isThereStill_30 : decode cX7_isThereStill 30 = .ok (.aaload, 1) := by decide +kernel
theorem dX7_isThereStill_31 : decode cX7_isThereStill 31 = .ok (.getfield 270, 3) := by decide +kernel
theorem dX7_isThereStill_34 : decode cX7_isThereStill 34 = .ok (.ifCond .ne 19, 3) := by decide +kernel
theorem dX7_isThereStill_37 : decode cX7_isThereStill 37 = .ok (.aload_n 0, 1) := by decide +kernel
theorem dX7_isThereStill_38 : decode cX7_isThereStill 38 = .ok (.getfield 243, 3) := by decide +kernel
theorem dX7_isThereStill_41 : decode cX7_isThereStill 41 = .ok (.aload_n 0, 1) := by decide +kernel
theorem dX7_isThereStill_42 : decode cX7_isThereStill 42 = .ok (.getfield 46, 3) := by decide +kernel
theorem dX7_isThereStill_45 : decode cX7_isThereStill 45 = .ok (.iload_n 2, 1) := by decide +kernel
theorem dX7_isThereStill_46 : decode cX7_isThereStill 46 = .ok (.aaload, 1) := by decide +kernel
theorem dX7_isThereStill_47 : decode cX7_isThereStill 47 = .ok (.getfield 261, 3) := by decide +kernel
theorem dX7_isThereStill_50 : decode cX7_isThereStill 50 = .ok (.if_icmp .le 5, 3) := by decide +kernel
theorem dX7_isThereStill_53 : decode cX7_isThereStill 53 = .ok (.iconst 0, 1) := by decide +kernel
theorem dX7_isThereStill_54 : decode cX7_isThereStill 54 = .ok (.ireturn, 1) := by decide +kernel
theorem dX7_isThereStill_55 : decode cX7_isThereStill 55 = .ok (.aload_n 0, 1) := by decide +kernel
theorem dX7_isThereStill_56 : decode cX7_isThereStill 56 = .ok (.getfield 46, 3) := by decide +kernel
theorem dX7_isThereStill_59 : decode cX7_isThereStill 59 = .ok (.iload_n 2, 1) := by decide +kernel
theorem dX7_isThereStill_60 : decode cX7_isThereStill 60 = .ok (.aaload, 1) := by decide +kernel
theorem dX7_isThereStill_61 : decode cX7_isThereStill 61 = .ok (.getfield 251, 3) := by decide +kernel
theorem dX7_isThereStill_64 : decode cX7_isThereStill 64 = .ok (.istore_n 2, 1) := by decide +kernel
theorem dX7_isThereStill_65 : decode cX7_isThereStill 65 = .ok (.iinc 3 1, 3) := by decide +kernel
theorem dX7_isThereStill_68 : decode cX7_isThereStill 68 = .ok (.goto (-64), 3) := by decide +kernel
theorem dX7_isThereStill_71 : decode cX7_isThereStill 71 = .ok (.iconst 1, 1) := by decide +kernel
theorem dX7_isThereStill_72 : decode cX7_isThereStill 72 = .ok (.ireturn, 1) := by decide +kernel
theorem dX7_judgeToken_0 : decode cX7_judgeToken 0 = .ok (.aload_n 0, 1) := by decide +kernel
theorem dX7_judgeToken_1 : decode cX7_judgeToken 1 = .ok (.iload_n 2, 1) := by decide +kernel
theorem dX7_judgeToken_2 : decode cX7_judgeToken 2 = .ok (.invokevirtual 229, 3) := by decide +kernel
theorem dX7_judgeToken_5 : decode cX7_judgeToken 5 = .ok (.astore 4, 2) := by decide +kernel
theorem dX7_judgeToken_7 : decode cX7_judgeToken 7 = .ok (.aload 4, 2) := by decide +kernel
theorem dX7_judgeToken_9 : decode cX7_judgeToken 9 = .ok (.getfield 258, 3) := by decide +kernel
theorem dX7_judgeToken_12 : decode cX7_judgeToken 12 = .ok (.iload_n 3, 1) := by decide +kernel
theorem dX7_judgeToken_13 : decode cX7_judgeToken 13 = .ok (.iand, 1) := by decide +kernel
theorem dX7_judgeToken_14 : decode cX7_judgeToken 14 = .ok (.ifCond .eq 11, 3) := by decide +kernel
theorem dX7_judgeToken_17 : decode cX7_judgeToken 17 = .ok (.aload_n 0, 1) := by decide +kernel
theorem dX7_judgeToken_18 : decode cX7_judgeToken 18 = .ok (.iload_n 2, 1) := by decide +kernel
theorem dX7_judgeToken_19 : decode cX7_judgeToken 19 = .ok (.invokevirtual 267, 3) := by decide +kernel
theorem dX7_judgeToken_22 : decode cX7_judgeToken 22 = .ok (.ifCond .ne 5, 3) := by decide +kernel
theorem dX7_judgeToken_25 : decode cX7_judgeToken 25 = .ok (.iconst 5, 1) := by decide +kernel
theorem dX7_judgeToken_26 : decode cX7_judgeToken 26 = .ok (.ireturn, 1) := by decide +kernel
theorem dX7_judgeToken_27 : decode cX7_judgeToken 27 = .ok (.aload_n 0, 1) := by decide +kernel
theorem dX7_judgeToken_28 : decode cX7_judgeToken 28 = .ok (.getfield 51, 3) := by decide +kernel
theorem dX7_judgeToken_31 : decode cX7_judgeToken 31 = .ok (.iconst 0, 1) := by decide +kernel
theorem dX7_judgeToken_32 : decode cX7_judgeToken 32 = .ok (.aaload, 1) := by decide +kernel
theorem dX7_judgeToken_33 : decode cX7_judgeToken 33 = .ok (.astore 5, 2) := by decide +kernel
theorem dX7_judgeToken_35 : decode cX7_judgeToken 35 = .ok (.aload 5, 2) := by decide +kernel
theorem dX7_judgeToken_37 : decode cX7_judgeToken 37 = .ok (.aload_n 1, 1) := by decide +kernel
theorem dX7_judgeToken_38 : decode cX7_judgeToken 38 = .ok (.invokevirtual 301, 3) := by decide +kernel
theorem dX7_judgeToken_41 : decode cX7_judgeToken 41 = .ok (.aload 5, 2) := by decide +kernel
theorem dX7_judgeToken_43 : decode cX7_judgeToken 43 = .ok (.aload 4, 2) := by decide +kernel
theorem dX7_judgeToken_45 : decode cX7_judgeToken 45 = .ok (.getfield 249, 3) := by decide +kernel
theorem dX7_judgeToken_48 : decode cX7_judgeToken 48 = .ok (.putfield 192, 3) := by decide +kernel
theorem dX7_judgeToken_51 : decode cX7_judgeToken 51 = .ok (.aload 5, 2) := by decide +kernel
theorem dX7_judgeToken_53 : decode cX7_judgeToken 53 = .ok (.aload 4, 2) := by decide +kernel
theorem dX7_judgeToken_55 : decode cX7_judgeToken 55 = .ok (.getfield 250, 3) := by decide +kernel
theorem dX7_judgeToken_58 : decode cX7_judgeToken 58 = .ok (.putfield 195, 3) := by decide +kernel
theorem dX7_judgeToken_61 : decode cX7_judgeToken 61 = .ok (.aload 5, 2) := by decide +kernel
theorem dX7_judgeToken_63 : decode cX7_judgeToken 63 = .ok (.iconst 0, 1) := by decide +kernel
theorem dX7_judgeToken_64 : decode cX7_judgeToken 64 = .ok (.putfield 198, 3) := by decide +kernel
theorem dX7_judgeToken_67 : decode cX7_judgeToken 67 = .ok (.aload_n 0, 1) := by decide +kernel
theorem dX7_judgeToken_68 : decode cX7_judgeToken 68 = .ok (.aload 5, 2) := by decide +kernel
theorem dX7_judgeToken_70 : decode cX7_judgeToken 70 = .ok (.aload_n 0, 1) := by decide +kernel
theorem dX7_judgeToken_71 : decode cX7_judgeToken 71 = .ok (.aload 4, 2) := by decide +kernel
theorem dX7_judgeToken_73 : decode cX7_judgeToken 73 = .ok (.getfield 240, 3) := by decide +kernel
theorem dX7_judgeToken_76 : decode cX7_judgeToken 76 = .ok (.invokevirtual 103, 3) := by decide +kernel
theorem dX7_judgeToken_79 : decode cX7_judgeToken 79 = .ok (.iload_n 3, 1) := by decide +kernel
theorem dX7_judgeToken_80 : decode cX7_judgeToken 80 = .ok (.invokevirtual 217, 3) := by decide +kernel
theorem dX7_judgeToken_83 : decode cX7_judgeToken 83 = .ok (.ireturn, 1) := by decide +kernel
theorem dX7_fewestRuns_0 : decode cX7_fewestRuns 0 = .ok (.aload_n 0, 1) := by decide +kernel
theorem dX7_fewestRuns_1 : decode cX7_fewestRuns 1 = .ok (.getfield 51, 3) := by decide +kernel
theorem dX7_fewestRuns_4 : decode cX7_fewestRuns 4 = .ok (.iconst 0, 1) := by decide +kernel
theorem dX7_fewestRuns_5 : decode cX7_fewestRuns 5 = .ok (.aaload, 1) := by decide +kernel
theorem dX7_fewestRuns_6 : decode cX7_fewestRuns 6 = .ok (.astore 4, 2) := by decide +kernel
theorem dX7_fewestRuns_8 : decode cX7_fewestRuns 8 = .ok (.aload 4, 2) := by decide +kernel
theorem dX7_fewestRuns_10 : decode cX7_fewestRuns 10 = .ok (.aload_n 1, 1) := by decide +kernel
theorem dX7_fewestRuns_11 : decode cX7_fewestRuns 11 = .ok (.invokevirtual 301, 3) := by decide +kernel
theorem dX7_fewestRuns_14 : decode cX7_fewestRuns 14 = .ok (.aload_n 0, 1) := by decide +kernel
theorem dX7_fewestRuns_15 : decode cX7_fewestRuns 15 = .ok (.getfield 65, 3) := by decide +kernel
theorem dX7_fewestRuns_18 : decode cX7_fewestRuns 18 = .ok (.invokevirtual 360, 3) := by decide +kernel
theorem dX7_fewestRuns_21 : decode cX7_fewestRuns 21 = .ok (.aload_n 0, 1) := by decide +kernel
theorem dX7_fewestRuns_22 : decode cX7_fewestRuns 22 = .ok (.getfield 65, 3) := by decide +kernel
theorem dX7_fewestRuns_25 : decode cX7_fewestRuns 25 = .ok (.aload 4, 2) := by decide +kernel
theorem dX7_fewestRuns_27 : decode cX7_fewestRuns 27 = .ok (.iconst 0, 1) := by decide +kernel
theorem dX7_fewestRuns_28 : decode cX7_fewestRuns 28 = .ok (.invokevirtual 363, 3) := by decide +kernel
theorem dX7_fewestRuns_31 : decode cX7_fewestRuns 31 = .ok (.iconst 0, 1) := by decide +kernel
theorem dX7_fewestRuns_32 : decode cX7_fewestRuns 32 = .ok (.istore 5, 2) := by decide +kernel
theorem dX7_fewestRuns_34 : decode cX7_fewestRuns 34 = .ok (.iload 5, 2) := by decide +kernel
theorem dX7_fewestRuns_36 : decode cX7_fewestRuns 36 = .ok (.sipush 192, 3) := by decide +kernel
theorem dX7_fewestRuns_39 : decode cX7_fewestRuns 39 = .ok (.if_icmp .ge 64, 3) := by decide +kernel
theorem dX7_fewestRuns_42 : decode cX7_fewestRuns 42 = .ok (.iload 5, 2) := by decide +kernel
theorem dX7_fewestRuns_44 : decode cX7_fewestRuns 44 = .ok (.aload_n 0, 1) := by decide +kernel
theorem dX7_fewestRuns_45 : decode cX7_fewestRuns 45 = .ok (.getfield 65, 3) := by decide +kernel
theorem dX7_fewestRuns_48 : decode cX7_fewestRuns 48 = .ok (.getfield 366, 3) := by decide +kernel
theorem dX7_fewestRuns_51 : decode cX7_fewestRuns 51 = .ok (.if_icmp .ge 52, 3) := by decide +kernel
theorem dX7_fewestRuns_54 : decode cX7_fewestRuns 54 = .ok (.aload_n 0, 1) := by decide +kernel
theorem dX7_fewestRuns_55 : decode cX7_fewestRuns 55 = .ok (.getfield 65, 3) := by decide +kernel
theorem dX7_fewestRuns_58 : decode cX7_fewestRuns 58 = .ok (.aload 4, 2) := by decide +kernel
theorem dX7_fewestRuns_60 : decode cX7_fewestRuns 60 = .ok (.iload 5, 2) := by decide +kernel
theorem dX7_fewestRuns_62 : decode cX7_fewestRuns 62 = .ok (.invokevirtual 367, 3) := by decide +kernel
theorem dX7_fewestRuns_65 : decode cX7_fewestRuns 65 = .ok (.istore 6, 2) := by decide +kernel
theorem dX7_fewestRuns_67 : decode cX7_fewestRuns 67 = .ok (.aload_n 0, 1) := by decide +kernel
theorem dX7_fewestRuns_68 : decode cX7_fewestRuns 68 = .ok (.aload 4, 2) := by decide +kernel
theorem dX7_fewestRuns_70 : decode cX7_fewestRuns 70 = .ok (.aload_n 2, 1) := by decide +kernel
theorem dX7_fewestRuns_71 : decode cX7_fewestRuns 71 = .ok (.iload_n 3, 1) := by decide +kernel
theorem dX7_fewestRuns_72 : decode cX7_fewestRuns 72 = .ok (.invokevirtual 217, 3) := by decide +kernel
theorem dX7_fewestRuns_75 : decode cX7_fewestRuns 75 = .ok (.ifCond .ne 6, 3) := by decide +kernel
theorem dX7_fewestRuns_78 : decode cX7_fewestRuns 78 = .ok (.iload 6, 2) := by decide +kernel
theorem dX7_fewestRuns_80 : decode cX7_fewestRuns 80 = .ok (.ireturn, 1) := by decide +kernel
theorem dX7_fewestRuns_81 : decode cX7_fewestRuns 81 = .ok (.iload 6, 2) := by decide +kernel
theorem dX7_fewestRuns_83 : decode cX7_fewestRuns 83 = .ok (.iconst 3, 1) := by decide +kernel
theorem dX7_fewestRuns_84 : decode cX7_fewestRuns 84 = .ok (.if_icmp .ge 13, 3) := by decide +kernel
theorem dX7_fewestRuns_87 : decode cX7_fewestRuns 87 = .ok (.aload_n 0, 1) := by decide +kernel
theorem dX7_fewestRuns_88 : decode cX7_fewestRuns 88 = .ok (.iload 5, 2) := by decide +kernel
theorem dX7_fewestRuns_90 : decode cX7_fewestRuns 90 = .ok (.iload 6, 2) := by decide +kernel
theorem dX7_fewestRuns_92 : decode cX7_fewestRuns 92 = .ok (.iconst 1, 1) := by decide +kernel
theorem dX7_fewestRuns_93 : decode cX7_fewestRuns 93 = .ok (.iadd, 1) := by decide +kernel
theorem dX7_fewestRuns_94 : decode cX7_fewestRuns 94 = .ok (.invokevirtual 371, 3) := by decide +kernel
theorem dX7_fewestRuns_97 : decode cX7_fewestRuns 97 = .ok (.iinc 5 1, 3) := by decide +kernel
theorem dX7_fewestRuns_100 : decode cX7_fewestRuns 100 = .ok (.goto (-66), 3) := by decide +kernel
theorem dX7_fewestRuns_103 : decode cX7_fewestRuns 103 = .ok (.iconst (-1), 1) := by decide +kernel
theorem dX7_fewestRuns_104 : decode cX7_fewestRuns 104 = .ok (.ireturn, 1) := by decide +kernel
theorem dX7_addRunsFrom_0 : decode cX7_addRunsFrom 0 = .ok (.aload_n 0, 1) := by decide +kernel
theorem dX7_addRunsFrom_1 : decode cX7_addRunsFrom 1 = .ok (.getfield 51, 3) := by decide +kernel
theorem dX7_addRunsFrom_4 : decode cX7_addRunsFrom 4 = .ok (.iconst 1, 1) := by decide +kernel
theorem dX7_addRunsFrom_5 : decode cX7_addRunsFrom 5 = .ok (.aaload, 1) := by decide +kernel
theorem dX7_addRunsFrom_6 : decode cX7_addRunsFrom 6 = .ok (.astore_n 3, 1) := by decide +kernel
theorem dX7_addRunsFrom_7 : decode cX7_addRunsFrom 7 = .ok (.aload_n 3, 1) := by decide +kernel
theorem dX7_addRunsFrom_8 : decode cX7_addRunsFrom 8 = .ok (.aload_n 0, 1) := by decide +kernel
theorem dX7_addRunsFrom_9 : decode cX7_addRunsFrom 9 = .ok (.getfield 51, 3) := by decide +kernel
theorem dX7_addRunsFrom_12 : decode cX7_addRunsFrom 12 = .ok (.iconst 0, 1) := by decide +kernel
theorem dX7_addRunsFrom_13 : decode cX7_addRunsFrom 13 = .ok (.aaload, 1) := by decide +kernel
theorem dX7_addRunsFrom_14 : decode cX7_addRunsFrom 14 = .ok (.invokevirtual 301, 3) := by decide +kernel
theorem dX7_addRunsFrom_17 : decode cX7_addRunsFrom 17 = .ok (.iconst 0, 1) := by decide +kernel
theorem dX7_addRunsFrom_18 : decode cX7_addRunsFrom 18 = .ok (.istore 4, 2) := by decide +kernel
theorem dX7_addRunsFrom_20 : decode cX7_addRunsFrom 20 = .ok (.iload 4, 2) := by decide +kernel
theorem dX7_addRunsFrom_22 : decode cX7_addRunsFrom 22 = .ok (.aload_n 0, 1) := by decide +kernel
theorem dX7_addRunsFrom_23 : decode cX7_addRunsFrom 23 = .ok (.getfield 111, 3) := by decide +kernel
theorem dX7_addRunsFrom_26 : decode cX7_addRunsFrom 26 = .ok (.if_icmp .ge 56, 3) := by decide +kernel
theorem dX7_addRunsFrom_29 : decode cX7_addRunsFrom 29 = .ok (.aload_n 0, 1) := by decide +kernel
theorem dX7_addRunsFrom_30 : decode cX7_addRunsFrom 30 = .ok (.getfield 65, 3) := by decide +kernel
theorem dX7_addRunsFrom_33 : decode cX7_addRunsFrom 33 = .ok (.aload_n 3, 1) := by decide +kernel
theorem dX7_addRunsFrom_34 : decode cX7_addRunsFrom 34 = .ok (.iload_n 1, 1) := by decide +kernel
theorem dX7_addRunsFrom_35 : decode cX7_addRunsFrom 35 = .ok (.invokevirtual 367, 3) := by decide +kernel
theorem dX7_addRunsFrom_38 : decode cX7_addRunsFrom 38 = .ok (.pop, 1) := by decide +kernel
theorem dX7_addRunsFrom_39 : decode cX7_addRunsFrom 39 = .ok (.aload_n 0, 1) := by decide +kernel
theorem dX7_addRunsFrom_40 : decode cX7_addRunsFrom 40 = .ok (.aload_n 3, 1) := by decide +kernel
theorem dX7_addRunsFrom_41 : decode cX7_addRunsFrom 41 = .ok (.aload_n 0, 1) := by decide +kernel
theorem dX7_addRunsFrom_42 : decode cX7_addRunsFrom 42 = .ok (.getfield 32, 3) := by decide +kernel
theorem dX7_addRunsFrom_45 : decode cX7_addRunsFrom 45 = .ok (.iload 4, 2) := by decide +kernel
theorem dX7_addRunsFrom_47 : decode cX7_addRunsFrom 47 = .ok (.aaload, 1) := by decide +kernel
theorem dX7_addRunsFrom_48 : decode cX7_addRunsFrom 48 = .ok (.iconst 4, 1) := by decide +kernel
theorem dX7_addRunsFrom_49 : decode cX7_addRunsFrom 49 = .ok (.invokevirtual 217, 3) := by decide +kernel
theorem dX7_addRunsFrom_52 : decode cX7_addRunsFrom 52 = .ok (.ifCond .ne 24, 3) := by decide +kernel
theorem dX7_addRunsFrom_55 : decode cX7_addRunsFrom 55 = .ok (.aload_n 0, 1) := by decide +kernel
theorem dX7_addRunsFrom_56 : decode cX7_addRunsFrom 56 = .ok (.aload_n 3, 1) := by decide +kernel
theorem dX7_addRunsFrom_57 : decode cX7_addRunsFrom 57 = .ok (.aload_n 0, 1) := by decide +kernel
theorem dX7_addRunsFrom_58 : decode cX7_addRunsFrom 58 = .ok (.getfield 32, 3) := by decide +kernel
theorem dX7_addRunsFrom_61 : decode cX7_addRunsFrom 61 = .ok (.iload 4, 2) := by decide +kernel
theorem dX7_addRunsFrom_63 : decode cX7_addRunsFrom 63 = .ok (.aaload, 1) := by decide +kernel
theorem dX7_addRunsFrom_64 : decode cX7_addRunsFrom 64 = .ok (.invokevirtual 225, 3) := by decide +kernel
theorem dX7_addRunsFrom_67 : decode cX7_addRunsFrom 67 = .ok (.aload_n 0, 1) := by decide +kernel
theorem dX7_addRunsFrom_68 : decode cX7_addRunsFrom 68 = .ok (.getfield 65, 3) := by decide +kernel
theorem dX7_addRunsFrom_71 : decode cX7_addRunsFrom 71 = .ok (.aload_n 3, 1) := by decide +kernel
theorem dX7_addRunsFrom_72 : decode cX7_addRunsFrom 72 = .ok (.iload_n 2, 1) := by decide +kernel
theorem dX7_addRunsFrom_73 : decode cX7_addRunsFrom 73 = .ok (.invokevirtual 363, 3) := by decide +kernel
theorem dX7_addRunsFrom_76 : decode cX7_addRunsFrom 76 = .ok (.iinc 4 1, 3) := by decide +kernel
theorem dX7_addRunsFrom_79 : decode cX7_addRunsFrom 79 = .ok (.goto (-59), 3) := by decide +kernel
theorem dX7_addRunsFrom_82 : decode cX7_addRunsFrom 82 = .ok (.return_, 1) := by decide +kernel
theorem dX7_fewestOfRows_0 : decode cX7_fewestOfRows 0 = .ok (.iload_n 1, 1) := by decide +kernel
theorem dX7_fewestOfRows_1 : decode cX7_fewestOfRows 1 = .ok (.ifCond .lt 8, 3) := by decide +kernel
theorem dX7_fewestOfRows_4 : decode cX7_fewestOfRows 4 = .ok (.iload_n 1, 1) := by decide +kernel
theorem dX7_fewestOfRows_5 : decode cX7_fewestOfRows 5 = .ok (.iconst 3, 1) := by decide +kernel
theorem dX7_fewestOfRows_6 : decode cX7_fewestOfRows 6 = .ok (.if_icmp .le 5, 3) := by decide +kernel
theorem dX7_fewestOfRows_9 : decode cX7_fewestOfRows 9 = .ok (.iconst (-1), 1) := by decide +kernel
theorem dX7_fewestOfRows_10 : decode cX7_fewestOfRows 10 = .ok (.ireturn, 1) := by decide +kernel
theorem dX7_fewestOfRows_11 : decode cX7_fewestOfRows 11 = .ok (.aload_n 0, 1) := by decide +kernel
theorem dX7_fewestOfRows_12 : decode cX7_fewestOfRows 12 = .ok (.aload_n 0, 1) := by decide +kernel
theorem dX7_fewestOfRows_13 : decode cX7_fewestOfRows 13 = .ok (.getfield 51, 3) := by decide +kernel
theorem dX7_fewestOfRows_16 : decode cX7_fewestOfRows 16 = .ok (.iload_n 1, 1) := by decide +kernel
theorem dX7_fewestOfRows_17 : decode cX7_fewestOfRows 17 = .ok (.aaload, 1) := by decide +kernel
theorem dX7_fewestOfRows_18 : decode cX7_fewestOfRows 18 = .ok (.aload_n 2, 1) := by decide +kernel
theorem dX7_fewestOfRows_19 : decode cX7_fewestOfRows 19 = .ok (.iload_n 3, 1) := by decide +kernel
theorem dX7_fewestOfRows_20 : decode cX7_fewestOfRows 20 = .ok (.invokevirtual 295, 3) := by decide +kernel
theorem dX7_fewestOfRows_23 : decode cX7_fewestOfRows 23 = .ok (.ifCond .ne 5, 3) := by decide +kernel
theorem dX7_fewestOfRows_26 : decode cX7_fewestOfRows 26 = .ok (.iload_n 1, 1) := by decide +kernel
theorem dX7_fewestOfRows_27 : decode cX7_fewestOfRows 27 = .ok (.ireturn, 1) := by decide +kernel
theorem dX7_fewestOfRows_28 : decode cX7_fewestOfRows 28 = .ok (.iconst (-1), 1) := by decide +kernel
theorem dX7_fewestOfRows_29 : decode cX7_fewestOfRows 29 = .ok (.istore 4, 2) := by decide +kernel
theorem dX7_fewestOfRows_31 : decode cX7_fewestOfRows 31 = .ok (.iconst 0, 1) := by decide +kernel
theorem dX7_fewestOfRows_32 : decode cX7_fewestOfRows 32 = .ok (.istore 5, 2) := by decide +kernel
theorem dX7_fewestOfRows_34 : decode cX7_fewestOfRows 34 = .ok (.iload 5, 2) := by decide +kernel
theorem dX7_fewestOfRows_36 : decode cX7_fewestOfRows 36 = .ok (.aload_n 0, 1) := by decide +kernel
theorem dX7_fewestOfRows_37 : decode cX7_fewestOfRows 37 = .ok (.getfield 111, 3) := by decide +kernel
theorem dX7_fewestOfRows_40 : decode cX7_fewestOfRows 40 = .ok (.if_icmp .ge 48, 3) := by decide +kernel
theorem dX7_fewestOfRows_43 : decode cX7_fewestOfRows 43 = .ok (.aload_n 0, 1) := by decide +kernel
theorem dX7_fewestOfRows_44 : decode cX7_fewestOfRows 44 = .ok (.iload_n 1, 1) := by decide +kernel
theorem dX7_fewestOfRows_45 : decode cX7_fewestOfRows 45 = .ok (.aload_n 0, 1) := by decide +kernel
theorem dX7_fewestOfRows_46 : decode cX7_fewestOfRows 46 = .ok (.getfield 32, 3) := by decide +kernel
theorem dX7_fewestOfRows_49 : decode cX7_fewestOfRows 49 = .ok (.iload 5, 2) := by decide +kernel
theorem dX7_fewestOfRows_51 : decode cX7_fewestOfRows 51 = .ok (.aaload, 1) := by decide +kernel
theorem dX7_fewestOfRows_52 : decode cX7_fewestOfRows 52 = .ok (.aload_n 2, 1) := by decide +kernel
theorem dX7_fewestOfRows_53 : decode cX7_fewestOfRows 53 = .ok (.iload_n 3, 1) := by decide +kernel
theorem dX7_fewestOfRows_54 : decode cX7_fewestOfRows 54 = .ok (.invokevirtual 374, 3) := by decide +kernel
theorem dX7_fewestOfRows_57 : decode cX7_fewestOfRows 57 = .ok (.istore 6, 2) := by decide +kernel
theorem dX7_fewestOfRows_59 : decode cX7_fewestOfRows 59 = .ok (.iload 6, 2) := by decide +kernel
theorem dX7_fewestOfRows_61 : decode cX7_fewestOfRows 61 = .ok (.iconst (-1), 1) := by decide +kernel
theorem dX7_fewestOfRows_62 : decode cX7_fewestOfRows 62 = .ok (.if_icmp .eq 20, 3) := by decide +kernel
theorem dX7_fewestOfRows_65 : decode cX7_fewestOfRows 65 = .ok (.iload 4, 2) := by decide +kernel
theorem dX7_fewestOfRows_67 : decode cX7_fewestOfRows 67 = .ok (.iconst (-1), 1) := by decide +kernel
theorem dX7_fewestOfRows_68 : decode cX7_fewestOfRows 68 = .ok (.if_icmp .eq 10, 3) := by decide +kernel
theorem dX7_fewestOfRows_71 : decode cX7_fewestOfRows 71 = .ok (.iload 6, 2) := by decide +kernel
theorem dX7_fewestOfRows_73 : decode cX7_fewestOfRows 73 = .ok (.iload 4, 2) := by decide +kernel
theorem dX7_fewestOfRows_75 : decode cX7_fewestOfRows 75 = .ok (.if_icmp .ge 7, 3) := by decide +kernel
theorem dX7_fewestOfRows_78 : decode cX7_fewestOfRows 78 = .ok (.iload 6, 2) := by decide +kernel
theorem dX7_fewestOfRows_80 : decode cX7_fewestOfRows 80 = .ok (.istore 4, 2) := by decide +kernel
theorem dX7_fewestOfRows_82 : decode cX7_fewestOfRows 82 = .ok (.iinc 5 1, 3) := by decide +kernel
theorem dX7_fewestOfRows_85 : decode cX7_fewestOfRows 85 = .ok (.goto (-51), 3) := by decide +kernel
theorem dX7_fewestOfRows_88 : decode cX7_fewestOfRows 88 = .ok (.iload 4, 2) := by decide +kernel
theorem dX7_fewestOfRows_90 : decode cX7_fewestOfRows 90 = .ok (.ireturn, 1) := by decide +kernel
theorem dX7_fewestBehind_0 : decode cX7_fewestBehind 0 = .ok (.iload_n 1, 1) := by decide +kernel
theorem dX7_fewestBehind_1 : decode cX7_fewestBehind 1 = .ok (.ifCond .lt 23, 3) := by decide +kernel
theorem dX7_fewestBehind_4 : decode cX7_fewestBehind 4 = .ok (.iload_n 1, 1) := by decide +kernel
theorem dX7_fewestBehind_5 : decode cX7_fewestBehind 5 = .ok (.iconst 3, 1) := by decide +kernel
theorem dX7_fewestBehind_6 : decode cX7_fewestBehind 6 = .ok (.if_icmp .ge 18, 3) := by decide +kernel
theorem dX7_fewestBehind_9 : decode cX7_fewestBehind 9 = .ok (.aload_n 0, 1) := by decide +kernel
theorem dX7_fewestBehind_10 : decode cX7_fewestBehind 10 = .ok (.aload_n 0, 1) := by decide +kernel
theorem dX7_fewestBehind_11 : decode cX7_fewestBehind 11 = .ok (.getfield 51, 3) := by decide +kernel
theorem dX7_fewestBehind_14 : decode cX7_fewestBehind 14 = .ok (.iload_n 1, 1) := by decide +kernel
theorem dX7_fewestBehind_15 : decode cX7_fewestBehind 15 = .ok (.aaload, 1) := by decide +kernel
theorem dX7_fewestBehind_16 : decode cX7_fewestBehind 16 = .ok (.aload_n 2, 1) := by decide +kernel
theorem dX7_fewestBehind_17 : decode cX7_fewestBehind 17 = .ok (.iconst 4, 1) := by decide +kernel
theorem dX7_fewestBehind_18 : decode cX7_fewestBehind 18 = .ok (.invokevirtual 295, 3) := by decide +kernel
theorem dX7_fewestBehind_21 : decode cX7_fewestBehind 21 = .ok (.ifCond .eq 5, 3) := by decide +kernel
theorem dX7_fewestBehind_24 : decode cX7_fewestBehind 24 = .ok (.iconst (-1), 1) := by decide +kernel
theorem dX7_fewestBehind_25 : decode cX7_fewestBehind 25 = .ok (.ireturn, 1) := by decide +kernel
theorem dX7_fewestBehind_26 : decode cX7_fewestBehind 26 = .ok (.aload_n 0, 1) := by decide +kernel
theorem dX7_fewestBehind_27 : decode cX7_fewestBehind 27 = .ok (.getfield 51, 3) := by decide +kernel
theorem dX7_fewestBehind_30 : decode cX7_fewestBehind 30 = .ok (.iload_n 1, 1) := by decide +kernel
theorem dX7_fewestBehind_31 : decode cX7_fewestBehind 31 = .ok (.iconst 1, 1) := by decide +kernel
theorem dX7_fewestBehind_32 : decode cX7_fewestBehind 32 = .ok (.iadd, 1) := by decide +kernel
theorem dX7_fewestBehind_33 : decode cX7_fewestBehind 33 = .ok (.aaload, 1) := by decide +kernel
theorem dX7_fewestBehind_34 : decode cX7_fewestBehind 34 = .ok (.astore 5, 2) := by decide +kernel
theorem dX7_fewestBehind_36 : decode cX7_fewestBehind 36 = .ok (.aload 5, 2) := by decide +kernel
theorem dX7_fewestBehind_38 : decode cX7_fewestBehind 38 = .ok (.aload_n 0, 1) := by decide +kernel
theorem dX7_fewestBehind_39 : decode cX7_fewestBehind 39 = .ok (.getfield 51, 3) := by decide +kernel
theorem dX7_fewestBehind_42 : decode cX7_fewestBehind 42 = .ok (.iload_n 1, 1) := by decide +kernel
theorem dX7_fewestBehind_43 : decode cX7_fewestBehind 43 = .ok (.aaload, 1) := by decide +kernel
theorem dX7_fewestBehind_44 : decode cX7_fewestBehind 44 = .ok (.invokevirtual 301, 3) := by decide +kernel
theorem dX7_fewestBehind_47 : decode cX7_fewestBehind 47 = .ok (.aload_n 0, 1) := by decide +kernel
theorem dX7_fewestBehind_48 : decode cX7_fewestBehind 48 = .ok (.aload 5, 2) := by decide +kernel
theorem dX7_fewestBehind_50 : decode cX7_fewestBehind 50 = .ok (.aload_n 2, 1) := by decide +kernel
theorem dX7_fewestBehind_51 : decode cX7_fewestBehind 51 = .ok (.invokevirtual 225, 3) := by decide +kernel
theorem dX7_fewestBehind_54 : decode cX7_fewestBehind 54 = .ok (.aload_n 0, 1) := by decide +kernel
theorem dX7_fewestBehind_55 : decode cX7_fewestBehind 55 = .ok (.iload_n 1, 1) := by decide +kernel
theorem dX7_fewestBehind_56 : decode cX7_fewestBehind 56 = .ok (.iconst 1, 1) := by decide +kernel
theorem dX7_fewestBehind_57 : decode cX7_fewestBehind 57 = .ok (.iadd, 1) := by decide +kernel
theorem dX7_fewestBehind_58 : decode cX7_fewestBehind 58 = .ok (.aload_n 3, 1) := by decide +kernel
theorem dX7_fewestBehind_59 : decode cX7_fewestBehind 59 = .ok (.iload 4, 2) := by decide +kernel
theorem dX7_fewestBehind_61 : decode cX7_fewestBehind 61 = .ok (.invokevirtual 305, 3) := by decide +kernel
theorem dX7_fewestBehind_64 : decode cX7_fewestBehind 64 = .ok (.ireturn, 1) := by decide +kernel
theorem dX7_smallestSet_0 : decode cX7_smallestSet 0 = .ok (.aload_n 0, 1) := by decide +kernel
theorem dX7_smallestSet_1 : decode cX7_smallestSet 1 = .ok (.getfield 12, 3) := by decide +kernel
theorem dX7_smallestSet_4 : decode cX7_smallestSet 4 = .ok (.iload_n 2, 1) := by decide +kernel
theorem dX7_smallestSet_5 : decode cX7_smallestSet 5 = .ok (.invokevirtual 346, 3) := by decide +kernel
theorem dX7_smallestSet_8 : decode cX7_smallestSet 8 = .ok (.istore 4, 2) := by decide +kernel
theorem dX7_smallestSet_10 : decode cX7_smallestSet 10 = .ok (.aload_n 0, 1) := by decide +kernel
theorem dX7_smallestSet_11 : decode cX7_smallestSet 11 = .ok (.aload_n 1, 1) := by decide +kernel
theorem dX7_smallestSet_12 : decode cX7_smallestSet 12 = .ok (.iload_n 3, 1) := by decide +kernel
theorem dX7_smallestSet_13 : decode cX7_smallestSet 13 = .ok (.invokevirtual 378, 3) := by decide +kernel
theorem dX7_smallestSet_16 : decode cX7_smallestSet 16 = .ok (.istore 5, 2) := by decide +kernel
theorem dX7_smallestSet_18 : decode cX7_smallestSet 18 = .ok (.iload 5, 2) := by decide +kernel
theorem dX7_smallestSet_20 : decode cX7_smallestSet 20 = .ok (.istore 6, 2) := by decide +kernel
theorem dX7_smallestSet_22 : decode cX7_smallestSet 22 = .ok (.iconst 0, 1) := by decide +kernel
theorem dX7_smallestSet_23 : decode cX7_smallestSet 23 = .ok (.istore 7, 2) := by decide +kernel
theorem dX7_smallestSet_25 : decode cX7_smallestSet 25 = .ok (.iload 7, 2) := by decide +kernel
theorem dX7_smallestSet_27 : decode cX7_smallestSet 27 = .ok (.iconst 1, 1) := by decide +kernel
theorem dX7_smallestSet_28 : decode cX7_smallestSet 28 = .ok (.iload 5, 2) := by decide +kernel
theorem dX7_smallestSet_30 : decode cX7_smallestSet 30 = .ok (.ishl, 1) := by decide +kernel
theorem dX7_smallestSet_31 : decode cX7_smallestSet 31 = .ok (.if_icmp .ge 90, 3) := by decide +kernel
theorem dX7_smallestSet_34 : decode cX7_smallestSet 34 = .ok (.iload 7, 2) := by decide +kernel
theorem dX7_smallestSet_36 : decode cX7_smallestSet 36 = .ok (.invokestatic 382, 3) := by decide +kernel
theorem dX7_smallestSet_39 : decode cX7_smallestSet 39 = .ok (.istore 8, 2) := by decide +kernel
theorem dX7_smallestSet_41 : decode cX7_smallestSet 41 = .ok (.iload 8, 2) := by decide +kernel
theorem dX7_smallestSet_43 : decode cX7_smallestSet 43 = .ok (.iload 6, 2) := by decide +kernel
theorem dX7_smallestSet_45 : decode cX7_smallestSet 45 = .ok (.if_icmp .ge 70, 3) := by decide +kernel
theorem dX7_smallestSet_48 : decode cX7_smallestSet 48 = .ok (.aload_n 0, 1) := by decide +kernel
theorem dX7_smallestSet_49 : decode cX7_smallestSet 49 = .ok (.getfield 54, 3) := by decide +kernel
theorem dX7_smallestSet_52 : decode cX7_smallestSet 52 = .ok (.aload_n 1, 1) := by decide +kernel
theorem dX7_smallestSet_53 : decode cX7_smallestSet 53 = .ok (.invokevirtual 387, 3) := by decide +kernel
theorem dX7_smallestSet_56 : decode cX7_smallestSet 56 = .ok (.iconst 0, 1) := by decide +kernel
theorem dX7_smallestSet_57 : decode cX7_smallestSet 57 = .ok (.istore 9, 2) := by decide +kernel
theorem dX7_smallestSet_59 : decode cX7_smallestSet 59 = .ok (.iload 9, 2) := by decide +kernel
theorem dX7_smallestSet_61 : decode cX7_smallestSet 61 = .ok (.iload 5, 2) := by decide +kernel
theorem dX7_smallestSet_63 : decode cX7_smallestSet 63 = .ok (.if_icmp .ge 34, 3) := by decide +kernel
theorem dX7_smallestSet_66 : decode cX7_smallestSet 66 = .ok (.iload 7, 2) := by decide +kernel
theorem dX7_smallestSet_68 : decode cX7_smallestSet 68 = .ok (.iload 9, 2) := by decide +kernel
theorem dX7_smallestSet_70 : decode cX7_smallestSet 70 = .ok (.ishr, 1) := by decide +kernel
theorem dX7_smallestSet_71 : decode cX7_smallestSet 71 = .ok (.iconst 1, 1) := by decide +kernel
theorem dX7_smallestSet_72 : decode cX7_smallestSet 72 = .ok (.iand, 1) := by decide +kernel
theorem dX7_smallestSet_73 : decode cX7_smallestSet 73 = .ok (.ifCond .eq 18, 3) := by decide +kernel
theorem dX7_smallestSet_76 : decode cX7_smallestSet 76 = .ok (.aload_n 0, 1) := by decide +kernel
theorem dX7_smallestSet_77 : decode cX7_smallestSet 77 = .ok (.getfield 54, 3) := by decide +kernel
theorem dX7_smallestSet_80 : decode cX7_smallestSet 80 = .ok (.aload_n 0, 1) := by decide +kernel
theorem dX7_smallestSet_81 : decode cX7_smallestSet 81 = .ok (.getfield 58, 3) := by decide +kernel
theorem dX7_smallestSet_84 : decode cX7_smallestSet 84 = .ok (.iload 9, 2) := by decide +kernel
theorem dX7_smallestSet_86 : decode cX7_smallestSet 86 = .ok (.iaload, 1) := by decide +kernel
theorem dX7_smallestSet_87 : decode cX7_smallestSet 87 = .ok (.iload_n 3, 1) := by decide +kernel
theorem dX7_smallestSet_88 : decode cX7_smallestSet 88 = .ok (.invokevirtual 389, 3) := by decide +kernel
theorem dX7_smallestSet_91 : decode cX7_smallestSet 91 = .ok (.iinc 9 1, 3) := by decide +kernel
theorem dX7_smallestSet_94 : decode cX7_smallestSet 94 = .ok (.goto (-35), 3) := by decide +kernel
theorem dX7_smallestSet_97 : decode cX7_smallestSet 97 = .ok (.aload_n 0, 1) := by decide +kernel
theorem dX7_smallestSet_98 : decode cX7_smallestSet 98 = .ok (.getfield 54, 3) := by decide +kernel
theorem dX7_smallestSet_101 : decode cX7_smallestSet 101 = .ok (.iload_n 2, 1) := by decide +kernel
theorem dX7_smallestSet_102 : decode cX7_smallestSet 102 = .ok (.iload 4, 2) := by decide +kernel
theorem dX7_smallestSet_104 : decode cX7_smallestSet 104 = .ok (.iload_n 3, 1) := by decide +kernel
theorem dX7_smallestSet_105 : decode cX7_smallestSet 105 = .ok (.invokevirtual 349, 3) := by decide +kernel
theorem dX7_smallestSet_108 : decode cX7_smallestSet 108 = .ok (.ifCond .ne 7, 3) := by decide +kernel
theorem dX7_smallestSet_111 : decode cX7_smallestSet 111 = .ok (.iload 8, 2) := by decide +kernel
theorem dX7_smallestSet_113 : decode cX7_smallestSet 113 = .ok (.istore 6, 2) := by decide +kernel
theorem dX7_smallestSet_115 : decode cX7_smallestSet 115 = .ok (.iinc 7 1, 3) := by decide +kernel
theorem dX7_smallestSet_118 : decode cX7_smallestSet 118 = .ok (.goto (-93), 3) := by decide +kernel
theorem dX7_smallestSet_121 : decode cX7_smallestSet 121 = .ok (.iload 6, 2) := by decide +kernel
theorem dX7_smallestSet_123 : decode cX7_smallestSet 123 = .ok (.ireturn, 1) := by decide +kernel
theorem dX7_listRemovable_0 : decode cX7_listRemovable 0 = .ok (.iconst 0, 1) := by decide +kernel
theorem dX7_listRemovable_1 : decode cX7_listRemovable 1 = .ok (.istore_n 3, 1) := by decide +kernel
theorem dX7_listRemovable_2 : decode cX7_listRemovable 2 = .ok (.iconst 0, 1) := by decide +kernel
theorem dX7_listRemovable_3 : decode cX7_listRemovable 3 = .ok (.istore 4, 2) := by decide +kernel
theorem dX7_listRemovable_5 : decode cX7_listRemovable 5 = .ok (.iload 4, 2) := by decide +kernel
theorem dX7_listRemovable_7 : decode cX7_listRemovable 7 = .ok (.aload_n 0, 1) := by decide +kernel
theorem dX7_listRemovable_8 : decode cX7_listRemovable 8 = .ok (.getfield 58, 3) := by decide +kernel
theorem dX7_listRemovable_11 : decode cX7_listRemovable 11 = .ok (.arraylength, 1) := by decide +kernel
theorem dX7_listRemovable_12 : decode cX7_listRemovable 12 = .ok (.if_icmp .ge 30, 3) := by decide +kernel
theorem dX7_listRemovable_15 : decode cX7_listRemovable 15 = .ok (.aload_n 1, 1) := by decide +kernel
theorem dX7_listRemovable_16 : decode cX7_listRemovable 16 = .ok (.iload 4, 2) := by decide +kernel
theorem dX7_listRemovable_18 : decode cX7_listRemovable 18 = .ok (.iload_n 2, 1) := by decide +kernel
theorem dX7_listRemovable_19 : decode cX7_listRemovable 19 = .ok (.invokevirtual 392, 3) := by decide +kernel
theorem dX7_listRemovable_22 : decode cX7_listRemovable 22 = .ok (.ifCond .eq 14, 3) := by decide +kernel
theorem dX7_listRemovable_25 : decode cX7_listRemovable 25 = .ok (.aload_n 0, 1) := by decide +kernel
theorem dX7_listRemovable_26 : decode cX7_listRemovable 26 = .ok (.getfield 58, 3) := by decide +kernel
theorem dX7_listRemovable_29 : decode cX7_listRemovable 29 = .ok (.iload_n 3, 1) := by decide +kernel
theorem dX7_listRemovable_30 : decode cX7_listRemovable 30 = .ok (.iload 4, 2) := by decide +kernel
theorem dX7_listRemovable_32 : decode cX7_listRemovable 32 = .ok (.iastore, 1) := by decide +kernel
theorem dX7_listRemovable_33 : decode cX7_listRemovable 33 = .ok (.iinc 3 1, 3) := by decide +kernel
theorem dX7_listRemovable_36 : decode cX7_listRemovable 36 = .ok (.iinc 4 1, 3) := by decide +kernel
theorem dX7_listRemovable_39 : decode cX7_listRemovable 39 = .ok (.goto (-34), 3) := by decide +kernel
theorem dX7_listRemovable_42 : decode cX7_listRemovable 42 = .ok (.iload_n 3, 1) := by decide +kernel
theorem dX7_listRemovable_43 : decode cX7_listRemovable 43 = .ok (.ireturn, 1) := by decide +kernel
theorem dJ6_bitCount_0f7a4_0 : decode cJ6_bitCount_0f7a4 0 = .ok (.iload_n 0, 1) := by decide +kernel
theorem dJ6_bitCount_0f7a4_1 : decode cJ6_bitCount_0f7a4 1 = .ok (.iload_n 0, 1) := by decide +kernel
theorem dJ6_bitCount_0f7a4_2 : decode cJ6_bitCount_0f7a4 2 = .ok (.iconst 1, 1) := by decide +kernel
theorem dJ6_bitCount_0f7a4_3 : decode cJ6_bitCount_0f7a4 3 = .ok (.iushr, 1) := by decide +kernel
theorem dJ6_bitCount_0f7a4_4 : decode cJ6_bitCount_0f7a4 4 = .ok (.ldc_w 265, 3) := by decide +kernel
theorem dJ6_bitCount_0f7a4_7 : decode cJ6_bitCount_0f7a4 7 = .ok (.iand, 1) := by decide +kernel
theorem dJ6_bitCount_0f7a4_8 : decode cJ6_bitCount_0f7a4 8 = .ok (.isub, 1) := by decide +kernel
theorem dJ6_bitCount_0f7a4_9 : decode cJ6_bitCount_0f7a4 9 = .ok (.istore_n 0, 1) := by decide +kernel
theorem dJ6_bitCount_0f7a4_10 : decode cJ6_bitCount_0f7a4 10 = .ok (.iload_n 0, 1) := by decide +kernel
theorem dJ6_bitCount_0f7a4_11 : decode cJ6_bitCount_0f7a4 11 = .ok (.ldc_w 266, 3) := by decide +kernel
theorem dJ6_bitCount_0f7a4_14 : decode cJ6_bitCount_0f7a4 14 = .ok (.iand, 1) := by decide +kernel
theorem dJ6_bitCount_0f7a4_15 : decode cJ6_bitCount_0f7a4 15 = .ok (.iload_n 0, 1) := by decide +kernel
theorem dJ6_bitCount_0f7a4_16 : decode cJ6_bitCount_0f7a4 16 = .ok (.iconst 2, 1) := by decide +kernel
theorem dJ6_bitCount_0f7a4_17 : decode cJ6_bitCount_0f7a4 17 = .ok (.iushr, 1) := by decide +kernel
theorem dJ6_bitCount_0f7a4_18 : decode cJ6_bitCount_0f7a4 18 = .ok (.ldc_w 266, 3) := by decide +kernel
theorem dJ6_bitCount_0f7a4_21 : decode cJ6_bitCount_0f7a4 21 = .ok (.iand, 1) := by decide +kernel
theorem dJ6_bitCount_0f7a4_22 : decode cJ6_bitCount_0f7a4 22 = .ok (.iadd, 1) := by decide +kernel
theorem dJ6_bitCount_0f7a4_23 : decode cJ6_bitCount_0f7a4 23 = .ok (.istore_n 0, 1) := by decide +kernel
theorem dJ6_bitCount_0f7a4_24 : decode cJ6_bitCount_0f7a4 24 = .ok (.iload_n 0, 1) := by decide +kernel
theorem dJ6_bitCount_0f7a4_25 : decode cJ6_bitCount_0f7a4 25 = .ok (.iload_n 0, 1) := by decide +kernel
theorem dJ6_bitCount_0f7a4_26 : decode cJ6_bitCount_0f7a4 26 = .ok (.iconst 4, 1) := by decide +kernel
theorem dJ6_bitCount_0f7a4_27 : decode cJ6_bitCount_0f7a4 27 = .ok (.iushr, 1) := by decide +kernel
theorem dJ6_bitCount_0f7a4_28 : decode cJ6_bitCount_0f7a4 28 = .ok (.iadd, 1) := by decide +kernel
theorem dJ6_bitCount_0f7a4_29 : decode cJ6_bitCount_0f7a4 29 = .ok (.ldc_w 267, 3) := by decide +kernel
theorem dJ6_bitCount_0f7a4_32 : decode cJ6_bitCount_0f7a4 32 = .ok (.iand, 1) := by decide +kernel
theorem dJ6_bitCount_0f7a4_33 : decode cJ6_bitCount_0f7a4 33 = .ok (.istore_n 0, 1) := by decide +kernel
theorem dJ6_bitCount_0f7a4_34 : decode cJ6_bitCount_0f7a4 34 = .ok (.iload_n 0, 1) := by decide +kernel
theorem dJ6_bitCount_0f7a4_35 : decode cJ6_bitCount_0f7a4 35 = .ok (.iload_n 0, 1) := by decide +kernel
theorem dJ6_bitCount_0f7a4_36 : decode cJ6_bitCount_0f7a4 36 = .ok (.bipush 8, 2) := by decide +kernel
theorem dJ6_bitCount_0f7a4_38 : decode cJ6_bitCount_0f7a4 38 = .ok (.iushr, 1) := by decide +kernel
theorem dJ6_bitCount_0f7a4_39 : decode cJ6_bitCount_0f7a4 39 = .ok (.iadd, 1) := by decide +kernel
theorem dJ6_bitCount_0f7a4_40 : decode cJ6_bitCount_0f7a4 40 = .ok (.istore_n 0, 1) := by decide +kernel
theorem dJ6_bitCount_0f7a4_41 : decode cJ6_bitCount_0f7a4 41 = .ok (.iload_n 0, 1) := by decide +kernel
theorem dJ6_bitCount_0f7a4_42 : decode cJ6_bitCount_0f7a4 42 = .ok (.iload_n 0, 1) := by decide +kernel
theorem dJ6_bitCount_0f7a4_43 : decode cJ6_bitCount_0f7a4 43 = .ok (.bipush 16, 2) := by decide +kernel
theorem dJ6_bitCount_0f7a4_45 : decode cJ6_bitCount_0f7a4 45 = .ok (.iushr, 1) := by decide +kernel
theorem dJ6_bitCount_0f7a4_46 : decode cJ6_bitCount_0f7a4 46 = .ok (.iadd, 1) := by decide +kernel
theorem dJ6_bitCount_0f7a4_47 : decode cJ6_bitCount_0f7a4 47 = .ok (.istore_n 0, 1) := by decide +kernel
theorem dJ6_bitCount_0f7a4_48 : decode cJ6_bitCount_0f7a4 48 = .ok (.iload_n 0, 1) := by decide +kernel
theorem dJ6_bitCount_0f7a4_49 : decode cJ6_bitCount_0f7a4 49 = .ok (.bipush 63, 2) := by decide +kernel
theorem dJ6_bitCount_0f7a4_51 : decode cJ6_bitCount_0f7a4 51 = .ok (.iand, 1) := by decide +kernel
theorem dJ6_bitCount_0f7a4_52 : decode cJ6_bitCount_0f7a4 52 = .ok (.ireturn, 1) := by decide +kernel
