theorem dX3_init_0 : decode cX3_init 0 = .ok (.aload_n 0, 1) := by decide +kernel
theorem dX3_init_1 : decode cX3_init 1 = .ok (.invokespecial 1, 3) := by decide +kernel
theorem dX3_init_4 : decode cX3_init 4 = .ok (.aload_n 0, 1) := by decide +kernel
theorem dX3_init_5 : decode cX3_init 5 = .ok (.sipush 1001, 3) := by decide +kernel
theorem dX3_init_8 : decode cX3_init 8 = .ok (.newarray .int, 2) := by decide +kernel
theorem dX3_init_10 : decode cX3_init 10 = .ok (.putfield 7, 3) := by decide +kernel
theorem dX3_init_13 : decode cX3_init 13 = .ok (.aload_n 0, 1) := by decide +kernel
theorem dX3_init_14 : decode cX3_init 14 = .ok (.sipush 1001, 3) := by decide +kernel
theorem dX3_init_17 : decode cX3_init 17 = .ok (.newarray .int, 2) := by decide +kernel
theorem dX3_init_19 : decode cX3_init 19 = .ok (.putfield 13, 3) := by decide +kernel
theorem dX3_init_22 : decode cX3_init 22 = .ok (.aload_n 0, 1) := by decide +kernel
theorem dX3_init_23 : decode cX3_init 23 = .ok (.sipush 1001, 3) := by decide +kernel
theorem dX3_init_26 : decode cX3_init 26 = .ok (.newarray .int, 2) := by decide +kernel
theorem dX3_init_28 : decode cX3_init 28 = .ok (.putfield 16, 3) := by decide +kernel
theorem dX3_init_31 : decode cX3_init 31 = .ok (.aload_n 0, 1) := by decide +kernel
theorem dX3_init_32 : decode cX3_init 32 = .ok (.sipush 1001, 3) := by decide +kernel
theorem dX3_init_35 : decode cX3_init 35 = .ok (.newarray .int, 2) := by decide +kernel
theorem dX3_init_37 : decode cX3_init 37 = .ok (.putfield 19, 3) := by decide +kernel
theorem dX3_init_40 : decode cX3_init 40 = .ok (.aload_n 0, 1) := by decide +kernel
theorem dX3_init_41 : decode cX3_init 41 = .ok (.sipush 1001, 3) := by decide +kernel
theorem dX3_init_44 : decode cX3_init 44 = .ok (.newarray .int, 2) := by decide +kernel
theorem dX3_init_46 : decode cX3_init 46 = .ok (.putfield 22, 3) := by decide +kernel
theorem dX3_init_49 : decode cX3_init 49 = .ok (.aload_n 0, 1) := by decide +kernel
theorem dX3_init_50 : decode cX3_init 50 = .ok (.sipush 1001, 3) := by decide +kernel
theorem dX3_init_53 : decode cX3_init 53 = .ok (.newarray .int, 2) := by decide +kernel
theorem dX3_init_55 : decode cX3_init 55 = .ok (.putfield 25, 3) := by decide +kernel
theorem dX3_init_58 : decode cX3_init 58 = .ok (.aload_n 0, 1) := by decide +kernel
theorem dX3_init_59 : decode cX3_init 59 = .ok (.sipush 1001, 3) := by decide +kernel
theorem dX3_init_62 : decode cX3_init 62 = .ok (.newarray .int, 2) := by decide +kernel
theorem dX3_init_64 : decode cX3_init 64 = .ok (.putfield 28, 3) := by decide +kernel
theorem dX3_init_67 : decode cX3_init 67 = .ok (.aload_n 0, 1) := by decide +kernel
theorem dX3_init_68 : decode cX3_init 68 = .ok (.sipush 1001, 3) := by decide +kernel
theorem dX3_init_71 : decode cX3_init 71 = .ok (.newarray .int, 2) := by decide +kernel
theorem dX3_init_73 : decode cX3_init 73 = .ok (.putfield 31, 3) := by decide +kernel
theorem dX3_init_76 : decode cX3_init 76 = .ok (.aload_n 0, 1) := by decide +kernel
theorem dX3_init_77 : decode cX3_init 77 = .ok (.sipush 1001, 3) := by decide +kernel
theorem dX3_init_80 : decode cX3_init 80 = .ok (.newarray .int, 2) := by decide +kernel
theorem dX3_init_82 : decode cX3_init 82 = .ok (.putfield 34, 3) := by decide +kernel
theorem dX3_init_85 : decode cX3_init 85 = .ok (.aload_n 0, 1) := by decide +kernel
theorem dX3_init_86 : decode cX3_init 86 = .ok (.sipush 1001, 3) := by decide +kernel
theorem dX3_init_89 : decode cX3_init 89 = .ok (.newarray .boolean, 2) := by decide +kernel
theorem dX3_init_91 : decode cX3_init 91 = .ok (.putfield 37, 3) := by decide +kernel
theorem dX3_init_94 : decode cX3_init 94 = .ok (.aload_n 0, 1) := by decide +kernel
theorem dX3_init_95 : decode cX3_init 95 = .ok (.sipush 1001, 3) := by decide +kernel
theorem dX3_init_98 : decode cX3_init 98 = .ok (.newarray .boolean, 2) := by decide +kernel
theorem dX3_init_100 : decode cX3_init 100 = .ok (.putfield 41, 3) := by decide +kernel
theorem dX3_init_103 : decode cX3_init 103 = .ok (.aload_n 0, 1) := by decide +kernel
theorem dX3_init_104 : decode cX3_init 104 = .ok (.sipush 1001, 3) := by decide +kernel
theorem dX3_init_107 : decode cX3_init 107 = .ok (.newarray .boolean, 2) := by decide +kernel
theorem dX3_init_109 : decode cX3_init 109 = .ok (.putfield 44, 3) := by decide +kernel
theorem dX3_init_112 : decode cX3_init 112 = .ok (.aload_n 0, 1) := by decide +kernel
theorem dX3_init_113 : decode cX3_init 113 = .ok (.sipush 1100, 3) := by decide +kernel
theorem dX3_init_116 : decode cX3_init 116 = .ok (.newarray .int, 2) := by decide +kernel
theorem dX3_init_118 : decode cX3_init 118 = .ok (.putfield 47, 3) := by decide +kernel
theorem dX3_init_121 : decode cX3_init 121 = .ok (.aload_n 0, 1) := by decide +kernel
theorem dX3_init_122 : decode cX3_init 122 = .ok (.sipush 1100, 3) := by decide +kernel
theorem dX3_init_125 : decode cX3_init 125 = .ok (.newarray .int, 2) := by decide +kernel
theorem dX3_init_127 : decode cX3_init 127 = .ok (.putfield 50, 3) := by decide +kernel
theorem dX3_init_130 : decode cX3_init 130 = .ok (.aload_n 0, 1) := by decide +kernel
theorem dX3_init_131 : decode cX3_init 131 = .ok (.bipush 10, 2) := by decide +kernel
theorem dX3_init_133 : decode cX3_init 133 = .ok (.newarray .int, 2) := by decide +kernel
theorem dX3_init_135 : decode cX3_init 135 = .ok (.putfield 53, 3) := by decide +kernel
theorem dX3_init_138 : decode cX3_init 138 = .ok (.aload_n 0, 1) := by decide +kernel
theorem dX3_init_139 : decode cX3_init 139 = .ok (.bipush 10, 2) := by decide +kernel
theorem dX3_init_141 : decode cX3_init 141 = .ok (.newarray .int, 2) := by decide +kernel
theorem dX3_init_143 : decode cX3_init 143 = .ok (.putfield 56, 3) := by decide +kernel
theorem dX3_init_146 : decode cX3_init 146 = .ok (.aload_n 0, 1) := by decide +kernel
theorem dX3_init_147 : decode cX3_init 147 = .ok (.sipush 1001, 3) := by decide +kernel
theorem dX3_init_150 : decode cX3_init 150 = .ok (.newarray .int, 2) := by decide +kernel
theorem dX3_init_152 : decode cX3_init 152 = .ok (.putfield 59, 3) := by decide +kernel
theorem dX3_init_155 : decode cX3_init 155 = .ok (.aload_n 0, 1) := by decide +kernel
theorem dX3_init_156 : decode cX3_init 156 = .ok (.iload_n 1, 1) := by decide +kernel
theorem dX3_init_157 : decode cX3_init 157 = .ok (.ifCond .ge 7, 3) := by decide +kernel
theorem dX3_init_160 : decode cX3_init 160 = .ok (.iconst 0, 1) := by decide +kernel
theorem dX3_init_161 : decode cX3_init 161 = .ok (.goto 15, 3) := by decide +kernel
theorem dX3_init_164 : decode cX3_init 164 = .ok (.iload_n 1, 1) := by decide +kernel
theorem dX3_init_165 : decode cX3_init 165 = .ok (.ldc 62, 2) := by decide +kernel
theorem dX3_init_167 : decode cX3_init 167 = .ok (.if_icmp .le 8, 3) := by decide +kernel
theorem dX3_init_170 : decode cX3_init 170 = .ok (.ldc 62, 2) := by decide +kernel
theorem dX3_init_172 : decode cX3_init 172 = .ok (.goto 4, 3) := by decide +kernel
theorem dX3_init_175 : decode cX3_init 175 = .ok (.iload_n 1, 1) := by decide +kernel
theorem dX3_init_176 : decode cX3_init 176 = .ok (.putfield 63, 3) := by decide +kernel
theorem dX3_init_179 : decode cX3_init 179 = .ok (.return_, 1) := by decide +kernel
theorem dX3_isGone_0 : decode cX3_isGone 0 = .ok (.aload_n 0, 1) := by decide +kernel
theorem dX3_isGone_1 : decode cX3_isGone 1 = .ok (.getfield 25, 3) := by decide +kernel
theorem dX3_isGone_4 : decode cX3_isGone 4 = .ok (.iload_n 1, 1) := by decide +kernel
theorem dX3_isGone_5 : decode cX3_isGone 5 = .ok (.iaload, 1) := by decide +kernel
theorem dX3_isGone_6 : decode cX3_isGone 6 = .ok (.iconst 4, 1) := by decide +kernel
theorem dX3_isGone_7 : decode cX3_isGone 7 = .ok (.if_icmp .eq 13, 3) := by decide +kernel
theorem dX3_isGone_10 : decode cX3_isGone 10 = .ok (.aload_n 0, 1) := by decide +kernel
theorem dX3_isGone_11 : decode cX3_isGone 11 = .ok (.getfield 25, 3) := by decide +kernel
theorem dX3_isGone_14 : decode cX3_isGone 14 = .ok (.iload_n 1, 1) := by decide +kernel
theorem dX3_isGone_15 : decode cX3_isGone 15 = .ok (.iaload, 1) := by decide +kernel
theorem dX3_isGone_16 : decode cX3_isGone 16 = .ok (.iconst 5, 1) := by decide +kernel
theorem dX3_isGone_17 : decode cX3_isGone 17 = .ok (.if_icmp .ne 7, 3) := by decide +kernel
theorem dX3_isGone_20 : decode cX3_isGone 20 = .ok (.iconst 1, 1) := by decide +kernel
theorem dX3_isGone_21 : decode cX3_isGone 21 = .ok (.goto 4, 3) := by decide +kernel
theorem dX3_isGone_24 : decode cX3_isGone 24 = .ok (.iconst 0, 1) := by decide +kernel
theorem dX3_isGone_25 : decode cX3_isGone 25 = .ok (.ireturn, 1) := by decide +kernel
theorem dX3_pagesOf_0 : decode cX3_pagesOf 0 = .ok (.aload_n 0, 1) := by decide +kernel
theorem dX3_pagesOf_1 : decode cX3_pagesOf 1 = .ok (.getfield 28, 3) := by decide +kernel
theorem dX3_pagesOf_4 : decode cX3_pagesOf 4 = .ok (.iload_n 1, 1) := by decide +kernel
theorem dX3_pagesOf_5 : decode cX3_pagesOf 5 = .ok (.iaload, 1) := by decide +kernel
theorem dX3_pagesOf_6 : decode cX3_pagesOf 6 = .ok (.bipush 8, 2) := by decide +kernel
theorem dX3_pagesOf_8 : decode cX3_pagesOf 8 = .ok (.iadd, 1) := by decide +kernel
theorem dX3_pagesOf_9 : decode cX3_pagesOf 9 = .ok (.iconst 1, 1) := by decide +kernel
theorem dX3_pagesOf_10 : decode cX3_pagesOf 10 = .ok (.isub, 1) := by decide +kernel
theorem dX3_pagesOf_11 : decode cX3_pagesOf 11 = .ok (.bipush 8, 2) := by decide +kernel
theorem dX3_pagesOf_13 : decode cX3_pagesOf 13 = .ok (.idiv, 1) := by decide +kernel
theorem dX3_pagesOf_14 : decode cX3_pagesOf 14 = .ok (.ireturn, 1) := by decide +kernel
theorem dX3_free_0 : decode cX3_free 0 = .ok (.aload_n 0, 1) := by decide +kernel
theorem dX3_free_1 : decode cX3_free 1 = .ok (.getfield 63, 3) := by decide +kernel
theorem dX3_free_4 : decode cX3_free 4 = .ok (.istore_n 1, 1) := by decide +kernel
theorem dX3_free_5 : decode cX3_free 5 = .ok (.iconst 1, 1) := by decide +kernel
theorem dX3_free_6 : decode cX3_free 6 = .ok (.istore_n 2, 1) := by decide +kernel
theorem dX3_free_7 : decode cX3_free 7 = .ok (.iload_n 2, 1) := by decide +kernel
theorem dX3_free_8 : decode cX3_free 8 = .ok (.aload_n 0, 1) := by decide +kernel
theorem dX3_free_9 : decode cX3_free 9 = .ok (.getfield 67, 3) := by decide +kernel
theorem dX3_free_12 : decode cX3_free 12 = .ok (.if_icmp .gt 29, 3) := by decide +kernel
theorem dX3_free_15 : decode cX3_free 15 = .ok (.iload_n 1, 1) := by decide +kernel
theorem dX3_free_16 : decode cX3_free 16 = .ok (.aload_n 0, 1) := by decide +kernel
theorem dX3_free_17 : decode cX3_free 17 = .ok (.iload_n 2, 1) := by decide +kernel
theorem dX3_free_18 : decode cX3_free 18 = .ok (.invokevirtual 73, 3) := by decide +kernel
theorem dX3_free_21 : decode cX3_free 21 = .ok (.ifCond .eq 7, 3) := by decide +kernel
theorem dX3_free_24 : decode cX3_free 24 = .ok (.iconst 0, 1) := by decide +kernel
theorem dX3_free_25 : decode cX3_free 25 = .ok (.goto 8, 3) := by decide +kernel
theorem dX3_free_28 : decode cX3_free 28 = .ok (.aload_n 0, 1) := by decide +kernel
theorem dX3_free_29 : decode cX3_free 29 = .ok (.iload_n 2, 1) := by decide +kernel
theorem dX3_free_30 : decode cX3_free 30 = .ok (.invokevirtual 77, 3) := by decide +kernel
theorem dX3_free_33 : decode cX3_free 33 = .ok (.isub, 1) := by decide +kernel
theorem dX3_free_34 : decode cX3_free 34 = .ok (.istore_n 1, 1) := by decide +kernel
theorem dX3_free_35 : decode cX3_free 35 = .ok (.iinc 2 1, 3) := by decide +kernel
theorem dX3_free_38 : decode cX3_free 38 = .ok (.goto (-31), 3) := by decide +kernel
theorem dX3_free_41 : decode cX3_free 41 = .ok (.iload_n 1, 1) := by decide +kernel
theorem dX3_free_42 : decode cX3_free 42 = .ok (.ireturn, 1) := by decide +kernel
theorem dX3_create_0 : decode cX3_create 0 = .ok (.aload_n 0, 1) := by decide +kernel
theorem dX3_create_1 : decode cX3_create 1 = .ok (.dup, 1) := by decide +kernel
theorem dX3_create_2 : decode cX3_create 2 = .ok (.getfield 67, 3) := by decide +kernel
theorem dX3_create_5 : decode cX3_create 5 = .ok (.iconst 1, 1) := by decide +kernel
theorem dX3_create_6 : decode cX3_create 6 = .ok (.iadd, 1) := by decide +kernel
theorem dX3_create_7 : decode cX3_create 7 = .ok (.putfield 67, 3) := by decide +kernel
theorem dX3_create_10 : decode cX3_create 10 = .ok (.aload_n 0, 1) := by decide +kernel
theorem dX3_create_11 : decode cX3_create 11 = .ok (.getfield 7, 3) := by decide +kernel
theorem dX3_create_14 : decode cX3_create 14 = .ok (.aload_n 0, 1) := by decide +kernel
theorem dX3_create_15 : decode cX3_create 15 = .ok (.getfield 67, 3) := by decide +kernel
theorem dX3_create_18 : decode cX3_create 18 = .ok (.iload_n 1, 1) := by decide +kernel
theorem dX3_create_19 : decode cX3_create 19 = .ok (.iastore, 1) := by decide +kernel
theorem dX3_create_20 : decode cX3_create 20 = .ok (.aload_n 0, 1) := by decide +kernel
theorem dX3_create_21 : decode cX3_create 21 = .ok (.getfield 13, 3) := by decide +kernel
theorem dX3_create_24 : decode cX3_create 24 = .ok (.aload_n 0, 1) := by decide +kernel
theorem dX3_create_25 : decode cX3_create 25 = .ok (.getfield 67, 3) := by decide +kernel
theorem dX3_create_28 : decode cX3_create 28 = .ok (.iload_n 2, 1) := by decide +kernel
theorem dX3_create_29 : decode cX3_create 29 = .ok (.iastore, 1) := by decide +kernel
theorem dX3_create_30 : decode cX3_create 30 = .ok (.aload_n 0, 1) := by decide +kernel
theorem dX3_create_31 : decode cX3_create 31 = .ok (.getfield 16, 3) := by decide +kernel
theorem dX3_create_34 : decode cX3_create 34 = .ok (.aload_n 0, 1) := by decide +kernel
theorem dX3_create_35 : decode cX3_create 35 = .ok (.getfield 67, 3) := by decide +kernel
theorem dX3_create_38 : decode cX3_create 38 = .ok (.iload_n 3, 1) := by decide +kernel
theorem dX3_create_39 : decode cX3_create 39 = .ok (.iastore, 1) := by decide +kernel
theorem dX3_create_40 : decode cX3_create 40 = .ok (.aload_n 0, 1) := by decide +kernel
theorem dX3_create_41 : decode cX3_create 41 = .ok (.getfield 19, 3) := by decide +kernel
theorem dX3_create_44 : decode cX3_create 44 = .ok (.aload_n 0, 1) := by decide +kernel
theorem dX3_create_45 : decode cX3_create 45 = .ok (.getfield 67, 3) := by decide +kernel
theorem dX3_create_48 : decode cX3_create 48 = .ok (.iload 4, 2) := by decide +kernel
theorem dX3_create_50 : decode cX3_create 50 = .ok (.iastore, 1) := by decide +kernel
theorem dX3_create_51 : decode cX3_create 51 = .ok (.aload_n 0, 1) := by decide +kernel
theorem dX3_create_52 : decode cX3_create 52 = .ok (.getfield 22, 3) := by decide +kernel
theorem dX3_create_55 : decode cX3_create 55 = .ok (.aload_n 0, 1) := by decide +kernel
theorem dX3_create_56 : decode cX3_create 56 = .ok (.getfield 67, 3) := by decide +kernel
theorem dX3_create_59 : decode cX3_create 59 = .ok (.iload 5, 2) := by decide +kernel
theorem dX3_create_61 : decode cX3_create 61 = .ok (.iastore, 1) := by decide +kernel
theorem dX3_create_62 : decode cX3_create 62 = .ok (.aload_n 0, 1) := by decide +kernel
theorem dX3_create_63 : decode cX3_create 63 = .ok (.getfield 25, 3) := by decide +kernel
theorem dX3_create_66 : decode cX3_create 66 = .ok (.aload_n 0, 1) := by decide +kernel
theorem dX3_create_67 : decode cX3_create 67 = .ok (.getfield 67, 3) := by decide +kernel
theorem dX3_create_70 : decode cX3_create 70 = .ok (.iconst 1, 1) := by decide +kernel
theorem dX3_create_71 : decode cX3_create 71 = .ok (.iastore, 1) := by decide +kernel
theorem dX3_create_72 : decode cX3_create 72 = .ok (.return_, 1) := by decide +kernel
theorem dX3_output_0 : decode cX3_output 0 = .ok (.iload_n 1, 1) := by decide +kernel
theorem dX3_output_1 : decode cX3_output 1 = .ok (.iconst 1, 1) := by decide +kernel
theorem dX3_output_2 : decode cX3_output 2 = .ok (.if_icmp .lt 31, 3) := by decide +kernel
theorem dX3_output_5 : decode cX3_output 5 = .ok (.iload_n 1, 1) := by decide +kernel
theorem dX3_output_6 : decode cX3_output 6 = .ok (.sipush 9999, 3) := by decide +kernel
theorem dX3_output_9 : decode cX3_output 9 = .ok (.if_icmp .gt 24, 3) := by decide +kernel
theorem dX3_output_12 : decode cX3_output 12 = .ok (.iload_n 2, 1) := by decide +kernel
theorem dX3_output_13 : decode cX3_output 13 = .ok (.ifCond .lt 20, 3) := by decide +kernel
theorem dX3_output_16 : decode cX3_output 16 = .ok (.iload_n 2, 1) := by decide +kernel
theorem dX3_output_17 : decode cX3_output 17 = .ok (.bipush 7, 2) := by decide +kernel
theorem dX3_output_19 : decode cX3_output 19 = .ok (.if_icmp .gt 14, 3) := by decide +kernel
theorem dX3_output_22 : decode cX3_output 22 = .ok (.iload_n 3, 1) := by decide +kernel
theorem dX3_output_23 : decode cX3_output 23 = .ok (.iconst 1, 1) := by decide +kernel
theorem dX3_output_24 : decode cX3_output 24 = .ok (.if_icmp .lt 9, 3) := by decide +kernel
theorem dX3_output_27 : decode cX3_output 27 = .ok (.iload_n 3, 1) := by decide +kernel
theorem dX3_output_28 : decode cX3_output 28 = .ok (.bipush 9, 2) := by decide +kernel
theorem dX3_output_30 : decode cX3_output 30 = .ok (.if_icmp .le 5, 3) := by decide +kernel
theorem dX3_output_33 : decode cX3_output 33 = .ok (.iconst (-1), 1) := by decide +kernel
theorem dX3_output_34 : decode cX3_output 34 = .ok (.ireturn, 1) := by decide +kernel
theorem dX3_output_35 : decode cX3_output 35 = .ok (.iconst 0, 1) := by decide +kernel
theorem dX3_output_36 : decode cX3_output 36 = .ok (.istore 4, 2) := by decide +kernel
theorem dX3_output_38 : decode cX3_output 38 = .ok (.iconst 1, 1) := by decide +kernel
theorem dX3_output_39 : decode cX3_output 39 = .ok (.istore 5, 2) := by decide +kernel
theorem dX3_output_41 : decode cX3_output 41 = .ok (.iload 5, 2) := by decide +kernel
theorem dX3_output_43 : decode cX3_output 43 = .ok (.aload_n 0, 1) := by decide +kernel
theorem dX3_output_44 : decode cX3_output 44 = .ok (.getfield 67, 3) := by decide +kernel
theorem dX3_output_47 : decode cX3_output 47 = .ok (.if_icmp .gt 41, 3) := by decide +kernel
theorem dX3_output_50 : decode cX3_output 50 = .ok (.iload 4, 2) := by decide +kernel
theorem dX3_output_52 : decode cX3_output 52 = .ok (.ifCond .ne 23, 3) := by decide +kernel
theorem dX3_output_55 : decode cX3_output 55 = .ok (.aload_n 0, 1) := by decide +kernel
theorem dX3_output_56 : decode cX3_output 56 = .ok (.getfield 7, 3) := by decide +kernel
theorem dX3_output_59 : decode cX3_output 59 = .ok (.iload 5, 2) := by decide +kernel
theorem dX3_output_61 : decode cX3_output 61 = .ok (.iaload, 1) := by decide +kernel
theorem dX3_output_62 : decode cX3_output 62 = .ok (.iload_n 1, 1) := by decide +kernel
theorem dX3_output_63 : decode cX3_output 63 = .ok (.if_icmp .ne 16, 3) := by decide +kernel
theorem dX3_output_66 : decode cX3_output 66 = .ok (.aload_n 0, 1) := by decide +kernel
theorem dX3_output_67 : decode cX3_output 67 = .ok (.iload 5, 2) := by decide +kernel
theorem dX3_output_69 : decode cX3_output 69 = .ok (.invokevirtual 73, 3) := by decide +kernel
theorem dX3_output_72 : decode cX3_output 72 = .ok (.ifCond .ne 7, 3) := by decide +kernel
theorem dX3_output_75 : decode cX3_output 75 = .ok (.iconst 1, 1) := by decide +kernel
theorem dX3_output_76 : decode cX3_output 76 = .ok (.goto 4, 3) := by decide +kernel
theorem dX3_output_79 : decode cX3_output 79 = .ok (.iconst 0, 1) := by decide +kernel
theorem dX3_output_80 : decode cX3_output 80 = .ok (.istore 4, 2) := by decide +kernel
theorem dX3_output_82 : decode cX3_output 82 = .ok (.iinc 5 1, 3) := by decide +kernel
theorem dX3_output_85 : decode cX3_output 85 = .ok (.goto (-44), 3) := by decide +kernel
theorem dX3_output_88 : decode cX3_output 88 = .ok (.aload_n 0, 1) := by decide +kernel
theorem dX3_output_89 : decode cX3_output 89 = .ok (.getfield 67, 3) := by decide +kernel
theorem dX3_output_92 : decode cX3_output 92 = .ok (.sipush 1000, 3) := by decide +kernel
theorem dX3_output_95 : decode cX3_output 95 = .ok (.if_icmp .eq 22, 3) := by decide +kernel
theorem dX3_output_98 : decode cX3_output 98 = .ok (.iload 4, 2) := by decide +kernel
theorem dX3_output_100 : decode cX3_output 100 = .ok (.ifCond .ne 19, 3) := by decide +kernel
theorem dX3_output_103 : decode cX3_output 103 = .ok (.aload_n 0, 1) := by decide +kernel
theorem dX3_output_104 : decode cX3_output 104 = .ok (.invokevirtual 81, 3) := by decide +kernel
theorem dX3_output_107 : decode cX3_output 107 = .ok (.aload_n 0, 1) := by decide +kernel
theorem dX3_output_108 : decode cX3_output 108 = .ok (.getfield 63, 3) := by decide +kernel
theorem dX3_output_111 : decode cX3_output 111 = .ok (.bipush 8, 2) := by decide +kernel
theorem dX3_output_113 : decode cX3_output 113 = .ok (.idiv, 1) := by decide +kernel
theorem dX3_output_114 : decode cX3_output 114 = .ok (.if_icmp .gt 5, 3) := by decide +kernel
theorem dX3_output_117 : decode cX3_output 117 = .ok (.iconst 0, 1) := by decide +kernel
theorem dX3_output_118 : decode cX3_output 118 = .ok (.ireturn, 1) := by decide +kernel
theorem dX3_output_119 : decode cX3_output 119 = .ok (.aload_n 0, 1) := by decide +kernel
theorem dX3_output_120 : decode cX3_output 120 = .ok (.iload_n 1, 1) := by decide +kernel
theorem dX3_output_121 : decode cX3_output 121 = .ok (.iload_n 2, 1) := by decide +kernel
theorem dX3_output_122 : decode cX3_output 122 = .ok (.iload_n 3, 1) := by decide +kernel
theorem dX3_output_123 : decode cX3_output 123 = .ok (.iconst 0, 1) := by decide +kernel
theorem dX3_output_124 : decode cX3_output 124 = .ok (.iconst 0, 1) := by decide +kernel
theorem dX3_output_125 : decode cX3_output 125 = .ok (.invokevirtual 85, 3) := by decide +kernel
theorem dX3_output_128 : decode cX3_output 128 = .ok (.aload_n 0, 1) := by decide +kernel
theorem dX3_output_129 : decode cX3_output 129 = .ok (.getfield 67, 3) := by decide +kernel
theorem dX3_output_132 : decode cX3_output 132 = .ok (.ireturn, 1) := by decide +kernel
theorem dX3_isOutput_0 : decode cX3_isOutput 0 = .ok (.iload_n 1, 1) := by decide +kernel
theorem dX3_isOutput_1 : decode cX3_isOutput 1 = .ok (.ifCond .le 15, 3) := by decide +kernel
theorem dX3_isOutput_4 : decode cX3_isOutput 4 = .ok (.iload_n 1, 1) := by decide +kernel
theorem dX3_isOutput_5 : decode cX3_isOutput 5 = .ok (.aload_n 0, 1) := by decide +kernel
theorem dX3_isOutput_6 : decode cX3_isOutput 6 = .ok (.getfield 67, 3) := by decide +kernel
theorem dX3_isOutput_9 : decode cX3_isOutput 9 = .ok (.if_icmp .gt 7, 3) := by decide +kernel
theorem dX3_isOutput_12 : decode cX3_isOutput 12 = .ok (.iconst 1, 1) := by decide +kernel
theorem dX3_isOutput_13 : decode cX3_isOutput 13 = .ok (.goto 4, 3) := by decide +kernel
theorem dX3_isOutput_16 : decode cX3_isOutput 16 = .ok (.iconst 0, 1) := by decide +kernel
theorem dX3_isOutput_17 : decode cX3_isOutput 17 = .ok (.ireturn, 1) := by decide +kernel
theorem dX3_line_0 : decode cX3_line 0 = .ok (.aload_n 0, 1) := by decide +kernel
theorem dX3_line_1 : decode cX3_line 1 = .ok (.iload_n 1, 1) := by decide +kernel
theorem dX3_line_2 : decode cX3_line 2 = .ok (.invokevirtual 89, 3) := by decide +kernel
theorem dX3_line_5 : decode cX3_line 5 = .ok (.ifCond .eq 13, 3) := by decide +kernel
theorem dX3_line_8 : decode cX3_line 8 = .ok (.iload_n 2, 1) := by decide +kernel
theorem dX3_line_9 : decode cX3_line 9 = .ok (.ifCond .lt 9, 3) := by decide +kernel
theorem dX3_line_12 : decode cX3_line 12 = .ok (.iload_n 2, 1) := by decide +kernel
theorem dX3_line_13 : decode cX3_line 13 = .ok (.ldc 92, 2) := by decide +kernel
theorem dX3_line_15 : decode cX3_line 15 = .ok (.if_icmp .le 5, 3) := by decide +kernel
theorem dX3_line_18 : decode cX3_line 18 = .ok (.iconst (-1), 1) := by decide +kernel
theorem dX3_line_19 : decode cX3_line 19 = .ok (.ireturn, 1) := by decide +kernel
theorem dX3_line_20 : decode cX3_line 20 = .ok (.aload_n 0, 1) := by decide +kernel
theorem dX3_line_21 : decode cX3_line 21 = .ok (.getfield 25, 3) := by decide +kernel
theorem dX3_line_24 : decode cX3_line 24 = .ok (.iload_n 1, 1) := by decide +kernel
theorem dX3_line_25 : decode cX3_line 25 = .ok (.iaload, 1) := by decide +kernel
theorem dX3_line_26 : decode cX3_line 26 = .ok (.iconst 1, 1) := by decide +kernel
theorem dX3_line_27 : decode cX3_line 27 = .ok (.if_icmp .eq 6, 3) := by decide +kernel
theorem dX3_line_30 : decode cX3_line 30 = .ok (.bipush (-2), 2) := by decide +kernel
theorem dX3_line_32 : decode cX3_line 32 = .ok (.ireturn, 1) := by decide +kernel
theorem dX3_line_33 : decode cX3_line 33 = .ok (.aload_n 0, 1) := by decide +kernel
theorem dX3_line_34 : decode cX3_line 34 = .ok (.getfield 31, 3) := by decide +kernel
theorem dX3_line_37 : decode cX3_line 37 = .ok (.iload_n 1, 1) := by decide +kernel
theorem dX3_line_38 : decode cX3_line 38 = .ok (.iaload, 1) := by decide +kernel
theorem dX3_line_39 : decode cX3_line 39 = .ok (.ifCond .le 22, 3) := by decide +kernel
theorem dX3_line_42 : decode cX3_line 42 = .ok (.aload_n 0, 1) := by decide +kernel
theorem dX3_line_43 : decode cX3_line 43 = .ok (.getfield 28, 3) := by decide +kernel
theorem dX3_line_46 : decode cX3_line 46 = .ok (.iload_n 1, 1) := by decide +kernel
theorem dX3_line_47 : decode cX3_line 47 = .ok (.iaload, 1) := by decide +kernel
theorem dX3_line_48 : decode cX3_line 48 = .ok (.aload_n 0, 1) := by decide +kernel
theorem dX3_line_49 : decode cX3_line 49 = .ok (.getfield 31, 3) := by decide +kernel
theorem dX3_line_52 : decode cX3_line 52 = .ok (.iload_n 1, 1) := by decide +kernel
theorem dX3_line_53 : decode cX3_line 53 = .ok (.iaload, 1) := by decide +kernel
theorem dX3_line_54 : decode cX3_line 54 = .ok (.if_icmp .lt 7, 3) := by decide +kernel
theorem dX3_line_57 : decode cX3_line 57 = .ok (.iconst 1, 1) := by decide +kernel
theorem dX3_line_58 : decode cX3_line 58 = .ok (.goto 4, 3) := by decide +kernel
theorem dX3_line_61 : decode cX3_line 61 = .ok (.iconst 0, 1) := by decide +kernel
theorem dX3_line_62 : decode cX3_line 62 = .ok (.istore_n 3, 1) := by decide +kernel
theorem dX3_line_63 : decode cX3_line 63 = .ok (.iload_n 3, 1) := by decide +kernel
theorem dX3_line_64 : decode cX3_line 64 = .ok (.ifCond .eq 14, 3) := by decide +kernel
theorem dX3_line_67 : decode cX3_line 67 = .ok (.aload_n 0, 1) := by decide +kernel
theorem dX3_line_68 : decode cX3_line 68 = .ok (.getfield 37, 3) := by decide +kernel
theorem dX3_line_71 : decode cX3_line 71 = .ok (.iload_n 1, 1) := by decide +kernel
theorem dX3_line_72 : decode cX3_line 72 = .ok (.baload, 1) := by decide +kernel
theorem dX3_line_73 : decode cX3_line 73 = .ok (.ifCond .eq 5, 3) := by decide +kernel
theorem dX3_line_76 : decode cX3_line 76 = .ok (.iconst 0, 1) := by decide +kernel
theorem dX3_line_77 : decode cX3_line 77 = .ok (.ireturn, 1) := by decide +kernel
theorem dX3_line_78 : decode cX3_line 78 = .ok (.aload_n 0, 1) := by decide +kernel
theorem dX3_line_79 : decode cX3_line 79 = .ok (.getfield 28, 3) := by decide +kernel
theorem dX3_line_82 : decode cX3_line 82 = .ok (.iload_n 1, 1) := by decide +kernel
theorem dX3_line_83 : decode cX3_line 83 = .ok (.iaload, 1) := by decide +kernel
theorem dX3_line_84 : decode cX3_line 84 = .ok (.bipush 8, 2) := by decide +kernel
theorem dX3_line_86 : decode cX3_line 86 = .ok (.irem, 1) := by decide +kernel
theorem dX3_line_87 : decode cX3_line 87 = .ok (.ifCond .ne 13, 3) := by decide +kernel
theorem dX3_line_90 : decode cX3_line 90 = .ok (.aload_n 0, 1) := by decide +kernel
theorem dX3_line_91 : decode cX3_line 91 = .ok (.invokevirtual 81, 3) := by decide +kernel
theorem dX3_line_94 : decode cX3_line 94 = .ok (.ifCond .ne 6, 3) := by decide +kernel
theorem dX3_line_97 : decode cX3_line 97 = .ok (.bipush (-3), 2) := by decide +kernel
theorem dX3_line_99 : decode cX3_line 99 = .ok (.ireturn, 1) := by decide +kernel
theorem dX3_line_100 : decode cX3_line 100 = .ok (.aload_n 0, 1) := by decide +kernel
theorem dX3_line_101 : decode cX3_line 101 = .ok (.getfield 47, 3) := by decide +kernel
theorem dX3_line_104 : decode cX3_line 104 = .ok (.aload_n 0, 1) := by decide +kernel
theorem dX3_line_105 : decode cX3_line 105 = .ok (.getfield 93, 3) := by decide +kernel
theorem dX3_line_108 : decode cX3_line 108 = .ok (.iload_n 1, 1) := by decide +kernel
theorem dX3_line_109 : decode cX3_line 109 = .ok (.iastore, 1) := by decide +kernel
theorem dX3_line_110 : decode cX3_line 110 = .ok (.aload_n 0, 1) := by decide +kernel
theorem dX3_line_111 : decode cX3_line 111 = .ok (.getfield 50, 3) := by decide +kernel
theorem dX3_line_114 : decode cX3_line 114 = .ok (.aload_n 0, 1) := by decide +kernel
theorem dX3_line_115 : decode cX3_line 115 = .ok (.getfield 93, 3) := by decide +kernel
theorem dX3_line_118 : decode cX3_line 118 = .ok (.iload_n 2, 1) := by decide +kernel
theorem dX3_line_119 : decode cX3_line 119 = .ok (.sipush 256, 3) := by decide +kernel
theorem dX3_line_122 : decode cX3_line 122 = .ok (.idiv, 1) := by decide +kernel
theorem dX3_line_123 : decode cX3_line 123 = .ok (.ifCond .le 11, 3) := by decide +kernel
theorem dX3_line_126 : decode cX3_line 126 = .ok (.iload_n 2, 1) := by decide +kernel
theorem dX3_line_127 : decode cX3_line 127 = .ok (.sipush 256, 3) := by decide +kernel
theorem dX3_line_130 : decode cX3_line 130 = .ok (.irem, 1) := by decide +kernel
theorem dX3_line_131 : decode cX3_line 131 = .ok (.goto 4, 3) := by decide +kernel
theorem dX3_line_134 : decode cX3_line 134 = .ok (.iconst (-1), 1) := by decide +kernel
theorem dX3_line_135 : decode cX3_line 135 = .ok (.iastore, 1) := by decide +kernel
theorem dX3_line_136 : decode cX3_line 136 = .ok (.aload_n 0, 1) := by decide +kernel
theorem dX3_line_137 : decode cX3_line 137 = .ok (.dup, 1) := by decide +kernel
theorem dX3_line_138 : decode cX3_line 138 = .ok (.getfield 93, 3) := by decide +kernel
theorem dX3_line_141 : decode cX3_line 141 = .ok (.iconst 1, 1) := by decide +kernel
theorem dX3_line_142 : decode cX3_line 142 = .ok (.iadd, 1) := by decide +kernel
theorem dX3_line_143 : decode cX3_line 143 = .ok (.putfield 93, 3) := by decide +kernel
theorem dX3_line_146 : decode cX3_line 146 = .ok (.aload_n 0, 1) := by decide +kernel
theorem dX3_line_147 : decode cX3_line 147 = .ok (.getfield 28, 3) := by decide +kernel
theorem dX3_line_150 : decode cX3_line 150 = .ok (.iload_n 1, 1) := by decide +kernel
theorem dX3_line_151 : decode cX3_line 151 = .ok (.dup2, 1) := by decide +kernel
theorem dX3_line_152 : decode cX3_line 152 = .ok (.iaload, 1) := by decide +kernel
theorem dX3_line_153 : decode cX3_line 153 = .ok (.iconst 1, 1) := by decide +kernel
theorem dX3_line_154 : decode cX3_line 154 = .ok (.iadd, 1) := by decide +kernel
theorem dX3_line_155 : decode cX3_line 155 = .ok (.iastore, 1) := by decide +kernel
theorem dX3_line_156 : decode cX3_line 156 = .ok (.iload_n 3, 1) := by decide +kernel
theorem dX3_line_157 : decode cX3_line 157 = .ok (.ifCond .eq 7, 3) := by decide +kernel
theorem dX3_line_160 : decode cX3_line 160 = .ok (.iconst 2, 1) := by decide +kernel
theorem dX3_line_161 : decode cX3_line 161 = .ok (.goto 4, 3) := by decide +kernel
theorem dX3_line_164 : decode cX3_line 164 = .ok (.iconst 1, 1) := by decide +kernel
theorem dX3_line_165 : decode cX3_line 165 = .ok (.ireturn, 1) := by decide +kernel
theorem dX3_limit_0 : decode cX3_limit 0 = .ok (.aload_n 0, 1) := by decide +kernel
theorem dX3_limit_1 : decode cX3_limit 1 = .ok (.iload_n 1, 1) := by decide +kernel
theorem dX3_limit_2 : decode cX3_limit 2 = .ok (.invokevirtual 89, 3) := by decide +kernel
theorem dX3_limit_5 : decode cX3_limit 5 = .ok (.ifCond .eq 7, 3) := by decide +kernel
theorem dX3_limit_8 : decode cX3_limit 8 = .ok (.iload_n 2, 1) := by decide +kernel
theorem dX3_limit_9 : decode cX3_limit 9 = .ok (.ifCond .ge 5, 3) := by decide +kernel
theorem dX3_limit_12 : decode cX3_limit 12 = .ok (.iconst (-1), 1) := by decide +kernel
theorem dX3_limit_13 : decode cX3_limit 13 = .ok (.ireturn, 1) := by decide +kernel
theorem dX3_limit_14 : decode cX3_limit 14 = .ok (.aload_n 0, 1) := by decide +kernel
theorem dX3_limit_15 : decode cX3_limit 15 = .ok (.iload_n 1, 1) := by decide +kernel
theorem dX3_limit_16 : decode cX3_limit 16 = .ok (.invokevirtual 73, 3) := by decide +kernel
theorem dX3_limit_19 : decode cX3_limit 19 = .ok (.ifCond .eq 6, 3) := by decide +kernel
theorem dX3_limit_22 : decode cX3_limit 22 = .ok (.bipush (-2), 2) := by decide +kernel
theorem dX3_limit_24 : decode cX3_limit 24 = .ok (.ireturn, 1) := by decide +kernel
theorem dX3_limit_25 : decode cX3_limit 25 = .ok (.aload_n 0, 1) := by decide +kernel
theorem dX3_limit_26 : decode cX3_limit 26 = .ok (.getfield 31, 3) := by decide +kernel
theorem dX3_limit_29 : decode cX3_limit 29 = .ok (.iload_n 1, 1) := by decide +kernel
theorem dX3_limit_30 : decode cX3_limit 30 = .ok (.iload_n 2, 1) := by decide +kernel
theorem dX3_limit_31 : decode cX3_limit 31 = .ok (.iastore, 1) := by decide +kernel
theorem dX3_limit_32 : decode cX3_limit 32 = .ok (.aload_n 0, 1) := by decide +kernel
theorem dX3_limit_33 : decode cX3_limit 33 = .ok (.getfield 37, 3) := by decide +kernel
theorem dX3_limit_36 : decode cX3_limit 36 = .ok (.iload_n 1, 1) := by decide +kernel
theorem dX3_limit_37 : decode cX3_limit 37 = .ok (.iload_n 3, 1) := by decide +kernel
theorem dX3_limit_38 : decode cX3_limit 38 = .ok (.bastore, 1) := by decide +kernel
theorem dX3_limit_39 : decode cX3_limit 39 = .ok (.iconst 1, 1) := by decide +kernel
theorem dX3_limit_40 : decode cX3_limit 40 = .ok (.ireturn, 1) := by decide +kernel
theorem dX3_goes_0 : decode cX3_goes 0 = .ok (.aload_n 0, 1) := by decide +kernel
theorem dX3_goes_1 : decode cX3_goes 1 = .ok (.getfield 25, 3) := by decide +kernel
theorem dX3_goes_4 : decode cX3_goes 4 = .ok (.iload_n 1, 1) := by decide +kernel
theorem dX3_goes_5 : decode cX3_goes 5 = .ok (.iload_n 2, 1) := by decide +kernel
theorem dX3_goes_6 : decode cX3_goes 6 = .ok (.iastore, 1) := by decide +kernel
theorem dX3_goes_7 : decode cX3_goes 7 = .ok (.aload_n 0, 1) := by decide +kernel
theorem dX3_goes_8 : decode cX3_goes 8 = .ok (.getfield 41, 3) := by decide +kernel
theorem dX3_goes_11 : decode cX3_goes 11 = .ok (.iload_n 1, 1) := by decide +kernel
theorem dX3_goes_12 : decode cX3_goes 12 = .ok (.iconst 0, 1) := by decide +kernel
theorem dX3_goes_13 : decode cX3_goes 13 = .ok (.bastore, 1) := by decide +kernel
theorem dX3_goes_14 : decode cX3_goes 14 = .ok (.return_, 1) := by decide +kernel
theorem dX3_end_0 : decode cX3_end 0 = .ok (.iconst 0, 1) := by decide +kernel
theorem dX3_end_1 : decode cX3_end 1 = .ok (.istore_n 2, 1) := by decide +kernel
theorem dX3_end_2 : decode cX3_end 2 = .ok (.iconst 1, 1) := by decide +kernel
theorem dX3_end_3 : decode cX3_end 3 = .ok (.istore_n 3, 1) := by decide +kernel
theorem dX3_end_4 : decode cX3_end 4 = .ok (.iload_n 3, 1) := by decide +kernel
theorem dX3_end_5 : decode cX3_end 5 = .ok (.aload_n 0, 1) := by decide +kernel
theorem dX3_end_6 : decode cX3_end 6 = .ok (.getfield 67, 3) := by decide +kernel
theorem dX3_end_9 : decode cX3_end 9 = .ok (.if_icmp .gt 60, 3) := by decide +kernel
theorem dX3_end_12 : decode cX3_end 12 = .ok (.aload_n 0, 1) := by decide +kernel
theorem dX3_end_13 : decode cX3_end 13 = .ok (.getfield 7, 3) := by decide +kernel
theorem dX3_end_16 : decode cX3_end 16 = .ok (.iload_n 3, 1) := by decide +kernel
theorem dX3_end_17 : decode cX3_end 17 = .ok (.iaload, 1) := by decide +kernel
theorem dX3_end_18 : decode cX3_end 18 = .ok (.iload_n 1, 1) := by decide +kernel
theorem dX3_end_19 : decode cX3_end 19 = .ok (.if_icmp .ne 44, 3) := by decide +kernel
theorem dX3_end_22 : decode cX3_end 22 = .ok (.aload_n 0, 1) := by decide +kernel
theorem dX3_end_23 : decode cX3_end 23 = .ok (.getfield 25, 3) := by decide +kernel
theorem dX3_end_26 : decode cX3_end 26 = .ok (.iload_n 3, 1) := by decide +kernel
theorem dX3_end_27 : decode cX3_end 27 = .ok (.iaload, 1) := by decide +kernel
theorem dX3_end_28 : decode cX3_end 28 = .ok (.iconst 1, 1) := by decide +kernel
theorem dX3_end_29 : decode cX3_end 29 = .ok (.if_icmp .eq 6, 3) := by decide +kernel
theorem dX3_end_32 : decode cX3_end 32 = .ok (.goto 31, 3) := by decide +kernel
theorem dX3_end_35 : decode cX3_end 35 = .ok (.iinc 2 1, 3) := by decide +kernel
theorem dX3_end_38 : decode cX3_end 38 = .ok (.aload_n 0, 1) := by decide +kernel
theorem dX3_end_39 : decode cX3_end 39 = .ok (.getfield 28, 3) := by decide +kernel
theorem dX3_end_42 : decode cX3_end 42 = .ok (.iload_n 3, 1) := by decide +kernel
theorem dX3_end_43 : decode cX3_end 43 = .ok (.iaload, 1) := by decide +kernel
theorem dX3_end_44 : decode cX3_end 44 = .ok (.ifCond .ne 12, 3) := by decide +kernel
theorem dX3_end_47 : decode cX3_end 47 = .ok (.aload_n 0, 1) := by decide +kernel
theorem dX3_end_48 : decode cX3_end 48 = .ok (.iload_n 3, 1) := by decide +kernel
theorem dX3_end_49 : decode cX3_end 49 = .ok (.iconst 5, 1) := by decide +kernel
theorem dX3_end_50 : decode cX3_end 50 = .ok (.invokevirtual 96, 3) := by decide +kernel
theorem dX3_end_53 : decode cX3_end 53 = .ok (.goto 10, 3) := by decide +kernel
theorem dX3_end_56 : decode cX3_end 56 = .ok (.aload_n 0, 1) := by decide +kernel
theorem dX3_end_57 : decode cX3_end 57 = .ok (.getfield 25, 3) := by decide +kernel
theorem dX3_end_60 : decode cX3_end 60 = .ok (.iload_n 3, 1) := by decide +kernel
theorem dX3_end_61 : decode cX3_end 61 = .ok (.iconst 2, 1) := by decide +kernel
theorem dX3_end_62 : decode cX3_end 62 = .ok (.iastore, 1) := by decide +kernel
theorem dX3_end_63 : decode cX3_end 63 = .ok (.iinc 3 1, 3) := by decide +kernel
theorem dX3_end_66 : decode cX3_end 66 = .ok (.goto (-62), 3) := by decide +kernel
theorem dX3_end_69 : decode cX3_end 69 = .ok (.iload_n 2, 1) := by decide +kernel
theorem dX3_end_70 : decode cX3_end 70 = .ok (.ireturn, 1) := by decide +kernel
theorem dX3_segment_0 : decode cX3_segment 0 = .ok (.aload_n 0, 1) := by decide +kernel
theorem dX3_segment_1 : decode cX3_segment 1 = .ok (.iload_n 1, 1) := by decide +kernel
theorem dX3_segment_2 : decode cX3_segment 2 = .ok (.invokevirtual 89, 3) := by decide +kernel
theorem dX3_segment_5 : decode cX3_segment 5 = .ok (.ifCond .ne 5, 3) := by decide +kernel
theorem dX3_segment_8 : decode cX3_segment 8 = .ok (.iconst (-1), 1) := by decide +kernel
theorem dX3_segment_9 : decode cX3_segment 9 = .ok (.ireturn, 1) := by decide +kernel
theorem dX3_segment_10 : decode cX3_segment 10 = .ok (.aload_n 0, 1) := by decide +kernel
theorem dX3_segment_11 : decode cX3_segment 11 = .ok (.getfield 25, 3) := by decide +kernel
theorem dX3_segment_14 : decode cX3_segment 14 = .ok (.iload_n 1, 1) := by decide +kernel
theorem dX3_segment_15 : decode cX3_segment 15 = .ok (.iaload, 1) := by decide +kernel
theorem dX3_segment_16 : decode cX3_segment 16 = .ok (.iconst 1, 1) := by decide +kernel
theorem dX3_segment_17 : decode cX3_segment 17 = .ok (.if_icmp .ne 12, 3) := by decide +kernel
theorem dX3_segment_20 : decode cX3_segment 20 = .ok (.aload_n 0, 1) := by decide +kernel
theorem dX3_segment_21 : decode cX3_segment 21 = .ok (.getfield 28, 3) := by decide +kernel
theorem dX3_segment_24 : decode cX3_segment 24 = .ok (.iload_n 1, 1) := by decide +kernel
theorem dX3_segment_25 : decode cX3_segment 25 = .ok (.iaload, 1) := by decide +kernel
theorem dX3_segment_26 : decode cX3_segment 26 = .ok (.ifCond .ne 6, 3) := by decide +kernel
theorem dX3_segment_29 : decode cX3_segment 29 = .ok (.bipush (-2), 2) := by decide +kernel
theorem dX3_segment_31 : decode cX3_segment 31 = .ok (.ireturn, 1) := by decide +kernel
theorem dX3_segment_32 : decode cX3_segment 32 = .ok (.aload_n 0, 1) := by decide +kernel
theorem dX3_segment_33 : decode cX3_segment 33 = .ok (.getfield 67, 3) := by decide +kernel
theorem dX3_segment_36 : decode cX3_segment 36 = .ok (.sipush 1000, 3) := by decide +kernel
theorem dX3_segment_39 : decode cX3_segment 39 = .ok (.if_icmp .ne 5, 3) := by decide +kernel
theorem dX3_segment_42 : decode cX3_segment 42 = .ok (.iconst 0, 1) := by decide +kernel
theorem dX3_segment_43 : decode cX3_segment 43 = .ok (.ireturn, 1) := by decide +kernel
theorem dX3_segment_44 : decode cX3_segment 44 = .ok (.aload_n 0, 1) := by decide +kernel
theorem dX3_segment_45 : decode cX3_segment 45 = .ok (.getfield 25, 3) := by decide +kernel
theorem dX3_segment_48 : decode cX3_segment 48 = .ok (.iload_n 1, 1) := by decide +kernel
theorem dX3_segment_49 : decode cX3_segment 49 = .ok (.iconst 2, 1) := by decide +kernel
theorem dX3_segment_50 : decode cX3_segment 50 = .ok (.iastore, 1) := by decide +kernel
theorem dX3_segment_51 : decode cX3_segment 51 = .ok (.aload_n 0, 1) := by decide +kernel
theorem dX3_segment_52 : decode cX3_segment 52 = .ok (.aload_n 0, 1) := by decide +kernel
theorem dX3_segment_53 : decode cX3_segment 53 = .ok (.getfield 7, 3) := by decide +kernel
theorem dX3_segment_56 : decode cX3_segment 56 = .ok (.iload_n 1, 1) := by decide +kernel
theorem dX3_segment_57 : decode cX3_segment 57 = .ok (.iaload, 1) := by decide +kernel
theorem dX3_segment_58 : decode cX3_segment 58 = .ok (.aload_n 0, 1) := by decide +kernel
theorem dX3_segment_59 : decode cX3_segment 59 = .ok (.getfield 13, 3) := by decide +kernel
theorem dX3_segment_62 : decode cX3_segment 62 = .ok (.iload_n 1, 1) := by decide +kernel
theorem dX3_segment_63 : decode cX3_segment 63 = .ok (.iaload, 1) := by decide +kernel
theorem dX3_segment_64 : decode cX3_segment 64 = .ok (.aload_n 0, 1) := by decide +kernel
theorem dX3_segment_65 : decode cX3_segment 65 = .ok (.getfield 16, 3) := by decide +kernel
theorem dX3_segment_68 : decode cX3_segment 68 = .ok (.iload_n 1, 1) := by decide +kernel
theorem dX3_segment_69 : decode cX3_segment 69 = .ok (.iaload, 1) := by decide +kernel
theorem dX3_segment_70 : decode cX3_segment 70 = .ok (.aload_n 0, 1) := by decide +kernel
theorem dX3_segment_71 : decode cX3_segment 71 = .ok (.getfield 19, 3) := by decide +kernel
theorem dX3_segment_74 : decode cX3_segment 74 = .ok (.iload_n 1, 1) := by decide +kernel
theorem dX3_segment_75 : decode cX3_segment 75 = .ok (.iaload, 1) := by decide +kernel
theorem dX3_segment_76 : decode cX3_segment 76 = .ok (.aload_n 0, 1) := by decide +kernel
theorem dX3_segment_77 : decode cX3_segment 77 = .ok (.getfield 22, 3) := by decide +kernel
theorem dX3_segment_80 : decode cX3_segment 80 = .ok (.iload_n 1, 1) := by decide +kernel
theorem dX3_segment_81 : decode cX3_segment 81 = .ok (.iaload, 1) := by decide +kernel
theorem dX3_segment_82 : decode cX3_segment 82 = .ok (.invokevirtual 85, 3) := by decide +kernel
theorem dX3_segment_85 : decode cX3_segment 85 = .ok (.aload_n 0, 1) := by decide +kernel
theorem dX3_segment_86 : decode cX3_segment 86 = .ok (.getfield 31, 3) := by decide +kernel
theorem dX3_segment_89 : decode cX3_segment 89 = .ok (.aload_n 0, 1) := by decide +kernel
theorem dX3_segment_90 : decode cX3_segment 90 = .ok (.getfield 67, 3) := by decide +kernel
theorem dX3_segment_93 : decode cX3_segment 93 = .ok (.aload_n 0, 1) := by decide +kernel
theorem dX3_segment_94 : decode cX3_segment 94 = .ok (.getfield 31, 3) := by decide +kernel
theorem dX3_segment_97 : decode cX3_segment 97 = .ok (.iload_n 1, 1) := by decide +kernel
theorem dX3_segment_98 : decode cX3_segment 98 = .ok (.iaload, 1) := by decide +kernel
theorem dX3_segment_99 : decode cX3_segment 99 = .ok (.iastore, 1) := by decide +kernel
theorem dX3_segment_100 : decode cX3_segment 100 = .ok (.aload_n 0, 1) := by decide +kernel
theorem dX3_segment_101 : decode cX3_segment 101 = .ok (.getfield 37, 3) := by decide +kernel
theorem dX3_segment_104 : decode cX3_segment 104 = .ok (.aload_n 0, 1) := by decide +kernel
theorem dX3_segment_105 : decode cX3_segment 105 = .ok (.getfield 67, 3) := by decide +kernel
theorem dX3_segment_108 : decode cX3_segment 108 = .ok (.aload_n 0, 1) := by decide +kernel
theorem dX3_segment_109 : decode cX3_segment 109 = .ok (.getfield 37, 3) := by decide +kernel
theorem dX3_segment_112 : decode cX3_segment 112 = .ok (.iload_n 1, 1) := by decide +kernel
theorem dX3_segment_113 : decode cX3_segment 113 = .ok (.baload, 1) := by decide +kernel
theorem dX3_segment_114 : decode cX3_segment 114 = .ok (.bastore, 1) := by decide +kernel
theorem dX3_segment_115 : decode cX3_segment 115 = .ok (.aload_n 0, 1) := by decide +kernel
theorem dX3_segment_116 : decode cX3_segment 116 = .ok (.getfield 41, 3) := by decide +kernel
theorem dX3_segment_119 : decode cX3_segment 119 = .ok (.aload_n 0, 1) := by decide +kernel
theorem dX3_segment_120 : decode cX3_segment 120 = .ok (.getfield 67, 3) := by decide +kernel
theorem dX3_segment_123 : decode cX3_segment 123 = .ok (.aload_n 0, 1) := by decide +kernel
theorem dX3_segment_124 : decode cX3_segment 124 = .ok (.getfield 41, 3) := by decide +kernel
theorem dX3_segment_127 : decode cX3_segment 127 = .ok (.iload_n 1, 1) := by decide +kernel
theorem dX3_segment_128 : decode cX3_segment 128 = .ok (.baload, 1) := by decide +kernel
theorem dX3_segment_129 : decode cX3_segment 129 = .ok (.bastore, 1) := by decide +kernel
theorem dX3_segment_130 : decode cX3_segment 130 = .ok (.aload_n 0, 1) := by decide +kernel
theorem dX3_segment_131 : decode cX3_segment 131 = .ok (.getfield 67, 3) := by decide +kernel
theorem dX3_segment_134 : decode cX3_segment 134 = .ok (.ireturn, 1) := by decide +kernel
theorem dX3_writer_0 : decode cX3_writer 0 = .ok (.iload_n 1, 1) := by decide +kernel
theorem dX3_writer_1 : decode cX3_writer 1 = .ok (.ifCond .lt 21, 3) := by decide +kernel
theorem dX3_writer_4 : decode cX3_writer 4 = .ok (.iload_n 1, 1) := by decide +kernel
theorem dX3_writer_5 : decode cX3_writer 5 = .ok (.bipush 16, 2) := by decide +kernel
theorem dX3_writer_7 : decode cX3_writer 7 = .ok (.irem, 1) := by decide +kernel
theorem dX3_writer_8 : decode cX3_writer 8 = .ok (.bipush 8, 2) := by decide +kernel
theorem dX3_writer_10 : decode cX3_writer 10 = .ok (.if_icmp .gt 12, 3) := by decide +kernel
theorem dX3_writer_13 : decode cX3_writer 13 = .ok (.iload_n 1, 1) := by decide +kernel
theorem dX3_writer_14 : decode cX3_writer 14 = .ok (.bipush 16, 2) := by decide +kernel
theorem dX3_writer_16 : decode cX3_writer 16 = .ok (.idiv, 1) := by decide +kernel
theorem dX3_writer_17 : decode cX3_writer 17 = .ok (.bipush 8, 2) := by decide +kernel
theorem dX3_writer_19 : decode cX3_writer 19 = .ok (.if_icmp .le 5, 3) := by decide +kernel
theorem dX3_writer_22 : decode cX3_writer 22 = .ok (.iconst (-1), 1) := by decide +kernel
theorem dX3_writer_23 : decode cX3_writer 23 = .ok (.ireturn, 1) := by decide +kernel
theorem dX3_writer_24 : decode cX3_writer 24 = .ok (.aload_n 0, 1) := by decide +kernel
theorem dX3_writer_25 : decode cX3_writer 25 = .ok (.getfield 70, 3) := by decide +kernel
theorem dX3_writer_28 : decode cX3_writer 28 = .ok (.bipush 9, 2) := by decide +kernel
theorem dX3_writer_30 : decode cX3_writer 30 = .ok (.if_icmp .ne 5, 3) := by decide +kernel
theorem dX3_writer_33 : decode cX3_writer 33 = .ok (.iconst 0, 1) := by decide +kernel
theorem dX3_writer_34 : decode cX3_writer 34 = .ok (.ireturn, 1) := by decide +kernel
theorem dX3_writer_35 : decode cX3_writer 35 = .ok (.aload_n 0, 1) := by decide +kernel
theorem dX3_writer_36 : decode cX3_writer 36 = .ok (.dup, 1) := by decide +kernel
theorem dX3_writer_37 : decode cX3_writer 37 = .ok (.getfield 70, 3) := by decide +kernel
theorem dX3_writer_40 : decode cX3_writer 40 = .ok (.iconst 1, 1) := by decide +kernel
theorem dX3_writer_41 : decode cX3_writer 41 = .ok (.iadd, 1) := by decide +kernel
theorem dX3_writer_42 : decode cX3_writer 42 = .ok (.putfield 70, 3) := by decide +kernel
theorem dX3_writer_45 : decode cX3_writer 45 = .ok (.aload_n 0, 1) := by decide +kernel
theorem dX3_writer_46 : decode cX3_writer 46 = .ok (.getfield 53, 3) := by decide +kernel
theorem dX3_writer_49 : decode cX3_writer 49 = .ok (.aload_n 0, 1) := by decide +kernel
theorem dX3_writer_50 : decode cX3_writer 50 = .ok (.getfield 70, 3) := by decide +kernel
theorem dX3_writer_53 : decode cX3_writer 53 = .ok (.iload_n 1, 1) := by decide +kernel
theorem dX3_writer_54 : decode cX3_writer 54 = .ok (.iastore, 1) := by decide +kernel
theorem dX3_writer_55 : decode cX3_writer 55 = .ok (.aload_n 0, 1) := by decide +kernel
theorem dX3_writer_56 : decode cX3_writer 56 = .ok (.getfield 70, 3) := by decide +kernel
theorem dX3_writer_59 : decode cX3_writer 59 = .ok (.ireturn, 1) := by decide +kernel
theorem dX3_isWriter_0 : decode cX3_isWriter 0 = .ok (.iload_n 1, 1) := by decide +kernel
theorem dX3_isWriter_1 : decode cX3_isWriter 1 = .ok (.ifCond .le 15, 3) := by decide +kernel
theorem dX3_isWriter_4 : decode cX3_isWriter 4 = .ok (.iload_n 1, 1) := by decide +kernel
theorem dX3_isWriter_5 : decode cX3_isWriter 5 = .ok (.aload_n 0, 1) := by decide +kernel
theorem dX3_isWriter_6 : decode cX3_isWriter 6 = .ok (.getfield 70, 3) := by decide +kernel
theorem dX3_isWriter_9 : decode cX3_isWriter 9 = .ok (.if_icmp .gt 7, 3) := by decide +kernel
theorem dX3_isWriter_12 : decode cX3_isWriter 12 = .ok (.iconst 1, 1) := by decide +kernel
theorem dX3_isWriter_13 : decode cX3_isWriter 13 = .ok (.goto 4, 3) := by decide +kernel
theorem dX3_isWriter_16 : decode cX3_isWriter 16 = .ok (.iconst 0, 1) := by decide +kernel
theorem dX3_isWriter_17 : decode cX3_isWriter 17 = .ok (.ireturn, 1) := by decide +kernel
theorem dX3_fits_0 : decode cX3_fits 0 = .ok (.iload_n 2, 1) := by decide +kernel
theorem dX3_fits_1 : decode cX3_fits 1 = .ok (.bipush 16, 2) := by decide +kernel
theorem dX3_fits_3 : decode cX3_fits 3 = .ok (.irem, 1) := by decide +kernel
theorem dX3_fits_4 : decode cX3_fits 4 = .ok (.bipush 8, 2) := by decide +kernel
theorem dX3_fits_6 : decode cX3_fits 6 = .ok (.if_icmp .eq 16, 3) := by decide +kernel
theorem dX3_fits_9 : decode cX3_fits 9 = .ok (.iload_n 2, 1) := by decide +kernel
theorem dX3_fits_10 : decode cX3_fits 10 = .ok (.bipush 16, 2) := by decide +kernel
theorem dX3_fits_12 : decode cX3_fits 12 = .ok (.irem, 1) := by decide +kernel
theorem dX3_fits_13 : decode cX3_fits 13 = .ok (.aload_n 0, 1) := by decide +kernel
theorem dX3_fits_14 : decode cX3_fits 14 = .ok (.getfield 13, 3) := by decide +kernel
theorem dX3_fits_17 : decode cX3_fits 17 = .ok (.iload_n 1, 1) := by decide +kernel
theorem dX3_fits_18 : decode cX3_fits 18 = .ok (.iaload, 1) := by decide +kernel
theorem dX3_fits_19 : decode cX3_fits 19 = .ok (.if_icmp .ne 29, 3) := by decide +kernel
theorem dX3_fits_22 : decode cX3_fits 22 = .ok (.iload_n 2, 1) := by decide +kernel
theorem dX3_fits_23 : decode cX3_fits 23 = .ok (.bipush 16, 2) := by decide +kernel
theorem dX3_fits_25 : decode cX3_fits 25 = .ok (.idiv, 1) := by decide +kernel
theorem dX3_fits_26 : decode cX3_fits 26 = .ok (.ifCond .eq 18, 3) := by decide +kernel
theorem dX3_fits_29 : decode cX3_fits 29 = .ok (.iload_n 2, 1) := by decide +kernel
theorem dX3_fits_30 : decode cX3_fits 30 = .ok (.bipush 16, 2) := by decide +kernel
theorem dX3_fits_32 : decode cX3_fits 32 = .ok (.idiv, 1) := by decide +kernel
theorem dX3_fits_33 : decode cX3_fits 33 = .ok (.iconst 1, 1) := by decide +kernel
theorem dX3_fits_34 : decode cX3_fits 34 = .ok (.isub, 1) := by decide +kernel
theorem dX3_fits_35 : decode cX3_fits 35 = .ok (.aload_n 0, 1) := by decide +kernel
theorem dX3_fits_36 : decode cX3_fits 36 = .ok (.getfield 19, 3) := by decide +kernel
theorem dX3_fits_39 : decode cX3_fits 39 = .ok (.iload_n 1, 1) := by decide +kernel
theorem dX3_fits_40 : decode cX3_fits 40 = .ok (.iaload, 1) := by decide +kernel
theorem dX3_fits_41 : decode cX3_fits 41 = .ok (.if_icmp .ne 7, 3) := by decide +kernel
theorem dX3_fits_44 : decode cX3_fits 44 = .ok (.iconst 1, 1) := by decide +kernel
theorem dX3_fits_45 : decode cX3_fits 45 = .ok (.goto 4, 3) := by decide +kernel
theorem dX3_fits_48 : decode cX3_fits 48 = .ok (.iconst 0, 1) := by decide +kernel
theorem dX3_fits_49 : decode cX3_fits 49 = .ok (.ireturn, 1) := by decide +kernel
theorem dX3_next_0 : decode cX3_next 0 = .ok (.aload_n 0, 1) := by decide +kernel
theorem dX3_next_1 : decode cX3_next 1 = .ok (.iload_n 1, 1) := by decide +kernel
theorem dX3_next_2 : decode cX3_next 2 = .ok (.invokevirtual 100, 3) := by decide +kernel
theorem dX3_next_5 : decode cX3_next 5 = .ok (.ifCond .ne 5, 3) := by decide +kernel
theorem dX3_next_8 : decode cX3_next 8 = .ok (.iconst (-1), 1) := by decide +kernel
theorem dX3_next_9 : decode cX3_next 9 = .ok (.ireturn, 1) := by decide +kernel
theorem dX3_next_10 : decode cX3_next 10 = .ok (.aload_n 0, 1) := by decide +kernel
theorem dX3_next_11 : decode cX3_next 11 = .ok (.getfield 56, 3) := by decide +kernel
theorem dX3_next_14 : decode cX3_next 14 = .ok (.iload_n 1, 1) := by decide +kernel
theorem dX3_next_15 : decode cX3_next 15 = .ok (.iaload, 1) := by decide +kernel
theorem dX3_next_16 : decode cX3_next 16 = .ok (.ifCond .eq 6, 3) := by decide +kernel
theorem dX3_next_19 : decode cX3_next 19 = .ok (.bipush (-2), 2) := by decide +kernel
theorem dX3_next_21 : decode cX3_next 21 = .ok (.ireturn, 1) := by decide +kernel
theorem dX3_next_22 : decode cX3_next 22 = .ok (.iconst 0, 1) := by decide +kernel
theorem dX3_next_23 : decode cX3_next 23 = .ok (.istore_n 2, 1) := by decide +kernel
theorem dX3_next_24 : decode cX3_next 24 = .ok (.iconst 1, 1) := by decide +kernel
theorem dX3_next_25 : decode cX3_next 25 = .ok (.istore_n 3, 1) := by decide +kernel
theorem dX3_next_26 : decode cX3_next 26 = .ok (.iload_n 3, 1) := by decide +kernel
theorem dX3_next_27 : decode cX3_next 27 = .ok (.aload_n 0, 1) := by decide +kernel
theorem dX3_next_28 : decode cX3_next 28 = .ok (.getfield 67, 3) := by decide +kernel
theorem dX3_next_31 : decode cX3_next 31 = .ok (.if_icmp .gt 121, 3) := by decide +kernel
theorem dX3_next_34 : decode cX3_next 34 = .ok (.aload_n 0, 1) := by decide +kernel
theorem dX3_next_35 : decode cX3_next 35 = .ok (.getfield 25, 3) := by decide +kernel
theorem dX3_next_38 : decode cX3_next 38 = .ok (.iload_n 3, 1) := by decide +kernel
theorem dX3_next_39 : decode cX3_next 39 = .ok (.iaload, 1) := by decide +kernel
theorem dX3_next_40 : decode cX3_next 40 = .ok (.iconst 2, 1) := by decide +kernel
theorem dX3_next_41 : decode cX3_next 41 = .ok (.if_icmp .ne 105, 3) := by decide +kernel
theorem dX3_next_44 : decode cX3_next 44 = .ok (.aload_n 0, 1) := by decide +kernel
theorem dX3_next_45 : decode cX3_next 45 = .ok (.getfield 41, 3) := by decide +kernel
theorem dX3_next_48 : decode cX3_next 48 = .ok (.iload_n 3, 1) := by decide +kernel
theorem dX3_next_49 : decode cX3_next 49 = .ok (.baload, 1) := by decide +kernel
theorem dX3_next_50 : decode cX3_next 50 = .ok (.ifCond .ne 96, 3) := by decide +kernel
theorem dX3_next_53 : decode cX3_next 53 = .ok (.aload_n 0, 1) := by decide +kernel
theorem dX3_next_54 : decode cX3_next 54 = .ok (.getfield 28, 3) := by decide +kernel
theorem dX3_next_57 : decode cX3_next 57 = .ok (.iload_n 3, 1) := by decide +kernel
theorem dX3_next_58 : decode cX3_next 58 = .ok (.iaload, 1) := by decide +kernel
theorem dX3_next_59 : decode cX3_next 59 = .ok (.ifCond .eq 87, 3) := by decide +kernel
theorem dX3_next_62 : decode cX3_next 62 = .ok (.aload_n 0, 1) := by decide +kernel
theorem dX3_next_63 : decode cX3_next 63 = .ok (.iload_n 3, 1) := by decide +kernel
theorem dX3_next_64 : decode cX3_next 64 = .ok (.aload_n 0, 1) := by decide +kernel
theorem dX3_next_65 : decode cX3_next 65 = .ok (.getfield 53, 3) := by decide +kernel
theorem dX3_next_68 : decode cX3_next 68 = .ok (.iload_n 1, 1) := by decide +kernel
theorem dX3_next_69 : decode cX3_next 69 = .ok (.iaload, 1) := by decide +kernel
theorem dX3_next_70 : decode cX3_next 70 = .ok (.invokevirtual 103, 3) := by decide +kernel
theorem dX3_next_73 : decode cX3_next 73 = .ok (.ifCond .ne 6, 3) := by decide +kernel
theorem dX3_next_76 : decode cX3_next 76 = .ok (.goto 70, 3) := by decide +kernel
theorem dX3_next_79 : decode cX3_next 79 = .ok (.iload_n 2, 1) := by decide +kernel
theorem dX3_next_80 : decode cX3_next 80 = .ok (.ifCond .eq 48, 3) := by decide +kernel
theorem dX3_next_83 : decode cX3_next 83 = .ok (.aload_n 0, 1) := by decide +kernel
theorem dX3_next_84 : decode cX3_next 84 = .ok (.getfield 22, 3) := by decide +kernel
theorem dX3_next_87 : decode cX3_next 87 = .ok (.iload_n 3, 1) := by decide +kernel
theorem dX3_next_88 : decode cX3_next 88 = .ok (.iaload, 1) := by decide +kernel
theorem dX3_next_89 : decode cX3_next 89 = .ok (.aload_n 0, 1) := by decide +kernel
theorem dX3_next_90 : decode cX3_next 90 = .ok (.getfield 22, 3) := by decide +kernel
theorem dX3_next_93 : decode cX3_next 93 = .ok (.iload_n 2, 1) := by decide +kernel
theorem dX3_next_94 : decode cX3_next 94 = .ok (.iaload, 1) := by decide +kernel
theorem dX3_next_95 : decode cX3_next 95 = .ok (.if_icmp .gt 33, 3) := by decide +kernel
theorem dX3_next_98 : decode cX3_next 98 = .ok (.aload_n 0, 1) := by decide +kernel
theorem dX3_next_99 : decode cX3_next 99 = .ok (.getfield 22, 3) := by decide +kernel
theorem dX3_next_102 : decode cX3_next 102 = .ok (.iload_n 3, 1) := by decide +kernel
theorem dX3_next_103 : decode cX3_next 103 = .ok (.iaload, 1) := by decide +kernel
theorem dX3_next_104 : decode cX3_next 104 = .ok (.aload_n 0, 1) := by decide +kernel
theorem dX3_next_105 : decode cX3_next 105 = .ok (.getfield 22, 3) := by decide +kernel
theorem dX3_next_108 : decode cX3_next 108 = .ok (.iload_n 2, 1) := by decide +kernel
theorem dX3_next_109 : decode cX3_next 109 = .ok (.iaload, 1) := by decide +kernel
theorem dX3_next_110 : decode cX3_next 110 = .ok (.if_icmp .ne 22, 3) := by decide +kernel
theorem dX3_next_113 : decode cX3_next 113 = .ok (.aload_n 0, 1) := by decide +kernel
theorem dX3_next_114 : decode cX3_next 114 = .ok (.getfield 7, 3) := by decide +kernel
theorem dX3_next_117 : decode cX3_next 117 = .ok (.iload_n 3, 1) := by decide +kernel
theorem dX3_next_118 : decode cX3_next 118 = .ok (.iaload, 1) := by decide +kernel
theorem dX3_next_119 : decode cX3_next 119 = .ok (.aload_n 0, 1) := by decide +kernel
theorem dX3_next_120 : decode cX3_next 120 = .ok (.getfield 7, 3) := by decide +kernel
theorem dX3_next_123 : decode cX3_next 123 = .ok (.iload_n 2, 1) := by decide +kernel
theorem dX3_next_124 : decode cX3_next 124 = .ok (.iaload, 1) := by decide +kernel
theorem dX3_next_125 : decode cX3_next 125 = .ok (.if_icmp .ge 7, 3) := by decide +kernel
theorem dX3_next_128 : decode cX3_next 128 = .ok (.iconst 1, 1) := by decide +kernel
theorem dX3_next_129 : decode cX3_next 129 = .ok (.goto 4, 3) := by decide +kernel
theorem dX3_next_132 : decode cX3_next 132 = .ok (.iconst 0, 1) := by decide +kernel
theorem dX3_next_133 : decode cX3_next 133 = .ok (.istore 4, 2) := by decide +kernel
theorem dX3_next_135 : decode cX3_next 135 = .ok (.iload 4, 2) := by decide +kernel
theorem dX3_next_137 : decode cX3_next 137 = .ok (.ifCond .eq 7, 3) := by decide +kernel
theorem dX3_next_140 : decode cX3_next 140 = .ok (.iload_n 3, 1) := by decide +kernel
theorem dX3_next_141 : decode cX3_next 141 = .ok (.goto 4, 3) := by decide +kernel
theorem dX3_next_144 : decode cX3_next 144 = .ok (.iload_n 2, 1) := by decide +kernel
theorem dX3_next_145 : decode cX3_next 145 = .ok (.istore_n 2, 1) := by decide +kernel
theorem dX3_next_146 : decode cX3_next 146 = .ok (.iinc 3 1, 3) := by decide +kernel
theorem dX3_next_149 : decode cX3_next 149 = .ok (.goto (-123), 3) := by decide +kernel
theorem dX3_next_152 : decode cX3_next 152 = .ok (.iload_n 2, 1) := by decide +kernel
theorem dX3_next_153 : decode cX3_next 153 = .ok (.ifCond .ne 5, 3) := by decide +kernel
theorem dX3_next_156 : decode cX3_next 156 = .ok (.iconst 0, 1) := by decide +kernel
theorem dX3_next_157 : decode cX3_next 157 = .ok (.ireturn, 1) := by decide +kernel
theorem dX3_next_158 : decode cX3_next 158 = .ok (.aload_n 0, 1) := by decide +kernel
theorem dX3_next_159 : decode cX3_next 159 = .ok (.getfield 25, 3) := by decide +kernel
theorem dX3_next_162 : decode cX3_next 162 = .ok (.iload_n 2, 1) := by decide +kernel
theorem dX3_next_163 : decode cX3_next 163 = .ok (.iconst 3, 1) := by decide +kernel
theorem dX3_next_164 : decode cX3_next 164 = .ok (.iastore, 1) := by decide +kernel
theorem dX3_next_165 : decode cX3_next 165 = .ok (.aload_n 0, 1) := by decide +kernel
theorem dX3_next_166 : decode cX3_next 166 = .ok (.getfield 56, 3) := by decide +kernel
theorem dX3_next_169 : decode cX3_next 169 = .ok (.iload_n 1, 1) := by decide +kernel
theorem dX3_next_170 : decode cX3_next 170 = .ok (.iload_n 2, 1) := by decide +kernel
theorem dX3_next_171 : decode cX3_next 171 = .ok (.iastore, 1) := by decide +kernel
theorem dX3_next_172 : decode cX3_next 172 = .ok (.iload_n 2, 1) := by decide +kernel
theorem dX3_next_173 : decode cX3_next 173 = .ok (.ireturn, 1) := by decide +kernel
theorem dX3_print_0 : decode cX3_print 0 = .ok (.aload_n 0, 1) := by decide +kernel
theorem dX3_print_1 : decode cX3_print 1 = .ok (.iload_n 1, 1) := by decide +kernel
theorem dX3_print_2 : decode cX3_print 2 = .ok (.invokevirtual 100, 3) := by decide +kernel
theorem dX3_print_5 : decode cX3_print 5 = .ok (.ifCond .eq 7, 3) := by decide +kernel
theorem dX3_print_8 : decode cX3_print 8 = .ok (.iload_n 2, 1) := by decide +kernel
theorem dX3_print_9 : decode cX3_print 9 = .ok (.ifCond .ge 5, 3) := by decide +kernel
theorem dX3_print_12 : decode cX3_print 12 = .ok (.iconst (-1), 1) := by decide +kernel
theorem dX3_print_13 : decode cX3_print 13 = .ok (.ireturn, 1) := by decide +kernel
theorem dX3_print_14 : decode cX3_print 14 = .ok (.aload_n 0, 1) := by decide +kernel
theorem dX3_print_15 : decode cX3_print 15 = .ok (.getfield 56, 3) := by decide +kernel
theorem dX3_print_18 : decode cX3_print 18 = .ok (.iload_n 1, 1) := by decide +kernel
theorem dX3_print_19 : decode cX3_print 19 = .ok (.iaload, 1) := by decide +kernel
theorem dX3_print_20 : decode cX3_print 20 = .ok (.istore_n 3, 1) := by decide +kernel
theorem dX3_print_21 : decode cX3_print 21 = .ok (.iload_n 3, 1) := by decide +kernel
theorem dX3_print_22 : decode cX3_print 22 = .ok (.ifCond .ne 6, 3) := by decide +kernel
theorem dX3_print_25 : decode cX3_print 25 = .ok (.bipush (-2), 2) := by decide +kernel
theorem dX3_print_27 : decode cX3_print 27 = .ok (.ireturn, 1) := by decide +kernel
theorem dX3_print_28 : decode cX3_print 28 = .ok (.aload_n 0, 1) := by decide +kernel
theorem dX3_print_29 : decode cX3_print 29 = .ok (.iload_n 3, 1) := by decide +kernel
theorem dX3_print_30 : decode cX3_print 30 = .ok (.invokevirtual 77, 3) := by decide +kernel
theorem dX3_print_33 : decode cX3_print 33 = .ok (.aload_n 0, 1) := by decide +kernel
theorem dX3_print_34 : decode cX3_print 34 = .ok (.getfield 16, 3) := by decide +kernel
theorem dX3_print_37 : decode cX3_print 37 = .ok (.iload_n 3, 1) := by decide +kernel
theorem dX3_print_38 : decode cX3_print 38 = .ok (.iaload, 1) := by decide +kernel
theorem dX3_print_39 : decode cX3_print 39 = .ok (.imul, 1) := by decide +kernel
theorem dX3_print_40 : decode cX3_print 40 = .ok (.aload_n 0, 1) := by decide +kernel
theorem dX3_print_41 : decode cX3_print 41 = .ok (.getfield 34, 3) := by decide +kernel
theorem dX3_print_44 : decode cX3_print 44 = .ok (.iload_n 3, 1) := by decide +kernel
theorem dX3_print_45 : decode cX3_print 45 = .ok (.iaload, 1) := by decide +kernel
theorem dX3_print_46 : decode cX3_print 46 = .ok (.isub, 1) := by decide +kernel
theorem dX3_print_47 : decode cX3_print 47 = .ok (.istore 4, 2) := by decide +kernel
theorem dX3_print_49 : decode cX3_print 49 = .ok (.iload_n 2, 1) := by decide +kernel
theorem dX3_print_50 : decode cX3_print 50 = .ok (.iload 4, 2) := by decide +kernel
theorem dX3_print_52 : decode cX3_print 52 = .ok (.if_icmp .ge 7, 3) := by decide +kernel
theorem dX3_print_55 : decode cX3_print 55 = .ok (.iload_n 2, 1) := by decide +kernel
theorem dX3_print_56 : decode cX3_print 56 = .ok (.goto 5, 3) := by decide +kernel
theorem dX3_print_59 : decode cX3_print 59 = .ok (.iload 4, 2) := by decide +kernel
theorem dX3_print_61 : decode cX3_print 61 = .ok (.istore 5, 2) := by decide +kernel
theorem dX3_print_63 : decode cX3_print 63 = .ok (.aload_n 0, 1) := by decide +kernel
theorem dX3_print_64 : decode cX3_print 64 = .ok (.getfield 34, 3) := by decide +kernel
theorem dX3_print_67 : decode cX3_print 67 = .ok (.iload_n 3, 1) := by decide +kernel
theorem dX3_print_68 : decode cX3_print 68 = .ok (.dup2, 1) := by decide +kernel
theorem dX3_print_69 : decode cX3_print 69 = .ok (.iaload, 1) := by decide +kernel
theorem dX3_print_70 : decode cX3_print 70 = .ok (.iload 5, 2) := by decide +kernel
theorem dX3_print_72 : decode cX3_print 72 = .ok (.iadd, 1) := by decide +kernel
theorem dX3_print_73 : decode cX3_print 73 = .ok (.iastore, 1) := by decide +kernel
theorem dX3_print_74 : decode cX3_print 74 = .ok (.aload_n 0, 1) := by decide +kernel
theorem dX3_print_75 : decode cX3_print 75 = .ok (.dup, 1) := by decide +kernel
theorem dX3_print_76 : decode cX3_print 76 = .ok (.getfield 107, 3) := by decide +kernel
theorem dX3_print_79 : decode cX3_print 79 = .ok (.iload 5, 2) := by decide +kernel
theorem dX3_print_81 : decode cX3_print 81 = .ok (.iadd, 1) := by decide +kernel
theorem dX3_print_82 : decode cX3_print 82 = .ok (.putfield 107, 3) := by decide +kernel
theorem dX3_print_85 : decode cX3_print 85 = .ok (.iload 5, 2) := by decide +kernel
theorem dX3_print_87 : decode cX3_print 87 = .ok (.iload 4, 2) := by decide +kernel
theorem dX3_print_89 : decode cX3_print 89 = .ok (.if_icmp .ge 6, 3) := by decide +kernel
theorem dX3_print_92 : decode cX3_print 92 = .ok (.iload 5, 2) := by decide +kernel
theorem dX3_print_94 : decode cX3_print 94 = .ok (.ireturn, 1) := by decide +kernel
theorem dX3_print_95 : decode cX3_print 95 = .ok (.aload_n 0, 1) := by decide +kernel
theorem dX3_print_96 : decode cX3_print 96 = .ok (.iload_n 3, 1) := by decide +kernel
theorem dX3_print_97 : decode cX3_print 97 = .ok (.iconst 4, 1) := by decide +kernel
theorem dX3_print_98 : decode cX3_print 98 = .ok (.invokevirtual 96, 3) := by decide +kernel
theorem dX3_print_101 : decode cX3_print 101 = .ok (.aload_n 0, 1) := by decide +kernel
theorem dX3_print_102 : decode cX3_print 102 = .ok (.getfield 59, 3) := by decide +kernel
theorem dX3_print_105 : decode cX3_print 105 = .ok (.aload_n 0, 1) := by decide +kernel
theorem dX3_print_106 : decode cX3_print 106 = .ok (.getfield 110, 3) := by decide +kernel
theorem dX3_print_109 : decode cX3_print 109 = .ok (.iload_n 3, 1) := by decide +kernel
theorem dX3_print_110 : decode cX3_print 110 = .ok (.iastore, 1) := by decide +kernel
theorem dX3_print_111 : decode cX3_print 111 = .ok (.aload_n 0, 1) := by decide +kernel
theorem dX3_print_112 : decode cX3_print 112 = .ok (.dup, 1) := by decide +kernel
theorem dX3_print_113 : decode cX3_print 113 = .ok (.getfield 110, 3) := by decide +kernel
theorem dX3_print_116 : decode cX3_print 116 = .ok (.iconst 1, 1) := by decide +kernel
theorem dX3_print_117 : decode cX3_print 117 = .ok (.iadd, 1) := by decide +kernel
theorem dX3_print_118 : decode cX3_print 118 = .ok (.putfield 110, 3) := by decide +kernel
theorem dX3_print_121 : decode cX3_print 121 = .ok (.aload_n 0, 1) := by decide +kernel
theorem dX3_print_122 : decode cX3_print 122 = .ok (.getfield 56, 3) := by decide +kernel
theorem dX3_print_125 : decode cX3_print 125 = .ok (.iload_n 1, 1) := by decide +kernel
theorem dX3_print_126 : decode cX3_print 126 = .ok (.iconst 0, 1) := by decide +kernel
theorem dX3_print_127 : decode cX3_print 127 = .ok (.iastore, 1) := by decide +kernel
theorem dX3_print_128 : decode cX3_print 128 = .ok (.iload 5, 2) := by decide +kernel
theorem dX3_print_130 : decode cX3_print 130 = .ok (.ireturn, 1) := by decide +kernel
theorem dX3_cut_0 : decode cX3_cut 0 = .ok (.aload_n 0, 1) := by decide +kernel
theorem dX3_cut_1 : decode cX3_cut 1 = .ok (.iload_n 1, 1) := by decide +kernel
theorem dX3_cut_2 : decode cX3_cut 2 = .ok (.invokevirtual 100, 3) := by decide +kernel
theorem dX3_cut_5 : decode cX3_cut 5 = .ok (.ifCond .ne 5, 3) := by decide +kernel
theorem dX3_cut_8 : decode cX3_cut 8 = .ok (.iconst (-1), 1) := by decide +kernel
theorem dX3_cut_9 : decode cX3_cut 9 = .ok (.ireturn, 1) := by decide +kernel
theorem dX3_cut_10 : decode cX3_cut 10 = .ok (.aload_n 0, 1) := by decide +kernel
theorem dX3_cut_11 : decode cX3_cut 11 = .ok (.getfield 56, 3) := by decide +kernel
theorem dX3_cut_14 : decode cX3_cut 14 = .ok (.iload_n 1, 1) := by decide +kernel
theorem dX3_cut_15 : decode cX3_cut 15 = .ok (.iaload, 1) := by decide +kernel
theorem dX3_cut_16 : decode cX3_cut 16 = .ok (.istore_n 2, 1) := by decide +kernel
theorem dX3_cut_17 : decode cX3_cut 17 = .ok (.iload_n 2, 1) := by decide +kernel
theorem dX3_cut_18 : decode cX3_cut 18 = .ok (.ifCond .ne 6, 3) := by decide +kernel
theorem dX3_cut_21 : decode cX3_cut 21 = .ok (.bipush (-2), 2) := by decide +kernel
theorem dX3_cut_23 : decode cX3_cut 23 = .ok (.ireturn, 1) := by decide +kernel
theorem dX3_cut_24 : decode cX3_cut 24 = .ok (.aload_n 0, 1) := by decide +kernel
theorem dX3_cut_25 : decode cX3_cut 25 = .ok (.getfield 34, 3) := by decide +kernel
theorem dX3_cut_28 : decode cX3_cut 28 = .ok (.iload_n 2, 1) := by decide +kernel
theorem dX3_cut_29 : decode cX3_cut 29 = .ok (.iaload, 1) := by decide +kernel
theorem dX3_cut_30 : decode cX3_cut 30 = .ok (.iconst 4, 1) := by decide +kernel
theorem dX3_cut_31 : decode cX3_cut 31 = .ok (.idiv, 1) := by decide +kernel
theorem dX3_cut_32 : decode cX3_cut 32 = .ok (.iconst 4, 1) := by decide +kernel
theorem dX3_cut_33 : decode cX3_cut 33 = .ok (.imul, 1) := by decide +kernel
theorem dX3_cut_34 : decode cX3_cut 34 = .ok (.istore_n 3, 1) := by decide +kernel
theorem dX3_cut_35 : decode cX3_cut 35 = .ok (.aload_n 0, 1) := by decide +kernel
theorem dX3_cut_36 : decode cX3_cut 36 = .ok (.getfield 44, 3) := by decide +kernel
theorem dX3_cut_39 : decode cX3_cut 39 = .ok (.iload_n 2, 1) := by decide +kernel
theorem dX3_cut_40 : decode cX3_cut 40 = .ok (.baload, 1) := by decide +kernel
theorem dX3_cut_41 : decode cX3_cut 41 = .ok (.ifCond .eq 18, 3) := by decide +kernel
theorem dX3_cut_44 : decode cX3_cut 44 = .ok (.aload_n 0, 1) := by decide +kernel
theorem dX3_cut_45 : decode cX3_cut 45 = .ok (.iload_n 2, 1) := by decide +kernel
theorem dX3_cut_46 : decode cX3_cut 46 = .ok (.iconst 5, 1) := by decide +kernel
theorem dX3_cut_47 : decode cX3_cut 47 = .ok (.invokevirtual 96, 3) := by decide +kernel
theorem dX3_cut_50 : decode cX3_cut 50 = .ok (.aload_n 0, 1) := by decide +kernel
theorem dX3_cut_51 : decode cX3_cut 51 = .ok (.getfield 56, 3) := by decide +kernel
theorem dX3_cut_54 : decode cX3_cut 54 = .ok (.iload_n 1, 1) := by decide +kernel
theorem dX3_cut_55 : decode cX3_cut 55 = .ok (.iconst 0, 1) := by decide +kernel
theorem dX3_cut_56 : decode cX3_cut 56 = .ok (.iastore, 1) := by decide +kernel
theorem dX3_cut_57 : decode cX3_cut 57 = .ok (.iload_n 3, 1) := by decide +kernel
theorem dX3_cut_58 : decode cX3_cut 58 = .ok (.ireturn, 1) := by decide +kernel
theorem dX3_cut_59 : decode cX3_cut 59 = .ok (.aload_n 0, 1) := by decide +kernel
theorem dX3_cut_60 : decode cX3_cut 60 = .ok (.dup, 1) := by decide +kernel
theorem dX3_cut_61 : decode cX3_cut 61 = .ok (.getfield 113, 3) := by decide +kernel
theorem dX3_cut_64 : decode cX3_cut 64 = .ok (.aload_n 0, 1) := by decide +kernel
theorem dX3_cut_65 : decode cX3_cut 65 = .ok (.getfield 34, 3) := by decide +kernel
theorem dX3_cut_68 : decode cX3_cut 68 = .ok (.iload_n 2, 1) := by decide +kernel
theorem dX3_cut_69 : decode cX3_cut 69 = .ok (.iaload, 1) := by decide +kernel
theorem dX3_cut_70 : decode cX3_cut 70 = .ok (.iload_n 3, 1) := by decide +kernel
theorem dX3_cut_71 : decode cX3_cut 71 = .ok (.isub, 1) := by decide +kernel
theorem dX3_cut_72 : decode cX3_cut 72 = .ok (.iadd, 1) := by decide +kernel
theorem dX3_cut_73 : decode cX3_cut 73 = .ok (.putfield 113, 3) := by decide +kernel
theorem dX3_cut_76 : decode cX3_cut 76 = .ok (.aload_n 0, 1) := by decide +kernel
theorem dX3_cut_77 : decode cX3_cut 77 = .ok (.getfield 34, 3) := by decide +kernel
theorem dX3_cut_80 : decode cX3_cut 80 = .ok (.iload_n 2, 1) := by decide +kernel
theorem dX3_cut_81 : decode cX3_cut 81 = .ok (.iload_n 3, 1) := by decide +kernel
theorem dX3_cut_82 : decode cX3_cut 82 = .ok (.iastore, 1) := by decide +kernel
theorem dX3_cut_83 : decode cX3_cut 83 = .ok (.iload_n 3, 1) := by decide +kernel
theorem dX3_cut_84 : decode cX3_cut 84 = .ok (.ireturn, 1) := by decide +kernel
theorem dX3_purge_0 : decode cX3_purge 0 = .ok (.aload_n 0, 1) := by decide +kernel
theorem dX3_purge_1 : decode cX3_purge 1 = .ok (.iload_n 1, 1) := by decide +kernel
theorem dX3_purge_2 : decode cX3_purge 2 = .ok (.invokevirtual 89, 3) := by decide +kernel
theorem dX3_purge_5 : decode cX3_purge 5 = .ok (.ifCond .ne 5, 3) := by decide +kernel
theorem dX3_purge_8 : decode cX3_purge 8 = .ok (.iconst (-1), 1) := by decide +kernel
theorem dX3_purge_9 : decode cX3_purge 9 = .ok (.ireturn, 1) := by decide +kernel
theorem dX3_purge_10 : decode cX3_purge 10 = .ok (.aload_n 0, 1) := by decide +kernel
theorem dX3_purge_11 : decode cX3_purge 11 = .ok (.iload_n 1, 1) := by decide +kernel
theorem dX3_purge_12 : decode cX3_purge 12 = .ok (.invokevirtual 73, 3) := by decide +kernel
theorem dX3_purge_15 : decode cX3_purge 15 = .ok (.ifCond .eq 6, 3) := by decide +kernel
theorem dX3_purge_18 : decode cX3_purge 18 = .ok (.bipush (-2), 2) := by decide +kernel
theorem dX3_purge_20 : decode cX3_purge 20 = .ok (.ireturn, 1) := by decide +kernel
theorem dX3_purge_21 : decode cX3_purge 21 = .ok (.aload_n 0, 1) := by decide +kernel
theorem dX3_purge_22 : decode cX3_purge 22 = .ok (.getfield 25, 3) := by decide +kernel
theorem dX3_purge_25 : decode cX3_purge 25 = .ok (.iload_n 1, 1) := by decide +kernel
theorem dX3_purge_26 : decode cX3_purge 26 = .ok (.iaload, 1) := by decide +kernel
theorem dX3_purge_27 : decode cX3_purge 27 = .ok (.iconst 3, 1) := by decide +kernel
theorem dX3_purge_28 : decode cX3_purge 28 = .ok (.if_icmp .ne 12, 3) := by decide +kernel
theorem dX3_purge_31 : decode cX3_purge 31 = .ok (.aload_n 0, 1) := by decide +kernel
theorem dX3_purge_32 : decode cX3_purge 32 = .ok (.getfield 44, 3) := by decide +kernel
theorem dX3_purge_35 : decode cX3_purge 35 = .ok (.iload_n 1, 1) := by decide +kernel
theorem dX3_purge_36 : decode cX3_purge 36 = .ok (.iconst 1, 1) := by decide +kernel
theorem dX3_purge_37 : decode cX3_purge 37 = .ok (.bastore, 1) := by decide +kernel
theorem dX3_purge_38 : decode cX3_purge 38 = .ok (.iconst 0, 1) := by decide +kernel
theorem dX3_purge_39 : decode cX3_purge 39 = .ok (.ireturn, 1) := by decide +kernel
theorem dX3_purge_40 : decode cX3_purge 40 = .ok (.aload_n 0, 1) := by decide +kernel
theorem dX3_purge_41 : decode cX3_purge 41 = .ok (.iload_n 1, 1) := by decide +kernel
theorem dX3_purge_42 : decode cX3_purge 42 = .ok (.iconst 5, 1) := by decide +kernel
theorem dX3_purge_43 : decode cX3_purge 43 = .ok (.invokevirtual 96, 3) := by decide +kernel
theorem dX3_purge_46 : decode cX3_purge 46 = .ok (.iconst 1, 1) := by decide +kernel
theorem dX3_purge_47 : decode cX3_purge 47 = .ok (.ireturn, 1) := by decide +kernel
theorem dX3_isStill_0 : decode cX3_isStill 0 = .ok (.aload_n 0, 1) := by decide +kernel
theorem dX3_isStill_1 : decode cX3_isStill 1 = .ok (.getfield 25, 3) := by decide +kernel
theorem dX3_isStill_4 : decode cX3_isStill 4 = .ok (.iload_n 1, 1) := by decide +kernel
theorem dX3_isStill_5 : decode cX3_isStill 5 = .ok (.iaload, 1) := by decide +kernel
theorem dX3_isStill_6 : decode cX3_isStill 6 = .ok (.iconst 1, 1) := by decide +kernel
theorem dX3_isStill_7 : decode cX3_isStill 7 = .ok (.if_icmp .eq 13, 3) := by decide +kernel
theorem dX3_isStill_10 : decode cX3_isStill 10 = .ok (.aload_n 0, 1) := by decide +kernel
theorem dX3_isStill_11 : decode cX3_isStill 11 = .ok (.getfield 25, 3) := by decide +kernel
theorem dX3_isStill_14 : decode cX3_isStill 14 = .ok (.iload_n 1, 1) := by decide +kernel
theorem dX3_isStill_15 : decode cX3_isStill 15 = .ok (.iaload, 1) := by decide +kernel
theorem dX3_isStill_16 : decode cX3_isStill 16 = .ok (.iconst 2, 1) := by decide +kernel
theorem dX3_isStill_17 : decode cX3_isStill 17 = .ok (.if_icmp .ne 7, 3) := by decide +kernel
theorem dX3_isStill_20 : decode cX3_isStill 20 = .ok (.iconst 1, 1) := by decide +kernel
theorem dX3_isStill_21 : decode cX3_isStill 21 = .ok (.goto 4, 3) := by decide +kernel
theorem dX3_isStill_24 : decode cX3_isStill 24 = .ok (.iconst 0, 1) := by decide +kernel
theorem dX3_isStill_25 : decode cX3_isStill 25 = .ok (.ireturn, 1) := by decide +kernel
theorem dX3_hold_0 : decode cX3_hold 0 = .ok (.aload_n 0, 1) := by decide +kernel
theorem dX3_hold_1 : decode cX3_hold 1 = .ok (.iload_n 1, 1) := by decide +kernel
theorem dX3_hold_2 : decode cX3_hold 2 = .ok (.invokevirtual 89, 3) := by decide +kernel
theorem dX3_hold_5 : decode cX3_hold 5 = .ok (.ifCond .ne 5, 3) := by decide +kernel
theorem dX3_hold_8 : decode cX3_hold 8 = .ok (.iconst (-1), 1) := by decide +kernel
theorem dX3_hold_9 : decode cX3_hold 9 = .ok (.ireturn, 1) := by decide +kernel
theorem dX3_hold_10 : decode cX3_hold 10 = .ok (.aload_n 0, 1) := by decide +kernel
theorem dX3_hold_11 : decode cX3_hold 11 = .ok (.iload_n 1, 1) := by decide +kernel
theorem dX3_hold_12 : decode cX3_hold 12 = .ok (.invokevirtual 116, 3) := by decide +kernel
theorem dX3_hold_15 : decode cX3_hold 15 = .ok (.ifCond .ne 6, 3) := by decide +kernel
theorem dX3_hold_18 : decode cX3_hold 18 = .ok (.bipush (-2), 2) := by decide +kernel
theorem dX3_hold_20 : decode cX3_hold 20 = .ok (.ireturn, 1) := by decide +kernel
theorem dX3_hold_21 : decode cX3_hold 21 = .ok (.aload_n 0, 1) := by decide +kernel
theorem dX3_hold_22 : decode cX3_hold 22 = .ok (.getfield 41, 3) := by decide +kernel
theorem dX3_hold_25 : decode cX3_hold 25 = .ok (.iload_n 1, 1) := by decide +kernel
theorem dX3_hold_26 : decode cX3_hold 26 = .ok (.baload, 1) := by decide +kernel
theorem dX3_hold_27 : decode cX3_hold 27 = .ok (.ifCond .eq 7, 3) := by decide +kernel
theorem dX3_hold_30 : decode cX3_hold 30 = .ok (.iconst 1, 1) := by decide +kernel
theorem dX3_hold_31 : decode cX3_hold 31 = .ok (.goto 4, 3) := by decide +kernel
theorem dX3_hold_34 : decode cX3_hold 34 = .ok (.iconst 0, 1) := by decide +kernel
theorem dX3_hold_35 : decode cX3_hold 35 = .ok (.istore_n 3, 1) := by decide +kernel
theorem dX3_hold_36 : decode cX3_hold 36 = .ok (.aload_n 0, 1) := by decide +kernel
theorem dX3_hold_37 : decode cX3_hold 37 = .ok (.getfield 41, 3) := by decide +kernel
theorem dX3_hold_40 : decode cX3_hold 40 = .ok (.iload_n 1, 1) := by decide +kernel
theorem dX3_hold_41 : decode cX3_hold 41 = .ok (.iload_n 2, 1) := by decide +kernel
theorem dX3_hold_42 : decode cX3_hold 42 = .ok (.bastore, 1) := by decide +kernel
theorem dX3_hold_43 : decode cX3_hold 43 = .ok (.iload_n 3, 1) := by decide +kernel
theorem dX3_hold_44 : decode cX3_hold 44 = .ok (.ireturn, 1) := by decide +kernel
theorem dX3_route_0 : decode cX3_route 0 = .ok (.aload_n 0, 1) := by decide +kernel
theorem dX3_route_1 : decode cX3_route 1 = .ok (.iload_n 1, 1) := by decide +kernel
theorem dX3_route_2 : decode cX3_route 2 = .ok (.invokevirtual 89, 3) := by decide +kernel
theorem dX3_route_5 : decode cX3_route 5 = .ok (.ifCond .eq 13, 3) := by decide +kernel
theorem dX3_route_8 : decode cX3_route 8 = .ok (.iload_n 2, 1) := by decide +kernel
theorem dX3_route_9 : decode cX3_route 9 = .ok (.ifCond .lt 9, 3) := by decide +kernel
theorem dX3_route_12 : decode cX3_route 12 = .ok (.iload_n 2, 1) := by decide +kernel
theorem dX3_route_13 : decode cX3_route 13 = .ok (.bipush 63, 2) := by decide +kernel
theorem dX3_route_15 : decode cX3_route 15 = .ok (.if_icmp .le 5, 3) := by decide +kernel
theorem dX3_route_18 : decode cX3_route 18 = .ok (.iconst (-1), 1) := by decide +kernel
theorem dX3_route_19 : decode cX3_route 19 = .ok (.ireturn, 1) := by decide +kernel
theorem dX3_route_20 : decode cX3_route 20 = .ok (.aload_n 0, 1) := by decide +kernel
theorem dX3_route_21 : decode cX3_route 21 = .ok (.iload_n 1, 1) := by decide +kernel
theorem dX3_route_22 : decode cX3_route 22 = .ok (.invokevirtual 116, 3) := by decide +kernel
theorem dX3_route_25 : decode cX3_route 25 = .ok (.ifCond .ne 6, 3) := by decide +kernel
theorem dX3_route_28 : decode cX3_route 28 = .ok (.bipush (-2), 2) := by decide +kernel
theorem dX3_route_30 : decode cX3_route 30 = .ok (.ireturn, 1) := by decide +kernel
theorem dX3_route_31 : decode cX3_route 31 = .ok (.bipush 8, 2) := by decide +kernel
theorem dX3_route_33 : decode cX3_route 33 = .ok (.aload_n 0, 1) := by decide +kernel
theorem dX3_route_34 : decode cX3_route 34 = .ok (.getfield 22, 3) := by decide +kernel
theorem dX3_route_37 : decode cX3_route 37 = .ok (.iload_n 1, 1) := by decide +kernel
theorem dX3_route_38 : decode cX3_route 38 = .ok (.iaload, 1) := by decide +kernel
theorem dX3_route_39 : decode cX3_route 39 = .ok (.imul, 1) := by decide +kernel
theorem dX3_route_40 : decode cX3_route 40 = .ok (.aload_n 0, 1) := by decide +kernel
theorem dX3_route_41 : decode cX3_route 41 = .ok (.getfield 19, 3) := by decide +kernel
theorem dX3_route_44 : decode cX3_route 44 = .ok (.iload_n 1, 1) := by decide +kernel
theorem dX3_route_45 : decode cX3_route 45 = .ok (.iaload, 1) := by decide +kernel
theorem dX3_route_46 : decode cX3_route 46 = .ok (.iadd, 1) := by decide +kernel
theorem dX3_route_47 : decode cX3_route 47 = .ok (.istore_n 3, 1) := by decide +kernel
theorem dX3_route_48 : decode cX3_route 48 = .ok (.aload_n 0, 1) := by decide +kernel
theorem dX3_route_49 : decode cX3_route 49 = .ok (.getfield 22, 3) := by decide +kernel
theorem dX3_route_52 : decode cX3_route 52 = .ok (.iload_n 1, 1) := by decide +kernel
theorem dX3_route_53 : decode cX3_route 53 = .ok (.iload_n 2, 1) := by decide +kernel
theorem dX3_route_54 : decode cX3_route 54 = .ok (.bipush 8, 2) := by decide +kernel
theorem dX3_route_56 : decode cX3_route 56 = .ok (.idiv, 1) := by decide +kernel
theorem dX3_route_57 : decode cX3_route 57 = .ok (.iastore, 1) := by decide +kernel
theorem dX3_route_58 : decode cX3_route 58 = .ok (.aload_n 0, 1) := by decide +kernel
theorem dX3_route_59 : decode cX3_route 59 = .ok (.getfield 19, 3) := by decide +kernel
theorem dX3_route_62 : decode cX3_route 62 = .ok (.iload_n 1, 1) := by decide +kernel
theorem dX3_route_63 : decode cX3_route 63 = .ok (.iload_n 2, 1) := by decide +kernel
theorem dX3_route_64 : decode cX3_route 64 = .ok (.bipush 8, 2) := by decide +kernel
theorem dX3_route_66 : decode cX3_route 66 = .ok (.irem, 1) := by decide +kernel
theorem dX3_route_67 : decode cX3_route 67 = .ok (.iastore, 1) := by decide +kernel
theorem dX3_route_68 : decode cX3_route 68 = .ok (.iload_n 3, 1) := by decide +kernel
theorem dX3_route_69 : decode cX3_route 69 = .ok (.ireturn, 1) := by decide +kernel
theorem dX3_search_0 : decode cX3_search 0 = .ok (.iload_n 1, 1) := by decide +kernel
theorem dX3_search_1 : decode cX3_search 1 = .ok (.ifCond .lt 10, 3) := by decide +kernel
theorem dX3_search_4 : decode cX3_search 4 = .ok (.iload_n 1, 1) := by decide +kernel
theorem dX3_search_5 : decode cX3_search 5 = .ok (.sipush 255, 3) := by decide +kernel
theorem dX3_search_8 : decode cX3_search 8 = .ok (.if_icmp .le 5, 3) := by decide +kernel
theorem dX3_search_11 : decode cX3_search 11 = .ok (.iconst (-1), 1) := by decide +kernel
theorem dX3_search_12 : decode cX3_search 12 = .ok (.ireturn, 1) := by decide +kernel
theorem dX3_search_13 : decode cX3_search 13 = .ok (.iconst 0, 1) := by decide +kernel
theorem dX3_search_14 : decode cX3_search 14 = .ok (.istore_n 2, 1) := by decide +kernel
theorem dX3_search_15 : decode cX3_search 15 = .ok (.iconst 0, 1) := by decide +kernel
theorem dX3_search_16 : decode cX3_search 16 = .ok (.istore_n 3, 1) := by decide +kernel
theorem dX3_search_17 : decode cX3_search 17 = .ok (.iload_n 3, 1) := by decide +kernel
theorem dX3_search_18 : decode cX3_search 18 = .ok (.aload_n 0, 1) := by decide +kernel
theorem dX3_search_19 : decode cX3_search 19 = .ok (.getfield 93, 3) := by decide +kernel
theorem dX3_search_22 : decode cX3_search 22 = .ok (.if_icmp .ge 40, 3) := by decide +kernel
theorem dX3_search_25 : decode cX3_search 25 = .ok (.iload_n 2, 1) := by decide +kernel
theorem dX3_search_26 : decode cX3_search 26 = .ok (.aload_n 0, 1) := by decide +kernel
theorem dX3_search_27 : decode cX3_search 27 = .ok (.getfield 50, 3) := by decide +kernel
theorem dX3_search_30 : decode cX3_search 30 = .ok (.iload_n 3, 1) := by decide +kernel
theorem dX3_search_31 : decode cX3_search 31 = .ok (.iaload, 1) := by decide +kernel
theorem dX3_search_32 : decode cX3_search 32 = .ok (.iload_n 1, 1) := by decide +kernel
theorem dX3_search_33 : decode cX3_search 33 = .ok (.if_icmp .ne 20, 3) := by decide +kernel
theorem dX3_search_36 : decode cX3_search 36 = .ok (.aload_n 0, 1) := by decide +kernel
theorem dX3_search_37 : decode cX3_search 37 = .ok (.aload_n 0, 1) := by decide +kernel
theorem dX3_search_38 : decode cX3_search 38 = .ok (.getfield 47, 3) := by decide +kernel
theorem dX3_search_41 : decode cX3_search 41 = .ok (.iload_n 3, 1) := by decide +kernel
theorem dX3_search_42 : decode cX3_search 42 = .ok (.iaload, 1) := by decide +kernel
theorem dX3_search_43 : decode cX3_search 43 = .ok (.invokevirtual 73, 3) := by decide +kernel
theorem dX3_search_46 : decode cX3_search 46 = .ok (.ifCond .ne 7, 3) := by decide +kernel
theorem dX3_search_49 : decode cX3_search 49 = .ok (.iconst 1, 1) := by decide +kernel
theorem dX3_search_50 : decode cX3_search 50 = .ok (.goto 4, 3) := by decide +kernel
theorem dX3_search_53 : decode cX3_search 53 = .ok (.iconst 0, 1) := by decide +kernel
theorem dX3_search_54 : decode cX3_search 54 = .ok (.iadd, 1) := by decide +kernel
theorem dX3_search_55 : decode cX3_search 55 = .ok (.istore_n 2, 1) := by decide +kernel
theorem dX3_search_56 : decode cX3_search 56 = .ok (.iinc 3 1, 3) := by decide +kernel
theorem dX3_search_59 : decode cX3_search 59 = .ok (.goto (-42), 3) := by decide +kernel
theorem dX3_search_62 : decode cX3_search 62 = .ok (.iload_n 2, 1) := by decide +kernel
theorem dX3_search_63 : decode cX3_search 63 = .ok (.ireturn, 1) := by decide +kernel
theorem dX3_order_0 : decode cX3_order 0 = .ok (.iload_n 1, 1) := by decide +kernel
theorem dX3_order_1 : decode cX3_order 1 = .ok (.ifCond .lt 20, 3) := by decide +kernel
theorem dX3_order_4 : decode cX3_order 4 = .ok (.iload_n 1, 1) := by decide +kernel
theorem dX3_order_5 : decode cX3_order 5 = .ok (.aload_n 0, 1) := by decide +kernel
theorem dX3_order_6 : decode cX3_order 6 = .ok (.getfield 110, 3) := by decide +kernel
theorem dX3_order_9 : decode cX3_order 9 = .ok (.if_icmp .ge 12, 3) := by decide +kernel
theorem dX3_order_12 : decode cX3_order 12 = .ok (.aload_n 0, 1) := by decide +kernel
theorem dX3_order_13 : decode cX3_order 13 = .ok (.getfield 59, 3) := by decide +kernel
theorem dX3_order_16 : decode cX3_order 16 = .ok (.iload_n 1, 1) := by decide +kernel
theorem dX3_order_17 : decode cX3_order 17 = .ok (.iaload, 1) := by decide +kernel
theorem dX3_order_18 : decode cX3_order 18 = .ok (.goto 4, 3) := by decide +kernel
theorem dX3_order_21 : decode cX3_order 21 = .ok (.iconst 0, 1) := by decide +kernel
theorem dX3_order_22 : decode cX3_order 22 = .ok (.ireturn, 1) := by decide +kernel
theorem dX3_state_0 : decode cX3_state 0 = .ok (.aload_n 0, 1) := by decide +kernel
theorem dX3_state_1 : decode cX3_state 1 = .ok (.iload_n 1, 1) := by decide +kernel
theorem dX3_state_2 : decode cX3_state 2 = .ok (.invokevirtual 89, 3) := by decide +kernel
theorem dX3_state_5 : decode cX3_state 5 = .ok (.ifCond .ne 5, 3) := by decide +kernel
theorem dX3_state_8 : decode cX3_state 8 = .ok (.iconst (-1), 1) := by decide +kernel
theorem dX3_state_9 : decode cX3_state 9 = .ok (.ireturn, 1) := by decide +kernel
theorem dX3_state_10 : decode cX3_state 10 = .ok (.aload_n 0, 1) := by decide +kernel
theorem dX3_state_11 : decode cX3_state 11 = .ok (.iload_n 1, 1) := by decide +kernel
theorem dX3_state_12 : decode cX3_state 12 = .ok (.invokevirtual 77, 3) := by decide +kernel
theorem dX3_state_15 : decode cX3_state 15 = .ok (.istore_n 3, 1) := by decide +kernel
theorem dX3_state_16 : decode cX3_state 16 = .ok (.iload_n 2, 1) := by decide +kernel
theorem dX3_state_17 : decode cX3_state 17 = .ok (.tableswitch 114 0 5 #[39, 62, 69, 71, 78, 85], 39) := by decide +kernel
theorem dX3_state_56 : decode cX3_state 56 = .ok (.aload_n 0, 1) := by decide +kernel
theorem dX3_state_57 : decode cX3_state 57 = .ok (.getfield 25, 3) := by decide +kernel
theorem dX3_state_60 : decode cX3_state 60 = .ok (.iload_n 1, 1) := by decide +kernel
theorem dX3_state_61 : decode cX3_state 61 = .ok (.iaload, 1) := by decide +kernel
theorem dX3_state_62 : decode cX3_state 62 = .ok (.aload_n 0, 1) := by decide +kernel
theorem dX3_state_63 : decode cX3_state 63 = .ok (.getfield 41, 3) := by decide +kernel
theorem dX3_state_66 : decode cX3_state 66 = .ok (.iload_n 1, 1) := by decide +kernel
theorem dX3_state_67 : decode cX3_state 67 = .ok (.baload, 1) := by decide +kernel
theorem dX3_state_68 : decode cX3_state 68 = .ok (.ifCond .eq 8, 3) := by decide +kernel
theorem dX3_state_71 : decode cX3_state 71 = .ok (.bipush 6, 2) := by decide +kernel
theorem dX3_state_73 : decode cX3_state 73 = .ok (.goto 4, 3) := by decide +kernel
theorem dX3_state_76 : decode cX3_state 76 = .ok (.iconst 0, 1) := by decide +kernel
theorem dX3_state_77 : decode cX3_state 77 = .ok (.iadd, 1) := by decide +kernel
theorem dX3_state_78 : decode cX3_state 78 = .ok (.ireturn, 1) := by decide +kernel
theorem dX3_state_79 : decode cX3_state 79 = .ok (.aload_n 0, 1) := by decide +kernel
theorem dX3_state_80 : decode cX3_state 80 = .ok (.getfield 28, 3) := by decide +kernel
theorem dX3_state_83 : decode cX3_state 83 = .ok (.iload_n 1, 1) := by decide +kernel
theorem dX3_state_84 : decode cX3_state 84 = .ok (.iaload, 1) := by decide +kernel
theorem dX3_state_85 : decode cX3_state 85 = .ok (.ireturn, 1) := by decide +kernel
theorem dX3_state_86 : decode cX3_state 86 = .ok (.iload_n 3, 1) := by decide +kernel
theorem dX3_state_87 : decode cX3_state 87 = .ok (.ireturn, 1) := by decide +kernel
theorem dX3_state_88 : decode cX3_state 88 = .ok (.aload_n 0, 1) := by decide +kernel
theorem dX3_state_89 : decode cX3_state 89 = .ok (.getfield 34, 3) := by decide +kernel
theorem dX3_state_92 : decode cX3_state 92 = .ok (.iload_n 1, 1) := by decide +kernel
theorem dX3_state_93 : decode cX3_state 93 = .ok (.iaload, 1) := by decide +kernel
theorem dX3_state_94 : decode cX3_state 94 = .ok (.ireturn, 1) := by decide +kernel
theorem dX3_state_95 : decode cX3_state 95 = .ok (.aload_n 0, 1) := by decide +kernel
theorem dX3_state_96 : decode cX3_state 96 = .ok (.getfield 7, 3) := by decide +kernel
theorem dX3_state_99 : decode cX3_state 99 = .ok (.iload_n 1, 1) := by decide +kernel
theorem dX3_state_100 : decode cX3_state 100 = .ok (.iaload, 1) := by decide +kernel
theorem dX3_state_101 : decode cX3_state 101 = .ok (.ireturn, 1) := by decide +kernel
theorem dX3_state_102 : decode cX3_state 102 = .ok (.iload_n 3, 1) := by decide +kernel
theorem dX3_state_103 : decode cX3_state 103 = .ok (.ifCond .ne 12, 3) := by decide +kernel
theorem dX3_state_106 : decode cX3_state 106 = .ok (.aload_n 0, 1) := by decide +kernel
theorem dX3_state_107 : decode cX3_state 107 = .ok (.getfield 16, 3) := by decide +kernel
theorem dX3_state_110 : decode cX3_state 110 = .ok (.iload_n 1, 1) := by decide +kernel
theorem dX3_state_111 : decode cX3_state 111 = .ok (.iaload, 1) := by decide +kernel
theorem dX3_state_112 : decode cX3_state 112 = .ok (.goto 18, 3) := by decide +kernel
theorem dX3_state_115 : decode cX3_state 115 = .ok (.aload_n 0, 1) := by decide +kernel
theorem dX3_state_116 : decode cX3_state 116 = .ok (.getfield 16, 3) := by decide +kernel
theorem dX3_state_119 : decode cX3_state 119 = .ok (.iload_n 1, 1) := by decide +kernel
theorem dX3_state_120 : decode cX3_state 120 = .ok (.iaload, 1) := by decide +kernel
theorem dX3_state_121 : decode cX3_state 121 = .ok (.aload_n 0, 1) := by decide +kernel
theorem dX3_state_122 : decode cX3_state 122 = .ok (.getfield 34, 3) := by decide +kernel
theorem dX3_state_125 : decode cX3_state 125 = .ok (.iload_n 1, 1) := by decide +kernel
theorem dX3_state_126 : decode cX3_state 126 = .ok (.iaload, 1) := by decide +kernel
theorem dX3_state_127 : decode cX3_state 127 = .ok (.iload_n 3, 1) := by decide +kernel
theorem dX3_state_128 : decode cX3_state 128 = .ok (.idiv, 1) := by decide +kernel
theorem dX3_state_129 : decode cX3_state 129 = .ok (.isub, 1) := by decide +kernel
theorem dX3_state_130 : decode cX3_state 130 = .ok (.ireturn, 1) := by decide +kernel
theorem dX3_state_131 : decode cX3_state 131 = .ok (.iconst (-1), 1) := by decide +kernel
theorem dX3_state_132 : decode cX3_state 132 = .ok (.ireturn, 1) := by decide +kernel
theorem dX3_count_0 : decode cX3_count 0 = .ok (.iconst 0, 1) := by decide +kernel
theorem dX3_count_1 : decode cX3_count 1 = .ok (.istore_n 2, 1) := by decide +kernel
theorem dX3_count_2 : decode cX3_count 2 = .ok (.iconst 1, 1) := by decide +kernel
theorem dX3_count_3 : decode cX3_count 3 = .ok (.istore_n 3, 1) := by decide +kernel
theorem dX3_count_4 : decode cX3_count 4 = .ok (.iload_n 3, 1) := by decide +kernel
theorem dX3_count_5 : decode cX3_count 5 = .ok (.aload_n 0, 1) := by decide +kernel
theorem dX3_count_6 : decode cX3_count 6 = .ok (.getfield 67, 3) := by decide +kernel
theorem dX3_count_9 : decode cX3_count 9 = .ok (.if_icmp .gt 25, 3) := by decide +kernel
theorem dX3_count_12 : decode cX3_count 12 = .ok (.iload_n 2, 1) := by decide +kernel
theorem dX3_count_13 : decode cX3_count 13 = .ok (.aload_n 0, 1) := by decide +kernel
theorem dX3_count_14 : decode cX3_count 14 = .ok (.iload_n 3, 1) := by decide +kernel
theorem dX3_count_15 : decode cX3_count 15 = .ok (.invokevirtual 73, 3) := by decide +kernel
theorem dX3_count_18 : decode cX3_count 18 = .ok (.ifCond .eq 7, 3) := by decide +kernel
theorem dX3_count_21 : decode cX3_count 21 = .ok (.iconst 0, 1) := by decide +kernel
theorem dX3_count_22 : decode cX3_count 22 = .ok (.goto 4, 3) := by decide +kernel
theorem dX3_count_25 : decode cX3_count 25 = .ok (.iconst 1, 1) := by decide +kernel
theorem dX3_count_26 : decode cX3_count 26 = .ok (.iadd, 1) := by decide +kernel
theorem dX3_count_27 : decode cX3_count 27 = .ok (.istore_n 2, 1) := by decide +kernel
theorem dX3_count_28 : decode cX3_count 28 = .ok (.iinc 3 1, 3) := by decide +kernel
theorem dX3_count_31 : decode cX3_count 31 = .ok (.goto (-27), 3) := by decide +kernel
theorem dX3_count_34 : decode cX3_count 34 = .ok (.iload_n 1, 1) := by decide +kernel
theorem dX3_count_35 : decode cX3_count 35 = .ok (.tableswitch 55 0 4 #[33, 38, 40, 45, 50], 33) := by decide +kernel
theorem dX3_count_68 : decode cX3_count 68 = .ok (.aload_n 0, 1) := by decide +kernel
theorem dX3_count_69 : decode cX3_count 69 = .ok (.invokevirtual 81, 3) := by decide +kernel
theorem dX3_count_72 : decode cX3_count 72 = .ok (.ireturn, 1) := by decide +kernel
theorem dX3_count_73 : decode cX3_count 73 = .ok (.iload_n 2, 1) := by decide +kernel
theorem dX3_count_74 : decode cX3_count 74 = .ok (.ireturn, 1) := by decide +kernel
theorem dX3_count_75 : decode cX3_count 75 = .ok (.aload_n 0, 1) := by decide +kernel
theorem dX3_count_76 : decode cX3_count 76 = .ok (.getfield 70, 3) := by decide +kernel
theorem dX3_count_79 : decode cX3_count 79 = .ok (.ireturn, 1) := by decide +kernel
theorem dX3_count_80 : decode cX3_count 80 = .ok (.aload_n 0, 1) := by decide +kernel
theorem dX3_count_81 : decode cX3_count 81 = .ok (.getfield 107, 3) := by decide +kernel
theorem dX3_count_84 : decode cX3_count 84 = .ok (.ireturn, 1) := by decide +kernel
theorem dX3_count_85 : decode cX3_count 85 = .ok (.aload_n 0, 1) := by decide +kernel
theorem dX3_count_86 : decode cX3_count 86 = .ok (.getfield 113, 3) := by decide +kernel
theorem dX3_count_89 : decode cX3_count 89 = .ok (.ireturn, 1) := by decide +kernel
theorem dX3_count_90 : decode cX3_count 90 = .ok (.iconst (-1), 1) := by decide +kernel
theorem dX3_count_91 : decode cX3_count 91 = .ok (.ireturn, 1) := by decide +kernel
