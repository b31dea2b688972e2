theorem dX0_init_0 : decode cX0_init 0 = .ok (.aload_n 0, 1) := by decide +kernel
theorem dX0_init_1 : decode cX0_init 1 = .ok (.invokespecial 1, 3) := by decide +kernel
theorem dX0_init_4 : decode cX0_init 4 = .ok (.aload_n 0, 1) := by decide +kernel
theorem dX0_init_5 : decode cX0_init 5 = .ok (.sipush 1000, 3) := by decide +kernel
theorem dX0_init_8 : decode cX0_init 8 = .ok (.anewarray 9, 3) := by decide +kernel
theorem dX0_init_11 : decode cX0_init 11 = .ok (.putfield 11, 3) := by decide +kernel
theorem dX0_init_14 : decode cX0_init 14 = .ok (.aload_n 0, 1) := by decide +kernel
theorem dX0_init_15 : decode cX0_init 15 = .ok (.bipush 9, 2) := by decide +kernel
theorem dX0_init_17 : decode cX0_init 17 = .ok (.anewarray 15, 3) := by decide +kernel
theorem dX0_init_20 : decode cX0_init 20 = .ok (.putfield 17, 3) := by decide +kernel
theorem dX0_init_23 : decode cX0_init 23 = .ok (.aload_n 0, 1) := by decide +kernel
theorem dX0_init_24 : decode cX0_init 24 = .ok (.sipush 1000, 3) := by decide +kernel
theorem dX0_init_27 : decode cX0_init 27 = .ok (.newarray .int, 2) := by decide +kernel
theorem dX0_init_29 : decode cX0_init 29 = .ok (.putfield 21, 3) := by decide +kernel
theorem dX0_init_32 : decode cX0_init 32 = .ok (.aload_n 0, 1) := by decide +kernel
theorem dX0_init_33 : decode cX0_init 33 = .ok (.sipush 512, 3) := by decide +kernel
theorem dX0_init_36 : decode cX0_init 36 = .ok (.newarray .int, 2) := by decide +kernel
theorem dX0_init_38 : decode cX0_init 38 = .ok (.putfield 25, 3) := by decide +kernel
theorem dX0_init_41 : decode cX0_init 41 = .ok (.aload_n 0, 1) := by decide +kernel
theorem dX0_init_42 : decode cX0_init 42 = .ok (.sipush 512, 3) := by decide +kernel
theorem dX0_init_45 : decode cX0_init 45 = .ok (.newarray .int, 2) := by decide +kernel
theorem dX0_init_47 : decode cX0_init 47 = .ok (.putfield 28, 3) := by decide +kernel
theorem dX0_init_50 : decode cX0_init 50 = .ok (.iconst 0, 1) := by decide +kernel
theorem dX0_init_51 : decode cX0_init 51 = .ok (.iload_n 1, 1) := by decide +kernel
theorem dX0_init_52 : decode cX0_init 52 = .ok (.ldc 31, 2) := by decide +kernel
theorem dX0_init_54 : decode cX0_init 54 = .ok (.invokestatic 32, 3) := by decide +kernel
theorem dX0_init_57 : decode cX0_init 57 = .ok (.invokestatic 38, 3) := by decide +kernel
theorem dX0_init_60 : decode cX0_init 60 = .ok (.istore_n 2, 1) := by decide +kernel
theorem dX0_init_61 : decode cX0_init 61 = .ok (.aload_n 0, 1) := by decide +kernel
theorem dX0_init_62 : decode cX0_init 62 = .ok (.iload_n 2, 1) := by decide +kernel
theorem dX0_init_63 : decode cX0_init 63 = .ok (.putfield 41, 3) := by decide +kernel
theorem dX0_init_66 : decode cX0_init 66 = .ok (.aload_n 0, 1) := by decide +kernel
theorem dX0_init_67 : decode cX0_init 67 = .ok (.iload_n 2, 1) := by decide +kernel
theorem dX0_init_68 : decode cX0_init 68 = .ok (.bipush 8, 2) := by decide +kernel
theorem dX0_init_70 : decode cX0_init 70 = .ok (.idiv, 1) := by decide +kernel
theorem dX0_init_71 : decode cX0_init 71 = .ok (.putfield 45, 3) := by decide +kernel
theorem dX0_init_74 : decode cX0_init 74 = .ok (.return_, 1) := by decide +kernel
theorem dX0_isWithin_0 : decode cX0_isWithin 0 = .ok (.iload_n 0, 1) := by decide +kernel
theorem dX0_isWithin_1 : decode cX0_isWithin 1 = .ok (.iload_n 1, 1) := by decide +kernel
theorem dX0_isWithin_2 : decode cX0_isWithin 2 = .ok (.if_icmp .lt 12, 3) := by decide +kernel
theorem dX0_isWithin_5 : decode cX0_isWithin 5 = .ok (.iload_n 0, 1) := by decide +kernel
theorem dX0_isWithin_6 : decode cX0_isWithin 6 = .ok (.iload_n 2, 1) := by decide +kernel
theorem dX0_isWithin_7 : decode cX0_isWithin 7 = .ok (.if_icmp .gt 7, 3) := by decide +kernel
theorem dX0_isWithin_10 : decode cX0_isWithin 10 = .ok (.iconst 1, 1) := by decide +kernel
theorem dX0_isWithin_11 : decode cX0_isWithin 11 = .ok (.goto 4, 3) := by decide +kernel
theorem dX0_isWithin_14 : decode cX0_isWithin 14 = .ok (.iconst 0, 1) := by decide +kernel
theorem dX0_isWithin_15 : decode cX0_isWithin 15 = .ok (.ireturn, 1) := by decide +kernel
theorem dX0_outputOf_0 : decode cX0_outputOf 0 = .ok (.iload_n 1, 1) := by decide +kernel
theorem dX0_outputOf_1 : decode cX0_outputOf 1 = .ok (.iconst 1, 1) := by decide +kernel
theorem dX0_outputOf_2 : decode cX0_outputOf 2 = .ok (.aload_n 0, 1) := by decide +kernel
theorem dX0_outputOf_3 : decode cX0_outputOf 3 = .ok (.getfield 93, 3) := by decide +kernel
theorem dX0_outputOf_6 : decode cX0_outputOf 6 = .ok (.invokestatic 48, 3) := by decide +kernel
theorem dX0_outputOf_9 : decode cX0_outputOf 9 = .ok (.ifCond .eq 14, 3) := by decide +kernel
theorem dX0_outputOf_12 : decode cX0_outputOf 12 = .ok (.aload_n 0, 1) := by decide +kernel
theorem dX0_outputOf_13 : decode cX0_outputOf 13 = .ok (.getfield 11, 3) := by decide +kernel
theorem dX0_outputOf_16 : decode cX0_outputOf 16 = .ok (.iload_n 1, 1) := by decide +kernel
theorem dX0_outputOf_17 : decode cX0_outputOf 17 = .ok (.iconst 1, 1) := by decide +kernel
theorem dX0_outputOf_18 : decode cX0_outputOf 18 = .ok (.isub, 1) := by decide +kernel
theorem dX0_outputOf_19 : decode cX0_outputOf 19 = .ok (.aaload, 1) := by decide +kernel
theorem dX0_outputOf_20 : decode cX0_outputOf 20 = .ok (.goto 4, 3) := by decide +kernel
theorem dX0_outputOf_23 : decode cX0_outputOf 23 = .ok (.aconst_null, 1) := by decide +kernel
theorem dX0_outputOf_24 : decode cX0_outputOf 24 = .ok (.areturn, 1) := by decide +kernel
theorem dX0_hasOutputThere_0 : decode cX0_hasOutputThere 0 = .ok (.iconst 1, 1) := by decide +kernel
theorem dX0_hasOutputThere_1 : decode cX0_hasOutputThere 1 = .ok (.istore_n 2, 1) := by decide +kernel
theorem dX0_hasOutputThere_2 : decode cX0_hasOutputThere 2 = .ok (.iload_n 2, 1) := by decide +kernel
theorem dX0_hasOutputThere_3 : decode cX0_hasOutputThere 3 = .ok (.aload_n 0, 1) := by decide +kernel
theorem dX0_hasOutputThere_4 : decode cX0_hasOutputThere 4 = .ok (.getfield 93, 3) := by decide +kernel
theorem dX0_hasOutputThere_7 : decode cX0_hasOutputThere 7 = .ok (.if_icmp .gt 36, 3) := by decide +kernel
theorem dX0_hasOutputThere_10 : decode cX0_hasOutputThere 10 = .ok (.aload_n 0, 1) := by decide +kernel
theorem dX0_hasOutputThere_11 : decode cX0_hasOutputThere 11 = .ok (.iload_n 2, 1) := by decide +kernel
theorem dX0_hasOutputThere_12 : decode cX0_hasOutputThere 12 = .ok (.invokevirtual 63, 3) := by decide +kernel
theorem dX0_hasOutputThere_15 : decode cX0_hasOutputThere 15 = .ok (.astore_n 3, 1) := by decide +kernel
theorem dX0_hasOutputThere_16 : decode cX0_hasOutputThere 16 = .ok (.aload_n 3, 1) := by decide +kernel
theorem dX0_hasOutputThere_17 : decode cX0_hasOutputThere 17 = .ok (.ifnull 20, 3) := by decide +kernel
theorem dX0_hasOutputThere_20 : decode cX0_hasOutputThere 20 = .ok (.aload_n 3, 1) := by decide +kernel
theorem dX0_hasOutputThere_21 : decode cX0_hasOutputThere 21 = .ok (.getfield 96, 3) := by decide +kernel
theorem dX0_hasOutputThere_24 : decode cX0_hasOutputThere 24 = .ok (.iload_n 1, 1) := by decide +kernel
theorem dX0_hasOutputThere_25 : decode cX0_hasOutputThere 25 = .ok (.if_icmp .ne 12, 3) := by decide +kernel
theorem dX0_hasOutputThere_28 : decode cX0_hasOutputThere 28 = .ok (.aload_n 3, 1) := by decide +kernel
theorem dX0_hasOutputThere_29 : decode cX0_hasOutputThere 29 = .ok (.invokevirtual 87, 3) := by decide +kernel
theorem dX0_hasOutputThere_32 : decode cX0_hasOutputThere 32 = .ok (.ifCond .ne 5, 3) := by decide +kernel
theorem dX0_hasOutputThere_35 : decode cX0_hasOutputThere 35 = .ok (.iconst 1, 1) := by decide +kernel
theorem dX0_hasOutputThere_36 : decode cX0_hasOutputThere 36 = .ok (.ireturn, 1) := by decide +kernel
theorem dX0_hasOutputThere_37 : decode cX0_hasOutputThere 37 = .ok (.iinc 2 1, 3) := by decide +kernel
theorem dX0_hasOutputThere_40 : decode cX0_hasOutputThere 40 = .ok (.goto (-38), 3) := by decide +kernel
theorem dX0_hasOutputThere_43 : decode cX0_hasOutputThere 43 = .ok (.iconst 0, 1) := by decide +kernel
theorem dX0_hasOutputThere_44 : decode cX0_hasOutputThere 44 = .ok (.ireturn, 1) := by decide +kernel
theorem dX0_addOutput_0 : decode cX0_addOutput 0 = .ok (.aload_n 0, 1) := by decide +kernel
theorem dX0_addOutput_1 : decode cX0_addOutput 1 = .ok (.getfield 93, 3) := by decide +kernel
theorem dX0_addOutput_4 : decode cX0_addOutput 4 = .ok (.sipush 1000, 3) := by decide +kernel
theorem dX0_addOutput_7 : decode cX0_addOutput 7 = .ok (.if_icmp .lt 5, 3) := by decide +kernel
theorem dX0_addOutput_10 : decode cX0_addOutput 10 = .ok (.aconst_null, 1) := by decide +kernel
theorem dX0_addOutput_11 : decode cX0_addOutput 11 = .ok (.areturn, 1) := by decide +kernel
theorem dX0_addOutput_12 : decode cX0_addOutput 12 = .ok (.new 9, 3) := by decide +kernel
theorem dX0_addOutput_15 : decode cX0_addOutput 15 = .ok (.dup, 1) := by decide +kernel
theorem dX0_addOutput_16 : decode cX0_addOutput 16 = .ok (.aload_n 0, 1) := by decide +kernel
theorem dX0_addOutput_17 : decode cX0_addOutput 17 = .ok (.getfield 93, 3) := by decide +kernel
theorem dX0_addOutput_20 : decode cX0_addOutput 20 = .ok (.iconst 1, 1) := by decide +kernel
theorem dX0_addOutput_21 : decode cX0_addOutput 21 = .ok (.iadd, 1) := by decide +kernel
theorem dX0_addOutput_22 : decode cX0_addOutput 22 = .ok (.iload_n 1, 1) := by decide +kernel
theorem dX0_addOutput_23 : decode cX0_addOutput 23 = .ok (.iload_n 2, 1) := by decide +kernel
theorem dX0_addOutput_24 : decode cX0_addOutput 24 = .ok (.iload_n 3, 1) := by decide +kernel
theorem dX0_addOutput_25 : decode cX0_addOutput 25 = .ok (.invokespecial 188, 3) := by decide +kernel
theorem dX0_addOutput_28 : decode cX0_addOutput 28 = .ok (.astore 4, 2) := by decide +kernel
theorem dX0_addOutput_30 : decode cX0_addOutput 30 = .ok (.aload_n 0, 1) := by decide +kernel
theorem dX0_addOutput_31 : decode cX0_addOutput 31 = .ok (.getfield 11, 3) := by decide +kernel
theorem dX0_addOutput_34 : decode cX0_addOutput 34 = .ok (.aload_n 0, 1) := by decide +kernel
theorem dX0_addOutput_35 : decode cX0_addOutput 35 = .ok (.getfield 93, 3) := by decide +kernel
theorem dX0_addOutput_38 : decode cX0_addOutput 38 = .ok (.aload 4, 2) := by decide +kernel
theorem dX0_addOutput_40 : decode cX0_addOutput 40 = .ok (.aastore, 1) := by decide +kernel
theorem dX0_addOutput_41 : decode cX0_addOutput 41 = .ok (.aload_n 0, 1) := by decide +kernel
theorem dX0_addOutput_42 : decode cX0_addOutput 42 = .ok (.dup, 1) := by decide +kernel
theorem dX0_addOutput_43 : decode cX0_addOutput 43 = .ok (.getfield 93, 3) := by decide +kernel
theorem dX0_addOutput_46 : decode cX0_addOutput 46 = .ok (.iconst 1, 1) := by decide +kernel
theorem dX0_addOutput_47 : decode cX0_addOutput 47 = .ok (.iadd, 1) := by decide +kernel
theorem dX0_addOutput_48 : decode cX0_addOutput 48 = .ok (.putfield 93, 3) := by decide +kernel
theorem dX0_addOutput_51 : decode cX0_addOutput 51 = .ok (.aload 4, 2) := by decide +kernel
theorem dX0_addOutput_53 : decode cX0_addOutput 53 = .ok (.areturn, 1) := by decide +kernel
theorem dX0_output_0 : decode cX0_output 0 = .ok (.iload_n 1, 1) := by decide +kernel
theorem dX0_output_1 : decode cX0_output 1 = .ok (.iconst 1, 1) := by decide +kernel
theorem dX0_output_2 : decode cX0_output 2 = .ok (.sipush 9999, 3) := by decide +kernel
theorem dX0_output_5 : decode cX0_output 5 = .ok (.invokestatic 48, 3) := by decide +kernel
theorem dX0_output_8 : decode cX0_output 8 = .ok (.ifCond .eq 23, 3) := by decide +kernel
theorem dX0_output_11 : decode cX0_output 11 = .ok (.iload_n 2, 1) := by decide +kernel
theorem dX0_output_12 : decode cX0_output 12 = .ok (.iconst 0, 1) := by decide +kernel
theorem dX0_output_13 : decode cX0_output 13 = .ok (.bipush 7, 2) := by decide +kernel
theorem dX0_output_15 : decode cX0_output 15 = .ok (.invokestatic 48, 3) := by decide +kernel
theorem dX0_output_18 : decode cX0_output 18 = .ok (.ifCond .eq 13, 3) := by decide +kernel
theorem dX0_output_21 : decode cX0_output 21 = .ok (.iload_n 3, 1) := by decide +kernel
theorem dX0_output_22 : decode cX0_output 22 = .ok (.iconst 1, 1) := by decide +kernel
theorem dX0_output_23 : decode cX0_output 23 = .ok (.bipush 9, 2) := by decide +kernel
theorem dX0_output_25 : decode cX0_output 25 = .ok (.invokestatic 48, 3) := by decide +kernel
theorem dX0_output_28 : decode cX0_output 28 = .ok (.ifCond .ne 5, 3) := by decide +kernel
theorem dX0_output_31 : decode cX0_output 31 = .ok (.iconst (-1), 1) := by decide +kernel
theorem dX0_output_32 : decode cX0_output 32 = .ok (.ireturn, 1) := by decide +kernel
theorem dX0_output_33 : decode cX0_output 33 = .ok (.aload_n 0, 1) := by decide +kernel
theorem dX0_output_34 : decode cX0_output 34 = .ok (.getfield 41, 3) := by decide +kernel
theorem dX0_output_37 : decode cX0_output 37 = .ok (.aload_n 0, 1) := by decide +kernel
theorem dX0_output_38 : decode cX0_output 38 = .ok (.getfield 45, 3) := by decide +kernel
theorem dX0_output_41 : decode cX0_output 41 = .ok (.if_icmp .gt 13, 3) := by decide +kernel
theorem dX0_output_44 : decode cX0_output 44 = .ok (.aload_n 0, 1) := by decide +kernel
theorem dX0_output_45 : decode cX0_output 45 = .ok (.iload_n 1, 1) := by decide +kernel
theorem dX0_output_46 : decode cX0_output 46 = .ok (.invokevirtual 52, 3) := by decide +kernel
theorem dX0_output_49 : decode cX0_output 49 = .ok (.ifCond .ne 5, 3) := by decide +kernel
theorem dX0_output_52 : decode cX0_output 52 = .ok (.iconst 0, 1) := by decide +kernel
theorem dX0_output_53 : decode cX0_output 53 = .ok (.ireturn, 1) := by decide +kernel
theorem dX0_output_54 : decode cX0_output 54 = .ok (.aload_n 0, 1) := by decide +kernel
theorem dX0_output_55 : decode cX0_output 55 = .ok (.iload_n 1, 1) := by decide +kernel
theorem dX0_output_56 : decode cX0_output 56 = .ok (.iload_n 2, 1) := by decide +kernel
theorem dX0_output_57 : decode cX0_output 57 = .ok (.iload_n 3, 1) := by decide +kernel
theorem dX0_output_58 : decode cX0_output 58 = .ok (.invokevirtual 56, 3) := by decide +kernel
theorem dX0_output_61 : decode cX0_output 61 = .ok (.astore 4, 2) := by decide +kernel
theorem dX0_output_63 : decode cX0_output 63 = .ok (.aload 4, 2) := by decide +kernel
theorem dX0_output_65 : decode cX0_output 65 = .ok (.ifnonnull 7, 3) := by decide +kernel
theorem dX0_output_68 : decode cX0_output 68 = .ok (.iconst 0, 1) := by decide +kernel
theorem dX0_output_69 : decode cX0_output 69 = .ok (.goto 8, 3) := by decide +kernel
theorem dX0_output_72 : decode cX0_output 72 = .ok (.aload 4, 2) := by decide +kernel
theorem dX0_output_74 : decode cX0_output 74 = .ok (.getfield 60, 3) := by decide +kernel
theorem dX0_output_77 : decode cX0_output 77 = .ok (.ireturn, 1) := by decide +kernel
theorem dX0_hasRoomForLine_0 : decode cX0_hasRoomForLine 0 = .ok (.aload_n 0, 1) := by decide +kernel
theorem dX0_hasRoomForLine_1 : decode cX0_hasRoomForLine 1 = .ok (.getfield 41, 3) := by decide +kernel
theorem dX0_hasRoomForLine_4 : decode cX0_hasRoomForLine 4 = .ok (.ifCond .gt 10, 3) := by decide +kernel
theorem dX0_hasRoomForLine_7 : decode cX0_hasRoomForLine 7 = .ok (.aload_n 1, 1) := by decide +kernel
theorem dX0_hasRoomForLine_8 : decode cX0_hasRoomForLine 8 = .ok (.invokevirtual 191, 3) := by decide +kernel
theorem dX0_hasRoomForLine_11 : decode cX0_hasRoomForLine 11 = .ok (.ifCond .ne 7, 3) := by decide +kernel
theorem dX0_hasRoomForLine_14 : decode cX0_hasRoomForLine 14 = .ok (.iconst 1, 1) := by decide +kernel
theorem dX0_hasRoomForLine_15 : decode cX0_hasRoomForLine 15 = .ok (.goto 4, 3) := by decide +kernel
theorem dX0_hasRoomForLine_18 : decode cX0_hasRoomForLine 18 = .ok (.iconst 0, 1) := by decide +kernel
theorem dX0_hasRoomForLine_19 : decode cX0_hasRoomForLine 19 = .ok (.ireturn, 1) := by decide +kernel
theorem dX0_keepSign_0 : decode cX0_keepSign 0 = .ok (.aload_n 0, 1) := by decide +kernel
theorem dX0_keepSign_1 : decode cX0_keepSign 1 = .ok (.getfield 170, 3) := by decide +kernel
theorem dX0_keepSign_4 : decode cX0_keepSign 4 = .ok (.sipush 512, 3) := by decide +kernel
theorem dX0_keepSign_7 : decode cX0_keepSign 7 = .ok (.if_icmp .ge 33, 3) := by decide +kernel
theorem dX0_keepSign_10 : decode cX0_keepSign 10 = .ok (.aload_n 0, 1) := by decide +kernel
theorem dX0_keepSign_11 : decode cX0_keepSign 11 = .ok (.getfield 25, 3) := by decide +kernel
theorem dX0_keepSign_14 : decode cX0_keepSign 14 = .ok (.aload_n 0, 1) := by decide +kernel
theorem dX0_keepSign_15 : decode cX0_keepSign 15 = .ok (.getfield 170, 3) := by decide +kernel
theorem dX0_keepSign_18 : decode cX0_keepSign 18 = .ok (.iload_n 1, 1) := by decide +kernel
theorem dX0_keepSign_19 : decode cX0_keepSign 19 = .ok (.iastore, 1) := by decide +kernel
theorem dX0_keepSign_20 : decode cX0_keepSign 20 = .ok (.aload_n 0, 1) := by decide +kernel
theorem dX0_keepSign_21 : decode cX0_keepSign 21 = .ok (.getfield 28, 3) := by decide +kernel
theorem dX0_keepSign_24 : decode cX0_keepSign 24 = .ok (.aload_n 0, 1) := by decide +kernel
theorem dX0_keepSign_25 : decode cX0_keepSign 25 = .ok (.getfield 170, 3) := by decide +kernel
theorem dX0_keepSign_28 : decode cX0_keepSign 28 = .ok (.iload_n 2, 1) := by decide +kernel
theorem dX0_keepSign_29 : decode cX0_keepSign 29 = .ok (.iastore, 1) := by decide +kernel
theorem dX0_keepSign_30 : decode cX0_keepSign 30 = .ok (.aload_n 0, 1) := by decide +kernel
theorem dX0_keepSign_31 : decode cX0_keepSign 31 = .ok (.dup, 1) := by decide +kernel
theorem dX0_keepSign_32 : decode cX0_keepSign 32 = .ok (.getfield 170, 3) := by decide +kernel
theorem dX0_keepSign_35 : decode cX0_keepSign 35 = .ok (.iconst 1, 1) := by decide +kernel
theorem dX0_keepSign_36 : decode cX0_keepSign 36 = .ok (.iadd, 1) := by decide +kernel
theorem dX0_keepSign_37 : decode cX0_keepSign 37 = .ok (.putfield 170, 3) := by decide +kernel
theorem dX0_keepSign_40 : decode cX0_keepSign 40 = .ok (.return_, 1) := by decide +kernel
theorem dX0_takeLine_0 : decode cX0_takeLine 0 = .ok (.aload_n 1, 1) := by decide +kernel
theorem dX0_takeLine_1 : decode cX0_takeLine 1 = .ok (.invokevirtual 191, 3) := by decide +kernel
theorem dX0_takeLine_4 : decode cX0_takeLine 4 = .ok (.ifCond .eq 13, 3) := by decide +kernel
theorem dX0_takeLine_7 : decode cX0_takeLine 7 = .ok (.aload_n 0, 1) := by decide +kernel
theorem dX0_takeLine_8 : decode cX0_takeLine 8 = .ok (.dup, 1) := by decide +kernel
theorem dX0_takeLine_9 : decode cX0_takeLine 9 = .ok (.getfield 41, 3) := by decide +kernel
theorem dX0_takeLine_12 : decode cX0_takeLine 12 = .ok (.iconst 1, 1) := by decide +kernel
theorem dX0_takeLine_13 : decode cX0_takeLine 13 = .ok (.isub, 1) := by decide +kernel
theorem dX0_takeLine_14 : decode cX0_takeLine 14 = .ok (.putfield 41, 3) := by decide +kernel
theorem dX0_takeLine_17 : decode cX0_takeLine 17 = .ok (.aload_n 1, 1) := by decide +kernel
theorem dX0_takeLine_18 : decode cX0_takeLine 18 = .ok (.dup, 1) := by decide +kernel
theorem dX0_takeLine_19 : decode cX0_takeLine 19 = .ok (.getfield 103, 3) := by decide +kernel
theorem dX0_takeLine_22 : decode cX0_takeLine 22 = .ok (.iconst 1, 1) := by decide +kernel
theorem dX0_takeLine_23 : decode cX0_takeLine 23 = .ok (.iadd, 1) := by decide +kernel
theorem dX0_takeLine_24 : decode cX0_takeLine 24 = .ok (.putfield 103, 3) := by decide +kernel
theorem dX0_takeLine_27 : decode cX0_takeLine 27 = .ok (.iload_n 2, 1) := by decide +kernel
theorem dX0_takeLine_28 : decode cX0_takeLine 28 = .ok (.sipush 256, 3) := by decide +kernel
theorem dX0_takeLine_31 : decode cX0_takeLine 31 = .ok (.idiv, 1) := by decide +kernel
theorem dX0_takeLine_32 : decode cX0_takeLine 32 = .ok (.ifCond .le 16, 3) := by decide +kernel
theorem dX0_takeLine_35 : decode cX0_takeLine 35 = .ok (.aload_n 0, 1) := by decide +kernel
theorem dX0_takeLine_36 : decode cX0_takeLine 36 = .ok (.iload_n 2, 1) := by decide +kernel
theorem dX0_takeLine_37 : decode cX0_takeLine 37 = .ok (.sipush 256, 3) := by decide +kernel
theorem dX0_takeLine_40 : decode cX0_takeLine 40 = .ok (.irem, 1) := by decide +kernel
theorem dX0_takeLine_41 : decode cX0_takeLine 41 = .ok (.aload_n 1, 1) := by decide +kernel
theorem dX0_takeLine_42 : decode cX0_takeLine 42 = .ok (.getfield 60, 3) := by decide +kernel
theorem dX0_takeLine_45 : decode cX0_takeLine 45 = .ok (.invokevirtual 194, 3) := by decide +kernel
theorem dX0_takeLine_48 : decode cX0_takeLine 48 = .ok (.return_, 1) := by decide +kernel
theorem dX0_line_0 : decode cX0_line 0 = .ok (.aload_n 0, 1) := by decide +kernel
theorem dX0_line_1 : decode cX0_line 1 = .ok (.iload_n 1, 1) := by decide +kernel
theorem dX0_line_2 : decode cX0_line 2 = .ok (.invokevirtual 63, 3) := by decide +kernel
theorem dX0_line_5 : decode cX0_line 5 = .ok (.astore_n 3, 1) := by decide +kernel
theorem dX0_line_6 : decode cX0_line 6 = .ok (.aload_n 3, 1) := by decide +kernel
theorem dX0_line_7 : decode cX0_line 7 = .ok (.ifnull 13, 3) := by decide +kernel
theorem dX0_line_10 : decode cX0_line 10 = .ok (.iload_n 2, 1) := by decide +kernel
theorem dX0_line_11 : decode cX0_line 11 = .ok (.iconst 0, 1) := by decide +kernel
theorem dX0_line_12 : decode cX0_line 12 = .ok (.ldc 67, 2) := by decide +kernel
theorem dX0_line_14 : decode cX0_line 14 = .ok (.invokestatic 48, 3) := by decide +kernel
theorem dX0_line_17 : decode cX0_line 17 = .ok (.ifCond .ne 5, 3) := by decide +kernel
theorem dX0_line_20 : decode cX0_line 20 = .ok (.iconst (-1), 1) := by decide +kernel
theorem dX0_line_21 : decode cX0_line 21 = .ok (.ireturn, 1) := by decide +kernel
theorem dX0_line_22 : decode cX0_line 22 = .ok (.aload_n 3, 1) := by decide +kernel
theorem dX0_line_23 : decode cX0_line 23 = .ok (.getfield 68, 3) := by decide +kernel
theorem dX0_line_26 : decode cX0_line 26 = .ok (.iconst 1, 1) := by decide +kernel
theorem dX0_line_27 : decode cX0_line 27 = .ok (.if_icmp .eq 6, 3) := by decide +kernel
theorem dX0_line_30 : decode cX0_line 30 = .ok (.bipush (-2), 2) := by decide +kernel
theorem dX0_line_32 : decode cX0_line 32 = .ok (.ireturn, 1) := by decide +kernel
theorem dX0_line_33 : decode cX0_line 33 = .ok (.aload_n 3, 1) := by decide +kernel
theorem dX0_line_34 : decode cX0_line 34 = .ok (.invokevirtual 71, 3) := by decide +kernel
theorem dX0_line_37 : decode cX0_line 37 = .ok (.istore 4, 2) := by decide +kernel
theorem dX0_line_39 : decode cX0_line 39 = .ok (.iload 4, 2) := by decide +kernel
theorem dX0_line_41 : decode cX0_line 41 = .ok (.ifCond .eq 12, 3) := by decide +kernel
theorem dX0_line_44 : decode cX0_line 44 = .ok (.aload_n 3, 1) := by decide +kernel
theorem dX0_line_45 : decode cX0_line 45 = .ok (.getfield 75, 3) := by decide +kernel
theorem dX0_line_48 : decode cX0_line 48 = .ok (.ifCond .eq 5, 3) := by decide +kernel
theorem dX0_line_51 : decode cX0_line 51 = .ok (.iconst 0, 1) := by decide +kernel
theorem dX0_line_52 : decode cX0_line 52 = .ok (.ireturn, 1) := by decide +kernel
theorem dX0_line_53 : decode cX0_line 53 = .ok (.aload_n 0, 1) := by decide +kernel
theorem dX0_line_54 : decode cX0_line 54 = .ok (.aload_n 3, 1) := by decide +kernel
theorem dX0_line_55 : decode cX0_line 55 = .ok (.invokevirtual 79, 3) := by decide +kernel
theorem dX0_line_58 : decode cX0_line 58 = .ok (.ifCond .ne 6, 3) := by decide +kernel
theorem dX0_line_61 : decode cX0_line 61 = .ok (.bipush (-3), 2) := by decide +kernel
theorem dX0_line_63 : decode cX0_line 63 = .ok (.ireturn, 1) := by decide +kernel
theorem dX0_line_64 : decode cX0_line 64 = .ok (.aload_n 0, 1) := by decide +kernel
theorem dX0_line_65 : decode cX0_line 65 = .ok (.aload_n 3, 1) := by decide +kernel
theorem dX0_line_66 : decode cX0_line 66 = .ok (.iload_n 2, 1) := by decide +kernel
theorem dX0_line_67 : decode cX0_line 67 = .ok (.invokevirtual 83, 3) := by decide +kernel
theorem dX0_line_70 : decode cX0_line 70 = .ok (.iload 4, 2) := by decide +kernel
theorem dX0_line_72 : decode cX0_line 72 = .ok (.ifCond .eq 7, 3) := by decide +kernel
theorem dX0_line_75 : decode cX0_line 75 = .ok (.iconst 2, 1) := by decide +kernel
theorem dX0_line_76 : decode cX0_line 76 = .ok (.goto 4, 3) := by decide +kernel
theorem dX0_line_79 : decode cX0_line 79 = .ok (.iconst 1, 1) := by decide +kernel
theorem dX0_line_80 : decode cX0_line 80 = .ok (.ireturn, 1) := by decide +kernel
theorem dX0_limit_0 : decode cX0_limit 0 = .ok (.aload_n 0, 1) := by decide +kernel
theorem dX0_limit_1 : decode cX0_limit 1 = .ok (.iload_n 1, 1) := by decide +kernel
theorem dX0_limit_2 : decode cX0_limit 2 = .ok (.invokevirtual 63, 3) := by decide +kernel
theorem dX0_limit_5 : decode cX0_limit 5 = .ok (.astore 4, 2) := by decide +kernel
theorem dX0_limit_7 : decode cX0_limit 7 = .ok (.aload 4, 2) := by decide +kernel
theorem dX0_limit_9 : decode cX0_limit 9 = .ok (.ifnull 7, 3) := by decide +kernel
theorem dX0_limit_12 : decode cX0_limit 12 = .ok (.iload_n 2, 1) := by decide +kernel
theorem dX0_limit_13 : decode cX0_limit 13 = .ok (.ifCond .ge 5, 3) := by decide +kernel
theorem dX0_limit_16 : decode cX0_limit 16 = .ok (.iconst (-1), 1) := by decide +kernel
theorem dX0_limit_17 : decode cX0_limit 17 = .ok (.ireturn, 1) := by decide +kernel
theorem dX0_limit_18 : decode cX0_limit 18 = .ok (.aload 4, 2) := by decide +kernel
theorem dX0_limit_20 : decode cX0_limit 20 = .ok (.invokevirtual 87, 3) := by decide +kernel
theorem dX0_limit_23 : decode cX0_limit 23 = .ok (.ifCond .eq 6, 3) := by decide +kernel
theorem dX0_limit_26 : decode cX0_limit 26 = .ok (.bipush (-2), 2) := by decide +kernel
theorem dX0_limit_28 : decode cX0_limit 28 = .ok (.ireturn, 1) := by decide +kernel
theorem dX0_limit_29 : decode cX0_limit 29 = .ok (.aload 4, 2) := by decide +kernel
theorem dX0_limit_31 : decode cX0_limit 31 = .ok (.iload_n 2, 1) := by decide +kernel
theorem dX0_limit_32 : decode cX0_limit 32 = .ok (.putfield 90, 3) := by decide +kernel
theorem dX0_limit_35 : decode cX0_limit 35 = .ok (.aload 4, 2) := by decide +kernel
theorem dX0_limit_37 : decode cX0_limit 37 = .ok (.iload_n 3, 1) := by decide +kernel
theorem dX0_limit_38 : decode cX0_limit 38 = .ok (.putfield 75, 3) := by decide +kernel
theorem dX0_limit_41 : decode cX0_limit 41 = .ok (.iconst 1, 1) := by decide +kernel
theorem dX0_limit_42 : decode cX0_limit 42 = .ok (.ireturn, 1) := by decide +kernel
theorem dX0_letGo_0 : decode cX0_letGo 0 = .ok (.aload_n 1, 1) := by decide +kernel
theorem dX0_letGo_1 : decode cX0_letGo 1 = .ok (.iload_n 2, 1) := by decide +kernel
theorem dX0_letGo_2 : decode cX0_letGo 2 = .ok (.putfield 68, 3) := by decide +kernel
theorem dX0_letGo_5 : decode cX0_letGo 5 = .ok (.aload_n 1, 1) := by decide +kernel
theorem dX0_letGo_6 : decode cX0_letGo 6 = .ok (.iconst 0, 1) := by decide +kernel
theorem dX0_letGo_7 : decode cX0_letGo 7 = .ok (.putfield 161, 3) := by decide +kernel
theorem dX0_letGo_10 : decode cX0_letGo 10 = .ok (.aload_n 0, 1) := by decide +kernel
theorem dX0_letGo_11 : decode cX0_letGo 11 = .ok (.dup, 1) := by decide +kernel
theorem dX0_letGo_12 : decode cX0_letGo 12 = .ok (.getfield 41, 3) := by decide +kernel
theorem dX0_letGo_15 : decode cX0_letGo 15 = .ok (.aload_n 1, 1) := by decide +kernel
theorem dX0_letGo_16 : decode cX0_letGo 16 = .ok (.invokevirtual 179, 3) := by decide +kernel
theorem dX0_letGo_19 : decode cX0_letGo 19 = .ok (.iadd, 1) := by decide +kernel
theorem dX0_letGo_20 : decode cX0_letGo 20 = .ok (.putfield 41, 3) := by decide +kernel
theorem dX0_letGo_23 : decode cX0_letGo 23 = .ok (.return_, 1) := by decide +kernel
theorem dX0_releaseOrPurge_0 : decode cX0_releaseOrPurge 0 = .ok (.aload_n 1, 1) := by decide +kernel
theorem dX0_releaseOrPurge_1 : decode cX0_releaseOrPurge 1 = .ok (.getfield 103, 3) := by decide +kernel
theorem dX0_releaseOrPurge_4 : decode cX0_releaseOrPurge 4 = .ok (.ifCond .ne 12, 3) := by decide +kernel
theorem dX0_releaseOrPurge_7 : decode cX0_releaseOrPurge 7 = .ok (.aload_n 0, 1) := by decide +kernel
theorem dX0_releaseOrPurge_8 : decode cX0_releaseOrPurge 8 = .ok (.aload_n 1, 1) := by decide +kernel
theorem dX0_releaseOrPurge_9 : decode cX0_releaseOrPurge 9 = .ok (.iconst 5, 1) := by decide +kernel
theorem dX0_releaseOrPurge_10 : decode cX0_releaseOrPurge 10 = .ok (.invokevirtual 146, 3) := by decide +kernel
theorem dX0_releaseOrPurge_13 : decode cX0_releaseOrPurge 13 = .ok (.goto 8, 3) := by decide +kernel
theorem dX0_releaseOrPurge_16 : decode cX0_releaseOrPurge 16 = .ok (.aload_n 1, 1) := by decide +kernel
theorem dX0_releaseOrPurge_17 : decode cX0_releaseOrPurge 17 = .ok (.iconst 2, 1) := by decide +kernel
theorem dX0_releaseOrPurge_18 : decode cX0_releaseOrPurge 18 = .ok (.putfield 68, 3) := by decide +kernel
theorem dX0_releaseOrPurge_21 : decode cX0_releaseOrPurge 21 = .ok (.return_, 1) := by decide +kernel
theorem dX0_end_0 : decode cX0_end 0 = .ok (.iconst 0, 1) := by decide +kernel
theorem dX0_end_1 : decode cX0_end 1 = .ok (.istore_n 2, 1) := by decide +kernel
theorem dX0_end_2 : decode cX0_end 2 = .ok (.iconst 1, 1) := by decide +kernel
theorem dX0_end_3 : decode cX0_end 3 = .ok (.istore_n 3, 1) := by decide +kernel
theorem dX0_end_4 : decode cX0_end 4 = .ok (.iload_n 3, 1) := by decide +kernel
theorem dX0_end_5 : decode cX0_end 5 = .ok (.aload_n 0, 1) := by decide +kernel
theorem dX0_end_6 : decode cX0_end 6 = .ok (.getfield 93, 3) := by decide +kernel
theorem dX0_end_9 : decode cX0_end 9 = .ok (.if_icmp .gt 48, 3) := by decide +kernel
theorem dX0_end_12 : decode cX0_end 12 = .ok (.aload_n 0, 1) := by decide +kernel
theorem dX0_end_13 : decode cX0_end 13 = .ok (.iload_n 3, 1) := by decide +kernel
theorem dX0_end_14 : decode cX0_end 14 = .ok (.invokevirtual 63, 3) := by decide +kernel
theorem dX0_end_17 : decode cX0_end 17 = .ok (.astore 4, 2) := by decide +kernel
theorem dX0_end_19 : decode cX0_end 19 = .ok (.aload 4, 2) := by decide +kernel
theorem dX0_end_21 : decode cX0_end 21 = .ok (.ifnull 30, 3) := by decide +kernel
theorem dX0_end_24 : decode cX0_end 24 = .ok (.aload 4, 2) := by decide +kernel
theorem dX0_end_26 : decode cX0_end 26 = .ok (.getfield 96, 3) := by decide +kernel
theorem dX0_end_29 : decode cX0_end 29 = .ok (.iload_n 1, 1) := by decide +kernel
theorem dX0_end_30 : decode cX0_end 30 = .ok (.if_icmp .ne 21, 3) := by decide +kernel
theorem dX0_end_33 : decode cX0_end 33 = .ok (.aload 4, 2) := by decide +kernel
theorem dX0_end_35 : decode cX0_end 35 = .ok (.getfield 68, 3) := by decide +kernel
theorem dX0_end_38 : decode cX0_end 38 = .ok (.iconst 1, 1) := by decide +kernel
theorem dX0_end_39 : decode cX0_end 39 = .ok (.if_icmp .ne 12, 3) := by decide +kernel
theorem dX0_end_42 : decode cX0_end 42 = .ok (.iinc 2 1, 3) := by decide +kernel
theorem dX0_end_45 : decode cX0_end 45 = .ok (.aload_n 0, 1) := by decide +kernel
theorem dX0_end_46 : decode cX0_end 46 = .ok (.aload 4, 2) := by decide +kernel
theorem dX0_end_48 : decode cX0_end 48 = .ok (.invokevirtual 99, 3) := by decide +kernel
theorem dX0_end_51 : decode cX0_end 51 = .ok (.iinc 3 1, 3) := by decide +kernel
theorem dX0_end_54 : decode cX0_end 54 = .ok (.goto (-50), 3) := by decide +kernel
theorem dX0_end_57 : decode cX0_end 57 = .ok (.iload_n 2, 1) := by decide +kernel
theorem dX0_end_58 : decode cX0_end 58 = .ok (.ireturn, 1) := by decide +kernel
theorem dX0_segment_0 : decode cX0_segment 0 = .ok (.aload_n 0, 1) := by decide +kernel
theorem dX0_segment_1 : decode cX0_segment 1 = .ok (.iload_n 1, 1) := by decide +kernel
theorem dX0_segment_2 : decode cX0_segment 2 = .ok (.invokevirtual 63, 3) := by decide +kernel
theorem dX0_segment_5 : decode cX0_segment 5 = .ok (.astore_n 2, 1) := by decide +kernel
theorem dX0_segment_6 : decode cX0_segment 6 = .ok (.aload_n 2, 1) := by decide +kernel
theorem dX0_segment_7 : decode cX0_segment 7 = .ok (.ifnonnull 5, 3) := by decide +kernel
theorem dX0_segment_10 : decode cX0_segment 10 = .ok (.iconst (-1), 1) := by decide +kernel
theorem dX0_segment_11 : decode cX0_segment 11 = .ok (.ireturn, 1) := by decide +kernel
theorem dX0_segment_12 : decode cX0_segment 12 = .ok (.aload_n 2, 1) := by decide +kernel
theorem dX0_segment_13 : decode cX0_segment 13 = .ok (.getfield 68, 3) := by decide +kernel
theorem dX0_segment_16 : decode cX0_segment 16 = .ok (.iconst 1, 1) := by decide +kernel
theorem dX0_segment_17 : decode cX0_segment 17 = .ok (.if_icmp .ne 10, 3) := by decide +kernel
theorem dX0_segment_20 : decode cX0_segment 20 = .ok (.aload_n 2, 1) := by decide +kernel
theorem dX0_segment_21 : decode cX0_segment 21 = .ok (.getfield 103, 3) := by decide +kernel
theorem dX0_segment_24 : decode cX0_segment 24 = .ok (.ifCond .ne 6, 3) := by decide +kernel
theorem dX0_segment_27 : decode cX0_segment 27 = .ok (.bipush (-2), 2) := by decide +kernel
theorem dX0_segment_29 : decode cX0_segment 29 = .ok (.ireturn, 1) := by decide +kernel
theorem dX0_segment_30 : decode cX0_segment 30 = .ok (.aload_n 0, 1) := by decide +kernel
theorem dX0_segment_31 : decode cX0_segment 31 = .ok (.aload_n 2, 1) := by decide +kernel
theorem dX0_segment_32 : decode cX0_segment 32 = .ok (.getfield 96, 3) := by decide +kernel
theorem dX0_segment_35 : decode cX0_segment 35 = .ok (.aload_n 2, 1) := by decide +kernel
theorem dX0_segment_36 : decode cX0_segment 36 = .ok (.getfield 106, 3) := by decide +kernel
theorem dX0_segment_39 : decode cX0_segment 39 = .ok (.aload_n 2, 1) := by decide +kernel
theorem dX0_segment_40 : decode cX0_segment 40 = .ok (.getfield 109, 3) := by decide +kernel
theorem dX0_segment_43 : decode cX0_segment 43 = .ok (.invokevirtual 56, 3) := by decide +kernel
theorem dX0_segment_46 : decode cX0_segment 46 = .ok (.astore_n 3, 1) := by decide +kernel
theorem dX0_segment_47 : decode cX0_segment 47 = .ok (.aload_n 3, 1) := by decide +kernel
theorem dX0_segment_48 : decode cX0_segment 48 = .ok (.ifnonnull 5, 3) := by decide +kernel
theorem dX0_segment_51 : decode cX0_segment 51 = .ok (.iconst 0, 1) := by decide +kernel
theorem dX0_segment_52 : decode cX0_segment 52 = .ok (.ireturn, 1) := by decide +kernel
theorem dX0_segment_53 : decode cX0_segment 53 = .ok (.aload_n 3, 1) := by decide +kernel
theorem dX0_segment_54 : decode cX0_segment 54 = .ok (.aload_n 2, 1) := by decide +kernel
theorem dX0_segment_55 : decode cX0_segment 55 = .ok (.invokevirtual 112, 3) := by decide +kernel
theorem dX0_segment_58 : decode cX0_segment 58 = .ok (.aload_n 2, 1) := by decide +kernel
theorem dX0_segment_59 : decode cX0_segment 59 = .ok (.iconst 2, 1) := by decide +kernel
theorem dX0_segment_60 : decode cX0_segment 60 = .ok (.putfield 68, 3) := by decide +kernel
theorem dX0_segment_63 : decode cX0_segment 63 = .ok (.aload_n 3, 1) := by decide +kernel
theorem dX0_segment_64 : decode cX0_segment 64 = .ok (.getfield 60, 3) := by decide +kernel
theorem dX0_segment_67 : decode cX0_segment 67 = .ok (.ireturn, 1) := by decide +kernel
theorem dX0_writer_0 : decode cX0_writer 0 = .ok (.iload_n 1, 1) := by decide +kernel
theorem dX0_writer_1 : decode cX0_writer 1 = .ok (.ifCond .ge 5, 3) := by decide +kernel
theorem dX0_writer_4 : decode cX0_writer 4 = .ok (.iconst (-1), 1) := by decide +kernel
theorem dX0_writer_5 : decode cX0_writer 5 = .ok (.ireturn, 1) := by decide +kernel
theorem dX0_writer_6 : decode cX0_writer 6 = .ok (.iload_n 1, 1) := by decide +kernel
theorem dX0_writer_7 : decode cX0_writer 7 = .ok (.bipush 16, 2) := by decide +kernel
theorem dX0_writer_9 : decode cX0_writer 9 = .ok (.irem, 1) := by decide +kernel
theorem dX0_writer_10 : decode cX0_writer 10 = .ok (.istore_n 2, 1) := by decide +kernel
theorem dX0_writer_11 : decode cX0_writer 11 = .ok (.iload_n 1, 1) := by decide +kernel
theorem dX0_writer_12 : decode cX0_writer 12 = .ok (.bipush 16, 2) := by decide +kernel
theorem dX0_writer_14 : decode cX0_writer 14 = .ok (.idiv, 1) := by decide +kernel
theorem dX0_writer_15 : decode cX0_writer 15 = .ok (.iconst 1, 1) := by decide +kernel
theorem dX0_writer_16 : decode cX0_writer 16 = .ok (.isub, 1) := by decide +kernel
theorem dX0_writer_17 : decode cX0_writer 17 = .ok (.istore_n 3, 1) := by decide +kernel
theorem dX0_writer_18 : decode cX0_writer 18 = .ok (.iload_n 2, 1) := by decide +kernel
theorem dX0_writer_19 : decode cX0_writer 19 = .ok (.bipush 8, 2) := by decide +kernel
theorem dX0_writer_21 : decode cX0_writer 21 = .ok (.if_icmp .gt 9, 3) := by decide +kernel
theorem dX0_writer_24 : decode cX0_writer 24 = .ok (.iload_n 3, 1) := by decide +kernel
theorem dX0_writer_25 : decode cX0_writer 25 = .ok (.bipush 8, 2) := by decide +kernel
theorem dX0_writer_27 : decode cX0_writer 27 = .ok (.if_icmp .lt 5, 3) := by decide +kernel
theorem dX0_writer_30 : decode cX0_writer 30 = .ok (.iconst (-1), 1) := by decide +kernel
theorem dX0_writer_31 : decode cX0_writer 31 = .ok (.ireturn, 1) := by decide +kernel
theorem dX0_writer_32 : decode cX0_writer 32 = .ok (.aload_n 0, 1) := by decide +kernel
theorem dX0_writer_33 : decode cX0_writer 33 = .ok (.getfield 115, 3) := by decide +kernel
theorem dX0_writer_36 : decode cX0_writer 36 = .ok (.bipush 9, 2) := by decide +kernel
theorem dX0_writer_38 : decode cX0_writer 38 = .ok (.if_icmp .lt 5, 3) := by decide +kernel
theorem dX0_writer_41 : decode cX0_writer 41 = .ok (.iconst 0, 1) := by decide +kernel
theorem dX0_writer_42 : decode cX0_writer 42 = .ok (.ireturn, 1) := by decide +kernel
theorem dX0_writer_43 : decode cX0_writer 43 = .ok (.aload_n 0, 1) := by decide +kernel
theorem dX0_writer_44 : decode cX0_writer 44 = .ok (.getfield 17, 3) := by decide +kernel
theorem dX0_writer_47 : decode cX0_writer 47 = .ok (.aload_n 0, 1) := by decide +kernel
theorem dX0_writer_48 : decode cX0_writer 48 = .ok (.getfield 115, 3) := by decide +kernel
theorem dX0_writer_51 : decode cX0_writer 51 = .ok (.new 15, 3) := by decide +kernel
theorem dX0_writer_54 : decode cX0_writer 54 = .ok (.dup, 1) := by decide +kernel
theorem dX0_writer_55 : decode cX0_writer 55 = .ok (.iload_n 2, 1) := by decide +kernel
theorem dX0_writer_56 : decode cX0_writer 56 = .ok (.iload_n 3, 1) := by decide +kernel
theorem dX0_writer_57 : decode cX0_writer 57 = .ok (.invokespecial 118, 3) := by decide +kernel
theorem dX0_writer_60 : decode cX0_writer 60 = .ok (.aastore, 1) := by decide +kernel
theorem dX0_writer_61 : decode cX0_writer 61 = .ok (.aload_n 0, 1) := by decide +kernel
theorem dX0_writer_62 : decode cX0_writer 62 = .ok (.dup, 1) := by decide +kernel
theorem dX0_writer_63 : decode cX0_writer 63 = .ok (.getfield 115, 3) := by decide +kernel
theorem dX0_writer_66 : decode cX0_writer 66 = .ok (.iconst 1, 1) := by decide +kernel
theorem dX0_writer_67 : decode cX0_writer 67 = .ok (.iadd, 1) := by decide +kernel
theorem dX0_writer_68 : decode cX0_writer 68 = .ok (.putfield 115, 3) := by decide +kernel
theorem dX0_writer_71 : decode cX0_writer 71 = .ok (.aload_n 0, 1) := by decide +kernel
theorem dX0_writer_72 : decode cX0_writer 72 = .ok (.getfield 115, 3) := by decide +kernel
theorem dX0_writer_75 : decode cX0_writer 75 = .ok (.ireturn, 1) := by decide +kernel
theorem dX0_writerOf_0 : decode cX0_writerOf 0 = .ok (.iload_n 1, 1) := by decide +kernel
theorem dX0_writerOf_1 : decode cX0_writerOf 1 = .ok (.iconst 1, 1) := by decide +kernel
theorem dX0_writerOf_2 : decode cX0_writerOf 2 = .ok (.aload_n 0, 1) := by decide +kernel
theorem dX0_writerOf_3 : decode cX0_writerOf 3 = .ok (.getfield 115, 3) := by decide +kernel
theorem dX0_writerOf_6 : decode cX0_writerOf 6 = .ok (.invokestatic 48, 3) := by decide +kernel
theorem dX0_writerOf_9 : decode cX0_writerOf 9 = .ok (.ifCond .eq 14, 3) := by decide +kernel
theorem dX0_writerOf_12 : decode cX0_writerOf 12 = .ok (.aload_n 0, 1) := by decide +kernel
theorem dX0_writerOf_13 : decode cX0_writerOf 13 = .ok (.getfield 17, 3) := by decide +kernel
theorem dX0_writerOf_16 : decode cX0_writerOf 16 = .ok (.iload_n 1, 1) := by decide +kernel
theorem dX0_writerOf_17 : decode cX0_writerOf 17 = .ok (.iconst 1, 1) := by decide +kernel
theorem dX0_writerOf_18 : decode cX0_writerOf 18 = .ok (.isub, 1) := by decide +kernel
theorem dX0_writerOf_19 : decode cX0_writerOf 19 = .ok (.aaload, 1) := by decide +kernel
theorem dX0_writerOf_20 : decode cX0_writerOf 20 = .ok (.goto 4, 3) := by decide +kernel
theorem dX0_writerOf_23 : decode cX0_writerOf 23 = .ok (.aconst_null, 1) := by decide +kernel
theorem dX0_writerOf_24 : decode cX0_writerOf 24 = .ok (.areturn, 1) := by decide +kernel
theorem dX0_firstFor_0 : decode cX0_firstFor 0 = .ok (.aconst_null, 1) := by decide +kernel
theorem dX0_firstFor_1 : decode cX0_firstFor 1 = .ok (.astore_n 2, 1) := by decide +kernel
theorem dX0_firstFor_2 : decode cX0_firstFor 2 = .ok (.iconst 1, 1) := by decide +kernel
theorem dX0_firstFor_3 : decode cX0_firstFor 3 = .ok (.istore_n 3, 1) := by decide +kernel
theorem dX0_firstFor_4 : decode cX0_firstFor 4 = .ok (.iload_n 3, 1) := by decide +kernel
theorem dX0_firstFor_5 : decode cX0_firstFor 5 = .ok (.aload_n 0, 1) := by decide +kernel
theorem dX0_firstFor_6 : decode cX0_firstFor 6 = .ok (.getfield 93, 3) := by decide +kernel
theorem dX0_firstFor_9 : decode cX0_firstFor 9 = .ok (.if_icmp .gt 54, 3) := by decide +kernel
theorem dX0_firstFor_12 : decode cX0_firstFor 12 = .ok (.aload_n 0, 1) := by decide +kernel
theorem dX0_firstFor_13 : decode cX0_firstFor 13 = .ok (.iload_n 3, 1) := by decide +kernel
theorem dX0_firstFor_14 : decode cX0_firstFor 14 = .ok (.invokevirtual 63, 3) := by decide +kernel
theorem dX0_firstFor_17 : decode cX0_firstFor 17 = .ok (.astore 4, 2) := by decide +kernel
theorem dX0_firstFor_19 : decode cX0_firstFor 19 = .ok (.aload 4, 2) := by decide +kernel
theorem dX0_firstFor_21 : decode cX0_firstFor 21 = .ok (.ifnull 36, 3) := by decide +kernel
theorem dX0_firstFor_24 : decode cX0_firstFor 24 = .ok (.aload 4, 2) := by decide +kernel
theorem dX0_firstFor_26 : decode cX0_firstFor 26 = .ok (.invokevirtual 197, 3) := by decide +kernel
theorem dX0_firstFor_29 : decode cX0_firstFor 29 = .ok (.ifCond .eq 28, 3) := by decide +kernel
theorem dX0_firstFor_32 : decode cX0_firstFor 32 = .ok (.aload_n 1, 1) := by decide +kernel
theorem dX0_firstFor_33 : decode cX0_firstFor 33 = .ok (.aload 4, 2) := by decide +kernel
theorem dX0_firstFor_35 : decode cX0_firstFor 35 = .ok (.invokevirtual 200, 3) := by decide +kernel
theorem dX0_firstFor_38 : decode cX0_firstFor 38 = .ok (.ifCond .eq 19, 3) := by decide +kernel
theorem dX0_firstFor_41 : decode cX0_firstFor 41 = .ok (.aload_n 2, 1) := by decide +kernel
theorem dX0_firstFor_42 : decode cX0_firstFor 42 = .ok (.ifnull 12, 3) := by decide +kernel
theorem dX0_firstFor_45 : decode cX0_firstFor 45 = .ok (.aload 4, 2) := by decide +kernel
theorem dX0_firstFor_47 : decode cX0_firstFor 47 = .ok (.aload_n 2, 1) := by decide +kernel
theorem dX0_firstFor_48 : decode cX0_firstFor 48 = .ok (.invokevirtual 203, 3) := by decide +kernel
theorem dX0_firstFor_51 : decode cX0_firstFor 51 = .ok (.ifCond .eq 6, 3) := by decide +kernel
theorem dX0_firstFor_54 : decode cX0_firstFor 54 = .ok (.aload 4, 2) := by decide +kernel
theorem dX0_firstFor_56 : decode cX0_firstFor 56 = .ok (.astore_n 2, 1) := by decide +kernel
theorem dX0_firstFor_57 : decode cX0_firstFor 57 = .ok (.iinc 3 1, 3) := by decide +kernel
theorem dX0_firstFor_60 : decode cX0_firstFor 60 = .ok (.goto (-56), 3) := by decide +kernel
theorem dX0_firstFor_63 : decode cX0_firstFor 63 = .ok (.aload_n 2, 1) := by decide +kernel
theorem dX0_firstFor_64 : decode cX0_firstFor 64 = .ok (.areturn, 1) := by decide +kernel
theorem dX0_next_0 : decode cX0_next 0 = .ok (.aload_n 0, 1) := by decide +kernel
theorem dX0_next_1 : decode cX0_next 1 = .ok (.iload_n 1, 1) := by decide +kernel
theorem dX0_next_2 : decode cX0_next 2 = .ok (.invokevirtual 121, 3) := by decide +kernel
theorem dX0_next_5 : decode cX0_next 5 = .ok (.astore_n 2, 1) := by decide +kernel
theorem dX0_next_6 : decode cX0_next 6 = .ok (.aload_n 2, 1) := by decide +kernel
theorem dX0_next_7 : decode cX0_next 7 = .ok (.ifnonnull 5, 3) := by decide +kernel
theorem dX0_next_10 : decode cX0_next 10 = .ok (.iconst (-1), 1) := by decide +kernel
theorem dX0_next_11 : decode cX0_next 11 = .ok (.ireturn, 1) := by decide +kernel
theorem dX0_next_12 : decode cX0_next 12 = .ok (.aload_n 2, 1) := by decide +kernel
theorem dX0_next_13 : decode cX0_next 13 = .ok (.getfield 125, 3) := by decide +kernel
theorem dX0_next_16 : decode cX0_next 16 = .ok (.ifnull 6, 3) := by decide +kernel
theorem dX0_next_19 : decode cX0_next 19 = .ok (.bipush (-2), 2) := by decide +kernel
theorem dX0_next_21 : decode cX0_next 21 = .ok (.ireturn, 1) := by decide +kernel
theorem dX0_next_22 : decode cX0_next 22 = .ok (.aload_n 0, 1) := by decide +kernel
theorem dX0_next_23 : decode cX0_next 23 = .ok (.aload_n 2, 1) := by decide +kernel
theorem dX0_next_24 : decode cX0_next 24 = .ok (.invokevirtual 129, 3) := by decide +kernel
theorem dX0_next_27 : decode cX0_next 27 = .ok (.astore_n 3, 1) := by decide +kernel
theorem dX0_next_28 : decode cX0_next 28 = .ok (.aload_n 3, 1) := by decide +kernel
theorem dX0_next_29 : decode cX0_next 29 = .ok (.ifnonnull 5, 3) := by decide +kernel
theorem dX0_next_32 : decode cX0_next 32 = .ok (.iconst 0, 1) := by decide +kernel
theorem dX0_next_33 : decode cX0_next 33 = .ok (.ireturn, 1) := by decide +kernel
theorem dX0_next_34 : decode cX0_next 34 = .ok (.aload_n 3, 1) := by decide +kernel
theorem dX0_next_35 : decode cX0_next 35 = .ok (.iconst 3, 1) := by decide +kernel
theorem dX0_next_36 : decode cX0_next 36 = .ok (.putfield 68, 3) := by decide +kernel
theorem dX0_next_39 : decode cX0_next 39 = .ok (.aload_n 2, 1) := by decide +kernel
theorem dX0_next_40 : decode cX0_next 40 = .ok (.aload_n 3, 1) := by decide +kernel
theorem dX0_next_41 : decode cX0_next 41 = .ok (.putfield 125, 3) := by decide +kernel
theorem dX0_next_44 : decode cX0_next 44 = .ok (.aload_n 3, 1) := by decide +kernel
theorem dX0_next_45 : decode cX0_next 45 = .ok (.getfield 60, 3) := by decide +kernel
theorem dX0_next_48 : decode cX0_next 48 = .ok (.ireturn, 1) := by decide +kernel
theorem dX0_noteInOrder_0 : decode cX0_noteInOrder 0 = .ok (.aload_n 0, 1) := by decide +kernel
theorem dX0_noteInOrder_1 : decode cX0_noteInOrder 1 = .ok (.getfield 176, 3) := by decide +kernel
theorem dX0_noteInOrder_4 : decode cX0_noteInOrder 4 = .ok (.sipush 1000, 3) := by decide +kernel
theorem dX0_noteInOrder_7 : decode cX0_noteInOrder 7 = .ok (.if_icmp .ge 26, 3) := by decide +kernel
theorem dX0_noteInOrder_10 : decode cX0_noteInOrder 10 = .ok (.aload_n 0, 1) := by decide +kernel
theorem dX0_noteInOrder_11 : decode cX0_noteInOrder 11 = .ok (.getfield 21, 3) := by decide +kernel
theorem dX0_noteInOrder_14 : decode cX0_noteInOrder 14 = .ok (.aload_n 0, 1) := by decide +kernel
theorem dX0_noteInOrder_15 : decode cX0_noteInOrder 15 = .ok (.getfield 176, 3) := by decide +kernel
theorem dX0_noteInOrder_18 : decode cX0_noteInOrder 18 = .ok (.aload_n 1, 1) := by decide +kernel
theorem dX0_noteInOrder_19 : decode cX0_noteInOrder 19 = .ok (.getfield 60, 3) := by decide +kernel
theorem dX0_noteInOrder_22 : decode cX0_noteInOrder 22 = .ok (.iastore, 1) := by decide +kernel
theorem dX0_noteInOrder_23 : decode cX0_noteInOrder 23 = .ok (.aload_n 0, 1) := by decide +kernel
theorem dX0_noteInOrder_24 : decode cX0_noteInOrder 24 = .ok (.dup, 1) := by decide +kernel
theorem dX0_noteInOrder_25 : decode cX0_noteInOrder 25 = .ok (.getfield 176, 3) := by decide +kernel
theorem dX0_noteInOrder_28 : decode cX0_noteInOrder 28 = .ok (.iconst 1, 1) := by decide +kernel
theorem dX0_noteInOrder_29 : decode cX0_noteInOrder 29 = .ok (.iadd, 1) := by decide +kernel
theorem dX0_noteInOrder_30 : decode cX0_noteInOrder 30 = .ok (.putfield 176, 3) := by decide +kernel
theorem dX0_noteInOrder_33 : decode cX0_noteInOrder 33 = .ok (.return_, 1) := by decide +kernel
theorem dX0_print_0 : decode cX0_print 0 = .ok (.aload_n 0, 1) := by decide +kernel
theorem dX0_print_1 : decode cX0_print 1 = .ok (.iload_n 1, 1) := by decide +kernel
theorem dX0_print_2 : decode cX0_print 2 = .ok (.invokevirtual 121, 3) := by decide +kernel
theorem dX0_print_5 : decode cX0_print 5 = .ok (.astore_n 3, 1) := by decide +kernel
theorem dX0_print_6 : decode cX0_print 6 = .ok (.aload_n 3, 1) := by decide +kernel
theorem dX0_print_7 : decode cX0_print 7 = .ok (.ifnull 7, 3) := by decide +kernel
theorem dX0_print_10 : decode cX0_print 10 = .ok (.iload_n 2, 1) := by decide +kernel
theorem dX0_print_11 : decode cX0_print 11 = .ok (.ifCond .ge 5, 3) := by decide +kernel
theorem dX0_print_14 : decode cX0_print 14 = .ok (.iconst (-1), 1) := by decide +kernel
theorem dX0_print_15 : decode cX0_print 15 = .ok (.ireturn, 1) := by decide +kernel
theorem dX0_print_16 : decode cX0_print 16 = .ok (.aload_n 3, 1) := by decide +kernel
theorem dX0_print_17 : decode cX0_print 17 = .ok (.getfield 125, 3) := by decide +kernel
theorem dX0_print_20 : decode cX0_print 20 = .ok (.astore 4, 2) := by decide +kernel
theorem dX0_print_22 : decode cX0_print 22 = .ok (.aload 4, 2) := by decide +kernel
theorem dX0_print_24 : decode cX0_print 24 = .ok (.ifnonnull 6, 3) := by decide +kernel
theorem dX0_print_27 : decode cX0_print 27 = .ok (.bipush (-2), 2) := by decide +kernel
theorem dX0_print_29 : decode cX0_print 29 = .ok (.ireturn, 1) := by decide +kernel
theorem dX0_print_30 : decode cX0_print 30 = .ok (.iload_n 2, 1) := by decide +kernel
theorem dX0_print_31 : decode cX0_print 31 = .ok (.aload 4, 2) := by decide +kernel
theorem dX0_print_33 : decode cX0_print 33 = .ok (.invokevirtual 133, 3) := by decide +kernel
theorem dX0_print_36 : decode cX0_print 36 = .ok (.invokestatic 32, 3) := by decide +kernel
theorem dX0_print_39 : decode cX0_print 39 = .ok (.istore 5, 2) := by decide +kernel
theorem dX0_print_41 : decode cX0_print 41 = .ok (.aload 4, 2) := by decide +kernel
theorem dX0_print_43 : decode cX0_print 43 = .ok (.dup, 1) := by decide +kernel
theorem dX0_print_44 : decode cX0_print 44 = .ok (.getfield 137, 3) := by decide +kernel
theorem dX0_print_47 : decode cX0_print 47 = .ok (.iload 5, 2) := by decide +kernel
theorem dX0_print_49 : decode cX0_print 49 = .ok (.iadd, 1) := by decide +kernel
theorem dX0_print_50 : decode cX0_print 50 = .ok (.putfield 137, 3) := by decide +kernel
theorem dX0_print_53 : decode cX0_print 53 = .ok (.aload_n 0, 1) := by decide +kernel
theorem dX0_print_54 : decode cX0_print 54 = .ok (.dup, 1) := by decide +kernel
theorem dX0_print_55 : decode cX0_print 55 = .ok (.getfield 140, 3) := by decide +kernel
theorem dX0_print_58 : decode cX0_print 58 = .ok (.iload 5, 2) := by decide +kernel
theorem dX0_print_60 : decode cX0_print 60 = .ok (.iadd, 1) := by decide +kernel
theorem dX0_print_61 : decode cX0_print 61 = .ok (.putfield 140, 3) := by decide +kernel
theorem dX0_print_64 : decode cX0_print 64 = .ok (.aload 4, 2) := by decide +kernel
theorem dX0_print_66 : decode cX0_print 66 = .ok (.invokevirtual 133, 3) := by decide +kernel
theorem dX0_print_69 : decode cX0_print 69 = .ok (.ifCond .ne 21, 3) := by decide +kernel
theorem dX0_print_72 : decode cX0_print 72 = .ok (.aload_n 3, 1) := by decide +kernel
theorem dX0_print_73 : decode cX0_print 73 = .ok (.aconst_null, 1) := by decide +kernel
theorem dX0_print_74 : decode cX0_print 74 = .ok (.putfield 125, 3) := by decide +kernel
theorem dX0_print_77 : decode cX0_print 77 = .ok (.aload_n 0, 1) := by decide +kernel
theorem dX0_print_78 : decode cX0_print 78 = .ok (.aload 4, 2) := by decide +kernel
theorem dX0_print_80 : decode cX0_print 80 = .ok (.invokevirtual 143, 3) := by decide +kernel
theorem dX0_print_83 : decode cX0_print 83 = .ok (.aload_n 0, 1) := by decide +kernel
theorem dX0_print_84 : decode cX0_print 84 = .ok (.aload 4, 2) := by decide +kernel
theorem dX0_print_86 : decode cX0_print 86 = .ok (.iconst 4, 1) := by decide +kernel
theorem dX0_print_87 : decode cX0_print 87 = .ok (.invokevirtual 146, 3) := by decide +kernel
theorem dX0_print_90 : decode cX0_print 90 = .ok (.iload 5, 2) := by decide +kernel
theorem dX0_print_92 : decode cX0_print 92 = .ok (.ireturn, 1) := by decide +kernel
theorem dX0_cut_0 : decode cX0_cut 0 = .ok (.aload_n 0, 1) := by decide +kernel
theorem dX0_cut_1 : decode cX0_cut 1 = .ok (.iload_n 1, 1) := by decide +kernel
theorem dX0_cut_2 : decode cX0_cut 2 = .ok (.invokevirtual 121, 3) := by decide +kernel
theorem dX0_cut_5 : decode cX0_cut 5 = .ok (.astore_n 2, 1) := by decide +kernel
theorem dX0_cut_6 : decode cX0_cut 6 = .ok (.aload_n 2, 1) := by decide +kernel
theorem dX0_cut_7 : decode cX0_cut 7 = .ok (.ifnonnull 5, 3) := by decide +kernel
theorem dX0_cut_10 : decode cX0_cut 10 = .ok (.iconst (-1), 1) := by decide +kernel
theorem dX0_cut_11 : decode cX0_cut 11 = .ok (.ireturn, 1) := by decide +kernel
theorem dX0_cut_12 : decode cX0_cut 12 = .ok (.aload_n 2, 1) := by decide +kernel
theorem dX0_cut_13 : decode cX0_cut 13 = .ok (.getfield 125, 3) := by decide +kernel
theorem dX0_cut_16 : decode cX0_cut 16 = .ok (.astore_n 3, 1) := by decide +kernel
theorem dX0_cut_17 : decode cX0_cut 17 = .ok (.aload_n 3, 1) := by decide +kernel
theorem dX0_cut_18 : decode cX0_cut 18 = .ok (.ifnonnull 6, 3) := by decide +kernel
theorem dX0_cut_21 : decode cX0_cut 21 = .ok (.bipush (-2), 2) := by decide +kernel
theorem dX0_cut_23 : decode cX0_cut 23 = .ok (.ireturn, 1) := by decide +kernel
theorem dX0_cut_24 : decode cX0_cut 24 = .ok (.aload_n 3, 1) := by decide +kernel
theorem dX0_cut_25 : decode cX0_cut 25 = .ok (.invokevirtual 149, 3) := by decide +kernel
theorem dX0_cut_28 : decode cX0_cut 28 = .ok (.istore 4, 2) := by decide +kernel
theorem dX0_cut_30 : decode cX0_cut 30 = .ok (.aload_n 3, 1) := by decide +kernel
theorem dX0_cut_31 : decode cX0_cut 31 = .ok (.getfield 152, 3) := by decide +kernel
theorem dX0_cut_34 : decode cX0_cut 34 = .ok (.ifCond .eq 17, 3) := by decide +kernel
theorem dX0_cut_37 : decode cX0_cut 37 = .ok (.aload_n 2, 1) := by decide +kernel
theorem dX0_cut_38 : decode cX0_cut 38 = .ok (.aconst_null, 1) := by decide +kernel
theorem dX0_cut_39 : decode cX0_cut 39 = .ok (.putfield 125, 3) := by decide +kernel
theorem dX0_cut_42 : decode cX0_cut 42 = .ok (.aload_n 0, 1) := by decide +kernel
theorem dX0_cut_43 : decode cX0_cut 43 = .ok (.aload_n 3, 1) := by decide +kernel
theorem dX0_cut_44 : decode cX0_cut 44 = .ok (.iconst 5, 1) := by decide +kernel
theorem dX0_cut_45 : decode cX0_cut 45 = .ok (.invokevirtual 146, 3) := by decide +kernel
theorem dX0_cut_48 : decode cX0_cut 48 = .ok (.goto 25, 3) := by decide +kernel
theorem dX0_cut_51 : decode cX0_cut 51 = .ok (.aload_n 0, 1) := by decide +kernel
theorem dX0_cut_52 : decode cX0_cut 52 = .ok (.dup, 1) := by decide +kernel
theorem dX0_cut_53 : decode cX0_cut 53 = .ok (.getfield 155, 3) := by decide +kernel
theorem dX0_cut_56 : decode cX0_cut 56 = .ok (.aload_n 3, 1) := by decide +kernel
theorem dX0_cut_57 : decode cX0_cut 57 = .ok (.getfield 137, 3) := by decide +kernel
theorem dX0_cut_60 : decode cX0_cut 60 = .ok (.iload 4, 2) := by decide +kernel
theorem dX0_cut_62 : decode cX0_cut 62 = .ok (.isub, 1) := by decide +kernel
theorem dX0_cut_63 : decode cX0_cut 63 = .ok (.iadd, 1) := by decide +kernel
theorem dX0_cut_64 : decode cX0_cut 64 = .ok (.putfield 155, 3) := by decide +kernel
theorem dX0_cut_67 : decode cX0_cut 67 = .ok (.aload_n 3, 1) := by decide +kernel
theorem dX0_cut_68 : decode cX0_cut 68 = .ok (.iload 4, 2) := by decide +kernel
theorem dX0_cut_70 : decode cX0_cut 70 = .ok (.putfield 137, 3) := by decide +kernel
theorem dX0_cut_73 : decode cX0_cut 73 = .ok (.iload 4, 2) := by decide +kernel
theorem dX0_cut_75 : decode cX0_cut 75 = .ok (.ireturn, 1) := by decide +kernel
theorem dX0_purge_0 : decode cX0_purge 0 = .ok (.aload_n 0, 1) := by decide +kernel
theorem dX0_purge_1 : decode cX0_purge 1 = .ok (.iload_n 1, 1) := by decide +kernel
theorem dX0_purge_2 : decode cX0_purge 2 = .ok (.invokevirtual 63, 3) := by decide +kernel
theorem dX0_purge_5 : decode cX0_purge 5 = .ok (.astore_n 2, 1) := by decide +kernel
theorem dX0_purge_6 : decode cX0_purge 6 = .ok (.aload_n 2, 1) := by decide +kernel
theorem dX0_purge_7 : decode cX0_purge 7 = .ok (.ifnonnull 5, 3) := by decide +kernel
theorem dX0_purge_10 : decode cX0_purge 10 = .ok (.iconst (-1), 1) := by decide +kernel
theorem dX0_purge_11 : decode cX0_purge 11 = .ok (.ireturn, 1) := by decide +kernel
theorem dX0_purge_12 : decode cX0_purge 12 = .ok (.aload_n 2, 1) := by decide +kernel
theorem dX0_purge_13 : decode cX0_purge 13 = .ok (.invokevirtual 87, 3) := by decide +kernel
theorem dX0_purge_16 : decode cX0_purge 16 = .ok (.ifCond .eq 6, 3) := by decide +kernel
theorem dX0_purge_19 : decode cX0_purge 19 = .ok (.bipush (-2), 2) := by decide +kernel
theorem dX0_purge_21 : decode cX0_purge 21 = .ok (.ireturn, 1) := by decide +kernel
theorem dX0_purge_22 : decode cX0_purge 22 = .ok (.aload_n 2, 1) := by decide +kernel
theorem dX0_purge_23 : decode cX0_purge 23 = .ok (.getfield 68, 3) := by decide +kernel
theorem dX0_purge_26 : decode cX0_purge 26 = .ok (.iconst 3, 1) := by decide +kernel
theorem dX0_purge_27 : decode cX0_purge 27 = .ok (.if_icmp .ne 10, 3) := by decide +kernel
theorem dX0_purge_30 : decode cX0_purge 30 = .ok (.aload_n 2, 1) := by decide +kernel
theorem dX0_purge_31 : decode cX0_purge 31 = .ok (.iconst 1, 1) := by decide +kernel
theorem dX0_purge_32 : decode cX0_purge 32 = .ok (.putfield 152, 3) := by decide +kernel
theorem dX0_purge_35 : decode cX0_purge 35 = .ok (.iconst 0, 1) := by decide +kernel
theorem dX0_purge_36 : decode cX0_purge 36 = .ok (.ireturn, 1) := by decide +kernel
theorem dX0_purge_37 : decode cX0_purge 37 = .ok (.aload_n 0, 1) := by decide +kernel
theorem dX0_purge_38 : decode cX0_purge 38 = .ok (.aload_n 2, 1) := by decide +kernel
theorem dX0_purge_39 : decode cX0_purge 39 = .ok (.iconst 5, 1) := by decide +kernel
theorem dX0_purge_40 : decode cX0_purge 40 = .ok (.invokevirtual 146, 3) := by decide +kernel
theorem dX0_purge_43 : decode cX0_purge 43 = .ok (.iconst 1, 1) := by decide +kernel
theorem dX0_purge_44 : decode cX0_purge 44 = .ok (.ireturn, 1) := by decide +kernel
theorem dX0_hold_0 : decode cX0_hold 0 = .ok (.aload_n 0, 1) := by decide +kernel
theorem dX0_hold_1 : decode cX0_hold 1 = .ok (.iload_n 1, 1) := by decide +kernel
theorem dX0_hold_2 : decode cX0_hold 2 = .ok (.invokevirtual 63, 3) := by decide +kernel
theorem dX0_hold_5 : decode cX0_hold 5 = .ok (.astore_n 3, 1) := by decide +kernel
theorem dX0_hold_6 : decode cX0_hold 6 = .ok (.aload_n 3, 1) := by decide +kernel
theorem dX0_hold_7 : decode cX0_hold 7 = .ok (.ifnonnull 5, 3) := by decide +kernel
theorem dX0_hold_10 : decode cX0_hold 10 = .ok (.iconst (-1), 1) := by decide +kernel
theorem dX0_hold_11 : decode cX0_hold 11 = .ok (.ireturn, 1) := by decide +kernel
theorem dX0_hold_12 : decode cX0_hold 12 = .ok (.aload_n 3, 1) := by decide +kernel
theorem dX0_hold_13 : decode cX0_hold 13 = .ok (.invokevirtual 158, 3) := by decide +kernel
theorem dX0_hold_16 : decode cX0_hold 16 = .ok (.ifCond .ne 6, 3) := by decide +kernel
theorem dX0_hold_19 : decode cX0_hold 19 = .ok (.bipush (-2), 2) := by decide +kernel
theorem dX0_hold_21 : decode cX0_hold 21 = .ok (.ireturn, 1) := by decide +kernel
theorem dX0_hold_22 : decode cX0_hold 22 = .ok (.aload_n 3, 1) := by decide +kernel
theorem dX0_hold_23 : decode cX0_hold 23 = .ok (.getfield 161, 3) := by decide +kernel
theorem dX0_hold_26 : decode cX0_hold 26 = .ok (.ifCond .eq 7, 3) := by decide +kernel
theorem dX0_hold_29 : decode cX0_hold 29 = .ok (.iconst 1, 1) := by decide +kernel
theorem dX0_hold_30 : decode cX0_hold 30 = .ok (.goto 4, 3) := by decide +kernel
theorem dX0_hold_33 : decode cX0_hold 33 = .ok (.iconst 0, 1) := by decide +kernel
theorem dX0_hold_34 : decode cX0_hold 34 = .ok (.istore 4, 2) := by decide +kernel
theorem dX0_hold_36 : decode cX0_hold 36 = .ok (.aload_n 3, 1) := by decide +kernel
theorem dX0_hold_37 : decode cX0_hold 37 = .ok (.iload_n 2, 1) := by decide +kernel
theorem dX0_hold_38 : decode cX0_hold 38 = .ok (.putfield 161, 3) := by decide +kernel
theorem dX0_hold_41 : decode cX0_hold 41 = .ok (.iload 4, 2) := by decide +kernel
theorem dX0_hold_43 : decode cX0_hold 43 = .ok (.ireturn, 1) := by decide +kernel
theorem dX0_route_0 : decode cX0_route 0 = .ok (.aload_n 0, 1) := by decide +kernel
theorem dX0_route_1 : decode cX0_route 1 = .ok (.iload_n 1, 1) := by decide +kernel
theorem dX0_route_2 : decode cX0_route 2 = .ok (.invokevirtual 63, 3) := by decide +kernel
theorem dX0_route_5 : decode cX0_route 5 = .ok (.astore_n 3, 1) := by decide +kernel
theorem dX0_route_6 : decode cX0_route 6 = .ok (.aload_n 3, 1) := by decide +kernel
theorem dX0_route_7 : decode cX0_route 7 = .ok (.ifnull 13, 3) := by decide +kernel
theorem dX0_route_10 : decode cX0_route 10 = .ok (.iload_n 2, 1) := by decide +kernel
theorem dX0_route_11 : decode cX0_route 11 = .ok (.iconst 0, 1) := by decide +kernel
theorem dX0_route_12 : decode cX0_route 12 = .ok (.bipush 63, 2) := by decide +kernel
theorem dX0_route_14 : decode cX0_route 14 = .ok (.invokestatic 48, 3) := by decide +kernel
theorem dX0_route_17 : decode cX0_route 17 = .ok (.ifCond .ne 5, 3) := by decide +kernel
theorem dX0_route_20 : decode cX0_route 20 = .ok (.iconst (-1), 1) := by decide +kernel
theorem dX0_route_21 : decode cX0_route 21 = .ok (.ireturn, 1) := by decide +kernel
theorem dX0_route_22 : decode cX0_route 22 = .ok (.aload_n 3, 1) := by decide +kernel
theorem dX0_route_23 : decode cX0_route 23 = .ok (.invokevirtual 158, 3) := by decide +kernel
theorem dX0_route_26 : decode cX0_route 26 = .ok (.ifCond .ne 6, 3) := by decide +kernel
theorem dX0_route_29 : decode cX0_route 29 = .ok (.bipush (-2), 2) := by decide +kernel
theorem dX0_route_31 : decode cX0_route 31 = .ok (.ireturn, 1) := by decide +kernel
theorem dX0_route_32 : decode cX0_route 32 = .ok (.aload_n 3, 1) := by decide +kernel
theorem dX0_route_33 : decode cX0_route 33 = .ok (.getfield 164, 3) := by decide +kernel
theorem dX0_route_36 : decode cX0_route 36 = .ok (.bipush 8, 2) := by decide +kernel
theorem dX0_route_38 : decode cX0_route 38 = .ok (.imul, 1) := by decide +kernel
theorem dX0_route_39 : decode cX0_route 39 = .ok (.aload_n 3, 1) := by decide +kernel
theorem dX0_route_40 : decode cX0_route 40 = .ok (.getfield 167, 3) := by decide +kernel
theorem dX0_route_43 : decode cX0_route 43 = .ok (.iadd, 1) := by decide +kernel
theorem dX0_route_44 : decode cX0_route 44 = .ok (.istore 4, 2) := by decide +kernel
theorem dX0_route_46 : decode cX0_route 46 = .ok (.aload_n 3, 1) := by decide +kernel
theorem dX0_route_47 : decode cX0_route 47 = .ok (.iload_n 2, 1) := by decide +kernel
theorem dX0_route_48 : decode cX0_route 48 = .ok (.bipush 8, 2) := by decide +kernel
theorem dX0_route_50 : decode cX0_route 50 = .ok (.idiv, 1) := by decide +kernel
theorem dX0_route_51 : decode cX0_route 51 = .ok (.putfield 164, 3) := by decide +kernel
theorem dX0_route_54 : decode cX0_route 54 = .ok (.aload_n 3, 1) := by decide +kernel
theorem dX0_route_55 : decode cX0_route 55 = .ok (.iload_n 2, 1) := by decide +kernel
theorem dX0_route_56 : decode cX0_route 56 = .ok (.bipush 8, 2) := by decide +kernel
theorem dX0_route_58 : decode cX0_route 58 = .ok (.irem, 1) := by decide +kernel
theorem dX0_route_59 : decode cX0_route 59 = .ok (.putfield 167, 3) := by decide +kernel
theorem dX0_route_62 : decode cX0_route 62 = .ok (.iload 4, 2) := by decide +kernel
theorem dX0_route_64 : decode cX0_route 64 = .ok (.ireturn, 1) := by decide +kernel
theorem dX0_isThere_0 : decode cX0_isThere 0 = .ok (.aload_n 0, 1) := by decide +kernel
theorem dX0_isThere_1 : decode cX0_isThere 1 = .ok (.iload_n 1, 1) := by decide +kernel
theorem dX0_isThere_2 : decode cX0_isThere 2 = .ok (.invokevirtual 63, 3) := by decide +kernel
theorem dX0_isThere_5 : decode cX0_isThere 5 = .ok (.astore_n 2, 1) := by decide +kernel
theorem dX0_isThere_6 : decode cX0_isThere 6 = .ok (.aload_n 2, 1) := by decide +kernel
theorem dX0_isThere_7 : decode cX0_isThere 7 = .ok (.ifnull 14, 3) := by decide +kernel
theorem dX0_isThere_10 : decode cX0_isThere 10 = .ok (.aload_n 2, 1) := by decide +kernel
theorem dX0_isThere_11 : decode cX0_isThere 11 = .ok (.invokevirtual 87, 3) := by decide +kernel
theorem dX0_isThere_14 : decode cX0_isThere 14 = .ok (.ifCond .ne 7, 3) := by decide +kernel
theorem dX0_isThere_17 : decode cX0_isThere 17 = .ok (.iconst 1, 1) := by decide +kernel
theorem dX0_isThere_18 : decode cX0_isThere 18 = .ok (.goto 4, 3) := by decide +kernel
theorem dX0_isThere_21 : decode cX0_isThere 21 = .ok (.iconst 0, 1) := by decide +kernel
theorem dX0_isThere_22 : decode cX0_isThere 22 = .ok (.ireturn, 1) := by decide +kernel
theorem dX0_search_0 : decode cX0_search 0 = .ok (.iload_n 1, 1) := by decide +kernel
theorem dX0_search_1 : decode cX0_search 1 = .ok (.iconst 0, 1) := by decide +kernel
theorem dX0_search_2 : decode cX0_search 2 = .ok (.sipush 255, 3) := by decide +kernel
theorem dX0_search_5 : decode cX0_search 5 = .ok (.invokestatic 48, 3) := by decide +kernel
theorem dX0_search_8 : decode cX0_search 8 = .ok (.ifCond .ne 5, 3) := by decide +kernel
theorem dX0_search_11 : decode cX0_search 11 = .ok (.iconst (-1), 1) := by decide +kernel
theorem dX0_search_12 : decode cX0_search 12 = .ok (.ireturn, 1) := by decide +kernel
theorem dX0_search_13 : decode cX0_search 13 = .ok (.iconst 0, 1) := by decide +kernel
theorem dX0_search_14 : decode cX0_search 14 = .ok (.istore_n 2, 1) := by decide +kernel
theorem dX0_search_15 : decode cX0_search 15 = .ok (.iconst 0, 1) := by decide +kernel
theorem dX0_search_16 : decode cX0_search 16 = .ok (.istore_n 3, 1) := by decide +kernel
theorem dX0_search_17 : decode cX0_search 17 = .ok (.iload_n 3, 1) := by decide +kernel
theorem dX0_search_18 : decode cX0_search 18 = .ok (.aload_n 0, 1) := by decide +kernel
theorem dX0_search_19 : decode cX0_search 19 = .ok (.getfield 170, 3) := by decide +kernel
theorem dX0_search_22 : decode cX0_search 22 = .ok (.if_icmp .ge 35, 3) := by decide +kernel
theorem dX0_search_25 : decode cX0_search 25 = .ok (.aload_n 0, 1) := by decide +kernel
theorem dX0_search_26 : decode cX0_search 26 = .ok (.getfield 25, 3) := by decide +kernel
theorem dX0_search_29 : decode cX0_search 29 = .ok (.iload_n 3, 1) := by decide +kernel
theorem dX0_search_30 : decode cX0_search 30 = .ok (.iaload, 1) := by decide +kernel
theorem dX0_search_31 : decode cX0_search 31 = .ok (.iload_n 1, 1) := by decide +kernel
theorem dX0_search_32 : decode cX0_search 32 = .ok (.if_icmp .ne 19, 3) := by decide +kernel
theorem dX0_search_35 : decode cX0_search 35 = .ok (.aload_n 0, 1) := by decide +kernel
theorem dX0_search_36 : decode cX0_search 36 = .ok (.aload_n 0, 1) := by decide +kernel
theorem dX0_search_37 : decode cX0_search 37 = .ok (.getfield 28, 3) := by decide +kernel
theorem dX0_search_40 : decode cX0_search 40 = .ok (.iload_n 3, 1) := by decide +kernel
theorem dX0_search_41 : decode cX0_search 41 = .ok (.iaload, 1) := by decide +kernel
theorem dX0_search_42 : decode cX0_search 42 = .ok (.invokevirtual 173, 3) := by decide +kernel
theorem dX0_search_45 : decode cX0_search 45 = .ok (.ifCond .eq 6, 3) := by decide +kernel
theorem dX0_search_48 : decode cX0_search 48 = .ok (.iinc 2 1, 3) := by decide +kernel
theorem dX0_search_51 : decode cX0_search 51 = .ok (.iinc 3 1, 3) := by decide +kernel
theorem dX0_search_54 : decode cX0_search 54 = .ok (.goto (-37), 3) := by decide +kernel
theorem dX0_search_57 : decode cX0_search 57 = .ok (.iload_n 2, 1) := by decide +kernel
theorem dX0_search_58 : decode cX0_search 58 = .ok (.ireturn, 1) := by decide +kernel
theorem dX0_order_0 : decode cX0_order 0 = .ok (.iload_n 1, 1) := by decide +kernel
theorem dX0_order_1 : decode cX0_order 1 = .ok (.iconst 0, 1) := by decide +kernel
theorem dX0_order_2 : decode cX0_order 2 = .ok (.aload_n 0, 1) := by decide +kernel
theorem dX0_order_3 : decode cX0_order 3 = .ok (.getfield 176, 3) := by decide +kernel
theorem dX0_order_6 : decode cX0_order 6 = .ok (.iconst 1, 1) := by decide +kernel
theorem dX0_order_7 : decode cX0_order 7 = .ok (.isub, 1) := by decide +kernel
theorem dX0_order_8 : decode cX0_order 8 = .ok (.invokestatic 48, 3) := by decide +kernel
theorem dX0_order_11 : decode cX0_order 11 = .ok (.ifCond .eq 12, 3) := by decide +kernel
theorem dX0_order_14 : decode cX0_order 14 = .ok (.aload_n 0, 1) := by decide +kernel
theorem dX0_order_15 : decode cX0_order 15 = .ok (.getfield 21, 3) := by decide +kernel
theorem dX0_order_18 : decode cX0_order 18 = .ok (.iload_n 1, 1) := by decide +kernel
theorem dX0_order_19 : decode cX0_order 19 = .ok (.iaload, 1) := by decide +kernel
theorem dX0_order_20 : decode cX0_order 20 = .ok (.goto 4, 3) := by decide +kernel
theorem dX0_order_23 : decode cX0_order 23 = .ok (.iconst 0, 1) := by decide +kernel
theorem dX0_order_24 : decode cX0_order 24 = .ok (.ireturn, 1) := by decide +kernel
theorem dX0_state_0 : decode cX0_state 0 = .ok (.aload_n 0, 1) := by decide +kernel
theorem dX0_state_1 : decode cX0_state 1 = .ok (.iload_n 1, 1) := by decide +kernel
theorem dX0_state_2 : decode cX0_state 2 = .ok (.invokevirtual 63, 3) := by decide +kernel
theorem dX0_state_5 : decode cX0_state 5 = .ok (.astore_n 3, 1) := by decide +kernel
theorem dX0_state_6 : decode cX0_state 6 = .ok (.aload_n 3, 1) := by decide +kernel
theorem dX0_state_7 : decode cX0_state 7 = .ok (.ifnonnull 5, 3) := by decide +kernel
theorem dX0_state_10 : decode cX0_state 10 = .ok (.iconst (-1), 1) := by decide +kernel
theorem dX0_state_11 : decode cX0_state 11 = .ok (.ireturn, 1) := by decide +kernel
theorem dX0_state_12 : decode cX0_state 12 = .ok (.iload_n 2, 1) := by decide +kernel
theorem dX0_state_13 : decode cX0_state 13 = .ok (.tableswitch 86 0 5 #[39, 61, 66, 71, 76, 81], 39) := by decide +kernel
theorem dX0_state_52 : decode cX0_state 52 = .ok (.aload_n 3, 1) := by decide +kernel
theorem dX0_state_53 : decode cX0_state 53 = .ok (.getfield 161, 3) := by decide +kernel
theorem dX0_state_56 : decode cX0_state 56 = .ok (.ifCond .eq 13, 3) := by decide +kernel
theorem dX0_state_59 : decode cX0_state 59 = .ok (.aload_n 3, 1) := by decide +kernel
theorem dX0_state_60 : decode cX0_state 60 = .ok (.getfield 68, 3) := by decide +kernel
theorem dX0_state_63 : decode cX0_state 63 = .ok (.bipush 6, 2) := by decide +kernel
theorem dX0_state_65 : decode cX0_state 65 = .ok (.iadd, 1) := by decide +kernel
theorem dX0_state_66 : decode cX0_state 66 = .ok (.goto 7, 3) := by decide +kernel
theorem dX0_state_69 : decode cX0_state 69 = .ok (.aload_n 3, 1) := by decide +kernel
theorem dX0_state_70 : decode cX0_state 70 = .ok (.getfield 68, 3) := by decide +kernel
theorem dX0_state_73 : decode cX0_state 73 = .ok (.ireturn, 1) := by decide +kernel
theorem dX0_state_74 : decode cX0_state 74 = .ok (.aload_n 3, 1) := by decide +kernel
theorem dX0_state_75 : decode cX0_state 75 = .ok (.getfield 103, 3) := by decide +kernel
theorem dX0_state_78 : decode cX0_state 78 = .ok (.ireturn, 1) := by decide +kernel
theorem dX0_state_79 : decode cX0_state 79 = .ok (.aload_n 3, 1) := by decide +kernel
theorem dX0_state_80 : decode cX0_state 80 = .ok (.invokevirtual 179, 3) := by decide +kernel
theorem dX0_state_83 : decode cX0_state 83 = .ok (.ireturn, 1) := by decide +kernel
theorem dX0_state_84 : decode cX0_state 84 = .ok (.aload_n 3, 1) := by decide +kernel
theorem dX0_state_85 : decode cX0_state 85 = .ok (.getfield 137, 3) := by decide +kernel
theorem dX0_state_88 : decode cX0_state 88 = .ok (.ireturn, 1) := by decide +kernel
theorem dX0_state_89 : decode cX0_state 89 = .ok (.aload_n 3, 1) := by decide +kernel
theorem dX0_state_90 : decode cX0_state 90 = .ok (.getfield 96, 3) := by decide +kernel
theorem dX0_state_93 : decode cX0_state 93 = .ok (.ireturn, 1) := by decide +kernel
theorem dX0_state_94 : decode cX0_state 94 = .ok (.aload_n 3, 1) := by decide +kernel
theorem dX0_state_95 : decode cX0_state 95 = .ok (.invokevirtual 182, 3) := by decide +kernel
theorem dX0_state_98 : decode cX0_state 98 = .ok (.ireturn, 1) := by decide +kernel
theorem dX0_state_99 : decode cX0_state 99 = .ok (.iconst (-1), 1) := by decide +kernel
theorem dX0_state_100 : decode cX0_state 100 = .ok (.ireturn, 1) := by decide +kernel
theorem dX0_outputsThere_0 : decode cX0_outputsThere 0 = .ok (.iconst 0, 1) := by decide +kernel
theorem dX0_outputsThere_1 : decode cX0_outputsThere 1 = .ok (.istore_n 1, 1) := by decide +kernel
theorem dX0_outputsThere_2 : decode cX0_outputsThere 2 = .ok (.iconst 1, 1) := by decide +kernel
theorem dX0_outputsThere_3 : decode cX0_outputsThere 3 = .ok (.istore_n 2, 1) := by decide +kernel
theorem dX0_outputsThere_4 : decode cX0_outputsThere 4 = .ok (.iload_n 2, 1) := by decide +kernel
theorem dX0_outputsThere_5 : decode cX0_outputsThere 5 = .ok (.aload_n 0, 1) := by decide +kernel
theorem dX0_outputsThere_6 : decode cX0_outputsThere 6 = .ok (.getfield 93, 3) := by decide +kernel
theorem dX0_outputsThere_9 : decode cX0_outputsThere 9 = .ok (.if_icmp .gt 20, 3) := by decide +kernel
theorem dX0_outputsThere_12 : decode cX0_outputsThere 12 = .ok (.aload_n 0, 1) := by decide +kernel
theorem dX0_outputsThere_13 : decode cX0_outputsThere 13 = .ok (.iload_n 2, 1) := by decide +kernel
theorem dX0_outputsThere_14 : decode cX0_outputsThere 14 = .ok (.invokevirtual 173, 3) := by decide +kernel
theorem dX0_outputsThere_17 : decode cX0_outputsThere 17 = .ok (.ifCond .eq 6, 3) := by decide +kernel
theorem dX0_outputsThere_20 : decode cX0_outputsThere 20 = .ok (.iinc 1 1, 3) := by decide +kernel
theorem dX0_outputsThere_23 : decode cX0_outputsThere 23 = .ok (.iinc 2 1, 3) := by decide +kernel
theorem dX0_outputsThere_26 : decode cX0_outputsThere 26 = .ok (.goto (-22), 3) := by decide +kernel
theorem dX0_outputsThere_29 : decode cX0_outputsThere 29 = .ok (.iload_n 1, 1) := by decide +kernel
theorem dX0_outputsThere_30 : decode cX0_outputsThere 30 = .ok (.ireturn, 1) := by decide +kernel
theorem dX0_count_0 : decode cX0_count 0 = .ok (.iload_n 1, 1) := by decide +kernel
theorem dX0_count_1 : decode cX0_count 1 = .ok (.tableswitch 60 0 4 #[35, 40, 45, 50, 55], 35) := by decide +kernel
theorem dX0_count_36 : decode cX0_count 36 = .ok (.aload_n 0, 1) := by decide +kernel
theorem dX0_count_37 : decode cX0_count 37 = .ok (.getfield 41, 3) := by decide +kernel
theorem dX0_count_40 : decode cX0_count 40 = .ok (.ireturn, 1) := by decide +kernel
theorem dX0_count_41 : decode cX0_count 41 = .ok (.aload_n 0, 1) := by decide +kernel
theorem dX0_count_42 : decode cX0_count 42 = .ok (.invokevirtual 185, 3) := by decide +kernel
theorem dX0_count_45 : decode cX0_count 45 = .ok (.ireturn, 1) := by decide +kernel
theorem dX0_count_46 : decode cX0_count 46 = .ok (.aload_n 0, 1) := by decide +kernel
theorem dX0_count_47 : decode cX0_count 47 = .ok (.getfield 115, 3) := by decide +kernel
theorem dX0_count_50 : decode cX0_count 50 = .ok (.ireturn, 1) := by decide +kernel
theorem dX0_count_51 : decode cX0_count 51 = .ok (.aload_n 0, 1) := by decide +kernel
theorem dX0_count_52 : decode cX0_count 52 = .ok (.getfield 140, 3) := by decide +kernel
theorem dX0_count_55 : decode cX0_count 55 = .ok (.ireturn, 1) := by decide +kernel
theorem dX0_count_56 : decode cX0_count 56 = .ok (.aload_n 0, 1) := by decide +kernel
theorem dX0_count_57 : decode cX0_count 57 = .ok (.getfield 155, 3) := by decide +kernel
theorem dX0_count_60 : decode cX0_count 60 = .ok (.ireturn, 1) := by decide +kernel
theorem dX0_count_61 : decode cX0_count 61 = .ok (.iconst (-1), 1) := by decide +kernel
theorem dX0_count_62 : decode cX0_count 62 = .ok (.ireturn, 1) := by decide +kernel
