theorem dX1_isGone_0 : decode cX1_isGone 0 = .ok (.aload_n 0, 1) := by decide +kernel
theorem dX1_isGone_1 : decode cX1_isGone 1 = .ok (.getfield 9, 3) := by decide +kernel
theorem dX1_isGone_4 : decode cX1_isGone 4 = .ok (.iconst 4, 1) := by decide +kernel
theorem dX1_isGone_5 : decode cX1_isGone 5 = .ok (.if_icmp .eq 11, 3) := by decide +kernel
theorem dX1_isGone_8 : decode cX1_isGone 8 = .ok (.aload_n 0, 1) := by decide +kernel
theorem dX1_isGone_9 : decode cX1_isGone 9 = .ok (.getfield 9, 3) := by decide +kernel
theorem dX1_isGone_12 : decode cX1_isGone 12 = .ok (.iconst 5, 1) := by decide +kernel
theorem dX1_isGone_13 : decode cX1_isGone 13 = .ok (.if_icmp .ne 7, 3) := by decide +kernel
theorem dX1_isGone_16 : decode cX1_isGone 16 = .ok (.iconst 1, 1) := by decide +kernel
theorem dX1_isGone_17 : decode cX1_isGone 17 = .ok (.goto 4, 3) := by decide +kernel
theorem dX1_isGone_20 : decode cX1_isGone 20 = .ok (.iconst 0, 1) := by decide +kernel
theorem dX1_isGone_21 : decode cX1_isGone 21 = .ok (.ireturn, 1) := by decide +kernel
theorem dX1_init_0 : decode cX1_init 0 = .ok (.aload_n 0, 1) := by decide +kernel
theorem dX1_init_1 : decode cX1_init 1 = .ok (.invokespecial 3, 3) := by decide +kernel
theorem dX1_init_4 : decode cX1_init 4 = .ok (.aload_n 0, 1) := by decide +kernel
theorem dX1_init_5 : decode cX1_init 5 = .ok (.iconst 1, 1) := by decide +kernel
theorem dX1_init_6 : decode cX1_init 6 = .ok (.putfield 9, 3) := by decide +kernel
theorem dX1_init_9 : decode cX1_init 9 = .ok (.aload_n 0, 1) := by decide +kernel
theorem dX1_init_10 : decode cX1_init 10 = .ok (.iload_n 1, 1) := by decide +kernel
theorem dX1_init_11 : decode cX1_init 11 = .ok (.putfield 15, 3) := by decide +kernel
theorem dX1_init_14 : decode cX1_init 14 = .ok (.aload_n 0, 1) := by decide +kernel
theorem dX1_init_15 : decode cX1_init 15 = .ok (.iload_n 2, 1) := by decide +kernel
theorem dX1_init_16 : decode cX1_init 16 = .ok (.putfield 18, 3) := by decide +kernel
theorem dX1_init_19 : decode cX1_init 19 = .ok (.aload_n 0, 1) := by decide +kernel
theorem dX1_init_20 : decode cX1_init 20 = .ok (.iload_n 3, 1) := by decide +kernel
theorem dX1_init_21 : decode cX1_init 21 = .ok (.putfield 21, 3) := by decide +kernel
theorem dX1_init_24 : decode cX1_init 24 = .ok (.aload_n 0, 1) := by decide +kernel
theorem dX1_init_25 : decode cX1_init 25 = .ok (.iload 4, 2) := by decide +kernel
theorem dX1_init_27 : decode cX1_init 27 = .ok (.putfield 24, 3) := by decide +kernel
theorem dX1_init_30 : decode cX1_init 30 = .ok (.return_, 1) := by decide +kernel
theorem dX1_isAtLimit_0 : decode cX1_isAtLimit 0 = .ok (.aload_n 0, 1) := by decide +kernel
theorem dX1_isAtLimit_1 : decode cX1_isAtLimit 1 = .ok (.getfield 33, 3) := by decide +kernel
theorem dX1_isAtLimit_4 : decode cX1_isAtLimit 4 = .ok (.ifCond .le 18, 3) := by decide +kernel
theorem dX1_isAtLimit_7 : decode cX1_isAtLimit 7 = .ok (.aload_n 0, 1) := by decide +kernel
theorem dX1_isAtLimit_8 : decode cX1_isAtLimit 8 = .ok (.getfield 43, 3) := by decide +kernel
theorem dX1_isAtLimit_11 : decode cX1_isAtLimit 11 = .ok (.aload_n 0, 1) := by decide +kernel
theorem dX1_isAtLimit_12 : decode cX1_isAtLimit 12 = .ok (.getfield 33, 3) := by decide +kernel
theorem dX1_isAtLimit_15 : decode cX1_isAtLimit 15 = .ok (.if_icmp .lt 7, 3) := by decide +kernel
theorem dX1_isAtLimit_18 : decode cX1_isAtLimit 18 = .ok (.iconst 1, 1) := by decide +kernel
theorem dX1_isAtLimit_19 : decode cX1_isAtLimit 19 = .ok (.goto 4, 3) := by decide +kernel
theorem dX1_isAtLimit_22 : decode cX1_isAtLimit 22 = .ok (.iconst 0, 1) := by decide +kernel
theorem dX1_isAtLimit_23 : decode cX1_isAtLimit 23 = .ok (.ireturn, 1) := by decide +kernel
theorem dX1_needsPage_0 : decode cX1_needsPage 0 = .ok (.aload_n 0, 1) := by decide +kernel
theorem dX1_needsPage_1 : decode cX1_needsPage 1 = .ok (.getfield 43, 3) := by decide +kernel
theorem dX1_needsPage_4 : decode cX1_needsPage 4 = .ok (.bipush 8, 2) := by decide +kernel
theorem dX1_needsPage_6 : decode cX1_needsPage 6 = .ok (.irem, 1) := by decide +kernel
theorem dX1_needsPage_7 : decode cX1_needsPage 7 = .ok (.ifCond .ne 7, 3) := by decide +kernel
theorem dX1_needsPage_10 : decode cX1_needsPage 10 = .ok (.iconst 1, 1) := by decide +kernel
theorem dX1_needsPage_11 : decode cX1_needsPage 11 = .ok (.goto 4, 3) := by decide +kernel
theorem dX1_needsPage_14 : decode cX1_needsPage 14 = .ok (.iconst 0, 1) := by decide +kernel
theorem dX1_needsPage_15 : decode cX1_needsPage 15 = .ok (.ireturn, 1) := by decide +kernel
theorem dX1_pageCount_0 : decode cX1_pageCount 0 = .ok (.aload_n 0, 1) := by decide +kernel
theorem dX1_pageCount_1 : decode cX1_pageCount 1 = .ok (.getfield 43, 3) := by decide +kernel
theorem dX1_pageCount_4 : decode cX1_pageCount 4 = .ok (.bipush 8, 2) := by decide +kernel
theorem dX1_pageCount_6 : decode cX1_pageCount 6 = .ok (.iadd, 1) := by decide +kernel
theorem dX1_pageCount_7 : decode cX1_pageCount 7 = .ok (.iconst 1, 1) := by decide +kernel
theorem dX1_pageCount_8 : decode cX1_pageCount 8 = .ok (.isub, 1) := by decide +kernel
theorem dX1_pageCount_9 : decode cX1_pageCount 9 = .ok (.bipush 8, 2) := by decide +kernel
theorem dX1_pageCount_11 : decode cX1_pageCount 11 = .ok (.idiv, 1) := by decide +kernel
theorem dX1_pageCount_12 : decode cX1_pageCount 12 = .ok (.ireturn, 1) := by decide +kernel
theorem dX1_takeSettingsOf_0 : decode cX1_takeSettingsOf 0 = .ok (.aload_n 0, 1) := by decide +kernel
theorem dX1_takeSettingsOf_1 : decode cX1_takeSettingsOf 1 = .ok (.aload_n 1, 1) := by decide +kernel
theorem dX1_takeSettingsOf_2 : decode cX1_takeSettingsOf 2 = .ok (.getfield 27, 3) := by decide +kernel
theorem dX1_takeSettingsOf_5 : decode cX1_takeSettingsOf 5 = .ok (.putfield 27, 3) := by decide +kernel
theorem dX1_takeSettingsOf_8 : decode cX1_takeSettingsOf 8 = .ok (.aload_n 0, 1) := by decide +kernel
theorem dX1_takeSettingsOf_9 : decode cX1_takeSettingsOf 9 = .ok (.aload_n 1, 1) := by decide +kernel
theorem dX1_takeSettingsOf_10 : decode cX1_takeSettingsOf 10 = .ok (.getfield 30, 3) := by decide +kernel
theorem dX1_takeSettingsOf_13 : decode cX1_takeSettingsOf 13 = .ok (.putfield 30, 3) := by decide +kernel
theorem dX1_takeSettingsOf_16 : decode cX1_takeSettingsOf 16 = .ok (.aload_n 0, 1) := by decide +kernel
theorem dX1_takeSettingsOf_17 : decode cX1_takeSettingsOf 17 = .ok (.aload_n 1, 1) := by decide +kernel
theorem dX1_takeSettingsOf_18 : decode cX1_takeSettingsOf 18 = .ok (.getfield 33, 3) := by decide +kernel
theorem dX1_takeSettingsOf_21 : decode cX1_takeSettingsOf 21 = .ok (.putfield 33, 3) := by decide +kernel
theorem dX1_takeSettingsOf_24 : decode cX1_takeSettingsOf 24 = .ok (.aload_n 0, 1) := by decide +kernel
theorem dX1_takeSettingsOf_25 : decode cX1_takeSettingsOf 25 = .ok (.aload_n 1, 1) := by decide +kernel
theorem dX1_takeSettingsOf_26 : decode cX1_takeSettingsOf 26 = .ok (.getfield 36, 3) := by decide +kernel
theorem dX1_takeSettingsOf_29 : decode cX1_takeSettingsOf 29 = .ok (.putfield 36, 3) := by decide +kernel
theorem dX1_takeSettingsOf_32 : decode cX1_takeSettingsOf 32 = .ok (.aload_n 0, 1) := by decide +kernel
theorem dX1_takeSettingsOf_33 : decode cX1_takeSettingsOf 33 = .ok (.aload_n 1, 1) := by decide +kernel
theorem dX1_takeSettingsOf_34 : decode cX1_takeSettingsOf 34 = .ok (.getfield 40, 3) := by decide +kernel
theorem dX1_takeSettingsOf_37 : decode cX1_takeSettingsOf 37 = .ok (.putfield 40, 3) := by decide +kernel
theorem dX1_takeSettingsOf_40 : decode cX1_takeSettingsOf 40 = .ok (.return_, 1) := by decide +kernel
theorem dX2_init_0 : decode cX2_init 0 = .ok (.aload_n 0, 1) := by decide +kernel
theorem dX2_init_1 : decode cX2_init 1 = .ok (.invokespecial 3, 3) := by decide +kernel
theorem dX2_init_4 : decode cX2_init 4 = .ok (.aload_n 0, 1) := by decide +kernel
theorem dX2_init_5 : decode cX2_init 5 = .ok (.iload_n 1, 1) := by decide +kernel
theorem dX2_init_6 : decode cX2_init 6 = .ok (.putfield 9, 3) := by decide +kernel
theorem dX2_init_9 : decode cX2_init 9 = .ok (.aload_n 0, 1) := by decide +kernel
theorem dX2_init_10 : decode cX2_init 10 = .ok (.iload_n 2, 1) := by decide +kernel
theorem dX2_init_11 : decode cX2_init 11 = .ok (.putfield 15, 3) := by decide +kernel
theorem dX2_init_14 : decode cX2_init 14 = .ok (.return_, 1) := by decide +kernel
theorem dX1_mayBePrinted_0 : decode cX1_mayBePrinted 0 = .ok (.aload_n 0, 1) := by decide +kernel
theorem dX1_mayBePrinted_1 : decode cX1_mayBePrinted 1 = .ok (.getfield 9, 3) := by decide +kernel
theorem dX1_mayBePrinted_4 : decode cX1_mayBePrinted 4 = .ok (.iconst 2, 1) := by decide +kernel
theorem dX1_mayBePrinted_5 : decode cX1_mayBePrinted 5 = .ok (.if_icmp .ne 21, 3) := by decide +kernel
theorem dX1_mayBePrinted_8 : decode cX1_mayBePrinted 8 = .ok (.aload_n 0, 1) := by decide +kernel
theorem dX1_mayBePrinted_9 : decode cX1_mayBePrinted 9 = .ok (.getfield 40, 3) := by decide +kernel
theorem dX1_mayBePrinted_12 : decode cX1_mayBePrinted 12 = .ok (.ifCond .ne 14, 3) := by decide +kernel
theorem dX1_mayBePrinted_15 : decode cX1_mayBePrinted 15 = .ok (.aload_n 0, 1) := by decide +kernel
theorem dX1_mayBePrinted_16 : decode cX1_mayBePrinted 16 = .ok (.getfield 43, 3) := by decide +kernel
theorem dX1_mayBePrinted_19 : decode cX1_mayBePrinted 19 = .ok (.ifCond .le 7, 3) := by decide +kernel
theorem dX1_mayBePrinted_22 : decode cX1_mayBePrinted 22 = .ok (.iconst 1, 1) := by decide +kernel
theorem dX1_mayBePrinted_23 : decode cX1_mayBePrinted 23 = .ok (.goto 4, 3) := by decide +kernel
theorem dX1_mayBePrinted_26 : decode cX1_mayBePrinted 26 = .ok (.iconst 0, 1) := by decide +kernel
theorem dX1_mayBePrinted_27 : decode cX1_mayBePrinted 27 = .ok (.ireturn, 1) := by decide +kernel
theorem dX2_suits_0 : decode cX2_suits 0 = .ok (.aload_n 0, 1) := by decide +kernel
theorem dX2_suits_1 : decode cX2_suits 1 = .ok (.getfield 9, 3) := by decide +kernel
theorem dX2_suits_4 : decode cX2_suits 4 = .ok (.bipush 8, 2) := by decide +kernel
theorem dX2_suits_6 : decode cX2_suits 6 = .ok (.if_icmp .eq 14, 3) := by decide +kernel
theorem dX2_suits_9 : decode cX2_suits 9 = .ok (.aload_n 0, 1) := by decide +kernel
theorem dX2_suits_10 : decode cX2_suits 10 = .ok (.getfield 9, 3) := by decide +kernel
theorem dX2_suits_13 : decode cX2_suits 13 = .ok (.aload_n 1, 1) := by decide +kernel
theorem dX2_suits_14 : decode cX2_suits 14 = .ok (.getfield 18, 3) := by decide +kernel
theorem dX2_suits_17 : decode cX2_suits 17 = .ok (.if_icmp .ne 26, 3) := by decide +kernel
theorem dX2_suits_20 : decode cX2_suits 20 = .ok (.aload_n 0, 1) := by decide +kernel
theorem dX2_suits_21 : decode cX2_suits 21 = .ok (.getfield 15, 3) := by decide +kernel
theorem dX2_suits_24 : decode cX2_suits 24 = .ok (.iconst (-1), 1) := by decide +kernel
theorem dX2_suits_25 : decode cX2_suits 25 = .ok (.if_icmp .eq 14, 3) := by decide +kernel
theorem dX2_suits_28 : decode cX2_suits 28 = .ok (.aload_n 0, 1) := by decide +kernel
theorem dX2_suits_29 : decode cX2_suits 29 = .ok (.getfield 15, 3) := by decide +kernel
theorem dX2_suits_32 : decode cX2_suits 32 = .ok (.aload_n 1, 1) := by decide +kernel
theorem dX2_suits_33 : decode cX2_suits 33 = .ok (.getfield 21, 3) := by decide +kernel
theorem dX2_suits_36 : decode cX2_suits 36 = .ok (.if_icmp .ne 7, 3) := by decide +kernel
theorem dX2_suits_39 : decode cX2_suits 39 = .ok (.iconst 1, 1) := by decide +kernel
theorem dX2_suits_40 : decode cX2_suits 40 = .ok (.goto 4, 3) := by decide +kernel
theorem dX2_suits_43 : decode cX2_suits 43 = .ok (.iconst 0, 1) := by decide +kernel
theorem dX2_suits_44 : decode cX2_suits 44 = .ok (.ireturn, 1) := by decide +kernel
theorem dX1_comesBefore_0 : decode cX1_comesBefore 0 = .ok (.aload_n 0, 1) := by decide +kernel
theorem dX1_comesBefore_1 : decode cX1_comesBefore 1 = .ok (.getfield 30, 3) := by decide +kernel
theorem dX1_comesBefore_4 : decode cX1_comesBefore 4 = .ok (.aload_n 1, 1) := by decide +kernel
theorem dX1_comesBefore_5 : decode cX1_comesBefore 5 = .ok (.getfield 30, 3) := by decide +kernel
theorem dX1_comesBefore_8 : decode cX1_comesBefore 8 = .ok (.if_icmp .eq 20, 3) := by decide +kernel
theorem dX1_comesBefore_11 : decode cX1_comesBefore 11 = .ok (.aload_n 0, 1) := by decide +kernel
theorem dX1_comesBefore_12 : decode cX1_comesBefore 12 = .ok (.getfield 30, 3) := by decide +kernel
theorem dX1_comesBefore_15 : decode cX1_comesBefore 15 = .ok (.aload_n 1, 1) := by decide +kernel
theorem dX1_comesBefore_16 : decode cX1_comesBefore 16 = .ok (.getfield 30, 3) := by decide +kernel
theorem dX1_comesBefore_19 : decode cX1_comesBefore 19 = .ok (.if_icmp .le 7, 3) := by decide +kernel
theorem dX1_comesBefore_22 : decode cX1_comesBefore 22 = .ok (.iconst 1, 1) := by decide +kernel
theorem dX1_comesBefore_23 : decode cX1_comesBefore 23 = .ok (.goto 4, 3) := by decide +kernel
theorem dX1_comesBefore_26 : decode cX1_comesBefore 26 = .ok (.iconst 0, 1) := by decide +kernel
theorem dX1_comesBefore_27 : decode cX1_comesBefore 27 = .ok (.ireturn, 1) := by decide +kernel
theorem dX1_comesBefore_28 : decode cX1_comesBefore 28 = .ok (.aload_n 0, 1) := by decide +kernel
theorem dX1_comesBefore_29 : decode cX1_comesBefore 29 = .ok (.getfield 18, 3) := by decide +kernel
theorem dX1_comesBefore_32 : decode cX1_comesBefore 32 = .ok (.aload_n 1, 1) := by decide +kernel
theorem dX1_comesBefore_33 : decode cX1_comesBefore 33 = .ok (.getfield 18, 3) := by decide +kernel
theorem dX1_comesBefore_36 : decode cX1_comesBefore 36 = .ok (.if_icmp .eq 20, 3) := by decide +kernel
theorem dX1_comesBefore_39 : decode cX1_comesBefore 39 = .ok (.aload_n 0, 1) := by decide +kernel
theorem dX1_comesBefore_40 : decode cX1_comesBefore 40 = .ok (.getfield 18, 3) := by decide +kernel
theorem dX1_comesBefore_43 : decode cX1_comesBefore 43 = .ok (.aload_n 1, 1) := by decide +kernel
theorem dX1_comesBefore_44 : decode cX1_comesBefore 44 = .ok (.getfield 18, 3) := by decide +kernel
theorem dX1_comesBefore_47 : decode cX1_comesBefore 47 = .ok (.if_icmp .ge 7, 3) := by decide +kernel
theorem dX1_comesBefore_50 : decode cX1_comesBefore 50 = .ok (.iconst 1, 1) := by decide +kernel
theorem dX1_comesBefore_51 : decode cX1_comesBefore 51 = .ok (.goto 4, 3) := by decide +kernel
theorem dX1_comesBefore_54 : decode cX1_comesBefore 54 = .ok (.iconst 0, 1) := by decide +kernel
theorem dX1_comesBefore_55 : decode cX1_comesBefore 55 = .ok (.ireturn, 1) := by decide +kernel
theorem dX1_comesBefore_56 : decode cX1_comesBefore 56 = .ok (.aload_n 0, 1) := by decide +kernel
theorem dX1_comesBefore_57 : decode cX1_comesBefore 57 = .ok (.getfield 15, 3) := by decide +kernel
theorem dX1_comesBefore_60 : decode cX1_comesBefore 60 = .ok (.aload_n 1, 1) := by decide +kernel
theorem dX1_comesBefore_61 : decode cX1_comesBefore 61 = .ok (.getfield 15, 3) := by decide +kernel
theorem dX1_comesBefore_64 : decode cX1_comesBefore 64 = .ok (.if_icmp .ge 7, 3) := by decide +kernel
theorem dX1_comesBefore_67 : decode cX1_comesBefore 67 = .ok (.iconst 1, 1) := by decide +kernel
theorem dX1_comesBefore_68 : decode cX1_comesBefore 68 = .ok (.goto 4, 3) := by decide +kernel
theorem dX1_comesBefore_71 : decode cX1_comesBefore 71 = .ok (.iconst 0, 1) := by decide +kernel
theorem dX1_comesBefore_72 : decode cX1_comesBefore 72 = .ok (.ireturn, 1) := by decide +kernel
theorem dX1_pagesToPrint_0 : decode cX1_pagesToPrint 0 = .ok (.aload_n 0, 1) := by decide +kernel
theorem dX1_pagesToPrint_1 : decode cX1_pagesToPrint 1 = .ok (.invokevirtual 46, 3) := by decide +kernel
theorem dX1_pagesToPrint_4 : decode cX1_pagesToPrint 4 = .ok (.aload_n 0, 1) := by decide +kernel
theorem dX1_pagesToPrint_5 : decode cX1_pagesToPrint 5 = .ok (.getfield 24, 3) := by decide +kernel
theorem dX1_pagesToPrint_8 : decode cX1_pagesToPrint 8 = .ok (.imul, 1) := by decide +kernel
theorem dX1_pagesToPrint_9 : decode cX1_pagesToPrint 9 = .ok (.aload_n 0, 1) := by decide +kernel
theorem dX1_pagesToPrint_10 : decode cX1_pagesToPrint 10 = .ok (.getfield 50, 3) := by decide +kernel
theorem dX1_pagesToPrint_13 : decode cX1_pagesToPrint 13 = .ok (.isub, 1) := by decide +kernel
theorem dX1_pagesToPrint_14 : decode cX1_pagesToPrint 14 = .ok (.ireturn, 1) := by decide +kernel
theorem dX1_lastCheckpoint_0 : decode cX1_lastCheckpoint 0 = .ok (.aload_n 0, 1) := by decide +kernel
theorem dX1_lastCheckpoint_1 : decode cX1_lastCheckpoint 1 = .ok (.getfield 50, 3) := by decide +kernel
theorem dX1_lastCheckpoint_4 : decode cX1_lastCheckpoint 4 = .ok (.aload_n 0, 1) := by decide +kernel
theorem dX1_lastCheckpoint_5 : decode cX1_lastCheckpoint 5 = .ok (.getfield 50, 3) := by decide +kernel
theorem dX1_lastCheckpoint_8 : decode cX1_lastCheckpoint 8 = .ok (.iconst 4, 1) := by decide +kernel
theorem dX1_lastCheckpoint_9 : decode cX1_lastCheckpoint 9 = .ok (.irem, 1) := by decide +kernel
theorem dX1_lastCheckpoint_10 : decode cX1_lastCheckpoint 10 = .ok (.isub, 1) := by decide +kernel
theorem dX1_lastCheckpoint_11 : decode cX1_lastCheckpoint 11 = .ok (.ireturn, 1) := by decide +kernel
theorem dX1_isOpenOrReleased_0 : decode cX1_isOpenOrReleased 0 = .ok (.aload_n 0, 1) := by decide +kernel
theorem dX1_isOpenOrReleased_1 : decode cX1_isOpenOrReleased 1 = .ok (.getfield 9, 3) := by decide +kernel
theorem dX1_isOpenOrReleased_4 : decode cX1_isOpenOrReleased 4 = .ok (.iconst 1, 1) := by decide +kernel
theorem dX1_isOpenOrReleased_5 : decode cX1_isOpenOrReleased 5 = .ok (.if_icmp .eq 11, 3) := by decide +kernel
theorem dX1_isOpenOrReleased_8 : decode cX1_isOpenOrReleased 8 = .ok (.aload_n 0, 1) := by decide +kernel
theorem dX1_isOpenOrReleased_9 : decode cX1_isOpenOrReleased 9 = .ok (.getfield 9, 3) := by decide +kernel
theorem dX1_isOpenOrReleased_12 : decode cX1_isOpenOrReleased 12 = .ok (.iconst 2, 1) := by decide +kernel
theorem dX1_isOpenOrReleased_13 : decode cX1_isOpenOrReleased 13 = .ok (.if_icmp .ne 7, 3) := by decide +kernel
theorem dX1_isOpenOrReleased_16 : decode cX1_isOpenOrReleased 16 = .ok (.iconst 1, 1) := by decide +kernel
theorem dX1_isOpenOrReleased_17 : decode cX1_isOpenOrReleased 17 = .ok (.goto 4, 3) := by decide +kernel
theorem dX1_isOpenOrReleased_20 : decode cX1_isOpenOrReleased 20 = .ok (.iconst 0, 1) := by decide +kernel
theorem dX1_isOpenOrReleased_21 : decode cX1_isOpenOrReleased 21 = .ok (.ireturn, 1) := by decide +kernel
theorem dX1_copiesLeft_0 : decode cX1_copiesLeft 0 = .ok (.aload_n 0, 1) := by decide +kernel
theorem dX1_copiesLeft_1 : decode cX1_copiesLeft 1 = .ok (.invokevirtual 46, 3) := by decide +kernel
theorem dX1_copiesLeft_4 : decode cX1_copiesLeft 4 = .ok (.istore_n 1, 1) := by decide +kernel
theorem dX1_copiesLeft_5 : decode cX1_copiesLeft 5 = .ok (.iload_n 1, 1) := by decide +kernel
theorem dX1_copiesLeft_6 : decode cX1_copiesLeft 6 = .ok (.ifCond .ne 10, 3) := by decide +kernel
theorem dX1_copiesLeft_9 : decode cX1_copiesLeft 9 = .ok (.aload_n 0, 1) := by decide +kernel
theorem dX1_copiesLeft_10 : decode cX1_copiesLeft 10 = .ok (.getfield 24, 3) := by decide +kernel
theorem dX1_copiesLeft_13 : decode cX1_copiesLeft 13 = .ok (.goto 14, 3) := by decide +kernel
theorem dX1_copiesLeft_16 : decode cX1_copiesLeft 16 = .ok (.aload_n 0, 1) := by decide +kernel
theorem dX1_copiesLeft_17 : decode cX1_copiesLeft 17 = .ok (.getfield 24, 3) := by decide +kernel
theorem dX1_copiesLeft_20 : decode cX1_copiesLeft 20 = .ok (.aload_n 0, 1) := by decide +kernel
theorem dX1_copiesLeft_21 : decode cX1_copiesLeft 21 = .ok (.getfield 50, 3) := by decide +kernel
theorem dX1_copiesLeft_24 : decode cX1_copiesLeft 24 = .ok (.iload_n 1, 1) := by decide +kernel
theorem dX1_copiesLeft_25 : decode cX1_copiesLeft 25 = .ok (.idiv, 1) := by decide +kernel
theorem dX1_copiesLeft_26 : decode cX1_copiesLeft 26 = .ok (.isub, 1) := by decide +kernel
theorem dX1_copiesLeft_27 : decode cX1_copiesLeft 27 = .ok (.ireturn, 1) := by decide +kernel
