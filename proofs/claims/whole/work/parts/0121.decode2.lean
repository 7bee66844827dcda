theorem dX8_silenceNow_17 : decode cX8_silenceNow 17 = .ok (.istore_n 1, 1) := by decide +kernel
theorem dX8_silenceNow_18 : decode cX8_silenceNow 18 = .ok (.aload_n 0, 1) := by decide +kernel
theorem dX8_silenceNow_19 : decode cX8_silenceNow 19 = .ok (.getfield 78, 3) := by decide +kernel
theorem dX8_silenceNow_22 : decode cX8_silenceNow 22 = .ok (.aload_n 0, 1) := by decide +kernel
theorem dX8_silenceNow_23 : decode cX8_silenceNow 23 = .ok (.getfield 75, 3) := by decide +kernel
theorem dX8_silenceNow_26 : decode cX8_silenceNow 26 = .ok (.isub, 1) := by decide +kernel
theorem dX8_silenceNow_27 : decode cX8_silenceNow 27 = .ok (.bipush 24, 2) := by decide +kernel
theorem dX8_silenceNow_29 : decode cX8_silenceNow 29 = .ok (.invokestatic 84, 3) := by decide +kernel
theorem dX8_silenceNow_32 : decode cX8_silenceNow 32 = .ok (.istore_n 2, 1) := by decide +kernel
theorem dX8_silenceNow_33 : decode cX8_silenceNow 33 = .ok (.iload_n 1, 1) := by decide +kernel
theorem dX8_silenceNow_34 : decode cX8_silenceNow 34 = .ok (.iload_n 2, 1) := by decide +kernel
theorem dX8_silenceNow_35 : decode cX8_silenceNow 35 = .ok (.if_icmp .ge 10, 3) := by decide +kernel
theorem dX8_silenceNow_38 : decode cX8_silenceNow 38 = .ok (.aload_n 0, 1) := by decide +kernel
theorem dX8_silenceNow_39 : decode cX8_silenceNow 39 = .ok (.getfield 81, 3) := by decide +kernel
theorem dX8_silenceNow_42 : decode cX8_silenceNow 42 = .ok (.goto 4, 3) := by decide +kernel
theorem dX8_silenceNow_45 : decode cX8_silenceNow 45 = .ok (.iconst 0, 1) := by decide +kernel
theorem dX8_silenceNow_46 : decode cX8_silenceNow 46 = .ok (.ireturn, 1) := by decide +kernel
theorem dX8_nextPlace_0 : decode cX8_nextPlace 0 = .ok (.iload_n 1, 1) := by decide +kernel
theorem dX8_nextPlace_1 : decode cX8_nextPlace 1 = .ok (.ifCond .eq 16, 3) := by decide +kernel
theorem dX8_nextPlace_4 : decode cX8_nextPlace 4 = .ok (.aload_n 0, 1) := by decide +kernel
theorem dX8_nextPlace_5 : decode cX8_nextPlace 5 = .ok (.getfield 22, 3) := by decide +kernel
theorem dX8_nextPlace_8 : decode cX8_nextPlace 8 = .ok (.bipush 60, 2) := by decide +kernel
theorem dX8_nextPlace_10 : decode cX8_nextPlace 10 = .ok (.irem, 1) := by decide +kernel
theorem dX8_nextPlace_11 : decode cX8_nextPlace 11 = .ok (.bipush 15, 2) := by decide +kernel
theorem dX8_nextPlace_13 : decode cX8_nextPlace 13 = .ok (.idiv, 1) := by decide +kernel
theorem dX8_nextPlace_14 : decode cX8_nextPlace 14 = .ok (.goto 13, 3) := by decide +kernel
theorem dX8_nextPlace_17 : decode cX8_nextPlace 17 = .ok (.aload_n 0, 1) := by decide +kernel
theorem dX8_nextPlace_18 : decode cX8_nextPlace 18 = .ok (.getfield 22, 3) := by decide +kernel
theorem dX8_nextPlace_21 : decode cX8_nextPlace 21 = .ok (.bipush 60, 2) := by decide +kernel
theorem dX8_nextPlace_23 : decode cX8_nextPlace 23 = .ok (.idiv, 1) := by decide +kernel
theorem dX8_nextPlace_24 : decode cX8_nextPlace 24 = .ok (.bipush 12, 2) := by decide +kernel
theorem dX8_nextPlace_26 : decode cX8_nextPlace 26 = .ok (.irem, 1) := by decide +kernel
theorem dX8_nextPlace_27 : decode cX8_nextPlace 27 = .ok (.ireturn, 1) := by decide +kernel
theorem dX8_parts_0 : decode cX8_parts 0 = .ok (.aload_n 0, 1) := by decide +kernel
theorem dX8_parts_1 : decode cX8_parts 1 = .ok (.getfield 22, 3) := by decide +kernel
theorem dX8_parts_4 : decode cX8_parts 4 = .ok (.i2l, 1) := by decide +kernel
theorem dX8_parts_5 : decode cX8_parts 5 = .ok (.ldc2_w 90, 3) := by decide +kernel
theorem dX8_parts_8 : decode cX8_parts 8 = .ok (.lmul, 1) := by decide +kernel
theorem dX8_parts_9 : decode cX8_parts 9 = .ok (.aload_n 0, 1) := by decide +kernel
theorem dX8_parts_10 : decode cX8_parts 10 = .ok (.getfield 29, 3) := by decide +kernel
theorem dX8_parts_13 : decode cX8_parts 13 = .ok (.i2l, 1) := by decide +kernel
theorem dX8_parts_14 : decode cX8_parts 14 = .ok (.ladd, 1) := by decide +kernel
theorem dX8_parts_15 : decode cX8_parts 15 = .ok (.lreturn, 1) := by decide +kernel
theorem dX8_minute_0 : decode cX8_minute 0 = .ok (.aload_n 0, 1) := by decide +kernel
theorem dX8_minute_1 : decode cX8_minute 1 = .ok (.getfield 35, 3) := by decide +kernel
theorem dX8_minute_4 : decode cX8_minute 4 = .ok (.ifCond .eq 70, 3) := by decide +kernel
theorem dX8_minute_7 : decode cX8_minute 7 = .ok (.aload_n 0, 1) := by decide +kernel
theorem dX8_minute_8 : decode cX8_minute 8 = .ok (.getfield 32, 3) := by decide +kernel
theorem dX8_minute_11 : decode cX8_minute 11 = .ok (.ifCond .le 63, 3) := by decide +kernel
theorem dX8_minute_14 : decode cX8_minute 14 = .ok (.aload_n 0, 1) := by decide +kernel
theorem dX8_minute_15 : decode cX8_minute 15 = .ok (.dup, 1) := by decide +kernel
theorem dX8_minute_16 : decode cX8_minute 16 = .ok (.getfield 29, 3) := by decide +kernel
theorem dX8_minute_19 : decode cX8_minute 19 = .ok (.ldc 92, 2) := by decide +kernel
theorem dX8_minute_21 : decode cX8_minute 21 = .ok (.aload_n 0, 1) := by decide +kernel
theorem dX8_minute_22 : decode cX8_minute 22 = .ok (.getfield 26, 3) := by decide +kernel
theorem dX8_minute_25 : decode cX8_minute 25 = .ok (.iadd, 1) := by decide +kernel
theorem dX8_minute_26 : decode cX8_minute 26 = .ok (.iadd, 1) := by decide +kernel
theorem dX8_minute_27 : decode cX8_minute 27 = .ok (.putfield 29, 3) := by decide +kernel
theorem dX8_minute_30 : decode cX8_minute 30 = .ok (.aload_n 0, 1) := by decide +kernel
theorem dX8_minute_31 : decode cX8_minute 31 = .ok (.getfield 29, 3) := by decide +kernel
theorem dX8_minute_34 : decode cX8_minute 34 = .ok (.ldc 92, 2) := by decide +kernel
theorem dX8_minute_36 : decode cX8_minute 36 = .ok (.if_icmp .lt 38, 3) := by decide +kernel
theorem dX8_minute_39 : decode cX8_minute 39 = .ok (.aload_n 0, 1) := by decide +kernel
theorem dX8_minute_40 : decode cX8_minute 40 = .ok (.getfield 32, 3) := by decide +kernel
theorem dX8_minute_43 : decode cX8_minute 43 = .ok (.ifCond .le 31, 3) := by decide +kernel
theorem dX8_minute_46 : decode cX8_minute 46 = .ok (.aload_n 0, 1) := by decide +kernel
theorem dX8_minute_47 : decode cX8_minute 47 = .ok (.dup, 1) := by decide +kernel
theorem dX8_minute_48 : decode cX8_minute 48 = .ok (.getfield 29, 3) := by decide +kernel
theorem dX8_minute_51 : decode cX8_minute 51 = .ok (.ldc 92, 2) := by decide +kernel
theorem dX8_minute_53 : decode cX8_minute 53 = .ok (.isub, 1) := by decide +kernel
theorem dX8_minute_54 : decode cX8_minute 54 = .ok (.putfield 29, 3) := by decide +kernel
theorem dX8_minute_57 : decode cX8_minute 57 = .ok (.aload_n 0, 1) := by decide +kernel
theorem dX8_minute_58 : decode cX8_minute 58 = .ok (.dup, 1) := by decide +kernel
theorem dX8_minute_59 : decode cX8_minute 59 = .ok (.getfield 32, 3) := by decide +kernel
theorem dX8_minute_62 : decode cX8_minute 62 = .ok (.iconst 1, 1) := by decide +kernel
theorem dX8_minute_63 : decode cX8_minute 63 = .ok (.isub, 1) := by decide +kernel
theorem dX8_minute_64 : decode cX8_minute 64 = .ok (.putfield 32, 3) := by decide +kernel
theorem dX8_minute_67 : decode cX8_minute 67 = .ok (.aload_n 0, 1) := by decide +kernel
theorem dX8_minute_68 : decode cX8_minute 68 = .ok (.invokevirtual 93, 3) := by decide +kernel
theorem dX8_minute_71 : decode cX8_minute 71 = .ok (.goto (-41), 3) := by decide +kernel
theorem dX8_minute_74 : decode cX8_minute 74 = .ok (.aload_n 0, 1) := by decide +kernel
theorem dX8_minute_75 : decode cX8_minute 75 = .ok (.getfield 49, 3) := by decide +kernel
theorem dX8_minute_78 : decode cX8_minute 78 = .ok (.ifnull 20, 3) := by decide +kernel
theorem dX8_minute_81 : decode cX8_minute 81 = .ok (.aload_n 0, 1) := by decide +kernel
theorem dX8_minute_82 : decode cX8_minute 82 = .ok (.aload_n 0, 1) := by decide +kernel
theorem dX8_minute_83 : decode cX8_minute 83 = .ok (.getfield 49, 3) := by decide +kernel
theorem dX8_minute_86 : decode cX8_minute 86 = .ok (.aload_n 0, 1) := by decide +kernel
theorem dX8_minute_87 : decode cX8_minute 87 = .ok (.getfield 49, 3) := by decide +kernel
theorem dX8_minute_90 : decode cX8_minute 90 = .ok (.getfield 96, 3) := by decide +kernel
theorem dX8_minute_93 : decode cX8_minute 93 = .ok (.iload_n 1, 1) := by decide +kernel
theorem dX8_minute_94 : decode cX8_minute 94 = .ok (.invokevirtual 99, 3) := by decide +kernel
theorem dX8_minute_97 : decode cX8_minute 97 = .ok (.pop, 1) := by decide +kernel
theorem dX8_minute_98 : decode cX8_minute 98 = .ok (.aload_n 0, 1) := by decide +kernel
theorem dX8_minute_99 : decode cX8_minute 99 = .ok (.getfield 53, 3) := by decide +kernel
theorem dX8_minute_102 : decode cX8_minute 102 = .ok (.ifnull 20, 3) := by decide +kernel
theorem dX8_minute_105 : decode cX8_minute 105 = .ok (.aload_n 0, 1) := by decide +kernel
theorem dX8_minute_106 : decode cX8_minute 106 = .ok (.aload_n 0, 1) := by decide +kernel
theorem dX8_minute_107 : decode cX8_minute 107 = .ok (.getfield 53, 3) := by decide +kernel
theorem dX8_minute_110 : decode cX8_minute 110 = .ok (.aload_n 0, 1) := by decide +kernel
theorem dX8_minute_111 : decode cX8_minute 111 = .ok (.getfield 53, 3) := by decide +kernel
theorem dX8_minute_114 : decode cX8_minute 114 = .ok (.getfield 96, 3) := by decide +kernel
theorem dX8_minute_117 : decode cX8_minute 117 = .ok (.iload_n 1, 1) := by decide +kernel
theorem dX8_minute_118 : decode cX8_minute 118 = .ok (.invokevirtual 99, 3) := by decide +kernel
theorem dX8_minute_121 : decode cX8_minute 121 = .ok (.pop, 1) := by decide +kernel
theorem dX8_minute_122 : decode cX8_minute 122 = .ok (.return_, 1) := by decide +kernel
theorem dX8_stepForward_0 : decode cX8_stepForward 0 = .ok (.aload_n 0, 1) := by decide +kernel
theorem dX8_stepForward_1 : decode cX8_stepForward 1 = .ok (.aload_n 0, 1) := by decide +kernel
theorem dX8_stepForward_2 : decode cX8_stepForward 2 = .ok (.getfield 22, 3) := by decide +kernel
theorem dX8_stepForward_5 : decode cX8_stepForward 5 = .ok (.iconst 1, 1) := by decide +kernel
theorem dX8_stepForward_6 : decode cX8_stepForward 6 = .ok (.iadd, 1) := by decide +kernel
theorem dX8_stepForward_7 : decode cX8_stepForward 7 = .ok (.sipush 1440, 3) := by decide +kernel
theorem dX8_stepForward_10 : decode cX8_stepForward 10 = .ok (.if_icmp .ge 12, 3) := by decide +kernel
theorem dX8_stepForward_13 : decode cX8_stepForward 13 = .ok (.aload_n 0, 1) := by decide +kernel
theorem dX8_stepForward_14 : decode cX8_stepForward 14 = .ok (.getfield 22, 3) := by decide +kernel
theorem dX8_stepForward_17 : decode cX8_stepForward 17 = .ok (.iconst 1, 1) := by decide +kernel
theorem dX8_stepForward_18 : decode cX8_stepForward 18 = .ok (.iadd, 1) := by decide +kernel
theorem dX8_stepForward_19 : decode cX8_stepForward 19 = .ok (.goto 4, 3) := by decide +kernel
theorem dX8_stepForward_22 : decode cX8_stepForward 22 = .ok (.iconst 0, 1) := by decide +kernel
theorem dX8_stepForward_23 : decode cX8_stepForward 23 = .ok (.putfield 22, 3) := by decide +kernel
theorem dX8_stepForward_26 : decode cX8_stepForward 26 = .ok (.aload_n 0, 1) := by decide +kernel
theorem dX8_stepForward_27 : decode cX8_stepForward 27 = .ok (.getfield 22, 3) := by decide +kernel
theorem dX8_stepForward_30 : decode cX8_stepForward 30 = .ok (.bipush 60, 2) := by decide +kernel
theorem dX8_stepForward_32 : decode cX8_stepForward 32 = .ok (.irem, 1) := by decide +kernel
theorem dX8_stepForward_33 : decode cX8_stepForward 33 = .ok (.istore_n 1, 1) := by decide +kernel
theorem dX8_stepForward_34 : decode cX8_stepForward 34 = .ok (.aload_n 0, 1) := by decide +kernel
theorem dX8_stepForward_35 : decode cX8_stepForward 35 = .ok (.getfield 49, 3) := by decide +kernel
theorem dX8_stepForward_38 : decode cX8_stepForward 38 = .ok (.ifnull 41, 3) := by decide +kernel
theorem dX8_stepForward_41 : decode cX8_stepForward 41 = .ok (.aload_n 0, 1) := by decide +kernel
theorem dX8_stepForward_42 : decode cX8_stepForward 42 = .ok (.aload_n 0, 1) := by decide +kernel
theorem dX8_stepForward_43 : decode cX8_stepForward 43 = .ok (.getfield 49, 3) := by decide +kernel
theorem dX8_stepForward_46 : decode cX8_stepForward 46 = .ok (.iconst 1, 1) := by decide +kernel
theorem dX8_stepForward_47 : decode cX8_stepForward 47 = .ok (.iload_n 1, 1) := by decide +kernel
theorem dX8_stepForward_48 : decode cX8_stepForward 48 = .ok (.bipush 15, 2) := by decide +kernel
theorem dX8_stepForward_50 : decode cX8_stepForward 50 = .ok (.irem, 1) := by decide +kernel
theorem dX8_stepForward_51 : decode cX8_stepForward 51 = .ok (.bipush 10, 2) := by decide +kernel
theorem dX8_stepForward_53 : decode cX8_stepForward 53 = .ok (.if_icmp .ne 7, 3) := by decide +kernel
theorem dX8_stepForward_56 : decode cX8_stepForward 56 = .ok (.iconst 1, 1) := by decide +kernel
theorem dX8_stepForward_57 : decode cX8_stepForward 57 = .ok (.goto 4, 3) := by decide +kernel
theorem dX8_stepForward_60 : decode cX8_stepForward 60 = .ok (.iconst 0, 1) := by decide +kernel
theorem dX8_stepForward_61 : decode cX8_stepForward 61 = .ok (.iload_n 1, 1) := by decide +kernel
theorem dX8_stepForward_62 : decode cX8_stepForward 62 = .ok (.bipush 15, 2) := by decide +kernel
theorem dX8_stepForward_64 : decode cX8_stepForward 64 = .ok (.irem, 1) := by decide +kernel
theorem dX8_stepForward_65 : decode cX8_stepForward 65 = .ok (.ifCond .ne 7, 3) := by decide +kernel
theorem dX8_stepForward_68 : decode cX8_stepForward 68 = .ok (.iconst 1, 1) := by decide +kernel
theorem dX8_stepForward_69 : decode cX8_stepForward 69 = .ok (.goto 4, 3) := by decide +kernel
theorem dX8_stepForward_72 : decode cX8_stepForward 72 = .ok (.iconst 0, 1) := by decide +kernel
theorem dX8_stepForward_73 : decode cX8_stepForward 73 = .ok (.invokevirtual 103, 3) := by decide +kernel
theorem dX8_stepForward_76 : decode cX8_stepForward 76 = .ok (.goto 39, 3) := by decide +kernel
theorem dX8_stepForward_79 : decode cX8_stepForward 79 = .ok (.aload_n 0, 1) := by decide +kernel
theorem dX8_stepForward_80 : decode cX8_stepForward 80 = .ok (.getfield 53, 3) := by decide +kernel
theorem dX8_stepForward_83 : decode cX8_stepForward 83 = .ok (.ifnull 32, 3) := by decide +kernel
theorem dX8_stepForward_86 : decode cX8_stepForward 86 = .ok (.aload_n 0, 1) := by decide +kernel
theorem dX8_stepForward_87 : decode cX8_stepForward 87 = .ok (.aload_n 0, 1) := by decide +kernel
theorem dX8_stepForward_88 : decode cX8_stepForward 88 = .ok (.getfield 53, 3) := by decide +kernel
theorem dX8_stepForward_91 : decode cX8_stepForward 91 = .ok (.iconst 0, 1) := by decide +kernel
theorem dX8_stepForward_92 : decode cX8_stepForward 92 = .ok (.iload_n 1, 1) := by decide +kernel
theorem dX8_stepForward_93 : decode cX8_stepForward 93 = .ok (.bipush 55, 2) := by decide +kernel
theorem dX8_stepForward_95 : decode cX8_stepForward 95 = .ok (.if_icmp .ne 7, 3) := by decide +kernel
theorem dX8_stepForward_98 : decode cX8_stepForward 98 = .ok (.iconst 1, 1) := by decide +kernel
theorem dX8_stepForward_99 : decode cX8_stepForward 99 = .ok (.goto 4, 3) := by decide +kernel
theorem dX8_stepForward_102 : decode cX8_stepForward 102 = .ok (.iconst 0, 1) := by decide +kernel
theorem dX8_stepForward_103 : decode cX8_stepForward 103 = .ok (.iload_n 1, 1) := by decide +kernel
theorem dX8_stepForward_104 : decode cX8_stepForward 104 = .ok (.ifCond .ne 7, 3) := by decide +kernel
theorem dX8_stepForward_107 : decode cX8_stepForward 107 = .ok (.iconst 1, 1) := by decide +kernel
theorem dX8_stepForward_108 : decode cX8_stepForward 108 = .ok (.goto 4, 3) := by decide +kernel
theorem dX8_stepForward_111 : decode cX8_stepForward 111 = .ok (.iconst 0, 1) := by decide +kernel
theorem dX8_stepForward_112 : decode cX8_stepForward 112 = .ok (.invokevirtual 103, 3) := by decide +kernel
theorem dX8_stepForward_115 : decode cX8_stepForward 115 = .ok (.return_, 1) := by decide +kernel
theorem dX8_warnOrLetOff_0 : decode cX8_warnOrLetOff 0 = .ok (.iload_n 3, 1) := by decide +kernel
theorem dX8_warnOrLetOff_1 : decode cX8_warnOrLetOff 1 = .ok (.ifCond .eq 8, 3) := by decide +kernel
theorem dX8_warnOrLetOff_4 : decode cX8_warnOrLetOff 4 = .ok (.aload_n 1, 1) := by decide +kernel
theorem dX8_warnOrLetOff_5 : decode cX8_warnOrLetOff 5 = .ok (.iconst 1, 1) := by decide +kernel
theorem dX8_warnOrLetOff_6 : decode cX8_warnOrLetOff 6 = .ok (.putfield 65, 3) := by decide +kernel
theorem dX8_warnOrLetOff_9 : decode cX8_warnOrLetOff 9 = .ok (.iload 4, 2) := by decide +kernel
theorem dX8_warnOrLetOff_11 : decode cX8_warnOrLetOff 11 = .ok (.ifCond .eq 29, 3) := by decide +kernel
theorem dX8_warnOrLetOff_14 : decode cX8_warnOrLetOff 14 = .ok (.aload_n 1, 1) := by decide +kernel
theorem dX8_warnOrLetOff_15 : decode cX8_warnOrLetOff 15 = .ok (.getfield 65, 3) := by decide +kernel
theorem dX8_warnOrLetOff_18 : decode cX8_warnOrLetOff 18 = .ok (.ifCond .eq 22, 3) := by decide +kernel
theorem dX8_warnOrLetOff_21 : decode cX8_warnOrLetOff 21 = .ok (.aload_n 0, 1) := by decide +kernel
theorem dX8_warnOrLetOff_22 : decode cX8_warnOrLetOff 22 = .ok (.invokevirtual 107, 3) := by decide +kernel
theorem dX8_warnOrLetOff_25 : decode cX8_warnOrLetOff 25 = .ok (.iconst 2, 1) := by decide +kernel
theorem dX8_warnOrLetOff_26 : decode cX8_warnOrLetOff 26 = .ok (.if_icmp .eq 14, 3) := by decide +kernel
theorem dX8_warnOrLetOff_29 : decode cX8_warnOrLetOff 29 = .ok (.aload_n 0, 1) := by decide +kernel
theorem dX8_warnOrLetOff_30 : decode cX8_warnOrLetOff 30 = .ok (.aload_n 1, 1) := by decide +kernel
theorem dX8_warnOrLetOff_31 : decode cX8_warnOrLetOff 31 = .ok (.iload_n 2, 1) := by decide +kernel
theorem dX8_warnOrLetOff_32 : decode cX8_warnOrLetOff 32 = .ok (.invokevirtual 111, 3) := by decide +kernel
theorem dX8_warnOrLetOff_35 : decode cX8_warnOrLetOff 35 = .ok (.aload_n 1, 1) := by decide +kernel
theorem dX8_warnOrLetOff_36 : decode cX8_warnOrLetOff 36 = .ok (.iconst 0, 1) := by decide +kernel
theorem dX8_warnOrLetOff_37 : decode cX8_warnOrLetOff 37 = .ok (.putfield 65, 3) := by decide +kernel
theorem dX8_warnOrLetOff_40 : decode cX8_warnOrLetOff 40 = .ok (.return_, 1) := by decide +kernel
theorem dX8_letOffByHands_0 : decode cX8_letOffByHands 0 = .ok (.iload_n 2, 1) := by decide +kernel
theorem dX8_letOffByHands_1 : decode cX8_letOffByHands 1 = .ok (.ifCond .eq 7, 3) := by decide +kernel
theorem dX8_letOffByHands_4 : decode cX8_letOffByHands 4 = .ok (.iconst 4, 1) := by decide +kernel
theorem dX8_letOffByHands_5 : decode cX8_letOffByHands 5 = .ok (.goto 5, 3) := by decide +kernel
theorem dX8_letOffByHands_8 : decode cX8_letOffByHands 8 = .ok (.bipush 12, 2) := by decide +kernel
theorem dX8_letOffByHands_10 : decode cX8_letOffByHands 10 = .ok (.istore_n 3, 1) := by decide +kernel
theorem dX8_letOffByHands_11 : decode cX8_letOffByHands 11 = .ok (.aload_n 0, 1) := by decide +kernel
theorem dX8_letOffByHands_12 : decode cX8_letOffByHands 12 = .ok (.iload_n 2, 1) := by decide +kernel
theorem dX8_letOffByHands_13 : decode cX8_letOffByHands 13 = .ok (.invokevirtual 114, 3) := by decide +kernel
theorem dX8_letOffByHands_16 : decode cX8_letOffByHands 16 = .ok (.iload_n 3, 1) := by decide +kernel
theorem dX8_letOffByHands_17 : decode cX8_letOffByHands 17 = .ok (.iadd, 1) := by decide +kernel
theorem dX8_letOffByHands_18 : decode cX8_letOffByHands 18 = .ok (.iconst 1, 1) := by decide +kernel
theorem dX8_letOffByHands_19 : decode cX8_letOffByHands 19 = .ok (.isub, 1) := by decide +kernel
theorem dX8_letOffByHands_20 : decode cX8_letOffByHands 20 = .ok (.iload_n 3, 1) := by decide +kernel
theorem dX8_letOffByHands_21 : decode cX8_letOffByHands 21 = .ok (.irem, 1) := by decide +kernel
theorem dX8_letOffByHands_22 : decode cX8_letOffByHands 22 = .ok (.istore 4, 2) := by decide +kernel
theorem dX8_letOffByHands_24 : decode cX8_letOffByHands 24 = .ok (.aload_n 1, 1) := by decide +kernel
theorem dX8_letOffByHands_25 : decode cX8_letOffByHands 25 = .ok (.iload 4, 2) := by decide +kernel
theorem dX8_letOffByHands_27 : decode cX8_letOffByHands 27 = .ok (.iload_n 2, 1) := by decide +kernel
theorem dX8_letOffByHands_28 : decode cX8_letOffByHands 28 = .ok (.ifCond .eq 13, 3) := by decide +kernel
theorem dX8_letOffByHands_31 : decode cX8_letOffByHands 31 = .ok (.iload 4, 2) := by decide +kernel
theorem dX8_letOffByHands_33 : decode cX8_letOffByHands 33 = .ok (.iconst 3, 1) := by decide +kernel
theorem dX8_letOffByHands_34 : decode cX8_letOffByHands 34 = .ok (.if_icmp .ne 7, 3) := by decide +kernel
theorem dX8_letOffByHands_37 : decode cX8_letOffByHands 37 = .ok (.iconst 1, 1) := by decide +kernel
theorem dX8_letOffByHands_38 : decode cX8_letOffByHands 38 = .ok (.goto 4, 3) := by decide +kernel
theorem dX8_letOffByHands_41 : decode cX8_letOffByHands 41 = .ok (.iconst 0, 1) := by decide +kernel
theorem dX8_letOffByHands_42 : decode cX8_letOffByHands 42 = .ok (.invokevirtual 117, 3) := by decide +kernel
theorem dX8_letOffByHands_45 : decode cX8_letOffByHands 45 = .ok (.return_, 1) := by decide +kernel
theorem dX8_run_0 : decode cX8_run 0 = .ok (.aload_n 1, 1) := by decide +kernel
theorem dX8_run_1 : decode cX8_run 1 = .ok (.getfield 121, 3) := by decide +kernel
theorem dX8_run_4 : decode cX8_run 4 = .ok (.ifCond .ne 5, 3) := by decide +kernel
theorem dX8_run_7 : decode cX8_run 7 = .ok (.iconst 0, 1) := by decide +kernel
theorem dX8_run_8 : decode cX8_run 8 = .ok (.ireturn, 1) := by decide +kernel
theorem dX8_run_9 : decode cX8_run 9 = .ok (.aload_n 1, 1) := by decide +kernel
theorem dX8_run_10 : decode cX8_run 10 = .ok (.iload_n 2, 1) := by decide +kernel
theorem dX8_run_11 : decode cX8_run 11 = .ok (.aload_n 0, 1) := by decide +kernel
theorem dX8_run_12 : decode cX8_run 12 = .ok (.invokevirtual 107, 3) := by decide +kernel
theorem dX8_run_15 : decode cX8_run 15 = .ok (.iconst 1, 1) := by decide +kernel
theorem dX8_run_16 : decode cX8_run 16 = .ok (.if_icmp .ne 7, 3) := by decide +kernel
theorem dX8_run_19 : decode cX8_run 19 = .ok (.iconst 1, 1) := by decide +kernel
theorem dX8_run_20 : decode cX8_run 20 = .ok (.goto 4, 3) := by decide +kernel
theorem dX8_run_23 : decode cX8_run 23 = .ok (.iconst 0, 1) := by decide +kernel
theorem dX8_run_24 : decode cX8_run 24 = .ok (.invokevirtual 124, 3) := by decide +kernel
theorem dX8_run_27 : decode cX8_run 27 = .ok (.istore 4, 2) := by decide +kernel
theorem dX8_run_29 : decode cX8_run 29 = .ok (.aload_n 1, 1) := by decide +kernel
theorem dX8_run_30 : decode cX8_run 30 = .ok (.getfield 128, 3) := by decide +kernel
theorem dX8_run_33 : decode cX8_run 33 = .ok (.ifCond .le 12, 3) := by decide +kernel
theorem dX8_run_36 : decode cX8_run 36 = .ok (.aload_n 0, 1) := by decide +kernel
theorem dX8_run_37 : decode cX8_run 37 = .ok (.getfield 12, 3) := by decide +kernel
theorem dX8_run_40 : decode cX8_run 40 = .ok (.iload_n 3, 1) := by decide +kernel
theorem dX8_run_41 : decode cX8_run 41 = .ok (.aload_n 1, 1) := by decide +kernel
theorem dX8_run_42 : decode cX8_run 42 = .ok (.invokevirtual 131, 3) := by decide +kernel
theorem dX8_run_45 : decode cX8_run 45 = .ok (.aload_n 1, 1) := by decide +kernel
theorem dX8_run_46 : decode cX8_run 46 = .ok (.getfield 121, 3) := by decide +kernel
theorem dX8_run_49 : decode cX8_run 49 = .ok (.ifCond .ne 22, 3) := by decide +kernel
theorem dX8_run_52 : decode cX8_run 52 = .ok (.aload_n 1, 1) := by decide +kernel
theorem dX8_run_53 : decode cX8_run 53 = .ok (.aload_n 0, 1) := by decide +kernel
theorem dX8_run_54 : decode cX8_run 54 = .ok (.getfield 49, 3) := by decide +kernel
theorem dX8_run_57 : decode cX8_run 57 = .ok (.if_acmp .ne 14, 3) := by decide +kernel
theorem dX8_run_60 : decode cX8_run 60 = .ok (.aload_n 1, 1) := by decide +kernel
theorem dX8_run_61 : decode cX8_run 61 = .ok (.getfield 135, 3) := by decide +kernel
theorem dX8_run_64 : decode cX8_run 64 = .ok (.ifCond .eq 7, 3) := by decide +kernel
theorem dX8_run_67 : decode cX8_run 67 = .ok (.aload_n 0, 1) := by decide +kernel
theorem dX8_run_68 : decode cX8_run 68 = .ok (.invokevirtual 138, 3) := by decide +kernel
theorem dX8_run_71 : decode cX8_run 71 = .ok (.iload 4, 2) := by decide +kernel
theorem dX8_run_73 : decode cX8_run 73 = .ok (.ireturn, 1) := by decide +kernel
theorem dX8_liftHour_0 : decode cX8_liftHour 0 = .ok (.aload_n 0, 1) := by decide +kernel
theorem dX8_liftHour_1 : decode cX8_liftHour 1 = .ok (.getfield 53, 3) := by decide +kernel
theorem dX8_liftHour_4 : decode cX8_liftHour 4 = .ok (.ifnull 20, 3) := by decide +kernel
theorem dX8_liftHour_7 : decode cX8_liftHour 7 = .ok (.aload_n 0, 1) := by decide +kernel
theorem dX8_liftHour_8 : decode cX8_liftHour 8 = .ok (.invokevirtual 107, 3) := by decide +kernel
theorem dX8_liftHour_11 : decode cX8_liftHour 11 = .ok (.iconst 2, 1) := by decide +kernel
theorem dX8_liftHour_12 : decode cX8_liftHour 12 = .ok (.if_icmp .eq 12, 3) := by decide +kernel
theorem dX8_liftHour_15 : decode cX8_liftHour 15 = .ok (.aload_n 0, 1) := by decide +kernel
theorem dX8_liftHour_16 : decode cX8_liftHour 16 = .ok (.aload_n 0, 1) := by decide +kernel
theorem dX8_liftHour_17 : decode cX8_liftHour 17 = .ok (.getfield 53, 3) := by decide +kernel
theorem dX8_liftHour_20 : decode cX8_liftHour 20 = .ok (.iconst 0, 1) := by decide +kernel
theorem dX8_liftHour_21 : decode cX8_liftHour 21 = .ok (.invokevirtual 111, 3) := by decide +kernel
theorem dX8_liftHour_24 : decode cX8_liftHour 24 = .ok (.return_, 1) := by decide +kernel
theorem dX8_minutesLeft_0 : decode cX8_minutesLeft 0 = .ok (.aload_n 0, 1) := by decide +kernel
theorem dX8_minutesLeft_1 : decode cX8_minutesLeft 1 = .ok (.getfield 35, 3) := by decide +kernel
theorem dX8_minutesLeft_4 : decode cX8_minutesLeft 4 = .ok (.ifCond .ne 6, 3) := by decide +kernel
theorem dX8_minutesLeft_7 : decode cX8_minutesLeft 7 = .ok (.bipush (-9), 2) := by decide +kernel
theorem dX8_minutesLeft_9 : decode cX8_minutesLeft 9 = .ok (.ireturn, 1) := by decide +kernel
theorem dX8_minutesLeft_10 : decode cX8_minutesLeft 10 = .ok (.aload_n 0, 1) := by decide +kernel
theorem dX8_minutesLeft_11 : decode cX8_minutesLeft 11 = .ok (.getfield 32, 3) := by decide +kernel
theorem dX8_minutesLeft_14 : decode cX8_minutesLeft 14 = .ok (.ifCond .ne 5, 3) := by decide +kernel
theorem dX8_minutesLeft_17 : decode cX8_minutesLeft 17 = .ok (.iconst 0, 1) := by decide +kernel
theorem dX8_minutesLeft_18 : decode cX8_minutesLeft 18 = .ok (.ireturn, 1) := by decide +kernel
theorem dX8_minutesLeft_19 : decode cX8_minutesLeft 19 = .ok (.ldc 92, 2) := by decide +kernel
theorem dX8_minutesLeft_21 : decode cX8_minutesLeft 21 = .ok (.aload_n 0, 1) := by decide +kernel
theorem dX8_minutesLeft_22 : decode cX8_minutesLeft 22 = .ok (.getfield 26, 3) := by decide +kernel
theorem dX8_minutesLeft_25 : decode cX8_minutesLeft 25 = .ok (.iadd, 1) := by decide +kernel
theorem dX8_minutesLeft_26 : decode cX8_minutesLeft 26 = .ok (.i2l, 1) := by decide +kernel
theorem dX8_minutesLeft_27 : decode cX8_minutesLeft 27 = .ok (.lstore_n 1, 1) := by decide +kernel
theorem dX8_minutesLeft_28 : decode cX8_minutesLeft 28 = .ok (.lload_n 1, 1) := by decide +kernel
theorem dX8_minutesLeft_29 : decode cX8_minutesLeft 29 = .ok (.lconst 0, 1) := by decide +kernel
theorem dX8_minutesLeft_30 : decode cX8_minutesLeft 30 = .ok (.lcmp, 1) := by decide +kernel
theorem dX8_minutesLeft_31 : decode cX8_minutesLeft 31 = .ok (.ifCond .gt 6, 3) := by decide +kernel
theorem dX8_minutesLeft_34 : decode cX8_minutesLeft 34 = .ok (.ldc 141, 2) := by decide +kernel
theorem dX8_minutesLeft_36 : decode cX8_minutesLeft 36 = .ok (.ireturn, 1) := by decide +kernel
theorem dX8_minutesLeft_37 : decode cX8_minutesLeft 37 = .ok (.aload_n 0, 1) := by decide +kernel
theorem dX8_minutesLeft_38 : decode cX8_minutesLeft 38 = .ok (.getfield 32, 3) := by decide +kernel
theorem dX8_minutesLeft_41 : decode cX8_minutesLeft 41 = .ok (.i2l, 1) := by decide +kernel
theorem dX8_minutesLeft_42 : decode cX8_minutesLeft 42 = .ok (.ldc2_w 90, 3) := by decide +kernel
theorem dX8_minutesLeft_45 : decode cX8_minutesLeft 45 = .ok (.lmul, 1) := by decide +kernel
theorem dX8_minutesLeft_46 : decode cX8_minutesLeft 46 = .ok (.aload_n 0, 1) := by decide +kernel
theorem dX8_minutesLeft_47 : decode cX8_minutesLeft 47 = .ok (.getfield 29, 3) := by decide +kernel
theorem dX8_minutesLeft_50 : decode cX8_minutesLeft 50 = .ok (.i2l, 1) := by decide +kernel
theorem dX8_minutesLeft_51 : decode cX8_minutesLeft 51 = .ok (.lsub, 1) := by decide +kernel
theorem dX8_minutesLeft_52 : decode cX8_minutesLeft 52 = .ok (.lstore_n 3, 1) := by decide +kernel
theorem dX8_minutesLeft_53 : decode cX8_minutesLeft 53 = .ok (.lconst 1, 1) := by decide +kernel
theorem dX8_minutesLeft_54 : decode cX8_minutesLeft 54 = .ok (.lload_n 3, 1) := by decide +kernel
theorem dX8_minutesLeft_55 : decode cX8_minutesLeft 55 = .ok (.lload_n 1, 1) := by decide +kernel
theorem dX8_minutesLeft_56 : decode cX8_minutesLeft 56 = .ok (.ladd, 1) := by decide +kernel
theorem dX8_minutesLeft_57 : decode cX8_minutesLeft 57 = .ok (.lconst 1, 1) := by decide +kernel
theorem dX8_minutesLeft_58 : decode cX8_minutesLeft 58 = .ok (.lsub, 1) := by decide +kernel
theorem dX8_minutesLeft_59 : decode cX8_minutesLeft 59 = .ok (.lload_n 1, 1) := by decide +kernel
theorem dX8_minutesLeft_60 : decode cX8_minutesLeft 60 = .ok (.ldiv, 1) := by decide +kernel
theorem dX8_minutesLeft_61 : decode cX8_minutesLeft 61 = .ok (.invokestatic 142, 3) := by decide +kernel
theorem dX8_minutesLeft_64 : decode cX8_minutesLeft 64 = .ok (.lstore 5, 2) := by decide +kernel
theorem dX8_minutesLeft_66 : decode cX8_minutesLeft 66 = .ok (.lload 5, 2) := by decide +kernel
theorem dX8_minutesLeft_68 : decode cX8_minutesLeft 68 = .ok (.ldc2_w 146, 3) := by decide +kernel
theorem dX8_minutesLeft_71 : decode cX8_minutesLeft 71 = .ok (.invokestatic 148, 3) := by decide +kernel
theorem dX8_minutesLeft_74 : decode cX8_minutesLeft 74 = .ok (.l2i, 1) := by decide +kernel
theorem dX8_minutesLeft_75 : decode cX8_minutesLeft 75 = .ok (.ireturn, 1) := by decide +kernel
theorem dX9_init_0 : decode cX9_init 0 = .ok (.aload_n 0, 1) := by decide +kernel
theorem dX9_init_1 : decode cX9_init 1 = .ok (.invokespecial 3, 3) := by decide +kernel
theorem dX9_init_4 : decode cX9_init 4 = .ok (.aload_n 0, 1) := by decide +kernel
theorem dX9_init_5 : decode cX9_init 5 = .ok (.bipush 30, 2) := by decide +kernel
theorem dX9_init_7 : decode cX9_init 7 = .ok (.putfield 9, 3) := by decide +kernel
theorem dX9_init_10 : decode cX9_init 10 = .ok (.aload_n 0, 1) := by decide +kernel
theorem dX9_init_11 : decode cX9_init 11 = .ok (.sipush 1000, 3) := by decide +kernel
theorem dX9_init_14 : decode cX9_init 14 = .ok (.putfield 15, 3) := by decide +kernel
theorem dX9_init_17 : decode cX9_init 17 = .ok (.aload_n 0, 1) := by decide +kernel
theorem dX9_init_18 : decode cX9_init 18 = .ok (.sipush 1000, 3) := by decide +kernel
theorem dX9_init_21 : decode cX9_init 21 = .ok (.putfield 18, 3) := by decide +kernel
theorem dX9_init_24 : decode cX9_init 24 = .ok (.aload_n 0, 1) := by decide +kernel
theorem dX9_init_25 : decode cX9_init 25 = .ok (.bipush (-9), 2) := by decide +kernel
theorem dX9_init_27 : decode cX9_init 27 = .ok (.putfield 21, 3) := by decide +kernel
theorem dX9_init_30 : decode cX9_init 30 = .ok (.aload_n 0, 1) := by decide +kernel
theorem dX9_init_31 : decode cX9_init 31 = .ok (.iload_n 1, 1) := by decide +kernel
theorem dX9_init_32 : decode cX9_init 32 = .ok (.putfield 24, 3) := by decide +kernel
theorem dX9_init_35 : decode cX9_init 35 = .ok (.aload_n 0, 1) := by decide +kernel
theorem dX9_init_36 : decode cX9_init 36 = .ok (.iload_n 2, 1) := by decide +kernel
theorem dX9_init_37 : decode cX9_init 37 = .ok (.putfield 27, 3) := by decide +kernel
theorem dX9_init_40 : decode cX9_init 40 = .ok (.aload_n 0, 1) := by decide +kernel
theorem dX9_init_41 : decode cX9_init 41 = .ok (.aload_n 3, 1) := by decide +kernel
theorem dX9_init_42 : decode cX9_init 42 = .ok (.putfield 30, 3) := by decide +kernel
theorem dX9_init_45 : decode cX9_init 45 = .ok (.return_, 1) := by decide +kernel
theorem dX9_stand_0 : decode cX9_stand 0 = .ok (.bipush (-9), 2) := by decide +kernel
theorem dX9_stand_2 : decode cX9_stand 2 = .ok (.ireturn, 1) := by decide +kernel
theorem dX9_letGo_0 : decode cX9_letGo 0 = .ok (.aload_n 0, 1) := by decide +kernel
theorem dX9_letGo_1 : decode cX9_letGo 1 = .ok (.dup, 1) := by decide +kernel
theorem dX9_letGo_2 : decode cX9_letGo 2 = .ok (.getfield 34, 3) := by decide +kernel
theorem dX9_letGo_5 : decode cX9_letGo 5 = .ok (.iconst 1, 1) := by decide +kernel
theorem dX9_letGo_6 : decode cX9_letGo 6 = .ok (.iadd, 1) := by decide +kernel
theorem dX9_letGo_7 : decode cX9_letGo 7 = .ok (.putfield 34, 3) := by decide +kernel
theorem dX9_letGo_10 : decode cX9_letGo 10 = .ok (.aload_n 0, 1) := by decide +kernel
theorem dX9_letGo_11 : decode cX9_letGo 11 = .ok (.iload_n 2, 1) := by decide +kernel
theorem dX9_letGo_12 : decode cX9_letGo 12 = .ok (.putfield 37, 3) := by decide +kernel
theorem dX9_letGo_15 : decode cX9_letGo 15 = .ok (.return_, 1) := by decide +kernel
theorem dX9_strokesAhead_0 : decode cX9_strokesAhead 0 = .ok (.iconst 1, 1) := by decide +kernel
theorem dX9_strokesAhead_1 : decode cX9_strokesAhead 1 = .ok (.ireturn, 1) := by decide +kernel
theorem dX9_lift_0 : decode cX9_lift 0 = .ok (.iconst 1, 1) := by decide +kernel
theorem dX9_lift_1 : decode cX9_lift 1 = .ok (.ireturn, 1) := by decide +kernel
theorem dX9_comeTo_0 : decode cX9_comeTo 0 = .ok (.aload_n 0, 1) := by decide +kernel
theorem dX9_comeTo_1 : decode cX9_comeTo 1 = .ok (.iload_n 1, 1) := by decide +kernel
theorem dX9_comeTo_2 : decode cX9_comeTo 2 = .ok (.putfield 21, 3) := by decide +kernel
theorem dX9_comeTo_5 : decode cX9_comeTo 5 = .ok (.aload_n 0, 1) := by decide +kernel
theorem dX9_comeTo_6 : decode cX9_comeTo 6 = .ok (.iconst 0, 1) := by decide +kernel
theorem dX9_comeTo_7 : decode cX9_comeTo 7 = .ok (.putfield 41, 3) := by decide +kernel
theorem dX9_comeTo_10 : decode cX9_comeTo 10 = .ok (.aload_n 0, 1) := by decide +kernel
theorem dX9_comeTo_11 : decode cX9_comeTo 11 = .ok (.iconst 0, 1) := by decide +kernel
theorem dX9_comeTo_12 : decode cX9_comeTo 12 = .ok (.putfield 34, 3) := by decide +kernel
theorem dX9_comeTo_15 : decode cX9_comeTo 15 = .ok (.return_, 1) := by decide +kernel
theorem dX9_strike_0 : decode cX9_strike 0 = .ok (.aload_n 0, 1) := by decide +kernel
theorem dX9_strike_1 : decode cX9_strike 1 = .ok (.iconst 0, 1) := by decide +kernel
theorem dX9_strike_2 : decode cX9_strike 2 = .ok (.putfield 44, 3) := by decide +kernel
theorem dX9_strike_5 : decode cX9_strike 5 = .ok (.aload_n 0, 1) := by decide +kernel
theorem dX9_strike_6 : decode cX9_strike 6 = .ok (.iconst 0, 1) := by decide +kernel
theorem dX9_strike_7 : decode cX9_strike 7 = .ok (.putfield 47, 3) := by decide +kernel
theorem dX9_strike_10 : decode cX9_strike 10 = .ok (.iconst 0, 1) := by decide +kernel
theorem dX9_strike_11 : decode cX9_strike 11 = .ok (.istore_n 3, 1) := by decide +kernel
theorem dX9_strike_12 : decode cX9_strike 12 = .ok (.iload_n 3, 1) := by decide +kernel
theorem dX9_strike_13 : decode cX9_strike 13 = .ok (.iload_n 1, 1) := by decide +kernel
theorem dX9_strike_14 : decode cX9_strike 14 = .ok (.if_icmp .ge 86, 3) := by decide +kernel
theorem dX9_strike_17 : decode cX9_strike 17 = .ok (.aload_n 0, 1) := by decide +kernel
theorem dX9_strike_18 : decode cX9_strike 18 = .ok (.getfield 34, 3) := by decide +kernel
theorem dX9_strike_21 : decode cX9_strike 21 = .ok (.ifCond .le 79, 3) := by decide +kernel
theorem dX9_strike_24 : decode cX9_strike 24 = .ok (.aload_n 0, 1) := by decide +kernel
theorem dX9_strike_25 : decode cX9_strike 25 = .ok (.getfield 18, 3) := by decide +kernel
theorem dX9_strike_28 : decode cX9_strike 28 = .ok (.ifCond .le 72, 3) := by decide +kernel
theorem dX9_strike_31 : decode cX9_strike 31 = .ok (.iinc 3 1, 3) := by decide +kernel
theorem dX9_strike_34 : decode cX9_strike 34 = .ok (.aload_n 0, 1) := by decide +kernel
theorem dX9_strike_35 : decode cX9_strike 35 = .ok (.dup, 1) := by decide +kernel
theorem dX9_strike_36 : decode cX9_strike 36 = .ok (.getfield 34, 3) := by decide +kernel
theorem dX9_strike_39 : decode cX9_strike 39 = .ok (.iconst 1, 1) := by decide +kernel
theorem dX9_strike_40 : decode cX9_strike 40 = .ok (.isub, 1) := by decide +kernel
theorem dX9_strike_41 : decode cX9_strike 41 = .ok (.putfield 34, 3) := by decide +kernel
theorem dX9_strike_44 : decode cX9_strike 44 = .ok (.aload_n 0, 1) := by decide +kernel
theorem dX9_strike_45 : decode cX9_strike 45 = .ok (.dup, 1) := by decide +kernel
theorem dX9_strike_46 : decode cX9_strike 46 = .ok (.getfield 18, 3) := by decide +kernel
theorem dX9_strike_49 : decode cX9_strike 49 = .ok (.iconst 1, 1) := by decide +kernel
theorem dX9_strike_50 : decode cX9_strike 50 = .ok (.isub, 1) := by decide +kernel
theorem dX9_strike_51 : decode cX9_strike 51 = .ok (.putfield 18, 3) := by decide +kernel
theorem dX9_strike_54 : decode cX9_strike 54 = .ok (.aload_n 0, 1) := by decide +kernel
theorem dX9_strike_55 : decode cX9_strike 55 = .ok (.invokevirtual 50, 3) := by decide +kernel
theorem dX9_strike_58 : decode cX9_strike 58 = .ok (.aload_n 0, 1) := by decide +kernel
theorem dX9_strike_59 : decode cX9_strike 59 = .ok (.getfield 54, 3) := by decide +kernel
theorem dX9_strike_62 : decode cX9_strike 62 = .ok (.iconst (-1), 1) := by decide +kernel
theorem dX9_strike_63 : decode cX9_strike 63 = .ok (.ixor, 1) := by decide +kernel
theorem dX9_strike_64 : decode cX9_strike 64 = .ok (.iand, 1) := by decide +kernel
theorem dX9_strike_65 : decode cX9_strike 65 = .ok (.istore 4, 2) := by decide +kernel
theorem dX9_strike_67 : decode cX9_strike 67 = .ok (.iload 4, 2) := by decide +kernel
theorem dX9_strike_69 : decode cX9_strike 69 = .ok (.ifCond .eq 28, 3) := by decide +kernel
theorem dX9_strike_72 : decode cX9_strike 72 = .ok (.iload_n 2, 1) := by decide +kernel
theorem dX9_strike_73 : decode cX9_strike 73 = .ok (.ifCond .ne 24, 3) := by decide +kernel
theorem dX9_strike_76 : decode cX9_strike 76 = .ok (.aload_n 0, 1) := by decide +kernel
theorem dX9_strike_77 : decode cX9_strike 77 = .ok (.dup, 1) := by decide +kernel
theorem dX9_strike_78 : decode cX9_strike 78 = .ok (.getfield 44, 3) := by decide +kernel
theorem dX9_strike_81 : decode cX9_strike 81 = .ok (.iconst 1, 1) := by decide +kernel
theorem dX9_strike_82 : decode cX9_strike 82 = .ok (.iadd, 1) := by decide +kernel
theorem dX9_strike_83 : decode cX9_strike 83 = .ok (.putfield 44, 3) := by decide +kernel
theorem dX9_strike_86 : decode cX9_strike 86 = .ok (.aload_n 0, 1) := by decide +kernel
theorem dX9_strike_87 : decode cX9_strike 87 = .ok (.dup, 1) := by decide +kernel
theorem dX9_strike_88 : decode cX9_strike 88 = .ok (.getfield 47, 3) := by decide +kernel
theorem dX9_strike_91 : decode cX9_strike 91 = .ok (.iload 4, 2) := by decide +kernel
theorem dX9_strike_93 : decode cX9_strike 93 = .ok (.ior, 1) := by decide +kernel
theorem dX9_strike_94 : decode cX9_strike 94 = .ok (.putfield 47, 3) := by decide +kernel
theorem dX9_strike_97 : decode cX9_strike 97 = .ok (.goto (-85), 3) := by decide +kernel
theorem dX9_strike_100 : decode cX9_strike 100 = .ok (.aload_n 0, 1) := by decide +kernel
theorem dX9_strike_101 : decode cX9_strike 101 = .ok (.dup, 1) := by decide +kernel
theorem dX9_strike_102 : decode cX9_strike 102 = .ok (.getfield 57, 3) := by decide +kernel
theorem dX9_strike_105 : decode cX9_strike 105 = .ok (.iload_n 3, 1) := by decide +kernel
theorem dX9_strike_106 : decode cX9_strike 106 = .ok (.iadd, 1) := by decide +kernel
theorem dX9_strike_107 : decode cX9_strike 107 = .ok (.putfield 57, 3) := by decide +kernel
theorem dX9_strike_110 : decode cX9_strike 110 = .ok (.iload_n 3, 1) := by decide +kernel
theorem dX9_strike_111 : decode cX9_strike 111 = .ok (.ireturn, 1) := by decide +kernel
theorem dX9_hasPlace_0 : decode cX9_hasPlace 0 = .ok (.iload_n 1, 1) := by decide +kernel
theorem dX9_hasPlace_1 : decode cX9_hasPlace 1 = .ok (.ifCond .lt 16, 3) := by decide +kernel
theorem dX9_hasPlace_4 : decode cX9_hasPlace 4 = .ok (.iload_n 1, 1) := by decide +kernel
theorem dX9_hasPlace_5 : decode cX9_hasPlace 5 = .ok (.aload_n 0, 1) := by decide +kernel
theorem dX9_hasPlace_6 : decode cX9_hasPlace 6 = .ok (.getfield 30, 3) := by decide +kernel
theorem dX9_hasPlace_9 : decode cX9_hasPlace 9 = .ok (.arraylength, 1) := by decide +kernel
theorem dX9_hasPlace_10 : decode cX9_hasPlace 10 = .ok (.if_icmp .ge 7, 3) := by decide +kernel
theorem dX9_hasPlace_13 : decode cX9_hasPlace 13 = .ok (.iconst 1, 1) := by decide +kernel
theorem dX9_hasPlace_14 : decode cX9_hasPlace 14 = .ok (.goto 4, 3) := by decide +kernel
theorem dX9_hasPlace_17 : decode cX9_hasPlace 17 = .ok (.iconst 0, 1) := by decide +kernel
theorem dX9_hasPlace_18 : decode cX9_hasPlace 18 = .ok (.ireturn, 1) := by decide +kernel
theorem dX9_strokesRound_0 : decode cX9_strokesRound 0 = .ok (.aload_n 0, 1) := by decide +kernel
theorem dX9_strokesRound_1 : decode cX9_strokesRound 1 = .ok (.getfield 30, 3) := by decide +kernel
theorem dX9_strokesRound_4 : decode cX9_strokesRound 4 = .ok (.arraylength, 1) := by decide +kernel
theorem dX9_strokesRound_5 : decode cX9_strokesRound 5 = .ok (.istore_n 2, 1) := by decide +kernel
theorem dX9_strokesRound_6 : decode cX9_strokesRound 6 = .ok (.iload_n 1, 1) := by decide +kernel
theorem dX9_strokesRound_7 : decode cX9_strokesRound 7 = .ok (.ifCond .lt 18, 3) := by decide +kernel
theorem dX9_strokesRound_10 : decode cX9_strokesRound 10 = .ok (.iload_n 2, 1) := by decide +kernel
theorem dX9_strokesRound_11 : decode cX9_strokesRound 11 = .ok (.ifCond .le 14, 3) := by decide +kernel
theorem dX9_strokesRound_14 : decode cX9_strokesRound 14 = .ok (.aload_n 0, 1) := by decide +kernel
theorem dX9_strokesRound_15 : decode cX9_strokesRound 15 = .ok (.getfield 30, 3) := by decide +kernel
theorem dX9_strokesRound_18 : decode cX9_strokesRound 18 = .ok (.iload_n 1, 1) := by decide +kernel
theorem dX9_strokesRound_19 : decode cX9_strokesRound 19 = .ok (.iload_n 2, 1) := by decide +kernel
theorem dX9_strokesRound_20 : decode cX9_strokesRound 20 = .ok (.irem, 1) := by decide +kernel
theorem dX9_strokesRound_21 : decode cX9_strokesRound 21 = .ok (.iaload, 1) := by decide +kernel
theorem dX9_strokesRound_22 : decode cX9_strokesRound 22 = .ok (.goto 4, 3) := by decide +kernel
theorem dX9_strokesRound_25 : decode cX9_strokesRound 25 = .ok (.iconst 1, 1) := by decide +kernel
theorem dX9_strokesRound_26 : decode cX9_strokesRound 26 = .ok (.ireturn, 1) := by decide +kernel
theorem dX9_together_0 : decode cX9_together 0 = .ok (.iconst 0, 1) := by decide +kernel
theorem dX9_together_1 : decode cX9_together 1 = .ok (.istore_n 1, 1) := by decide +kernel
theorem dX9_together_2 : decode cX9_together 2 = .ok (.iconst 0, 1) := by decide +kernel
theorem dX9_together_3 : decode cX9_together 3 = .ok (.istore_n 2, 1) := by decide +kernel
theorem dX9_together_4 : decode cX9_together 4 = .ok (.iload_n 2, 1) := by decide +kernel
theorem dX9_together_5 : decode cX9_together 5 = .ok (.aload_n 0, 1) := by decide +kernel
theorem dX9_together_6 : decode cX9_together 6 = .ok (.getfield 30, 3) := by decide +kernel
theorem dX9_together_9 : decode cX9_together 9 = .ok (.arraylength, 1) := by decide +kernel
theorem dX9_together_10 : decode cX9_together 10 = .ok (.if_icmp .ge 18, 3) := by decide +kernel
theorem dX9_together_13 : decode cX9_together 13 = .ok (.iload_n 1, 1) := by decide +kernel
theorem dX9_together_14 : decode cX9_together 14 = .ok (.aload_n 0, 1) := by decide +kernel
theorem dX9_together_15 : decode cX9_together 15 = .ok (.getfield 30, 3) := by decide +kernel
theorem dX9_together_18 : decode cX9_together 18 = .ok (.iload_n 2, 1) := by decide +kernel
theorem dX9_together_19 : decode cX9_together 19 = .ok (.iaload, 1) := by decide +kernel
theorem dX9_together_20 : decode cX9_together 20 = .ok (.iadd, 1) := by decide +kernel
theorem dX9_together_21 : decode cX9_together 21 = .ok (.istore_n 1, 1) := by decide +kernel
theorem dX9_together_22 : decode cX9_together 22 = .ok (.iinc 2 1, 3) := by decide +kernel
theorem dX9_together_25 : decode cX9_together 25 = .ok (.goto (-21), 3) := by decide +kernel
theorem dX9_together_28 : decode cX9_together 28 = .ok (.iload_n 1, 1) := by decide +kernel
theorem dX9_together_29 : decode cX9_together 29 = .ok (.ireturn, 1) := by decide +kernel
theorem dX9_greatest_0 : decode cX9_greatest 0 = .ok (.iconst 0, 1) := by decide +kernel
theorem dX9_greatest_1 : decode cX9_greatest 1 = .ok (.istore_n 1, 1) := by decide +kernel
theorem dX9_greatest_2 : decode cX9_greatest 2 = .ok (.iconst 0, 1) := by decide +kernel
theorem dX9_greatest_3 : decode cX9_greatest 3 = .ok (.istore_n 2, 1) := by decide +kernel
theorem dX9_greatest_4 : decode cX9_greatest 4 = .ok (.iload_n 2, 1) := by decide +kernel
theorem dX9_greatest_5 : decode cX9_greatest 5 = .ok (.aload_n 0, 1) := by decide +kernel
theorem dX9_greatest_6 : decode cX9_greatest 6 = .ok (.getfield 30, 3) := by decide +kernel
theorem dX9_greatest_9 : decode cX9_greatest 9 = .ok (.arraylength, 1) := by decide +kernel
theorem dX9_greatest_10 : decode cX9_greatest 10 = .ok (.if_icmp .ge 20, 3) := by decide +kernel
theorem dX9_greatest_13 : decode cX9_greatest 13 = .ok (.iload_n 1, 1) := by decide +kernel
theorem dX9_greatest_14 : decode cX9_greatest 14 = .ok (.aload_n 0, 1) := by decide +kernel
theorem dX9_greatest_15 : decode cX9_greatest 15 = .ok (.getfield 30, 3) := by decide +kernel
theorem dX9_greatest_18 : decode cX9_greatest 18 = .ok (.iload_n 2, 1) := by decide +kernel
theorem dX9_greatest_19 : decode cX9_greatest 19 = .ok (.iaload, 1) := by decide +kernel
theorem dX9_greatest_20 : decode cX9_greatest 20 = .ok (.invokestatic 60, 3) := by decide +kernel
theorem dX9_greatest_23 : decode cX9_greatest 23 = .ok (.istore_n 1, 1) := by decide +kernel
theorem dX9_greatest_24 : decode cX9_greatest 24 = .ok (.iinc 2 1, 3) := by decide +kernel
theorem dX9_greatest_27 : decode cX9_greatest 27 = .ok (.goto (-23), 3) := by decide +kernel
theorem dX9_greatest_30 : decode cX9_greatest 30 = .ok (.iload_n 1, 1) := by decide +kernel
theorem dX9_greatest_31 : decode cX9_greatest 31 = .ok (.ireturn, 1) := by decide +kernel
theorem dX9_strokesOfDay_0 : decode cX9_strokesOfDay 0 = .ok (.iload_n 1, 1) := by decide +kernel
theorem dX9_strokesOfDay_1 : decode cX9_strokesOfDay 1 = .ok (.ifCond .eq 8, 3) := by decide +kernel
theorem dX9_strokesOfDay_4 : decode cX9_strokesOfDay 4 = .ok (.bipush 96, 2) := by decide +kernel
theorem dX9_strokesOfDay_6 : decode cX9_strokesOfDay 6 = .ok (.goto 5, 3) := by decide +kernel
theorem dX9_strokesOfDay_9 : decode cX9_strokesOfDay 9 = .ok (.bipush 24, 2) := by decide +kernel
theorem dX9_strokesOfDay_11 : decode cX9_strokesOfDay 11 = .ok (.istore_n 2, 1) := by decide +kernel
theorem dX9_strokesOfDay_12 : decode cX9_strokesOfDay 12 = .ok (.iconst 0, 1) := by decide +kernel
theorem dX9_strokesOfDay_13 : decode cX9_strokesOfDay 13 = .ok (.istore_n 3, 1) := by decide +kernel
theorem dX9_strokesOfDay_14 : decode cX9_strokesOfDay 14 = .ok (.iconst 0, 1) := by decide +kernel
theorem dX9_strokesOfDay_15 : decode cX9_strokesOfDay 15 = .ok (.istore 4, 2) := by decide +kernel
theorem dX9_strokesOfDay_17 : decode cX9_strokesOfDay 17 = .ok (.iload 4, 2) := by decide +kernel
theorem dX9_strokesOfDay_19 : decode cX9_strokesOfDay 19 = .ok (.iload_n 2, 1) := by decide +kernel
theorem dX9_strokesOfDay_20 : decode cX9_strokesOfDay 20 = .ok (.if_icmp .ge 19, 3) := by decide +kernel
theorem dX9_strokesOfDay_23 : decode cX9_strokesOfDay 23 = .ok (.iload_n 3, 1) := by decide +kernel
theorem dX9_strokesOfDay_24 : decode cX9_strokesOfDay 24 = .ok (.aload_n 0, 1) := by decide +kernel
theorem dX9_strokesOfDay_25 : decode cX9_strokesOfDay 25 = .ok (.iload 4, 2) := by decide +kernel
theorem dX9_strokesOfDay_27 : decode cX9_strokesOfDay 27 = .ok (.iload_n 1, 1) := by decide +kernel
theorem dX9_strokesOfDay_28 : decode cX9_strokesOfDay 28 = .ok (.invokevirtual 66, 3) := by decide +kernel
theorem dX9_strokesOfDay_31 : decode cX9_strokesOfDay 31 = .ok (.iadd, 1) := by decide +kernel
theorem dX9_strokesOfDay_32 : decode cX9_strokesOfDay 32 = .ok (.istore_n 3, 1) := by decide +kernel
theorem dX9_strokesOfDay_33 : decode cX9_strokesOfDay 33 = .ok (.iinc 4 1, 3) := by decide +kernel
theorem dX9_strokesOfDay_36 : decode cX9_strokesOfDay 36 = .ok (.goto (-19), 3) := by decide +kernel
theorem dX9_strokesOfDay_39 : decode cX9_strokesOfDay 39 = .ok (.iload_n 3, 1) := by decide +kernel
theorem dX9_strokesOfDay_40 : decode cX9_strokesOfDay 40 = .ok (.ireturn, 1) := by decide +kernel
theorem dX9_wholeDays_0 : decode cX9_wholeDays 0 = .ok (.iload_n 1, 1) := by decide +kernel
theorem dX9_wholeDays_1 : decode cX9_wholeDays 1 = .ok (.ifCond .eq 8, 3) := by decide +kernel
theorem dX9_wholeDays_4 : decode cX9_wholeDays 4 = .ok (.bipush 96, 2) := by decide +kernel
theorem dX9_wholeDays_6 : decode cX9_wholeDays 6 = .ok (.goto 5, 3) := by decide +kernel
theorem dX9_wholeDays_9 : decode cX9_wholeDays 9 = .ok (.bipush 24, 2) := by decide +kernel
theorem dX9_wholeDays_11 : decode cX9_wholeDays 11 = .ok (.istore_n 2, 1) := by decide +kernel
theorem dX9_wholeDays_12 : decode cX9_wholeDays 12 = .ok (.aload_n 0, 1) := by decide +kernel
theorem dX9_wholeDays_13 : decode cX9_wholeDays 13 = .ok (.getfield 18, 3) := by decide +kernel
theorem dX9_wholeDays_16 : decode cX9_wholeDays 16 = .ok (.istore_n 3, 1) := by decide +kernel
theorem dX9_wholeDays_17 : decode cX9_wholeDays 17 = .ok (.iconst 0, 1) := by decide +kernel
theorem dX9_wholeDays_18 : decode cX9_wholeDays 18 = .ok (.istore 4, 2) := by decide +kernel
theorem dX9_wholeDays_20 : decode cX9_wholeDays 20 = .ok (.iload 4, 2) := by decide +kernel
theorem dX9_wholeDays_22 : decode cX9_wholeDays 22 = .ok (.ldc 70, 2) := by decide +kernel
theorem dX9_wholeDays_24 : decode cX9_wholeDays 24 = .ok (.if_icmp .gt 28, 3) := by decide +kernel
theorem dX9_wholeDays_27 : decode cX9_wholeDays 27 = .ok (.iload_n 3, 1) := by decide +kernel
theorem dX9_wholeDays_28 : decode cX9_wholeDays 28 = .ok (.aload_n 0, 1) := by decide +kernel
theorem dX9_wholeDays_29 : decode cX9_wholeDays 29 = .ok (.iload 4, 2) := by decide +kernel
theorem dX9_wholeDays_31 : decode cX9_wholeDays 31 = .ok (.iload_n 1, 1) := by decide +kernel
theorem dX9_wholeDays_32 : decode cX9_wholeDays 32 = .ok (.invokevirtual 66, 3) := by decide +kernel
theorem dX9_wholeDays_35 : decode cX9_wholeDays 35 = .ok (.isub, 1) := by decide +kernel
theorem dX9_wholeDays_36 : decode cX9_wholeDays 36 = .ok (.istore_n 3, 1) := by decide +kernel
theorem dX9_wholeDays_37 : decode cX9_wholeDays 37 = .ok (.iload_n 3, 1) := by decide +kernel
theorem dX9_wholeDays_38 : decode cX9_wholeDays 38 = .ok (.ifCond .ge 8, 3) := by decide +kernel
theorem dX9_wholeDays_41 : decode cX9_wholeDays 41 = .ok (.iload 4, 2) := by decide +kernel
theorem dX9_wholeDays_43 : decode cX9_wholeDays 43 = .ok (.iload_n 2, 1) := by decide +kernel
theorem dX9_wholeDays_44 : decode cX9_wholeDays 44 = .ok (.idiv, 1) := by decide +kernel
theorem dX9_wholeDays_45 : decode cX9_wholeDays 45 = .ok (.ireturn, 1) := by decide +kernel
theorem dX9_wholeDays_46 : decode cX9_wholeDays 46 = .ok (.iinc 4 1, 3) := by decide +kernel
theorem dX9_wholeDays_49 : decode cX9_wholeDays 49 = .ok (.goto (-29), 3) := by decide +kernel
theorem dX9_wholeDays_52 : decode cX9_wholeDays 52 = .ok (.ldc 70, 2) := by decide +kernel
theorem dX9_wholeDays_54 : decode cX9_wholeDays 54 = .ok (.iload_n 2, 1) := by decide +kernel
theorem dX9_wholeDays_55 : decode cX9_wholeDays 55 = .ok (.idiv, 1) := by decide +kernel
theorem dX9_wholeDays_56 : decode cX9_wholeDays 56 = .ok (.ireturn, 1) := by decide +kernel
theorem dX10_init_0 : decode cX10_init 0 = .ok (.aload_n 0, 1) := by decide +kernel
theorem dX10_init_1 : decode cX10_init 1 = .ok (.invokespecial 1, 3) := by decide +kernel
theorem dX10_init_4 : decode cX10_init 4 = .ok (.aload_n 0, 1) := by decide +kernel
theorem dX10_init_5 : decode cX10_init 5 = .ok (.bipush 8, 2) := by decide +kernel
theorem dX10_init_7 : decode cX10_init 7 = .ok (.anewarray 9, 3) := by decide +kernel
theorem dX10_init_10 : decode cX10_init 10 = .ok (.putfield 11, 3) := by decide +kernel
theorem dX10_init_13 : decode cX10_init 13 = .ok (.aload_n 0, 1) := by decide +kernel
theorem dX10_init_14 : decode cX10_init 14 = .ok (.bipush 16, 2) := by decide +kernel
theorem dX10_init_16 : decode cX10_init 16 = .ok (.anewarray 15, 3) := by decide +kernel
theorem dX10_init_19 : decode cX10_init 19 = .ok (.putfield 17, 3) := by decide +kernel
theorem dX10_init_22 : decode cX10_init 22 = .ok (.aload_n 0, 1) := by decide +kernel
theorem dX10_init_23 : decode cX10_init 23 = .ok (.iconst 4, 1) := by decide +kernel
theorem dX10_init_24 : decode cX10_init 24 = .ok (.anewarray 21, 3) := by decide +kernel
theorem dX10_init_27 : decode cX10_init 27 = .ok (.putfield 23, 3) := by decide +kernel
theorem dX10_init_30 : decode cX10_init 30 = .ok (.aload_n 0, 1) := by decide +kernel
theorem dX10_init_31 : decode cX10_init 31 = .ok (.new 27, 3) := by decide +kernel
theorem dX10_init_34 : decode cX10_init 34 = .ok (.dup, 1) := by decide +kernel
theorem dX10_init_35 : decode cX10_init 35 = .ok (.invokespecial 29, 3) := by decide +kernel
theorem dX10_init_38 : decode cX10_init 38 = .ok (.putfield 30, 3) := by decide +kernel
theorem dX10_init_41 : decode cX10_init 41 = .ok (.aload_n 0, 1) := by decide +kernel
theorem dX10_init_42 : decode cX10_init 42 = .ok (.new 34, 3) := by decide +kernel
theorem dX10_init_45 : decode cX10_init 45 = .ok (.dup, 1) := by decide +kernel
theorem dX10_init_46 : decode cX10_init 46 = .ok (.invokespecial 36, 3) := by decide +kernel
theorem dX10_init_49 : decode cX10_init 49 = .ok (.putfield 37, 3) := by decide +kernel
theorem dX10_init_52 : decode cX10_init 52 = .ok (.aload_n 0, 1) := by decide +kernel
theorem dX10_init_53 : decode cX10_init 53 = .ok (.bipush (-9), 2) := by decide +kernel
theorem dX10_init_55 : decode cX10_init 55 = .ok (.putfield 41, 3) := by decide +kernel
theorem dX10_init_58 : decode cX10_init 58 = .ok (.aload_n 0, 1) := by decide +kernel
theorem dX10_init_59 : decode cX10_init 59 = .ok (.new 45, 3) := by decide +kernel
theorem dX10_init_62 : decode cX10_init 62 = .ok (.dup, 1) := by decide +kernel
theorem dX10_init_63 : decode cX10_init 63 = .ok (.invokespecial 47, 3) := by decide +kernel
theorem dX10_init_66 : decode cX10_init 66 = .ok (.putfield 48, 3) := by decide +kernel
theorem dX10_init_69 : decode cX10_init 69 = .ok (.aload_n 0, 1) := by decide +kernel
theorem dX10_init_70 : decode cX10_init 70 = .ok (.bipush 6, 2) := by decide +kernel
theorem dX10_init_72 : decode cX10_init 72 = .ok (.newarray .int, 2) := by decide +kernel
theorem dX10_init_74 : decode cX10_init 74 = .ok (.putfield 52, 3) := by decide +kernel
theorem dX10_init_77 : decode cX10_init 77 = .ok (.iconst 0, 1) := by decide +kernel
theorem dX10_init_78 : decode cX10_init 78 = .ok (.istore_n 1, 1) := by decide +kernel
theorem dX10_init_79 : decode cX10_init 79 = .ok (.iload_n 1, 1) := by decide +kernel
theorem dX10_init_80 : decode cX10_init 80 = .ok (.aload_n 0, 1) := by decide +kernel
theorem dX10_init_81 : decode cX10_init 81 = .ok (.getfield 11, 3) := by decide +kernel
theorem dX10_init_84 : decode cX10_init 84 = .ok (.arraylength, 1) := by decide +kernel
theorem dX10_init_85 : decode cX10_init 85 = .ok (.if_icmp .ge 22, 3) := by decide +kernel
theorem dX10_init_88 : decode cX10_init 88 = .ok (.aload_n 0, 1) := by decide +kernel
theorem dX10_init_89 : decode cX10_init 89 = .ok (.getfield 11, 3) := by decide +kernel
theorem dX10_init_92 : decode cX10_init 92 = .ok (.iload_n 1, 1) := by decide +kernel
theorem dX10_init_93 : decode cX10_init 93 = .ok (.new 9, 3) := by decide +kernel
theorem dX10_init_96 : decode cX10_init 96 = .ok (.dup, 1) := by decide +kernel
theorem dX10_init_97 : decode cX10_init 97 = .ok (.invokespecial 56, 3) := by decide +kernel
theorem dX10_init_100 : decode cX10_init 100 = .ok (.aastore, 1) := by decide +kernel
theorem dX10_init_101 : decode cX10_init 101 = .ok (.iinc 1 1, 3) := by decide +kernel
theorem dX10_init_104 : decode cX10_init 104 = .ok (.goto (-25), 3) := by decide +kernel
theorem dX10_init_107 : decode cX10_init 107 = .ok (.iconst 0, 1) := by decide +kernel
theorem dX10_init_108 : decode cX10_init 108 = .ok (.istore_n 1, 1) := by decide +kernel
theorem dX10_init_109 : decode cX10_init 109 = .ok (.iload_n 1, 1) := by decide +kernel
theorem dX10_init_110 : decode cX10_init 110 = .ok (.aload_n 0, 1) := by decide +kernel
theorem dX10_init_111 : decode cX10_init 111 = .ok (.getfield 23, 3) := by decide +kernel
theorem dX10_init_114 : decode cX10_init 114 = .ok (.arraylength, 1) := by decide +kernel
theorem dX10_init_115 : decode cX10_init 115 = .ok (.if_icmp .ge 22, 3) := by decide +kernel
theorem dX10_init_118 : decode cX10_init 118 = .ok (.aload_n 0, 1) := by decide +kernel
theorem dX10_init_119 : decode cX10_init 119 = .ok (.getfield 23, 3) := by decide +kernel
theorem dX10_init_122 : decode cX10_init 122 = .ok (.iload_n 1, 1) := by decide +kernel
theorem dX10_init_123 : decode cX10_init 123 = .ok (.new 21, 3) := by decide +kernel
theorem dX10_init_126 : decode cX10_init 126 = .ok (.dup, 1) := by decide +kernel
theorem dX10_init_127 : decode cX10_init 127 = .ok (.invokespecial 57, 3) := by decide +kernel
theorem dX10_init_130 : decode cX10_init 130 = .ok (.aastore, 1) := by decide +kernel
theorem dX10_init_131 : decode cX10_init 131 = .ok (.iinc 1 1, 3) := by decide +kernel
theorem dX10_init_134 : decode cX10_init 134 = .ok (.goto (-25), 3) := by decide +kernel
theorem dX10_init_137 : decode cX10_init 137 = .ok (.return_, 1) := by decide +kernel
theorem dX10_row_0 : decode cX10_row 0 = .ok (.aload_n 0, 1) := by decide +kernel
theorem dX10_row_1 : decode cX10_row 1 = .ok (.iload_n 1, 1) := by decide +kernel
theorem dX10_row_2 : decode cX10_row 2 = .ok (.invokevirtual 58, 3) := by decide +kernel
theorem dX10_row_5 : decode cX10_row 5 = .ok (.astore_n 3, 1) := by decide +kernel
theorem dX10_row_6 : decode cX10_row 6 = .ok (.aload_n 3, 1) := by decide +kernel
theorem dX10_row_7 : decode cX10_row 7 = .ok (.ifnull 9, 3) := by decide +kernel
theorem dX10_row_10 : decode cX10_row 10 = .ok (.iload_n 2, 1) := by decide +kernel
theorem dX10_row_11 : decode cX10_row 11 = .ok (.bipush 48, 2) := by decide +kernel
theorem dX10_row_13 : decode cX10_row 13 = .ok (.if_icmp .le 5, 3) := by decide +kernel
theorem dX10_row_16 : decode cX10_row 16 = .ok (.iconst (-1), 1) := by decide +kernel
theorem dX10_row_17 : decode cX10_row 17 = .ok (.ireturn, 1) := by decide +kernel
theorem dX10_row_18 : decode cX10_row 18 = .ok (.iload_n 2, 1) := by decide +kernel
theorem dX10_row_19 : decode cX10_row 19 = .ok (.ifCond .ge 9, 3) := by decide +kernel
theorem dX10_row_22 : decode cX10_row 22 = .ok (.aload_n 0, 1) := by decide +kernel
theorem dX10_row_23 : decode cX10_row 23 = .ok (.iconst 5, 1) := by decide +kernel
theorem dX10_row_24 : decode cX10_row 24 = .ok (.invokevirtual 62, 3) := by decide +kernel
theorem dX10_row_27 : decode cX10_row 27 = .ok (.ireturn, 1) := by decide +kernel
theorem dX10_row_28 : decode cX10_row 28 = .ok (.aload_n 3, 1) := by decide +kernel
theorem dX10_row_29 : decode cX10_row 29 = .ok (.iload_n 2, 1) := by decide +kernel
theorem dX10_row_30 : decode cX10_row 30 = .ok (.invokevirtual 66, 3) := by decide +kernel
theorem dX10_row_33 : decode cX10_row 33 = .ok (.iload_n 2, 1) := by decide +kernel
theorem dX10_row_34 : decode cX10_row 34 = .ok (.ireturn, 1) := by decide +kernel
theorem dX10_lay_0 : decode cX10_lay 0 = .ok (.aload_n 0, 1) := by decide +kernel
theorem dX10_lay_1 : decode cX10_lay 1 = .ok (.iload_n 1, 1) := by decide +kernel
theorem dX10_lay_2 : decode cX10_lay 2 = .ok (.invokevirtual 58, 3) := by decide +kernel
theorem dX10_lay_5 : decode cX10_lay 5 = .ok (.astore 4, 2) := by decide +kernel
theorem dX10_lay_7 : decode cX10_lay 7 = .ok (.aload 4, 2) := by decide +kernel
theorem dX10_lay_9 : decode cX10_lay 9 = .ok (.ifnonnull 5, 3) := by decide +kernel
theorem dX10_lay_12 : decode cX10_lay 12 = .ok (.iconst (-1), 1) := by decide +kernel
theorem dX10_lay_13 : decode cX10_lay 13 = .ok (.ireturn, 1) := by decide +kernel
theorem dX10_lay_14 : decode cX10_lay 14 = .ok (.aload 4, 2) := by decide +kernel
theorem dX10_lay_16 : decode cX10_lay 16 = .ok (.invokevirtual 70, 3) := by decide +kernel
theorem dX10_lay_19 : decode cX10_lay 19 = .ok (.ifCond .ne 9, 3) := by decide +kernel
theorem dX10_lay_22 : decode cX10_lay 22 = .ok (.aload_n 0, 1) := by decide +kernel
theorem dX10_lay_23 : decode cX10_lay 23 = .ok (.iconst 1, 1) := by decide +kernel
theorem dX10_lay_24 : decode cX10_lay 24 = .ok (.invokevirtual 62, 3) := by decide +kernel
theorem dX10_lay_27 : decode cX10_lay 27 = .ok (.ireturn, 1) := by decide +kernel
theorem dX10_lay_28 : decode cX10_lay 28 = .ok (.aload 4, 2) := by decide +kernel
theorem dX10_lay_30 : decode cX10_lay 30 = .ok (.iload_n 2, 1) := by decide +kernel
theorem dX10_lay_31 : decode cX10_lay 31 = .ok (.iconst 1, 1) := by decide +kernel
theorem dX10_lay_32 : decode cX10_lay 32 = .ok (.invokevirtual 74, 3) := by decide +kernel
theorem dX10_lay_35 : decode cX10_lay 35 = .ok (.ifCond .ne 9, 3) := by decide +kernel
theorem dX10_lay_38 : decode cX10_lay 38 = .ok (.aload_n 0, 1) := by decide +kernel
theorem dX10_lay_39 : decode cX10_lay 39 = .ok (.iconst 2, 1) := by decide +kernel
theorem dX10_lay_40 : decode cX10_lay 40 = .ok (.invokevirtual 62, 3) := by decide +kernel
theorem dX10_lay_43 : decode cX10_lay 43 = .ok (.ireturn, 1) := by decide +kernel
theorem dX10_lay_44 : decode cX10_lay 44 = .ok (.aload 4, 2) := by decide +kernel
theorem dX10_lay_46 : decode cX10_lay 46 = .ok (.iload_n 2, 1) := by decide +kernel
theorem dX10_lay_47 : decode cX10_lay 47 = .ok (.invokevirtual 78, 3) := by decide +kernel
theorem dX10_lay_50 : decode cX10_lay 50 = .ok (.istore 5, 2) := by decide +kernel
theorem dX10_lay_52 : decode cX10_lay 52 = .ok (.aload 4, 2) := by decide +kernel
theorem dX10_lay_54 : decode cX10_lay 54 = .ok (.iload_n 2, 1) := by decide +kernel
theorem dX10_lay_55 : decode cX10_lay 55 = .ok (.iload_n 3, 1) := by decide +kernel
theorem dX10_lay_56 : decode cX10_lay 56 = .ok (.invokevirtual 81, 3) := by decide +kernel
theorem dX10_lay_59 : decode cX10_lay 59 = .ok (.iload 5, 2) := by decide +kernel
theorem dX10_lay_61 : decode cX10_lay 61 = .ok (.sipush 1000, 3) := by decide +kernel
theorem dX10_lay_64 : decode cX10_lay 64 = .ok (.iadd, 1) := by decide +kernel
theorem dX10_lay_65 : decode cX10_lay 65 = .ok (.ireturn, 1) := by decide +kernel
theorem dX10_tear_0 : decode cX10_tear 0 = .ok (.aload_n 0, 1) := by decide +kernel
theorem dX10_tear_1 : decode cX10_tear 1 = .ok (.iload_n 1, 1) := by decide +kernel
theorem dX10_tear_2 : decode cX10_tear 2 = .ok (.invokevirtual 58, 3) := by decide +kernel
theorem dX10_tear_5 : decode cX10_tear 5 = .ok (.astore_n 2, 1) := by decide +kernel
theorem dX10_tear_6 : decode cX10_tear 6 = .ok (.aload_n 2, 1) := by decide +kernel
theorem dX10_tear_7 : decode cX10_tear 7 = .ok (.ifnonnull 5, 3) := by decide +kernel
theorem dX10_tear_10 : decode cX10_tear 10 = .ok (.iconst (-1), 1) := by decide +kernel
theorem dX10_tear_11 : decode cX10_tear 11 = .ok (.ireturn, 1) := by decide +kernel
theorem dX10_tear_12 : decode cX10_tear 12 = .ok (.aload_n 2, 1) := by decide +kernel
theorem dX10_tear_13 : decode cX10_tear 13 = .ok (.invokevirtual 70, 3) := by decide +kernel
theorem dX10_tear_16 : decode cX10_tear 16 = .ok (.ifCond .ne 9, 3) := by decide +kernel
theorem dX10_tear_19 : decode cX10_tear 19 = .ok (.aload_n 0, 1) := by decide +kernel
theorem dX10_tear_20 : decode cX10_tear 20 = .ok (.iconst 1, 1) := by decide +kernel
theorem dX10_tear_21 : decode cX10_tear 21 = .ok (.invokevirtual 62, 3) := by decide +kernel
theorem dX10_tear_24 : decode cX10_tear 24 = .ok (.ireturn, 1) := by decide +kernel
theorem dX10_tear_25 : decode cX10_tear 25 = .ok (.aload_n 2, 1) := by decide +kernel
theorem dX10_tear_26 : decode cX10_tear 26 = .ok (.iconst (-1), 1) := by decide +kernel
theorem dX10_tear_27 : decode cX10_tear 27 = .ok (.putfield 85, 3) := by decide +kernel
theorem dX10_tear_30 : decode cX10_tear 30 = .ok (.iconst 1, 1) := by decide +kernel
theorem dX10_tear_31 : decode cX10_tear 31 = .ok (.ireturn, 1) := by decide +kernel
theorem dX10_copy_0 : decode cX10_copy 0 = .ok (.aload_n 0, 1) := by decide +kernel
theorem dX10_copy_1 : decode cX10_copy 1 = .ok (.iload_n 1, 1) := by decide +kernel
theorem dX10_copy_2 : decode cX10_copy 2 = .ok (.invokevirtual 58, 3) := by decide +kernel
theorem dX10_copy_5 : decode cX10_copy 5 = .ok (.astore 6, 2) := by decide +kernel
theorem dX10_copy_7 : decode cX10_copy 7 = .ok (.aload_n 0, 1) := by decide +kernel
theorem dX10_copy_8 : decode cX10_copy 8 = .ok (.iload_n 3, 1) := by decide +kernel
theorem dX10_copy_9 : decode cX10_copy 9 = .ok (.invokevirtual 58, 3) := by decide +kernel
theorem dX10_copy_12 : decode cX10_copy 12 = .ok (.astore 7, 2) := by decide +kernel
theorem dX10_copy_14 : decode cX10_copy 14 = .ok (.aload 6, 2) := by decide +kernel
theorem dX10_copy_16 : decode cX10_copy 16 = .ok (.ifnull 8, 3) := by decide +kernel
theorem dX10_copy_19 : decode cX10_copy 19 = .ok (.aload 7, 2) := by decide +kernel
theorem dX10_copy_21 : decode cX10_copy 21 = .ok (.ifnonnull 5, 3) := by decide +kernel
theorem dX10_copy_24 : decode cX10_copy 24 = .ok (.iconst (-1), 1) := by decide +kernel
theorem dX10_copy_25 : decode cX10_copy 25 = .ok (.ireturn, 1) := by decide +kernel
theorem dX10_copy_26 : decode cX10_copy 26 = .ok (.iload 5, 2) := by decide +kernel
theorem dX10_copy_28 : decode cX10_copy 28 = .ok (.ifCond .ge 9, 3) := by decide +kernel
theorem dX10_copy_31 : decode cX10_copy 31 = .ok (.aload_n 0, 1) := by decide +kernel
theorem dX10_copy_32 : decode cX10_copy 32 = .ok (.iconst 5, 1) := by decide +kernel
theorem dX10_copy_33 : decode cX10_copy 33 = .ok (.invokevirtual 62, 3) := by decide +kernel
theorem dX10_copy_36 : decode cX10_copy 36 = .ok (.ireturn, 1) := by decide +kernel
theorem dX10_copy_37 : decode cX10_copy 37 = .ok (.aload 6, 2) := by decide +kernel
theorem dX10_copy_39 : decode cX10_copy 39 = .ok (.invokevirtual 70, 3) := by decide +kernel
theorem dX10_copy_42 : decode cX10_copy 42 = .ok (.ifCond .eq 11, 3) := by decide +kernel
theorem dX10_copy_45 : decode cX10_copy 45 = .ok (.aload 7, 2) := by decide +kernel
theorem dX10_copy_47 : decode cX10_copy 47 = .ok (.invokevirtual 70, 3) := by decide +kernel
theorem dX10_copy_50 : decode cX10_copy 50 = .ok (.ifCond .ne 9, 3) := by decide +kernel
theorem dX10_copy_53 : decode cX10_copy 53 = .ok (.aload_n 0, 1) := by decide +kernel
theorem dX10_copy_54 : decode cX10_copy 54 = .ok (.iconst 1, 1) := by decide +kernel
theorem dX10_copy_55 : decode cX10_copy 55 = .ok (.invokevirtual 62, 3) := by decide +kernel
theorem dX10_copy_58 : decode cX10_copy 58 = .ok (.ireturn, 1) := by decide +kernel
theorem dX10_copy_59 : decode cX10_copy 59 = .ok (.aload 6, 2) := by decide +kernel
theorem dX10_copy_61 : decode cX10_copy 61 = .ok (.iload_n 2, 1) := by decide +kernel
theorem dX10_copy_62 : decode cX10_copy 62 = .ok (.iload 5, 2) := by decide +kernel
theorem dX10_copy_64 : decode cX10_copy 64 = .ok (.invokevirtual 74, 3) := by decide +kernel
theorem dX10_copy_67 : decode cX10_copy 67 = .ok (.ifCond .eq 15, 3) := by decide +kernel
theorem dX10_copy_70 : decode cX10_copy 70 = .ok (.aload 7, 2) := by decide +kernel
theorem dX10_copy_72 : decode cX10_copy 72 = .ok (.iload 4, 2) := by decide +kernel
theorem dX10_copy_74 : decode cX10_copy 74 = .ok (.iload 5, 2) := by decide +kernel
theorem dX10_copy_76 : decode cX10_copy 76 = .ok (.invokevirtual 74, 3) := by decide +kernel
theorem dX10_copy_79 : decode cX10_copy 79 = .ok (.ifCond .ne 9, 3) := by decide +kernel
theorem dX10_copy_82 : decode cX10_copy 82 = .ok (.aload_n 0, 1) := by decide +kernel
theorem dX10_copy_83 : decode cX10_copy 83 = .ok (.iconst 2, 1) := by decide +kernel
theorem dX10_copy_84 : decode cX10_copy 84 = .ok (.invokevirtual 62, 3) := by decide +kernel
theorem dX10_copy_87 : decode cX10_copy 87 = .ok (.ireturn, 1) := by decide +kernel
theorem dX10_copy_88 : decode cX10_copy 88 = .ok (.aload 6, 2) := by decide +kernel
theorem dX10_copy_90 : decode cX10_copy 90 = .ok (.getfield 88, 3) := by decide +kernel
theorem dX10_copy_93 : decode cX10_copy 93 = .ok (.iload_n 2, 1) := by decide +kernel
theorem dX10_copy_94 : decode cX10_copy 94 = .ok (.aload 7, 2) := by decide +kernel
theorem dX10_copy_96 : decode cX10_copy 96 = .ok (.getfield 88, 3) := by decide +kernel
theorem dX10_copy_99 : decode cX10_copy 99 = .ok (.iload 4, 2) := by decide +kernel
theorem dX10_copy_101 : decode cX10_copy 101 = .ok (.iload 5, 2) := by decide +kernel
theorem dX10_copy_103 : decode cX10_copy 103 = .ok (.invokestatic 92, 3) := by decide +kernel
theorem dX10_copy_106 : decode cX10_copy 106 = .ok (.iconst 1, 1) := by decide +kernel
theorem dX10_copy_107 : decode cX10_copy 107 = .ok (.ireturn, 1) := by decide +kernel
theorem dX10_train_0 : decode cX10_train 0 = .ok (.aload_n 0, 1) := by decide +kernel
theorem dX10_train_1 : decode cX10_train 1 = .ok (.getfield 98, 3) := by decide +kernel
theorem dX10_train_4 : decode cX10_train 4 = .ok (.aload_n 0, 1) := by decide +kernel
theorem dX10_train_5 : decode cX10_train 5 = .ok (.getfield 17, 3) := by decide +kernel
theorem dX10_train_8 : decode cX10_train 8 = .ok (.arraylength, 1) := by decide +kernel
theorem dX10_train_9 : decode cX10_train 9 = .ok (.if_icmp .lt 6, 3) := by decide +kernel
theorem dX10_train_12 : decode cX10_train 12 = .ok (.bipush (-2), 2) := by decide +kernel
theorem dX10_train_14 : decode cX10_train 14 = .ok (.ireturn, 1) := by decide +kernel
theorem dX10_train_15 : decode cX10_train 15 = .ok (.aload_n 0, 1) := by decide +kernel
theorem dX10_train_16 : decode cX10_train 16 = .ok (.new 15, 3) := by decide +kernel
theorem dX10_train_19 : decode cX10_train 19 = .ok (.dup, 1) := by decide +kernel
theorem dX10_train_20 : decode cX10_train 20 = .ok (.aload_n 0, 1) := by decide +kernel
theorem dX10_train_21 : decode cX10_train 21 = .ok (.getfield 98, 3) := by decide +kernel
theorem dX10_train_24 : decode cX10_train 24 = .ok (.iconst 0, 1) := by decide +kernel
theorem dX10_train_25 : decode cX10_train 25 = .ok (.iconst 0, 1) := by decide +kernel
theorem dX10_train_26 : decode cX10_train 26 = .ok (.newarray .int, 2) := by decide +kernel
theorem dX10_train_28 : decode cX10_train 28 = .ok (.invokespecial 101, 3) := by decide +kernel
theorem dX10_train_31 : decode cX10_train 31 = .ok (.invokevirtual 104, 3) := by decide +kernel
theorem dX10_train_34 : decode cX10_train 34 = .ok (.ireturn, 1) := by decide +kernel
theorem dX10_plate_0 : decode cX10_plate 0 = .ok (.aload_n 0, 1) := by decide +kernel
theorem dX10_plate_1 : decode cX10_plate 1 = .ok (.iload_n 1, 1) := by decide +kernel
theorem dX10_plate_2 : decode cX10_plate 2 = .ok (.iload_n 1, 1) := by decide +kernel
theorem dX10_plate_3 : decode cX10_plate 3 = .ok (.invokevirtual 108, 3) := by decide +kernel
theorem dX10_plate_6 : decode cX10_plate 6 = .ok (.istore_n 2, 1) := by decide +kernel
theorem dX10_plate_7 : decode cX10_plate 7 = .ok (.aload_n 0, 1) := by decide +kernel
theorem dX10_plate_8 : decode cX10_plate 8 = .ok (.iload_n 1, 1) := by decide +kernel
theorem dX10_plate_9 : decode cX10_plate 9 = .ok (.invokevirtual 58, 3) := by decide +kernel
theorem dX10_plate_12 : decode cX10_plate 12 = .ok (.astore_n 3, 1) := by decide +kernel
theorem dX10_plate_13 : decode cX10_plate 13 = .ok (.iload_n 2, 1) := by decide +kernel
theorem dX10_plate_14 : decode cX10_plate 14 = .ok (.ifCond .ne 7, 3) := by decide +kernel
theorem dX10_plate_17 : decode cX10_plate 17 = .ok (.aload_n 3, 1) := by decide +kernel
theorem dX10_plate_18 : decode cX10_plate 18 = .ok (.ifnonnull 5, 3) := by decide +kernel
theorem dX10_plate_21 : decode cX10_plate 21 = .ok (.iload_n 2, 1) := by decide +kernel
theorem dX10_plate_22 : decode cX10_plate 22 = .ok (.ireturn, 1) := by decide +kernel
theorem dX10_plate_23 : decode cX10_plate 23 = .ok (.aload_n 0, 1) := by decide +kernel
theorem dX10_plate_24 : decode cX10_plate 24 = .ok (.new 112, 3) := by decide +kernel
theorem dX10_plate_27 : decode cX10_plate 27 = .ok (.dup, 1) := by decide +kernel
theorem dX10_plate_28 : decode cX10_plate 28 = .ok (.aload_n 0, 1) := by decide +kernel
theorem dX10_plate_29 : decode cX10_plate 29 = .ok (.getfield 98, 3) := by decide +kernel
theorem dX10_plate_32 : decode cX10_plate 32 = .ok (.iconst 1, 1) := by decide +kernel
theorem dX10_plate_33 : decode cX10_plate 33 = .ok (.aload_n 3, 1) := by decide +kernel
theorem dX10_plate_34 : decode cX10_plate 34 = .ok (.iconst (-1), 1) := by decide +kernel
theorem dX10_plate_35 : decode cX10_plate 35 = .ok (.invokevirtual 114, 3) := by decide +kernel
theorem dX10_plate_38 : decode cX10_plate 38 = .ok (.invokespecial 118, 3) := by decide +kernel
theorem dX10_plate_41 : decode cX10_plate 41 = .ok (.invokevirtual 104, 3) := by decide +kernel
theorem dX10_plate_44 : decode cX10_plate 44 = .ok (.ireturn, 1) := by decide +kernel
theorem dX10_snail_0 : decode cX10_snail 0 = .ok (.aload_n 0, 1) := by decide +kernel
theorem dX10_snail_1 : decode cX10_snail 1 = .ok (.iload_n 1, 1) := by decide +kernel
theorem dX10_snail_2 : decode cX10_snail 2 = .ok (.iload_n 1, 1) := by decide +kernel
theorem dX10_snail_3 : decode cX10_snail 3 = .ok (.invokevirtual 108, 3) := by decide +kernel
theorem dX10_snail_6 : decode cX10_snail 6 = .ok (.istore_n 2, 1) := by decide +kernel
theorem dX10_snail_7 : decode cX10_snail 7 = .ok (.aload_n 0, 1) := by decide +kernel
theorem dX10_snail_8 : decode cX10_snail 8 = .ok (.iload_n 1, 1) := by decide +kernel
theorem dX10_snail_9 : decode cX10_snail 9 = .ok (.invokevirtual 58, 3) := by decide +kernel
theorem dX10_snail_12 : decode cX10_snail 12 = .ok (.astore_n 3, 1) := by decide +kernel
theorem dX10_snail_13 : decode cX10_snail 13 = .ok (.iload_n 2, 1) := by decide +kernel
theorem dX10_snail_14 : decode cX10_snail 14 = .ok (.ifCond .ne 7, 3) := by decide +kernel
theorem dX10_snail_17 : decode cX10_snail 17 = .ok (.aload_n 3, 1) := by decide +kernel
theorem dX10_snail_18 : decode cX10_snail 18 = .ok (.ifnonnull 5, 3) := by decide +kernel
theorem dX10_snail_21 : decode cX10_snail 21 = .ok (.iload_n 2, 1) := by decide +kernel
theorem dX10_snail_22 : decode cX10_snail 22 = .ok (.ireturn, 1) := by decide +kernel
theorem dX10_snail_23 : decode cX10_snail 23 = .ok (.aload_n 0, 1) := by decide +kernel
theorem dX10_snail_24 : decode cX10_snail 24 = .ok (.new 119, 3) := by decide +kernel
theorem dX10_snail_27 : decode cX10_snail 27 = .ok (.dup, 1) := by decide +kernel
theorem dX10_snail_28 : decode cX10_snail 28 = .ok (.aload_n 0, 1) := by decide +kernel
theorem dX10_snail_29 : decode cX10_snail 29 = .ok (.getfield 98, 3) := by decide +kernel
theorem dX10_snail_32 : decode cX10_snail 32 = .ok (.aload_n 3, 1) := by decide +kernel
theorem dX10_snail_33 : decode cX10_snail 33 = .ok (.iconst (-1), 1) := by decide +kernel
theorem dX10_snail_34 : decode cX10_snail 34 = .ok (.invokevirtual 114, 3) := by decide +kernel
theorem dX10_snail_37 : decode cX10_snail 37 = .ok (.invokespecial 121, 3) := by decide +kernel
theorem dX10_snail_40 : decode cX10_snail 40 = .ok (.invokevirtual 104, 3) := by decide +kernel
theorem dX10_snail_43 : decode cX10_snail 43 = .ok (.ireturn, 1) := by decide +kernel
theorem dX10_barrel_0 : decode cX10_barrel 0 = .ok (.aload_n 0, 1) := by decide +kernel
theorem dX10_barrel_1 : decode cX10_barrel 1 = .ok (.iload_n 1, 1) := by decide +kernel
theorem dX10_barrel_2 : decode cX10_barrel 2 = .ok (.iload_n 2, 1) := by decide +kernel
theorem dX10_barrel_3 : decode cX10_barrel 3 = .ok (.invokevirtual 108, 3) := by decide +kernel
theorem dX10_barrel_6 : decode cX10_barrel 6 = .ok (.istore_n 3, 1) := by decide +kernel
theorem dX10_barrel_7 : decode cX10_barrel 7 = .ok (.aload_n 0, 1) := by decide +kernel
theorem dX10_barrel_8 : decode cX10_barrel 8 = .ok (.iload_n 1, 1) := by decide +kernel
theorem dX10_barrel_9 : decode cX10_barrel 9 = .ok (.invokevirtual 58, 3) := by decide +kernel
theorem dX10_barrel_12 : decode cX10_barrel 12 = .ok (.astore 4, 2) := by decide +kernel
theorem dX10_barrel_14 : decode cX10_barrel 14 = .ok (.aload_n 0, 1) := by decide +kernel
theorem dX10_barrel_15 : decode cX10_barrel 15 = .ok (.iload_n 2, 1) := by decide +kernel
theorem dX10_barrel_16 : decode cX10_barrel 16 = .ok (.invokevirtual 58, 3) := by decide +kernel
theorem dX10_barrel_19 : decode cX10_barrel 19 = .ok (.astore 5, 2) := by decide +kernel
theorem dX10_barrel_21 : decode cX10_barrel 21 = .ok (.iload_n 3, 1) := by decide +kernel
theorem dX10_barrel_22 : decode cX10_barrel 22 = .ok (.ifCond .ne 13, 3) := by decide +kernel
theorem dX10_barrel_25 : decode cX10_barrel 25 = .ok (.aload 4, 2) := by decide +kernel
theorem dX10_barrel_27 : decode cX10_barrel 27 = .ok (.ifnull 8, 3) := by decide +kernel
theorem dX10_barrel_30 : decode cX10_barrel 30 = .ok (.aload 5, 2) := by decide +kernel
theorem dX10_barrel_32 : decode cX10_barrel 32 = .ok (.ifnonnull 5, 3) := by decide +kernel
theorem dX10_barrel_35 : decode cX10_barrel 35 = .ok (.iload_n 3, 1) := by decide +kernel
theorem dX10_barrel_36 : decode cX10_barrel 36 = .ok (.ireturn, 1) := by decide +kernel
theorem dX10_barrel_37 : decode cX10_barrel 37 = .ok (.aload_n 0, 1) := by decide +kernel
theorem dX10_barrel_38 : decode cX10_barrel 38 = .ok (.new 124, 3) := by decide +kernel
theorem dX10_barrel_41 : decode cX10_barrel 41 = .ok (.dup, 1) := by decide +kernel
theorem dX10_barrel_42 : decode cX10_barrel 42 = .ok (.aload_n 0, 1) := by decide +kernel
theorem dX10_barrel_43 : decode cX10_barrel 43 = .ok (.getfield 98, 3) := by decide +kernel
theorem dX10_barrel_46 : decode cX10_barrel 46 = .ok (.aload 4, 2) := by decide +kernel
theorem dX10_barrel_48 : decode cX10_barrel 48 = .ok (.iconst (-1), 1) := by decide +kernel
theorem dX10_barrel_49 : decode cX10_barrel 49 = .ok (.invokevirtual 114, 3) := by decide +kernel
theorem dX10_barrel_52 : decode cX10_barrel 52 = .ok (.aload 5, 2) := by decide +kernel
theorem dX10_barrel_54 : decode cX10_barrel 54 = .ok (.sipush 255, 3) := by decide +kernel
theorem dX10_barrel_57 : decode cX10_barrel 57 = .ok (.invokevirtual 114, 3) := by decide +kernel
theorem dX10_barrel_60 : decode cX10_barrel 60 = .ok (.invokespecial 126, 3) := by decide +kernel
theorem dX10_barrel_63 : decode cX10_barrel 63 = .ok (.invokevirtual 104, 3) := by decide +kernel
theorem dX10_barrel_66 : decode cX10_barrel 66 = .ok (.ireturn, 1) := by decide +kernel
theorem dX10_gear_0 : decode cX10_gear 0 = .ok (.aload_n 0, 1) := by decide +kernel
theorem dX10_gear_1 : decode cX10_gear 1 = .ok (.iload_n 1, 1) := by decide +kernel
theorem dX10_gear_2 : decode cX10_gear 2 = .ok (.invokevirtual 129, 3) := by decide +kernel
theorem dX10_gear_5 : decode cX10_gear 5 = .ok (.astore 4, 2) := by decide +kernel
theorem dX10_gear_7 : decode cX10_gear 7 = .ok (.aload 4, 2) := by decide +kernel
theorem dX10_gear_9 : decode cX10_gear 9 = .ok (.ifnull 24, 3) := by decide +kernel
theorem dX10_gear_12 : decode cX10_gear 12 = .ok (.iload_n 2, 1) := by decide +kernel
theorem dX10_gear_13 : decode cX10_gear 13 = .ok (.iconst 1, 1) := by decide +kernel
theorem dX10_gear_14 : decode cX10_gear 14 = .ok (.if_icmp .lt 19, 3) := by decide +kernel
theorem dX10_gear_17 : decode cX10_gear 17 = .ok (.iload_n 2, 1) := by decide +kernel
theorem dX10_gear_18 : decode cX10_gear 18 = .ok (.bipush 60, 2) := by decide +kernel
theorem dX10_gear_20 : decode cX10_gear 20 = .ok (.if_icmp .gt 13, 3) := by decide +kernel
theorem dX10_gear_23 : decode cX10_gear 23 = .ok (.iload_n 3, 1) := by decide +kernel
theorem dX10_gear_24 : decode cX10_gear 24 = .ok (.ifCond .lt 9, 3) := by decide +kernel
theorem dX10_gear_27 : decode cX10_gear 27 = .ok (.iload_n 3, 1) := by decide +kernel
theorem dX10_gear_28 : decode cX10_gear 28 = .ok (.ldc 133, 2) := by decide +kernel
theorem dX10_gear_30 : decode cX10_gear 30 = .ok (.if_icmp .le 5, 3) := by decide +kernel
theorem dX10_gear_33 : decode cX10_gear 33 = .ok (.iconst (-1), 1) := by decide +kernel
theorem dX10_gear_34 : decode cX10_gear 34 = .ok (.ireturn, 1) := by decide +kernel
theorem dX10_gear_35 : decode cX10_gear 35 = .ok (.aload 4, 2) := by decide +kernel
theorem dX10_gear_37 : decode cX10_gear 37 = .ok (.getfield 134, 3) := by decide +kernel
theorem dX10_gear_40 : decode cX10_gear 40 = .ok (.istore 5, 2) := by decide +kernel
theorem dX10_gear_42 : decode cX10_gear 42 = .ok (.aload 4, 2) := by decide +kernel
theorem dX10_gear_44 : decode cX10_gear 44 = .ok (.iload_n 2, 1) := by decide +kernel
theorem dX10_gear_45 : decode cX10_gear 45 = .ok (.putfield 137, 3) := by decide +kernel
theorem dX10_gear_48 : decode cX10_gear 48 = .ok (.aload 4, 2) := by decide +kernel
theorem dX10_gear_50 : decode cX10_gear 50 = .ok (.iload_n 3, 1) := by decide +kernel
theorem dX10_gear_51 : decode cX10_gear 51 = .ok (.putfield 140, 3) := by decide +kernel
theorem dX10_gear_54 : decode cX10_gear 54 = .ok (.aload 4, 2) := by decide +kernel
theorem dX10_gear_56 : decode cX10_gear 56 = .ok (.iload_n 3, 1) := by decide +kernel
theorem dX10_gear_57 : decode cX10_gear 57 = .ok (.putfield 134, 3) := by decide +kernel
theorem dX10_gear_60 : decode cX10_gear 60 = .ok (.iload 5, 2) := by decide +kernel
theorem dX10_gear_62 : decode cX10_gear 62 = .ok (.ireturn, 1) := by decide +kernel
theorem dX10_wind_0 : decode cX10_wind 0 = .ok (.aload_n 0, 1) := by decide +kernel
theorem dX10_wind_1 : decode cX10_wind 1 = .ok (.iload_n 1, 1) := by decide +kernel
theorem dX10_wind_2 : decode cX10_wind 2 = .ok (.invokevirtual 129, 3) := by decide +kernel
theorem dX10_wind_5 : decode cX10_wind 5 = .ok (.astore_n 2, 1) := by decide +kernel
theorem dX10_wind_6 : decode cX10_wind 6 = .ok (.aload_n 2, 1) := by decide +kernel
theorem dX10_wind_7 : decode cX10_wind 7 = .ok (.ifnonnull 5, 3) := by decide +kernel
theorem dX10_wind_10 : decode cX10_wind 10 = .ok (.iconst (-1), 1) := by decide +kernel
theorem dX10_wind_11 : decode cX10_wind 11 = .ok (.ireturn, 1) := by decide +kernel
theorem dX10_wind_12 : decode cX10_wind 12 = .ok (.aload_n 2, 1) := by decide +kernel
theorem dX10_wind_13 : decode cX10_wind 13 = .ok (.getfield 140, 3) := by decide +kernel
theorem dX10_wind_16 : decode cX10_wind 16 = .ok (.aload_n 2, 1) := by decide +kernel
theorem dX10_wind_17 : decode cX10_wind 17 = .ok (.getfield 134, 3) := by decide +kernel
theorem dX10_wind_20 : decode cX10_wind 20 = .ok (.isub, 1) := by decide +kernel
theorem dX10_wind_21 : decode cX10_wind 21 = .ok (.istore_n 3, 1) := by decide +kernel
theorem dX10_wind_22 : decode cX10_wind 22 = .ok (.aload_n 2, 1) := by decide +kernel
theorem dX10_wind_23 : decode cX10_wind 23 = .ok (.aload_n 2, 1) := by decide +kernel
theorem dX10_wind_24 : decode cX10_wind 24 = .ok (.getfield 140, 3) := by decide +kernel
theorem dX10_wind_27 : decode cX10_wind 27 = .ok (.putfield 134, 3) := by decide +kernel
theorem dX10_wind_30 : decode cX10_wind 30 = .ok (.iload_n 3, 1) := by decide +kernel
theorem dX10_wind_31 : decode cX10_wind 31 = .ok (.ireturn, 1) := by decide +kernel
theorem dX10_broken_0 : decode cX10_broken 0 = .ok (.aload_n 0, 1) := by decide +kernel
theorem dX10_broken_1 : decode cX10_broken 1 = .ok (.iload_n 1, 1) := by decide +kernel
theorem dX10_broken_2 : decode cX10_broken 2 = .ok (.invokevirtual 129, 3) := by decide +kernel
theorem dX10_broken_5 : decode cX10_broken 5 = .ok (.astore_n 3, 1) := by decide +kernel
theorem dX10_broken_6 : decode cX10_broken 6 = .ok (.aload_n 3, 1) := by decide +kernel
theorem dX10_broken_7 : decode cX10_broken 7 = .ok (.ifnull 14, 3) := by decide +kernel
theorem dX10_broken_10 : decode cX10_broken 10 = .ok (.iload_n 2, 1) := by decide +kernel
theorem dX10_broken_11 : decode cX10_broken 11 = .ok (.ifCond .lt 10, 3) := by decide +kernel
theorem dX10_broken_14 : decode cX10_broken 14 = .ok (.iload_n 2, 1) := by decide +kernel
theorem dX10_broken_15 : decode cX10_broken 15 = .ok (.sipush 255, 3) := by decide +kernel
theorem dX10_broken_18 : decode cX10_broken 18 = .ok (.if_icmp .le 5, 3) := by decide +kernel
theorem dX10_broken_21 : decode cX10_broken 21 = .ok (.iconst (-1), 1) := by decide +kernel
theorem dX10_broken_22 : decode cX10_broken 22 = .ok (.ireturn, 1) := by decide +kernel
theorem dX10_broken_23 : decode cX10_broken 23 = .ok (.aload_n 3, 1) := by decide +kernel
theorem dX10_broken_24 : decode cX10_broken 24 = .ok (.getfield 143, 3) := by decide +kernel
theorem dX10_broken_27 : decode cX10_broken 27 = .ok (.istore 4, 2) := by decide +kernel
theorem dX10_broken_29 : decode cX10_broken 29 = .ok (.aload_n 3, 1) := by decide +kernel
theorem dX10_broken_30 : decode cX10_broken 30 = .ok (.iload_n 2, 1) := by decide +kernel
theorem dX10_broken_31 : decode cX10_broken 31 = .ok (.putfield 143, 3) := by decide +kernel
theorem dX10_broken_34 : decode cX10_broken 34 = .ok (.iload 4, 2) := by decide +kernel
theorem dX10_broken_36 : decode cX10_broken 36 = .ok (.ireturn, 1) := by decide +kernel
theorem dX10_told_0 : decode cX10_told 0 = .ok (.aload_n 0, 1) := by decide +kernel
theorem dX10_told_1 : decode cX10_told 1 = .ok (.iload_n 1, 1) := by decide +kernel
theorem dX10_told_2 : decode cX10_told 2 = .ok (.invokevirtual 129, 3) := by decide +kernel
theorem dX10_told_5 : decode cX10_told 5 = .ok (.astore_n 3, 1) := by decide +kernel
theorem dX10_told_6 : decode cX10_told 6 = .ok (.aload_n 3, 1) := by decide +kernel
theorem dX10_told_7 : decode cX10_told 7 = .ok (.ifnonnull 5, 3) := by decide +kernel
theorem dX10_told_10 : decode cX10_told 10 = .ok (.iconst (-1), 1) := by decide +kernel
theorem dX10_told_11 : decode cX10_told 11 = .ok (.ireturn, 1) := by decide +kernel
theorem dX10_told_12 : decode cX10_told 12 = .ok (.iload_n 2, 1) := by decide +kernel
theorem dX10_told_13 : decode cX10_told 13 = .ok (.tableswitch 88 0 7 #[47, 52, 58, 63, 68, 73, 78, 83], 47) := by decide +kernel
theorem dX10_told_60 : decode cX10_told 60 = .ok (.aload_n 3, 1) := by decide +kernel
theorem dX10_told_61 : decode cX10_told 61 = .ok (.getfield 146, 3) := by decide +kernel
theorem dX10_told_64 : decode cX10_told 64 = .ok (.ireturn, 1) := by decide +kernel
theorem dX10_told_65 : decode cX10_told 65 = .ok (.aload_n 3, 1) := by decide +kernel
theorem dX10_told_66 : decode cX10_told 66 = .ok (.getfield 149, 3) := by decide +kernel
theorem dX10_told_69 : decode cX10_told 69 = .ok (.arraylength, 1) := by decide +kernel
theorem dX10_told_70 : decode cX10_told 70 = .ok (.ireturn, 1) := by decide +kernel
theorem dX10_told_71 : decode cX10_told 71 = .ok (.aload_n 3, 1) := by decide +kernel
theorem dX10_told_72 : decode cX10_told 72 = .ok (.invokevirtual 152, 3) := by decide +kernel
theorem dX10_told_75 : decode cX10_told 75 = .ok (.ireturn, 1) := by decide +kernel
theorem dX10_told_76 : decode cX10_told 76 = .ok (.aload_n 3, 1) := by decide +kernel
theorem dX10_told_77 : decode cX10_told 77 = .ok (.getfield 137, 3) := by decide +kernel
theorem dX10_told_80 : decode cX10_told 80 = .ok (.ireturn, 1) := by decide +kernel
theorem dX10_told_81 : decode cX10_told 81 = .ok (.aload_n 3, 1) := by decide +kernel
theorem dX10_told_82 : decode cX10_told 82 = .ok (.getfield 134, 3) := by decide +kernel
theorem dX10_told_85 : decode cX10_told 85 = .ok (.ireturn, 1) := by decide +kernel
theorem dX10_told_86 : decode cX10_told 86 = .ok (.aload_n 3, 1) := by decide +kernel
theorem dX10_told_87 : decode cX10_told 87 = .ok (.getfield 156, 3) := by decide +kernel
theorem dX10_told_90 : decode cX10_told 90 = .ok (.ireturn, 1) := by decide +kernel
theorem dX10_told_91 : decode cX10_told 91 = .ok (.aload_n 3, 1) := by decide +kernel
theorem dX10_told_92 : decode cX10_told 92 = .ok (.getfield 159, 3) := by decide +kernel
theorem dX10_told_95 : decode cX10_told 95 = .ok (.ireturn, 1) := by decide +kernel
theorem dX10_told_96 : decode cX10_told 96 = .ok (.aload_n 3, 1) := by decide +kernel
theorem dX10_told_97 : decode cX10_told 97 = .ok (.getfield 162, 3) := by decide +kernel
theorem dX10_told_100 : decode cX10_told 100 = .ok (.ireturn, 1) := by decide +kernel
theorem dX10_told_101 : decode cX10_told 101 = .ok (.iconst (-1), 1) := by decide +kernel
theorem dX10_told_102 : decode cX10_told 102 = .ok (.ireturn, 1) := by decide +kernel
theorem dX10_mark_0 : decode cX10_mark 0 = .ok (.aload_n 0, 1) := by decide +kernel
theorem dX10_mark_1 : decode cX10_mark 1 = .ok (.iload_n 1, 1) := by decide +kernel
theorem dX10_mark_2 : decode cX10_mark 2 = .ok (.invokevirtual 129, 3) := by decide +kernel
theorem dX10_mark_5 : decode cX10_mark 5 = .ok (.astore_n 3, 1) := by decide +kernel
theorem dX10_mark_6 : decode cX10_mark 6 = .ok (.aload_n 3, 1) := by decide +kernel
theorem dX10_mark_7 : decode cX10_mark 7 = .ok (.ifnull 13, 3) := by decide +kernel
theorem dX10_mark_10 : decode cX10_mark 10 = .ok (.iload_n 2, 1) := by decide +kernel
theorem dX10_mark_11 : decode cX10_mark 11 = .ok (.iconst 1, 1) := by decide +kernel
theorem dX10_mark_12 : decode cX10_mark 12 = .ok (.if_icmp .lt 8, 3) := by decide +kernel
theorem dX10_mark_15 : decode cX10_mark 15 = .ok (.iload_n 2, 1) := by decide +kernel
theorem dX10_mark_16 : decode cX10_mark 16 = .ok (.iconst 3, 1) := by decide +kernel
theorem dX10_mark_17 : decode cX10_mark 17 = .ok (.if_icmp .le 5, 3) := by decide +kernel
theorem dX10_mark_20 : decode cX10_mark 20 = .ok (.iconst (-1), 1) := by decide +kernel
theorem dX10_mark_21 : decode cX10_mark 21 = .ok (.ireturn, 1) := by decide +kernel
theorem dX10_mark_22 : decode cX10_mark 22 = .ok (.iload_n 2, 1) := by decide +kernel
theorem dX10_mark_23 : decode cX10_mark 23 = .ok (.iconst 1, 1) := by decide +kernel
theorem dX10_mark_24 : decode cX10_mark 24 = .ok (.if_icmp .ne 15, 3) := by decide +kernel
theorem dX10_mark_27 : decode cX10_mark 27 = .ok (.aload_n 3, 1) := by decide +kernel
theorem dX10_mark_28 : decode cX10_mark 28 = .ok (.instanceof 112, 3) := by decide +kernel
theorem dX10_mark_31 : decode cX10_mark 31 = .ok (.ifCond .eq 8, 3) := by decide +kernel
theorem dX10_mark_34 : decode cX10_mark 34 = .ok (.aload_n 3, 1) := by decide +kernel
theorem dX10_mark_35 : decode cX10_mark 35 = .ok (.invokevirtual 165, 3) := by decide +kernel
theorem dX10_mark_38 : decode cX10_mark 38 = .ok (.ireturn, 1) := by decide +kernel
theorem dX10_mark_39 : decode cX10_mark 39 = .ok (.iload_n 2, 1) := by decide +kernel
theorem dX10_mark_40 : decode cX10_mark 40 = .ok (.iconst 2, 1) := by decide +kernel
theorem dX10_mark_41 : decode cX10_mark 41 = .ok (.if_icmp .ne 15, 3) := by decide +kernel
theorem dX10_mark_44 : decode cX10_mark 44 = .ok (.aload_n 3, 1) := by decide +kernel
theorem dX10_mark_45 : decode cX10_mark 45 = .ok (.instanceof 119, 3) := by decide +kernel
theorem dX10_mark_48 : decode cX10_mark 48 = .ok (.ifCond .eq 8, 3) := by decide +kernel
theorem dX10_mark_51 : decode cX10_mark 51 = .ok (.aload_n 3, 1) := by decide +kernel
theorem dX10_mark_52 : decode cX10_mark 52 = .ok (.invokevirtual 168, 3) := by decide +kernel
theorem dX10_mark_55 : decode cX10_mark 55 = .ok (.ireturn, 1) := by decide +kernel
theorem dX10_mark_56 : decode cX10_mark 56 = .ok (.iload_n 2, 1) := by decide +kernel
theorem dX10_mark_57 : decode cX10_mark 57 = .ok (.iconst 3, 1) := by decide +kernel
theorem dX10_mark_58 : decode cX10_mark 58 = .ok (.if_icmp .ne 22, 3) := by decide +kernel
theorem dX10_mark_61 : decode cX10_mark 61 = .ok (.aload_n 3, 1) := by decide +kernel
theorem dX10_mark_62 : decode cX10_mark 62 = .ok (.instanceof 124, 3) := by decide +kernel
theorem dX10_mark_65 : decode cX10_mark 65 = .ok (.ifCond .eq 15, 3) := by decide +kernel
theorem dX10_mark_68 : decode cX10_mark 68 = .ok (.aload_n 3, 1) := by decide +kernel
theorem dX10_mark_69 : decode cX10_mark 69 = .ok (.checkcast 124, 3) := by decide +kernel
theorem dX10_mark_72 : decode cX10_mark 72 = .ok (.astore 4, 2) := by decide +kernel
theorem dX10_mark_74 : decode cX10_mark 74 = .ok (.aload 4, 2) := by decide +kernel
theorem dX10_mark_76 : decode cX10_mark 76 = .ok (.getfield 171, 3) := by decide +kernel
theorem dX10_mark_79 : decode cX10_mark 79 = .ok (.ireturn, 1) := by decide +kernel
theorem dX10_mark_80 : decode cX10_mark 80 = .ok (.aload_n 0, 1) := by decide +kernel
theorem dX10_mark_81 : decode cX10_mark 81 = .ok (.iconst 3, 1) := by decide +kernel
theorem dX10_mark_82 : decode cX10_mark 82 = .ok (.invokevirtual 62, 3) := by decide +kernel
theorem dX10_mark_85 : decode cX10_mark 85 = .ok (.ireturn, 1) := by decide +kernel
theorem dX10_notch_0 : decode cX10_notch 0 = .ok (.aload_n 0, 1) := by decide +kernel
theorem dX10_notch_1 : decode cX10_notch 1 = .ok (.iload_n 1, 1) := by decide +kernel
theorem dX10_notch_2 : decode cX10_notch 2 = .ok (.invokevirtual 129, 3) := by decide +kernel
theorem dX10_notch_5 : decode cX10_notch 5 = .ok (.astore_n 3, 1) := by decide +kernel
theorem dX10_notch_6 : decode cX10_notch 6 = .ok (.aload_n 3, 1) := by decide +kernel
theorem dX10_notch_7 : decode cX10_notch 7 = .ok (.ifnonnull 5, 3) := by decide +kernel
theorem dX10_notch_10 : decode cX10_notch 10 = .ok (.iconst (-1), 1) := by decide +kernel
theorem dX10_notch_11 : decode cX10_notch 11 = .ok (.ireturn, 1) := by decide +kernel
theorem dX10_notch_12 : decode cX10_notch 12 = .ok (.aload_n 3, 1) := by decide +kernel
theorem dX10_notch_13 : decode cX10_notch 13 = .ok (.getfield 146, 3) := by decide +kernel
theorem dX10_notch_16 : decode cX10_notch 16 = .ok (.ifCond .ne 9, 3) := by decide +kernel
theorem dX10_notch_19 : decode cX10_notch 19 = .ok (.aload_n 0, 1) := by decide +kernel
theorem dX10_notch_20 : decode cX10_notch 20 = .ok (.iconst 3, 1) := by decide +kernel
theorem dX10_notch_21 : decode cX10_notch 21 = .ok (.invokevirtual 62, 3) := by decide +kernel
theorem dX10_notch_24 : decode cX10_notch 24 = .ok (.ireturn, 1) := by decide +kernel
theorem dX10_notch_25 : decode cX10_notch 25 = .ok (.aload_n 3, 1) := by decide +kernel
theorem dX10_notch_26 : decode cX10_notch 26 = .ok (.iload_n 2, 1) := by decide +kernel
theorem dX10_notch_27 : decode cX10_notch 27 = .ok (.invokevirtual 174, 3) := by decide +kernel
theorem dX10_notch_30 : decode cX10_notch 30 = .ok (.ifCond .ne 9, 3) := by decide +kernel
theorem dX10_notch_33 : decode cX10_notch 33 = .ok (.aload_n 0, 1) := by decide +kernel
theorem dX10_notch_34 : decode cX10_notch 34 = .ok (.iconst 2, 1) := by decide +kernel
theorem dX10_notch_35 : decode cX10_notch 35 = .ok (.invokevirtual 62, 3) := by decide +kernel
theorem dX10_notch_38 : decode cX10_notch 38 = .ok (.ireturn, 1) := by decide +kernel
theorem dX10_notch_39 : decode cX10_notch 39 = .ok (.aload_n 3, 1) := by decide +kernel
theorem dX10_notch_40 : decode cX10_notch 40 = .ok (.getfield 149, 3) := by decide +kernel
theorem dX10_notch_43 : decode cX10_notch 43 = .ok (.iload_n 2, 1) := by decide +kernel
theorem dX10_notch_44 : decode cX10_notch 44 = .ok (.iaload, 1) := by decide +kernel
theorem dX10_notch_45 : decode cX10_notch 45 = .ok (.ireturn, 1) := by decide +kernel
theorem dX10_cut_0 : decode cX10_cut 0 = .ok (.aload_n 0, 1) := by decide +kernel
theorem dX10_cut_1 : decode cX10_cut 1 = .ok (.iload_n 1, 1) := by decide +kernel
theorem dX10_cut_2 : decode cX10_cut 2 = .ok (.invokevirtual 129, 3) := by decide +kernel
theorem dX10_cut_5 : decode cX10_cut 5 = .ok (.astore 4, 2) := by decide +kernel
theorem dX10_cut_7 : decode cX10_cut 7 = .ok (.aload 4, 2) := by decide +kernel
theorem dX10_cut_9 : decode cX10_cut 9 = .ok (.ifnull 14, 3) := by decide +kernel
theorem dX10_cut_12 : decode cX10_cut 12 = .ok (.iload_n 3, 1) := by decide +kernel
theorem dX10_cut_13 : decode cX10_cut 13 = .ok (.iconst 1, 1) := by decide +kernel
theorem dX10_cut_14 : decode cX10_cut 14 = .ok (.if_icmp .lt 9, 3) := by decide +kernel
theorem dX10_cut_17 : decode cX10_cut 17 = .ok (.iload_n 3, 1) := by decide +kernel
theorem dX10_cut_18 : decode cX10_cut 18 = .ok (.bipush 24, 2) := by decide +kernel
theorem dX10_cut_20 : decode cX10_cut 20 = .ok (.if_icmp .le 5, 3) := by decide +kernel
theorem dX10_cut_23 : decode cX10_cut 23 = .ok (.iconst (-1), 1) := by decide +kernel
theorem dX10_cut_24 : decode cX10_cut 24 = .ok (.ireturn, 1) := by decide +kernel
theorem dX10_cut_25 : decode cX10_cut 25 = .ok (.aload 4, 2) := by decide +kernel
theorem dX10_cut_27 : decode cX10_cut 27 = .ok (.getfield 146, 3) := by decide +kernel
theorem dX10_cut_30 : decode cX10_cut 30 = .ok (.ifCond .ne 9, 3) := by decide +kernel
theorem dX10_cut_33 : decode cX10_cut 33 = .ok (.aload_n 0, 1) := by decide +kernel
theorem dX10_cut_34 : decode cX10_cut 34 = .ok (.iconst 3, 1) := by decide +kernel
theorem dX10_cut_35 : decode cX10_cut 35 = .ok (.invokevirtual 62, 3) := by decide +kernel
theorem dX10_cut_38 : decode cX10_cut 38 = .ok (.ireturn, 1) := by decide +kernel
theorem dX10_cut_39 : decode cX10_cut 39 = .ok (.aload 4, 2) := by decide +kernel
theorem dX10_cut_41 : decode cX10_cut 41 = .ok (.iload_n 2, 1) := by decide +kernel
theorem dX10_cut_42 : decode cX10_cut 42 = .ok (.invokevirtual 174, 3) := by decide +kernel
theorem dX10_cut_45 : decode cX10_cut 45 = .ok (.ifCond .ne 9, 3) := by decide +kernel
theorem dX10_cut_48 : decode cX10_cut 48 = .ok (.aload_n 0, 1) := by decide +kernel
theorem dX10_cut_49 : decode cX10_cut 49 = .ok (.iconst 2, 1) := by decide +kernel
theorem dX10_cut_50 : decode cX10_cut 50 = .ok (.invokevirtual 62, 3) := by decide +kernel
theorem dX10_cut_53 : decode cX10_cut 53 = .ok (.ireturn, 1) := by decide +kernel
theorem dX10_cut_54 : decode cX10_cut 54 = .ok (.aload 4, 2) := by decide +kernel
theorem dX10_cut_56 : decode cX10_cut 56 = .ok (.getfield 149, 3) := by decide +kernel
theorem dX10_cut_59 : decode cX10_cut 59 = .ok (.iload_n 2, 1) := by decide +kernel
theorem dX10_cut_60 : decode cX10_cut 60 = .ok (.iaload, 1) := by decide +kernel
theorem dX10_cut_61 : decode cX10_cut 61 = .ok (.istore 5, 2) := by decide +kernel
theorem dX10_cut_63 : decode cX10_cut 63 = .ok (.aload 4, 2) := by decide +kernel
theorem dX10_cut_65 : decode cX10_cut 65 = .ok (.getfield 149, 3) := by decide +kernel
theorem dX10_cut_68 : decode cX10_cut 68 = .ok (.iload_n 2, 1) := by decide +kernel
theorem dX10_cut_69 : decode cX10_cut 69 = .ok (.iload_n 3, 1) := by decide +kernel
theorem dX10_cut_70 : decode cX10_cut 70 = .ok (.iastore, 1) := by decide +kernel
theorem dX10_cut_71 : decode cX10_cut 71 = .ok (.iload 5, 2) := by decide +kernel
theorem dX10_cut_73 : decode cX10_cut 73 = .ok (.ireturn, 1) := by decide +kernel
theorem dX10_put_0 : decode cX10_put 0 = .ok (.aload_n 0, 1) := by decide +kernel
theorem dX10_put_1 : decode cX10_put 1 = .ok (.iload_n 1, 1) := by decide +kernel
theorem dX10_put_2 : decode cX10_put 2 = .ok (.invokevirtual 129, 3) := by decide +kernel
theorem dX10_put_5 : decode cX10_put 5 = .ok (.astore_n 3, 1) := by decide +kernel
theorem dX10_put_6 : decode cX10_put 6 = .ok (.aload_n 3, 1) := by decide +kernel
theorem dX10_put_7 : decode cX10_put 7 = .ok (.ifnonnull 5, 3) := by decide +kernel
theorem dX10_put_10 : decode cX10_put 10 = .ok (.iconst (-1), 1) := by decide +kernel
theorem dX10_put_11 : decode cX10_put 11 = .ok (.ireturn, 1) := by decide +kernel
theorem dX10_put_12 : decode cX10_put 12 = .ok (.aload_n 3, 1) := by decide +kernel
theorem dX10_put_13 : decode cX10_put 13 = .ok (.instanceof 112, 3) := by decide +kernel
theorem dX10_put_16 : decode cX10_put 16 = .ok (.ifCond .eq 12, 3) := by decide +kernel
theorem dX10_put_19 : decode cX10_put 19 = .ok (.aload_n 3, 1) := by decide +kernel
theorem dX10_put_20 : decode cX10_put 20 = .ok (.checkcast 112, 3) := by decide +kernel
theorem dX10_put_23 : decode cX10_put 23 = .ok (.astore 4, 2) := by decide +kernel
theorem dX10_put_25 : decode cX10_put 25 = .ok (.goto 9, 3) := by decide +kernel
theorem dX10_put_28 : decode cX10_put 28 = .ok (.aload_n 0, 1) := by decide +kernel
theorem dX10_put_29 : decode cX10_put 29 = .ok (.iconst 3, 1) := by decide +kernel
theorem dX10_put_30 : decode cX10_put 30 = .ok (.invokevirtual 62, 3) := by decide +kernel
theorem dX10_put_33 : decode cX10_put 33 = .ok (.ireturn, 1) := by decide +kernel
theorem dX10_put_34 : decode cX10_put 34 = .ok (.aload 4, 2) := by decide +kernel
theorem dX10_put_36 : decode cX10_put 36 = .ok (.iload_n 2, 1) := by decide +kernel
theorem dX10_put_37 : decode cX10_put 37 = .ok (.invokevirtual 178, 3) := by decide +kernel
theorem dX10_put_40 : decode cX10_put 40 = .ok (.ifCond .ne 9, 3) := by decide +kernel
theorem dX10_put_43 : decode cX10_put 43 = .ok (.aload_n 0, 1) := by decide +kernel
theorem dX10_put_44 : decode cX10_put 44 = .ok (.iconst 2, 1) := by decide +kernel
theorem dX10_put_45 : decode cX10_put 45 = .ok (.invokevirtual 62, 3) := by decide +kernel
theorem dX10_put_48 : decode cX10_put 48 = .ok (.ireturn, 1) := by decide +kernel
theorem dX10_put_49 : decode cX10_put 49 = .ok (.aload 4, 2) := by decide +kernel
theorem dX10_put_51 : decode cX10_put 51 = .ok (.getfield 179, 3) := by decide +kernel
theorem dX10_put_54 : decode cX10_put 54 = .ok (.istore 5, 2) := by decide +kernel
theorem dX10_put_56 : decode cX10_put 56 = .ok (.aload 4, 2) := by decide +kernel
theorem dX10_put_58 : decode cX10_put 58 = .ok (.iload_n 2, 1) := by decide +kernel
theorem dX10_put_59 : decode cX10_put 59 = .ok (.putfield 179, 3) := by decide +kernel
theorem dX10_put_62 : decode cX10_put 62 = .ok (.iload 5, 2) := by decide +kernel
theorem dX10_put_64 : decode cX10_put 64 = .ok (.ireturn, 1) := by decide +kernel
theorem dX10_mean_0 : decode cX10_mean 0 = .ok (.aload_n 0, 1) := by decide +kernel
theorem dX10_mean_1 : decode cX10_mean 1 = .ok (.iload_n 1, 1) := by decide +kernel
theorem dX10_mean_2 : decode cX10_mean 2 = .ok (.invokevirtual 129, 3) := by decide +kernel
theorem dX10_mean_5 : decode cX10_mean 5 = .ok (.astore_n 2, 1) := by decide +kernel
theorem dX10_mean_6 : decode cX10_mean 6 = .ok (.aload_n 2, 1) := by decide +kernel
theorem dX10_mean_7 : decode cX10_mean 7 = .ok (.ifnonnull 5, 3) := by decide +kernel
theorem dX10_mean_10 : decode cX10_mean 10 = .ok (.iconst (-1), 1) := by decide +kernel
theorem dX10_mean_11 : decode cX10_mean 11 = .ok (.ireturn, 1) := by decide +kernel
theorem dX10_mean_12 : decode cX10_mean 12 = .ok (.aload_n 2, 1) := by decide +kernel
theorem dX10_mean_13 : decode cX10_mean 13 = .ok (.getfield 149, 3) := by decide +kernel
theorem dX10_mean_16 : decode cX10_mean 16 = .ok (.arraylength, 1) := by decide +kernel
theorem dX10_mean_17 : decode cX10_mean 17 = .ok (.istore_n 3, 1) := by decide +kernel
theorem dX10_mean_18 : decode cX10_mean 18 = .ok (.iload_n 3, 1) := by decide +kernel
theorem dX10_mean_19 : decode cX10_mean 19 = .ok (.ifCond .ne 9, 3) := by decide +kernel
theorem dX10_mean_22 : decode cX10_mean 22 = .ok (.aload_n 0, 1) := by decide +kernel
theorem dX10_mean_23 : decode cX10_mean 23 = .ok (.iconst 4, 1) := by decide +kernel
theorem dX10_mean_24 : decode cX10_mean 24 = .ok (.invokevirtual 62, 3) := by decide +kernel
theorem dX10_mean_27 : decode cX10_mean 27 = .ok (.ireturn, 1) := by decide +kernel
theorem dX10_mean_28 : decode cX10_mean 28 = .ok (.aload_n 2, 1) := by decide +kernel
theorem dX10_mean_29 : decode cX10_mean 29 = .ok (.invokevirtual 165, 3) := by decide +kernel
theorem dX10_mean_32 : decode cX10_mean 32 = .ok (.iload_n 3, 1) := by decide +kernel
theorem dX10_mean_33 : decode cX10_mean 33 = .ok (.idiv, 1) := by decide +kernel
theorem dX10_mean_34 : decode cX10_mean 34 = .ok (.ireturn, 1) := by decide +kernel
theorem dX10_tower_0 : decode cX10_tower 0 = .ok (.aload_n 0, 1) := by decide +kernel
theorem dX10_tower_1 : decode cX10_tower 1 = .ok (.iload_n 1, 1) := by decide +kernel
theorem dX10_tower_2 : decode cX10_tower 2 = .ok (.invokevirtual 181, 3) := by decide +kernel
theorem dX10_tower_5 : decode cX10_tower 5 = .ok (.astore_n 2, 1) := by decide +kernel
theorem dX10_tower_6 : decode cX10_tower 6 = .ok (.aload_n 2, 1) := by decide +kernel
theorem dX10_tower_7 : decode cX10_tower 7 = .ok (.ifnonnull 5, 3) := by decide +kernel
theorem dX10_tower_10 : decode cX10_tower 10 = .ok (.iconst (-1), 1) := by decide +kernel
theorem dX10_tower_11 : decode cX10_tower 11 = .ok (.ireturn, 1) := by decide +kernel
theorem dX10_tower_12 : decode cX10_tower 12 = .ok (.aload_n 2, 1) := by decide +kernel
theorem dX10_tower_13 : decode cX10_tower 13 = .ok (.getfield 185, 3) := by decide +kernel
theorem dX10_tower_16 : decode cX10_tower 16 = .ok (.ifCond .eq 7, 3) := by decide +kernel
theorem dX10_tower_19 : decode cX10_tower 19 = .ok (.iconst 1, 1) := by decide +kernel
theorem dX10_tower_20 : decode cX10_tower 20 = .ok (.goto 4, 3) := by decide +kernel
theorem dX10_tower_23 : decode cX10_tower 23 = .ok (.iconst 0, 1) := by decide +kernel
theorem dX10_tower_24 : decode cX10_tower 24 = .ok (.istore_n 3, 1) := by decide +kernel
theorem dX10_tower_25 : decode cX10_tower 25 = .ok (.aload_n 2, 1) := by decide +kernel
theorem dX10_tower_26 : decode cX10_tower 26 = .ok (.invokevirtual 189, 3) := by decide +kernel
theorem dX10_tower_29 : decode cX10_tower 29 = .ok (.iload_n 3, 1) := by decide +kernel
theorem dX10_tower_30 : decode cX10_tower 30 = .ok (.ireturn, 1) := by decide +kernel
theorem dX10_hang_0 : decode cX10_hang 0 = .ok (.aload_n 0, 1) := by decide +kernel
theorem dX10_hang_1 : decode cX10_hang 1 = .ok (.iload_n 1, 1) := by decide +kernel
theorem dX10_hang_2 : decode cX10_hang 2 = .ok (.invokevirtual 181, 3) := by decide +kernel
theorem dX10_hang_5 : decode cX10_hang 5 = .ok (.astore 4, 2) := by decide +kernel
theorem dX10_hang_7 : decode cX10_hang 7 = .ok (.aload_n 0, 1) := by decide +kernel
theorem dX10_hang_8 : decode cX10_hang 8 = .ok (.iload_n 2, 1) := by decide +kernel
theorem dX10_hang_9 : decode cX10_hang 9 = .ok (.invokevirtual 129, 3) := by decide +kernel
theorem dX10_hang_12 : decode cX10_hang 12 = .ok (.astore 5, 2) := by decide +kernel
theorem dX10_hang_14 : decode cX10_hang 14 = .ok (.aload 4, 2) := by decide +kernel
theorem dX10_hang_16 : decode cX10_hang 16 = .ok (.ifnull 8, 3) := by decide +kernel
theorem dX10_hang_19 : decode cX10_hang 19 = .ok (.aload 5, 2) := by decide +kernel
theorem dX10_hang_21 : decode cX10_hang 21 = .ok (.ifnonnull 5, 3) := by decide +kernel
theorem dX10_hang_24 : decode cX10_hang 24 = .ok (.iconst (-1), 1) := by decide +kernel
theorem dX10_hang_25 : decode cX10_hang 25 = .ok (.ireturn, 1) := by decide +kernel
theorem dX10_hang_26 : decode cX10_hang 26 = .ok (.aload 4, 2) := by decide +kernel
theorem dX10_hang_28 : decode cX10_hang 28 = .ok (.getfield 185, 3) := by decide +kernel
theorem dX10_hang_31 : decode cX10_hang 31 = .ok (.ifCond .ne 9, 3) := by decide +kernel
theorem dX10_hang_34 : decode cX10_hang 34 = .ok (.aload_n 0, 1) := by decide +kernel
theorem dX10_hang_35 : decode cX10_hang 35 = .ok (.iconst 1, 1) := by decide +kernel
theorem dX10_hang_36 : decode cX10_hang 36 = .ok (.invokevirtual 62, 3) := by decide +kernel
theorem dX10_hang_39 : decode cX10_hang 39 = .ok (.ireturn, 1) := by decide +kernel
theorem dX10_hang_40 : decode cX10_hang 40 = .ok (.aload 5, 2) := by decide +kernel
theorem dX10_hang_42 : decode cX10_hang 42 = .ok (.getfield 159, 3) := by decide +kernel
theorem dX10_hang_45 : decode cX10_hang 45 = .ok (.bipush (-9), 2) := by decide +kernel
theorem dX10_hang_47 : decode cX10_hang 47 = .ok (.if_icmp .eq 6, 3) := by decide +kernel
theorem dX10_hang_50 : decode cX10_hang 50 = .ok (.bipush (-4), 2) := by decide +kernel
theorem dX10_hang_52 : decode cX10_hang 52 = .ok (.ireturn, 1) := by decide +kernel
theorem dX10_hang_53 : decode cX10_hang 53 = .ok (.aload 4, 2) := by decide +kernel
theorem dX10_hang_55 : decode cX10_hang 55 = .ok (.iload_n 3, 1) := by decide +kernel
theorem dX10_hang_56 : decode cX10_hang 56 = .ok (.invokevirtual 191, 3) := by decide +kernel
theorem dX10_hang_59 : decode cX10_hang 59 = .ok (.istore 6, 2) := by decide +kernel
theorem dX10_hang_61 : decode cX10_hang 61 = .ok (.aload 5, 2) := by decide +kernel
theorem dX10_hang_63 : decode cX10_hang 63 = .ok (.iload_n 1, 1) := by decide +kernel
theorem dX10_hang_64 : decode cX10_hang 64 = .ok (.invokevirtual 195, 3) := by decide +kernel
theorem dX10_hang_67 : decode cX10_hang 67 = .ok (.aload 4, 2) := by decide +kernel
theorem dX10_hang_69 : decode cX10_hang 69 = .ok (.aload 5, 2) := by decide +kernel
theorem dX10_hang_71 : decode cX10_hang 71 = .ok (.iload_n 3, 1) := by decide +kernel
theorem dX10_hang_72 : decode cX10_hang 72 = .ok (.invokevirtual 198, 3) := by decide +kernel
theorem dX10_hang_75 : decode cX10_hang 75 = .ok (.iload 6, 2) := by decide +kernel
theorem dX10_hang_77 : decode cX10_hang 77 = .ok (.ireturn, 1) := by decide +kernel
theorem dX10_unhang_0 : decode cX10_unhang 0 = .ok (.aload_n 0, 1) := by decide +kernel
theorem dX10_unhang_1 : decode cX10_unhang 1 = .ok (.iload_n 1, 1) := by decide +kernel
theorem dX10_unhang_2 : decode cX10_unhang 2 = .ok (.invokevirtual 181, 3) := by decide +kernel
theorem dX10_unhang_5 : decode cX10_unhang 5 = .ok (.astore_n 3, 1) := by decide +kernel
theorem dX10_unhang_6 : decode cX10_unhang 6 = .ok (.aload_n 3, 1) := by decide +kernel
theorem dX10_unhang_7 : decode cX10_unhang 7 = .ok (.ifnonnull 5, 3) := by decide +kernel
theorem dX10_unhang_10 : decode cX10_unhang 10 = .ok (.iconst (-1), 1) := by decide +kernel
theorem dX10_unhang_11 : decode cX10_unhang 11 = .ok (.ireturn, 1) := by decide +kernel
theorem dX10_unhang_12 : decode cX10_unhang 12 = .ok (.aload_n 3, 1) := by decide +kernel
theorem dX10_unhang_13 : decode cX10_unhang 13 = .ok (.getfield 185, 3) := by decide +kernel
theorem dX10_unhang_16 : decode cX10_unhang 16 = .ok (.ifCond .eq 11, 3) := by decide +kernel
theorem dX10_unhang_19 : decode cX10_unhang 19 = .ok (.aload_n 3, 1) := by decide +kernel
theorem dX10_unhang_20 : decode cX10_unhang 20 = .ok (.iload_n 2, 1) := by decide +kernel
theorem dX10_unhang_21 : decode cX10_unhang 21 = .ok (.invokevirtual 202, 3) := by decide +kernel
theorem dX10_unhang_24 : decode cX10_unhang 24 = .ok (.ifnonnull 9, 3) := by decide +kernel
theorem dX10_unhang_27 : decode cX10_unhang 27 = .ok (.aload_n 0, 1) := by decide +kernel
theorem dX10_unhang_28 : decode cX10_unhang 28 = .ok (.iconst 1, 1) := by decide +kernel
theorem dX10_unhang_29 : decode cX10_unhang 29 = .ok (.invokevirtual 62, 3) := by decide +kernel
theorem dX10_unhang_32 : decode cX10_unhang 32 = .ok (.ireturn, 1) := by decide +kernel
theorem dX10_unhang_33 : decode cX10_unhang 33 = .ok (.aload_n 3, 1) := by decide +kernel
theorem dX10_unhang_34 : decode cX10_unhang 34 = .ok (.iload_n 2, 1) := by decide +kernel
theorem dX10_unhang_35 : decode cX10_unhang 35 = .ok (.invokevirtual 191, 3) := by decide +kernel
theorem dX10_unhang_38 : decode cX10_unhang 38 = .ok (.ireturn, 1) := by decide +kernel
theorem dX10_hands_0 : decode cX10_hands 0 = .ok (.aload_n 0, 1) := by decide +kernel
theorem dX10_hands_1 : decode cX10_hands 1 = .ok (.iload_n 1, 1) := by decide +kernel
theorem dX10_hands_2 : decode cX10_hands 2 = .ok (.invokevirtual 181, 3) := by decide +kernel
theorem dX10_hands_5 : decode cX10_hands 5 = .ok (.astore_n 3, 1) := by decide +kernel
theorem dX10_hands_6 : decode cX10_hands 6 = .ok (.aload_n 3, 1) := by decide +kernel
theorem dX10_hands_7 : decode cX10_hands 7 = .ok (.ifnull 14, 3) := by decide +kernel
theorem dX10_hands_10 : decode cX10_hands 10 = .ok (.iload_n 2, 1) := by decide +kernel
theorem dX10_hands_11 : decode cX10_hands 11 = .ok (.ifCond .lt 10, 3) := by decide +kernel
theorem dX10_hands_14 : decode cX10_hands 14 = .ok (.iload_n 2, 1) := by decide +kernel
theorem dX10_hands_15 : decode cX10_hands 15 = .ok (.sipush 1440, 3) := by decide +kernel
theorem dX10_hands_18 : decode cX10_hands 18 = .ok (.if_icmp .lt 5, 3) := by decide +kernel
theorem dX10_hands_21 : decode cX10_hands 21 = .ok (.iconst (-1), 1) := by decide +kernel
theorem dX10_hands_22 : decode cX10_hands 22 = .ok (.ireturn, 1) := by decide +kernel
theorem dX10_hands_23 : decode cX10_hands 23 = .ok (.aload_n 3, 1) := by decide +kernel
theorem dX10_hands_24 : decode cX10_hands 24 = .ok (.getfield 185, 3) := by decide +kernel
theorem dX10_hands_27 : decode cX10_hands 27 = .ok (.ifCond .ne 9, 3) := by decide +kernel
theorem dX10_hands_30 : decode cX10_hands 30 = .ok (.aload_n 0, 1) := by decide +kernel
theorem dX10_hands_31 : decode cX10_hands 31 = .ok (.iconst 1, 1) := by decide +kernel
theorem dX10_hands_32 : decode cX10_hands 32 = .ok (.invokevirtual 62, 3) := by decide +kernel
theorem dX10_hands_35 : decode cX10_hands 35 = .ok (.ireturn, 1) := by decide +kernel
theorem dX10_hands_36 : decode cX10_hands 36 = .ok (.aload_n 3, 1) := by decide +kernel
theorem dX10_hands_37 : decode cX10_hands 37 = .ok (.getfield 206, 3) := by decide +kernel
theorem dX10_hands_40 : decode cX10_hands 40 = .ok (.istore 4, 2) := by decide +kernel
theorem dX10_hands_42 : decode cX10_hands 42 = .ok (.aload_n 3, 1) := by decide +kernel
theorem dX10_hands_43 : decode cX10_hands 43 = .ok (.iload_n 2, 1) := by decide +kernel
theorem dX10_hands_44 : decode cX10_hands 44 = .ok (.putfield 206, 3) := by decide +kernel
theorem dX10_hands_47 : decode cX10_hands 47 = .ok (.iload 4, 2) := by decide +kernel
theorem dX10_hands_49 : decode cX10_hands 49 = .ok (.ireturn, 1) := by decide +kernel
theorem dX10_forward_0 : decode cX10_forward 0 = .ok (.aload_n 0, 1) := by decide +kernel
theorem dX10_forward_1 : decode cX10_forward 1 = .ok (.iload_n 1, 1) := by decide +kernel
theorem dX10_forward_2 : decode cX10_forward 2 = .ok (.invokevirtual 181, 3) := by decide +kernel
theorem dX10_forward_5 : decode cX10_forward 5 = .ok (.astore_n 3, 1) := by decide +kernel
theorem dX10_forward_6 : decode cX10_forward 6 = .ok (.aload_n 3, 1) := by decide +kernel
theorem dX10_forward_7 : decode cX10_forward 7 = .ok (.ifnull 14, 3) := by decide +kernel
theorem dX10_forward_10 : decode cX10_forward 10 = .ok (.iload_n 2, 1) := by decide +kernel
theorem dX10_forward_11 : decode cX10_forward 11 = .ok (.ifCond .lt 10, 3) := by decide +kernel
theorem dX10_forward_14 : decode cX10_forward 14 = .ok (.iload_n 2, 1) := by decide +kernel
theorem dX10_forward_15 : decode cX10_forward 15 = .ok (.sipush 1500, 3) := by decide +kernel
theorem dX10_forward_18 : decode cX10_forward 18 = .ok (.if_icmp .le 5, 3) := by decide +kernel
theorem dX10_forward_21 : decode cX10_forward 21 = .ok (.iconst (-1), 1) := by decide +kernel
theorem dX10_forward_22 : decode cX10_forward 22 = .ok (.ireturn, 1) := by decide +kernel
theorem dX10_forward_23 : decode cX10_forward 23 = .ok (.aload_n 3, 1) := by decide +kernel
theorem dX10_forward_24 : decode cX10_forward 24 = .ok (.getfield 185, 3) := by decide +kernel
theorem dX10_forward_27 : decode cX10_forward 27 = .ok (.ifCond .ne 9, 3) := by decide +kernel
theorem dX10_forward_30 : decode cX10_forward 30 = .ok (.aload_n 0, 1) := by decide +kernel
theorem dX10_forward_31 : decode cX10_forward 31 = .ok (.iconst 1, 1) := by decide +kernel
theorem dX10_forward_32 : decode cX10_forward 32 = .ok (.invokevirtual 62, 3) := by decide +kernel
theorem dX10_forward_35 : decode cX10_forward 35 = .ok (.ireturn, 1) := by decide +kernel
theorem dX10_forward_36 : decode cX10_forward 36 = .ok (.iconst 0, 1) := by decide +kernel
theorem dX10_forward_37 : decode cX10_forward 37 = .ok (.istore 4, 2) := by decide +kernel
theorem dX10_forward_39 : decode cX10_forward 39 = .ok (.iload 4, 2) := by decide +kernel
theorem dX10_forward_41 : decode cX10_forward 41 = .ok (.iload_n 2, 1) := by decide +kernel
theorem dX10_forward_42 : decode cX10_forward 42 = .ok (.if_icmp .ge 13, 3) := by decide +kernel
theorem dX10_forward_45 : decode cX10_forward 45 = .ok (.aload_n 3, 1) := by decide +kernel
theorem dX10_forward_46 : decode cX10_forward 46 = .ok (.invokevirtual 209, 3) := by decide +kernel
theorem dX10_forward_49 : decode cX10_forward 49 = .ok (.iinc 4 1, 3) := by decide +kernel
theorem dX10_forward_52 : decode cX10_forward 52 = .ok (.goto (-13), 3) := by decide +kernel
theorem dX10_forward_55 : decode cX10_forward 55 = .ok (.aload_n 3, 1) := by decide +kernel
theorem dX10_forward_56 : decode cX10_forward 56 = .ok (.getfield 206, 3) := by decide +kernel
theorem dX10_forward_59 : decode cX10_forward 59 = .ok (.ireturn, 1) := by decide +kernel
theorem dX10_back_0 : decode cX10_back 0 = .ok (.aload_n 0, 1) := by decide +kernel
theorem dX10_back_1 : decode cX10_back 1 = .ok (.iload_n 1, 1) := by decide +kernel
theorem dX10_back_2 : decode cX10_back 2 = .ok (.invokevirtual 181, 3) := by decide +kernel
theorem dX10_back_5 : decode cX10_back 5 = .ok (.astore_n 3, 1) := by decide +kernel
theorem dX10_back_6 : decode cX10_back 6 = .ok (.aload_n 3, 1) := by decide +kernel
theorem dX10_back_7 : decode cX10_back 7 = .ok (.ifnull 14, 3) := by decide +kernel
theorem dX10_back_10 : decode cX10_back 10 = .ok (.iload_n 2, 1) := by decide +kernel
theorem dX10_back_11 : decode cX10_back 11 = .ok (.ifCond .lt 10, 3) := by decide +kernel
theorem dX10_back_14 : decode cX10_back 14 = .ok (.iload_n 2, 1) := by decide +kernel
theorem dX10_back_15 : decode cX10_back 15 = .ok (.sipush 1500, 3) := by decide +kernel
theorem dX10_back_18 : decode cX10_back 18 = .ok (.if_icmp .le 5, 3) := by decide +kernel
theorem dX10_back_21 : decode cX10_back 21 = .ok (.iconst (-1), 1) := by decide +kernel
theorem dX10_back_22 : decode cX10_back 22 = .ok (.ireturn, 1) := by decide +kernel
theorem dX10_back_23 : decode cX10_back 23 = .ok (.aload_n 3, 1) := by decide +kernel
theorem dX10_back_24 : decode cX10_back 24 = .ok (.getfield 185, 3) := by decide +kernel
theorem dX10_back_27 : decode cX10_back 27 = .ok (.ifCond .ne 9, 3) := by decide +kernel
theorem dX10_back_30 : decode cX10_back 30 = .ok (.aload_n 0, 1) := by decide +kernel
theorem dX10_back_31 : decode cX10_back 31 = .ok (.iconst 1, 1) := by decide +kernel
theorem dX10_back_32 : decode cX10_back 32 = .ok (.invokevirtual 62, 3) := by decide +kernel
theorem dX10_back_35 : decode cX10_back 35 = .ok (.ireturn, 1) := by decide +kernel
theorem dX10_back_36 : decode cX10_back 36 = .ok (.aload_n 3, 1) := by decide +kernel
theorem dX10_back_37 : decode cX10_back 37 = .ok (.aload_n 3, 1) := by decide +kernel
theorem dX10_back_38 : decode cX10_back 38 = .ok (.getfield 206, 3) := by decide +kernel
theorem dX10_back_41 : decode cX10_back 41 = .ok (.iload_n 2, 1) := by decide +kernel
theorem dX10_back_42 : decode cX10_back 42 = .ok (.isub, 1) := by decide +kernel
theorem dX10_back_43 : decode cX10_back 43 = .ok (.sipush 1440, 3) := by decide +kernel
theorem dX10_back_46 : decode cX10_back 46 = .ok (.invokestatic 212, 3) := by decide +kernel
theorem dX10_back_49 : decode cX10_back 49 = .ok (.putfield 206, 3) := by decide +kernel
theorem dX10_back_52 : decode cX10_back 52 = .ok (.aload_n 3, 1) := by decide +kernel
theorem dX10_back_53 : decode cX10_back 53 = .ok (.getfield 206, 3) := by decide +kernel
theorem dX10_back_56 : decode cX10_back 56 = .ok (.ireturn, 1) := by decide +kernel
theorem dX10_rate_0 : decode cX10_rate 0 = .ok (.aload_n 0, 1) := by decide +kernel
theorem dX10_rate_1 : decode cX10_rate 1 = .ok (.iload_n 1, 1) := by decide +kernel
theorem dX10_rate_2 : decode cX10_rate 2 = .ok (.invokevirtual 181, 3) := by decide +kernel
theorem dX10_rate_5 : decode cX10_rate 5 = .ok (.astore_n 3, 1) := by decide +kernel
theorem dX10_rate_6 : decode cX10_rate 6 = .ok (.aload_n 3, 1) := by decide +kernel
theorem dX10_rate_7 : decode cX10_rate 7 = .ok (.ifnull 17, 3) := by decide +kernel
theorem dX10_rate_10 : decode cX10_rate 10 = .ok (.iload_n 2, 1) := by decide +kernel
theorem dX10_rate_11 : decode cX10_rate 11 = .ok (.sipush (-3600), 3) := by decide +kernel
theorem dX10_rate_14 : decode cX10_rate 14 = .ok (.if_icmp .lt 10, 3) := by decide +kernel
theorem dX10_rate_17 : decode cX10_rate 17 = .ok (.iload_n 2, 1) := by decide +kernel
theorem dX10_rate_18 : decode cX10_rate 18 = .ok (.sipush 3600, 3) := by decide +kernel
theorem dX10_rate_21 : decode cX10_rate 21 = .ok (.if_icmp .le 5, 3) := by decide +kernel
theorem dX10_rate_24 : decode cX10_rate 24 = .ok (.iconst (-1), 1) := by decide +kernel
theorem dX10_rate_25 : decode cX10_rate 25 = .ok (.ireturn, 1) := by decide +kernel
theorem dX10_rate_26 : decode cX10_rate 26 = .ok (.aload_n 3, 1) := by decide +kernel
theorem dX10_rate_27 : decode cX10_rate 27 = .ok (.getfield 185, 3) := by decide +kernel
theorem dX10_rate_30 : decode cX10_rate 30 = .ok (.ifCond .ne 9, 3) := by decide +kernel
theorem dX10_rate_33 : decode cX10_rate 33 = .ok (.aload_n 0, 1) := by decide +kernel
theorem dX10_rate_34 : decode cX10_rate 34 = .ok (.iconst 1, 1) := by decide +kernel
theorem dX10_rate_35 : decode cX10_rate 35 = .ok (.invokevirtual 62, 3) := by decide +kernel
theorem dX10_rate_38 : decode cX10_rate 38 = .ok (.ireturn, 1) := by decide +kernel
theorem dX10_rate_39 : decode cX10_rate 39 = .ok (.aload_n 3, 1) := by decide +kernel
theorem dX10_rate_40 : decode cX10_rate 40 = .ok (.getfield 217, 3) := by decide +kernel
theorem dX10_rate_43 : decode cX10_rate 43 = .ok (.istore 4, 2) := by decide +kernel
theorem dX10_rate_45 : decode cX10_rate 45 = .ok (.aload_n 3, 1) := by decide +kernel
theorem dX10_rate_46 : decode cX10_rate 46 = .ok (.iload_n 2, 1) := by decide +kernel
theorem dX10_rate_47 : decode cX10_rate 47 = .ok (.putfield 217, 3) := by decide +kernel
theorem dX10_rate_50 : decode cX10_rate 50 = .ok (.iload 4, 2) := by decide +kernel
theorem dX10_rate_52 : decode cX10_rate 52 = .ok (.ireturn, 1) := by decide +kernel
theorem dX10_go_0 : decode cX10_go 0 = .ok (.aload_n 0, 1) := by decide +kernel
theorem dX10_go_1 : decode cX10_go 1 = .ok (.iload_n 1, 1) := by decide +kernel
theorem dX10_go_2 : decode cX10_go 2 = .ok (.invokevirtual 181, 3) := by decide +kernel
theorem dX10_go_5 : decode cX10_go 5 = .ok (.astore_n 3, 1) := by decide +kernel
theorem dX10_go_6 : decode cX10_go 6 = .ok (.aload_n 3, 1) := by decide +kernel
theorem dX10_go_7 : decode cX10_go 7 = .ok (.ifnonnull 5, 3) := by decide +kernel
theorem dX10_go_10 : decode cX10_go 10 = .ok (.iconst (-1), 1) := by decide +kernel
theorem dX10_go_11 : decode cX10_go 11 = .ok (.ireturn, 1) := by decide +kernel
theorem dX10_go_12 : decode cX10_go 12 = .ok (.aload_n 3, 1) := by decide +kernel
theorem dX10_go_13 : decode cX10_go 13 = .ok (.getfield 185, 3) := by decide +kernel
theorem dX10_go_16 : decode cX10_go 16 = .ok (.ifCond .ne 9, 3) := by decide +kernel
theorem dX10_go_19 : decode cX10_go 19 = .ok (.aload_n 0, 1) := by decide +kernel
theorem dX10_go_20 : decode cX10_go 20 = .ok (.iconst 1, 1) := by decide +kernel
theorem dX10_go_21 : decode cX10_go 21 = .ok (.invokevirtual 62, 3) := by decide +kernel
theorem dX10_go_24 : decode cX10_go 24 = .ok (.ireturn, 1) := by decide +kernel
theorem dX10_go_25 : decode cX10_go 25 = .ok (.aload_n 3, 1) := by decide +kernel
theorem dX10_go_26 : decode cX10_go 26 = .ok (.getfield 220, 3) := by decide +kernel
theorem dX10_go_29 : decode cX10_go 29 = .ok (.ifCond .eq 7, 3) := by decide +kernel
theorem dX10_go_32 : decode cX10_go 32 = .ok (.iconst 1, 1) := by decide +kernel
theorem dX10_go_33 : decode cX10_go 33 = .ok (.goto 4, 3) := by decide +kernel
theorem dX10_go_36 : decode cX10_go 36 = .ok (.iconst 0, 1) := by decide +kernel
theorem dX10_go_37 : decode cX10_go 37 = .ok (.istore 4, 2) := by decide +kernel
theorem dX10_go_39 : decode cX10_go 39 = .ok (.aload_n 3, 1) := by decide +kernel
theorem dX10_go_40 : decode cX10_go 40 = .ok (.iload_n 2, 1) := by decide +kernel
theorem dX10_go_41 : decode cX10_go 41 = .ok (.putfield 220, 3) := by decide +kernel
theorem dX10_go_44 : decode cX10_go 44 = .ok (.iload 4, 2) := by decide +kernel
theorem dX10_go_46 : decode cX10_go 46 = .ok (.ireturn, 1) := by decide +kernel
theorem dX10_windGoing_0 : decode cX10_windGoing 0 = .ok (.aload_n 0, 1) := by decide +kernel
theorem dX10_windGoing_1 : decode cX10_windGoing 1 = .ok (.iload_n 1, 1) := by decide +kernel
theorem dX10_windGoing_2 : decode cX10_windGoing 2 = .ok (.invokevirtual 181, 3) := by decide +kernel
theorem dX10_windGoing_5 : decode cX10_windGoing 5 = .ok (.astore_n 3, 1) := by decide +kernel
theorem dX10_windGoing_6 : decode cX10_windGoing 6 = .ok (.aload_n 3, 1) := by decide +kernel
theorem dX10_windGoing_7 : decode cX10_windGoing 7 = .ok (.ifnull 13, 3) := by decide +kernel
theorem dX10_windGoing_10 : decode cX10_windGoing 10 = .ok (.iload_n 2, 1) := by decide +kernel
theorem dX10_windGoing_11 : decode cX10_windGoing 11 = .ok (.ifCond .lt 9, 3) := by decide +kernel
theorem dX10_windGoing_14 : decode cX10_windGoing 14 = .ok (.iload_n 2, 1) := by decide +kernel
theorem dX10_windGoing_15 : decode cX10_windGoing 15 = .ok (.ldc 133, 2) := by decide +kernel
theorem dX10_windGoing_17 : decode cX10_windGoing 17 = .ok (.if_icmp .le 5, 3) := by decide +kernel
theorem dX10_windGoing_20 : decode cX10_windGoing 20 = .ok (.iconst (-1), 1) := by decide +kernel
theorem dX10_windGoing_21 : decode cX10_windGoing 21 = .ok (.ireturn, 1) := by decide +kernel
theorem dX10_windGoing_22 : decode cX10_windGoing 22 = .ok (.aload_n 3, 1) := by decide +kernel
theorem dX10_windGoing_23 : decode cX10_windGoing 23 = .ok (.getfield 185, 3) := by decide +kernel
theorem dX10_windGoing_26 : decode cX10_windGoing 26 = .ok (.ifCond .ne 9, 3) := by decide +kernel
theorem dX10_windGoing_29 : decode cX10_windGoing 29 = .ok (.aload_n 0, 1) := by decide +kernel
theorem dX10_windGoing_30 : decode cX10_windGoing 30 = .ok (.iconst 1, 1) := by decide +kernel
theorem dX10_windGoing_31 : decode cX10_windGoing 31 = .ok (.invokevirtual 62, 3) := by decide +kernel
theorem dX10_windGoing_34 : decode cX10_windGoing 34 = .ok (.ireturn, 1) := by decide +kernel
theorem dX10_windGoing_35 : decode cX10_windGoing 35 = .ok (.aload_n 3, 1) := by decide +kernel
theorem dX10_windGoing_36 : decode cX10_windGoing 36 = .ok (.getfield 223, 3) := by decide +kernel
theorem dX10_windGoing_39 : decode cX10_windGoing 39 = .ok (.istore 4, 2) := by decide +kernel
