theorem dX10_windGoing_41 : decode cX10_windGoing 41 = .ok (.aload_n 3, 1) := by decide +kernel
theorem dX10_windGoing_42 : decode cX10_windGoing 42 = .ok (.iload_n 2, 1) := by decide +kernel
theorem dX10_windGoing_43 : decode cX10_windGoing 43 = .ok (.putfield 223, 3) := by decide +kernel
theorem dX10_windGoing_46 : decode cX10_windGoing 46 = .ok (.iload 4, 2) := by decide +kernel
theorem dX10_windGoing_48 : decode cX10_windGoing 48 = .ok (.ireturn, 1) := by decide +kernel
theorem dX10_silence_0 : decode cX10_silence 0 = .ok (.aload_n 0, 1) := by decide +kernel
theorem dX10_silence_1 : decode cX10_silence 1 = .ok (.iload_n 1, 1) := by decide +kernel
theorem dX10_silence_2 : decode cX10_silence 2 = .ok (.invokevirtual 181, 3) := by decide +kernel
theorem dX10_silence_5 : decode cX10_silence 5 = .ok (.astore 5, 2) := by decide +kernel
theorem dX10_silence_7 : decode cX10_silence 7 = .ok (.aload 5, 2) := by decide +kernel
theorem dX10_silence_9 : decode cX10_silence 9 = .ok (.ifnull 28, 3) := by decide +kernel
theorem dX10_silence_12 : decode cX10_silence 12 = .ok (.iload_n 2, 1) := by decide +kernel
theorem dX10_silence_13 : decode cX10_silence 13 = .ok (.invokestatic 226, 3) := by decide +kernel
theorem dX10_silence_16 : decode cX10_silence 16 = .ok (.ifCond .eq 21, 3) := by decide +kernel
theorem dX10_silence_19 : decode cX10_silence 19 = .ok (.iload_n 3, 1) := by decide +kernel
theorem dX10_silence_20 : decode cX10_silence 20 = .ok (.invokestatic 226, 3) := by decide +kernel
theorem dX10_silence_23 : decode cX10_silence 23 = .ok (.ifCond .eq 14, 3) := by decide +kernel
theorem dX10_silence_26 : decode cX10_silence 26 = .ok (.iload 4, 2) := by decide +kernel
theorem dX10_silence_28 : decode cX10_silence 28 = .ok (.ifCond .lt 9, 3) := by decide +kernel
theorem dX10_silence_31 : decode cX10_silence 31 = .ok (.iload 4, 2) := by decide +kernel
theorem dX10_silence_33 : decode cX10_silence 33 = .ok (.iconst 1, 1) := by decide +kernel
theorem dX10_silence_34 : decode cX10_silence 34 = .ok (.if_icmp .le 5, 3) := by decide +kernel
theorem dX10_silence_37 : decode cX10_silence 37 = .ok (.iconst (-1), 1) := by decide +kernel
theorem dX10_silence_38 : decode cX10_silence 38 = .ok (.ireturn, 1) := by decide +kernel
theorem dX10_silence_39 : decode cX10_silence 39 = .ok (.aload 5, 2) := by decide +kernel
theorem dX10_silence_41 : decode cX10_silence 41 = .ok (.getfield 185, 3) := by decide +kernel
theorem dX10_silence_44 : decode cX10_silence 44 = .ok (.ifCond .ne 9, 3) := by decide +kernel
theorem dX10_silence_47 : decode cX10_silence 47 = .ok (.aload_n 0, 1) := by decide +kernel
theorem dX10_silence_48 : decode cX10_silence 48 = .ok (.iconst 1, 1) := by decide +kernel
theorem dX10_silence_49 : decode cX10_silence 49 = .ok (.invokevirtual 62, 3) := by decide +kernel
theorem dX10_silence_52 : decode cX10_silence 52 = .ok (.ireturn, 1) := by decide +kernel
theorem dX10_silence_53 : decode cX10_silence 53 = .ok (.aload 5, 2) := by decide +kernel
theorem dX10_silence_55 : decode cX10_silence 55 = .ok (.iload_n 2, 1) := by decide +kernel
theorem dX10_silence_56 : decode cX10_silence 56 = .ok (.iload_n 3, 1) := by decide +kernel
theorem dX10_silence_57 : decode cX10_silence 57 = .ok (.iload 4, 2) := by decide +kernel
theorem dX10_silence_59 : decode cX10_silence 59 = .ok (.ifCond .ne 7, 3) := by decide +kernel
theorem dX10_silence_62 : decode cX10_silence 62 = .ok (.iconst 1, 1) := by decide +kernel
theorem dX10_silence_63 : decode cX10_silence 63 = .ok (.goto 4, 3) := by decide +kernel
theorem dX10_silence_66 : decode cX10_silence 66 = .ok (.iconst 2, 1) := by decide +kernel
theorem dX10_silence_67 : decode cX10_silence 67 = .ok (.invokevirtual 229, 3) := by decide +kernel
theorem dX10_silence_70 : decode cX10_silence 70 = .ok (.iconst 1, 1) := by decide +kernel
theorem dX10_silence_71 : decode cX10_silence 71 = .ok (.ireturn, 1) := by decide +kernel
theorem dX10_letOff_0 : decode cX10_letOff 0 = .ok (.aload_n 0, 1) := by decide +kernel
theorem dX10_letOff_1 : decode cX10_letOff 1 = .ok (.iload_n 1, 1) := by decide +kernel
theorem dX10_letOff_2 : decode cX10_letOff 2 = .ok (.invokevirtual 181, 3) := by decide +kernel
theorem dX10_letOff_5 : decode cX10_letOff 5 = .ok (.astore_n 3, 1) := by decide +kernel
theorem dX10_letOff_6 : decode cX10_letOff 6 = .ok (.aload_n 3, 1) := by decide +kernel
theorem dX10_letOff_7 : decode cX10_letOff 7 = .ok (.ifnonnull 5, 3) := by decide +kernel
theorem dX10_letOff_10 : decode cX10_letOff 10 = .ok (.iconst (-1), 1) := by decide +kernel
theorem dX10_letOff_11 : decode cX10_letOff 11 = .ok (.ireturn, 1) := by decide +kernel
theorem dX10_letOff_12 : decode cX10_letOff 12 = .ok (.aload_n 3, 1) := by decide +kernel
theorem dX10_letOff_13 : decode cX10_letOff 13 = .ok (.iload_n 2, 1) := by decide +kernel
theorem dX10_letOff_14 : decode cX10_letOff 14 = .ok (.invokevirtual 202, 3) := by decide +kernel
theorem dX10_letOff_17 : decode cX10_letOff 17 = .ok (.astore 4, 2) := by decide +kernel
theorem dX10_letOff_19 : decode cX10_letOff 19 = .ok (.aload_n 3, 1) := by decide +kernel
theorem dX10_letOff_20 : decode cX10_letOff 20 = .ok (.getfield 185, 3) := by decide +kernel
theorem dX10_letOff_23 : decode cX10_letOff 23 = .ok (.ifCond .eq 8, 3) := by decide +kernel
theorem dX10_letOff_26 : decode cX10_letOff 26 = .ok (.aload 4, 2) := by decide +kernel
theorem dX10_letOff_28 : decode cX10_letOff 28 = .ok (.ifnonnull 9, 3) := by decide +kernel
theorem dX10_letOff_31 : decode cX10_letOff 31 = .ok (.aload_n 0, 1) := by decide +kernel
theorem dX10_letOff_32 : decode cX10_letOff 32 = .ok (.iconst 1, 1) := by decide +kernel
theorem dX10_letOff_33 : decode cX10_letOff 33 = .ok (.invokevirtual 62, 3) := by decide +kernel
theorem dX10_letOff_36 : decode cX10_letOff 36 = .ok (.ireturn, 1) := by decide +kernel
theorem dX10_letOff_37 : decode cX10_letOff 37 = .ok (.aload_n 3, 1) := by decide +kernel
theorem dX10_letOff_38 : decode cX10_letOff 38 = .ok (.aload 4, 2) := by decide +kernel
theorem dX10_letOff_40 : decode cX10_letOff 40 = .ok (.iload_n 2, 1) := by decide +kernel
theorem dX10_letOff_41 : decode cX10_letOff 41 = .ok (.invokevirtual 233, 3) := by decide +kernel
theorem dX10_letOff_44 : decode cX10_letOff 44 = .ok (.aload 4, 2) := by decide +kernel
theorem dX10_letOff_46 : decode cX10_letOff 46 = .ok (.getfield 156, 3) := by decide +kernel
theorem dX10_letOff_49 : decode cX10_letOff 49 = .ok (.ireturn, 1) := by decide +kernel
theorem dX10_runOut_0 : decode cX10_runOut 0 = .ok (.aload_n 0, 1) := by decide +kernel
theorem dX10_runOut_1 : decode cX10_runOut 1 = .ok (.iload_n 1, 1) := by decide +kernel
theorem dX10_runOut_2 : decode cX10_runOut 2 = .ok (.invokevirtual 181, 3) := by decide +kernel
theorem dX10_runOut_5 : decode cX10_runOut 5 = .ok (.astore_n 3, 1) := by decide +kernel
theorem dX10_runOut_6 : decode cX10_runOut 6 = .ok (.aload_n 3, 1) := by decide +kernel
theorem dX10_runOut_7 : decode cX10_runOut 7 = .ok (.ifnonnull 5, 3) := by decide +kernel
theorem dX10_runOut_10 : decode cX10_runOut 10 = .ok (.iconst (-1), 1) := by decide +kernel
theorem dX10_runOut_11 : decode cX10_runOut 11 = .ok (.ireturn, 1) := by decide +kernel
theorem dX10_runOut_12 : decode cX10_runOut 12 = .ok (.aload_n 3, 1) := by decide +kernel
theorem dX10_runOut_13 : decode cX10_runOut 13 = .ok (.iload_n 2, 1) := by decide +kernel
theorem dX10_runOut_14 : decode cX10_runOut 14 = .ok (.invokevirtual 202, 3) := by decide +kernel
theorem dX10_runOut_17 : decode cX10_runOut 17 = .ok (.astore 4, 2) := by decide +kernel
theorem dX10_runOut_19 : decode cX10_runOut 19 = .ok (.aload_n 3, 1) := by decide +kernel
theorem dX10_runOut_20 : decode cX10_runOut 20 = .ok (.getfield 185, 3) := by decide +kernel
theorem dX10_runOut_23 : decode cX10_runOut 23 = .ok (.ifCond .eq 8, 3) := by decide +kernel
theorem dX10_runOut_26 : decode cX10_runOut 26 = .ok (.aload 4, 2) := by decide +kernel
theorem dX10_runOut_28 : decode cX10_runOut 28 = .ok (.ifnonnull 9, 3) := by decide +kernel
theorem dX10_runOut_31 : decode cX10_runOut 31 = .ok (.aload_n 0, 1) := by decide +kernel
theorem dX10_runOut_32 : decode cX10_runOut 32 = .ok (.iconst 1, 1) := by decide +kernel
theorem dX10_runOut_33 : decode cX10_runOut 33 = .ok (.invokevirtual 62, 3) := by decide +kernel
theorem dX10_runOut_36 : decode cX10_runOut 36 = .ok (.ireturn, 1) := by decide +kernel
theorem dX10_runOut_37 : decode cX10_runOut 37 = .ok (.aload_n 3, 1) := by decide +kernel
theorem dX10_runOut_38 : decode cX10_runOut 38 = .ok (.aload 4, 2) := by decide +kernel
theorem dX10_runOut_40 : decode cX10_runOut 40 = .ok (.aload 4, 2) := by decide +kernel
theorem dX10_runOut_42 : decode cX10_runOut 42 = .ok (.getfield 156, 3) := by decide +kernel
theorem dX10_runOut_45 : decode cX10_runOut 45 = .ok (.aload_n 0, 1) := by decide +kernel
theorem dX10_runOut_46 : decode cX10_runOut 46 = .ok (.getfield 236, 3) := by decide +kernel
theorem dX10_runOut_49 : decode cX10_runOut 49 = .ok (.invokevirtual 239, 3) := by decide +kernel
theorem dX10_runOut_52 : decode cX10_runOut 52 = .ok (.ireturn, 1) := by decide +kernel
theorem dX10_pass_0 : decode cX10_pass 0 = .ok (.iload_n 1, 1) := by decide +kernel
theorem dX10_pass_1 : decode cX10_pass 1 = .ok (.ifCond .lt 10, 3) := by decide +kernel
theorem dX10_pass_4 : decode cX10_pass 4 = .ok (.iload_n 1, 1) := by decide +kernel
theorem dX10_pass_5 : decode cX10_pass 5 = .ok (.sipush 3000, 3) := by decide +kernel
theorem dX10_pass_8 : decode cX10_pass 8 = .ok (.if_icmp .le 5, 3) := by decide +kernel
theorem dX10_pass_11 : decode cX10_pass 11 = .ok (.iconst (-1), 1) := by decide +kernel
theorem dX10_pass_12 : decode cX10_pass 12 = .ok (.ireturn, 1) := by decide +kernel
theorem dX10_pass_13 : decode cX10_pass 13 = .ok (.iload_n 1, 1) := by decide +kernel
theorem dX10_pass_14 : decode cX10_pass 14 = .ok (.ldc 243, 2) := by decide +kernel
theorem dX10_pass_16 : decode cX10_pass 16 = .ok (.aload_n 0, 1) := by decide +kernel
theorem dX10_pass_17 : decode cX10_pass 17 = .ok (.getfield 236, 3) := by decide +kernel
theorem dX10_pass_20 : decode cX10_pass 20 = .ok (.isub, 1) := by decide +kernel
theorem dX10_pass_21 : decode cX10_pass 21 = .ok (.if_icmp .le 6, 3) := by decide +kernel
theorem dX10_pass_24 : decode cX10_pass 24 = .ok (.bipush (-2), 2) := by decide +kernel
theorem dX10_pass_26 : decode cX10_pass 26 = .ok (.ireturn, 1) := by decide +kernel
theorem dX10_pass_27 : decode cX10_pass 27 = .ok (.iconst 0, 1) := by decide +kernel
theorem dX10_pass_28 : decode cX10_pass 28 = .ok (.istore_n 2, 1) := by decide +kernel
theorem dX10_pass_29 : decode cX10_pass 29 = .ok (.iload_n 2, 1) := by decide +kernel
theorem dX10_pass_30 : decode cX10_pass 30 = .ok (.iload_n 1, 1) := by decide +kernel
theorem dX10_pass_31 : decode cX10_pass 31 = .ok (.if_icmp .ge 66, 3) := by decide +kernel
theorem dX10_pass_34 : decode cX10_pass 34 = .ok (.iconst 0, 1) := by decide +kernel
theorem dX10_pass_35 : decode cX10_pass 35 = .ok (.istore_n 3, 1) := by decide +kernel
theorem dX10_pass_36 : decode cX10_pass 36 = .ok (.iload_n 3, 1) := by decide +kernel
theorem dX10_pass_37 : decode cX10_pass 37 = .ok (.aload_n 0, 1) := by decide +kernel
theorem dX10_pass_38 : decode cX10_pass 38 = .ok (.getfield 23, 3) := by decide +kernel
theorem dX10_pass_41 : decode cX10_pass 41 = .ok (.arraylength, 1) := by decide +kernel
theorem dX10_pass_42 : decode cX10_pass 42 = .ok (.if_icmp .ge 39, 3) := by decide +kernel
theorem dX10_pass_45 : decode cX10_pass 45 = .ok (.aload_n 0, 1) := by decide +kernel
theorem dX10_pass_46 : decode cX10_pass 46 = .ok (.getfield 23, 3) := by decide +kernel
theorem dX10_pass_49 : decode cX10_pass 49 = .ok (.iload_n 3, 1) := by decide +kernel
theorem dX10_pass_50 : decode cX10_pass 50 = .ok (.aaload, 1) := by decide +kernel
theorem dX10_pass_51 : decode cX10_pass 51 = .ok (.astore 4, 2) := by decide +kernel
theorem dX10_pass_53 : decode cX10_pass 53 = .ok (.aload 4, 2) := by decide +kernel
theorem dX10_pass_55 : decode cX10_pass 55 = .ok (.ifnull 20, 3) := by decide +kernel
theorem dX10_pass_58 : decode cX10_pass 58 = .ok (.aload 4, 2) := by decide +kernel
theorem dX10_pass_60 : decode cX10_pass 60 = .ok (.getfield 185, 3) := by decide +kernel
theorem dX10_pass_63 : decode cX10_pass 63 = .ok (.ifCond .eq 12, 3) := by decide +kernel
theorem dX10_pass_66 : decode cX10_pass 66 = .ok (.aload 4, 2) := by decide +kernel
theorem dX10_pass_68 : decode cX10_pass 68 = .ok (.aload_n 0, 1) := by decide +kernel
theorem dX10_pass_69 : decode cX10_pass 69 = .ok (.getfield 236, 3) := by decide +kernel
theorem dX10_pass_72 : decode cX10_pass 72 = .ok (.invokevirtual 244, 3) := by decide +kernel
theorem dX10_pass_75 : decode cX10_pass 75 = .ok (.iinc 3 1, 3) := by decide +kernel
theorem dX10_pass_78 : decode cX10_pass 78 = .ok (.goto (-42), 3) := by decide +kernel
theorem dX10_pass_81 : decode cX10_pass 81 = .ok (.aload_n 0, 1) := by decide +kernel
theorem dX10_pass_82 : decode cX10_pass 82 = .ok (.dup, 1) := by decide +kernel
theorem dX10_pass_83 : decode cX10_pass 83 = .ok (.getfield 236, 3) := by decide +kernel
theorem dX10_pass_86 : decode cX10_pass 86 = .ok (.iconst 1, 1) := by decide +kernel
theorem dX10_pass_87 : decode cX10_pass 87 = .ok (.iadd, 1) := by decide +kernel
theorem dX10_pass_88 : decode cX10_pass 88 = .ok (.putfield 236, 3) := by decide +kernel
theorem dX10_pass_91 : decode cX10_pass 91 = .ok (.iinc 2 1, 3) := by decide +kernel
theorem dX10_pass_94 : decode cX10_pass 94 = .ok (.goto (-65), 3) := by decide +kernel
theorem dX10_pass_97 : decode cX10_pass 97 = .ok (.aload_n 0, 1) := by decide +kernel
theorem dX10_pass_98 : decode cX10_pass 98 = .ok (.getfield 236, 3) := by decide +kernel
theorem dX10_pass_101 : decode cX10_pass 101 = .ok (.ireturn, 1) := by decide +kernel
theorem dX10_tells_0 : decode cX10_tells 0 = .ok (.aload_n 0, 1) := by decide +kernel
theorem dX10_tells_1 : decode cX10_tells 1 = .ok (.iload_n 1, 1) := by decide +kernel
theorem dX10_tells_2 : decode cX10_tells 2 = .ok (.invokevirtual 181, 3) := by decide +kernel
theorem dX10_tells_5 : decode cX10_tells 5 = .ok (.astore_n 3, 1) := by decide +kernel
theorem dX10_tells_6 : decode cX10_tells 6 = .ok (.aload_n 3, 1) := by decide +kernel
theorem dX10_tells_7 : decode cX10_tells 7 = .ok (.ifnull 13, 3) := by decide +kernel
theorem dX10_tells_10 : decode cX10_tells 10 = .ok (.iload_n 2, 1) := by decide +kernel
theorem dX10_tells_11 : decode cX10_tells 11 = .ok (.ifCond .lt 9, 3) := by decide +kernel
theorem dX10_tells_14 : decode cX10_tells 14 = .ok (.iload_n 2, 1) := by decide +kernel
theorem dX10_tells_15 : decode cX10_tells 15 = .ok (.bipush 8, 2) := by decide +kernel
theorem dX10_tells_17 : decode cX10_tells 17 = .ok (.if_icmp .le 5, 3) := by decide +kernel
theorem dX10_tells_20 : decode cX10_tells 20 = .ok (.iconst (-1), 1) := by decide +kernel
theorem dX10_tells_21 : decode cX10_tells 21 = .ok (.ireturn, 1) := by decide +kernel
theorem dX10_tells_22 : decode cX10_tells 22 = .ok (.aload_n 3, 1) := by decide +kernel
theorem dX10_tells_23 : decode cX10_tells 23 = .ok (.getfield 185, 3) := by decide +kernel
theorem dX10_tells_26 : decode cX10_tells 26 = .ok (.ifCond .ne 9, 3) := by decide +kernel
theorem dX10_tells_29 : decode cX10_tells 29 = .ok (.aload_n 0, 1) := by decide +kernel
theorem dX10_tells_30 : decode cX10_tells 30 = .ok (.iconst 1, 1) := by decide +kernel
theorem dX10_tells_31 : decode cX10_tells 31 = .ok (.invokevirtual 62, 3) := by decide +kernel
theorem dX10_tells_34 : decode cX10_tells 34 = .ok (.ireturn, 1) := by decide +kernel
theorem dX10_tells_35 : decode cX10_tells 35 = .ok (.iload_n 2, 1) := by decide +kernel
theorem dX10_tells_36 : decode cX10_tells 36 = .ok (.tableswitch 116 0 7 #[48, 53, 58, 63, 76, 82, 88, 102], 48) := by decide +kernel
theorem dX10_tells_84 : decode cX10_tells 84 = .ok (.aload_n 3, 1) := by decide +kernel
theorem dX10_tells_85 : decode cX10_tells 85 = .ok (.getfield 206, 3) := by decide +kernel
theorem dX10_tells_88 : decode cX10_tells 88 = .ok (.ireturn, 1) := by decide +kernel
theorem dX10_tells_89 : decode cX10_tells 89 = .ok (.aload_n 3, 1) := by decide +kernel
theorem dX10_tells_90 : decode cX10_tells 90 = .ok (.getfield 247, 3) := by decide +kernel
theorem dX10_tells_93 : decode cX10_tells 93 = .ok (.ireturn, 1) := by decide +kernel
theorem dX10_tells_94 : decode cX10_tells 94 = .ok (.aload_n 3, 1) := by decide +kernel
theorem dX10_tells_95 : decode cX10_tells 95 = .ok (.getfield 223, 3) := by decide +kernel
theorem dX10_tells_98 : decode cX10_tells 98 = .ok (.ireturn, 1) := by decide +kernel
theorem dX10_tells_99 : decode cX10_tells 99 = .ok (.aload_n 3, 1) := by decide +kernel
theorem dX10_tells_100 : decode cX10_tells 100 = .ok (.getfield 220, 3) := by decide +kernel
theorem dX10_tells_103 : decode cX10_tells 103 = .ok (.ifCond .eq 7, 3) := by decide +kernel
theorem dX10_tells_106 : decode cX10_tells 106 = .ok (.iconst 1, 1) := by decide +kernel
theorem dX10_tells_107 : decode cX10_tells 107 = .ok (.goto 4, 3) := by decide +kernel
theorem dX10_tells_110 : decode cX10_tells 110 = .ok (.iconst 0, 1) := by decide +kernel
theorem dX10_tells_111 : decode cX10_tells 111 = .ok (.ireturn, 1) := by decide +kernel
theorem dX10_tells_112 : decode cX10_tells 112 = .ok (.aload_n 3, 1) := by decide +kernel
theorem dX10_tells_113 : decode cX10_tells 113 = .ok (.iconst 0, 1) := by decide +kernel
theorem dX10_tells_114 : decode cX10_tells 114 = .ok (.invokevirtual 250, 3) := by decide +kernel
theorem dX10_tells_117 : decode cX10_tells 117 = .ok (.ireturn, 1) := by decide +kernel
theorem dX10_tells_118 : decode cX10_tells 118 = .ok (.aload_n 3, 1) := by decide +kernel
theorem dX10_tells_119 : decode cX10_tells 119 = .ok (.iconst 1, 1) := by decide +kernel
theorem dX10_tells_120 : decode cX10_tells 120 = .ok (.invokevirtual 250, 3) := by decide +kernel
theorem dX10_tells_123 : decode cX10_tells 123 = .ok (.ireturn, 1) := by decide +kernel
theorem dX10_tells_124 : decode cX10_tells 124 = .ok (.aload_n 3, 1) := by decide +kernel
theorem dX10_tells_125 : decode cX10_tells 125 = .ok (.iconst 0, 1) := by decide +kernel
theorem dX10_tells_126 : decode cX10_tells 126 = .ok (.invokevirtual 253, 3) := by decide +kernel
theorem dX10_tells_129 : decode cX10_tells 129 = .ok (.ifCond .eq 7, 3) := by decide +kernel
theorem dX10_tells_132 : decode cX10_tells 132 = .ok (.iconst 1, 1) := by decide +kernel
theorem dX10_tells_133 : decode cX10_tells 133 = .ok (.goto 4, 3) := by decide +kernel
theorem dX10_tells_136 : decode cX10_tells 136 = .ok (.iconst 0, 1) := by decide +kernel
theorem dX10_tells_137 : decode cX10_tells 137 = .ok (.ireturn, 1) := by decide +kernel
theorem dX10_tells_138 : decode cX10_tells 138 = .ok (.aload_n 3, 1) := by decide +kernel
theorem dX10_tells_139 : decode cX10_tells 139 = .ok (.iconst 1, 1) := by decide +kernel
theorem dX10_tells_140 : decode cX10_tells 140 = .ok (.invokevirtual 253, 3) := by decide +kernel
theorem dX10_tells_143 : decode cX10_tells 143 = .ok (.ifCond .eq 7, 3) := by decide +kernel
theorem dX10_tells_146 : decode cX10_tells 146 = .ok (.iconst 1, 1) := by decide +kernel
theorem dX10_tells_147 : decode cX10_tells 147 = .ok (.goto 4, 3) := by decide +kernel
theorem dX10_tells_150 : decode cX10_tells 150 = .ok (.iconst 0, 1) := by decide +kernel
theorem dX10_tells_151 : decode cX10_tells 151 = .ok (.ireturn, 1) := by decide +kernel
theorem dX10_tells_152 : decode cX10_tells 152 = .ok (.aload_n 3, 1) := by decide +kernel
theorem dX10_tells_153 : decode cX10_tells 153 = .ok (.invokevirtual 257, 3) := by decide +kernel
theorem dX10_tells_156 : decode cX10_tells 156 = .ok (.ireturn, 1) := by decide +kernel
theorem dX10_log_0 : decode cX10_log 0 = .ok (.aload_n 0, 1) := by decide +kernel
theorem dX10_log_1 : decode cX10_log 1 = .ok (.iload_n 1, 1) := by decide +kernel
theorem dX10_log_2 : decode cX10_log 2 = .ok (.invokevirtual 181, 3) := by decide +kernel
theorem dX10_log_5 : decode cX10_log 5 = .ok (.astore 4, 2) := by decide +kernel
theorem dX10_log_7 : decode cX10_log 7 = .ok (.aload 4, 2) := by decide +kernel
theorem dX10_log_9 : decode cX10_log 9 = .ok (.ifnull 12, 3) := by decide +kernel
theorem dX10_log_12 : decode cX10_log 12 = .ok (.iload_n 3, 1) := by decide +kernel
theorem dX10_log_13 : decode cX10_log 13 = .ok (.ifCond .lt 8, 3) := by decide +kernel
theorem dX10_log_16 : decode cX10_log 16 = .ok (.iload_n 3, 1) := by decide +kernel
theorem dX10_log_17 : decode cX10_log 17 = .ok (.iconst 3, 1) := by decide +kernel
theorem dX10_log_18 : decode cX10_log 18 = .ok (.if_icmp .le 5, 3) := by decide +kernel
theorem dX10_log_21 : decode cX10_log 21 = .ok (.iconst (-1), 1) := by decide +kernel
theorem dX10_log_22 : decode cX10_log 22 = .ok (.ireturn, 1) := by decide +kernel
theorem dX10_log_23 : decode cX10_log 23 = .ok (.aload 4, 2) := by decide +kernel
theorem dX10_log_25 : decode cX10_log 25 = .ok (.getfield 185, 3) := by decide +kernel
theorem dX10_log_28 : decode cX10_log 28 = .ok (.ifCond .ne 9, 3) := by decide +kernel
theorem dX10_log_31 : decode cX10_log 31 = .ok (.aload_n 0, 1) := by decide +kernel
theorem dX10_log_32 : decode cX10_log 32 = .ok (.iconst 1, 1) := by decide +kernel
theorem dX10_log_33 : decode cX10_log 33 = .ok (.invokevirtual 62, 3) := by decide +kernel
theorem dX10_log_36 : decode cX10_log 36 = .ok (.ireturn, 1) := by decide +kernel
theorem dX10_log_37 : decode cX10_log 37 = .ok (.aload 4, 2) := by decide +kernel
theorem dX10_log_39 : decode cX10_log 39 = .ok (.getfield 260, 3) := by decide +kernel
theorem dX10_log_42 : decode cX10_log 42 = .ok (.iload_n 2, 1) := by decide +kernel
theorem dX10_log_43 : decode cX10_log 43 = .ok (.iload_n 3, 1) := by decide +kernel
theorem dX10_log_44 : decode cX10_log 44 = .ok (.invokevirtual 264, 3) := by decide +kernel
theorem dX10_log_47 : decode cX10_log 47 = .ok (.ireturn, 1) := by decide +kernel
theorem dX10_heard_0 : decode cX10_heard 0 = .ok (.aload_n 0, 1) := by decide +kernel
theorem dX10_heard_1 : decode cX10_heard 1 = .ok (.iload_n 1, 1) := by decide +kernel
theorem dX10_heard_2 : decode cX10_heard 2 = .ok (.invokevirtual 181, 3) := by decide +kernel
theorem dX10_heard_5 : decode cX10_heard 5 = .ok (.astore 4, 2) := by decide +kernel
theorem dX10_heard_7 : decode cX10_heard 7 = .ok (.aload 4, 2) := by decide +kernel
theorem dX10_heard_9 : decode cX10_heard 9 = .ok (.ifnull 12, 3) := by decide +kernel
theorem dX10_heard_12 : decode cX10_heard 12 = .ok (.iload_n 2, 1) := by decide +kernel
theorem dX10_heard_13 : decode cX10_heard 13 = .ok (.ifCond .lt 8, 3) := by decide +kernel
theorem dX10_heard_16 : decode cX10_heard 16 = .ok (.iload_n 2, 1) := by decide +kernel
theorem dX10_heard_17 : decode cX10_heard 17 = .ok (.iload_n 3, 1) := by decide +kernel
theorem dX10_heard_18 : decode cX10_heard 18 = .ok (.if_icmp .le 5, 3) := by decide +kernel
theorem dX10_heard_21 : decode cX10_heard 21 = .ok (.iconst (-1), 1) := by decide +kernel
theorem dX10_heard_22 : decode cX10_heard 22 = .ok (.ireturn, 1) := by decide +kernel
theorem dX10_heard_23 : decode cX10_heard 23 = .ok (.aload 4, 2) := by decide +kernel
theorem dX10_heard_25 : decode cX10_heard 25 = .ok (.getfield 185, 3) := by decide +kernel
theorem dX10_heard_28 : decode cX10_heard 28 = .ok (.ifCond .ne 9, 3) := by decide +kernel
theorem dX10_heard_31 : decode cX10_heard 31 = .ok (.aload_n 0, 1) := by decide +kernel
theorem dX10_heard_32 : decode cX10_heard 32 = .ok (.iconst 1, 1) := by decide +kernel
theorem dX10_heard_33 : decode cX10_heard 33 = .ok (.invokevirtual 62, 3) := by decide +kernel
theorem dX10_heard_36 : decode cX10_heard 36 = .ok (.ireturn, 1) := by decide +kernel
theorem dX10_heard_37 : decode cX10_heard 37 = .ok (.aload 4, 2) := by decide +kernel
theorem dX10_heard_39 : decode cX10_heard 39 = .ok (.getfield 260, 3) := by decide +kernel
theorem dX10_heard_42 : decode cX10_heard 42 = .ok (.iload_n 2, 1) := by decide +kernel
theorem dX10_heard_43 : decode cX10_heard 43 = .ok (.iload_n 3, 1) := by decide +kernel
theorem dX10_heard_44 : decode cX10_heard 44 = .ok (.invokevirtual 269, 3) := by decide +kernel
theorem dX10_heard_47 : decode cX10_heard 47 = .ok (.ireturn, 1) := by decide +kernel
theorem dX10_ahead_0 : decode cX10_ahead 0 = .ok (.aload_n 0, 1) := by decide +kernel
theorem dX10_ahead_1 : decode cX10_ahead 1 = .ok (.iload_n 1, 1) := by decide +kernel
theorem dX10_ahead_2 : decode cX10_ahead 2 = .ok (.invokevirtual 181, 3) := by decide +kernel
theorem dX10_ahead_5 : decode cX10_ahead 5 = .ok (.astore_n 3, 1) := by decide +kernel
theorem dX10_ahead_6 : decode cX10_ahead 6 = .ok (.aload_n 0, 1) := by decide +kernel
theorem dX10_ahead_7 : decode cX10_ahead 7 = .ok (.iload_n 2, 1) := by decide +kernel
theorem dX10_ahead_8 : decode cX10_ahead 8 = .ok (.invokevirtual 181, 3) := by decide +kernel
theorem dX10_ahead_11 : decode cX10_ahead 11 = .ok (.astore 4, 2) := by decide +kernel
theorem dX10_ahead_13 : decode cX10_ahead 13 = .ok (.aload_n 3, 1) := by decide +kernel
theorem dX10_ahead_14 : decode cX10_ahead 14 = .ok (.ifnull 8, 3) := by decide +kernel
theorem dX10_ahead_17 : decode cX10_ahead 17 = .ok (.aload 4, 2) := by decide +kernel
theorem dX10_ahead_19 : decode cX10_ahead 19 = .ok (.ifnonnull 5, 3) := by decide +kernel
theorem dX10_ahead_22 : decode cX10_ahead 22 = .ok (.iconst (-1), 1) := by decide +kernel
theorem dX10_ahead_23 : decode cX10_ahead 23 = .ok (.ireturn, 1) := by decide +kernel
theorem dX10_ahead_24 : decode cX10_ahead 24 = .ok (.aload_n 3, 1) := by decide +kernel
theorem dX10_ahead_25 : decode cX10_ahead 25 = .ok (.getfield 185, 3) := by decide +kernel
theorem dX10_ahead_28 : decode cX10_ahead 28 = .ok (.ifCond .eq 11, 3) := by decide +kernel
theorem dX10_ahead_31 : decode cX10_ahead 31 = .ok (.aload 4, 2) := by decide +kernel
theorem dX10_ahead_33 : decode cX10_ahead 33 = .ok (.getfield 185, 3) := by decide +kernel
theorem dX10_ahead_36 : decode cX10_ahead 36 = .ok (.ifCond .ne 9, 3) := by decide +kernel
theorem dX10_ahead_39 : decode cX10_ahead 39 = .ok (.aload_n 0, 1) := by decide +kernel
theorem dX10_ahead_40 : decode cX10_ahead 40 = .ok (.iconst 1, 1) := by decide +kernel
theorem dX10_ahead_41 : decode cX10_ahead 41 = .ok (.invokevirtual 62, 3) := by decide +kernel
theorem dX10_ahead_44 : decode cX10_ahead 44 = .ok (.ireturn, 1) := by decide +kernel
theorem dX10_ahead_45 : decode cX10_ahead 45 = .ok (.aload_n 3, 1) := by decide +kernel
theorem dX10_ahead_46 : decode cX10_ahead 46 = .ok (.getfield 206, 3) := by decide +kernel
theorem dX10_ahead_49 : decode cX10_ahead 49 = .ok (.aload 4, 2) := by decide +kernel
theorem dX10_ahead_51 : decode cX10_ahead 51 = .ok (.getfield 206, 3) := by decide +kernel
theorem dX10_ahead_54 : decode cX10_ahead 54 = .ok (.isub, 1) := by decide +kernel
theorem dX10_ahead_55 : decode cX10_ahead 55 = .ok (.sipush 1440, 3) := by decide +kernel
theorem dX10_ahead_58 : decode cX10_ahead 58 = .ok (.invokestatic 212, 3) := by decide +kernel
theorem dX10_ahead_61 : decode cX10_ahead 61 = .ok (.istore 5, 2) := by decide +kernel
theorem dX10_ahead_63 : decode cX10_ahead 63 = .ok (.iload 5, 2) := by decide +kernel
theorem dX10_ahead_65 : decode cX10_ahead 65 = .ok (.sipush 720, 3) := by decide +kernel
theorem dX10_ahead_68 : decode cX10_ahead 68 = .ok (.if_icmp .le 12, 3) := by decide +kernel
theorem dX10_ahead_71 : decode cX10_ahead 71 = .ok (.iload 5, 2) := by decide +kernel
theorem dX10_ahead_73 : decode cX10_ahead 73 = .ok (.sipush 1440, 3) := by decide +kernel
theorem dX10_ahead_76 : decode cX10_ahead 76 = .ok (.isub, 1) := by decide +kernel
theorem dX10_ahead_77 : decode cX10_ahead 77 = .ok (.goto 5, 3) := by decide +kernel
theorem dX10_ahead_80 : decode cX10_ahead 80 = .ok (.iload 5, 2) := by decide +kernel
theorem dX10_ahead_82 : decode cX10_ahead 82 = .ok (.ireturn, 1) := by decide +kernel
theorem dX10_meet_0 : decode cX10_meet 0 = .ok (.aload_n 0, 1) := by decide +kernel
theorem dX10_meet_1 : decode cX10_meet 1 = .ok (.iload_n 1, 1) := by decide +kernel
theorem dX10_meet_2 : decode cX10_meet 2 = .ok (.invokevirtual 181, 3) := by decide +kernel
theorem dX10_meet_5 : decode cX10_meet 5 = .ok (.astore_n 3, 1) := by decide +kernel
theorem dX10_meet_6 : decode cX10_meet 6 = .ok (.aload_n 0, 1) := by decide +kernel
theorem dX10_meet_7 : decode cX10_meet 7 = .ok (.iload_n 2, 1) := by decide +kernel
theorem dX10_meet_8 : decode cX10_meet 8 = .ok (.invokevirtual 181, 3) := by decide +kernel
theorem dX10_meet_11 : decode cX10_meet 11 = .ok (.astore 4, 2) := by decide +kernel
theorem dX10_meet_13 : decode cX10_meet 13 = .ok (.aload_n 3, 1) := by decide +kernel
theorem dX10_meet_14 : decode cX10_meet 14 = .ok (.ifnull 8, 3) := by decide +kernel
theorem dX10_meet_17 : decode cX10_meet 17 = .ok (.aload 4, 2) := by decide +kernel
theorem dX10_meet_19 : decode cX10_meet 19 = .ok (.ifnonnull 5, 3) := by decide +kernel
theorem dX10_meet_22 : decode cX10_meet 22 = .ok (.iconst (-1), 1) := by decide +kernel
theorem dX10_meet_23 : decode cX10_meet 23 = .ok (.ireturn, 1) := by decide +kernel
theorem dX10_meet_24 : decode cX10_meet 24 = .ok (.aload_n 3, 1) := by decide +kernel
theorem dX10_meet_25 : decode cX10_meet 25 = .ok (.getfield 185, 3) := by decide +kernel
theorem dX10_meet_28 : decode cX10_meet 28 = .ok (.ifCond .eq 11, 3) := by decide +kernel
theorem dX10_meet_31 : decode cX10_meet 31 = .ok (.aload 4, 2) := by decide +kernel
theorem dX10_meet_33 : decode cX10_meet 33 = .ok (.getfield 185, 3) := by decide +kernel
theorem dX10_meet_36 : decode cX10_meet 36 = .ok (.ifCond .ne 9, 3) := by decide +kernel
theorem dX10_meet_39 : decode cX10_meet 39 = .ok (.aload_n 0, 1) := by decide +kernel
theorem dX10_meet_40 : decode cX10_meet 40 = .ok (.iconst 1, 1) := by decide +kernel
theorem dX10_meet_41 : decode cX10_meet 41 = .ok (.invokevirtual 62, 3) := by decide +kernel
theorem dX10_meet_44 : decode cX10_meet 44 = .ok (.ireturn, 1) := by decide +kernel
theorem dX10_meet_45 : decode cX10_meet 45 = .ok (.aload_n 3, 1) := by decide +kernel
theorem dX10_meet_46 : decode cX10_meet 46 = .ok (.getfield 220, 3) := by decide +kernel
theorem dX10_meet_49 : decode cX10_meet 49 = .ok (.ifCond .eq 11, 3) := by decide +kernel
theorem dX10_meet_52 : decode cX10_meet 52 = .ok (.aload 4, 2) := by decide +kernel
theorem dX10_meet_54 : decode cX10_meet 54 = .ok (.getfield 220, 3) := by decide +kernel
theorem dX10_meet_57 : decode cX10_meet 57 = .ok (.ifCond .ne 6, 3) := by decide +kernel
theorem dX10_meet_60 : decode cX10_meet 60 = .ok (.bipush (-4), 2) := by decide +kernel
theorem dX10_meet_62 : decode cX10_meet 62 = .ok (.ireturn, 1) := by decide +kernel
theorem dX10_meet_63 : decode cX10_meet 63 = .ok (.aload_n 3, 1) := by decide +kernel
theorem dX10_meet_64 : decode cX10_meet 64 = .ok (.aload 4, 2) := by decide +kernel
theorem dX10_meet_66 : decode cX10_meet 66 = .ok (.invokestatic 272, 3) := by decide +kernel
theorem dX10_meet_69 : decode cX10_meet 69 = .ok (.ireturn, 1) := by decide +kernel
theorem dX10_right_0 : decode cX10_right 0 = .ok (.aload_n 0, 1) := by decide +kernel
theorem dX10_right_1 : decode cX10_right 1 = .ok (.iload_n 1, 1) := by decide +kernel
theorem dX10_right_2 : decode cX10_right 2 = .ok (.iload_n 2, 1) := by decide +kernel
theorem dX10_right_3 : decode cX10_right 3 = .ok (.invokevirtual 276, 3) := by decide +kernel
theorem dX10_right_6 : decode cX10_right 6 = .ok (.istore_n 3, 1) := by decide +kernel
theorem dX10_right_7 : decode cX10_right 7 = .ok (.iload_n 3, 1) := by decide +kernel
theorem dX10_right_8 : decode cX10_right 8 = .ok (.ifCond .ge 5, 3) := by decide +kernel
theorem dX10_right_11 : decode cX10_right 11 = .ok (.iload_n 3, 1) := by decide +kernel
theorem dX10_right_12 : decode cX10_right 12 = .ok (.ireturn, 1) := by decide +kernel
theorem dX10_right_13 : decode cX10_right 13 = .ok (.iload_n 3, 1) := by decide +kernel
theorem dX10_right_14 : decode cX10_right 14 = .ok (.ifCond .ne 7, 3) := by decide +kernel
theorem dX10_right_17 : decode cX10_right 17 = .ok (.iconst 1, 1) := by decide +kernel
theorem dX10_right_18 : decode cX10_right 18 = .ok (.goto 4, 3) := by decide +kernel
theorem dX10_right_21 : decode cX10_right 21 = .ok (.iconst 0, 1) := by decide +kernel
theorem dX10_right_22 : decode cX10_right 22 = .ok (.ireturn, 1) := by decide +kernel
theorem dX10_off_0 : decode cX10_off 0 = .ok (.aload_n 0, 1) := by decide +kernel
theorem dX10_off_1 : decode cX10_off 1 = .ok (.iload_n 1, 1) := by decide +kernel
theorem dX10_off_2 : decode cX10_off 2 = .ok (.invokevirtual 181, 3) := by decide +kernel
theorem dX10_off_5 : decode cX10_off 5 = .ok (.astore_n 3, 1) := by decide +kernel
theorem dX10_off_6 : decode cX10_off 6 = .ok (.aload_n 3, 1) := by decide +kernel
theorem dX10_off_7 : decode cX10_off 7 = .ok (.ifnonnull 5, 3) := by decide +kernel
theorem dX10_off_10 : decode cX10_off 10 = .ok (.iconst (-1), 1) := by decide +kernel
theorem dX10_off_11 : decode cX10_off 11 = .ok (.ireturn, 1) := by decide +kernel
theorem dX10_off_12 : decode cX10_off 12 = .ok (.aload_n 3, 1) := by decide +kernel
theorem dX10_off_13 : decode cX10_off 13 = .ok (.iload_n 2, 1) := by decide +kernel
theorem dX10_off_14 : decode cX10_off 14 = .ok (.invokevirtual 202, 3) := by decide +kernel
theorem dX10_off_17 : decode cX10_off 17 = .ok (.astore 4, 2) := by decide +kernel
theorem dX10_off_19 : decode cX10_off 19 = .ok (.aload_n 3, 1) := by decide +kernel
theorem dX10_off_20 : decode cX10_off 20 = .ok (.getfield 185, 3) := by decide +kernel
theorem dX10_off_23 : decode cX10_off 23 = .ok (.ifCond .eq 8, 3) := by decide +kernel
theorem dX10_off_26 : decode cX10_off 26 = .ok (.aload 4, 2) := by decide +kernel
theorem dX10_off_28 : decode cX10_off 28 = .ok (.ifnonnull 9, 3) := by decide +kernel
theorem dX10_off_31 : decode cX10_off 31 = .ok (.aload_n 0, 1) := by decide +kernel
theorem dX10_off_32 : decode cX10_off 32 = .ok (.iconst 1, 1) := by decide +kernel
theorem dX10_off_33 : decode cX10_off 33 = .ok (.invokevirtual 62, 3) := by decide +kernel
theorem dX10_off_36 : decode cX10_off 36 = .ok (.ireturn, 1) := by decide +kernel
theorem dX10_off_37 : decode cX10_off 37 = .ok (.aload 4, 2) := by decide +kernel
theorem dX10_off_39 : decode cX10_off 39 = .ok (.instanceof 112, 3) := by decide +kernel
theorem dX10_off_42 : decode cX10_off 42 = .ok (.ifCond .eq 13, 3) := by decide +kernel
theorem dX10_off_45 : decode cX10_off 45 = .ok (.aload 4, 2) := by decide +kernel
theorem dX10_off_47 : decode cX10_off 47 = .ok (.checkcast 112, 3) := by decide +kernel
theorem dX10_off_50 : decode cX10_off 50 = .ok (.astore 5, 2) := by decide +kernel
theorem dX10_off_52 : decode cX10_off 52 = .ok (.goto 9, 3) := by decide +kernel
theorem dX10_off_55 : decode cX10_off 55 = .ok (.aload_n 0, 1) := by decide +kernel
theorem dX10_off_56 : decode cX10_off 56 = .ok (.iconst 3, 1) := by decide +kernel
theorem dX10_off_57 : decode cX10_off 57 = .ok (.invokevirtual 62, 3) := by decide +kernel
theorem dX10_off_60 : decode cX10_off 60 = .ok (.ireturn, 1) := by decide +kernel
theorem dX10_off_61 : decode cX10_off 61 = .ok (.aload 5, 2) := by decide +kernel
theorem dX10_off_63 : decode cX10_off 63 = .ok (.aload_n 3, 1) := by decide +kernel
theorem dX10_off_64 : decode cX10_off 64 = .ok (.iload_n 2, 1) := by decide +kernel
theorem dX10_off_65 : decode cX10_off 65 = .ok (.invokevirtual 280, 3) := by decide +kernel
theorem dX10_off_68 : decode cX10_off 68 = .ok (.invokevirtual 283, 3) := by decide +kernel
theorem dX10_off_71 : decode cX10_off 71 = .ok (.ireturn, 1) := by decide +kernel
theorem dX10_putRight_0 : decode cX10_putRight 0 = .ok (.aload_n 0, 1) := by decide +kernel
theorem dX10_putRight_1 : decode cX10_putRight 1 = .ok (.iload_n 1, 1) := by decide +kernel
theorem dX10_putRight_2 : decode cX10_putRight 2 = .ok (.invokevirtual 181, 3) := by decide +kernel
theorem dX10_putRight_5 : decode cX10_putRight 5 = .ok (.astore_n 3, 1) := by decide +kernel
theorem dX10_putRight_6 : decode cX10_putRight 6 = .ok (.aload_n 3, 1) := by decide +kernel
theorem dX10_putRight_7 : decode cX10_putRight 7 = .ok (.ifnull 10, 3) := by decide +kernel
theorem dX10_putRight_10 : decode cX10_putRight 10 = .ok (.iload_n 2, 1) := by decide +kernel
theorem dX10_putRight_11 : decode cX10_putRight 11 = .ok (.invokestatic 286, 3) := by decide +kernel
theorem dX10_putRight_14 : decode cX10_putRight 14 = .ok (.ifCond .ne 5, 3) := by decide +kernel
theorem dX10_putRight_17 : decode cX10_putRight 17 = .ok (.iconst (-1), 1) := by decide +kernel
theorem dX10_putRight_18 : decode cX10_putRight 18 = .ok (.ireturn, 1) := by decide +kernel
theorem dX10_putRight_19 : decode cX10_putRight 19 = .ok (.aload_n 3, 1) := by decide +kernel
theorem dX10_putRight_20 : decode cX10_putRight 20 = .ok (.iconst 0, 1) := by decide +kernel
theorem dX10_putRight_21 : decode cX10_putRight 21 = .ok (.invokevirtual 202, 3) := by decide +kernel
theorem dX10_putRight_24 : decode cX10_putRight 24 = .ok (.astore 4, 2) := by decide +kernel
theorem dX10_putRight_26 : decode cX10_putRight 26 = .ok (.aload_n 3, 1) := by decide +kernel
theorem dX10_putRight_27 : decode cX10_putRight 27 = .ok (.getfield 185, 3) := by decide +kernel
theorem dX10_putRight_30 : decode cX10_putRight 30 = .ok (.ifCond .eq 8, 3) := by decide +kernel
theorem dX10_putRight_33 : decode cX10_putRight 33 = .ok (.aload 4, 2) := by decide +kernel
theorem dX10_putRight_35 : decode cX10_putRight 35 = .ok (.ifnonnull 9, 3) := by decide +kernel
theorem dX10_putRight_38 : decode cX10_putRight 38 = .ok (.aload_n 0, 1) := by decide +kernel
theorem dX10_putRight_39 : decode cX10_putRight 39 = .ok (.iconst 1, 1) := by decide +kernel
theorem dX10_putRight_40 : decode cX10_putRight 40 = .ok (.invokevirtual 62, 3) := by decide +kernel
theorem dX10_putRight_43 : decode cX10_putRight 43 = .ok (.ireturn, 1) := by decide +kernel
theorem dX10_putRight_44 : decode cX10_putRight 44 = .ok (.aload 4, 2) := by decide +kernel
theorem dX10_putRight_46 : decode cX10_putRight 46 = .ok (.instanceof 112, 3) := by decide +kernel
theorem dX10_putRight_49 : decode cX10_putRight 49 = .ok (.ifCond .eq 21, 3) := by decide +kernel
theorem dX10_putRight_52 : decode cX10_putRight 52 = .ok (.aload 4, 2) := by decide +kernel
theorem dX10_putRight_54 : decode cX10_putRight 54 = .ok (.checkcast 112, 3) := by decide +kernel
theorem dX10_putRight_57 : decode cX10_putRight 57 = .ok (.astore 5, 2) := by decide +kernel
theorem dX10_putRight_59 : decode cX10_putRight 59 = .ok (.aload 5, 2) := by decide +kernel
theorem dX10_putRight_61 : decode cX10_putRight 61 = .ok (.getfield 289, 3) := by decide +kernel
theorem dX10_putRight_64 : decode cX10_putRight 64 = .ok (.arraylength, 1) := by decide +kernel
theorem dX10_putRight_65 : decode cX10_putRight 65 = .ok (.bipush 12, 2) := by decide +kernel
theorem dX10_putRight_67 : decode cX10_putRight 67 = .ok (.if_icmp .eq 9, 3) := by decide +kernel
theorem dX10_putRight_70 : decode cX10_putRight 70 = .ok (.aload_n 0, 1) := by decide +kernel
theorem dX10_putRight_71 : decode cX10_putRight 71 = .ok (.iconst 3, 1) := by decide +kernel
theorem dX10_putRight_72 : decode cX10_putRight 72 = .ok (.invokevirtual 62, 3) := by decide +kernel
theorem dX10_putRight_75 : decode cX10_putRight 75 = .ok (.ireturn, 1) := by decide +kernel
theorem dX10_putRight_76 : decode cX10_putRight 76 = .ok (.aload_n 0, 1) := by decide +kernel
theorem dX10_putRight_77 : decode cX10_putRight 77 = .ok (.getfield 30, 3) := by decide +kernel
theorem dX10_putRight_80 : decode cX10_putRight 80 = .ok (.aload 5, 2) := by decide +kernel
theorem dX10_putRight_82 : decode cX10_putRight 82 = .ok (.aload_n 3, 1) := by decide +kernel
theorem dX10_putRight_83 : decode cX10_putRight 83 = .ok (.iconst 0, 1) := by decide +kernel
theorem dX10_putRight_84 : decode cX10_putRight 84 = .ok (.invokevirtual 280, 3) := by decide +kernel
theorem dX10_putRight_87 : decode cX10_putRight 87 = .ok (.iload_n 2, 1) := by decide +kernel
theorem dX10_putRight_88 : decode cX10_putRight 88 = .ok (.iconst 1, 1) := by decide +kernel
theorem dX10_putRight_89 : decode cX10_putRight 89 = .ok (.isub, 1) := by decide +kernel
theorem dX10_putRight_90 : decode cX10_putRight 90 = .ok (.invokevirtual 290, 3) := by decide +kernel
theorem dX10_putRight_93 : decode cX10_putRight 93 = .ok (.istore 6, 2) := by decide +kernel
theorem dX10_putRight_95 : decode cX10_putRight 95 = .ok (.aload_n 0, 1) := by decide +kernel
theorem dX10_putRight_96 : decode cX10_putRight 96 = .ok (.aload_n 0, 1) := by decide +kernel
theorem dX10_putRight_97 : decode cX10_putRight 97 = .ok (.getfield 30, 3) := by decide +kernel
theorem dX10_putRight_100 : decode cX10_putRight 100 = .ok (.getfield 294, 3) := by decide +kernel
theorem dX10_putRight_103 : decode cX10_putRight 103 = .ok (.putfield 297, 3) := by decide +kernel
theorem dX10_putRight_106 : decode cX10_putRight 106 = .ok (.iload 6, 2) := by decide +kernel
theorem dX10_putRight_108 : decode cX10_putRight 108 = .ok (.ireturn, 1) := by decide +kernel
theorem dX10_act_0 : decode cX10_act 0 = .ok (.aload_n 0, 1) := by decide +kernel
theorem dX10_act_1 : decode cX10_act 1 = .ok (.getfield 30, 3) := by decide +kernel
theorem dX10_act_4 : decode cX10_act 4 = .ok (.iload_n 1, 1) := by decide +kernel
theorem dX10_act_5 : decode cX10_act 5 = .ok (.invokevirtual 300, 3) := by decide +kernel
theorem dX10_act_8 : decode cX10_act 8 = .ok (.ireturn, 1) := by decide +kernel
theorem dX10_due_0 : decode cX10_due 0 = .ok (.iload_n 1, 1) := by decide +kernel
theorem dX10_due_1 : decode cX10_due 1 = .ok (.invokestatic 286, 3) := by decide +kernel
theorem dX10_due_4 : decode cX10_due 4 = .ok (.ifCond .eq 24, 3) := by decide +kernel
theorem dX10_due_7 : decode cX10_due 7 = .ok (.iload_n 2, 1) := by decide +kernel
theorem dX10_due_8 : decode cX10_due 8 = .ok (.ifCond .lt 20, 3) := by decide +kernel
theorem dX10_due_11 : decode cX10_due 11 = .ok (.iload_n 2, 1) := by decide +kernel
theorem dX10_due_12 : decode cX10_due 12 = .ok (.bipush 48, 2) := by decide +kernel
theorem dX10_due_14 : decode cX10_due 14 = .ok (.if_icmp .ge 14, 3) := by decide +kernel
theorem dX10_due_17 : decode cX10_due 17 = .ok (.iload_n 3, 1) := by decide +kernel
theorem dX10_due_18 : decode cX10_due 18 = .ok (.iload 4, 2) := by decide +kernel
theorem dX10_due_20 : decode cX10_due 20 = .ok (.iload 5, 2) := by decide +kernel
theorem dX10_due_22 : decode cX10_due 22 = .ok (.invokestatic 303, 3) := by decide +kernel
theorem dX10_due_25 : decode cX10_due 25 = .ok (.ifCond .ne 5, 3) := by decide +kernel
theorem dX10_due_28 : decode cX10_due 28 = .ok (.iconst (-1), 1) := by decide +kernel
theorem dX10_due_29 : decode cX10_due 29 = .ok (.ireturn, 1) := by decide +kernel
theorem dX10_due_30 : decode cX10_due 30 = .ok (.iload_n 1, 1) := by decide +kernel
theorem dX10_due_31 : decode cX10_due 31 = .ok (.iload_n 2, 1) := by decide +kernel
theorem dX10_due_32 : decode cX10_due 32 = .ok (.iload_n 3, 1) := by decide +kernel
theorem dX10_due_33 : decode cX10_due 33 = .ok (.iload 4, 2) := by decide +kernel
theorem dX10_due_35 : decode cX10_due 35 = .ok (.iload 5, 2) := by decide +kernel
theorem dX10_due_37 : decode cX10_due 37 = .ok (.invokestatic 307, 3) := by decide +kernel
theorem dX10_due_40 : decode cX10_due 40 = .ok (.ireturn, 1) := by decide +kernel
theorem dX10_misfits_0 : decode cX10_misfits 0 = .ok (.aload_n 0, 1) := by decide +kernel
theorem dX10_misfits_1 : decode cX10_misfits 1 = .ok (.iload_n 1, 1) := by decide +kernel
theorem dX10_misfits_2 : decode cX10_misfits 2 = .ok (.iload_n 2, 1) := by decide +kernel
theorem dX10_misfits_3 : decode cX10_misfits 3 = .ok (.iload_n 3, 1) := by decide +kernel
theorem dX10_misfits_4 : decode cX10_misfits 4 = .ok (.iload 4, 2) := by decide +kernel
theorem dX10_misfits_6 : decode cX10_misfits 6 = .ok (.iload 5, 2) := by decide +kernel
theorem dX10_misfits_8 : decode cX10_misfits 8 = .ok (.invokestatic 303, 3) := by decide +kernel
theorem dX10_misfits_11 : decode cX10_misfits 11 = .ok (.invokevirtual 311, 3) := by decide +kernel
theorem dX10_misfits_14 : decode cX10_misfits 14 = .ok (.istore 6, 2) := by decide +kernel
theorem dX10_misfits_16 : decode cX10_misfits 16 = .ok (.iload 6, 2) := by decide +kernel
theorem dX10_misfits_18 : decode cX10_misfits 18 = .ok (.ifCond .eq 6, 3) := by decide +kernel
theorem dX10_misfits_21 : decode cX10_misfits 21 = .ok (.iload 6, 2) := by decide +kernel
theorem dX10_misfits_23 : decode cX10_misfits 23 = .ok (.ireturn, 1) := by decide +kernel
theorem dX10_misfits_24 : decode cX10_misfits 24 = .ok (.aload_n 0, 1) := by decide +kernel
theorem dX10_misfits_25 : decode cX10_misfits 25 = .ok (.getfield 37, 3) := by decide +kernel
theorem dX10_misfits_28 : decode cX10_misfits 28 = .ok (.aload_n 0, 1) := by decide +kernel
theorem dX10_misfits_29 : decode cX10_misfits 29 = .ok (.iload_n 1, 1) := by decide +kernel
theorem dX10_misfits_30 : decode cX10_misfits 30 = .ok (.invokevirtual 58, 3) := by decide +kernel
theorem dX10_misfits_33 : decode cX10_misfits 33 = .ok (.iload_n 2, 1) := by decide +kernel
theorem dX10_misfits_34 : decode cX10_misfits 34 = .ok (.invokevirtual 315, 3) := by decide +kernel
theorem dX10_misfits_37 : decode cX10_misfits 37 = .ok (.aload_n 0, 1) := by decide +kernel
theorem dX10_misfits_38 : decode cX10_misfits 38 = .ok (.getfield 37, 3) := by decide +kernel
theorem dX10_misfits_41 : decode cX10_misfits 41 = .ok (.iload_n 3, 1) := by decide +kernel
theorem dX10_misfits_42 : decode cX10_misfits 42 = .ok (.iload 4, 2) := by decide +kernel
theorem dX10_misfits_44 : decode cX10_misfits 44 = .ok (.iload 5, 2) := by decide +kernel
theorem dX10_misfits_46 : decode cX10_misfits 46 = .ok (.invokevirtual 319, 3) := by decide +kernel
theorem dX10_misfits_49 : decode cX10_misfits 49 = .ok (.ireturn, 1) := by decide +kernel
theorem dX10_fault_0 : decode cX10_fault 0 = .ok (.aload_n 0, 1) := by decide +kernel
theorem dX10_fault_1 : decode cX10_fault 1 = .ok (.iload_n 1, 1) := by decide +kernel
theorem dX10_fault_2 : decode cX10_fault 2 = .ok (.iload_n 2, 1) := by decide +kernel
theorem dX10_fault_3 : decode cX10_fault 3 = .ok (.iconst 1, 1) := by decide +kernel
theorem dX10_fault_4 : decode cX10_fault 4 = .ok (.invokevirtual 311, 3) := by decide +kernel
theorem dX10_fault_7 : decode cX10_fault 7 = .ok (.istore_n 3, 1) := by decide +kernel
theorem dX10_fault_8 : decode cX10_fault 8 = .ok (.iload_n 3, 1) := by decide +kernel
theorem dX10_fault_9 : decode cX10_fault 9 = .ok (.ifCond .eq 5, 3) := by decide +kernel
theorem dX10_fault_12 : decode cX10_fault 12 = .ok (.iload_n 3, 1) := by decide +kernel
theorem dX10_fault_13 : decode cX10_fault 13 = .ok (.ireturn, 1) := by decide +kernel
theorem dX10_fault_14 : decode cX10_fault 14 = .ok (.aload_n 0, 1) := by decide +kernel
theorem dX10_fault_15 : decode cX10_fault 15 = .ok (.getfield 37, 3) := by decide +kernel
theorem dX10_fault_18 : decode cX10_fault 18 = .ok (.aload_n 0, 1) := by decide +kernel
theorem dX10_fault_19 : decode cX10_fault 19 = .ok (.iload_n 1, 1) := by decide +kernel
theorem dX10_fault_20 : decode cX10_fault 20 = .ok (.invokevirtual 58, 3) := by decide +kernel
theorem dX10_fault_23 : decode cX10_fault 23 = .ok (.iload_n 2, 1) := by decide +kernel
theorem dX10_fault_24 : decode cX10_fault 24 = .ok (.invokevirtual 315, 3) := by decide +kernel
theorem dX10_fault_27 : decode cX10_fault 27 = .ok (.aload_n 0, 1) := by decide +kernel
theorem dX10_fault_28 : decode cX10_fault 28 = .ok (.getfield 37, 3) := by decide +kernel
theorem dX10_fault_31 : decode cX10_fault 31 = .ok (.invokevirtual 323, 3) := by decide +kernel
theorem dX10_fault_34 : decode cX10_fault 34 = .ok (.aload_n 0, 1) := by decide +kernel
theorem dX10_fault_35 : decode cX10_fault 35 = .ok (.aload_n 0, 1) := by decide +kernel
theorem dX10_fault_36 : decode cX10_fault 36 = .ok (.getfield 37, 3) := by decide +kernel
theorem dX10_fault_39 : decode cX10_fault 39 = .ok (.getfield 326, 3) := by decide +kernel
theorem dX10_fault_42 : decode cX10_fault 42 = .ok (.putfield 41, 3) := by decide +kernel
theorem dX10_fault_45 : decode cX10_fault 45 = .ok (.aload_n 0, 1) := by decide +kernel
theorem dX10_fault_46 : decode cX10_fault 46 = .ok (.aload_n 0, 1) := by decide +kernel
theorem dX10_fault_47 : decode cX10_fault 47 = .ok (.getfield 37, 3) := by decide +kernel
theorem dX10_fault_50 : decode cX10_fault 50 = .ok (.getfield 329, 3) := by decide +kernel
theorem dX10_fault_53 : decode cX10_fault 53 = .ok (.putfield 332, 3) := by decide +kernel
theorem dX10_fault_56 : decode cX10_fault 56 = .ok (.aload_n 0, 1) := by decide +kernel
theorem dX10_fault_57 : decode cX10_fault 57 = .ok (.aload_n 0, 1) := by decide +kernel
theorem dX10_fault_58 : decode cX10_fault 58 = .ok (.getfield 37, 3) := by decide +kernel
theorem dX10_fault_61 : decode cX10_fault 61 = .ok (.getfield 335, 3) := by decide +kernel
theorem dX10_fault_64 : decode cX10_fault 64 = .ok (.putfield 338, 3) := by decide +kernel
theorem dX10_fault_67 : decode cX10_fault 67 = .ok (.aload_n 0, 1) := by decide +kernel
theorem dX10_fault_68 : decode cX10_fault 68 = .ok (.aload_n 0, 1) := by decide +kernel
theorem dX10_fault_69 : decode cX10_fault 69 = .ok (.getfield 37, 3) := by decide +kernel
theorem dX10_fault_72 : decode cX10_fault 72 = .ok (.getfield 341, 3) := by decide +kernel
theorem dX10_fault_75 : decode cX10_fault 75 = .ok (.putfield 297, 3) := by decide +kernel
theorem dX10_fault_78 : decode cX10_fault 78 = .ok (.aload_n 0, 1) := by decide +kernel
theorem dX10_fault_79 : decode cX10_fault 79 = .ok (.getfield 41, 3) := by decide +kernel
theorem dX10_fault_82 : decode cX10_fault 82 = .ok (.ireturn, 1) := by decide +kernel
theorem dX10_faultTold_0 : decode cX10_faultTold 0 = .ok (.aload_n 0, 1) := by decide +kernel
theorem dX10_faultTold_1 : decode cX10_faultTold 1 = .ok (.getfield 41, 3) := by decide +kernel
theorem dX10_faultTold_4 : decode cX10_faultTold 4 = .ok (.bipush (-9), 2) := by decide +kernel
theorem dX10_faultTold_6 : decode cX10_faultTold 6 = .ok (.if_icmp .eq 10, 3) := by decide +kernel
theorem dX10_faultTold_9 : decode cX10_faultTold 9 = .ok (.aload_n 0, 1) := by decide +kernel
theorem dX10_faultTold_10 : decode cX10_faultTold 10 = .ok (.getfield 41, 3) := by decide +kernel
theorem dX10_faultTold_13 : decode cX10_faultTold 13 = .ok (.ifCond .ne 6, 3) := by decide +kernel
theorem dX10_faultTold_16 : decode cX10_faultTold 16 = .ok (.bipush (-9), 2) := by decide +kernel
theorem dX10_faultTold_18 : decode cX10_faultTold 18 = .ok (.ireturn, 1) := by decide +kernel
theorem dX10_faultTold_19 : decode cX10_faultTold 19 = .ok (.iload_n 1, 1) := by decide +kernel
theorem dX10_faultTold_20 : decode cX10_faultTold 20 = .ok (.ifCond .ne 8, 3) := by decide +kernel
theorem dX10_faultTold_23 : decode cX10_faultTold 23 = .ok (.aload_n 0, 1) := by decide +kernel
theorem dX10_faultTold_24 : decode cX10_faultTold 24 = .ok (.getfield 332, 3) := by decide +kernel
theorem dX10_faultTold_27 : decode cX10_faultTold 27 = .ok (.ireturn, 1) := by decide +kernel
theorem dX10_faultTold_28 : decode cX10_faultTold 28 = .ok (.aload_n 0, 1) := by decide +kernel
theorem dX10_faultTold_29 : decode cX10_faultTold 29 = .ok (.getfield 41, 3) := by decide +kernel
theorem dX10_faultTold_32 : decode cX10_faultTold 32 = .ok (.iconst 3, 1) := by decide +kernel
theorem dX10_faultTold_33 : decode cX10_faultTold 33 = .ok (.if_icmp .ne 8, 3) := by decide +kernel
theorem dX10_faultTold_36 : decode cX10_faultTold 36 = .ok (.bipush (-9), 2) := by decide +kernel
theorem dX10_faultTold_38 : decode cX10_faultTold 38 = .ok (.goto 7, 3) := by decide +kernel
theorem dX10_faultTold_41 : decode cX10_faultTold 41 = .ok (.aload_n 0, 1) := by decide +kernel
theorem dX10_faultTold_42 : decode cX10_faultTold 42 = .ok (.getfield 338, 3) := by decide +kernel
theorem dX10_faultTold_45 : decode cX10_faultTold 45 = .ok (.ireturn, 1) := by decide +kernel
theorem dX10_explained_0 : decode cX10_explained 0 = .ok (.aload_n 0, 1) := by decide +kernel
theorem dX10_explained_1 : decode cX10_explained 1 = .ok (.iload_n 1, 1) := by decide +kernel
theorem dX10_explained_2 : decode cX10_explained 2 = .ok (.iload_n 2, 1) := by decide +kernel
theorem dX10_explained_3 : decode cX10_explained 3 = .ok (.iconst 1, 1) := by decide +kernel
theorem dX10_explained_4 : decode cX10_explained 4 = .ok (.invokevirtual 311, 3) := by decide +kernel
theorem dX10_explained_7 : decode cX10_explained 7 = .ok (.istore_n 3, 1) := by decide +kernel
theorem dX10_explained_8 : decode cX10_explained 8 = .ok (.iload_n 3, 1) := by decide +kernel
theorem dX10_explained_9 : decode cX10_explained 9 = .ok (.ifCond .eq 5, 3) := by decide +kernel
theorem dX10_explained_12 : decode cX10_explained 12 = .ok (.iload_n 3, 1) := by decide +kernel
theorem dX10_explained_13 : decode cX10_explained 13 = .ok (.ireturn, 1) := by decide +kernel
theorem dX10_explained_14 : decode cX10_explained 14 = .ok (.aload_n 0, 1) := by decide +kernel
theorem dX10_explained_15 : decode cX10_explained 15 = .ok (.getfield 37, 3) := by decide +kernel
theorem dX10_explained_18 : decode cX10_explained 18 = .ok (.aload_n 0, 1) := by decide +kernel
theorem dX10_explained_19 : decode cX10_explained 19 = .ok (.iload_n 1, 1) := by decide +kernel
theorem dX10_explained_20 : decode cX10_explained 20 = .ok (.invokevirtual 58, 3) := by decide +kernel
theorem dX10_explained_23 : decode cX10_explained 23 = .ok (.iload_n 2, 1) := by decide +kernel
theorem dX10_explained_24 : decode cX10_explained 24 = .ok (.invokevirtual 315, 3) := by decide +kernel
theorem dX10_explained_27 : decode cX10_explained 27 = .ok (.aload_n 0, 1) := by decide +kernel
theorem dX10_explained_28 : decode cX10_explained 28 = .ok (.getfield 37, 3) := by decide +kernel
theorem dX10_explained_31 : decode cX10_explained 31 = .ok (.invokevirtual 323, 3) := by decide +kernel
theorem dX10_explained_34 : decode cX10_explained 34 = .ok (.aload_n 0, 1) := by decide +kernel
theorem dX10_explained_35 : decode cX10_explained 35 = .ok (.getfield 37, 3) := by decide +kernel
theorem dX10_explained_38 : decode cX10_explained 38 = .ok (.getfield 344, 3) := by decide +kernel
theorem dX10_explained_41 : decode cX10_explained 41 = .ok (.ireturn, 1) := by decide +kernel
theorem dX10_windy_0 : decode cX10_windy 0 = .ok (.aload_n 0, 1) := by decide +kernel
theorem dX10_windy_1 : decode cX10_windy 1 = .ok (.iload_n 1, 1) := by decide +kernel
theorem dX10_windy_2 : decode cX10_windy 2 = .ok (.iload_n 2, 1) := by decide +kernel
theorem dX10_windy_3 : decode cX10_windy 3 = .ok (.iload_n 3, 1) := by decide +kernel
theorem dX10_windy_4 : decode cX10_windy 4 = .ok (.iload 4, 2) := by decide +kernel
theorem dX10_windy_6 : decode cX10_windy 6 = .ok (.iload 5, 2) := by decide +kernel
theorem dX10_windy_8 : decode cX10_windy 8 = .ok (.invokestatic 303, 3) := by decide +kernel
theorem dX10_windy_11 : decode cX10_windy 11 = .ok (.invokevirtual 311, 3) := by decide +kernel
theorem dX10_windy_14 : decode cX10_windy 14 = .ok (.istore 6, 2) := by decide +kernel
theorem dX10_windy_16 : decode cX10_windy 16 = .ok (.iload 6, 2) := by decide +kernel
theorem dX10_windy_18 : decode cX10_windy 18 = .ok (.ifCond .eq 6, 3) := by decide +kernel
theorem dX10_windy_21 : decode cX10_windy 21 = .ok (.iload 6, 2) := by decide +kernel
theorem dX10_windy_23 : decode cX10_windy 23 = .ok (.ireturn, 1) := by decide +kernel
theorem dX10_windy_24 : decode cX10_windy 24 = .ok (.aload_n 0, 1) := by decide +kernel
theorem dX10_windy_25 : decode cX10_windy 25 = .ok (.getfield 37, 3) := by decide +kernel
theorem dX10_windy_28 : decode cX10_windy 28 = .ok (.aload_n 0, 1) := by decide +kernel
theorem dX10_windy_29 : decode cX10_windy 29 = .ok (.iload_n 1, 1) := by decide +kernel
theorem dX10_windy_30 : decode cX10_windy 30 = .ok (.invokevirtual 58, 3) := by decide +kernel
theorem dX10_windy_33 : decode cX10_windy 33 = .ok (.iload_n 2, 1) := by decide +kernel
theorem dX10_windy_34 : decode cX10_windy 34 = .ok (.invokevirtual 315, 3) := by decide +kernel
theorem dX10_windy_37 : decode cX10_windy 37 = .ok (.aload_n 0, 1) := by decide +kernel
theorem dX10_windy_38 : decode cX10_windy 38 = .ok (.getfield 37, 3) := by decide +kernel
theorem dX10_windy_41 : decode cX10_windy 41 = .ok (.iload_n 3, 1) := by decide +kernel
theorem dX10_windy_42 : decode cX10_windy 42 = .ok (.iload 4, 2) := by decide +kernel
theorem dX10_windy_44 : decode cX10_windy 44 = .ok (.iload 5, 2) := by decide +kernel
theorem dX10_windy_46 : decode cX10_windy 46 = .ok (.invokevirtual 347, 3) := by decide +kernel
theorem dX10_windy_49 : decode cX10_windy 49 = .ok (.istore 7, 2) := by decide +kernel
theorem dX10_windy_51 : decode cX10_windy 51 = .ok (.iload 7, 2) := by decide +kernel
theorem dX10_windy_53 : decode cX10_windy 53 = .ok (.bipush (-9), 2) := by decide +kernel
theorem dX10_windy_55 : decode cX10_windy 55 = .ok (.if_icmp .ne 5, 3) := by decide +kernel
theorem dX10_windy_58 : decode cX10_windy 58 = .ok (.iconst 1, 1) := by decide +kernel
theorem dX10_windy_59 : decode cX10_windy 59 = .ok (.ireturn, 1) := by decide +kernel
theorem dX10_windy_60 : decode cX10_windy 60 = .ok (.aload_n 0, 1) := by decide +kernel
theorem dX10_windy_61 : decode cX10_windy 61 = .ok (.iload 7, 2) := by decide +kernel
theorem dX10_windy_63 : decode cX10_windy 63 = .ok (.putfield 297, 3) := by decide +kernel
theorem dX10_windy_66 : decode cX10_windy 66 = .ok (.iconst 0, 1) := by decide +kernel
theorem dX10_windy_67 : decode cX10_windy 67 = .ok (.ireturn, 1) := by decide +kernel
theorem dX10_wheel_0 : decode cX10_wheel 0 = .ok (.iload_n 1, 1) := by decide +kernel
theorem dX10_wheel_1 : decode cX10_wheel 1 = .ok (.bipush 6, 2) := by decide +kernel
theorem dX10_wheel_3 : decode cX10_wheel 3 = .ok (.if_icmp .lt 10, 3) := by decide +kernel
theorem dX10_wheel_6 : decode cX10_wheel 6 = .ok (.iload_n 1, 1) := by decide +kernel
theorem dX10_wheel_7 : decode cX10_wheel 7 = .ok (.sipush 200, 3) := by decide +kernel
theorem dX10_wheel_10 : decode cX10_wheel 10 = .ok (.if_icmp .le 5, 3) := by decide +kernel
theorem dX10_wheel_13 : decode cX10_wheel 13 = .ok (.iconst (-1), 1) := by decide +kernel
theorem dX10_wheel_14 : decode cX10_wheel 14 = .ok (.ireturn, 1) := by decide +kernel
theorem dX10_wheel_15 : decode cX10_wheel 15 = .ok (.aload_n 0, 1) := by decide +kernel
theorem dX10_wheel_16 : decode cX10_wheel 16 = .ok (.getfield 48, 3) := by decide +kernel
theorem dX10_wheel_19 : decode cX10_wheel 19 = .ok (.getfield 350, 3) := by decide +kernel
theorem dX10_wheel_22 : decode cX10_wheel 22 = .ok (.bipush 12, 2) := by decide +kernel
theorem dX10_wheel_24 : decode cX10_wheel 24 = .ok (.if_icmp .lt 6, 3) := by decide +kernel
theorem dX10_wheel_27 : decode cX10_wheel 27 = .ok (.bipush (-2), 2) := by decide +kernel
theorem dX10_wheel_29 : decode cX10_wheel 29 = .ok (.ireturn, 1) := by decide +kernel
theorem dX10_wheel_30 : decode cX10_wheel 30 = .ok (.aload_n 0, 1) := by decide +kernel
theorem dX10_wheel_31 : decode cX10_wheel 31 = .ok (.getfield 48, 3) := by decide +kernel
theorem dX10_wheel_34 : decode cX10_wheel 34 = .ok (.iload_n 1, 1) := by decide +kernel
theorem dX10_wheel_35 : decode cX10_wheel 35 = .ok (.invokevirtual 353, 3) := by decide +kernel
theorem dX10_wheel_38 : decode cX10_wheel 38 = .ok (.ireturn, 1) := by decide +kernel
theorem dX10_nearest_0 : decode cX10_nearest 0 = .ok (.iload_n 1, 1) := by decide +kernel
theorem dX10_nearest_1 : decode cX10_nearest 1 = .ok (.iconst 1, 1) := by decide +kernel
theorem dX10_nearest_2 : decode cX10_nearest 2 = .ok (.if_icmp .lt 32, 3) := by decide +kernel
theorem dX10_nearest_5 : decode cX10_nearest 5 = .ok (.iload_n 1, 1) := by decide +kernel
theorem dX10_nearest_6 : decode cX10_nearest 6 = .ok (.sipush 10000, 3) := by decide +kernel
theorem dX10_nearest_9 : decode cX10_nearest 9 = .ok (.if_icmp .gt 25, 3) := by decide +kernel
theorem dX10_nearest_12 : decode cX10_nearest 12 = .ok (.iload_n 2, 1) := by decide +kernel
theorem dX10_nearest_13 : decode cX10_nearest 13 = .ok (.iconst 1, 1) := by decide +kernel
theorem dX10_nearest_14 : decode cX10_nearest 14 = .ok (.if_icmp .lt 20, 3) := by decide +kernel
theorem dX10_nearest_17 : decode cX10_nearest 17 = .ok (.iload_n 2, 1) := by decide +kernel
theorem dX10_nearest_18 : decode cX10_nearest 18 = .ok (.sipush 10000, 3) := by decide +kernel
theorem dX10_nearest_21 : decode cX10_nearest 21 = .ok (.if_icmp .gt 13, 3) := by decide +kernel
theorem dX10_nearest_24 : decode cX10_nearest 24 = .ok (.iload_n 3, 1) := by decide +kernel
theorem dX10_nearest_25 : decode cX10_nearest 25 = .ok (.iconst 1, 1) := by decide +kernel
theorem dX10_nearest_26 : decode cX10_nearest 26 = .ok (.if_icmp .lt 8, 3) := by decide +kernel
theorem dX10_nearest_29 : decode cX10_nearest 29 = .ok (.iload_n 3, 1) := by decide +kernel
theorem dX10_nearest_30 : decode cX10_nearest 30 = .ok (.iconst 2, 1) := by decide +kernel
theorem dX10_nearest_31 : decode cX10_nearest 31 = .ok (.if_icmp .le 5, 3) := by decide +kernel
theorem dX10_nearest_34 : decode cX10_nearest 34 = .ok (.iconst (-1), 1) := by decide +kernel
theorem dX10_nearest_35 : decode cX10_nearest 35 = .ok (.ireturn, 1) := by decide +kernel
theorem dX10_nearest_36 : decode cX10_nearest 36 = .ok (.aload_n 0, 1) := by decide +kernel
theorem dX10_nearest_37 : decode cX10_nearest 37 = .ok (.getfield 48, 3) := by decide +kernel
theorem dX10_nearest_40 : decode cX10_nearest 40 = .ok (.getfield 350, 3) := by decide +kernel
theorem dX10_nearest_43 : decode cX10_nearest 43 = .ok (.iconst 2, 1) := by decide +kernel
theorem dX10_nearest_44 : decode cX10_nearest 44 = .ok (.iload_n 3, 1) := by decide +kernel
theorem dX10_nearest_45 : decode cX10_nearest 45 = .ok (.imul, 1) := by decide +kernel
theorem dX10_nearest_46 : decode cX10_nearest 46 = .ok (.if_icmp .ge 9, 3) := by decide +kernel
theorem dX10_nearest_49 : decode cX10_nearest 49 = .ok (.aload_n 0, 1) := by decide +kernel
theorem dX10_nearest_50 : decode cX10_nearest 50 = .ok (.iconst 4, 1) := by decide +kernel
theorem dX10_nearest_51 : decode cX10_nearest 51 = .ok (.invokevirtual 62, 3) := by decide +kernel
theorem dX10_nearest_54 : decode cX10_nearest 54 = .ok (.ireturn, 1) := by decide +kernel
theorem dX10_nearest_55 : decode cX10_nearest 55 = .ok (.aload_n 0, 1) := by decide +kernel
theorem dX10_nearest_56 : decode cX10_nearest 56 = .ok (.getfield 48, 3) := by decide +kernel
theorem dX10_nearest_59 : decode cX10_nearest 59 = .ok (.iload_n 1, 1) := by decide +kernel
theorem dX10_nearest_60 : decode cX10_nearest 60 = .ok (.iload_n 2, 1) := by decide +kernel
theorem dX10_nearest_61 : decode cX10_nearest 61 = .ok (.iload_n 3, 1) := by decide +kernel
theorem dX10_nearest_62 : decode cX10_nearest 62 = .ok (.invokevirtual 356, 3) := by decide +kernel
theorem dX10_nearest_65 : decode cX10_nearest 65 = .ok (.iconst 1, 1) := by decide +kernel
theorem dX10_nearest_66 : decode cX10_nearest 66 = .ok (.ireturn, 1) := by decide +kernel
theorem dX10_chosen_0 : decode cX10_chosen 0 = .ok (.aload_n 0, 1) := by decide +kernel
theorem dX10_chosen_1 : decode cX10_chosen 1 = .ok (.getfield 48, 3) := by decide +kernel
theorem dX10_chosen_4 : decode cX10_chosen 4 = .ok (.iload_n 1, 1) := by decide +kernel
theorem dX10_chosen_5 : decode cX10_chosen 5 = .ok (.invokevirtual 358, 3) := by decide +kernel
theorem dX10_chosen_8 : decode cX10_chosen 8 = .ok (.ireturn, 1) := by decide +kernel
theorem dX10_daily_0 : decode cX10_daily 0 = .ok (.aload_n 0, 1) := by decide +kernel
theorem dX10_daily_1 : decode cX10_daily 1 = .ok (.iload_n 1, 1) := by decide +kernel
theorem dX10_daily_2 : decode cX10_daily 2 = .ok (.invokevirtual 129, 3) := by decide +kernel
theorem dX10_daily_5 : decode cX10_daily 5 = .ok (.astore_n 3, 1) := by decide +kernel
theorem dX10_daily_6 : decode cX10_daily 6 = .ok (.aload_n 3, 1) := by decide +kernel
theorem dX10_daily_7 : decode cX10_daily 7 = .ok (.ifnonnull 7, 3) := by decide +kernel
theorem dX10_daily_10 : decode cX10_daily 10 = .ok (.iconst (-1), 1) := by decide +kernel
theorem dX10_daily_11 : decode cX10_daily 11 = .ok (.goto 8, 3) := by decide +kernel
theorem dX10_daily_14 : decode cX10_daily 14 = .ok (.aload_n 3, 1) := by decide +kernel
theorem dX10_daily_15 : decode cX10_daily 15 = .ok (.iload_n 2, 1) := by decide +kernel
theorem dX10_daily_16 : decode cX10_daily 16 = .ok (.invokevirtual 361, 3) := by decide +kernel
theorem dX10_daily_19 : decode cX10_daily 19 = .ok (.ireturn, 1) := by decide +kernel
theorem dX10_lasting_0 : decode cX10_lasting 0 = .ok (.aload_n 0, 1) := by decide +kernel
theorem dX10_lasting_1 : decode cX10_lasting 1 = .ok (.iload_n 1, 1) := by decide +kernel
theorem dX10_lasting_2 : decode cX10_lasting 2 = .ok (.invokevirtual 181, 3) := by decide +kernel
theorem dX10_lasting_5 : decode cX10_lasting 5 = .ok (.astore_n 2, 1) := by decide +kernel
theorem dX10_lasting_6 : decode cX10_lasting 6 = .ok (.aload_n 2, 1) := by decide +kernel
theorem dX10_lasting_7 : decode cX10_lasting 7 = .ok (.ifnonnull 5, 3) := by decide +kernel
theorem dX10_lasting_10 : decode cX10_lasting 10 = .ok (.iconst (-1), 1) := by decide +kernel
theorem dX10_lasting_11 : decode cX10_lasting 11 = .ok (.ireturn, 1) := by decide +kernel
theorem dX10_lasting_12 : decode cX10_lasting 12 = .ok (.aload_n 2, 1) := by decide +kernel
theorem dX10_lasting_13 : decode cX10_lasting 13 = .ok (.getfield 185, 3) := by decide +kernel
theorem dX10_lasting_16 : decode cX10_lasting 16 = .ok (.ifCond .ne 9, 3) := by decide +kernel
theorem dX10_lasting_19 : decode cX10_lasting 19 = .ok (.aload_n 0, 1) := by decide +kernel
theorem dX10_lasting_20 : decode cX10_lasting 20 = .ok (.iconst 1, 1) := by decide +kernel
theorem dX10_lasting_21 : decode cX10_lasting 21 = .ok (.invokevirtual 62, 3) := by decide +kernel
theorem dX10_lasting_24 : decode cX10_lasting 24 = .ok (.ireturn, 1) := by decide +kernel
theorem dX10_lasting_25 : decode cX10_lasting 25 = .ok (.aload_n 2, 1) := by decide +kernel
theorem dX10_lasting_26 : decode cX10_lasting 26 = .ok (.invokevirtual 364, 3) := by decide +kernel
theorem dX10_lasting_29 : decode cX10_lasting 29 = .ok (.ireturn, 1) := by decide +kernel
theorem dX10_lastingDays_0 : decode cX10_lastingDays 0 = .ok (.aload_n 0, 1) := by decide +kernel
theorem dX10_lastingDays_1 : decode cX10_lastingDays 1 = .ok (.iload_n 1, 1) := by decide +kernel
theorem dX10_lastingDays_2 : decode cX10_lastingDays 2 = .ok (.invokevirtual 129, 3) := by decide +kernel
theorem dX10_lastingDays_5 : decode cX10_lastingDays 5 = .ok (.astore_n 3, 1) := by decide +kernel
theorem dX10_lastingDays_6 : decode cX10_lastingDays 6 = .ok (.aload_n 3, 1) := by decide +kernel
theorem dX10_lastingDays_7 : decode cX10_lastingDays 7 = .ok (.ifnonnull 7, 3) := by decide +kernel
theorem dX10_lastingDays_10 : decode cX10_lastingDays 10 = .ok (.iconst (-1), 1) := by decide +kernel
theorem dX10_lastingDays_11 : decode cX10_lastingDays 11 = .ok (.goto 8, 3) := by decide +kernel
theorem dX10_lastingDays_14 : decode cX10_lastingDays 14 = .ok (.aload_n 3, 1) := by decide +kernel
theorem dX10_lastingDays_15 : decode cX10_lastingDays 15 = .ok (.iload_n 2, 1) := by decide +kernel
theorem dX10_lastingDays_16 : decode cX10_lastingDays 16 = .ok (.invokevirtual 367, 3) := by decide +kernel
theorem dX10_lastingDays_19 : decode cX10_lastingDays 19 = .ok (.ireturn, 1) := by decide +kernel
theorem dX10_asked_0 : decode cX10_asked 0 = .ok (.aload_n 0, 1) := by decide +kernel
theorem dX10_asked_1 : decode cX10_asked 1 = .ok (.getfield 297, 3) := by decide +kernel
theorem dX10_asked_4 : decode cX10_asked 4 = .ok (.ireturn, 1) := by decide +kernel
theorem dX10_upper_0 : decode cX10_upper 0 = .ok (.aload_n 0, 1) := by decide +kernel
theorem dX10_upper_1 : decode cX10_upper 1 = .ok (.getfield 48, 3) := by decide +kernel
theorem dX10_upper_4 : decode cX10_upper 4 = .ok (.getfield 370, 3) := by decide +kernel
theorem dX10_upper_7 : decode cX10_upper 7 = .ok (.lreturn, 1) := by decide +kernel
theorem dX10_lower_0 : decode cX10_lower 0 = .ok (.aload_n 0, 1) := by decide +kernel
theorem dX10_lower_1 : decode cX10_lower 1 = .ok (.getfield 48, 3) := by decide +kernel
theorem dX10_lower_4 : decode cX10_lower 4 = .ok (.getfield 374, 3) := by decide +kernel
theorem dX10_lower_7 : decode cX10_lower 7 = .ok (.lreturn, 1) := by decide +kernel
theorem dX10_count_0 : decode cX10_count 0 = .ok (.iload_n 1, 1) := by decide +kernel
theorem dX10_count_1 : decode cX10_count 1 = .ok (.tableswitch 72 0 5 #[39, 44, 49, 54, 62, 67], 39) := by decide +kernel
theorem dX10_count_40 : decode cX10_count 40 = .ok (.aload_n 0, 1) := by decide +kernel
theorem dX10_count_41 : decode cX10_count 41 = .ok (.getfield 236, 3) := by decide +kernel
theorem dX10_count_44 : decode cX10_count 44 = .ok (.ireturn, 1) := by decide +kernel
theorem dX10_count_45 : decode cX10_count 45 = .ok (.aload_n 0, 1) := by decide +kernel
theorem dX10_count_46 : decode cX10_count 46 = .ok (.getfield 98, 3) := by decide +kernel
theorem dX10_count_49 : decode cX10_count 49 = .ok (.ireturn, 1) := by decide +kernel
theorem dX10_count_50 : decode cX10_count 50 = .ok (.aload_n 0, 1) := by decide +kernel
theorem dX10_count_51 : decode cX10_count 51 = .ok (.invokevirtual 377, 3) := by decide +kernel
theorem dX10_count_54 : decode cX10_count 54 = .ok (.ireturn, 1) := by decide +kernel
theorem dX10_count_55 : decode cX10_count 55 = .ok (.aload_n 0, 1) := by decide +kernel
theorem dX10_count_56 : decode cX10_count 56 = .ok (.getfield 48, 3) := by decide +kernel
theorem dX10_count_59 : decode cX10_count 59 = .ok (.getfield 350, 3) := by decide +kernel
theorem dX10_count_62 : decode cX10_count 62 = .ok (.ireturn, 1) := by decide +kernel
theorem dX10_count_63 : decode cX10_count 63 = .ok (.aload_n 0, 1) := by decide +kernel
theorem dX10_count_64 : decode cX10_count 64 = .ok (.invokevirtual 380, 3) := by decide +kernel
theorem dX10_count_67 : decode cX10_count 67 = .ok (.ireturn, 1) := by decide +kernel
theorem dX10_count_68 : decode cX10_count 68 = .ok (.aload_n 0, 1) := by decide +kernel
theorem dX10_count_69 : decode cX10_count 69 = .ok (.invokevirtual 383, 3) := by decide +kernel
theorem dX10_count_72 : decode cX10_count 72 = .ok (.ireturn, 1) := by decide +kernel
theorem dX10_count_73 : decode cX10_count 73 = .ok (.iconst (-1), 1) := by decide +kernel
theorem dX10_count_74 : decode cX10_count 74 = .ok (.ireturn, 1) := by decide +kernel
theorem dX10_finding_0 : decode cX10_finding 0 = .ok (.aload_n 0, 1) := by decide +kernel
theorem dX10_finding_1 : decode cX10_finding 1 = .ok (.getfield 386, 3) := by decide +kernel
theorem dX10_finding_4 : decode cX10_finding 4 = .ok (.ireturn, 1) := by decide +kernel
theorem dX10_findings_0 : decode cX10_findings 0 = .ok (.iload_n 1, 1) := by decide +kernel
theorem dX10_findings_1 : decode cX10_findings 1 = .ok (.iconst 1, 1) := by decide +kernel
theorem dX10_findings_2 : decode cX10_findings 2 = .ok (.if_icmp .lt 21, 3) := by decide +kernel
theorem dX10_findings_5 : decode cX10_findings 5 = .ok (.iload_n 1, 1) := by decide +kernel
theorem dX10_findings_6 : decode cX10_findings 6 = .ok (.aload_n 0, 1) := by decide +kernel
theorem dX10_findings_7 : decode cX10_findings 7 = .ok (.getfield 52, 3) := by decide +kernel
theorem dX10_findings_10 : decode cX10_findings 10 = .ok (.arraylength, 1) := by decide +kernel
theorem dX10_findings_11 : decode cX10_findings 11 = .ok (.if_icmp .ge 12, 3) := by decide +kernel
theorem dX10_findings_14 : decode cX10_findings 14 = .ok (.aload_n 0, 1) := by decide +kernel
theorem dX10_findings_15 : decode cX10_findings 15 = .ok (.getfield 52, 3) := by decide +kernel
theorem dX10_findings_18 : decode cX10_findings 18 = .ok (.iload_n 1, 1) := by decide +kernel
theorem dX10_findings_19 : decode cX10_findings 19 = .ok (.iaload, 1) := by decide +kernel
theorem dX10_findings_20 : decode cX10_findings 20 = .ok (.goto 4, 3) := by decide +kernel
theorem dX10_findings_23 : decode cX10_findings 23 = .ok (.iconst (-1), 1) := by decide +kernel
theorem dX10_findings_24 : decode cX10_findings 24 = .ok (.ireturn, 1) := by decide +kernel
theorem dX10_digest_0 : decode cX10_digest 0 = .ok (.ldc2_w 389, 3) := by decide +kernel
theorem dX10_digest_3 : decode cX10_digest 3 = .ok (.aload_n 0, 1) := by decide +kernel
theorem dX10_digest_4 : decode cX10_digest 4 = .ok (.getfield 236, 3) := by decide +kernel
theorem dX10_digest_7 : decode cX10_digest 7 = .ok (.i2l, 1) := by decide +kernel
theorem dX10_digest_8 : decode cX10_digest 8 = .ok (.invokestatic 391, 3) := by decide +kernel
theorem dX10_digest_11 : decode cX10_digest 11 = .ok (.lstore_n 1, 1) := by decide +kernel
theorem dX10_digest_12 : decode cX10_digest 12 = .ok (.iconst 0, 1) := by decide +kernel
theorem dX10_digest_13 : decode cX10_digest 13 = .ok (.istore_n 3, 1) := by decide +kernel
theorem dX10_digest_14 : decode cX10_digest 14 = .ok (.iload_n 3, 1) := by decide +kernel
theorem dX10_digest_15 : decode cX10_digest 15 = .ok (.aload_n 0, 1) := by decide +kernel
theorem dX10_digest_16 : decode cX10_digest 16 = .ok (.getfield 98, 3) := by decide +kernel
theorem dX10_digest_19 : decode cX10_digest 19 = .ok (.if_icmp .ge 16, 3) := by decide +kernel
theorem dX10_digest_22 : decode cX10_digest 22 = .ok (.aload_n 0, 1) := by decide +kernel
theorem dX10_digest_23 : decode cX10_digest 23 = .ok (.lload_n 1, 1) := by decide +kernel
theorem dX10_digest_24 : decode cX10_digest 24 = .ok (.iload_n 3, 1) := by decide +kernel
theorem dX10_digest_25 : decode cX10_digest 25 = .ok (.invokevirtual 395, 3) := by decide +kernel
theorem dX10_digest_28 : decode cX10_digest 28 = .ok (.lstore_n 1, 1) := by decide +kernel
theorem dX10_digest_29 : decode cX10_digest 29 = .ok (.iinc 3 1, 3) := by decide +kernel
theorem dX10_digest_32 : decode cX10_digest 32 = .ok (.goto (-18), 3) := by decide +kernel
theorem dX10_digest_35 : decode cX10_digest 35 = .ok (.iconst 0, 1) := by decide +kernel
theorem dX10_digest_36 : decode cX10_digest 36 = .ok (.istore_n 3, 1) := by decide +kernel
theorem dX10_digest_37 : decode cX10_digest 37 = .ok (.iload_n 3, 1) := by decide +kernel
theorem dX10_digest_38 : decode cX10_digest 38 = .ok (.aload_n 0, 1) := by decide +kernel
theorem dX10_digest_39 : decode cX10_digest 39 = .ok (.getfield 23, 3) := by decide +kernel
theorem dX10_digest_42 : decode cX10_digest 42 = .ok (.arraylength, 1) := by decide +kernel
theorem dX10_digest_43 : decode cX10_digest 43 = .ok (.if_icmp .ge 16, 3) := by decide +kernel
theorem dX10_digest_46 : decode cX10_digest 46 = .ok (.aload_n 0, 1) := by decide +kernel
theorem dX10_digest_47 : decode cX10_digest 47 = .ok (.lload_n 1, 1) := by decide +kernel
theorem dX10_digest_48 : decode cX10_digest 48 = .ok (.iload_n 3, 1) := by decide +kernel
theorem dX10_digest_49 : decode cX10_digest 49 = .ok (.invokevirtual 399, 3) := by decide +kernel
theorem dX10_digest_52 : decode cX10_digest 52 = .ok (.lstore_n 1, 1) := by decide +kernel
theorem dX10_digest_53 : decode cX10_digest 53 = .ok (.iinc 3 1, 3) := by decide +kernel
theorem dX10_digest_56 : decode cX10_digest 56 = .ok (.goto (-19), 3) := by decide +kernel
theorem dX10_digest_59 : decode cX10_digest 59 = .ok (.iconst 0, 1) := by decide +kernel
theorem dX10_digest_60 : decode cX10_digest 60 = .ok (.istore_n 3, 1) := by decide +kernel
theorem dX10_digest_61 : decode cX10_digest 61 = .ok (.iload_n 3, 1) := by decide +kernel
theorem dX10_digest_62 : decode cX10_digest 62 = .ok (.aload_n 0, 1) := by decide +kernel
theorem dX10_digest_63 : decode cX10_digest 63 = .ok (.getfield 11, 3) := by decide +kernel
theorem dX10_digest_66 : decode cX10_digest 66 = .ok (.arraylength, 1) := by decide +kernel
theorem dX10_digest_67 : decode cX10_digest 67 = .ok (.if_icmp .ge 19, 3) := by decide +kernel
theorem dX10_digest_70 : decode cX10_digest 70 = .ok (.lload_n 1, 1) := by decide +kernel
theorem dX10_digest_71 : decode cX10_digest 71 = .ok (.aload_n 0, 1) := by decide +kernel
theorem dX10_digest_72 : decode cX10_digest 72 = .ok (.iload_n 3, 1) := by decide +kernel
theorem dX10_digest_73 : decode cX10_digest 73 = .ok (.invokevirtual 58, 3) := by decide +kernel
theorem dX10_digest_76 : decode cX10_digest 76 = .ok (.invokestatic 402, 3) := by decide +kernel
theorem dX10_digest_79 : decode cX10_digest 79 = .ok (.lstore_n 1, 1) := by decide +kernel
theorem dX10_digest_80 : decode cX10_digest 80 = .ok (.iinc 3 1, 3) := by decide +kernel
theorem dX10_digest_83 : decode cX10_digest 83 = .ok (.goto (-22), 3) := by decide +kernel
theorem dX10_digest_86 : decode cX10_digest 86 = .ok (.lload_n 1, 1) := by decide +kernel
theorem dX10_digest_87 : decode cX10_digest 87 = .ok (.lreturn, 1) := by decide +kernel
theorem dX10_rowOf_0 : decode cX10_rowOf 0 = .ok (.iload_n 1, 1) := by decide +kernel
theorem dX10_rowOf_1 : decode cX10_rowOf 1 = .ok (.ifCond .lt 21, 3) := by decide +kernel
theorem dX10_rowOf_4 : decode cX10_rowOf 4 = .ok (.iload_n 1, 1) := by decide +kernel
theorem dX10_rowOf_5 : decode cX10_rowOf 5 = .ok (.aload_n 0, 1) := by decide +kernel
theorem dX10_rowOf_6 : decode cX10_rowOf 6 = .ok (.getfield 11, 3) := by decide +kernel
theorem dX10_rowOf_9 : decode cX10_rowOf 9 = .ok (.arraylength, 1) := by decide +kernel
theorem dX10_rowOf_10 : decode cX10_rowOf 10 = .ok (.if_icmp .ge 12, 3) := by decide +kernel
theorem dX10_rowOf_13 : decode cX10_rowOf 13 = .ok (.aload_n 0, 1) := by decide +kernel
theorem dX10_rowOf_14 : decode cX10_rowOf 14 = .ok (.getfield 11, 3) := by decide +kernel
theorem dX10_rowOf_17 : decode cX10_rowOf 17 = .ok (.iload_n 1, 1) := by decide +kernel
theorem dX10_rowOf_18 : decode cX10_rowOf 18 = .ok (.aaload, 1) := by decide +kernel
theorem dX10_rowOf_19 : decode cX10_rowOf 19 = .ok (.goto 4, 3) := by decide +kernel
theorem dX10_rowOf_22 : decode cX10_rowOf 22 = .ok (.aconst_null, 1) := by decide +kernel
theorem dX10_rowOf_23 : decode cX10_rowOf 23 = .ok (.areturn, 1) := by decide +kernel
theorem dX10_trainOf_0 : decode cX10_trainOf 0 = .ok (.iload_n 1, 1) := by decide +kernel
theorem dX10_trainOf_1 : decode cX10_trainOf 1 = .ok (.ifCond .lt 20, 3) := by decide +kernel
theorem dX10_trainOf_4 : decode cX10_trainOf 4 = .ok (.iload_n 1, 1) := by decide +kernel
theorem dX10_trainOf_5 : decode cX10_trainOf 5 = .ok (.aload_n 0, 1) := by decide +kernel
theorem dX10_trainOf_6 : decode cX10_trainOf 6 = .ok (.getfield 98, 3) := by decide +kernel
theorem dX10_trainOf_9 : decode cX10_trainOf 9 = .ok (.if_icmp .ge 12, 3) := by decide +kernel
theorem dX10_trainOf_12 : decode cX10_trainOf 12 = .ok (.aload_n 0, 1) := by decide +kernel
theorem dX10_trainOf_13 : decode cX10_trainOf 13 = .ok (.getfield 17, 3) := by decide +kernel
theorem dX10_trainOf_16 : decode cX10_trainOf 16 = .ok (.iload_n 1, 1) := by decide +kernel
theorem dX10_trainOf_17 : decode cX10_trainOf 17 = .ok (.aaload, 1) := by decide +kernel
theorem dX10_trainOf_18 : decode cX10_trainOf 18 = .ok (.goto 4, 3) := by decide +kernel
theorem dX10_trainOf_21 : decode cX10_trainOf 21 = .ok (.aconst_null, 1) := by decide +kernel
theorem dX10_trainOf_22 : decode cX10_trainOf 22 = .ok (.areturn, 1) := by decide +kernel
theorem dX10_towerOf_0 : decode cX10_towerOf 0 = .ok (.iload_n 1, 1) := by decide +kernel
theorem dX10_towerOf_1 : decode cX10_towerOf 1 = .ok (.ifCond .lt 21, 3) := by decide +kernel
theorem dX10_towerOf_4 : decode cX10_towerOf 4 = .ok (.iload_n 1, 1) := by decide +kernel
theorem dX10_towerOf_5 : decode cX10_towerOf 5 = .ok (.aload_n 0, 1) := by decide +kernel
theorem dX10_towerOf_6 : decode cX10_towerOf 6 = .ok (.getfield 23, 3) := by decide +kernel
theorem dX10_towerOf_9 : decode cX10_towerOf 9 = .ok (.arraylength, 1) := by decide +kernel
theorem dX10_towerOf_10 : decode cX10_towerOf 10 = .ok (.if_icmp .ge 12, 3) := by decide +kernel
theorem dX10_towerOf_13 : decode cX10_towerOf 13 = .ok (.aload_n 0, 1) := by decide +kernel
theorem dX10_towerOf_14 : decode cX10_towerOf 14 = .ok (.getfield 23, 3) := by decide +kernel
theorem dX10_towerOf_17 : decode cX10_towerOf 17 = .ok (.iload_n 1, 1) := by decide +kernel
theorem dX10_towerOf_18 : decode cX10_towerOf 18 = .ok (.aaload, 1) := by decide +kernel
theorem dX10_towerOf_19 : decode cX10_towerOf 19 = .ok (.goto 4, 3) := by decide +kernel
theorem dX10_towerOf_22 : decode cX10_towerOf 22 = .ok (.aconst_null, 1) := by decide +kernel
theorem dX10_towerOf_23 : decode cX10_towerOf 23 = .ok (.areturn, 1) := by decide +kernel
theorem dX10_keep_0 : decode cX10_keep 0 = .ok (.aload_n 0, 1) := by decide +kernel
theorem dX10_keep_1 : decode cX10_keep 1 = .ok (.getfield 98, 3) := by decide +kernel
theorem dX10_keep_4 : decode cX10_keep 4 = .ok (.ifCond .lt 15, 3) := by decide +kernel
theorem dX10_keep_7 : decode cX10_keep 7 = .ok (.aload_n 0, 1) := by decide +kernel
theorem dX10_keep_8 : decode cX10_keep 8 = .ok (.getfield 98, 3) := by decide +kernel
theorem dX10_keep_11 : decode cX10_keep 11 = .ok (.aload_n 0, 1) := by decide +kernel
theorem dX10_keep_12 : decode cX10_keep 12 = .ok (.getfield 17, 3) := by decide +kernel
theorem dX10_keep_15 : decode cX10_keep 15 = .ok (.arraylength, 1) := by decide +kernel
theorem dX10_keep_16 : decode cX10_keep 16 = .ok (.if_icmp .lt 6, 3) := by decide +kernel
theorem dX10_keep_19 : decode cX10_keep 19 = .ok (.bipush (-2), 2) := by decide +kernel
theorem dX10_keep_21 : decode cX10_keep 21 = .ok (.ireturn, 1) := by decide +kernel
theorem dX10_keep_22 : decode cX10_keep 22 = .ok (.aload_n 0, 1) := by decide +kernel
theorem dX10_keep_23 : decode cX10_keep 23 = .ok (.getfield 17, 3) := by decide +kernel
theorem dX10_keep_26 : decode cX10_keep 26 = .ok (.aload_n 0, 1) := by decide +kernel
theorem dX10_keep_27 : decode cX10_keep 27 = .ok (.getfield 98, 3) := by decide +kernel
theorem dX10_keep_30 : decode cX10_keep 30 = .ok (.aload_n 1, 1) := by decide +kernel
theorem dX10_keep_31 : decode cX10_keep 31 = .ok (.aastore, 1) := by decide +kernel
theorem dX10_keep_32 : decode cX10_keep 32 = .ok (.aload_n 0, 1) := by decide +kernel
theorem dX10_keep_33 : decode cX10_keep 33 = .ok (.dup, 1) := by decide +kernel
theorem dX10_keep_34 : decode cX10_keep 34 = .ok (.getfield 98, 3) := by decide +kernel
theorem dX10_keep_37 : decode cX10_keep 37 = .ok (.iconst 1, 1) := by decide +kernel
theorem dX10_keep_38 : decode cX10_keep 38 = .ok (.iadd, 1) := by decide +kernel
theorem dX10_keep_39 : decode cX10_keep 39 = .ok (.putfield 98, 3) := by decide +kernel
theorem dX10_keep_42 : decode cX10_keep 42 = .ok (.aload_n 1, 1) := by decide +kernel
theorem dX10_keep_43 : decode cX10_keep 43 = .ok (.getfield 406, 3) := by decide +kernel
theorem dX10_keep_46 : decode cX10_keep 46 = .ok (.ireturn, 1) := by decide +kernel
theorem dX10_found_0 : decode cX10_found 0 = .ok (.aload_n 0, 1) := by decide +kernel
theorem dX10_found_1 : decode cX10_found 1 = .ok (.iload_n 1, 1) := by decide +kernel
theorem dX10_found_2 : decode cX10_found 2 = .ok (.putfield 386, 3) := by decide +kernel
theorem dX10_found_5 : decode cX10_found 5 = .ok (.iload_n 1, 1) := by decide +kernel
theorem dX10_found_6 : decode cX10_found 6 = .ok (.ifCond .lt 22, 3) := by decide +kernel
theorem dX10_found_9 : decode cX10_found 9 = .ok (.iload_n 1, 1) := by decide +kernel
theorem dX10_found_10 : decode cX10_found 10 = .ok (.aload_n 0, 1) := by decide +kernel
theorem dX10_found_11 : decode cX10_found 11 = .ok (.getfield 52, 3) := by decide +kernel
theorem dX10_found_14 : decode cX10_found 14 = .ok (.arraylength, 1) := by decide +kernel
theorem dX10_found_15 : decode cX10_found 15 = .ok (.if_icmp .ge 13, 3) := by decide +kernel
theorem dX10_found_18 : decode cX10_found 18 = .ok (.aload_n 0, 1) := by decide +kernel
theorem dX10_found_19 : decode cX10_found 19 = .ok (.getfield 52, 3) := by decide +kernel
theorem dX10_found_22 : decode cX10_found 22 = .ok (.iload_n 1, 1) := by decide +kernel
theorem dX10_found_23 : decode cX10_found 23 = .ok (.dup2, 1) := by decide +kernel
theorem dX10_found_24 : decode cX10_found 24 = .ok (.iaload, 1) := by decide +kernel
theorem dX10_found_25 : decode cX10_found 25 = .ok (.iconst 1, 1) := by decide +kernel
theorem dX10_found_26 : decode cX10_found 26 = .ok (.iadd, 1) := by decide +kernel
theorem dX10_found_27 : decode cX10_found 27 = .ok (.iastore, 1) := by decide +kernel
theorem dX10_found_28 : decode cX10_found 28 = .ok (.bipush (-3), 2) := by decide +kernel
theorem dX10_found_30 : decode cX10_found 30 = .ok (.ireturn, 1) := by decide +kernel
theorem dX10_refusalOfStrokes_0 : decode cX10_refusalOfStrokes 0 = .ok (.aload_n 0, 1) := by decide +kernel
theorem dX10_refusalOfStrokes_1 : decode cX10_refusalOfStrokes 1 = .ok (.iload_n 1, 1) := by decide +kernel
theorem dX10_refusalOfStrokes_2 : decode cX10_refusalOfStrokes 2 = .ok (.invokevirtual 58, 3) := by decide +kernel
theorem dX10_refusalOfStrokes_5 : decode cX10_refusalOfStrokes 5 = .ok (.astore_n 3, 1) := by decide +kernel
theorem dX10_refusalOfStrokes_6 : decode cX10_refusalOfStrokes 6 = .ok (.aload_n 0, 1) := by decide +kernel
theorem dX10_refusalOfStrokes_7 : decode cX10_refusalOfStrokes 7 = .ok (.iload_n 2, 1) := by decide +kernel
theorem dX10_refusalOfStrokes_8 : decode cX10_refusalOfStrokes 8 = .ok (.invokevirtual 58, 3) := by decide +kernel
theorem dX10_refusalOfStrokes_11 : decode cX10_refusalOfStrokes 11 = .ok (.astore 4, 2) := by decide +kernel
theorem dX10_refusalOfStrokes_13 : decode cX10_refusalOfStrokes 13 = .ok (.aload_n 3, 1) := by decide +kernel
theorem dX10_refusalOfStrokes_14 : decode cX10_refusalOfStrokes 14 = .ok (.ifnull 8, 3) := by decide +kernel
theorem dX10_refusalOfStrokes_17 : decode cX10_refusalOfStrokes 17 = .ok (.aload 4, 2) := by decide +kernel
theorem dX10_refusalOfStrokes_19 : decode cX10_refusalOfStrokes 19 = .ok (.ifnonnull 5, 3) := by decide +kernel
theorem dX10_refusalOfStrokes_22 : decode cX10_refusalOfStrokes 22 = .ok (.iconst (-1), 1) := by decide +kernel
theorem dX10_refusalOfStrokes_23 : decode cX10_refusalOfStrokes 23 = .ok (.ireturn, 1) := by decide +kernel
theorem dX10_refusalOfStrokes_24 : decode cX10_refusalOfStrokes 24 = .ok (.aload_n 0, 1) := by decide +kernel
theorem dX10_refusalOfStrokes_25 : decode cX10_refusalOfStrokes 25 = .ok (.getfield 98, 3) := by decide +kernel
theorem dX10_refusalOfStrokes_28 : decode cX10_refusalOfStrokes 28 = .ok (.aload_n 0, 1) := by decide +kernel
theorem dX10_refusalOfStrokes_29 : decode cX10_refusalOfStrokes 29 = .ok (.getfield 17, 3) := by decide +kernel
theorem dX10_refusalOfStrokes_32 : decode cX10_refusalOfStrokes 32 = .ok (.arraylength, 1) := by decide +kernel
theorem dX10_refusalOfStrokes_33 : decode cX10_refusalOfStrokes 33 = .ok (.if_icmp .lt 6, 3) := by decide +kernel
theorem dX10_refusalOfStrokes_36 : decode cX10_refusalOfStrokes 36 = .ok (.bipush (-2), 2) := by decide +kernel
theorem dX10_refusalOfStrokes_38 : decode cX10_refusalOfStrokes 38 = .ok (.ireturn, 1) := by decide +kernel
theorem dX10_refusalOfStrokes_39 : decode cX10_refusalOfStrokes 39 = .ok (.aload_n 3, 1) := by decide +kernel
theorem dX10_refusalOfStrokes_40 : decode cX10_refusalOfStrokes 40 = .ok (.invokevirtual 70, 3) := by decide +kernel
theorem dX10_refusalOfStrokes_43 : decode cX10_refusalOfStrokes 43 = .ok (.ifCond .eq 11, 3) := by decide +kernel
theorem dX10_refusalOfStrokes_46 : decode cX10_refusalOfStrokes 46 = .ok (.aload 4, 2) := by decide +kernel
theorem dX10_refusalOfStrokes_48 : decode cX10_refusalOfStrokes 48 = .ok (.invokevirtual 70, 3) := by decide +kernel
theorem dX10_refusalOfStrokes_51 : decode cX10_refusalOfStrokes 51 = .ok (.ifCond .ne 9, 3) := by decide +kernel
theorem dX10_refusalOfStrokes_54 : decode cX10_refusalOfStrokes 54 = .ok (.aload_n 0, 1) := by decide +kernel
theorem dX10_refusalOfStrokes_55 : decode cX10_refusalOfStrokes 55 = .ok (.iconst 1, 1) := by decide +kernel
theorem dX10_refusalOfStrokes_56 : decode cX10_refusalOfStrokes 56 = .ok (.invokevirtual 62, 3) := by decide +kernel
theorem dX10_refusalOfStrokes_59 : decode cX10_refusalOfStrokes 59 = .ok (.ireturn, 1) := by decide +kernel
theorem dX10_refusalOfStrokes_60 : decode cX10_refusalOfStrokes 60 = .ok (.aload_n 3, 1) := by decide +kernel
theorem dX10_refusalOfStrokes_61 : decode cX10_refusalOfStrokes 61 = .ok (.invokevirtual 409, 3) := by decide +kernel
theorem dX10_refusalOfStrokes_64 : decode cX10_refusalOfStrokes 64 = .ok (.ifCond .eq 15, 3) := by decide +kernel
theorem dX10_refusalOfStrokes_67 : decode cX10_refusalOfStrokes 67 = .ok (.aload 4, 2) := by decide +kernel
theorem dX10_refusalOfStrokes_69 : decode cX10_refusalOfStrokes 69 = .ok (.getfield 85, 3) := by decide +kernel
theorem dX10_refusalOfStrokes_72 : decode cX10_refusalOfStrokes 72 = .ok (.ifCond .le 7, 3) := by decide +kernel
theorem dX10_refusalOfStrokes_75 : decode cX10_refusalOfStrokes 75 = .ok (.iconst 0, 1) := by decide +kernel
theorem dX10_refusalOfStrokes_76 : decode cX10_refusalOfStrokes 76 = .ok (.goto 8, 3) := by decide +kernel
theorem dX10_refusalOfStrokes_79 : decode cX10_refusalOfStrokes 79 = .ok (.aload_n 0, 1) := by decide +kernel
theorem dX10_refusalOfStrokes_80 : decode cX10_refusalOfStrokes 80 = .ok (.iconst 5, 1) := by decide +kernel
theorem dX10_refusalOfStrokes_81 : decode cX10_refusalOfStrokes 81 = .ok (.invokevirtual 62, 3) := by decide +kernel
theorem dX10_refusalOfStrokes_84 : decode cX10_refusalOfStrokes 84 = .ok (.ireturn, 1) := by decide +kernel
theorem dX10_refusalOfHeard_0 : decode cX10_refusalOfHeard 0 = .ok (.aload_n 0, 1) := by decide +kernel
theorem dX10_refusalOfHeard_1 : decode cX10_refusalOfHeard 1 = .ok (.iload_n 1, 1) := by decide +kernel
theorem dX10_refusalOfHeard_2 : decode cX10_refusalOfHeard 2 = .ok (.invokevirtual 58, 3) := by decide +kernel
theorem dX10_refusalOfHeard_5 : decode cX10_refusalOfHeard 5 = .ok (.astore 4, 2) := by decide +kernel
theorem dX10_refusalOfHeard_7 : decode cX10_refusalOfHeard 7 = .ok (.aload 4, 2) := by decide +kernel
theorem dX10_refusalOfHeard_9 : decode cX10_refusalOfHeard 9 = .ok (.ifnull 14, 3) := by decide +kernel
theorem dX10_refusalOfHeard_12 : decode cX10_refusalOfHeard 12 = .ok (.iload_n 2, 1) := by decide +kernel
theorem dX10_refusalOfHeard_13 : decode cX10_refusalOfHeard 13 = .ok (.invokestatic 286, 3) := by decide +kernel
theorem dX10_refusalOfHeard_16 : decode cX10_refusalOfHeard 16 = .ok (.ifCond .eq 7, 3) := by decide +kernel
theorem dX10_refusalOfHeard_19 : decode cX10_refusalOfHeard 19 = .ok (.iload_n 3, 1) := by decide +kernel
theorem dX10_refusalOfHeard_20 : decode cX10_refusalOfHeard 20 = .ok (.ifCond .ne 5, 3) := by decide +kernel
theorem dX10_refusalOfHeard_23 : decode cX10_refusalOfHeard 23 = .ok (.iconst (-1), 1) := by decide +kernel
theorem dX10_refusalOfHeard_24 : decode cX10_refusalOfHeard 24 = .ok (.ireturn, 1) := by decide +kernel
theorem dX10_refusalOfHeard_25 : decode cX10_refusalOfHeard 25 = .ok (.aload 4, 2) := by decide +kernel
theorem dX10_refusalOfHeard_27 : decode cX10_refusalOfHeard 27 = .ok (.invokevirtual 70, 3) := by decide +kernel
theorem dX10_refusalOfHeard_30 : decode cX10_refusalOfHeard 30 = .ok (.ifCond .eq 7, 3) := by decide +kernel
theorem dX10_refusalOfHeard_33 : decode cX10_refusalOfHeard 33 = .ok (.iconst 0, 1) := by decide +kernel
theorem dX10_refusalOfHeard_34 : decode cX10_refusalOfHeard 34 = .ok (.goto 8, 3) := by decide +kernel
theorem dX10_refusalOfHeard_37 : decode cX10_refusalOfHeard 37 = .ok (.aload_n 0, 1) := by decide +kernel
theorem dX10_refusalOfHeard_38 : decode cX10_refusalOfHeard 38 = .ok (.iconst 1, 1) := by decide +kernel
theorem dX10_refusalOfHeard_39 : decode cX10_refusalOfHeard 39 = .ok (.invokevirtual 62, 3) := by decide +kernel
theorem dX10_refusalOfHeard_42 : decode cX10_refusalOfHeard 42 = .ok (.ireturn, 1) := by decide +kernel
theorem dX10_isHour_0 : decode cX10_isHour 0 = .ok (.iload_n 0, 1) := by decide +kernel
theorem dX10_isHour_1 : decode cX10_isHour 1 = .ok (.iconst 1, 1) := by decide +kernel
theorem dX10_isHour_2 : decode cX10_isHour 2 = .ok (.if_icmp .lt 13, 3) := by decide +kernel
theorem dX10_isHour_5 : decode cX10_isHour 5 = .ok (.iload_n 0, 1) := by decide +kernel
theorem dX10_isHour_6 : decode cX10_isHour 6 = .ok (.bipush 12, 2) := by decide +kernel
theorem dX10_isHour_8 : decode cX10_isHour 8 = .ok (.if_icmp .gt 7, 3) := by decide +kernel
theorem dX10_isHour_11 : decode cX10_isHour 11 = .ok (.iconst 1, 1) := by decide +kernel
theorem dX10_isHour_12 : decode cX10_isHour 12 = .ok (.goto 4, 3) := by decide +kernel
theorem dX10_isHour_15 : decode cX10_isHour 15 = .ok (.iconst 0, 1) := by decide +kernel
theorem dX10_isHour_16 : decode cX10_isHour 16 = .ok (.ireturn, 1) := by decide +kernel
theorem dX10_isDayHour_0 : decode cX10_isDayHour 0 = .ok (.iload_n 0, 1) := by decide +kernel
theorem dX10_isDayHour_1 : decode cX10_isDayHour 1 = .ok (.ifCond .lt 13, 3) := by decide +kernel
theorem dX10_isDayHour_4 : decode cX10_isDayHour 4 = .ok (.iload_n 0, 1) := by decide +kernel
theorem dX10_isDayHour_5 : decode cX10_isDayHour 5 = .ok (.bipush 24, 2) := by decide +kernel
theorem dX10_isDayHour_7 : decode cX10_isDayHour 7 = .ok (.if_icmp .ge 7, 3) := by decide +kernel
theorem dX10_isDayHour_10 : decode cX10_isDayHour 10 = .ok (.iconst 1, 1) := by decide +kernel
theorem dX10_isDayHour_11 : decode cX10_isDayHour 11 = .ok (.goto 4, 3) := by decide +kernel
theorem dX10_isDayHour_14 : decode cX10_isDayHour 14 = .ok (.iconst 0, 1) := by decide +kernel
theorem dX10_isDayHour_15 : decode cX10_isDayHour 15 = .ok (.ireturn, 1) := by decide +kernel
theorem dX10_minutesToMeet_0 : decode cX10_minutesToMeet 0 = .ok (.ldc2_w 412, 3) := by decide +kernel
theorem dX10_minutesToMeet_3 : decode cX10_minutesToMeet 3 = .ok (.lstore_n 2, 1) := by decide +kernel
theorem dX10_minutesToMeet_4 : decode cX10_minutesToMeet 4 = .ok (.aload_n 0, 1) := by decide +kernel
theorem dX10_minutesToMeet_5 : decode cX10_minutesToMeet 5 = .ok (.invokevirtual 414, 3) := by decide +kernel
theorem dX10_minutesToMeet_8 : decode cX10_minutesToMeet 8 = .ok (.aload_n 1, 1) := by decide +kernel
theorem dX10_minutesToMeet_9 : decode cX10_minutesToMeet 9 = .ok (.invokevirtual 414, 3) := by decide +kernel
theorem dX10_minutesToMeet_12 : decode cX10_minutesToMeet 12 = .ok (.lsub, 1) := by decide +kernel
theorem dX10_minutesToMeet_13 : decode cX10_minutesToMeet 13 = .ok (.lload_n 2, 1) := by decide +kernel
theorem dX10_minutesToMeet_14 : decode cX10_minutesToMeet 14 = .ok (.invokestatic 418, 3) := by decide +kernel
theorem dX10_minutesToMeet_17 : decode cX10_minutesToMeet 17 = .ok (.lstore 4, 2) := by decide +kernel
theorem dX10_minutesToMeet_19 : decode cX10_minutesToMeet 19 = .ok (.lload 4, 2) := by decide +kernel
theorem dX10_minutesToMeet_21 : decode cX10_minutesToMeet 21 = .ok (.lconst 0, 1) := by decide +kernel
theorem dX10_minutesToMeet_22 : decode cX10_minutesToMeet 22 = .ok (.lcmp, 1) := by decide +kernel
theorem dX10_minutesToMeet_23 : decode cX10_minutesToMeet 23 = .ok (.ifCond .ne 5, 3) := by decide +kernel
theorem dX10_minutesToMeet_26 : decode cX10_minutesToMeet 26 = .ok (.iconst 0, 1) := by decide +kernel
theorem dX10_minutesToMeet_27 : decode cX10_minutesToMeet 27 = .ok (.ireturn, 1) := by decide +kernel
theorem dX10_minutesToMeet_28 : decode cX10_minutesToMeet 28 = .ok (.aload_n 0, 1) := by decide +kernel
theorem dX10_minutesToMeet_29 : decode cX10_minutesToMeet 29 = .ok (.getfield 217, 3) := by decide +kernel
theorem dX10_minutesToMeet_32 : decode cX10_minutesToMeet 32 = .ok (.aload_n 1, 1) := by decide +kernel
theorem dX10_minutesToMeet_33 : decode cX10_minutesToMeet 33 = .ok (.getfield 217, 3) := by decide +kernel
theorem dX10_minutesToMeet_36 : decode cX10_minutesToMeet 36 = .ok (.isub, 1) := by decide +kernel
theorem dX10_minutesToMeet_37 : decode cX10_minutesToMeet 37 = .ok (.istore 6, 2) := by decide +kernel
theorem dX10_minutesToMeet_39 : decode cX10_minutesToMeet 39 = .ok (.iload 6, 2) := by decide +kernel
theorem dX10_minutesToMeet_41 : decode cX10_minutesToMeet 41 = .ok (.ifCond .ne 6, 3) := by decide +kernel
theorem dX10_minutesToMeet_44 : decode cX10_minutesToMeet 44 = .ok (.bipush (-9), 2) := by decide +kernel
theorem dX10_minutesToMeet_46 : decode cX10_minutesToMeet 46 = .ok (.ireturn, 1) := by decide +kernel
theorem dX10_minutesToMeet_47 : decode cX10_minutesToMeet 47 = .ok (.iload 6, 2) := by decide +kernel
theorem dX10_minutesToMeet_49 : decode cX10_minutesToMeet 49 = .ok (.ifCond .le 10, 3) := by decide +kernel
theorem dX10_minutesToMeet_52 : decode cX10_minutesToMeet 52 = .ok (.lload_n 2, 1) := by decide +kernel
theorem dX10_minutesToMeet_53 : decode cX10_minutesToMeet 53 = .ok (.lload 4, 2) := by decide +kernel
theorem dX10_minutesToMeet_55 : decode cX10_minutesToMeet 55 = .ok (.lsub, 1) := by decide +kernel
theorem dX10_minutesToMeet_56 : decode cX10_minutesToMeet 56 = .ok (.goto 5, 3) := by decide +kernel
theorem dX10_minutesToMeet_59 : decode cX10_minutesToMeet 59 = .ok (.lload 4, 2) := by decide +kernel
theorem dX10_minutesToMeet_61 : decode cX10_minutesToMeet 61 = .ok (.lstore 7, 2) := by decide +kernel
theorem dX10_minutesToMeet_63 : decode cX10_minutesToMeet 63 = .ok (.iload 6, 2) := by decide +kernel
theorem dX10_minutesToMeet_65 : decode cX10_minutesToMeet 65 = .ok (.invokestatic 420, 3) := by decide +kernel
theorem dX10_minutesToMeet_68 : decode cX10_minutesToMeet 68 = .ok (.i2l, 1) := by decide +kernel
theorem dX10_minutesToMeet_69 : decode cX10_minutesToMeet 69 = .ok (.lstore 9, 2) := by decide +kernel
theorem dX10_minutesToMeet_71 : decode cX10_minutesToMeet 71 = .ok (.lload 7, 2) := by decide +kernel
theorem dX10_minutesToMeet_73 : decode cX10_minutesToMeet 73 = .ok (.lload 9, 2) := by decide +kernel
theorem dX10_minutesToMeet_75 : decode cX10_minutesToMeet 75 = .ok (.ladd, 1) := by decide +kernel
theorem dX10_minutesToMeet_76 : decode cX10_minutesToMeet 76 = .ok (.lconst 1, 1) := by decide +kernel
theorem dX10_minutesToMeet_77 : decode cX10_minutesToMeet 77 = .ok (.lsub, 1) := by decide +kernel
theorem dX10_minutesToMeet_78 : decode cX10_minutesToMeet 78 = .ok (.lload 9, 2) := by decide +kernel
theorem dX10_minutesToMeet_80 : decode cX10_minutesToMeet 80 = .ok (.ldiv, 1) := by decide +kernel
theorem dX10_minutesToMeet_81 : decode cX10_minutesToMeet 81 = .ok (.l2i, 1) := by decide +kernel
theorem dX10_minutesToMeet_82 : decode cX10_minutesToMeet 82 = .ok (.ireturn, 1) := by decide +kernel
theorem dX10_towersThere_0 : decode cX10_towersThere 0 = .ok (.iconst 0, 1) := by decide +kernel
theorem dX10_towersThere_1 : decode cX10_towersThere 1 = .ok (.istore_n 1, 1) := by decide +kernel
theorem dX10_towersThere_2 : decode cX10_towersThere 2 = .ok (.iconst 0, 1) := by decide +kernel
theorem dX10_towersThere_3 : decode cX10_towersThere 3 = .ok (.istore_n 2, 1) := by decide +kernel
theorem dX10_towersThere_4 : decode cX10_towersThere 4 = .ok (.iload_n 2, 1) := by decide +kernel
theorem dX10_towersThere_5 : decode cX10_towersThere 5 = .ok (.aload_n 0, 1) := by decide +kernel
theorem dX10_towersThere_6 : decode cX10_towersThere 6 = .ok (.getfield 23, 3) := by decide +kernel
theorem dX10_towersThere_9 : decode cX10_towersThere 9 = .ok (.arraylength, 1) := by decide +kernel
theorem dX10_towersThere_10 : decode cX10_towersThere 10 = .ok (.if_icmp .ge 30, 3) := by decide +kernel
theorem dX10_towersThere_13 : decode cX10_towersThere 13 = .ok (.aload_n 0, 1) := by decide +kernel
theorem dX10_towersThere_14 : decode cX10_towersThere 14 = .ok (.getfield 23, 3) := by decide +kernel
theorem dX10_towersThere_17 : decode cX10_towersThere 17 = .ok (.iload_n 2, 1) := by decide +kernel
theorem dX10_towersThere_18 : decode cX10_towersThere 18 = .ok (.aaload, 1) := by decide +kernel
theorem dX10_towersThere_19 : decode cX10_towersThere 19 = .ok (.astore_n 3, 1) := by decide +kernel
theorem dX10_towersThere_20 : decode cX10_towersThere 20 = .ok (.aload_n 3, 1) := by decide +kernel
theorem dX10_towersThere_21 : decode cX10_towersThere 21 = .ok (.ifnull 13, 3) := by decide +kernel
theorem dX10_towersThere_24 : decode cX10_towersThere 24 = .ok (.aload_n 3, 1) := by decide +kernel
theorem dX10_towersThere_25 : decode cX10_towersThere 25 = .ok (.getfield 185, 3) := by decide +kernel
theorem dX10_towersThere_28 : decode cX10_towersThere 28 = .ok (.ifCond .eq 6, 3) := by decide +kernel
theorem dX10_towersThere_31 : decode cX10_towersThere 31 = .ok (.iinc 1 1, 3) := by decide +kernel
theorem dX10_towersThere_34 : decode cX10_towersThere 34 = .ok (.iinc 2 1, 3) := by decide +kernel
theorem dX10_towersThere_37 : decode cX10_towersThere 37 = .ok (.goto (-33), 3) := by decide +kernel
theorem dX10_towersThere_40 : decode cX10_towersThere 40 = .ok (.iload_n 1, 1) := by decide +kernel
theorem dX10_towersThere_41 : decode cX10_towersThere 41 = .ok (.ireturn, 1) := by decide +kernel
theorem dX10_rowsThere_0 : decode cX10_rowsThere 0 = .ok (.iconst 0, 1) := by decide +kernel
theorem dX10_rowsThere_1 : decode cX10_rowsThere 1 = .ok (.istore_n 1, 1) := by decide +kernel
theorem dX10_rowsThere_2 : decode cX10_rowsThere 2 = .ok (.iconst 0, 1) := by decide +kernel
theorem dX10_rowsThere_3 : decode cX10_rowsThere 3 = .ok (.istore_n 2, 1) := by decide +kernel
theorem dX10_rowsThere_4 : decode cX10_rowsThere 4 = .ok (.iload_n 2, 1) := by decide +kernel
theorem dX10_rowsThere_5 : decode cX10_rowsThere 5 = .ok (.aload_n 0, 1) := by decide +kernel
theorem dX10_rowsThere_6 : decode cX10_rowsThere 6 = .ok (.getfield 11, 3) := by decide +kernel
theorem dX10_rowsThere_9 : decode cX10_rowsThere 9 = .ok (.arraylength, 1) := by decide +kernel
theorem dX10_rowsThere_10 : decode cX10_rowsThere 10 = .ok (.if_icmp .ge 30, 3) := by decide +kernel
theorem dX10_rowsThere_13 : decode cX10_rowsThere 13 = .ok (.aload_n 0, 1) := by decide +kernel
theorem dX10_rowsThere_14 : decode cX10_rowsThere 14 = .ok (.getfield 11, 3) := by decide +kernel
theorem dX10_rowsThere_17 : decode cX10_rowsThere 17 = .ok (.iload_n 2, 1) := by decide +kernel
theorem dX10_rowsThere_18 : decode cX10_rowsThere 18 = .ok (.aaload, 1) := by decide +kernel
theorem dX10_rowsThere_19 : decode cX10_rowsThere 19 = .ok (.astore_n 3, 1) := by decide +kernel
theorem dX10_rowsThere_20 : decode cX10_rowsThere 20 = .ok (.aload_n 3, 1) := by decide +kernel
theorem dX10_rowsThere_21 : decode cX10_rowsThere 21 = .ok (.ifnull 13, 3) := by decide +kernel
theorem dX10_rowsThere_24 : decode cX10_rowsThere 24 = .ok (.aload_n 3, 1) := by decide +kernel
theorem dX10_rowsThere_25 : decode cX10_rowsThere 25 = .ok (.invokevirtual 70, 3) := by decide +kernel
theorem dX10_rowsThere_28 : decode cX10_rowsThere 28 = .ok (.ifCond .eq 6, 3) := by decide +kernel
theorem dX10_rowsThere_31 : decode cX10_rowsThere 31 = .ok (.iinc 1 1, 3) := by decide +kernel
theorem dX10_rowsThere_34 : decode cX10_rowsThere 34 = .ok (.iinc 2 1, 3) := by decide +kernel
theorem dX10_rowsThere_37 : decode cX10_rowsThere 37 = .ok (.goto (-33), 3) := by decide +kernel
theorem dX10_rowsThere_40 : decode cX10_rowsThere 40 = .ok (.iload_n 1, 1) := by decide +kernel
theorem dX10_rowsThere_41 : decode cX10_rowsThere 41 = .ok (.ireturn, 1) := by decide +kernel
theorem dX10_strokesEver_0 : decode cX10_strokesEver 0 = .ok (.iconst 0, 1) := by decide +kernel
theorem dX10_strokesEver_1 : decode cX10_strokesEver 1 = .ok (.istore_n 1, 1) := by decide +kernel
theorem dX10_strokesEver_2 : decode cX10_strokesEver 2 = .ok (.iconst 0, 1) := by decide +kernel
theorem dX10_strokesEver_3 : decode cX10_strokesEver 3 = .ok (.istore_n 2, 1) := by decide +kernel
theorem dX10_strokesEver_4 : decode cX10_strokesEver 4 = .ok (.iload_n 2, 1) := by decide +kernel
theorem dX10_strokesEver_5 : decode cX10_strokesEver 5 = .ok (.aload_n 0, 1) := by decide +kernel
theorem dX10_strokesEver_6 : decode cX10_strokesEver 6 = .ok (.getfield 98, 3) := by decide +kernel
theorem dX10_strokesEver_9 : decode cX10_strokesEver 9 = .ok (.if_icmp .ge 27, 3) := by decide +kernel
theorem dX10_strokesEver_12 : decode cX10_strokesEver 12 = .ok (.aload_n 0, 1) := by decide +kernel
theorem dX10_strokesEver_13 : decode cX10_strokesEver 13 = .ok (.getfield 17, 3) := by decide +kernel
theorem dX10_strokesEver_16 : decode cX10_strokesEver 16 = .ok (.iload_n 2, 1) := by decide +kernel
theorem dX10_strokesEver_17 : decode cX10_strokesEver 17 = .ok (.aaload, 1) := by decide +kernel
theorem dX10_strokesEver_18 : decode cX10_strokesEver 18 = .ok (.astore_n 3, 1) := by decide +kernel
theorem dX10_strokesEver_19 : decode cX10_strokesEver 19 = .ok (.aload_n 3, 1) := by decide +kernel
theorem dX10_strokesEver_20 : decode cX10_strokesEver 20 = .ok (.ifnull 10, 3) := by decide +kernel
theorem dX10_strokesEver_23 : decode cX10_strokesEver 23 = .ok (.iload_n 1, 1) := by decide +kernel
theorem dX10_strokesEver_24 : decode cX10_strokesEver 24 = .ok (.aload_n 3, 1) := by decide +kernel
theorem dX10_strokesEver_25 : decode cX10_strokesEver 25 = .ok (.getfield 162, 3) := by decide +kernel
theorem dX10_strokesEver_28 : decode cX10_strokesEver 28 = .ok (.iadd, 1) := by decide +kernel
theorem dX10_strokesEver_29 : decode cX10_strokesEver 29 = .ok (.istore_n 1, 1) := by decide +kernel
theorem dX10_strokesEver_30 : decode cX10_strokesEver 30 = .ok (.iinc 2 1, 3) := by decide +kernel
theorem dX10_strokesEver_33 : decode cX10_strokesEver 33 = .ok (.goto (-29), 3) := by decide +kernel
theorem dX10_strokesEver_36 : decode cX10_strokesEver 36 = .ok (.iload_n 1, 1) := by decide +kernel
theorem dX10_strokesEver_37 : decode cX10_strokesEver 37 = .ok (.ireturn, 1) := by decide +kernel
theorem dX10_mix_0 : decode cX10_mix 0 = .ok (.ldc2_w 423, 3) := by decide +kernel
theorem dX10_mix_3 : decode cX10_mix 3 = .ok (.lload_n 0, 1) := by decide +kernel
theorem dX10_mix_4 : decode cX10_mix 4 = .ok (.lmul, 1) := by decide +kernel
theorem dX10_mix_5 : decode cX10_mix 5 = .ok (.lload_n 2, 1) := by decide +kernel
theorem dX10_mix_6 : decode cX10_mix 6 = .ok (.ladd, 1) := by decide +kernel
theorem dX10_mix_7 : decode cX10_mix 7 = .ok (.lreturn, 1) := by decide +kernel
theorem dX10_mixAll_0 : decode cX10_mixAll 0 = .ok (.iconst 0, 1) := by decide +kernel
theorem dX10_mixAll_1 : decode cX10_mixAll 1 = .ok (.istore_n 3, 1) := by decide +kernel
theorem dX10_mixAll_2 : decode cX10_mixAll 2 = .ok (.iload_n 3, 1) := by decide +kernel
theorem dX10_mixAll_3 : decode cX10_mixAll 3 = .ok (.aload_n 2, 1) := by decide +kernel
theorem dX10_mixAll_4 : decode cX10_mixAll 4 = .ok (.arraylength, 1) := by decide +kernel
theorem dX10_mixAll_5 : decode cX10_mixAll 5 = .ok (.if_icmp .ge 18, 3) := by decide +kernel
theorem dX10_mixAll_8 : decode cX10_mixAll 8 = .ok (.lload_n 0, 1) := by decide +kernel
theorem dX10_mixAll_9 : decode cX10_mixAll 9 = .ok (.aload_n 2, 1) := by decide +kernel
theorem dX10_mixAll_10 : decode cX10_mixAll 10 = .ok (.iload_n 3, 1) := by decide +kernel
theorem dX10_mixAll_11 : decode cX10_mixAll 11 = .ok (.iaload, 1) := by decide +kernel
theorem dX10_mixAll_12 : decode cX10_mixAll 12 = .ok (.i2l, 1) := by decide +kernel
theorem dX10_mixAll_13 : decode cX10_mixAll 13 = .ok (.invokestatic 391, 3) := by decide +kernel
theorem dX10_mixAll_16 : decode cX10_mixAll 16 = .ok (.lstore_n 0, 1) := by decide +kernel
theorem dX10_mixAll_17 : decode cX10_mixAll 17 = .ok (.iinc 3 1, 3) := by decide +kernel
theorem dX10_mixAll_20 : decode cX10_mixAll 20 = .ok (.goto (-18), 3) := by decide +kernel
theorem dX10_mixAll_23 : decode cX10_mixAll 23 = .ok (.lload_n 0, 1) := by decide +kernel
theorem dX10_mixAll_24 : decode cX10_mixAll 24 = .ok (.lreturn, 1) := by decide +kernel
theorem dX10_mixTrain_0 : decode cX10_mixTrain 0 = .ok (.aload_n 0, 1) := by decide +kernel
theorem dX10_mixTrain_1 : decode cX10_mixTrain 1 = .ok (.iload_n 3, 1) := by decide +kernel
theorem dX10_mixTrain_2 : decode cX10_mixTrain 2 = .ok (.invokevirtual 129, 3) := by decide +kernel
theorem dX10_mixTrain_5 : decode cX10_mixTrain 5 = .ok (.astore 4, 2) := by decide +kernel
theorem dX10_mixTrain_7 : decode cX10_mixTrain 7 = .ok (.aload 4, 2) := by decide +kernel
theorem dX10_mixTrain_9 : decode cX10_mixTrain 9 = .ok (.ifnonnull 5, 3) := by decide +kernel
theorem dX10_mixTrain_12 : decode cX10_mixTrain 12 = .ok (.lload_n 1, 1) := by decide +kernel
theorem dX10_mixTrain_13 : decode cX10_mixTrain 13 = .ok (.lreturn, 1) := by decide +kernel
theorem dX10_mixTrain_14 : decode cX10_mixTrain 14 = .ok (.iconst 0, 1) := by decide +kernel
theorem dX10_mixTrain_15 : decode cX10_mixTrain 15 = .ok (.istore 5, 2) := by decide +kernel
theorem dX10_mixTrain_17 : decode cX10_mixTrain 17 = .ok (.iload 5, 2) := by decide +kernel
theorem dX10_mixTrain_19 : decode cX10_mixTrain 19 = .ok (.bipush 7, 2) := by decide +kernel
theorem dX10_mixTrain_21 : decode cX10_mixTrain 21 = .ok (.if_icmp .gt 22, 3) := by decide +kernel
theorem dX10_mixTrain_24 : decode cX10_mixTrain 24 = .ok (.lload_n 1, 1) := by decide +kernel
theorem dX10_mixTrain_25 : decode cX10_mixTrain 25 = .ok (.aload_n 0, 1) := by decide +kernel
theorem dX10_mixTrain_26 : decode cX10_mixTrain 26 = .ok (.iload_n 3, 1) := by decide +kernel
theorem dX10_mixTrain_27 : decode cX10_mixTrain 27 = .ok (.iload 5, 2) := by decide +kernel
theorem dX10_mixTrain_29 : decode cX10_mixTrain 29 = .ok (.invokevirtual 425, 3) := by decide +kernel
theorem dX10_mixTrain_32 : decode cX10_mixTrain 32 = .ok (.i2l, 1) := by decide +kernel
theorem dX10_mixTrain_33 : decode cX10_mixTrain 33 = .ok (.invokestatic 391, 3) := by decide +kernel
theorem dX10_mixTrain_36 : decode cX10_mixTrain 36 = .ok (.lstore_n 1, 1) := by decide +kernel
theorem dX10_mixTrain_37 : decode cX10_mixTrain 37 = .ok (.iinc 5 1, 3) := by decide +kernel
theorem dX10_mixTrain_40 : decode cX10_mixTrain 40 = .ok (.goto (-23), 3) := by decide +kernel
theorem dX10_mixTrain_43 : decode cX10_mixTrain 43 = .ok (.lload_n 1, 1) := by decide +kernel
theorem dX10_mixTrain_44 : decode cX10_mixTrain 44 = .ok (.aload 4, 2) := by decide +kernel
theorem dX10_mixTrain_46 : decode cX10_mixTrain 46 = .ok (.getfield 149, 3) := by decide +kernel
theorem dX10_mixTrain_49 : decode cX10_mixTrain 49 = .ok (.invokestatic 428, 3) := by decide +kernel
theorem dX10_mixTrain_52 : decode cX10_mixTrain 52 = .ok (.lstore_n 1, 1) := by decide +kernel
theorem dX10_mixTrain_53 : decode cX10_mixTrain 53 = .ok (.aload 4, 2) := by decide +kernel
theorem dX10_mixTrain_55 : decode cX10_mixTrain 55 = .ok (.instanceof 124, 3) := by decide +kernel
theorem dX10_mixTrain_58 : decode cX10_mixTrain 58 = .ok (.ifCond .eq 29, 3) := by decide +kernel
theorem dX10_mixTrain_61 : decode cX10_mixTrain 61 = .ok (.aload 4, 2) := by decide +kernel
theorem dX10_mixTrain_63 : decode cX10_mixTrain 63 = .ok (.checkcast 124, 3) := by decide +kernel
theorem dX10_mixTrain_66 : decode cX10_mixTrain 66 = .ok (.astore 5, 2) := by decide +kernel
theorem dX10_mixTrain_68 : decode cX10_mixTrain 68 = .ok (.lload_n 1, 1) := by decide +kernel
theorem dX10_mixTrain_69 : decode cX10_mixTrain 69 = .ok (.aload 5, 2) := by decide +kernel
theorem dX10_mixTrain_71 : decode cX10_mixTrain 71 = .ok (.getfield 432, 3) := by decide +kernel
theorem dX10_mixTrain_74 : decode cX10_mixTrain 74 = .ok (.invokestatic 428, 3) := by decide +kernel
theorem dX10_mixTrain_77 : decode cX10_mixTrain 77 = .ok (.aload 5, 2) := by decide +kernel
theorem dX10_mixTrain_79 : decode cX10_mixTrain 79 = .ok (.getfield 171, 3) := by decide +kernel
theorem dX10_mixTrain_82 : decode cX10_mixTrain 82 = .ok (.i2l, 1) := by decide +kernel
theorem dX10_mixTrain_83 : decode cX10_mixTrain 83 = .ok (.invokestatic 391, 3) := by decide +kernel
theorem dX10_mixTrain_86 : decode cX10_mixTrain 86 = .ok (.lstore_n 1, 1) := by decide +kernel
theorem dX10_mixTrain_87 : decode cX10_mixTrain 87 = .ok (.lload_n 1, 1) := by decide +kernel
theorem dX10_mixTrain_88 : decode cX10_mixTrain 88 = .ok (.lreturn, 1) := by decide +kernel
theorem dX10_mixTower_0 : decode cX10_mixTower 0 = .ok (.aload_n 0, 1) := by decide +kernel
theorem dX10_mixTower_1 : decode cX10_mixTower 1 = .ok (.iload_n 3, 1) := by decide +kernel
theorem dX10_mixTower_2 : decode cX10_mixTower 2 = .ok (.invokevirtual 181, 3) := by decide +kernel
theorem dX10_mixTower_5 : decode cX10_mixTower 5 = .ok (.astore 4, 2) := by decide +kernel
theorem dX10_mixTower_7 : decode cX10_mixTower 7 = .ok (.aload 4, 2) := by decide +kernel
theorem dX10_mixTower_9 : decode cX10_mixTower 9 = .ok (.ifnull 11, 3) := by decide +kernel
theorem dX10_mixTower_12 : decode cX10_mixTower 12 = .ok (.aload 4, 2) := by decide +kernel
theorem dX10_mixTower_14 : decode cX10_mixTower 14 = .ok (.getfield 185, 3) := by decide +kernel
theorem dX10_mixTower_17 : decode cX10_mixTower 17 = .ok (.ifCond .ne 11, 3) := by decide +kernel
theorem dX10_mixTower_20 : decode cX10_mixTower 20 = .ok (.lload_n 1, 1) := by decide +kernel
theorem dX10_mixTower_21 : decode cX10_mixTower 21 = .ok (.ldc2_w 435, 3) := by decide +kernel
theorem dX10_mixTower_24 : decode cX10_mixTower 24 = .ok (.invokestatic 391, 3) := by decide +kernel
theorem dX10_mixTower_27 : decode cX10_mixTower 27 = .ok (.lreturn, 1) := by decide +kernel
theorem dX10_mixTower_28 : decode cX10_mixTower 28 = .ok (.iconst 0, 1) := by decide +kernel
theorem dX10_mixTower_29 : decode cX10_mixTower 29 = .ok (.istore 5, 2) := by decide +kernel
theorem dX10_mixTower_31 : decode cX10_mixTower 31 = .ok (.iload 5, 2) := by decide +kernel
theorem dX10_mixTower_33 : decode cX10_mixTower 33 = .ok (.bipush 8, 2) := by decide +kernel
theorem dX10_mixTower_35 : decode cX10_mixTower 35 = .ok (.if_icmp .gt 22, 3) := by decide +kernel
theorem dX10_mixTower_38 : decode cX10_mixTower 38 = .ok (.lload_n 1, 1) := by decide +kernel
theorem dX10_mixTower_39 : decode cX10_mixTower 39 = .ok (.aload_n 0, 1) := by decide +kernel
theorem dX10_mixTower_40 : decode cX10_mixTower 40 = .ok (.iload_n 3, 1) := by decide +kernel
theorem dX10_mixTower_41 : decode cX10_mixTower 41 = .ok (.iload 5, 2) := by decide +kernel
theorem dX10_mixTower_43 : decode cX10_mixTower 43 = .ok (.invokevirtual 437, 3) := by decide +kernel
theorem dX10_mixTower_46 : decode cX10_mixTower 46 = .ok (.i2l, 1) := by decide +kernel
theorem dX10_mixTower_47 : decode cX10_mixTower 47 = .ok (.invokestatic 391, 3) := by decide +kernel
theorem dX10_mixTower_50 : decode cX10_mixTower 50 = .ok (.lstore_n 1, 1) := by decide +kernel
theorem dX10_mixTower_51 : decode cX10_mixTower 51 = .ok (.iinc 5 1, 3) := by decide +kernel
theorem dX10_mixTower_54 : decode cX10_mixTower 54 = .ok (.goto (-23), 3) := by decide +kernel
theorem dX10_mixTower_57 : decode cX10_mixTower 57 = .ok (.lload_n 1, 1) := by decide +kernel
theorem dX10_mixTower_58 : decode cX10_mixTower 58 = .ok (.aload 4, 2) := by decide +kernel
theorem dX10_mixTower_60 : decode cX10_mixTower 60 = .ok (.getfield 260, 3) := by decide +kernel
theorem dX10_mixTower_63 : decode cX10_mixTower 63 = .ok (.getfield 440, 3) := by decide +kernel
theorem dX10_mixTower_66 : decode cX10_mixTower 66 = .ok (.i2l, 1) := by decide +kernel
theorem dX10_mixTower_67 : decode cX10_mixTower 67 = .ok (.invokestatic 391, 3) := by decide +kernel
theorem dX10_mixTower_70 : decode cX10_mixTower 70 = .ok (.lstore_n 1, 1) := by decide +kernel
theorem dX10_mixTower_71 : decode cX10_mixTower 71 = .ok (.iconst 0, 1) := by decide +kernel
theorem dX10_mixTower_72 : decode cX10_mixTower 72 = .ok (.istore 5, 2) := by decide +kernel
theorem dX10_mixTower_74 : decode cX10_mixTower 74 = .ok (.iload 5, 2) := by decide +kernel
theorem dX10_mixTower_76 : decode cX10_mixTower 76 = .ok (.iconst 3, 1) := by decide +kernel
theorem dX10_mixTower_77 : decode cX10_mixTower 77 = .ok (.if_icmp .gt 41, 3) := by decide +kernel
theorem dX10_mixTower_80 : decode cX10_mixTower 80 = .ok (.lload_n 1, 1) := by decide +kernel
theorem dX10_mixTower_81 : decode cX10_mixTower 81 = .ok (.aload 4, 2) := by decide +kernel
theorem dX10_mixTower_83 : decode cX10_mixTower 83 = .ok (.getfield 260, 3) := by decide +kernel
theorem dX10_mixTower_86 : decode cX10_mixTower 86 = .ok (.getfield 440, 3) := by decide +kernel
theorem dX10_mixTower_89 : decode cX10_mixTower 89 = .ok (.ifCond .ne 7, 3) := by decide +kernel
theorem dX10_mixTower_92 : decode cX10_mixTower 92 = .ok (.lconst 0, 1) := by decide +kernel
theorem dX10_mixTower_93 : decode cX10_mixTower 93 = .ok (.goto 15, 3) := by decide +kernel
theorem dX10_mixTower_96 : decode cX10_mixTower 96 = .ok (.aload 4, 2) := by decide +kernel
theorem dX10_mixTower_98 : decode cX10_mixTower 98 = .ok (.getfield 260, 3) := by decide +kernel
theorem dX10_mixTower_101 : decode cX10_mixTower 101 = .ok (.iconst 0, 1) := by decide +kernel
theorem dX10_mixTower_102 : decode cX10_mixTower 102 = .ok (.iload 5, 2) := by decide +kernel
theorem dX10_mixTower_104 : decode cX10_mixTower 104 = .ok (.invokevirtual 264, 3) := by decide +kernel
theorem dX10_mixTower_107 : decode cX10_mixTower 107 = .ok (.i2l, 1) := by decide +kernel
theorem dX10_mixTower_108 : decode cX10_mixTower 108 = .ok (.invokestatic 391, 3) := by decide +kernel
theorem dX10_mixTower_111 : decode cX10_mixTower 111 = .ok (.lstore_n 1, 1) := by decide +kernel
theorem dX10_mixTower_112 : decode cX10_mixTower 112 = .ok (.iinc 5 1, 3) := by decide +kernel
theorem dX10_mixTower_115 : decode cX10_mixTower 115 = .ok (.goto (-41), 3) := by decide +kernel
theorem dX10_mixTower_118 : decode cX10_mixTower 118 = .ok (.lload_n 1, 1) := by decide +kernel
theorem dX10_mixTower_119 : decode cX10_mixTower 119 = .ok (.lreturn, 1) := by decide +kernel
theorem dX10_mixRow_0 : decode cX10_mixRow 0 = .ok (.aload_n 2, 1) := by decide +kernel
theorem dX10_mixRow_1 : decode cX10_mixRow 1 = .ok (.ifnonnull 5, 3) := by decide +kernel
theorem dX10_mixRow_4 : decode cX10_mixRow 4 = .ok (.lload_n 0, 1) := by decide +kernel
theorem dX10_mixRow_5 : decode cX10_mixRow 5 = .ok (.lreturn, 1) := by decide +kernel
theorem dX10_mixRow_6 : decode cX10_mixRow 6 = .ok (.lload_n 0, 1) := by decide +kernel
theorem dX10_mixRow_7 : decode cX10_mixRow 7 = .ok (.aload_n 2, 1) := by decide +kernel
theorem dX10_mixRow_8 : decode cX10_mixRow 8 = .ok (.getfield 85, 3) := by decide +kernel
theorem dX10_mixRow_11 : decode cX10_mixRow 11 = .ok (.i2l, 1) := by decide +kernel
theorem dX10_mixRow_12 : decode cX10_mixRow 12 = .ok (.invokestatic 391, 3) := by decide +kernel
theorem dX10_mixRow_15 : decode cX10_mixRow 15 = .ok (.lstore_n 0, 1) := by decide +kernel
theorem dX10_mixRow_16 : decode cX10_mixRow 16 = .ok (.iconst 0, 1) := by decide +kernel
theorem dX10_mixRow_17 : decode cX10_mixRow 17 = .ok (.istore_n 3, 1) := by decide +kernel
theorem dX10_mixRow_18 : decode cX10_mixRow 18 = .ok (.iload_n 3, 1) := by decide +kernel
theorem dX10_mixRow_19 : decode cX10_mixRow 19 = .ok (.aload_n 2, 1) := by decide +kernel
theorem dX10_mixRow_20 : decode cX10_mixRow 20 = .ok (.getfield 85, 3) := by decide +kernel
theorem dX10_mixRow_23 : decode cX10_mixRow 23 = .ok (.if_icmp .ge 20, 3) := by decide +kernel
theorem dX10_mixRow_26 : decode cX10_mixRow 26 = .ok (.lload_n 0, 1) := by decide +kernel
theorem dX10_mixRow_27 : decode cX10_mixRow 27 = .ok (.aload_n 2, 1) := by decide +kernel
theorem dX10_mixRow_28 : decode cX10_mixRow 28 = .ok (.iload_n 3, 1) := by decide +kernel
theorem dX10_mixRow_29 : decode cX10_mixRow 29 = .ok (.invokevirtual 78, 3) := by decide +kernel
theorem dX10_mixRow_32 : decode cX10_mixRow 32 = .ok (.i2l, 1) := by decide +kernel
theorem dX10_mixRow_33 : decode cX10_mixRow 33 = .ok (.invokestatic 391, 3) := by decide +kernel
theorem dX10_mixRow_36 : decode cX10_mixRow 36 = .ok (.lstore_n 0, 1) := by decide +kernel
theorem dX10_mixRow_37 : decode cX10_mixRow 37 = .ok (.iinc 3 1, 3) := by decide +kernel
theorem dX10_mixRow_40 : decode cX10_mixRow 40 = .ok (.goto (-22), 3) := by decide +kernel
theorem dX10_mixRow_43 : decode cX10_mixRow 43 = .ok (.lload_n 0, 1) := by decide +kernel
theorem dX10_mixRow_44 : decode cX10_mixRow 44 = .ok (.lreturn, 1) := by decide +kernel
theorem dX11_init_0 : decode cX11_init 0 = .ok (.aload_n 0, 1) := by decide +kernel
theorem dX11_init_1 : decode cX11_init 1 = .ok (.invokespecial 1, 3) := by decide +kernel
theorem dX11_init_4 : decode cX11_init 4 = .ok (.aload_n 0, 1) := by decide +kernel
theorem dX11_init_5 : decode cX11_init 5 = .ok (.bipush 6, 2) := by decide +kernel
theorem dX11_init_7 : decode cX11_init 7 = .ok (.newarray .int, 2) := by decide +kernel
theorem dX11_init_9 : decode cX11_init 9 = .ok (.putfield 7, 3) := by decide +kernel
theorem dX11_init_12 : decode cX11_init 12 = .ok (.aload_n 0, 1) := by decide +kernel
theorem dX11_init_13 : decode cX11_init 13 = .ok (.lconst 1, 1) := by decide +kernel
theorem dX11_init_14 : decode cX11_init 14 = .ok (.putfield 13, 3) := by decide +kernel
theorem dX11_init_17 : decode cX11_init 17 = .ok (.aload_n 0, 1) := by decide +kernel
theorem dX11_init_18 : decode cX11_init 18 = .ok (.bipush 8, 2) := by decide +kernel
theorem dX11_init_20 : decode cX11_init 20 = .ok (.newarray .int, 2) := by decide +kernel
theorem dX11_init_22 : decode cX11_init 22 = .ok (.putfield 17, 3) := by decide +kernel
theorem dX11_init_25 : decode cX11_init 25 = .ok (.aload_n 0, 1) := by decide +kernel
theorem dX11_init_26 : decode cX11_init 26 = .ok (.sipush 384, 3) := by decide +kernel
theorem dX11_init_29 : decode cX11_init 29 = .ok (.newarray .int, 2) := by decide +kernel
theorem dX11_init_31 : decode cX11_init 31 = .ok (.putfield 20, 3) := by decide +kernel
theorem dX11_init_34 : decode cX11_init 34 = .ok (.aload_n 0, 1) := by decide +kernel
theorem dX11_init_35 : decode cX11_init 35 = .ok (.bipush 48, 2) := by decide +kernel
theorem dX11_init_37 : decode cX11_init 37 = .ok (.newarray .int, 2) := by decide +kernel
theorem dX11_init_39 : decode cX11_init 39 = .ok (.putfield 23, 3) := by decide +kernel
theorem dX11_init_42 : decode cX11_init 42 = .ok (.aload_n 0, 1) := by decide +kernel
theorem dX11_init_43 : decode cX11_init 43 = .ok (.bipush 16, 2) := by decide +kernel
theorem dX11_init_45 : decode cX11_init 45 = .ok (.newarray .int, 2) := by decide +kernel
theorem dX11_init_47 : decode cX11_init 47 = .ok (.putfield 26, 3) := by decide +kernel
theorem dX11_init_50 : decode cX11_init 50 = .ok (.aload_n 0, 1) := by decide +kernel
theorem dX11_init_51 : decode cX11_init 51 = .ok (.bipush 16, 2) := by decide +kernel
theorem dX11_init_53 : decode cX11_init 53 = .ok (.newarray .int, 2) := by decide +kernel
theorem dX11_init_55 : decode cX11_init 55 = .ok (.putfield 29, 3) := by decide +kernel
theorem dX11_init_58 : decode cX11_init 58 = .ok (.aload_n 0, 1) := by decide +kernel
theorem dX11_init_59 : decode cX11_init 59 = .ok (.sipush 384, 3) := by decide +kernel
theorem dX11_init_62 : decode cX11_init 62 = .ok (.newarray .int, 2) := by decide +kernel
theorem dX11_init_64 : decode cX11_init 64 = .ok (.putfield 32, 3) := by decide +kernel
theorem dX11_init_67 : decode cX11_init 67 = .ok (.aload_n 0, 1) := by decide +kernel
theorem dX11_init_68 : decode cX11_init 68 = .ok (.bipush 16, 2) := by decide +kernel
theorem dX11_init_70 : decode cX11_init 70 = .ok (.newarray .int, 2) := by decide +kernel
theorem dX11_init_72 : decode cX11_init 72 = .ok (.putfield 35, 3) := by decide +kernel
theorem dX11_init_75 : decode cX11_init 75 = .ok (.aload_n 0, 1) := by decide +kernel
theorem dX11_init_76 : decode cX11_init 76 = .ok (.bipush 16, 2) := by decide +kernel
theorem dX11_init_78 : decode cX11_init 78 = .ok (.newarray .int, 2) := by decide +kernel
theorem dX11_init_80 : decode cX11_init 80 = .ok (.putfield 38, 3) := by decide +kernel
theorem dX11_init_83 : decode cX11_init 83 = .ok (.aload_n 0, 1) := by decide +kernel
theorem dX11_init_84 : decode cX11_init 84 = .ok (.sipush 768, 3) := by decide +kernel
theorem dX11_init_87 : decode cX11_init 87 = .ok (.newarray .int, 2) := by decide +kernel
theorem dX11_init_89 : decode cX11_init 89 = .ok (.putfield 41, 3) := by decide +kernel
theorem dX11_init_92 : decode cX11_init 92 = .ok (.aload_n 0, 1) := by decide +kernel
theorem dX11_init_93 : decode cX11_init 93 = .ok (.bipush 16, 2) := by decide +kernel
theorem dX11_init_95 : decode cX11_init 95 = .ok (.newarray .int, 2) := by decide +kernel
theorem dX11_init_97 : decode cX11_init 97 = .ok (.putfield 44, 3) := by decide +kernel
theorem dX11_init_100 : decode cX11_init 100 = .ok (.aload_n 0, 1) := by decide +kernel
theorem dX11_init_101 : decode cX11_init 101 = .ok (.bipush 16, 2) := by decide +kernel
theorem dX11_init_103 : decode cX11_init 103 = .ok (.newarray .int, 2) := by decide +kernel
theorem dX11_init_105 : decode cX11_init 105 = .ok (.putfield 47, 3) := by decide +kernel
theorem dX11_init_108 : decode cX11_init 108 = .ok (.aload_n 0, 1) := by decide +kernel
theorem dX11_init_109 : decode cX11_init 109 = .ok (.bipush 16, 2) := by decide +kernel
theorem dX11_init_111 : decode cX11_init 111 = .ok (.newarray .int, 2) := by decide +kernel
theorem dX11_init_113 : decode cX11_init 113 = .ok (.putfield 50, 3) := by decide +kernel
theorem dX11_init_116 : decode cX11_init 116 = .ok (.aload_n 0, 1) := by decide +kernel
theorem dX11_init_117 : decode cX11_init 117 = .ok (.bipush 16, 2) := by decide +kernel
theorem dX11_init_119 : decode cX11_init 119 = .ok (.newarray .int, 2) := by decide +kernel
theorem dX11_init_121 : decode cX11_init 121 = .ok (.putfield 53, 3) := by decide +kernel
theorem dX11_init_124 : decode cX11_init 124 = .ok (.aload_n 0, 1) := by decide +kernel
theorem dX11_init_125 : decode cX11_init 125 = .ok (.bipush 16, 2) := by decide +kernel
theorem dX11_init_127 : decode cX11_init 127 = .ok (.newarray .int, 2) := by decide +kernel
theorem dX11_init_129 : decode cX11_init 129 = .ok (.putfield 56, 3) := by decide +kernel
theorem dX11_init_132 : decode cX11_init 132 = .ok (.aload_n 0, 1) := by decide +kernel
theorem dX11_init_133 : decode cX11_init 133 = .ok (.bipush 16, 2) := by decide +kernel
theorem dX11_init_135 : decode cX11_init 135 = .ok (.newarray .int, 2) := by decide +kernel
theorem dX11_init_137 : decode cX11_init 137 = .ok (.putfield 59, 3) := by decide +kernel
theorem dX11_init_140 : decode cX11_init 140 = .ok (.aload_n 0, 1) := by decide +kernel
theorem dX11_init_141 : decode cX11_init 141 = .ok (.bipush 16, 2) := by decide +kernel
theorem dX11_init_143 : decode cX11_init 143 = .ok (.newarray .int, 2) := by decide +kernel
theorem dX11_init_145 : decode cX11_init 145 = .ok (.putfield 62, 3) := by decide +kernel
theorem dX11_init_148 : decode cX11_init 148 = .ok (.aload_n 0, 1) := by decide +kernel
theorem dX11_init_149 : decode cX11_init 149 = .ok (.bipush 16, 2) := by decide +kernel
theorem dX11_init_151 : decode cX11_init 151 = .ok (.newarray .int, 2) := by decide +kernel
theorem dX11_init_153 : decode cX11_init 153 = .ok (.putfield 65, 3) := by decide +kernel
theorem dX11_init_156 : decode cX11_init 156 = .ok (.aload_n 0, 1) := by decide +kernel
theorem dX11_init_157 : decode cX11_init 157 = .ok (.bipush 16, 2) := by decide +kernel
theorem dX11_init_159 : decode cX11_init 159 = .ok (.newarray .boolean, 2) := by decide +kernel
theorem dX11_init_161 : decode cX11_init 161 = .ok (.putfield 68, 3) := by decide +kernel
theorem dX11_init_164 : decode cX11_init 164 = .ok (.aload_n 0, 1) := by decide +kernel
theorem dX11_init_165 : decode cX11_init 165 = .ok (.iconst 4, 1) := by decide +kernel
theorem dX11_init_166 : decode cX11_init 166 = .ok (.newarray .boolean, 2) := by decide +kernel
theorem dX11_init_168 : decode cX11_init 168 = .ok (.putfield 72, 3) := by decide +kernel
theorem dX11_init_171 : decode cX11_init 171 = .ok (.aload_n 0, 1) := by decide +kernel
theorem dX11_init_172 : decode cX11_init 172 = .ok (.iconst 4, 1) := by decide +kernel
theorem dX11_init_173 : decode cX11_init 173 = .ok (.newarray .int, 2) := by decide +kernel
theorem dX11_init_175 : decode cX11_init 175 = .ok (.putfield 75, 3) := by decide +kernel
theorem dX11_init_178 : decode cX11_init 178 = .ok (.aload_n 0, 1) := by decide +kernel
theorem dX11_init_179 : decode cX11_init 179 = .ok (.iconst 4, 1) := by decide +kernel
theorem dX11_init_180 : decode cX11_init 180 = .ok (.newarray .int, 2) := by decide +kernel
theorem dX11_init_182 : decode cX11_init 182 = .ok (.putfield 78, 3) := by decide +kernel
theorem dX11_init_185 : decode cX11_init 185 = .ok (.aload_n 0, 1) := by decide +kernel
theorem dX11_init_186 : decode cX11_init 186 = .ok (.iconst 4, 1) := by decide +kernel
theorem dX11_init_187 : decode cX11_init 187 = .ok (.newarray .int, 2) := by decide +kernel
theorem dX11_init_189 : decode cX11_init 189 = .ok (.putfield 81, 3) := by decide +kernel
theorem dX11_init_192 : decode cX11_init 192 = .ok (.aload_n 0, 1) := by decide +kernel
theorem dX11_init_193 : decode cX11_init 193 = .ok (.iconst 4, 1) := by decide +kernel
theorem dX11_init_194 : decode cX11_init 194 = .ok (.newarray .int, 2) := by decide +kernel
theorem dX11_init_196 : decode cX11_init 196 = .ok (.putfield 84, 3) := by decide +kernel
theorem dX11_init_199 : decode cX11_init 199 = .ok (.aload_n 0, 1) := by decide +kernel
theorem dX11_init_200 : decode cX11_init 200 = .ok (.iconst 4, 1) := by decide +kernel
theorem dX11_init_201 : decode cX11_init 201 = .ok (.newarray .boolean, 2) := by decide +kernel
theorem dX11_init_203 : decode cX11_init 203 = .ok (.putfield 87, 3) := by decide +kernel
theorem dX11_init_206 : decode cX11_init 206 = .ok (.aload_n 0, 1) := by decide +kernel
theorem dX11_init_207 : decode cX11_init 207 = .ok (.iconst 4, 1) := by decide +kernel
theorem dX11_init_208 : decode cX11_init 208 = .ok (.newarray .int, 2) := by decide +kernel
theorem dX11_init_210 : decode cX11_init 210 = .ok (.putfield 90, 3) := by decide +kernel
