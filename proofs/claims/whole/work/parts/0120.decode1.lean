theorem dX0_init_0 : decode cX0_init 0 = .ok (.aload_n 0, 1) := by decide +kernel
theorem dX0_init_1 : decode cX0_init 1 = .ok (.iload_n 1, 1) := by decide +kernel
theorem dX0_init_2 : decode cX0_init 2 = .ok (.iconst 3, 1) := by decide +kernel
theorem dX0_init_3 : decode cX0_init 3 = .ok (.aload_n 2, 1) := by decide +kernel
theorem dX0_init_4 : decode cX0_init 4 = .ok (.invokespecial 3, 3) := by decide +kernel
theorem dX0_init_7 : decode cX0_init 7 = .ok (.aload_n 0, 1) := by decide +kernel
theorem dX0_init_8 : decode cX0_init 8 = .ok (.aload_n 3, 1) := by decide +kernel
theorem dX0_init_9 : decode cX0_init 9 = .ok (.putfield 9, 3) := by decide +kernel
theorem dX0_init_12 : decode cX0_init 12 = .ok (.return_, 1) := by decide +kernel
theorem dX0_lift_0 : decode cX0_lift 0 = .ok (.aload_n 0, 1) := by decide +kernel
theorem dX0_lift_1 : decode cX0_lift 1 = .ok (.getfield 15, 3) := by decide +kernel
theorem dX0_lift_4 : decode cX0_lift 4 = .ok (.ifCond .lt 15, 3) := by decide +kernel
theorem dX0_lift_7 : decode cX0_lift 7 = .ok (.aload_n 0, 1) := by decide +kernel
theorem dX0_lift_8 : decode cX0_lift 8 = .ok (.getfield 15, 3) := by decide +kernel
theorem dX0_lift_11 : decode cX0_lift 11 = .ok (.aload_n 0, 1) := by decide +kernel
theorem dX0_lift_12 : decode cX0_lift 12 = .ok (.getfield 9, 3) := by decide +kernel
theorem dX0_lift_15 : decode cX0_lift 15 = .ok (.arraylength, 1) := by decide +kernel
theorem dX0_lift_16 : decode cX0_lift 16 = .ok (.if_icmp .lt 5, 3) := by decide +kernel
theorem dX0_lift_19 : decode cX0_lift 19 = .ok (.iconst 0, 1) := by decide +kernel
theorem dX0_lift_20 : decode cX0_lift 20 = .ok (.ireturn, 1) := by decide +kernel
theorem dX0_lift_21 : decode cX0_lift 21 = .ok (.aload_n 0, 1) := by decide +kernel
theorem dX0_lift_22 : decode cX0_lift 22 = .ok (.getfield 9, 3) := by decide +kernel
theorem dX0_lift_25 : decode cX0_lift 25 = .ok (.aload_n 0, 1) := by decide +kernel
theorem dX0_lift_26 : decode cX0_lift 26 = .ok (.getfield 15, 3) := by decide +kernel
theorem dX0_lift_29 : decode cX0_lift 29 = .ok (.iaload, 1) := by decide +kernel
theorem dX0_lift_30 : decode cX0_lift 30 = .ok (.istore_n 1, 1) := by decide +kernel
theorem dX0_lift_31 : decode cX0_lift 31 = .ok (.aload_n 0, 1) := by decide +kernel
theorem dX0_lift_32 : decode cX0_lift 32 = .ok (.aload_n 0, 1) := by decide +kernel
theorem dX0_lift_33 : decode cX0_lift 33 = .ok (.getfield 15, 3) := by decide +kernel
theorem dX0_lift_36 : decode cX0_lift 36 = .ok (.iconst 1, 1) := by decide +kernel
theorem dX0_lift_37 : decode cX0_lift 37 = .ok (.iadd, 1) := by decide +kernel
theorem dX0_lift_38 : decode cX0_lift 38 = .ok (.aload_n 0, 1) := by decide +kernel
theorem dX0_lift_39 : decode cX0_lift 39 = .ok (.getfield 9, 3) := by decide +kernel
theorem dX0_lift_42 : decode cX0_lift 42 = .ok (.arraylength, 1) := by decide +kernel
theorem dX0_lift_43 : decode cX0_lift 43 = .ok (.if_icmp .ge 12, 3) := by decide +kernel
theorem dX0_lift_46 : decode cX0_lift 46 = .ok (.aload_n 0, 1) := by decide +kernel
theorem dX0_lift_47 : decode cX0_lift 47 = .ok (.getfield 15, 3) := by decide +kernel
theorem dX0_lift_50 : decode cX0_lift 50 = .ok (.iconst 1, 1) := by decide +kernel
theorem dX0_lift_51 : decode cX0_lift 51 = .ok (.iadd, 1) := by decide +kernel
theorem dX0_lift_52 : decode cX0_lift 52 = .ok (.goto 4, 3) := by decide +kernel
theorem dX0_lift_55 : decode cX0_lift 55 = .ok (.iconst 0, 1) := by decide +kernel
theorem dX0_lift_56 : decode cX0_lift 56 = .ok (.putfield 15, 3) := by decide +kernel
theorem dX0_lift_59 : decode cX0_lift 59 = .ok (.iload_n 1, 1) := by decide +kernel
theorem dX0_lift_60 : decode cX0_lift 60 = .ok (.ireturn, 1) := by decide +kernel
theorem dX1_init_0 : decode cX1_init 0 = .ok (.aload_n 0, 1) := by decide +kernel
theorem dX1_init_1 : decode cX1_init 1 = .ok (.invokespecial 3, 3) := by decide +kernel
theorem dX1_init_4 : decode cX1_init 4 = .ok (.aload_n 0, 1) := by decide +kernel
theorem dX1_init_5 : decode cX1_init 5 = .ok (.bipush 48, 2) := by decide +kernel
theorem dX1_init_7 : decode cX1_init 7 = .ok (.newarray .int, 2) := by decide +kernel
theorem dX1_init_9 : decode cX1_init 9 = .ok (.putfield 9, 3) := by decide +kernel
theorem dX1_init_12 : decode cX1_init 12 = .ok (.return_, 1) := by decide +kernel
theorem dX1_isFault_0 : decode cX1_isFault 0 = .ok (.iload_n 0, 1) := by decide +kernel
theorem dX1_isFault_1 : decode cX1_isFault 1 = .ok (.tableswitch 125 0 4 #[35, 37, 64, 87, 104], 35) := by decide +kernel
theorem dX1_isFault_36 : decode cX1_isFault 36 = .ok (.iconst 1, 1) := by decide +kernel
theorem dX1_isFault_37 : decode cX1_isFault 37 = .ok (.ireturn, 1) := by decide +kernel
theorem dX1_isFault_38 : decode cX1_isFault 38 = .ok (.iload_n 1, 1) := by decide +kernel
theorem dX1_isFault_39 : decode cX1_isFault 39 = .ok (.iconst 1, 1) := by decide +kernel
theorem dX1_isFault_40 : decode cX1_isFault 40 = .ok (.if_icmp .lt 23, 3) := by decide +kernel
theorem dX1_isFault_43 : decode cX1_isFault 43 = .ok (.iload_n 1, 1) := by decide +kernel
theorem dX1_isFault_44 : decode cX1_isFault 44 = .ok (.bipush 12, 2) := by decide +kernel
theorem dX1_isFault_46 : decode cX1_isFault 46 = .ok (.if_icmp .ge 17, 3) := by decide +kernel
theorem dX1_isFault_49 : decode cX1_isFault 49 = .ok (.iload_n 2, 1) := by decide +kernel
theorem dX1_isFault_50 : decode cX1_isFault 50 = .ok (.ifCond .lt 13, 3) := by decide +kernel
theorem dX1_isFault_53 : decode cX1_isFault 53 = .ok (.iload_n 2, 1) := by decide +kernel
theorem dX1_isFault_54 : decode cX1_isFault 54 = .ok (.bipush 48, 2) := by decide +kernel
theorem dX1_isFault_56 : decode cX1_isFault 56 = .ok (.if_icmp .ge 7, 3) := by decide +kernel
theorem dX1_isFault_59 : decode cX1_isFault 59 = .ok (.iconst 1, 1) := by decide +kernel
theorem dX1_isFault_60 : decode cX1_isFault 60 = .ok (.goto 4, 3) := by decide +kernel
theorem dX1_isFault_63 : decode cX1_isFault 63 = .ok (.iconst 0, 1) := by decide +kernel
theorem dX1_isFault_64 : decode cX1_isFault 64 = .ok (.ireturn, 1) := by decide +kernel
theorem dX1_isFault_65 : decode cX1_isFault 65 = .ok (.iload_n 1, 1) := by decide +kernel
theorem dX1_isFault_66 : decode cX1_isFault 66 = .ok (.invokestatic 15, 3) := by decide +kernel
theorem dX1_isFault_69 : decode cX1_isFault 69 = .ok (.ifCond .eq 17, 3) := by decide +kernel
theorem dX1_isFault_72 : decode cX1_isFault 72 = .ok (.iload_n 2, 1) := by decide +kernel
theorem dX1_isFault_73 : decode cX1_isFault 73 = .ok (.ifCond .lt 13, 3) := by decide +kernel
theorem dX1_isFault_76 : decode cX1_isFault 76 = .ok (.iload_n 2, 1) := by decide +kernel
theorem dX1_isFault_77 : decode cX1_isFault 77 = .ok (.bipush 24, 2) := by decide +kernel
theorem dX1_isFault_79 : decode cX1_isFault 79 = .ok (.if_icmp .gt 7, 3) := by decide +kernel
theorem dX1_isFault_82 : decode cX1_isFault 82 = .ok (.iconst 1, 1) := by decide +kernel
theorem dX1_isFault_83 : decode cX1_isFault 83 = .ok (.goto 4, 3) := by decide +kernel
theorem dX1_isFault_86 : decode cX1_isFault 86 = .ok (.iconst 0, 1) := by decide +kernel
theorem dX1_isFault_87 : decode cX1_isFault 87 = .ok (.ireturn, 1) := by decide +kernel
theorem dX1_isFault_88 : decode cX1_isFault 88 = .ok (.iload_n 1, 1) := by decide +kernel
theorem dX1_isFault_89 : decode cX1_isFault 89 = .ok (.iconst 1, 1) := by decide +kernel
theorem dX1_isFault_90 : decode cX1_isFault 90 = .ok (.if_icmp .lt 13, 3) := by decide +kernel
theorem dX1_isFault_93 : decode cX1_isFault 93 = .ok (.iload_n 1, 1) := by decide +kernel
theorem dX1_isFault_94 : decode cX1_isFault 94 = .ok (.bipush 12, 2) := by decide +kernel
theorem dX1_isFault_96 : decode cX1_isFault 96 = .ok (.if_icmp .ge 7, 3) := by decide +kernel
theorem dX1_isFault_99 : decode cX1_isFault 99 = .ok (.iconst 1, 1) := by decide +kernel
theorem dX1_isFault_100 : decode cX1_isFault 100 = .ok (.goto 4, 3) := by decide +kernel
theorem dX1_isFault_103 : decode cX1_isFault 103 = .ok (.iconst 0, 1) := by decide +kernel
theorem dX1_isFault_104 : decode cX1_isFault 104 = .ok (.ireturn, 1) := by decide +kernel
theorem dX1_isFault_105 : decode cX1_isFault 105 = .ok (.iload_n 1, 1) := by decide +kernel
theorem dX1_isFault_106 : decode cX1_isFault 106 = .ok (.ifCond .lt 18, 3) := by decide +kernel
theorem dX1_isFault_109 : decode cX1_isFault 109 = .ok (.iload_n 1, 1) := by decide +kernel
theorem dX1_isFault_110 : decode cX1_isFault 110 = .ok (.iload_n 2, 1) := by decide +kernel
theorem dX1_isFault_111 : decode cX1_isFault 111 = .ok (.if_icmp .gt 13, 3) := by decide +kernel
theorem dX1_isFault_114 : decode cX1_isFault 114 = .ok (.iload_n 2, 1) := by decide +kernel
theorem dX1_isFault_115 : decode cX1_isFault 115 = .ok (.bipush 48, 2) := by decide +kernel
theorem dX1_isFault_117 : decode cX1_isFault 117 = .ok (.if_icmp .ge 7, 3) := by decide +kernel
theorem dX1_isFault_120 : decode cX1_isFault 120 = .ok (.iconst 1, 1) := by decide +kernel
theorem dX1_isFault_121 : decode cX1_isFault 121 = .ok (.goto 4, 3) := by decide +kernel
theorem dX1_isFault_124 : decode cX1_isFault 124 = .ok (.iconst 0, 1) := by decide +kernel
theorem dX1_isFault_125 : decode cX1_isFault 125 = .ok (.ireturn, 1) := by decide +kernel
theorem dX1_isFault_126 : decode cX1_isFault 126 = .ok (.iconst 0, 1) := by decide +kernel
theorem dX1_isFault_127 : decode cX1_isFault 127 = .ok (.ireturn, 1) := by decide +kernel
theorem dX1_dueAt_0 : decode cX1_dueAt 0 = .ok (.iload_n 0, 1) := by decide +kernel
theorem dX1_dueAt_1 : decode cX1_dueAt 1 = .ok (.iconst 1, 1) := by decide +kernel
theorem dX1_dueAt_2 : decode cX1_dueAt 2 = .ok (.isub, 1) := by decide +kernel
theorem dX1_dueAt_3 : decode cX1_dueAt 3 = .ok (.iload_n 1, 1) := by decide +kernel
theorem dX1_dueAt_4 : decode cX1_dueAt 4 = .ok (.iadd, 1) := by decide +kernel
theorem dX1_dueAt_5 : decode cX1_dueAt 5 = .ok (.bipush 12, 2) := by decide +kernel
theorem dX1_dueAt_7 : decode cX1_dueAt 7 = .ok (.irem, 1) := by decide +kernel
theorem dX1_dueAt_8 : decode cX1_dueAt 8 = .ok (.iconst 1, 1) := by decide +kernel
theorem dX1_dueAt_9 : decode cX1_dueAt 9 = .ok (.iadd, 1) := by decide +kernel
theorem dX1_dueAt_10 : decode cX1_dueAt 10 = .ok (.istore 5, 2) := by decide +kernel
theorem dX1_dueAt_12 : decode cX1_dueAt 12 = .ok (.iload_n 2, 1) := by decide +kernel
theorem dX1_dueAt_13 : decode cX1_dueAt 13 = .ok (.tableswitch 95 1 4 #[31, 54, 68, 77], 31) := by decide +kernel
theorem dX1_dueAt_44 : decode cX1_dueAt 44 = .ok (.iload_n 1, 1) := by decide +kernel
theorem dX1_dueAt_45 : decode cX1_dueAt 45 = .ok (.iload 4, 2) := by decide +kernel
theorem dX1_dueAt_47 : decode cX1_dueAt 47 = .ok (.if_icmp .ge 8, 3) := by decide +kernel
theorem dX1_dueAt_50 : decode cX1_dueAt 50 = .ok (.iload 5, 2) := by decide +kernel
theorem dX1_dueAt_52 : decode cX1_dueAt 52 = .ok (.goto 14, 3) := by decide +kernel
theorem dX1_dueAt_55 : decode cX1_dueAt 55 = .ok (.iload 5, 2) := by decide +kernel
theorem dX1_dueAt_57 : decode cX1_dueAt 57 = .ok (.iconst 1, 1) := by decide +kernel
theorem dX1_dueAt_58 : decode cX1_dueAt 58 = .ok (.isub, 1) := by decide +kernel
theorem dX1_dueAt_59 : decode cX1_dueAt 59 = .ok (.iload_n 3, 1) := by decide +kernel
theorem dX1_dueAt_60 : decode cX1_dueAt 60 = .ok (.iadd, 1) := by decide +kernel
theorem dX1_dueAt_61 : decode cX1_dueAt 61 = .ok (.bipush 12, 2) := by decide +kernel
theorem dX1_dueAt_63 : decode cX1_dueAt 63 = .ok (.irem, 1) := by decide +kernel
theorem dX1_dueAt_64 : decode cX1_dueAt 64 = .ok (.iconst 1, 1) := by decide +kernel
theorem dX1_dueAt_65 : decode cX1_dueAt 65 = .ok (.iadd, 1) := by decide +kernel
theorem dX1_dueAt_66 : decode cX1_dueAt 66 = .ok (.ireturn, 1) := by decide +kernel
theorem dX1_dueAt_67 : decode cX1_dueAt 67 = .ok (.iload 5, 2) := by decide +kernel
theorem dX1_dueAt_69 : decode cX1_dueAt 69 = .ok (.iload_n 3, 1) := by decide +kernel
theorem dX1_dueAt_70 : decode cX1_dueAt 70 = .ok (.if_icmp .ne 8, 3) := by decide +kernel
theorem dX1_dueAt_73 : decode cX1_dueAt 73 = .ok (.iload 4, 2) := by decide +kernel
theorem dX1_dueAt_75 : decode cX1_dueAt 75 = .ok (.goto 5, 3) := by decide +kernel
theorem dX1_dueAt_78 : decode cX1_dueAt 78 = .ok (.iload 5, 2) := by decide +kernel
theorem dX1_dueAt_80 : decode cX1_dueAt 80 = .ok (.ireturn, 1) := by decide +kernel
theorem dX1_dueAt_81 : decode cX1_dueAt 81 = .ok (.iload 5, 2) := by decide +kernel
theorem dX1_dueAt_83 : decode cX1_dueAt 83 = .ok (.iload_n 3, 1) := by decide +kernel
theorem dX1_dueAt_84 : decode cX1_dueAt 84 = .ok (.isub, 1) := by decide +kernel
theorem dX1_dueAt_85 : decode cX1_dueAt 85 = .ok (.iconst 0, 1) := by decide +kernel
theorem dX1_dueAt_86 : decode cX1_dueAt 86 = .ok (.invokestatic 19, 3) := by decide +kernel
theorem dX1_dueAt_89 : decode cX1_dueAt 89 = .ok (.ireturn, 1) := by decide +kernel
theorem dX1_dueAt_90 : decode cX1_dueAt 90 = .ok (.iload_n 1, 1) := by decide +kernel
theorem dX1_dueAt_91 : decode cX1_dueAt 91 = .ok (.iload_n 3, 1) := by decide +kernel
theorem dX1_dueAt_92 : decode cX1_dueAt 92 = .ok (.if_icmp .lt 13, 3) := by decide +kernel
theorem dX1_dueAt_95 : decode cX1_dueAt 95 = .ok (.iload_n 1, 1) := by decide +kernel
theorem dX1_dueAt_96 : decode cX1_dueAt 96 = .ok (.iload 4, 2) := by decide +kernel
theorem dX1_dueAt_98 : decode cX1_dueAt 98 = .ok (.if_icmp .gt 7, 3) := by decide +kernel
theorem dX1_dueAt_101 : decode cX1_dueAt 101 = .ok (.iconst 0, 1) := by decide +kernel
theorem dX1_dueAt_102 : decode cX1_dueAt 102 = .ok (.goto 5, 3) := by decide +kernel
theorem dX1_dueAt_105 : decode cX1_dueAt 105 = .ok (.iload 5, 2) := by decide +kernel
theorem dX1_dueAt_107 : decode cX1_dueAt 107 = .ok (.ireturn, 1) := by decide +kernel
theorem dX1_dueAt_108 : decode cX1_dueAt 108 = .ok (.iload 5, 2) := by decide +kernel
theorem dX1_dueAt_110 : decode cX1_dueAt 110 = .ok (.ireturn, 1) := by decide +kernel
theorem dX1_listen_0 : decode cX1_listen 0 = .ok (.aload_n 0, 1) := by decide +kernel
theorem dX1_listen_1 : decode cX1_listen 1 = .ok (.iload_n 2, 1) := by decide +kernel
theorem dX1_listen_2 : decode cX1_listen 2 = .ok (.putfield 25, 3) := by decide +kernel
theorem dX1_listen_5 : decode cX1_listen 5 = .ok (.iconst 0, 1) := by decide +kernel
theorem dX1_listen_6 : decode cX1_listen 6 = .ok (.istore_n 3, 1) := by decide +kernel
theorem dX1_listen_7 : decode cX1_listen 7 = .ok (.iload_n 3, 1) := by decide +kernel
theorem dX1_listen_8 : decode cX1_listen 8 = .ok (.aload_n 0, 1) := by decide +kernel
theorem dX1_listen_9 : decode cX1_listen 9 = .ok (.getfield 9, 3) := by decide +kernel
theorem dX1_listen_12 : decode cX1_listen 12 = .ok (.arraylength, 1) := by decide +kernel
theorem dX1_listen_13 : decode cX1_listen 13 = .ok (.if_icmp .ge 36, 3) := by decide +kernel
theorem dX1_listen_16 : decode cX1_listen 16 = .ok (.aload_n 0, 1) := by decide +kernel
theorem dX1_listen_17 : decode cX1_listen 17 = .ok (.getfield 9, 3) := by decide +kernel
theorem dX1_listen_20 : decode cX1_listen 20 = .ok (.iload_n 3, 1) := by decide +kernel
theorem dX1_listen_21 : decode cX1_listen 21 = .ok (.aload_n 1, 1) := by decide +kernel
theorem dX1_listen_22 : decode cX1_listen 22 = .ok (.ifnull 19, 3) := by decide +kernel
theorem dX1_listen_25 : decode cX1_listen 25 = .ok (.iload_n 3, 1) := by decide +kernel
theorem dX1_listen_26 : decode cX1_listen 26 = .ok (.aload_n 1, 1) := by decide +kernel
theorem dX1_listen_27 : decode cX1_listen 27 = .ok (.getfield 29, 3) := by decide +kernel
theorem dX1_listen_30 : decode cX1_listen 30 = .ok (.if_icmp .ge 11, 3) := by decide +kernel
theorem dX1_listen_33 : decode cX1_listen 33 = .ok (.aload_n 1, 1) := by decide +kernel
theorem dX1_listen_34 : decode cX1_listen 34 = .ok (.iload_n 3, 1) := by decide +kernel
theorem dX1_listen_35 : decode cX1_listen 35 = .ok (.invokevirtual 34, 3) := by decide +kernel
theorem dX1_listen_38 : decode cX1_listen 38 = .ok (.goto 4, 3) := by decide +kernel
theorem dX1_listen_41 : decode cX1_listen 41 = .ok (.iconst (-1), 1) := by decide +kernel
theorem dX1_listen_42 : decode cX1_listen 42 = .ok (.iastore, 1) := by decide +kernel
theorem dX1_listen_43 : decode cX1_listen 43 = .ok (.iinc 3 1, 3) := by decide +kernel
theorem dX1_listen_46 : decode cX1_listen 46 = .ok (.goto (-39), 3) := by decide +kernel
theorem dX1_listen_49 : decode cX1_listen 49 = .ok (.return_, 1) := by decide +kernel
theorem dX1_misfitsOf_0 : decode cX1_misfitsOf 0 = .ok (.iconst 0, 1) := by decide +kernel
theorem dX1_misfitsOf_1 : decode cX1_misfitsOf 1 = .ok (.istore 4, 2) := by decide +kernel
theorem dX1_misfitsOf_3 : decode cX1_misfitsOf 3 = .ok (.iconst 0, 1) := by decide +kernel
theorem dX1_misfitsOf_4 : decode cX1_misfitsOf 4 = .ok (.istore 5, 2) := by decide +kernel
theorem dX1_misfitsOf_6 : decode cX1_misfitsOf 6 = .ok (.iload 5, 2) := by decide +kernel
theorem dX1_misfitsOf_8 : decode cX1_misfitsOf 8 = .ok (.aload_n 0, 1) := by decide +kernel
theorem dX1_misfitsOf_9 : decode cX1_misfitsOf 9 = .ok (.getfield 9, 3) := by decide +kernel
theorem dX1_misfitsOf_12 : decode cX1_misfitsOf 12 = .ok (.arraylength, 1) := by decide +kernel
theorem dX1_misfitsOf_13 : decode cX1_misfitsOf 13 = .ok (.if_icmp .ge 32, 3) := by decide +kernel
theorem dX1_misfitsOf_16 : decode cX1_misfitsOf 16 = .ok (.iload 4, 2) := by decide +kernel
theorem dX1_misfitsOf_18 : decode cX1_misfitsOf 18 = .ok (.aload_n 0, 1) := by decide +kernel
theorem dX1_misfitsOf_19 : decode cX1_misfitsOf 19 = .ok (.iload 5, 2) := by decide +kernel
theorem dX1_misfitsOf_21 : decode cX1_misfitsOf 21 = .ok (.aload_n 0, 1) := by decide +kernel
theorem dX1_misfitsOf_22 : decode cX1_misfitsOf 22 = .ok (.getfield 25, 3) := by decide +kernel
theorem dX1_misfitsOf_25 : decode cX1_misfitsOf 25 = .ok (.iload 5, 2) := by decide +kernel
theorem dX1_misfitsOf_27 : decode cX1_misfitsOf 27 = .ok (.iload_n 1, 1) := by decide +kernel
theorem dX1_misfitsOf_28 : decode cX1_misfitsOf 28 = .ok (.iload_n 2, 1) := by decide +kernel
theorem dX1_misfitsOf_29 : decode cX1_misfitsOf 29 = .ok (.iload_n 3, 1) := by decide +kernel
theorem dX1_misfitsOf_30 : decode cX1_misfitsOf 30 = .ok (.invokestatic 38, 3) := by decide +kernel
theorem dX1_misfitsOf_33 : decode cX1_misfitsOf 33 = .ok (.invokevirtual 42, 3) := by decide +kernel
theorem dX1_misfitsOf_36 : decode cX1_misfitsOf 36 = .ok (.iadd, 1) := by decide +kernel
theorem dX1_misfitsOf_37 : decode cX1_misfitsOf 37 = .ok (.istore 4, 2) := by decide +kernel
theorem dX1_misfitsOf_39 : decode cX1_misfitsOf 39 = .ok (.iinc 5 1, 3) := by decide +kernel
theorem dX1_misfitsOf_42 : decode cX1_misfitsOf 42 = .ok (.goto (-36), 3) := by decide +kernel
theorem dX1_misfitsOf_45 : decode cX1_misfitsOf 45 = .ok (.iload 4, 2) := by decide +kernel
theorem dX1_misfitsOf_47 : decode cX1_misfitsOf 47 = .ok (.ireturn, 1) := by decide +kernel
theorem dX1_firstWithMore_0 : decode cX1_firstWithMore 0 = .ok (.iconst 0, 1) := by decide +kernel
theorem dX1_firstWithMore_1 : decode cX1_firstWithMore 1 = .ok (.istore 4, 2) := by decide +kernel
theorem dX1_firstWithMore_3 : decode cX1_firstWithMore 3 = .ok (.iload 4, 2) := by decide +kernel
theorem dX1_firstWithMore_5 : decode cX1_firstWithMore 5 = .ok (.aload_n 0, 1) := by decide +kernel
theorem dX1_firstWithMore_6 : decode cX1_firstWithMore 6 = .ok (.getfield 9, 3) := by decide +kernel
theorem dX1_firstWithMore_9 : decode cX1_firstWithMore 9 = .ok (.arraylength, 1) := by decide +kernel
theorem dX1_firstWithMore_10 : decode cX1_firstWithMore 10 = .ok (.if_icmp .ge 34, 3) := by decide +kernel
theorem dX1_firstWithMore_13 : decode cX1_firstWithMore 13 = .ok (.aload_n 0, 1) := by decide +kernel
theorem dX1_firstWithMore_14 : decode cX1_firstWithMore 14 = .ok (.getfield 9, 3) := by decide +kernel
theorem dX1_firstWithMore_17 : decode cX1_firstWithMore 17 = .ok (.iload 4, 2) := by decide +kernel
theorem dX1_firstWithMore_19 : decode cX1_firstWithMore 19 = .ok (.iaload, 1) := by decide +kernel
theorem dX1_firstWithMore_20 : decode cX1_firstWithMore 20 = .ok (.aload_n 0, 1) := by decide +kernel
theorem dX1_firstWithMore_21 : decode cX1_firstWithMore 21 = .ok (.getfield 25, 3) := by decide +kernel
theorem dX1_firstWithMore_24 : decode cX1_firstWithMore 24 = .ok (.iload 4, 2) := by decide +kernel
theorem dX1_firstWithMore_26 : decode cX1_firstWithMore 26 = .ok (.iload_n 1, 1) := by decide +kernel
theorem dX1_firstWithMore_27 : decode cX1_firstWithMore 27 = .ok (.iload_n 2, 1) := by decide +kernel
theorem dX1_firstWithMore_28 : decode cX1_firstWithMore 28 = .ok (.iload_n 3, 1) := by decide +kernel
theorem dX1_firstWithMore_29 : decode cX1_firstWithMore 29 = .ok (.invokestatic 38, 3) := by decide +kernel
theorem dX1_firstWithMore_32 : decode cX1_firstWithMore 32 = .ok (.if_icmp .le 6, 3) := by decide +kernel
theorem dX1_firstWithMore_35 : decode cX1_firstWithMore 35 = .ok (.iload 4, 2) := by decide +kernel
theorem dX1_firstWithMore_37 : decode cX1_firstWithMore 37 = .ok (.ireturn, 1) := by decide +kernel
theorem dX1_firstWithMore_38 : decode cX1_firstWithMore 38 = .ok (.iinc 4 1, 3) := by decide +kernel
theorem dX1_firstWithMore_41 : decode cX1_firstWithMore 41 = .ok (.goto (-38), 3) := by decide +kernel
theorem dX1_firstWithMore_44 : decode cX1_firstWithMore 44 = .ok (.bipush (-9), 2) := by decide +kernel
theorem dX1_firstWithMore_46 : decode cX1_firstWithMore 46 = .ok (.ireturn, 1) := by decide +kernel
theorem dX1_misfit_0 : decode cX1_misfit 0 = .ok (.iload_n 1, 1) := by decide +kernel
theorem dX1_misfit_1 : decode cX1_misfit 1 = .ok (.ifCond .lt 12, 3) := by decide +kernel
theorem dX1_misfit_4 : decode cX1_misfit 4 = .ok (.iload_n 1, 1) := by decide +kernel
theorem dX1_misfit_5 : decode cX1_misfit 5 = .ok (.aload_n 0, 1) := by decide +kernel
theorem dX1_misfit_6 : decode cX1_misfit 6 = .ok (.getfield 9, 3) := by decide +kernel
theorem dX1_misfit_9 : decode cX1_misfit 9 = .ok (.arraylength, 1) := by decide +kernel
theorem dX1_misfit_10 : decode cX1_misfit 10 = .ok (.if_icmp .lt 5, 3) := by decide +kernel
theorem dX1_misfit_13 : decode cX1_misfit 13 = .ok (.iconst 0, 1) := by decide +kernel
theorem dX1_misfit_14 : decode cX1_misfit 14 = .ok (.ireturn, 1) := by decide +kernel
theorem dX1_misfit_15 : decode cX1_misfit 15 = .ok (.aload_n 0, 1) := by decide +kernel
theorem dX1_misfit_16 : decode cX1_misfit 16 = .ok (.getfield 9, 3) := by decide +kernel
theorem dX1_misfit_19 : decode cX1_misfit 19 = .ok (.iload_n 1, 1) := by decide +kernel
theorem dX1_misfit_20 : decode cX1_misfit 20 = .ok (.iaload, 1) := by decide +kernel
theorem dX1_misfit_21 : decode cX1_misfit 21 = .ok (.ifCond .lt 17, 3) := by decide +kernel
theorem dX1_misfit_24 : decode cX1_misfit 24 = .ok (.aload_n 0, 1) := by decide +kernel
theorem dX1_misfit_25 : decode cX1_misfit 25 = .ok (.getfield 9, 3) := by decide +kernel
theorem dX1_misfit_28 : decode cX1_misfit 28 = .ok (.iload_n 1, 1) := by decide +kernel
theorem dX1_misfit_29 : decode cX1_misfit 29 = .ok (.iaload, 1) := by decide +kernel
theorem dX1_misfit_30 : decode cX1_misfit 30 = .ok (.iload_n 2, 1) := by decide +kernel
theorem dX1_misfit_31 : decode cX1_misfit 31 = .ok (.if_icmp .eq 7, 3) := by decide +kernel
theorem dX1_misfit_34 : decode cX1_misfit 34 = .ok (.iconst 1, 1) := by decide +kernel
theorem dX1_misfit_35 : decode cX1_misfit 35 = .ok (.goto 4, 3) := by decide +kernel
theorem dX1_misfit_38 : decode cX1_misfit 38 = .ok (.iconst 0, 1) := by decide +kernel
theorem dX1_misfit_39 : decode cX1_misfit 39 = .ok (.ireturn, 1) := by decide +kernel
theorem dX1_misfitOfNone_0 : decode cX1_misfitOfNone 0 = .ok (.aload_n 0, 1) := by decide +kernel
theorem dX1_misfitOfNone_1 : decode cX1_misfitOfNone 1 = .ok (.iload_n 1, 1) := by decide +kernel
theorem dX1_misfitOfNone_2 : decode cX1_misfitOfNone 2 = .ok (.aload_n 0, 1) := by decide +kernel
theorem dX1_misfitOfNone_3 : decode cX1_misfitOfNone 3 = .ok (.getfield 25, 3) := by decide +kernel
theorem dX1_misfitOfNone_6 : decode cX1_misfitOfNone 6 = .ok (.iload_n 1, 1) := by decide +kernel
theorem dX1_misfitOfNone_7 : decode cX1_misfitOfNone 7 = .ok (.iconst 0, 1) := by decide +kernel
theorem dX1_misfitOfNone_8 : decode cX1_misfitOfNone 8 = .ok (.iconst 0, 1) := by decide +kernel
theorem dX1_misfitOfNone_9 : decode cX1_misfitOfNone 9 = .ok (.iconst 0, 1) := by decide +kernel
theorem dX1_misfitOfNone_10 : decode cX1_misfitOfNone 10 = .ok (.invokestatic 38, 3) := by decide +kernel
theorem dX1_misfitOfNone_13 : decode cX1_misfitOfNone 13 = .ok (.invokevirtual 42, 3) := by decide +kernel
theorem dX1_misfitOfNone_16 : decode cX1_misfitOfNone 16 = .ok (.ireturn, 1) := by decide +kernel
theorem dX1_search_0 : decode cX1_search 0 = .ok (.aload_n 0, 1) := by decide +kernel
theorem dX1_search_1 : decode cX1_search 1 = .ok (.iconst 0, 1) := by decide +kernel
theorem dX1_search_2 : decode cX1_search 2 = .ok (.putfield 45, 3) := by decide +kernel
theorem dX1_search_5 : decode cX1_search 5 = .ok (.aload_n 0, 1) := by decide +kernel
theorem dX1_search_6 : decode cX1_search 6 = .ok (.bipush 49, 2) := by decide +kernel
theorem dX1_search_8 : decode cX1_search 8 = .ok (.putfield 48, 3) := by decide +kernel
theorem dX1_search_11 : decode cX1_search 11 = .ok (.aload_n 0, 1) := by decide +kernel
theorem dX1_search_12 : decode cX1_search 12 = .ok (.iconst 0, 1) := by decide +kernel
theorem dX1_search_13 : decode cX1_search 13 = .ok (.iconst 0, 1) := by decide +kernel
theorem dX1_search_14 : decode cX1_search 14 = .ok (.iconst 0, 1) := by decide +kernel
theorem dX1_search_15 : decode cX1_search 15 = .ok (.invokevirtual 51, 3) := by decide +kernel
theorem dX1_search_18 : decode cX1_search 18 = .ok (.istore_n 1, 1) := by decide +kernel
theorem dX1_search_19 : decode cX1_search 19 = .ok (.aload_n 0, 1) := by decide +kernel
theorem dX1_search_20 : decode cX1_search 20 = .ok (.iconst 0, 1) := by decide +kernel
theorem dX1_search_21 : decode cX1_search 21 = .ok (.iconst 0, 1) := by decide +kernel
theorem dX1_search_22 : decode cX1_search 22 = .ok (.iconst 0, 1) := by decide +kernel
theorem dX1_search_23 : decode cX1_search 23 = .ok (.iload_n 1, 1) := by decide +kernel
theorem dX1_search_24 : decode cX1_search 24 = .ok (.invokevirtual 55, 3) := by decide +kernel
theorem dX1_search_27 : decode cX1_search 27 = .ok (.aload_n 0, 1) := by decide +kernel
theorem dX1_search_28 : decode cX1_search 28 = .ok (.invokevirtual 59, 3) := by decide +kernel
theorem dX1_search_31 : decode cX1_search 31 = .ok (.aload_n 0, 1) := by decide +kernel
theorem dX1_search_32 : decode cX1_search 32 = .ok (.iload_n 1, 1) := by decide +kernel
theorem dX1_search_33 : decode cX1_search 33 = .ok (.invokevirtual 62, 3) := by decide +kernel
theorem dX1_search_36 : decode cX1_search 36 = .ok (.iconst 1, 1) := by decide +kernel
theorem dX1_search_37 : decode cX1_search 37 = .ok (.istore_n 2, 1) := by decide +kernel
theorem dX1_search_38 : decode cX1_search 38 = .ok (.iload_n 2, 1) := by decide +kernel
theorem dX1_search_39 : decode cX1_search 39 = .ok (.bipush 12, 2) := by decide +kernel
theorem dX1_search_41 : decode cX1_search 41 = .ok (.if_icmp .ge 23, 3) := by decide +kernel
theorem dX1_search_44 : decode cX1_search 44 = .ok (.aload_n 0, 1) := by decide +kernel
theorem dX1_search_45 : decode cX1_search 45 = .ok (.iconst 3, 1) := by decide +kernel
theorem dX1_search_46 : decode cX1_search 46 = .ok (.iload_n 2, 1) := by decide +kernel
theorem dX1_search_47 : decode cX1_search 47 = .ok (.iconst 0, 1) := by decide +kernel
theorem dX1_search_48 : decode cX1_search 48 = .ok (.aload_n 0, 1) := by decide +kernel
theorem dX1_search_49 : decode cX1_search 49 = .ok (.iconst 3, 1) := by decide +kernel
theorem dX1_search_50 : decode cX1_search 50 = .ok (.iload_n 2, 1) := by decide +kernel
theorem dX1_search_51 : decode cX1_search 51 = .ok (.iconst 0, 1) := by decide +kernel
theorem dX1_search_52 : decode cX1_search 52 = .ok (.invokevirtual 51, 3) := by decide +kernel
theorem dX1_search_55 : decode cX1_search 55 = .ok (.invokevirtual 55, 3) := by decide +kernel
theorem dX1_search_58 : decode cX1_search 58 = .ok (.iinc 2 1, 3) := by decide +kernel
theorem dX1_search_61 : decode cX1_search 61 = .ok (.goto (-23), 3) := by decide +kernel
theorem dX1_search_64 : decode cX1_search 64 = .ok (.aload_n 0, 1) := by decide +kernel
theorem dX1_search_65 : decode cX1_search 65 = .ok (.iload_n 1, 1) := by decide +kernel
theorem dX1_search_66 : decode cX1_search 66 = .ok (.invokevirtual 66, 3) := by decide +kernel
theorem dX1_search_69 : decode cX1_search 69 = .ok (.return_, 1) := by decide +kernel
theorem dX1_offerOut_0 : decode cX1_offerOut 0 = .ok (.iconst 1, 1) := by decide +kernel
theorem dX1_offerOut_1 : decode cX1_offerOut 1 = .ok (.istore_n 1, 1) := by decide +kernel
theorem dX1_offerOut_2 : decode cX1_offerOut 2 = .ok (.iload_n 1, 1) := by decide +kernel
theorem dX1_offerOut_3 : decode cX1_offerOut 3 = .ok (.bipush 12, 2) := by decide +kernel
theorem dX1_offerOut_5 : decode cX1_offerOut 5 = .ok (.if_icmp .ge 67, 3) := by decide +kernel
theorem dX1_offerOut_8 : decode cX1_offerOut 8 = .ok (.aload_n 0, 1) := by decide +kernel
theorem dX1_offerOut_9 : decode cX1_offerOut 9 = .ok (.iconst 1, 1) := by decide +kernel
theorem dX1_offerOut_10 : decode cX1_offerOut 10 = .ok (.iload_n 1, 1) := by decide +kernel
theorem dX1_offerOut_11 : decode cX1_offerOut 11 = .ok (.iconst 0, 1) := by decide +kernel
theorem dX1_offerOut_12 : decode cX1_offerOut 12 = .ok (.invokevirtual 51, 3) := by decide +kernel
theorem dX1_offerOut_15 : decode cX1_offerOut 15 = .ok (.istore_n 2, 1) := by decide +kernel
theorem dX1_offerOut_16 : decode cX1_offerOut 16 = .ok (.iconst 0, 1) := by decide +kernel
theorem dX1_offerOut_17 : decode cX1_offerOut 17 = .ok (.istore_n 3, 1) := by decide +kernel
theorem dX1_offerOut_18 : decode cX1_offerOut 18 = .ok (.iload_n 3, 1) := by decide +kernel
theorem dX1_offerOut_19 : decode cX1_offerOut 19 = .ok (.aload_n 0, 1) := by decide +kernel
theorem dX1_offerOut_20 : decode cX1_offerOut 20 = .ok (.getfield 9, 3) := by decide +kernel
theorem dX1_offerOut_23 : decode cX1_offerOut 23 = .ok (.arraylength, 1) := by decide +kernel
theorem dX1_offerOut_24 : decode cX1_offerOut 24 = .ok (.if_icmp .ge 42, 3) := by decide +kernel
theorem dX1_offerOut_27 : decode cX1_offerOut 27 = .ok (.aload_n 0, 1) := by decide +kernel
theorem dX1_offerOut_28 : decode cX1_offerOut 28 = .ok (.iconst 1, 1) := by decide +kernel
theorem dX1_offerOut_29 : decode cX1_offerOut 29 = .ok (.iload_n 1, 1) := by decide +kernel
theorem dX1_offerOut_30 : decode cX1_offerOut 30 = .ok (.iload_n 3, 1) := by decide +kernel
theorem dX1_offerOut_31 : decode cX1_offerOut 31 = .ok (.iload_n 2, 1) := by decide +kernel
theorem dX1_offerOut_32 : decode cX1_offerOut 32 = .ok (.invokevirtual 55, 3) := by decide +kernel
theorem dX1_offerOut_35 : decode cX1_offerOut 35 = .ok (.iload_n 2, 1) := by decide +kernel
theorem dX1_offerOut_36 : decode cX1_offerOut 36 = .ok (.aload_n 0, 1) := by decide +kernel
theorem dX1_offerOut_37 : decode cX1_offerOut 37 = .ok (.iload_n 3, 1) := by decide +kernel
theorem dX1_offerOut_38 : decode cX1_offerOut 38 = .ok (.invokevirtual 69, 3) := by decide +kernel
theorem dX1_offerOut_41 : decode cX1_offerOut 41 = .ok (.aload_n 0, 1) := by decide +kernel
theorem dX1_offerOut_42 : decode cX1_offerOut 42 = .ok (.iload_n 3, 1) := by decide +kernel
theorem dX1_offerOut_43 : decode cX1_offerOut 43 = .ok (.aload_n 0, 1) := by decide +kernel
theorem dX1_offerOut_44 : decode cX1_offerOut 44 = .ok (.getfield 25, 3) := by decide +kernel
theorem dX1_offerOut_47 : decode cX1_offerOut 47 = .ok (.iload_n 3, 1) := by decide +kernel
theorem dX1_offerOut_48 : decode cX1_offerOut 48 = .ok (.iconst 1, 1) := by decide +kernel
theorem dX1_offerOut_49 : decode cX1_offerOut 49 = .ok (.iload_n 1, 1) := by decide +kernel
theorem dX1_offerOut_50 : decode cX1_offerOut 50 = .ok (.iconst 0, 1) := by decide +kernel
theorem dX1_offerOut_51 : decode cX1_offerOut 51 = .ok (.invokestatic 38, 3) := by decide +kernel
theorem dX1_offerOut_54 : decode cX1_offerOut 54 = .ok (.invokevirtual 42, 3) := by decide +kernel
theorem dX1_offerOut_57 : decode cX1_offerOut 57 = .ok (.isub, 1) := by decide +kernel
theorem dX1_offerOut_58 : decode cX1_offerOut 58 = .ok (.iadd, 1) := by decide +kernel
theorem dX1_offerOut_59 : decode cX1_offerOut 59 = .ok (.istore_n 2, 1) := by decide +kernel
theorem dX1_offerOut_60 : decode cX1_offerOut 60 = .ok (.iinc 3 1, 3) := by decide +kernel
theorem dX1_offerOut_63 : decode cX1_offerOut 63 = .ok (.goto (-45), 3) := by decide +kernel
theorem dX1_offerOut_66 : decode cX1_offerOut 66 = .ok (.iinc 1 1, 3) := by decide +kernel
theorem dX1_offerOut_69 : decode cX1_offerOut 69 = .ok (.goto (-67), 3) := by decide +kernel
theorem dX1_offerOut_72 : decode cX1_offerOut 72 = .ok (.return_, 1) := by decide +kernel
theorem dX1_offerNotches_0 : decode cX1_offerNotches 0 = .ok (.iconst 1, 1) := by decide +kernel
theorem dX1_offerNotches_1 : decode cX1_offerNotches 1 = .ok (.istore_n 2, 1) := by decide +kernel
theorem dX1_offerNotches_2 : decode cX1_offerNotches 2 = .ok (.iload_n 2, 1) := by decide +kernel
theorem dX1_offerNotches_3 : decode cX1_offerNotches 3 = .ok (.bipush 12, 2) := by decide +kernel
theorem dX1_offerNotches_5 : decode cX1_offerNotches 5 = .ok (.if_icmp .gt 51, 3) := by decide +kernel
theorem dX1_offerNotches_8 : decode cX1_offerNotches 8 = .ok (.iload_n 1, 1) := by decide +kernel
theorem dX1_offerNotches_9 : decode cX1_offerNotches 9 = .ok (.aload_n 0, 1) := by decide +kernel
theorem dX1_offerNotches_10 : decode cX1_offerNotches 10 = .ok (.iload_n 2, 1) := by decide +kernel
theorem dX1_offerNotches_11 : decode cX1_offerNotches 11 = .ok (.iload_n 2, 1) := by decide +kernel
theorem dX1_offerNotches_12 : decode cX1_offerNotches 12 = .ok (.invokevirtual 72, 3) := by decide +kernel
theorem dX1_offerNotches_15 : decode cX1_offerNotches 15 = .ok (.isub, 1) := by decide +kernel
theorem dX1_offerNotches_16 : decode cX1_offerNotches 16 = .ok (.istore_n 3, 1) := by decide +kernel
theorem dX1_offerNotches_17 : decode cX1_offerNotches 17 = .ok (.iconst 0, 1) := by decide +kernel
theorem dX1_offerNotches_18 : decode cX1_offerNotches 18 = .ok (.istore 4, 2) := by decide +kernel
theorem dX1_offerNotches_20 : decode cX1_offerNotches 20 = .ok (.iload 4, 2) := by decide +kernel
theorem dX1_offerNotches_22 : decode cX1_offerNotches 22 = .ok (.bipush 24, 2) := by decide +kernel
theorem dX1_offerNotches_24 : decode cX1_offerNotches 24 = .ok (.if_icmp .gt 26, 3) := by decide +kernel
theorem dX1_offerNotches_27 : decode cX1_offerNotches 27 = .ok (.aload_n 0, 1) := by decide +kernel
theorem dX1_offerNotches_28 : decode cX1_offerNotches 28 = .ok (.iconst 2, 1) := by decide +kernel
theorem dX1_offerNotches_29 : decode cX1_offerNotches 29 = .ok (.iload_n 2, 1) := by decide +kernel
theorem dX1_offerNotches_30 : decode cX1_offerNotches 30 = .ok (.iload 4, 2) := by decide +kernel
theorem dX1_offerNotches_32 : decode cX1_offerNotches 32 = .ok (.iload_n 3, 1) := by decide +kernel
theorem dX1_offerNotches_33 : decode cX1_offerNotches 33 = .ok (.aload_n 0, 1) := by decide +kernel
theorem dX1_offerNotches_34 : decode cX1_offerNotches 34 = .ok (.iload_n 2, 1) := by decide +kernel
theorem dX1_offerNotches_35 : decode cX1_offerNotches 35 = .ok (.iload 4, 2) := by decide +kernel
theorem dX1_offerNotches_37 : decode cX1_offerNotches 37 = .ok (.invokevirtual 72, 3) := by decide +kernel
theorem dX1_offerNotches_40 : decode cX1_offerNotches 40 = .ok (.iadd, 1) := by decide +kernel
theorem dX1_offerNotches_41 : decode cX1_offerNotches 41 = .ok (.invokevirtual 55, 3) := by decide +kernel
theorem dX1_offerNotches_44 : decode cX1_offerNotches 44 = .ok (.iinc 4 1, 3) := by decide +kernel
theorem dX1_offerNotches_47 : decode cX1_offerNotches 47 = .ok (.goto (-27), 3) := by decide +kernel
theorem dX1_offerNotches_50 : decode cX1_offerNotches 50 = .ok (.iinc 2 1, 3) := by decide +kernel
theorem dX1_offerNotches_53 : decode cX1_offerNotches 53 = .ok (.goto (-51), 3) := by decide +kernel
theorem dX1_offerNotches_56 : decode cX1_offerNotches 56 = .ok (.return_, 1) := by decide +kernel
theorem dX1_misfitsAtHour_0 : decode cX1_misfitsAtHour 0 = .ok (.iconst 0, 1) := by decide +kernel
theorem dX1_misfitsAtHour_1 : decode cX1_misfitsAtHour 1 = .ok (.istore_n 3, 1) := by decide +kernel
theorem dX1_misfitsAtHour_2 : decode cX1_misfitsAtHour 2 = .ok (.iload_n 1, 1) := by decide +kernel
theorem dX1_misfitsAtHour_3 : decode cX1_misfitsAtHour 3 = .ok (.aload_n 0, 1) := by decide +kernel
theorem dX1_misfitsAtHour_4 : decode cX1_misfitsAtHour 4 = .ok (.getfield 25, 3) := by decide +kernel
theorem dX1_misfitsAtHour_7 : decode cX1_misfitsAtHour 7 = .ok (.isub, 1) := by decide +kernel
theorem dX1_misfitsAtHour_8 : decode cX1_misfitsAtHour 8 = .ok (.bipush 12, 2) := by decide +kernel
theorem dX1_misfitsAtHour_10 : decode cX1_misfitsAtHour 10 = .ok (.invokestatic 75, 3) := by decide +kernel
theorem dX1_misfitsAtHour_13 : decode cX1_misfitsAtHour 13 = .ok (.istore 4, 2) := by decide +kernel
theorem dX1_misfitsAtHour_15 : decode cX1_misfitsAtHour 15 = .ok (.iload 4, 2) := by decide +kernel
theorem dX1_misfitsAtHour_17 : decode cX1_misfitsAtHour 17 = .ok (.aload_n 0, 1) := by decide +kernel
theorem dX1_misfitsAtHour_18 : decode cX1_misfitsAtHour 18 = .ok (.getfield 9, 3) := by decide +kernel
theorem dX1_misfitsAtHour_21 : decode cX1_misfitsAtHour 21 = .ok (.arraylength, 1) := by decide +kernel
theorem dX1_misfitsAtHour_22 : decode cX1_misfitsAtHour 22 = .ok (.if_icmp .ge 19, 3) := by decide +kernel
theorem dX1_misfitsAtHour_25 : decode cX1_misfitsAtHour 25 = .ok (.iload_n 3, 1) := by decide +kernel
theorem dX1_misfitsAtHour_26 : decode cX1_misfitsAtHour 26 = .ok (.aload_n 0, 1) := by decide +kernel
theorem dX1_misfitsAtHour_27 : decode cX1_misfitsAtHour 27 = .ok (.iload 4, 2) := by decide +kernel
theorem dX1_misfitsAtHour_29 : decode cX1_misfitsAtHour 29 = .ok (.iload_n 2, 1) := by decide +kernel
theorem dX1_misfitsAtHour_30 : decode cX1_misfitsAtHour 30 = .ok (.invokevirtual 42, 3) := by decide +kernel
theorem dX1_misfitsAtHour_33 : decode cX1_misfitsAtHour 33 = .ok (.iadd, 1) := by decide +kernel
theorem dX1_misfitsAtHour_34 : decode cX1_misfitsAtHour 34 = .ok (.istore_n 3, 1) := by decide +kernel
theorem dX1_misfitsAtHour_35 : decode cX1_misfitsAtHour 35 = .ok (.iinc 4 12, 3) := by decide +kernel
theorem dX1_misfitsAtHour_38 : decode cX1_misfitsAtHour 38 = .ok (.goto (-23), 3) := by decide +kernel
theorem dX1_misfitsAtHour_41 : decode cX1_misfitsAtHour 41 = .ok (.iload_n 3, 1) := by decide +kernel
theorem dX1_misfitsAtHour_42 : decode cX1_misfitsAtHour 42 = .ok (.ireturn, 1) := by decide +kernel
theorem dX1_offerDeaf_0 : decode cX1_offerDeaf 0 = .ok (.iconst 0, 1) := by decide +kernel
theorem dX1_offerDeaf_1 : decode cX1_offerDeaf 1 = .ok (.istore_n 2, 1) := by decide +kernel
theorem dX1_offerDeaf_2 : decode cX1_offerDeaf 2 = .ok (.iload_n 2, 1) := by decide +kernel
theorem dX1_offerDeaf_3 : decode cX1_offerDeaf 3 = .ok (.aload_n 0, 1) := by decide +kernel
theorem dX1_offerDeaf_4 : decode cX1_offerDeaf 4 = .ok (.getfield 9, 3) := by decide +kernel
theorem dX1_offerDeaf_7 : decode cX1_offerDeaf 7 = .ok (.arraylength, 1) := by decide +kernel
theorem dX1_offerDeaf_8 : decode cX1_offerDeaf 8 = .ok (.if_icmp .ge 56, 3) := by decide +kernel
theorem dX1_offerDeaf_11 : decode cX1_offerDeaf 11 = .ok (.iload_n 1, 1) := by decide +kernel
theorem dX1_offerDeaf_12 : decode cX1_offerDeaf 12 = .ok (.istore_n 3, 1) := by decide +kernel
theorem dX1_offerDeaf_13 : decode cX1_offerDeaf 13 = .ok (.iload_n 2, 1) := by decide +kernel
theorem dX1_offerDeaf_14 : decode cX1_offerDeaf 14 = .ok (.istore 4, 2) := by decide +kernel
theorem dX1_offerDeaf_16 : decode cX1_offerDeaf 16 = .ok (.iload 4, 2) := by decide +kernel
theorem dX1_offerDeaf_18 : decode cX1_offerDeaf 18 = .ok (.aload_n 0, 1) := by decide +kernel
theorem dX1_offerDeaf_19 : decode cX1_offerDeaf 19 = .ok (.getfield 9, 3) := by decide +kernel
theorem dX1_offerDeaf_22 : decode cX1_offerDeaf 22 = .ok (.arraylength, 1) := by decide +kernel
theorem dX1_offerDeaf_23 : decode cX1_offerDeaf 23 = .ok (.if_icmp .ge 35, 3) := by decide +kernel
theorem dX1_offerDeaf_26 : decode cX1_offerDeaf 26 = .ok (.iload_n 3, 1) := by decide +kernel
theorem dX1_offerDeaf_27 : decode cX1_offerDeaf 27 = .ok (.aload_n 0, 1) := by decide +kernel
theorem dX1_offerDeaf_28 : decode cX1_offerDeaf 28 = .ok (.iload 4, 2) := by decide +kernel
theorem dX1_offerDeaf_30 : decode cX1_offerDeaf 30 = .ok (.iconst 0, 1) := by decide +kernel
theorem dX1_offerDeaf_31 : decode cX1_offerDeaf 31 = .ok (.invokevirtual 42, 3) := by decide +kernel
theorem dX1_offerDeaf_34 : decode cX1_offerDeaf 34 = .ok (.aload_n 0, 1) := by decide +kernel
theorem dX1_offerDeaf_35 : decode cX1_offerDeaf 35 = .ok (.iload 4, 2) := by decide +kernel
theorem dX1_offerDeaf_37 : decode cX1_offerDeaf 37 = .ok (.invokevirtual 69, 3) := by decide +kernel
theorem dX1_offerDeaf_40 : decode cX1_offerDeaf 40 = .ok (.isub, 1) := by decide +kernel
theorem dX1_offerDeaf_41 : decode cX1_offerDeaf 41 = .ok (.iadd, 1) := by decide +kernel
theorem dX1_offerDeaf_42 : decode cX1_offerDeaf 42 = .ok (.istore_n 3, 1) := by decide +kernel
theorem dX1_offerDeaf_43 : decode cX1_offerDeaf 43 = .ok (.aload_n 0, 1) := by decide +kernel
theorem dX1_offerDeaf_44 : decode cX1_offerDeaf 44 = .ok (.iconst 4, 1) := by decide +kernel
theorem dX1_offerDeaf_45 : decode cX1_offerDeaf 45 = .ok (.iload_n 2, 1) := by decide +kernel
theorem dX1_offerDeaf_46 : decode cX1_offerDeaf 46 = .ok (.iload 4, 2) := by decide +kernel
theorem dX1_offerDeaf_48 : decode cX1_offerDeaf 48 = .ok (.iload_n 3, 1) := by decide +kernel
theorem dX1_offerDeaf_49 : decode cX1_offerDeaf 49 = .ok (.invokevirtual 55, 3) := by decide +kernel
theorem dX1_offerDeaf_52 : decode cX1_offerDeaf 52 = .ok (.iinc 4 1, 3) := by decide +kernel
theorem dX1_offerDeaf_55 : decode cX1_offerDeaf 55 = .ok (.goto (-39), 3) := by decide +kernel
theorem dX1_offerDeaf_58 : decode cX1_offerDeaf 58 = .ok (.iinc 2 1, 3) := by decide +kernel
theorem dX1_offerDeaf_61 : decode cX1_offerDeaf 61 = .ok (.goto (-59), 3) := by decide +kernel
theorem dX1_offerDeaf_64 : decode cX1_offerDeaf 64 = .ok (.return_, 1) := by decide +kernel
theorem dX1_offer_0 : decode cX1_offer 0 = .ok (.iload 4, 2) := by decide +kernel
theorem dX1_offer_2 : decode cX1_offer 2 = .ok (.ifCond .ne 13, 3) := by decide +kernel
theorem dX1_offer_5 : decode cX1_offer 5 = .ok (.aload_n 0, 1) := by decide +kernel
theorem dX1_offer_6 : decode cX1_offer 6 = .ok (.dup, 1) := by decide +kernel
theorem dX1_offer_7 : decode cX1_offer 7 = .ok (.getfield 45, 3) := by decide +kernel
theorem dX1_offer_10 : decode cX1_offer 10 = .ok (.iconst 1, 1) := by decide +kernel
theorem dX1_offer_11 : decode cX1_offer 11 = .ok (.iadd, 1) := by decide +kernel
theorem dX1_offer_12 : decode cX1_offer 12 = .ok (.putfield 45, 3) := by decide +kernel
theorem dX1_offer_15 : decode cX1_offer 15 = .ok (.iload 4, 2) := by decide +kernel
theorem dX1_offer_17 : decode cX1_offer 17 = .ok (.aload_n 0, 1) := by decide +kernel
theorem dX1_offer_18 : decode cX1_offer 18 = .ok (.getfield 48, 3) := by decide +kernel
theorem dX1_offer_21 : decode cX1_offer 21 = .ok (.if_icmp .ge 24, 3) := by decide +kernel
theorem dX1_offer_24 : decode cX1_offer 24 = .ok (.aload_n 0, 1) := by decide +kernel
theorem dX1_offer_25 : decode cX1_offer 25 = .ok (.iload 4, 2) := by decide +kernel
theorem dX1_offer_27 : decode cX1_offer 27 = .ok (.putfield 48, 3) := by decide +kernel
theorem dX1_offer_30 : decode cX1_offer 30 = .ok (.aload_n 0, 1) := by decide +kernel
theorem dX1_offer_31 : decode cX1_offer 31 = .ok (.iload_n 1, 1) := by decide +kernel
theorem dX1_offer_32 : decode cX1_offer 32 = .ok (.putfield 78, 3) := by decide +kernel
theorem dX1_offer_35 : decode cX1_offer 35 = .ok (.aload_n 0, 1) := by decide +kernel
theorem dX1_offer_36 : decode cX1_offer 36 = .ok (.iload_n 2, 1) := by decide +kernel
theorem dX1_offer_37 : decode cX1_offer 37 = .ok (.putfield 81, 3) := by decide +kernel
theorem dX1_offer_40 : decode cX1_offer 40 = .ok (.aload_n 0, 1) := by decide +kernel
theorem dX1_offer_41 : decode cX1_offer 41 = .ok (.iload_n 3, 1) := by decide +kernel
theorem dX1_offer_42 : decode cX1_offer 42 = .ok (.putfield 84, 3) := by decide +kernel
theorem dX1_offer_45 : decode cX1_offer 45 = .ok (.return_, 1) := by decide +kernel
theorem dX2_init_0 : decode cX2_init 0 = .ok (.aload_n 0, 1) := by decide +kernel
theorem dX2_init_1 : decode cX2_init 1 = .ok (.invokespecial 3, 3) := by decide +kernel
theorem dX2_init_4 : decode cX2_init 4 = .ok (.aload_n 0, 1) := by decide +kernel
theorem dX2_init_5 : decode cX2_init 5 = .ok (.bipush 12, 2) := by decide +kernel
theorem dX2_init_7 : decode cX2_init 7 = .ok (.newarray .int, 2) := by decide +kernel
theorem dX2_init_9 : decode cX2_init 9 = .ok (.putfield 9, 3) := by decide +kernel
theorem dX2_init_12 : decode cX2_init 12 = .ok (.aload_n 0, 1) := by decide +kernel
theorem dX2_init_13 : decode cX2_init 13 = .ok (.iconst 4, 1) := by decide +kernel
theorem dX2_init_14 : decode cX2_init 14 = .ok (.newarray .int, 2) := by decide +kernel
theorem dX2_init_16 : decode cX2_init 16 = .ok (.putfield 15, 3) := by decide +kernel
theorem dX2_init_19 : decode cX2_init 19 = .ok (.aload_n 0, 1) := by decide +kernel
theorem dX2_init_20 : decode cX2_init 20 = .ok (.lconst 0, 1) := by decide +kernel
theorem dX2_init_21 : decode cX2_init 21 = .ok (.putfield 18, 3) := by decide +kernel
theorem dX2_init_24 : decode cX2_init 24 = .ok (.aload_n 0, 1) := by decide +kernel
theorem dX2_init_25 : decode cX2_init 25 = .ok (.lconst 1, 1) := by decide +kernel
theorem dX2_init_26 : decode cX2_init 26 = .ok (.putfield 22, 3) := by decide +kernel
theorem dX2_init_29 : decode cX2_init 29 = .ok (.return_, 1) := by decide +kernel
theorem dX2_add_0 : decode cX2_add 0 = .ok (.aload_n 0, 1) := by decide +kernel
theorem dX2_add_1 : decode cX2_add 1 = .ok (.getfield 25, 3) := by decide +kernel
theorem dX2_add_4 : decode cX2_add 4 = .ok (.ifCond .lt 15, 3) := by decide +kernel
theorem dX2_add_7 : decode cX2_add 7 = .ok (.aload_n 0, 1) := by decide +kernel
theorem dX2_add_8 : decode cX2_add 8 = .ok (.getfield 25, 3) := by decide +kernel
theorem dX2_add_11 : decode cX2_add 11 = .ok (.aload_n 0, 1) := by decide +kernel
theorem dX2_add_12 : decode cX2_add 12 = .ok (.getfield 9, 3) := by decide +kernel
theorem dX2_add_15 : decode cX2_add 15 = .ok (.arraylength, 1) := by decide +kernel
theorem dX2_add_16 : decode cX2_add 16 = .ok (.if_icmp .lt 6, 3) := by decide +kernel
theorem dX2_add_19 : decode cX2_add 19 = .ok (.bipush (-2), 2) := by decide +kernel
theorem dX2_add_21 : decode cX2_add 21 = .ok (.ireturn, 1) := by decide +kernel
theorem dX2_add_22 : decode cX2_add 22 = .ok (.aload_n 0, 1) := by decide +kernel
theorem dX2_add_23 : decode cX2_add 23 = .ok (.getfield 9, 3) := by decide +kernel
theorem dX2_add_26 : decode cX2_add 26 = .ok (.aload_n 0, 1) := by decide +kernel
theorem dX2_add_27 : decode cX2_add 27 = .ok (.getfield 25, 3) := by decide +kernel
theorem dX2_add_30 : decode cX2_add 30 = .ok (.iload_n 1, 1) := by decide +kernel
theorem dX2_add_31 : decode cX2_add 31 = .ok (.iastore, 1) := by decide +kernel
theorem dX2_add_32 : decode cX2_add 32 = .ok (.aload_n 0, 1) := by decide +kernel
theorem dX2_add_33 : decode cX2_add 33 = .ok (.dup, 1) := by decide +kernel
theorem dX2_add_34 : decode cX2_add 34 = .ok (.getfield 25, 3) := by decide +kernel
theorem dX2_add_37 : decode cX2_add 37 = .ok (.iconst 1, 1) := by decide +kernel
theorem dX2_add_38 : decode cX2_add 38 = .ok (.iadd, 1) := by decide +kernel
theorem dX2_add_39 : decode cX2_add 39 = .ok (.putfield 25, 3) := by decide +kernel
theorem dX2_add_42 : decode cX2_add 42 = .ok (.aload_n 0, 1) := by decide +kernel
theorem dX2_add_43 : decode cX2_add 43 = .ok (.getfield 25, 3) := by decide +kernel
theorem dX2_add_46 : decode cX2_add 46 = .ok (.iconst 1, 1) := by decide +kernel
theorem dX2_add_47 : decode cX2_add 47 = .ok (.isub, 1) := by decide +kernel
theorem dX2_add_48 : decode cX2_add 48 = .ok (.ireturn, 1) := by decide +kernel
theorem dX2_chosenAt_0 : decode cX2_chosenAt 0 = .ok (.iload_n 1, 1) := by decide +kernel
theorem dX2_chosenAt_1 : decode cX2_chosenAt 1 = .ok (.ifCond .lt 29, 3) := by decide +kernel
theorem dX2_chosenAt_4 : decode cX2_chosenAt 4 = .ok (.iload_n 1, 1) := by decide +kernel
theorem dX2_chosenAt_5 : decode cX2_chosenAt 5 = .ok (.aload_n 0, 1) := by decide +kernel
theorem dX2_chosenAt_6 : decode cX2_chosenAt 6 = .ok (.getfield 29, 3) := by decide +kernel
theorem dX2_chosenAt_9 : decode cX2_chosenAt 9 = .ok (.if_icmp .ge 21, 3) := by decide +kernel
theorem dX2_chosenAt_12 : decode cX2_chosenAt 12 = .ok (.iload_n 1, 1) := by decide +kernel
theorem dX2_chosenAt_13 : decode cX2_chosenAt 13 = .ok (.aload_n 0, 1) := by decide +kernel
theorem dX2_chosenAt_14 : decode cX2_chosenAt 14 = .ok (.getfield 15, 3) := by decide +kernel
theorem dX2_chosenAt_17 : decode cX2_chosenAt 17 = .ok (.arraylength, 1) := by decide +kernel
theorem dX2_chosenAt_18 : decode cX2_chosenAt 18 = .ok (.if_icmp .ge 12, 3) := by decide +kernel
theorem dX2_chosenAt_21 : decode cX2_chosenAt 21 = .ok (.aload_n 0, 1) := by decide +kernel
theorem dX2_chosenAt_22 : decode cX2_chosenAt 22 = .ok (.getfield 15, 3) := by decide +kernel
theorem dX2_chosenAt_25 : decode cX2_chosenAt 25 = .ok (.iload_n 1, 1) := by decide +kernel
theorem dX2_chosenAt_26 : decode cX2_chosenAt 26 = .ok (.iaload, 1) := by decide +kernel
theorem dX2_chosenAt_27 : decode cX2_chosenAt 27 = .ok (.goto 5, 3) := by decide +kernel
theorem dX2_chosenAt_30 : decode cX2_chosenAt 30 = .ok (.bipush (-9), 2) := by decide +kernel
theorem dX2_chosenAt_32 : decode cX2_chosenAt 32 = .ok (.ireturn, 1) := by decide +kernel
theorem dX2_search_0 : decode cX2_search 0 = .ok (.aload_n 0, 1) := by decide +kernel
theorem dX2_search_1 : decode cX2_search 1 = .ok (.iload_n 1, 1) := by decide +kernel
theorem dX2_search_2 : decode cX2_search 2 = .ok (.i2l, 1) := by decide +kernel
theorem dX2_search_3 : decode cX2_search 3 = .ok (.putfield 32, 3) := by decide +kernel
theorem dX2_search_6 : decode cX2_search 6 = .ok (.aload_n 0, 1) := by decide +kernel
theorem dX2_search_7 : decode cX2_search 7 = .ok (.iload_n 2, 1) := by decide +kernel
theorem dX2_search_8 : decode cX2_search 8 = .ok (.i2l, 1) := by decide +kernel
theorem dX2_search_9 : decode cX2_search 9 = .ok (.putfield 35, 3) := by decide +kernel
theorem dX2_search_12 : decode cX2_search 12 = .ok (.aload_n 0, 1) := by decide +kernel
theorem dX2_search_13 : decode cX2_search 13 = .ok (.iconst 0, 1) := by decide +kernel
theorem dX2_search_14 : decode cX2_search 14 = .ok (.putfield 29, 3) := by decide +kernel
theorem dX2_search_17 : decode cX2_search 17 = .ok (.iconst 0, 1) := by decide +kernel
theorem dX2_search_18 : decode cX2_search 18 = .ok (.istore 4, 2) := by decide +kernel
theorem dX2_search_20 : decode cX2_search 20 = .ok (.iload 4, 2) := by decide +kernel
theorem dX2_search_22 : decode cX2_search 22 = .ok (.aload_n 0, 1) := by decide +kernel
theorem dX2_search_23 : decode cX2_search 23 = .ok (.getfield 25, 3) := by decide +kernel
theorem dX2_search_26 : decode cX2_search 26 = .ok (.if_icmp .ge 69, 3) := by decide +kernel
theorem dX2_search_29 : decode cX2_search 29 = .ok (.iconst 0, 1) := by decide +kernel
theorem dX2_search_30 : decode cX2_search 30 = .ok (.istore 5, 2) := by decide +kernel
theorem dX2_search_32 : decode cX2_search 32 = .ok (.iload 5, 2) := by decide +kernel
theorem dX2_search_34 : decode cX2_search 34 = .ok (.aload_n 0, 1) := by decide +kernel
theorem dX2_search_35 : decode cX2_search 35 = .ok (.getfield 25, 3) := by decide +kernel
theorem dX2_search_38 : decode cX2_search 38 = .ok (.if_icmp .ge 51, 3) := by decide +kernel
theorem dX2_search_41 : decode cX2_search 41 = .ok (.iload 4, 2) := by decide +kernel
theorem dX2_search_43 : decode cX2_search 43 = .ok (.iload 5, 2) := by decide +kernel
theorem dX2_search_45 : decode cX2_search 45 = .ok (.if_icmp .eq 23, 3) := by decide +kernel
theorem dX2_search_48 : decode cX2_search 48 = .ok (.iload_n 3, 1) := by decide +kernel
theorem dX2_search_49 : decode cX2_search 49 = .ok (.iconst 1, 1) := by decide +kernel
theorem dX2_search_50 : decode cX2_search 50 = .ok (.if_icmp .ne 18, 3) := by decide +kernel
theorem dX2_search_53 : decode cX2_search 53 = .ok (.aload_n 0, 1) := by decide +kernel
theorem dX2_search_54 : decode cX2_search 54 = .ok (.iload 4, 2) := by decide +kernel
theorem dX2_search_56 : decode cX2_search 56 = .ok (.iload 5, 2) := by decide +kernel
theorem dX2_search_58 : decode cX2_search 58 = .ok (.bipush (-9), 2) := by decide +kernel
theorem dX2_search_60 : decode cX2_search 60 = .ok (.bipush (-9), 2) := by decide +kernel
theorem dX2_search_62 : decode cX2_search 62 = .ok (.invokevirtual 38, 3) := by decide +kernel
theorem dX2_search_65 : decode cX2_search 65 = .ok (.goto 18, 3) := by decide +kernel
theorem dX2_search_68 : decode cX2_search 68 = .ok (.iload 4, 2) := by decide +kernel
theorem dX2_search_70 : decode cX2_search 70 = .ok (.iload 5, 2) := by decide +kernel
theorem dX2_search_72 : decode cX2_search 72 = .ok (.if_icmp .eq 11, 3) := by decide +kernel
theorem dX2_search_75 : decode cX2_search 75 = .ok (.aload_n 0, 1) := by decide +kernel
theorem dX2_search_76 : decode cX2_search 76 = .ok (.iload 4, 2) := by decide +kernel
theorem dX2_search_78 : decode cX2_search 78 = .ok (.iload 5, 2) := by decide +kernel
theorem dX2_search_80 : decode cX2_search 80 = .ok (.invokevirtual 42, 3) := by decide +kernel
theorem dX2_search_83 : decode cX2_search 83 = .ok (.iinc 5 1, 3) := by decide +kernel
theorem dX2_search_86 : decode cX2_search 86 = .ok (.goto (-54), 3) := by decide +kernel
theorem dX2_search_89 : decode cX2_search 89 = .ok (.iinc 4 1, 3) := by decide +kernel
theorem dX2_search_92 : decode cX2_search 92 = .ok (.goto (-72), 3) := by decide +kernel
theorem dX2_search_95 : decode cX2_search 95 = .ok (.aload_n 0, 1) := by decide +kernel
theorem dX2_search_96 : decode cX2_search 96 = .ok (.invokevirtual 46, 3) := by decide +kernel
theorem dX2_search_99 : decode cX2_search 99 = .ok (.return_, 1) := by decide +kernel
theorem dX2_offerSecondPairs_0 : decode cX2_offerSecondPairs 0 = .ok (.iconst 0, 1) := by decide +kernel
theorem dX2_offerSecondPairs_1 : decode cX2_offerSecondPairs 1 = .ok (.istore_n 3, 1) := by decide +kernel
theorem dX2_offerSecondPairs_2 : decode cX2_offerSecondPairs 2 = .ok (.iload_n 3, 1) := by decide +kernel
theorem dX2_offerSecondPairs_3 : decode cX2_offerSecondPairs 3 = .ok (.aload_n 0, 1) := by decide +kernel
theorem dX2_offerSecondPairs_4 : decode cX2_offerSecondPairs 4 = .ok (.getfield 25, 3) := by decide +kernel
theorem dX2_offerSecondPairs_7 : decode cX2_offerSecondPairs 7 = .ok (.if_icmp .ge 67, 3) := by decide +kernel
theorem dX2_offerSecondPairs_10 : decode cX2_offerSecondPairs 10 = .ok (.iload_n 3, 1) := by decide +kernel
theorem dX2_offerSecondPairs_11 : decode cX2_offerSecondPairs 11 = .ok (.iload_n 1, 1) := by decide +kernel
theorem dX2_offerSecondPairs_12 : decode cX2_offerSecondPairs 12 = .ok (.if_icmp .eq 56, 3) := by decide +kernel
theorem dX2_offerSecondPairs_15 : decode cX2_offerSecondPairs 15 = .ok (.iload_n 3, 1) := by decide +kernel
theorem dX2_offerSecondPairs_16 : decode cX2_offerSecondPairs 16 = .ok (.iload_n 2, 1) := by decide +kernel
theorem dX2_offerSecondPairs_17 : decode cX2_offerSecondPairs 17 = .ok (.if_icmp .ne 6, 3) := by decide +kernel
theorem dX2_offerSecondPairs_20 : decode cX2_offerSecondPairs 20 = .ok (.goto 48, 3) := by decide +kernel
theorem dX2_offerSecondPairs_23 : decode cX2_offerSecondPairs 23 = .ok (.iconst 0, 1) := by decide +kernel
theorem dX2_offerSecondPairs_24 : decode cX2_offerSecondPairs 24 = .ok (.istore 4, 2) := by decide +kernel
theorem dX2_offerSecondPairs_26 : decode cX2_offerSecondPairs 26 = .ok (.iload 4, 2) := by decide +kernel
theorem dX2_offerSecondPairs_28 : decode cX2_offerSecondPairs 28 = .ok (.aload_n 0, 1) := by decide +kernel
theorem dX2_offerSecondPairs_29 : decode cX2_offerSecondPairs 29 = .ok (.getfield 25, 3) := by decide +kernel
theorem dX2_offerSecondPairs_32 : decode cX2_offerSecondPairs 32 = .ok (.if_icmp .ge 36, 3) := by decide +kernel
theorem dX2_offerSecondPairs_35 : decode cX2_offerSecondPairs 35 = .ok (.iload 4, 2) := by decide +kernel
theorem dX2_offerSecondPairs_37 : decode cX2_offerSecondPairs 37 = .ok (.iload_n 1, 1) := by decide +kernel
theorem dX2_offerSecondPairs_38 : decode cX2_offerSecondPairs 38 = .ok (.if_icmp .eq 24, 3) := by decide +kernel
theorem dX2_offerSecondPairs_41 : decode cX2_offerSecondPairs 41 = .ok (.iload 4, 2) := by decide +kernel
theorem dX2_offerSecondPairs_43 : decode cX2_offerSecondPairs 43 = .ok (.iload_n 2, 1) := by decide +kernel
theorem dX2_offerSecondPairs_44 : decode cX2_offerSecondPairs 44 = .ok (.if_icmp .eq 18, 3) := by decide +kernel
theorem dX2_offerSecondPairs_47 : decode cX2_offerSecondPairs 47 = .ok (.iload 4, 2) := by decide +kernel
theorem dX2_offerSecondPairs_49 : decode cX2_offerSecondPairs 49 = .ok (.iload_n 3, 1) := by decide +kernel
theorem dX2_offerSecondPairs_50 : decode cX2_offerSecondPairs 50 = .ok (.if_icmp .eq 12, 3) := by decide +kernel
theorem dX2_offerSecondPairs_53 : decode cX2_offerSecondPairs 53 = .ok (.aload_n 0, 1) := by decide +kernel
theorem dX2_offerSecondPairs_54 : decode cX2_offerSecondPairs 54 = .ok (.iload_n 1, 1) := by decide +kernel
theorem dX2_offerSecondPairs_55 : decode cX2_offerSecondPairs 55 = .ok (.iload_n 2, 1) := by decide +kernel
theorem dX2_offerSecondPairs_56 : decode cX2_offerSecondPairs 56 = .ok (.iload_n 3, 1) := by decide +kernel
theorem dX2_offerSecondPairs_57 : decode cX2_offerSecondPairs 57 = .ok (.iload 4, 2) := by decide +kernel
theorem dX2_offerSecondPairs_59 : decode cX2_offerSecondPairs 59 = .ok (.invokevirtual 38, 3) := by decide +kernel
theorem dX2_offerSecondPairs_62 : decode cX2_offerSecondPairs 62 = .ok (.iinc 4 1, 3) := by decide +kernel
theorem dX2_offerSecondPairs_65 : decode cX2_offerSecondPairs 65 = .ok (.goto (-39), 3) := by decide +kernel
theorem dX2_offerSecondPairs_68 : decode cX2_offerSecondPairs 68 = .ok (.iinc 3 1, 3) := by decide +kernel
theorem dX2_offerSecondPairs_71 : decode cX2_offerSecondPairs 71 = .ok (.goto (-69), 3) := by decide +kernel
theorem dX2_offerSecondPairs_74 : decode cX2_offerSecondPairs 74 = .ok (.return_, 1) := by decide +kernel
theorem dX2_offer_0 : decode cX2_offer 0 = .ok (.aload_n 0, 1) := by decide +kernel
theorem dX2_offer_1 : decode cX2_offer 1 = .ok (.iload_n 1, 1) := by decide +kernel
theorem dX2_offer_2 : decode cX2_offer 2 = .ok (.invokevirtual 49, 3) := by decide +kernel
theorem dX2_offer_5 : decode cX2_offer 5 = .ok (.i2l, 1) := by decide +kernel
theorem dX2_offer_6 : decode cX2_offer 6 = .ok (.aload_n 0, 1) := by decide +kernel
theorem dX2_offer_7 : decode cX2_offer 7 = .ok (.iload_n 3, 1) := by decide +kernel
theorem dX2_offer_8 : decode cX2_offer 8 = .ok (.invokevirtual 49, 3) := by decide +kernel
theorem dX2_offer_11 : decode cX2_offer 11 = .ok (.i2l, 1) := by decide +kernel
theorem dX2_offer_12 : decode cX2_offer 12 = .ok (.lmul, 1) := by decide +kernel
theorem dX2_offer_13 : decode cX2_offer 13 = .ok (.lstore 5, 2) := by decide +kernel
theorem dX2_offer_15 : decode cX2_offer 15 = .ok (.aload_n 0, 1) := by decide +kernel
theorem dX2_offer_16 : decode cX2_offer 16 = .ok (.iload_n 2, 1) := by decide +kernel
theorem dX2_offer_17 : decode cX2_offer 17 = .ok (.invokevirtual 49, 3) := by decide +kernel
theorem dX2_offer_20 : decode cX2_offer 20 = .ok (.i2l, 1) := by decide +kernel
theorem dX2_offer_21 : decode cX2_offer 21 = .ok (.aload_n 0, 1) := by decide +kernel
theorem dX2_offer_22 : decode cX2_offer 22 = .ok (.iload 4, 2) := by decide +kernel
theorem dX2_offer_24 : decode cX2_offer 24 = .ok (.invokevirtual 49, 3) := by decide +kernel
theorem dX2_offer_27 : decode cX2_offer 27 = .ok (.i2l, 1) := by decide +kernel
theorem dX2_offer_28 : decode cX2_offer 28 = .ok (.lmul, 1) := by decide +kernel
theorem dX2_offer_29 : decode cX2_offer 29 = .ok (.lstore 7, 2) := by decide +kernel
theorem dX2_offer_31 : decode cX2_offer 31 = .ok (.lload 5, 2) := by decide +kernel
theorem dX2_offer_33 : decode cX2_offer 33 = .ok (.aload_n 0, 1) := by decide +kernel
theorem dX2_offer_34 : decode cX2_offer 34 = .ok (.getfield 35, 3) := by decide +kernel
theorem dX2_offer_37 : decode cX2_offer 37 = .ok (.lmul, 1) := by decide +kernel
theorem dX2_offer_38 : decode cX2_offer 38 = .ok (.aload_n 0, 1) := by decide +kernel
theorem dX2_offer_39 : decode cX2_offer 39 = .ok (.getfield 32, 3) := by decide +kernel
theorem dX2_offer_42 : decode cX2_offer 42 = .ok (.lload 7, 2) := by decide +kernel
theorem dX2_offer_44 : decode cX2_offer 44 = .ok (.lmul, 1) := by decide +kernel
theorem dX2_offer_45 : decode cX2_offer 45 = .ok (.lsub, 1) := by decide +kernel
theorem dX2_offer_46 : decode cX2_offer 46 = .ok (.invokestatic 53, 3) := by decide +kernel
theorem dX2_offer_49 : decode cX2_offer 49 = .ok (.lstore 9, 2) := by decide +kernel
theorem dX2_offer_51 : decode cX2_offer 51 = .ok (.aload_n 0, 1) := by decide +kernel
theorem dX2_offer_52 : decode cX2_offer 52 = .ok (.getfield 29, 3) := by decide +kernel
theorem dX2_offer_55 : decode cX2_offer 55 = .ok (.ifCond .le 22, 3) := by decide +kernel
theorem dX2_offer_58 : decode cX2_offer 58 = .ok (.lload 9, 2) := by decide +kernel
theorem dX2_offer_60 : decode cX2_offer 60 = .ok (.aload_n 0, 1) := by decide +kernel
theorem dX2_offer_61 : decode cX2_offer 61 = .ok (.getfield 22, 3) := by decide +kernel
theorem dX2_offer_64 : decode cX2_offer 64 = .ok (.lmul, 1) := by decide +kernel
theorem dX2_offer_65 : decode cX2_offer 65 = .ok (.aload_n 0, 1) := by decide +kernel
theorem dX2_offer_66 : decode cX2_offer 66 = .ok (.getfield 59, 3) := by decide +kernel
theorem dX2_offer_69 : decode cX2_offer 69 = .ok (.lload 7, 2) := by decide +kernel
theorem dX2_offer_71 : decode cX2_offer 71 = .ok (.lmul, 1) := by decide +kernel
theorem dX2_offer_72 : decode cX2_offer 72 = .ok (.lcmp, 1) := by decide +kernel
theorem dX2_offer_73 : decode cX2_offer 73 = .ok (.ifCond .lt 4, 3) := by decide +kernel
theorem dX2_offer_76 : decode cX2_offer 76 = .ok (.return_, 1) := by decide +kernel
theorem dX2_offer_77 : decode cX2_offer 77 = .ok (.aload_n 0, 1) := by decide +kernel
theorem dX2_offer_78 : decode cX2_offer 78 = .ok (.lload 9, 2) := by decide +kernel
theorem dX2_offer_80 : decode cX2_offer 80 = .ok (.putfield 59, 3) := by decide +kernel
theorem dX2_offer_83 : decode cX2_offer 83 = .ok (.aload_n 0, 1) := by decide +kernel
theorem dX2_offer_84 : decode cX2_offer 84 = .ok (.lload 5, 2) := by decide +kernel
theorem dX2_offer_86 : decode cX2_offer 86 = .ok (.putfield 18, 3) := by decide +kernel
theorem dX2_offer_89 : decode cX2_offer 89 = .ok (.aload_n 0, 1) := by decide +kernel
theorem dX2_offer_90 : decode cX2_offer 90 = .ok (.lload 7, 2) := by decide +kernel
theorem dX2_offer_92 : decode cX2_offer 92 = .ok (.putfield 22, 3) := by decide +kernel
theorem dX2_offer_95 : decode cX2_offer 95 = .ok (.aload_n 0, 1) := by decide +kernel
theorem dX2_offer_96 : decode cX2_offer 96 = .ok (.getfield 15, 3) := by decide +kernel
theorem dX2_offer_99 : decode cX2_offer 99 = .ok (.iconst 0, 1) := by decide +kernel
theorem dX2_offer_100 : decode cX2_offer 100 = .ok (.iload_n 1, 1) := by decide +kernel
theorem dX2_offer_101 : decode cX2_offer 101 = .ok (.iastore, 1) := by decide +kernel
theorem dX2_offer_102 : decode cX2_offer 102 = .ok (.aload_n 0, 1) := by decide +kernel
theorem dX2_offer_103 : decode cX2_offer 103 = .ok (.getfield 15, 3) := by decide +kernel
theorem dX2_offer_106 : decode cX2_offer 106 = .ok (.iconst 1, 1) := by decide +kernel
theorem dX2_offer_107 : decode cX2_offer 107 = .ok (.iload_n 2, 1) := by decide +kernel
theorem dX2_offer_108 : decode cX2_offer 108 = .ok (.iastore, 1) := by decide +kernel
theorem dX2_offer_109 : decode cX2_offer 109 = .ok (.aload_n 0, 1) := by decide +kernel
theorem dX2_offer_110 : decode cX2_offer 110 = .ok (.getfield 15, 3) := by decide +kernel
theorem dX2_offer_113 : decode cX2_offer 113 = .ok (.iconst 2, 1) := by decide +kernel
theorem dX2_offer_114 : decode cX2_offer 114 = .ok (.iload_n 3, 1) := by decide +kernel
theorem dX2_offer_115 : decode cX2_offer 115 = .ok (.iastore, 1) := by decide +kernel
theorem dX2_offer_116 : decode cX2_offer 116 = .ok (.aload_n 0, 1) := by decide +kernel
theorem dX2_offer_117 : decode cX2_offer 117 = .ok (.getfield 15, 3) := by decide +kernel
theorem dX2_offer_120 : decode cX2_offer 120 = .ok (.iconst 3, 1) := by decide +kernel
theorem dX2_offer_121 : decode cX2_offer 121 = .ok (.iload 4, 2) := by decide +kernel
theorem dX2_offer_123 : decode cX2_offer 123 = .ok (.iastore, 1) := by decide +kernel
theorem dX2_offer_124 : decode cX2_offer 124 = .ok (.aload_n 0, 1) := by decide +kernel
theorem dX2_offer_125 : decode cX2_offer 125 = .ok (.iload_n 3, 1) := by decide +kernel
theorem dX2_offer_126 : decode cX2_offer 126 = .ok (.bipush (-9), 2) := by decide +kernel
theorem dX2_offer_128 : decode cX2_offer 128 = .ok (.if_icmp .ne 7, 3) := by decide +kernel
theorem dX2_offer_131 : decode cX2_offer 131 = .ok (.iconst 2, 1) := by decide +kernel
theorem dX2_offer_132 : decode cX2_offer 132 = .ok (.goto 4, 3) := by decide +kernel
theorem dX2_offer_135 : decode cX2_offer 135 = .ok (.iconst 4, 1) := by decide +kernel
theorem dX2_offer_136 : decode cX2_offer 136 = .ok (.putfield 29, 3) := by decide +kernel
theorem dX2_offer_139 : decode cX2_offer 139 = .ok (.return_, 1) := by decide +kernel
theorem dX2_teethOr1_0 : decode cX2_teethOr1 0 = .ok (.iload_n 1, 1) := by decide +kernel
theorem dX2_teethOr1_1 : decode cX2_teethOr1 1 = .ok (.ifCond .lt 21, 3) := by decide +kernel
theorem dX2_teethOr1_4 : decode cX2_teethOr1 4 = .ok (.iload_n 1, 1) := by decide +kernel
theorem dX2_teethOr1_5 : decode cX2_teethOr1 5 = .ok (.aload_n 0, 1) := by decide +kernel
theorem dX2_teethOr1_6 : decode cX2_teethOr1 6 = .ok (.getfield 9, 3) := by decide +kernel
theorem dX2_teethOr1_9 : decode cX2_teethOr1 9 = .ok (.arraylength, 1) := by decide +kernel
theorem dX2_teethOr1_10 : decode cX2_teethOr1 10 = .ok (.if_icmp .ge 12, 3) := by decide +kernel
theorem dX2_teethOr1_13 : decode cX2_teethOr1 13 = .ok (.aload_n 0, 1) := by decide +kernel
theorem dX2_teethOr1_14 : decode cX2_teethOr1 14 = .ok (.getfield 9, 3) := by decide +kernel
theorem dX2_teethOr1_17 : decode cX2_teethOr1 17 = .ok (.iload_n 1, 1) := by decide +kernel
theorem dX2_teethOr1_18 : decode cX2_teethOr1 18 = .ok (.iaload, 1) := by decide +kernel
theorem dX2_teethOr1_19 : decode cX2_teethOr1 19 = .ok (.goto 4, 3) := by decide +kernel
theorem dX2_teethOr1_22 : decode cX2_teethOr1 22 = .ok (.iconst 1, 1) := by decide +kernel
theorem dX2_teethOr1_23 : decode cX2_teethOr1 23 = .ok (.ireturn, 1) := by decide +kernel
theorem dX2_reduce_0 : decode cX2_reduce 0 = .ok (.aload_n 0, 1) := by decide +kernel
theorem dX2_reduce_1 : decode cX2_reduce 1 = .ok (.getfield 18, 3) := by decide +kernel
theorem dX2_reduce_4 : decode cX2_reduce 4 = .ok (.lstore_n 1, 1) := by decide +kernel
theorem dX2_reduce_5 : decode cX2_reduce 5 = .ok (.aload_n 0, 1) := by decide +kernel
theorem dX2_reduce_6 : decode cX2_reduce 6 = .ok (.getfield 22, 3) := by decide +kernel
theorem dX2_reduce_9 : decode cX2_reduce 9 = .ok (.lstore_n 3, 1) := by decide +kernel
theorem dX2_reduce_10 : decode cX2_reduce 10 = .ok (.iconst 0, 1) := by decide +kernel
theorem dX2_reduce_11 : decode cX2_reduce 11 = .ok (.istore 5, 2) := by decide +kernel
theorem dX2_reduce_13 : decode cX2_reduce 13 = .ok (.iload 5, 2) := by decide +kernel
theorem dX2_reduce_15 : decode cX2_reduce 15 = .ok (.bipush 100, 2) := by decide +kernel
theorem dX2_reduce_17 : decode cX2_reduce 17 = .ok (.if_icmp .ge 25, 3) := by decide +kernel
theorem dX2_reduce_20 : decode cX2_reduce 20 = .ok (.lload_n 3, 1) := by decide +kernel
theorem dX2_reduce_21 : decode cX2_reduce 21 = .ok (.lconst 0, 1) := by decide +kernel
theorem dX2_reduce_22 : decode cX2_reduce 22 = .ok (.lcmp, 1) := by decide +kernel
theorem dX2_reduce_23 : decode cX2_reduce 23 = .ok (.ifCond .le 19, 3) := by decide +kernel
theorem dX2_reduce_26 : decode cX2_reduce 26 = .ok (.lload_n 1, 1) := by decide +kernel
theorem dX2_reduce_27 : decode cX2_reduce 27 = .ok (.lload_n 3, 1) := by decide +kernel
theorem dX2_reduce_28 : decode cX2_reduce 28 = .ok (.lrem, 1) := by decide +kernel
theorem dX2_reduce_29 : decode cX2_reduce 29 = .ok (.lstore 6, 2) := by decide +kernel
theorem dX2_reduce_31 : decode cX2_reduce 31 = .ok (.lload_n 3, 1) := by decide +kernel
theorem dX2_reduce_32 : decode cX2_reduce 32 = .ok (.lstore_n 1, 1) := by decide +kernel
theorem dX2_reduce_33 : decode cX2_reduce 33 = .ok (.lload 6, 2) := by decide +kernel
theorem dX2_reduce_35 : decode cX2_reduce 35 = .ok (.lstore_n 3, 1) := by decide +kernel
theorem dX2_reduce_36 : decode cX2_reduce 36 = .ok (.iinc 5 1, 3) := by decide +kernel
theorem dX2_reduce_39 : decode cX2_reduce 39 = .ok (.goto (-26), 3) := by decide +kernel
theorem dX2_reduce_42 : decode cX2_reduce 42 = .ok (.lload_n 1, 1) := by decide +kernel
theorem dX2_reduce_43 : decode cX2_reduce 43 = .ok (.lconst 0, 1) := by decide +kernel
theorem dX2_reduce_44 : decode cX2_reduce 44 = .ok (.lcmp, 1) := by decide +kernel
theorem dX2_reduce_45 : decode cX2_reduce 45 = .ok (.ifCond .le 23, 3) := by decide +kernel
theorem dX2_reduce_48 : decode cX2_reduce 48 = .ok (.aload_n 0, 1) := by decide +kernel
theorem dX2_reduce_49 : decode cX2_reduce 49 = .ok (.aload_n 0, 1) := by decide +kernel
theorem dX2_reduce_50 : decode cX2_reduce 50 = .ok (.getfield 18, 3) := by decide +kernel
theorem dX2_reduce_53 : decode cX2_reduce 53 = .ok (.lload_n 1, 1) := by decide +kernel
theorem dX2_reduce_54 : decode cX2_reduce 54 = .ok (.ldiv, 1) := by decide +kernel
theorem dX2_reduce_55 : decode cX2_reduce 55 = .ok (.putfield 18, 3) := by decide +kernel
theorem dX2_reduce_58 : decode cX2_reduce 58 = .ok (.aload_n 0, 1) := by decide +kernel
theorem dX2_reduce_59 : decode cX2_reduce 59 = .ok (.aload_n 0, 1) := by decide +kernel
theorem dX2_reduce_60 : decode cX2_reduce 60 = .ok (.getfield 22, 3) := by decide +kernel
theorem dX2_reduce_63 : decode cX2_reduce 63 = .ok (.lload_n 1, 1) := by decide +kernel
theorem dX2_reduce_64 : decode cX2_reduce 64 = .ok (.ldiv, 1) := by decide +kernel
theorem dX2_reduce_65 : decode cX2_reduce 65 = .ok (.putfield 22, 3) := by decide +kernel
theorem dX2_reduce_68 : decode cX2_reduce 68 = .ok (.return_, 1) := by decide +kernel
theorem dX3_init_0 : decode cX3_init 0 = .ok (.aload_n 0, 1) := by decide +kernel
theorem dX3_init_1 : decode cX3_init 1 = .ok (.invokespecial 3, 3) := by decide +kernel
theorem dX3_init_4 : decode cX3_init 4 = .ok (.aload_n 0, 1) := by decide +kernel
theorem dX3_init_5 : decode cX3_init 5 = .ok (.bipush 60, 2) := by decide +kernel
theorem dX3_init_7 : decode cX3_init 7 = .ok (.newarray .int, 2) := by decide +kernel
theorem dX3_init_9 : decode cX3_init 9 = .ok (.putfield 9, 3) := by decide +kernel
theorem dX3_init_12 : decode cX3_init 12 = .ok (.aload_n 0, 1) := by decide +kernel
theorem dX3_init_13 : decode cX3_init 13 = .ok (.bipush 60, 2) := by decide +kernel
theorem dX3_init_15 : decode cX3_init 15 = .ok (.newarray .int, 2) := by decide +kernel
theorem dX3_init_17 : decode cX3_init 17 = .ok (.putfield 15, 3) := by decide +kernel
theorem dX3_init_20 : decode cX3_init 20 = .ok (.aload_n 0, 1) := by decide +kernel
theorem dX3_init_21 : decode cX3_init 21 = .ok (.bipush 60, 2) := by decide +kernel
theorem dX3_init_23 : decode cX3_init 23 = .ok (.newarray .int, 2) := by decide +kernel
theorem dX3_init_25 : decode cX3_init 25 = .ok (.putfield 18, 3) := by decide +kernel
theorem dX3_init_28 : decode cX3_init 28 = .ok (.aload_n 0, 1) := by decide +kernel
theorem dX3_init_29 : decode cX3_init 29 = .ok (.bipush 60, 2) := by decide +kernel
theorem dX3_init_31 : decode cX3_init 31 = .ok (.newarray .int, 2) := by decide +kernel
theorem dX3_init_33 : decode cX3_init 33 = .ok (.putfield 21, 3) := by decide +kernel
theorem dX3_init_36 : decode cX3_init 36 = .ok (.return_, 1) := by decide +kernel
theorem dX3_clear_0 : decode cX3_clear 0 = .ok (.aload_n 0, 1) := by decide +kernel
theorem dX3_clear_1 : decode cX3_clear 1 = .ok (.iconst 0, 1) := by decide +kernel
theorem dX3_clear_2 : decode cX3_clear 2 = .ok (.putfield 24, 3) := by decide +kernel
theorem dX3_clear_5 : decode cX3_clear 5 = .ok (.aload_n 0, 1) := by decide +kernel
theorem dX3_clear_6 : decode cX3_clear 6 = .ok (.iconst 0, 1) := by decide +kernel
theorem dX3_clear_7 : decode cX3_clear 7 = .ok (.putfield 28, 3) := by decide +kernel
theorem dX3_clear_10 : decode cX3_clear 10 = .ok (.return_, 1) := by decide +kernel
theorem dX3_add_0 : decode cX3_add 0 = .ok (.aload_n 0, 1) := by decide +kernel
theorem dX3_add_1 : decode cX3_add 1 = .ok (.getfield 24, 3) := by decide +kernel
theorem dX3_add_4 : decode cX3_add 4 = .ok (.ifCond .lt 12, 3) := by decide +kernel
theorem dX3_add_7 : decode cX3_add 7 = .ok (.aload_n 0, 1) := by decide +kernel
theorem dX3_add_8 : decode cX3_add 8 = .ok (.getfield 24, 3) := by decide +kernel
theorem dX3_add_11 : decode cX3_add 11 = .ok (.bipush 60, 2) := by decide +kernel
theorem dX3_add_13 : decode cX3_add 13 = .ok (.if_icmp .lt 4, 3) := by decide +kernel
theorem dX3_add_16 : decode cX3_add 16 = .ok (.return_, 1) := by decide +kernel
theorem dX3_add_17 : decode cX3_add 17 = .ok (.aload_n 0, 1) := by decide +kernel
theorem dX3_add_18 : decode cX3_add 18 = .ok (.getfield 9, 3) := by decide +kernel
theorem dX3_add_21 : decode cX3_add 21 = .ok (.aload_n 0, 1) := by decide +kernel
theorem dX3_add_22 : decode cX3_add 22 = .ok (.getfield 24, 3) := by decide +kernel
theorem dX3_add_25 : decode cX3_add 25 = .ok (.iload_n 1, 1) := by decide +kernel
theorem dX3_add_26 : decode cX3_add 26 = .ok (.iastore, 1) := by decide +kernel
theorem dX3_add_27 : decode cX3_add 27 = .ok (.aload_n 0, 1) := by decide +kernel
theorem dX3_add_28 : decode cX3_add 28 = .ok (.getfield 15, 3) := by decide +kernel
theorem dX3_add_31 : decode cX3_add 31 = .ok (.aload_n 0, 1) := by decide +kernel
theorem dX3_add_32 : decode cX3_add 32 = .ok (.getfield 24, 3) := by decide +kernel
theorem dX3_add_35 : decode cX3_add 35 = .ok (.aload_n 2, 1) := by decide +kernel
theorem dX3_add_36 : decode cX3_add 36 = .ok (.getfield 31, 3) := by decide +kernel
theorem dX3_add_39 : decode cX3_add 39 = .ok (.iastore, 1) := by decide +kernel
theorem dX3_add_40 : decode cX3_add 40 = .ok (.aload_n 0, 1) := by decide +kernel
theorem dX3_add_41 : decode cX3_add 41 = .ok (.getfield 18, 3) := by decide +kernel
theorem dX3_add_44 : decode cX3_add 44 = .ok (.aload_n 0, 1) := by decide +kernel
theorem dX3_add_45 : decode cX3_add 45 = .ok (.getfield 24, 3) := by decide +kernel
theorem dX3_add_48 : decode cX3_add 48 = .ok (.aload_n 2, 1) := by decide +kernel
theorem dX3_add_49 : decode cX3_add 49 = .ok (.getfield 36, 3) := by decide +kernel
theorem dX3_add_52 : decode cX3_add 52 = .ok (.iastore, 1) := by decide +kernel
theorem dX3_add_53 : decode cX3_add 53 = .ok (.aload_n 0, 1) := by decide +kernel
theorem dX3_add_54 : decode cX3_add 54 = .ok (.getfield 21, 3) := by decide +kernel
theorem dX3_add_57 : decode cX3_add 57 = .ok (.aload_n 0, 1) := by decide +kernel
theorem dX3_add_58 : decode cX3_add 58 = .ok (.getfield 24, 3) := by decide +kernel
theorem dX3_add_61 : decode cX3_add 61 = .ok (.aload_n 2, 1) := by decide +kernel
theorem dX3_add_62 : decode cX3_add 62 = .ok (.getfield 39, 3) := by decide +kernel
theorem dX3_add_65 : decode cX3_add 65 = .ok (.iastore, 1) := by decide +kernel
theorem dX3_add_66 : decode cX3_add 66 = .ok (.aload_n 0, 1) := by decide +kernel
theorem dX3_add_67 : decode cX3_add 67 = .ok (.aload_n 0, 1) := by decide +kernel
theorem dX3_add_68 : decode cX3_add 68 = .ok (.getfield 24, 3) := by decide +kernel
theorem dX3_add_71 : decode cX3_add 71 = .ok (.iconst 1, 1) := by decide +kernel
theorem dX3_add_72 : decode cX3_add 72 = .ok (.iadd, 1) := by decide +kernel
theorem dX3_add_73 : decode cX3_add 73 = .ok (.bipush 60, 2) := by decide +kernel
theorem dX3_add_75 : decode cX3_add 75 = .ok (.if_icmp .ge 12, 3) := by decide +kernel
theorem dX3_add_78 : decode cX3_add 78 = .ok (.aload_n 0, 1) := by decide +kernel
theorem dX3_add_79 : decode cX3_add 79 = .ok (.getfield 24, 3) := by decide +kernel
theorem dX3_add_82 : decode cX3_add 82 = .ok (.iconst 1, 1) := by decide +kernel
theorem dX3_add_83 : decode cX3_add 83 = .ok (.iadd, 1) := by decide +kernel
theorem dX3_add_84 : decode cX3_add 84 = .ok (.goto 4, 3) := by decide +kernel
theorem dX3_add_87 : decode cX3_add 87 = .ok (.iconst 0, 1) := by decide +kernel
theorem dX3_add_88 : decode cX3_add 88 = .ok (.putfield 24, 3) := by decide +kernel
theorem dX3_add_91 : decode cX3_add 91 = .ok (.aload_n 0, 1) := by decide +kernel
theorem dX3_add_92 : decode cX3_add 92 = .ok (.aload_n 0, 1) := by decide +kernel
theorem dX3_add_93 : decode cX3_add 93 = .ok (.getfield 28, 3) := by decide +kernel
theorem dX3_add_96 : decode cX3_add 96 = .ok (.iconst 1, 1) := by decide +kernel
theorem dX3_add_97 : decode cX3_add 97 = .ok (.iadd, 1) := by decide +kernel
theorem dX3_add_98 : decode cX3_add 98 = .ok (.bipush 60, 2) := by decide +kernel
theorem dX3_add_100 : decode cX3_add 100 = .ok (.invokestatic 42, 3) := by decide +kernel
theorem dX3_add_103 : decode cX3_add 103 = .ok (.putfield 28, 3) := by decide +kernel
theorem dX3_add_106 : decode cX3_add 106 = .ok (.return_, 1) := by decide +kernel
theorem dX3_entry_0 : decode cX3_entry 0 = .ok (.iload_n 1, 1) := by decide +kernel
theorem dX3_entry_1 : decode cX3_entry 1 = .ok (.ifCond .lt 20, 3) := by decide +kernel
theorem dX3_entry_4 : decode cX3_entry 4 = .ok (.iload_n 1, 1) := by decide +kernel
theorem dX3_entry_5 : decode cX3_entry 5 = .ok (.aload_n 0, 1) := by decide +kernel
theorem dX3_entry_6 : decode cX3_entry 6 = .ok (.getfield 28, 3) := by decide +kernel
theorem dX3_entry_9 : decode cX3_entry 9 = .ok (.if_icmp .ge 12, 3) := by decide +kernel
theorem dX3_entry_12 : decode cX3_entry 12 = .ok (.aload_n 0, 1) := by decide +kernel
theorem dX3_entry_13 : decode cX3_entry 13 = .ok (.getfield 28, 3) := by decide +kernel
theorem dX3_entry_16 : decode cX3_entry 16 = .ok (.bipush 60, 2) := by decide +kernel
theorem dX3_entry_18 : decode cX3_entry 18 = .ok (.if_icmp .le 6, 3) := by decide +kernel
theorem dX3_entry_21 : decode cX3_entry 21 = .ok (.bipush (-9), 2) := by decide +kernel
theorem dX3_entry_23 : decode cX3_entry 23 = .ok (.ireturn, 1) := by decide +kernel
theorem dX3_entry_24 : decode cX3_entry 24 = .ok (.aload_n 0, 1) := by decide +kernel
theorem dX3_entry_25 : decode cX3_entry 25 = .ok (.getfield 24, 3) := by decide +kernel
theorem dX3_entry_28 : decode cX3_entry 28 = .ok (.iconst 1, 1) := by decide +kernel
theorem dX3_entry_29 : decode cX3_entry 29 = .ok (.isub, 1) := by decide +kernel
theorem dX3_entry_30 : decode cX3_entry 30 = .ok (.iload_n 1, 1) := by decide +kernel
theorem dX3_entry_31 : decode cX3_entry 31 = .ok (.isub, 1) := by decide +kernel
theorem dX3_entry_32 : decode cX3_entry 32 = .ok (.bipush 60, 2) := by decide +kernel
theorem dX3_entry_34 : decode cX3_entry 34 = .ok (.invokestatic 48, 3) := by decide +kernel
theorem dX3_entry_37 : decode cX3_entry 37 = .ok (.istore_n 3, 1) := by decide +kernel
theorem dX3_entry_38 : decode cX3_entry 38 = .ok (.iload_n 2, 1) := by decide +kernel
theorem dX3_entry_39 : decode cX3_entry 39 = .ok (.tableswitch 46 0 2 #[25, 32, 39], 25) := by decide +kernel
theorem dX3_entry_64 : decode cX3_entry 64 = .ok (.aload_n 0, 1) := by decide +kernel
theorem dX3_entry_65 : decode cX3_entry 65 = .ok (.getfield 9, 3) := by decide +kernel
theorem dX3_entry_68 : decode cX3_entry 68 = .ok (.iload_n 3, 1) := by decide +kernel
theorem dX3_entry_69 : decode cX3_entry 69 = .ok (.iaload, 1) := by decide +kernel
theorem dX3_entry_70 : decode cX3_entry 70 = .ok (.ireturn, 1) := by decide +kernel
theorem dX3_entry_71 : decode cX3_entry 71 = .ok (.aload_n 0, 1) := by decide +kernel
theorem dX3_entry_72 : decode cX3_entry 72 = .ok (.getfield 15, 3) := by decide +kernel
theorem dX3_entry_75 : decode cX3_entry 75 = .ok (.iload_n 3, 1) := by decide +kernel
theorem dX3_entry_76 : decode cX3_entry 76 = .ok (.iaload, 1) := by decide +kernel
theorem dX3_entry_77 : decode cX3_entry 77 = .ok (.ireturn, 1) := by decide +kernel
theorem dX3_entry_78 : decode cX3_entry 78 = .ok (.aload_n 0, 1) := by decide +kernel
theorem dX3_entry_79 : decode cX3_entry 79 = .ok (.getfield 18, 3) := by decide +kernel
theorem dX3_entry_82 : decode cX3_entry 82 = .ok (.iload_n 3, 1) := by decide +kernel
theorem dX3_entry_83 : decode cX3_entry 83 = .ok (.iaload, 1) := by decide +kernel
theorem dX3_entry_84 : decode cX3_entry 84 = .ok (.ireturn, 1) := by decide +kernel
theorem dX3_entry_85 : decode cX3_entry 85 = .ok (.aload_n 0, 1) := by decide +kernel
theorem dX3_entry_86 : decode cX3_entry 86 = .ok (.getfield 21, 3) := by decide +kernel
theorem dX3_entry_89 : decode cX3_entry 89 = .ok (.iload_n 3, 1) := by decide +kernel
theorem dX3_entry_90 : decode cX3_entry 90 = .ok (.iaload, 1) := by decide +kernel
theorem dX3_entry_91 : decode cX3_entry 91 = .ok (.ireturn, 1) := by decide +kernel
theorem dX3_strokesBetween_0 : decode cX3_strokesBetween 0 = .ok (.iconst 0, 1) := by decide +kernel
theorem dX3_strokesBetween_1 : decode cX3_strokesBetween 1 = .ok (.istore_n 3, 1) := by decide +kernel
theorem dX3_strokesBetween_2 : decode cX3_strokesBetween 2 = .ok (.iconst 0, 1) := by decide +kernel
theorem dX3_strokesBetween_3 : decode cX3_strokesBetween 3 = .ok (.istore 4, 2) := by decide +kernel
theorem dX3_strokesBetween_5 : decode cX3_strokesBetween 5 = .ok (.iload 4, 2) := by decide +kernel
theorem dX3_strokesBetween_7 : decode cX3_strokesBetween 7 = .ok (.aload_n 0, 1) := by decide +kernel
theorem dX3_strokesBetween_8 : decode cX3_strokesBetween 8 = .ok (.getfield 28, 3) := by decide +kernel
theorem dX3_strokesBetween_11 : decode cX3_strokesBetween 11 = .ok (.if_icmp .ge 48, 3) := by decide +kernel
theorem dX3_strokesBetween_14 : decode cX3_strokesBetween 14 = .ok (.iload 4, 2) := by decide +kernel
theorem dX3_strokesBetween_16 : decode cX3_strokesBetween 16 = .ok (.bipush 60, 2) := by decide +kernel
theorem dX3_strokesBetween_18 : decode cX3_strokesBetween 18 = .ok (.if_icmp .ge 41, 3) := by decide +kernel
theorem dX3_strokesBetween_21 : decode cX3_strokesBetween 21 = .ok (.aload_n 0, 1) := by decide +kernel
theorem dX3_strokesBetween_22 : decode cX3_strokesBetween 22 = .ok (.getfield 9, 3) := by decide +kernel
theorem dX3_strokesBetween_25 : decode cX3_strokesBetween 25 = .ok (.iload 4, 2) := by decide +kernel
theorem dX3_strokesBetween_27 : decode cX3_strokesBetween 27 = .ok (.iaload, 1) := by decide +kernel
theorem dX3_strokesBetween_28 : decode cX3_strokesBetween 28 = .ok (.iload_n 1, 1) := by decide +kernel
theorem dX3_strokesBetween_29 : decode cX3_strokesBetween 29 = .ok (.if_icmp .lt 24, 3) := by decide +kernel
theorem dX3_strokesBetween_32 : decode cX3_strokesBetween 32 = .ok (.aload_n 0, 1) := by decide +kernel
theorem dX3_strokesBetween_33 : decode cX3_strokesBetween 33 = .ok (.getfield 9, 3) := by decide +kernel
theorem dX3_strokesBetween_36 : decode cX3_strokesBetween 36 = .ok (.iload 4, 2) := by decide +kernel
theorem dX3_strokesBetween_38 : decode cX3_strokesBetween 38 = .ok (.iaload, 1) := by decide +kernel
theorem dX3_strokesBetween_39 : decode cX3_strokesBetween 39 = .ok (.iload_n 2, 1) := by decide +kernel
theorem dX3_strokesBetween_40 : decode cX3_strokesBetween 40 = .ok (.if_icmp .gt 13, 3) := by decide +kernel
theorem dX3_strokesBetween_43 : decode cX3_strokesBetween 43 = .ok (.iload_n 3, 1) := by decide +kernel
theorem dX3_strokesBetween_44 : decode cX3_strokesBetween 44 = .ok (.aload_n 0, 1) := by decide +kernel
theorem dX3_strokesBetween_45 : decode cX3_strokesBetween 45 = .ok (.getfield 18, 3) := by decide +kernel
theorem dX3_strokesBetween_48 : decode cX3_strokesBetween 48 = .ok (.iload 4, 2) := by decide +kernel
theorem dX3_strokesBetween_50 : decode cX3_strokesBetween 50 = .ok (.iaload, 1) := by decide +kernel
theorem dX3_strokesBetween_51 : decode cX3_strokesBetween 51 = .ok (.iadd, 1) := by decide +kernel
theorem dX3_strokesBetween_52 : decode cX3_strokesBetween 52 = .ok (.istore_n 3, 1) := by decide +kernel
theorem dX3_strokesBetween_53 : decode cX3_strokesBetween 53 = .ok (.iinc 4 1, 3) := by decide +kernel
theorem dX3_strokesBetween_56 : decode cX3_strokesBetween 56 = .ok (.goto (-51), 3) := by decide +kernel
theorem dX3_strokesBetween_59 : decode cX3_strokesBetween 59 = .ok (.iload_n 3, 1) := by decide +kernel
theorem dX3_strokesBetween_60 : decode cX3_strokesBetween 60 = .ok (.ireturn, 1) := by decide +kernel
theorem dX4_init_0 : decode cX4_init 0 = .ok (.aload_n 0, 1) := by decide +kernel
theorem dX4_init_1 : decode cX4_init 1 = .ok (.iload_n 1, 1) := by decide +kernel
theorem dX4_init_2 : decode cX4_init 2 = .ok (.iload_n 2, 1) := by decide +kernel
theorem dX4_init_3 : decode cX4_init 3 = .ok (.aload_n 3, 1) := by decide +kernel
theorem dX4_init_4 : decode cX4_init 4 = .ok (.invokespecial 1, 3) := by decide +kernel
theorem dX4_init_7 : decode cX4_init 7 = .ok (.return_, 1) := by decide +kernel
theorem dX4_stand_0 : decode cX4_stand 0 = .ok (.aload_n 0, 1) := by decide +kernel
theorem dX4_stand_1 : decode cX4_stand 1 = .ok (.getfield 7, 3) := by decide +kernel
theorem dX4_stand_4 : decode cX4_stand 4 = .ok (.ireturn, 1) := by decide +kernel
theorem dX4_letGo_0 : decode cX4_letGo 0 = .ok (.aload_n 0, 1) := by decide +kernel
theorem dX4_letGo_1 : decode cX4_letGo 1 = .ok (.getfield 7, 3) := by decide +kernel
theorem dX4_letGo_4 : decode cX4_letGo 4 = .ok (.iconst 1, 1) := by decide +kernel
theorem dX4_letGo_5 : decode cX4_letGo 5 = .ok (.iadd, 1) := by decide +kernel
theorem dX4_letGo_6 : decode cX4_letGo 6 = .ok (.aload_n 0, 1) := by decide +kernel
theorem dX4_letGo_7 : decode cX4_letGo 7 = .ok (.getfield 13, 3) := by decide +kernel
theorem dX4_letGo_10 : decode cX4_letGo 10 = .ok (.arraylength, 1) := by decide +kernel
theorem dX4_letGo_11 : decode cX4_letGo 11 = .ok (.if_icmp .lt 7, 3) := by decide +kernel
theorem dX4_letGo_14 : decode cX4_letGo 14 = .ok (.iconst 1, 1) := by decide +kernel
theorem dX4_letGo_15 : decode cX4_letGo 15 = .ok (.goto 4, 3) := by decide +kernel
theorem dX4_letGo_18 : decode cX4_letGo 18 = .ok (.iconst 0, 1) := by decide +kernel
theorem dX4_letGo_19 : decode cX4_letGo 19 = .ok (.istore_n 3, 1) := by decide +kernel
theorem dX4_letGo_20 : decode cX4_letGo 20 = .ok (.aload_n 0, 1) := by decide +kernel
theorem dX4_letGo_21 : decode cX4_letGo 21 = .ok (.dup, 1) := by decide +kernel
theorem dX4_letGo_22 : decode cX4_letGo 22 = .ok (.getfield 17, 3) := by decide +kernel
theorem dX4_letGo_25 : decode cX4_letGo 25 = .ok (.aload_n 0, 1) := by decide +kernel
theorem dX4_letGo_26 : decode cX4_letGo 26 = .ok (.aload_n 0, 1) := by decide +kernel
theorem dX4_letGo_27 : decode cX4_letGo 27 = .ok (.getfield 7, 3) := by decide +kernel
theorem dX4_letGo_30 : decode cX4_letGo 30 = .ok (.invokevirtual 20, 3) := by decide +kernel
theorem dX4_letGo_33 : decode cX4_letGo 33 = .ok (.iadd, 1) := by decide +kernel
theorem dX4_letGo_34 : decode cX4_letGo 34 = .ok (.putfield 17, 3) := by decide +kernel
theorem dX4_letGo_37 : decode cX4_letGo 37 = .ok (.aload_n 0, 1) := by decide +kernel
theorem dX4_letGo_38 : decode cX4_letGo 38 = .ok (.iload_n 3, 1) := by decide +kernel
theorem dX4_letGo_39 : decode cX4_letGo 39 = .ok (.putfield 24, 3) := by decide +kernel
theorem dX4_letGo_42 : decode cX4_letGo 42 = .ok (.aload_n 0, 1) := by decide +kernel
theorem dX4_letGo_43 : decode cX4_letGo 43 = .ok (.iload_n 3, 1) := by decide +kernel
theorem dX4_letGo_44 : decode cX4_letGo 44 = .ok (.ifCond .eq 7, 3) := by decide +kernel
theorem dX4_letGo_47 : decode cX4_letGo 47 = .ok (.iconst 0, 1) := by decide +kernel
theorem dX4_letGo_48 : decode cX4_letGo 48 = .ok (.goto 9, 3) := by decide +kernel
theorem dX4_letGo_51 : decode cX4_letGo 51 = .ok (.aload_n 0, 1) := by decide +kernel
theorem dX4_letGo_52 : decode cX4_letGo 52 = .ok (.getfield 7, 3) := by decide +kernel
theorem dX4_letGo_55 : decode cX4_letGo 55 = .ok (.iconst 1, 1) := by decide +kernel
theorem dX4_letGo_56 : decode cX4_letGo 56 = .ok (.iadd, 1) := by decide +kernel
theorem dX4_letGo_57 : decode cX4_letGo 57 = .ok (.putfield 7, 3) := by decide +kernel
theorem dX4_letGo_60 : decode cX4_letGo 60 = .ok (.return_, 1) := by decide +kernel
theorem dX4_strokesAhead_0 : decode cX4_strokesAhead 0 = .ok (.aload_n 0, 1) := by decide +kernel
theorem dX4_strokesAhead_1 : decode cX4_strokesAhead 1 = .ok (.aload_n 0, 1) := by decide +kernel
theorem dX4_strokesAhead_2 : decode cX4_strokesAhead 2 = .ok (.getfield 7, 3) := by decide +kernel
theorem dX4_strokesAhead_5 : decode cX4_strokesAhead 5 = .ok (.iload_n 1, 1) := by decide +kernel
theorem dX4_strokesAhead_6 : decode cX4_strokesAhead 6 = .ok (.iadd, 1) := by decide +kernel
theorem dX4_strokesAhead_7 : decode cX4_strokesAhead 7 = .ok (.invokevirtual 20, 3) := by decide +kernel
theorem dX4_strokesAhead_10 : decode cX4_strokesAhead 10 = .ok (.ireturn, 1) := by decide +kernel
theorem dX4_aheadOf_0 : decode cX4_aheadOf 0 = .ok (.aload_n 0, 1) := by decide +kernel
theorem dX4_aheadOf_1 : decode cX4_aheadOf 1 = .ok (.getfield 13, 3) := by decide +kernel
theorem dX4_aheadOf_4 : decode cX4_aheadOf 4 = .ok (.arraylength, 1) := by decide +kernel
theorem dX4_aheadOf_5 : decode cX4_aheadOf 5 = .ok (.istore_n 2, 1) := by decide +kernel
theorem dX4_aheadOf_6 : decode cX4_aheadOf 6 = .ok (.iload_n 2, 1) := by decide +kernel
theorem dX4_aheadOf_7 : decode cX4_aheadOf 7 = .ok (.ifCond .le 16, 3) := by decide +kernel
theorem dX4_aheadOf_10 : decode cX4_aheadOf 10 = .ok (.aload_n 0, 1) := by decide +kernel
theorem dX4_aheadOf_11 : decode cX4_aheadOf 11 = .ok (.getfield 7, 3) := by decide +kernel
theorem dX4_aheadOf_14 : decode cX4_aheadOf 14 = .ok (.iload_n 1, 1) := by decide +kernel
theorem dX4_aheadOf_15 : decode cX4_aheadOf 15 = .ok (.isub, 1) := by decide +kernel
theorem dX4_aheadOf_16 : decode cX4_aheadOf 16 = .ok (.iload_n 2, 1) := by decide +kernel
theorem dX4_aheadOf_17 : decode cX4_aheadOf 17 = .ok (.invokestatic 28, 3) := by decide +kernel
theorem dX4_aheadOf_20 : decode cX4_aheadOf 20 = .ok (.goto 4, 3) := by decide +kernel
theorem dX4_aheadOf_23 : decode cX4_aheadOf 23 = .ok (.iconst 0, 1) := by decide +kernel
theorem dX4_aheadOf_24 : decode cX4_aheadOf 24 = .ok (.ireturn, 1) := by decide +kernel
theorem dX5_init_0 : decode cX5_init 0 = .ok (.aload_n 0, 1) := by decide +kernel
theorem dX5_init_1 : decode cX5_init 1 = .ok (.invokespecial 3, 3) := by decide +kernel
theorem dX5_init_4 : decode cX5_init 4 = .ok (.aload_n 0, 1) := by decide +kernel
theorem dX5_init_5 : decode cX5_init 5 = .ok (.bipush 12, 2) := by decide +kernel
theorem dX5_init_7 : decode cX5_init 7 = .ok (.newarray .int, 2) := by decide +kernel
theorem dX5_init_9 : decode cX5_init 9 = .ok (.putfield 9, 3) := by decide +kernel
theorem dX5_init_12 : decode cX5_init 12 = .ok (.return_, 1) := by decide +kernel
theorem dX5_plan_0 : decode cX5_plan 0 = .ok (.iload_n 3, 1) := by decide +kernel
theorem dX5_plan_1 : decode cX5_plan 1 = .ok (.aload_n 1, 1) := by decide +kernel
theorem dX5_plan_2 : decode cX5_plan 2 = .ok (.getfield 15, 3) := by decide +kernel
theorem dX5_plan_5 : decode cX5_plan 5 = .ok (.isub, 1) := by decide +kernel
theorem dX5_plan_6 : decode cX5_plan 6 = .ok (.bipush 12, 2) := by decide +kernel
theorem dX5_plan_8 : decode cX5_plan 8 = .ok (.invokestatic 21, 3) := by decide +kernel
theorem dX5_plan_11 : decode cX5_plan 11 = .ok (.istore 4, 2) := by decide +kernel
theorem dX5_plan_13 : decode cX5_plan 13 = .ok (.iload_n 3, 1) := by decide +kernel
theorem dX5_plan_14 : decode cX5_plan 14 = .ok (.iload_n 2, 1) := by decide +kernel
theorem dX5_plan_15 : decode cX5_plan 15 = .ok (.isub, 1) := by decide +kernel
theorem dX5_plan_16 : decode cX5_plan 16 = .ok (.bipush 12, 2) := by decide +kernel
theorem dX5_plan_18 : decode cX5_plan 18 = .ok (.invokestatic 21, 3) := by decide +kernel
theorem dX5_plan_21 : decode cX5_plan 21 = .ok (.istore 5, 2) := by decide +kernel
theorem dX5_plan_23 : decode cX5_plan 23 = .ok (.iload 4, 2) := by decide +kernel
theorem dX5_plan_25 : decode cX5_plan 25 = .ok (.iload 5, 2) := by decide +kernel
theorem dX5_plan_27 : decode cX5_plan 27 = .ok (.if_icmp .lt 7, 3) := by decide +kernel
theorem dX5_plan_30 : decode cX5_plan 30 = .ok (.iconst 1, 1) := by decide +kernel
theorem dX5_plan_31 : decode cX5_plan 31 = .ok (.goto 4, 3) := by decide +kernel
theorem dX5_plan_34 : decode cX5_plan 34 = .ok (.iconst 0, 1) := by decide +kernel
theorem dX5_plan_35 : decode cX5_plan 35 = .ok (.istore 6, 2) := by decide +kernel
theorem dX5_plan_37 : decode cX5_plan 37 = .ok (.aload_n 0, 1) := by decide +kernel
theorem dX5_plan_38 : decode cX5_plan 38 = .ok (.iconst 0, 1) := by decide +kernel
theorem dX5_plan_39 : decode cX5_plan 39 = .ok (.putfield 27, 3) := by decide +kernel
theorem dX5_plan_42 : decode cX5_plan 42 = .ok (.aload_n 0, 1) := by decide +kernel
theorem dX5_plan_43 : decode cX5_plan 43 = .ok (.iconst 0, 1) := by decide +kernel
theorem dX5_plan_44 : decode cX5_plan 44 = .ok (.iload 6, 2) := by decide +kernel
theorem dX5_plan_46 : decode cX5_plan 46 = .ok (.ifCond .eq 11, 3) := by decide +kernel
theorem dX5_plan_49 : decode cX5_plan 49 = .ok (.iload 4, 2) := by decide +kernel
theorem dX5_plan_51 : decode cX5_plan 51 = .ok (.iload 5, 2) := by decide +kernel
theorem dX5_plan_53 : decode cX5_plan 53 = .ok (.isub, 1) := by decide +kernel
theorem dX5_plan_54 : decode cX5_plan 54 = .ok (.goto 5, 3) := by decide +kernel
theorem dX5_plan_57 : decode cX5_plan 57 = .ok (.iload 4, 2) := by decide +kernel
theorem dX5_plan_59 : decode cX5_plan 59 = .ok (.invokevirtual 30, 3) := by decide +kernel
theorem dX5_plan_62 : decode cX5_plan 62 = .ok (.aload_n 0, 1) := by decide +kernel
theorem dX5_plan_63 : decode cX5_plan 63 = .ok (.iconst 1, 1) := by decide +kernel
theorem dX5_plan_64 : decode cX5_plan 64 = .ok (.iload 6, 2) := by decide +kernel
theorem dX5_plan_66 : decode cX5_plan 66 = .ok (.ifCond .eq 8, 3) := by decide +kernel
theorem dX5_plan_69 : decode cX5_plan 69 = .ok (.iload 5, 2) := by decide +kernel
theorem dX5_plan_71 : decode cX5_plan 71 = .ok (.goto 4, 3) := by decide +kernel
theorem dX5_plan_74 : decode cX5_plan 74 = .ok (.iconst 0, 1) := by decide +kernel
theorem dX5_plan_75 : decode cX5_plan 75 = .ok (.invokevirtual 30, 3) := by decide +kernel
theorem dX5_plan_78 : decode cX5_plan 78 = .ok (.aload_n 0, 1) := by decide +kernel
theorem dX5_plan_79 : decode cX5_plan 79 = .ok (.iconst 2, 1) := by decide +kernel
theorem dX5_plan_80 : decode cX5_plan 80 = .ok (.iload 6, 2) := by decide +kernel
theorem dX5_plan_82 : decode cX5_plan 82 = .ok (.ifCond .eq 7, 3) := by decide +kernel
theorem dX5_plan_85 : decode cX5_plan 85 = .ok (.iconst 0, 1) := by decide +kernel
theorem dX5_plan_86 : decode cX5_plan 86 = .ok (.goto 8, 3) := by decide +kernel
theorem dX5_plan_89 : decode cX5_plan 89 = .ok (.bipush 12, 2) := by decide +kernel
theorem dX5_plan_91 : decode cX5_plan 91 = .ok (.iload 5, 2) := by decide +kernel
theorem dX5_plan_93 : decode cX5_plan 93 = .ok (.isub, 1) := by decide +kernel
theorem dX5_plan_94 : decode cX5_plan 94 = .ok (.invokevirtual 30, 3) := by decide +kernel
theorem dX5_plan_97 : decode cX5_plan 97 = .ok (.iconst 0, 1) := by decide +kernel
theorem dX5_plan_98 : decode cX5_plan 98 = .ok (.istore 7, 2) := by decide +kernel
theorem dX5_plan_100 : decode cX5_plan 100 = .ok (.iconst 0, 1) := by decide +kernel
theorem dX5_plan_101 : decode cX5_plan 101 = .ok (.istore 8, 2) := by decide +kernel
theorem dX5_plan_103 : decode cX5_plan 103 = .ok (.iload 8, 2) := by decide +kernel
theorem dX5_plan_105 : decode cX5_plan 105 = .ok (.iload 4, 2) := by decide +kernel
theorem dX5_plan_107 : decode cX5_plan 107 = .ok (.if_icmp .ge 25, 3) := by decide +kernel
theorem dX5_plan_110 : decode cX5_plan 110 = .ok (.iload 7, 2) := by decide +kernel
theorem dX5_plan_112 : decode cX5_plan 112 = .ok (.aload_n 1, 1) := by decide +kernel
theorem dX5_plan_113 : decode cX5_plan 113 = .ok (.aload_n 1, 1) := by decide +kernel
theorem dX5_plan_114 : decode cX5_plan 114 = .ok (.getfield 15, 3) := by decide +kernel
theorem dX5_plan_117 : decode cX5_plan 117 = .ok (.iload 8, 2) := by decide +kernel
theorem dX5_plan_119 : decode cX5_plan 119 = .ok (.iadd, 1) := by decide +kernel
theorem dX5_plan_120 : decode cX5_plan 120 = .ok (.invokevirtual 34, 3) := by decide +kernel
theorem dX5_plan_123 : decode cX5_plan 123 = .ok (.iadd, 1) := by decide +kernel
theorem dX5_plan_124 : decode cX5_plan 124 = .ok (.istore 7, 2) := by decide +kernel
theorem dX5_plan_126 : decode cX5_plan 126 = .ok (.iinc 8 1, 3) := by decide +kernel
theorem dX5_plan_129 : decode cX5_plan 129 = .ok (.goto (-26), 3) := by decide +kernel
theorem dX5_plan_132 : decode cX5_plan 132 = .ok (.iload 7, 2) := by decide +kernel
theorem dX5_plan_134 : decode cX5_plan 134 = .ok (.ireturn, 1) := by decide +kernel
theorem dX5_add_0 : decode cX5_add 0 = .ok (.iconst 0, 1) := by decide +kernel
theorem dX5_add_1 : decode cX5_add 1 = .ok (.istore_n 3, 1) := by decide +kernel
theorem dX5_add_2 : decode cX5_add 2 = .ok (.iload_n 3, 1) := by decide +kernel
theorem dX5_add_3 : decode cX5_add 3 = .ok (.iload_n 2, 1) := by decide +kernel
theorem dX5_add_4 : decode cX5_add 4 = .ok (.if_icmp .ge 41, 3) := by decide +kernel
theorem dX5_add_7 : decode cX5_add 7 = .ok (.aload_n 0, 1) := by decide +kernel
theorem dX5_add_8 : decode cX5_add 8 = .ok (.getfield 27, 3) := by decide +kernel
theorem dX5_add_11 : decode cX5_add 11 = .ok (.aload_n 0, 1) := by decide +kernel
theorem dX5_add_12 : decode cX5_add 12 = .ok (.getfield 9, 3) := by decide +kernel
theorem dX5_add_15 : decode cX5_add 15 = .ok (.arraylength, 1) := by decide +kernel
theorem dX5_add_16 : decode cX5_add 16 = .ok (.if_icmp .ge 29, 3) := by decide +kernel
theorem dX5_add_19 : decode cX5_add 19 = .ok (.aload_n 0, 1) := by decide +kernel
theorem dX5_add_20 : decode cX5_add 20 = .ok (.getfield 9, 3) := by decide +kernel
theorem dX5_add_23 : decode cX5_add 23 = .ok (.aload_n 0, 1) := by decide +kernel
theorem dX5_add_24 : decode cX5_add 24 = .ok (.getfield 27, 3) := by decide +kernel
theorem dX5_add_27 : decode cX5_add 27 = .ok (.iload_n 1, 1) := by decide +kernel
theorem dX5_add_28 : decode cX5_add 28 = .ok (.iastore, 1) := by decide +kernel
theorem dX5_add_29 : decode cX5_add 29 = .ok (.aload_n 0, 1) := by decide +kernel
theorem dX5_add_30 : decode cX5_add 30 = .ok (.dup, 1) := by decide +kernel
theorem dX5_add_31 : decode cX5_add 31 = .ok (.getfield 27, 3) := by decide +kernel
theorem dX5_add_34 : decode cX5_add 34 = .ok (.iconst 1, 1) := by decide +kernel
theorem dX5_add_35 : decode cX5_add 35 = .ok (.iadd, 1) := by decide +kernel
theorem dX5_add_36 : decode cX5_add 36 = .ok (.putfield 27, 3) := by decide +kernel
theorem dX5_add_39 : decode cX5_add 39 = .ok (.iinc 3 1, 3) := by decide +kernel
theorem dX5_add_42 : decode cX5_add 42 = .ok (.goto (-40), 3) := by decide +kernel
theorem dX5_add_45 : decode cX5_add 45 = .ok (.return_, 1) := by decide +kernel
theorem dX5_actAt_0 : decode cX5_actAt 0 = .ok (.iload_n 1, 1) := by decide +kernel
theorem dX5_actAt_1 : decode cX5_actAt 1 = .ok (.ifCond .lt 29, 3) := by decide +kernel
theorem dX5_actAt_4 : decode cX5_actAt 4 = .ok (.iload_n 1, 1) := by decide +kernel
theorem dX5_actAt_5 : decode cX5_actAt 5 = .ok (.aload_n 0, 1) := by decide +kernel
theorem dX5_actAt_6 : decode cX5_actAt 6 = .ok (.getfield 27, 3) := by decide +kernel
theorem dX5_actAt_9 : decode cX5_actAt 9 = .ok (.if_icmp .ge 21, 3) := by decide +kernel
theorem dX5_actAt_12 : decode cX5_actAt 12 = .ok (.iload_n 1, 1) := by decide +kernel
theorem dX5_actAt_13 : decode cX5_actAt 13 = .ok (.aload_n 0, 1) := by decide +kernel
theorem dX5_actAt_14 : decode cX5_actAt 14 = .ok (.getfield 9, 3) := by decide +kernel
theorem dX5_actAt_17 : decode cX5_actAt 17 = .ok (.arraylength, 1) := by decide +kernel
theorem dX5_actAt_18 : decode cX5_actAt 18 = .ok (.if_icmp .ge 12, 3) := by decide +kernel
theorem dX5_actAt_21 : decode cX5_actAt 21 = .ok (.aload_n 0, 1) := by decide +kernel
theorem dX5_actAt_22 : decode cX5_actAt 22 = .ok (.getfield 9, 3) := by decide +kernel
theorem dX5_actAt_25 : decode cX5_actAt 25 = .ok (.iload_n 1, 1) := by decide +kernel
theorem dX5_actAt_26 : decode cX5_actAt 26 = .ok (.iaload, 1) := by decide +kernel
theorem dX5_actAt_27 : decode cX5_actAt 27 = .ok (.goto 5, 3) := by decide +kernel
theorem dX5_actAt_30 : decode cX5_actAt 30 = .ok (.bipush (-9), 2) := by decide +kernel
theorem dX5_actAt_32 : decode cX5_actAt 32 = .ok (.ireturn, 1) := by decide +kernel
theorem dX6_init_0 : decode cX6_init 0 = .ok (.aload_n 0, 1) := by decide +kernel
theorem dX6_init_1 : decode cX6_init 1 = .ok (.invokespecial 3, 3) := by decide +kernel
theorem dX6_init_4 : decode cX6_init 4 = .ok (.aload_n 0, 1) := by decide +kernel
theorem dX6_init_5 : decode cX6_init 5 = .ok (.bipush 48, 2) := by decide +kernel
theorem dX6_init_7 : decode cX6_init 7 = .ok (.newarray .byte, 2) := by decide +kernel
theorem dX6_init_9 : decode cX6_init 9 = .ok (.putfield 9, 3) := by decide +kernel
theorem dX6_init_12 : decode cX6_init 12 = .ok (.aload_n 0, 1) := by decide +kernel
theorem dX6_init_13 : decode cX6_init 13 = .ok (.iconst (-1), 1) := by decide +kernel
theorem dX6_init_14 : decode cX6_init 14 = .ok (.putfield 15, 3) := by decide +kernel
theorem dX6_init_17 : decode cX6_init 17 = .ok (.return_, 1) := by decide +kernel
theorem dX6_isThere_0 : decode cX6_isThere 0 = .ok (.aload_n 0, 1) := by decide +kernel
theorem dX6_isThere_1 : decode cX6_isThere 1 = .ok (.getfield 15, 3) := by decide +kernel
theorem dX6_isThere_4 : decode cX6_isThere 4 = .ok (.iconst (-1), 1) := by decide +kernel
theorem dX6_isThere_5 : decode cX6_isThere 5 = .ok (.if_icmp .eq 7, 3) := by decide +kernel
theorem dX6_isThere_8 : decode cX6_isThere 8 = .ok (.iconst 1, 1) := by decide +kernel
theorem dX6_isThere_9 : decode cX6_isThere 9 = .ok (.goto 4, 3) := by decide +kernel
theorem dX6_isThere_12 : decode cX6_isThere 12 = .ok (.iconst 0, 1) := by decide +kernel
theorem dX6_isThere_13 : decode cX6_isThere 13 = .ok (.ireturn, 1) := by decide +kernel
theorem dX6_begin_0 : decode cX6_begin 0 = .ok (.aload_n 0, 1) := by decide +kernel
theorem dX6_begin_1 : decode cX6_begin 1 = .ok (.getfield 9, 3) := by decide +kernel
theorem dX6_begin_4 : decode cX6_begin 4 = .ok (.iconst 0, 1) := by decide +kernel
theorem dX6_begin_5 : decode cX6_begin 5 = .ok (.invokestatic 19, 3) := by decide +kernel
theorem dX6_begin_8 : decode cX6_begin 8 = .ok (.aload_n 0, 1) := by decide +kernel
theorem dX6_begin_9 : decode cX6_begin 9 = .ok (.iload_n 1, 1) := by decide +kernel
theorem dX6_begin_10 : decode cX6_begin 10 = .ok (.putfield 15, 3) := by decide +kernel
theorem dX6_begin_13 : decode cX6_begin 13 = .ok (.return_, 1) := by decide +kernel
theorem dX6_at_0 : decode cX6_at 0 = .ok (.iload_n 1, 1) := by decide +kernel
theorem dX6_at_1 : decode cX6_at 1 = .ok (.ifCond .lt 29, 3) := by decide +kernel
theorem dX6_at_4 : decode cX6_at 4 = .ok (.iload_n 1, 1) := by decide +kernel
theorem dX6_at_5 : decode cX6_at 5 = .ok (.aload_n 0, 1) := by decide +kernel
theorem dX6_at_6 : decode cX6_at 6 = .ok (.getfield 15, 3) := by decide +kernel
theorem dX6_at_9 : decode cX6_at 9 = .ok (.if_icmp .ge 21, 3) := by decide +kernel
theorem dX6_at_12 : decode cX6_at 12 = .ok (.iload_n 1, 1) := by decide +kernel
theorem dX6_at_13 : decode cX6_at 13 = .ok (.aload_n 0, 1) := by decide +kernel
theorem dX6_at_14 : decode cX6_at 14 = .ok (.getfield 9, 3) := by decide +kernel
theorem dX6_at_17 : decode cX6_at 17 = .ok (.arraylength, 1) := by decide +kernel
theorem dX6_at_18 : decode cX6_at 18 = .ok (.if_icmp .ge 12, 3) := by decide +kernel
theorem dX6_at_21 : decode cX6_at 21 = .ok (.aload_n 0, 1) := by decide +kernel
theorem dX6_at_22 : decode cX6_at 22 = .ok (.getfield 9, 3) := by decide +kernel
theorem dX6_at_25 : decode cX6_at 25 = .ok (.iload_n 1, 1) := by decide +kernel
theorem dX6_at_26 : decode cX6_at 26 = .ok (.baload, 1) := by decide +kernel
theorem dX6_at_27 : decode cX6_at 27 = .ok (.goto 4, 3) := by decide +kernel
theorem dX6_at_30 : decode cX6_at 30 = .ok (.iconst 0, 1) := by decide +kernel
theorem dX6_at_31 : decode cX6_at 31 = .ok (.ireturn, 1) := by decide +kernel
theorem dX6_set_0 : decode cX6_set 0 = .ok (.iload_n 1, 1) := by decide +kernel
theorem dX6_set_1 : decode cX6_set 1 = .ok (.ifCond .lt 20, 3) := by decide +kernel
theorem dX6_set_4 : decode cX6_set 4 = .ok (.iload_n 1, 1) := by decide +kernel
theorem dX6_set_5 : decode cX6_set 5 = .ok (.aload_n 0, 1) := by decide +kernel
theorem dX6_set_6 : decode cX6_set 6 = .ok (.getfield 9, 3) := by decide +kernel
theorem dX6_set_9 : decode cX6_set 9 = .ok (.arraylength, 1) := by decide +kernel
theorem dX6_set_10 : decode cX6_set 10 = .ok (.if_icmp .ge 11, 3) := by decide +kernel
theorem dX6_set_13 : decode cX6_set 13 = .ok (.aload_n 0, 1) := by decide +kernel
theorem dX6_set_14 : decode cX6_set 14 = .ok (.getfield 9, 3) := by decide +kernel
theorem dX6_set_17 : decode cX6_set 17 = .ok (.iload_n 1, 1) := by decide +kernel
theorem dX6_set_18 : decode cX6_set 18 = .ok (.iload_n 2, 1) := by decide +kernel
theorem dX6_set_19 : decode cX6_set 19 = .ok (.i2b, 1) := by decide +kernel
theorem dX6_set_20 : decode cX6_set 20 = .ok (.bastore, 1) := by decide +kernel
theorem dX6_set_21 : decode cX6_set 21 = .ok (.return_, 1) := by decide +kernel
theorem dX6_hasRun_0 : decode cX6_hasRun 0 = .ok (.iload_n 1, 1) := by decide +kernel
theorem dX6_hasRun_1 : decode cX6_hasRun 1 = .ok (.ifCond .lt 25, 3) := by decide +kernel
theorem dX6_hasRun_4 : decode cX6_hasRun 4 = .ok (.iload_n 2, 1) := by decide +kernel
theorem dX6_hasRun_5 : decode cX6_hasRun 5 = .ok (.aload_n 0, 1) := by decide +kernel
theorem dX6_hasRun_6 : decode cX6_hasRun 6 = .ok (.getfield 15, 3) := by decide +kernel
theorem dX6_hasRun_9 : decode cX6_hasRun 9 = .ok (.if_icmp .gt 17, 3) := by decide +kernel
theorem dX6_hasRun_12 : decode cX6_hasRun 12 = .ok (.iload_n 1, 1) := by decide +kernel
theorem dX6_hasRun_13 : decode cX6_hasRun 13 = .ok (.aload_n 0, 1) := by decide +kernel
theorem dX6_hasRun_14 : decode cX6_hasRun 14 = .ok (.getfield 15, 3) := by decide +kernel
theorem dX6_hasRun_17 : decode cX6_hasRun 17 = .ok (.iload_n 2, 1) := by decide +kernel
theorem dX6_hasRun_18 : decode cX6_hasRun 18 = .ok (.isub, 1) := by decide +kernel
theorem dX6_hasRun_19 : decode cX6_hasRun 19 = .ok (.if_icmp .gt 7, 3) := by decide +kernel
theorem dX6_hasRun_22 : decode cX6_hasRun 22 = .ok (.iconst 1, 1) := by decide +kernel
theorem dX6_hasRun_23 : decode cX6_hasRun 23 = .ok (.goto 4, 3) := by decide +kernel
theorem dX6_hasRun_26 : decode cX6_hasRun 26 = .ok (.iconst 0, 1) := by decide +kernel
theorem dX6_hasRun_27 : decode cX6_hasRun 27 = .ok (.ireturn, 1) := by decide +kernel
theorem dX6_isStrokes_0 : decode cX6_isStrokes 0 = .ok (.aload_n 0, 1) := by decide +kernel
theorem dX6_isStrokes_1 : decode cX6_isStrokes 1 = .ok (.getfield 15, 3) := by decide +kernel
theorem dX6_isStrokes_4 : decode cX6_isStrokes 4 = .ok (.iconst 1, 1) := by decide +kernel
theorem dX6_isStrokes_5 : decode cX6_isStrokes 5 = .ok (.if_icmp .lt 12, 3) := by decide +kernel
theorem dX6_isStrokes_8 : decode cX6_isStrokes 8 = .ok (.aload_n 0, 1) := by decide +kernel
theorem dX6_isStrokes_9 : decode cX6_isStrokes 9 = .ok (.getfield 15, 3) := by decide +kernel
theorem dX6_isStrokes_12 : decode cX6_isStrokes 12 = .ok (.bipush 24, 2) := by decide +kernel
theorem dX6_isStrokes_14 : decode cX6_isStrokes 14 = .ok (.if_icmp .le 5, 3) := by decide +kernel
theorem dX6_isStrokes_17 : decode cX6_isStrokes 17 = .ok (.iconst 0, 1) := by decide +kernel
theorem dX6_isStrokes_18 : decode cX6_isStrokes 18 = .ok (.ireturn, 1) := by decide +kernel
theorem dX6_isStrokes_19 : decode cX6_isStrokes 19 = .ok (.iconst 0, 1) := by decide +kernel
theorem dX6_isStrokes_20 : decode cX6_isStrokes 20 = .ok (.istore_n 1, 1) := by decide +kernel
theorem dX6_isStrokes_21 : decode cX6_isStrokes 21 = .ok (.iload_n 1, 1) := by decide +kernel
theorem dX6_isStrokes_22 : decode cX6_isStrokes 22 = .ok (.aload_n 0, 1) := by decide +kernel
theorem dX6_isStrokes_23 : decode cX6_isStrokes 23 = .ok (.getfield 15, 3) := by decide +kernel
theorem dX6_isStrokes_26 : decode cX6_isStrokes 26 = .ok (.if_icmp .ge 30, 3) := by decide +kernel
theorem dX6_isStrokes_29 : decode cX6_isStrokes 29 = .ok (.aload_n 0, 1) := by decide +kernel
theorem dX6_isStrokes_30 : decode cX6_isStrokes 30 = .ok (.iload_n 1, 1) := by decide +kernel
theorem dX6_isStrokes_31 : decode cX6_isStrokes 31 = .ok (.invokevirtual 25, 3) := by decide +kernel
theorem dX6_isStrokes_34 : decode cX6_isStrokes 34 = .ok (.iconst 1, 1) := by decide +kernel
theorem dX6_isStrokes_35 : decode cX6_isStrokes 35 = .ok (.if_icmp .lt 13, 3) := by decide +kernel
theorem dX6_isStrokes_38 : decode cX6_isStrokes 38 = .ok (.aload_n 0, 1) := by decide +kernel
theorem dX6_isStrokes_39 : decode cX6_isStrokes 39 = .ok (.iload_n 1, 1) := by decide +kernel
theorem dX6_isStrokes_40 : decode cX6_isStrokes 40 = .ok (.invokevirtual 25, 3) := by decide +kernel
theorem dX6_isStrokes_43 : decode cX6_isStrokes 43 = .ok (.bipush 24, 2) := by decide +kernel
theorem dX6_isStrokes_45 : decode cX6_isStrokes 45 = .ok (.if_icmp .le 5, 3) := by decide +kernel
theorem dX6_isStrokes_48 : decode cX6_isStrokes 48 = .ok (.iconst 0, 1) := by decide +kernel
theorem dX6_isStrokes_49 : decode cX6_isStrokes 49 = .ok (.ireturn, 1) := by decide +kernel
theorem dX6_isStrokes_50 : decode cX6_isStrokes 50 = .ok (.iinc 1 1, 3) := by decide +kernel
theorem dX6_isStrokes_53 : decode cX6_isStrokes 53 = .ok (.goto (-32), 3) := by decide +kernel
theorem dX6_isStrokes_56 : decode cX6_isStrokes 56 = .ok (.iconst 1, 1) := by decide +kernel
theorem dX6_isStrokes_57 : decode cX6_isStrokes 57 = .ok (.ireturn, 1) := by decide +kernel
theorem dX6_asNumbers_0 : decode cX6_asNumbers 0 = .ok (.aload_n 0, 1) := by decide +kernel
theorem dX6_asNumbers_1 : decode cX6_asNumbers 1 = .ok (.getfield 15, 3) := by decide +kernel
theorem dX6_asNumbers_4 : decode cX6_asNumbers 4 = .ok (.iconst 0, 1) := by decide +kernel
theorem dX6_asNumbers_5 : decode cX6_asNumbers 5 = .ok (.invokestatic 29, 3) := by decide +kernel
theorem dX6_asNumbers_8 : decode cX6_asNumbers 8 = .ok (.newarray .int, 2) := by decide +kernel
theorem dX6_asNumbers_10 : decode cX6_asNumbers 10 = .ok (.astore_n 2, 1) := by decide +kernel
theorem dX6_asNumbers_11 : decode cX6_asNumbers 11 = .ok (.iconst 0, 1) := by decide +kernel
theorem dX6_asNumbers_12 : decode cX6_asNumbers 12 = .ok (.istore_n 3, 1) := by decide +kernel
theorem dX6_asNumbers_13 : decode cX6_asNumbers 13 = .ok (.iload_n 3, 1) := by decide +kernel
theorem dX6_asNumbers_14 : decode cX6_asNumbers 14 = .ok (.aload_n 2, 1) := by decide +kernel
theorem dX6_asNumbers_15 : decode cX6_asNumbers 15 = .ok (.arraylength, 1) := by decide +kernel
theorem dX6_asNumbers_16 : decode cX6_asNumbers 16 = .ok (.if_icmp .ge 19, 3) := by decide +kernel
theorem dX6_asNumbers_19 : decode cX6_asNumbers 19 = .ok (.aload_n 2, 1) := by decide +kernel
theorem dX6_asNumbers_20 : decode cX6_asNumbers 20 = .ok (.iload_n 3, 1) := by decide +kernel
theorem dX6_asNumbers_21 : decode cX6_asNumbers 21 = .ok (.aload_n 0, 1) := by decide +kernel
theorem dX6_asNumbers_22 : decode cX6_asNumbers 22 = .ok (.iload_n 3, 1) := by decide +kernel
theorem dX6_asNumbers_23 : decode cX6_asNumbers 23 = .ok (.invokevirtual 25, 3) := by decide +kernel
theorem dX6_asNumbers_26 : decode cX6_asNumbers 26 = .ok (.iload_n 1, 1) := by decide +kernel
theorem dX6_asNumbers_27 : decode cX6_asNumbers 27 = .ok (.iand, 1) := by decide +kernel
theorem dX6_asNumbers_28 : decode cX6_asNumbers 28 = .ok (.iastore, 1) := by decide +kernel
theorem dX6_asNumbers_29 : decode cX6_asNumbers 29 = .ok (.iinc 3 1, 3) := by decide +kernel
theorem dX6_asNumbers_32 : decode cX6_asNumbers 32 = .ok (.goto (-19), 3) := by decide +kernel
theorem dX6_asNumbers_35 : decode cX6_asNumbers 35 = .ok (.aload_n 2, 1) := by decide +kernel
theorem dX6_asNumbers_36 : decode cX6_asNumbers 36 = .ok (.areturn, 1) := by decide +kernel
theorem dX7_init_0 : decode cX7_init 0 = .ok (.aload_n 0, 1) := by decide +kernel
theorem dX7_init_1 : decode cX7_init 1 = .ok (.iload_n 1, 1) := by decide +kernel
theorem dX7_init_2 : decode cX7_init 2 = .ok (.iconst 2, 1) := by decide +kernel
theorem dX7_init_3 : decode cX7_init 3 = .ok (.aload_n 2, 1) := by decide +kernel
theorem dX7_init_4 : decode cX7_init 4 = .ok (.invokespecial 3, 3) := by decide +kernel
theorem dX7_init_7 : decode cX7_init 7 = .ok (.return_, 1) := by decide +kernel
theorem dX7_letGo_0 : decode cX7_letGo 0 = .ok (.aload_n 0, 1) := by decide +kernel
theorem dX7_letGo_1 : decode cX7_letGo 1 = .ok (.aload_n 0, 1) := by decide +kernel
theorem dX7_letGo_2 : decode cX7_letGo 2 = .ok (.iload_n 1, 1) := by decide +kernel
theorem dX7_letGo_3 : decode cX7_letGo 3 = .ok (.invokevirtual 9, 3) := by decide +kernel
theorem dX7_letGo_6 : decode cX7_letGo 6 = .ok (.putfield 15, 3) := by decide +kernel
theorem dX7_letGo_9 : decode cX7_letGo 9 = .ok (.aload_n 0, 1) := by decide +kernel
theorem dX7_letGo_10 : decode cX7_letGo 10 = .ok (.iload_n 2, 1) := by decide +kernel
theorem dX7_letGo_11 : decode cX7_letGo 11 = .ok (.putfield 19, 3) := by decide +kernel
theorem dX7_letGo_14 : decode cX7_letGo 14 = .ok (.return_, 1) := by decide +kernel
theorem dX7_strokesAhead_0 : decode cX7_strokesAhead 0 = .ok (.aload_n 0, 1) := by decide +kernel
theorem dX7_strokesAhead_1 : decode cX7_strokesAhead 1 = .ok (.iload_n 1, 1) := by decide +kernel
theorem dX7_strokesAhead_2 : decode cX7_strokesAhead 2 = .ok (.iload_n 2, 1) := by decide +kernel
theorem dX7_strokesAhead_3 : decode cX7_strokesAhead 3 = .ok (.ifCond .eq 7, 3) := by decide +kernel
theorem dX7_strokesAhead_6 : decode cX7_strokesAhead 6 = .ok (.iconst 4, 1) := by decide +kernel
theorem dX7_strokesAhead_7 : decode cX7_strokesAhead 7 = .ok (.goto 5, 3) := by decide +kernel
theorem dX7_strokesAhead_10 : decode cX7_strokesAhead 10 = .ok (.bipush 12, 2) := by decide +kernel
theorem dX7_strokesAhead_12 : decode cX7_strokesAhead 12 = .ok (.irem, 1) := by decide +kernel
theorem dX7_strokesAhead_13 : decode cX7_strokesAhead 13 = .ok (.invokevirtual 9, 3) := by decide +kernel
theorem dX7_strokesAhead_16 : decode cX7_strokesAhead 16 = .ok (.ireturn, 1) := by decide +kernel
theorem dX8_init_0 : decode cX8_init 0 = .ok (.aload_n 0, 1) := by decide +kernel
theorem dX8_init_1 : decode cX8_init 1 = .ok (.invokespecial 3, 3) := by decide +kernel
theorem dX8_init_4 : decode cX8_init 4 = .ok (.aload_n 0, 1) := by decide +kernel
theorem dX8_init_5 : decode cX8_init 5 = .ok (.new 9, 3) := by decide +kernel
theorem dX8_init_8 : decode cX8_init 8 = .ok (.dup, 1) := by decide +kernel
theorem dX8_init_9 : decode cX8_init 9 = .ok (.invokespecial 11, 3) := by decide +kernel
theorem dX8_init_12 : decode cX8_init 12 = .ok (.putfield 12, 3) := by decide +kernel
theorem dX8_init_15 : decode cX8_init 15 = .ok (.return_, 1) := by decide +kernel
theorem dX8_begin_0 : decode cX8_begin 0 = .ok (.aload_n 0, 1) := by decide +kernel
theorem dX8_begin_1 : decode cX8_begin 1 = .ok (.iconst 1, 1) := by decide +kernel
theorem dX8_begin_2 : decode cX8_begin 2 = .ok (.putfield 18, 3) := by decide +kernel
theorem dX8_begin_5 : decode cX8_begin 5 = .ok (.aload_n 0, 1) := by decide +kernel
theorem dX8_begin_6 : decode cX8_begin 6 = .ok (.iconst 0, 1) := by decide +kernel
theorem dX8_begin_7 : decode cX8_begin 7 = .ok (.putfield 22, 3) := by decide +kernel
theorem dX8_begin_10 : decode cX8_begin 10 = .ok (.aload_n 0, 1) := by decide +kernel
theorem dX8_begin_11 : decode cX8_begin 11 = .ok (.iconst 0, 1) := by decide +kernel
theorem dX8_begin_12 : decode cX8_begin 12 = .ok (.putfield 26, 3) := by decide +kernel
theorem dX8_begin_15 : decode cX8_begin 15 = .ok (.aload_n 0, 1) := by decide +kernel
theorem dX8_begin_16 : decode cX8_begin 16 = .ok (.iconst 0, 1) := by decide +kernel
theorem dX8_begin_17 : decode cX8_begin 17 = .ok (.putfield 29, 3) := by decide +kernel
theorem dX8_begin_20 : decode cX8_begin 20 = .ok (.aload_n 0, 1) := by decide +kernel
theorem dX8_begin_21 : decode cX8_begin 21 = .ok (.sipush 20000, 3) := by decide +kernel
theorem dX8_begin_24 : decode cX8_begin 24 = .ok (.putfield 32, 3) := by decide +kernel
theorem dX8_begin_27 : decode cX8_begin 27 = .ok (.aload_n 0, 1) := by decide +kernel
theorem dX8_begin_28 : decode cX8_begin 28 = .ok (.iconst 1, 1) := by decide +kernel
theorem dX8_begin_29 : decode cX8_begin 29 = .ok (.putfield 35, 3) := by decide +kernel
theorem dX8_begin_32 : decode cX8_begin 32 = .ok (.aload_n 0, 1) := by decide +kernel
theorem dX8_begin_33 : decode cX8_begin 33 = .ok (.iconst 0, 1) := by decide +kernel
theorem dX8_begin_34 : decode cX8_begin 34 = .ok (.invokevirtual 38, 3) := by decide +kernel
theorem dX8_begin_37 : decode cX8_begin 37 = .ok (.pop, 1) := by decide +kernel
theorem dX8_begin_38 : decode cX8_begin 38 = .ok (.aload_n 0, 1) := by decide +kernel
theorem dX8_begin_39 : decode cX8_begin 39 = .ok (.iconst 1, 1) := by decide +kernel
theorem dX8_begin_40 : decode cX8_begin 40 = .ok (.invokevirtual 38, 3) := by decide +kernel
theorem dX8_begin_43 : decode cX8_begin 43 = .ok (.pop, 1) := by decide +kernel
theorem dX8_begin_44 : decode cX8_begin 44 = .ok (.aload_n 0, 1) := by decide +kernel
theorem dX8_begin_45 : decode cX8_begin 45 = .ok (.iconst 0, 1) := by decide +kernel
theorem dX8_begin_46 : decode cX8_begin 46 = .ok (.iconst 0, 1) := by decide +kernel
theorem dX8_begin_47 : decode cX8_begin 47 = .ok (.iconst 1, 1) := by decide +kernel
theorem dX8_begin_48 : decode cX8_begin 48 = .ok (.invokevirtual 42, 3) := by decide +kernel
theorem dX8_begin_51 : decode cX8_begin 51 = .ok (.aload_n 0, 1) := by decide +kernel
theorem dX8_begin_52 : decode cX8_begin 52 = .ok (.getfield 12, 3) := by decide +kernel
theorem dX8_begin_55 : decode cX8_begin 55 = .ok (.invokevirtual 46, 3) := by decide +kernel
theorem dX8_begin_58 : decode cX8_begin 58 = .ok (.return_, 1) := by decide +kernel
theorem dX8_trainIn_0 : decode cX8_trainIn 0 = .ok (.iload_n 1, 1) := by decide +kernel
theorem dX8_trainIn_1 : decode cX8_trainIn 1 = .ok (.ifCond .eq 10, 3) := by decide +kernel
theorem dX8_trainIn_4 : decode cX8_trainIn 4 = .ok (.aload_n 0, 1) := by decide +kernel
theorem dX8_trainIn_5 : decode cX8_trainIn 5 = .ok (.getfield 49, 3) := by decide +kernel
theorem dX8_trainIn_8 : decode cX8_trainIn 8 = .ok (.goto 7, 3) := by decide +kernel
theorem dX8_trainIn_11 : decode cX8_trainIn 11 = .ok (.aload_n 0, 1) := by decide +kernel
theorem dX8_trainIn_12 : decode cX8_trainIn 12 = .ok (.getfield 53, 3) := by decide +kernel
theorem dX8_trainIn_15 : decode cX8_trainIn 15 = .ok (.areturn, 1) := by decide +kernel
theorem dX8_numberIn_0 : decode cX8_numberIn 0 = .ok (.aload_n 0, 1) := by decide +kernel
theorem dX8_numberIn_1 : decode cX8_numberIn 1 = .ok (.iload_n 1, 1) := by decide +kernel
theorem dX8_numberIn_2 : decode cX8_numberIn 2 = .ok (.invokevirtual 56, 3) := by decide +kernel
theorem dX8_numberIn_5 : decode cX8_numberIn 5 = .ok (.astore_n 2, 1) := by decide +kernel
theorem dX8_numberIn_6 : decode cX8_numberIn 6 = .ok (.aload_n 2, 1) := by decide +kernel
theorem dX8_numberIn_7 : decode cX8_numberIn 7 = .ok (.ifnonnull 8, 3) := by decide +kernel
theorem dX8_numberIn_10 : decode cX8_numberIn 10 = .ok (.bipush (-9), 2) := by decide +kernel
theorem dX8_numberIn_12 : decode cX8_numberIn 12 = .ok (.goto 7, 3) := by decide +kernel
theorem dX8_numberIn_15 : decode cX8_numberIn 15 = .ok (.aload_n 2, 1) := by decide +kernel
theorem dX8_numberIn_16 : decode cX8_numberIn 16 = .ok (.getfield 60, 3) := by decide +kernel
theorem dX8_numberIn_19 : decode cX8_numberIn 19 = .ok (.ireturn, 1) := by decide +kernel
theorem dX8_isWarned_0 : decode cX8_isWarned 0 = .ok (.aload_n 0, 1) := by decide +kernel
theorem dX8_isWarned_1 : decode cX8_isWarned 1 = .ok (.iload_n 1, 1) := by decide +kernel
theorem dX8_isWarned_2 : decode cX8_isWarned 2 = .ok (.invokevirtual 56, 3) := by decide +kernel
theorem dX8_isWarned_5 : decode cX8_isWarned 5 = .ok (.astore_n 2, 1) := by decide +kernel
theorem dX8_isWarned_6 : decode cX8_isWarned 6 = .ok (.aload_n 2, 1) := by decide +kernel
theorem dX8_isWarned_7 : decode cX8_isWarned 7 = .ok (.ifnull 14, 3) := by decide +kernel
theorem dX8_isWarned_10 : decode cX8_isWarned 10 = .ok (.aload_n 2, 1) := by decide +kernel
theorem dX8_isWarned_11 : decode cX8_isWarned 11 = .ok (.getfield 65, 3) := by decide +kernel
theorem dX8_isWarned_14 : decode cX8_isWarned 14 = .ok (.ifCond .eq 7, 3) := by decide +kernel
theorem dX8_isWarned_17 : decode cX8_isWarned 17 = .ok (.iconst 1, 1) := by decide +kernel
theorem dX8_isWarned_18 : decode cX8_isWarned 18 = .ok (.goto 4, 3) := by decide +kernel
theorem dX8_isWarned_21 : decode cX8_isWarned 21 = .ok (.iconst 0, 1) := by decide +kernel
theorem dX8_isWarned_22 : decode cX8_isWarned 22 = .ok (.ireturn, 1) := by decide +kernel
theorem dX8_take_0 : decode cX8_take 0 = .ok (.iload_n 2, 1) := by decide +kernel
theorem dX8_take_1 : decode cX8_take 1 = .ok (.ifCond .eq 11, 3) := by decide +kernel
theorem dX8_take_4 : decode cX8_take 4 = .ok (.aload_n 0, 1) := by decide +kernel
theorem dX8_take_5 : decode cX8_take 5 = .ok (.aload_n 1, 1) := by decide +kernel
theorem dX8_take_6 : decode cX8_take 6 = .ok (.putfield 49, 3) := by decide +kernel
theorem dX8_take_9 : decode cX8_take 9 = .ok (.goto 8, 3) := by decide +kernel
theorem dX8_take_12 : decode cX8_take 12 = .ok (.aload_n 0, 1) := by decide +kernel
theorem dX8_take_13 : decode cX8_take 13 = .ok (.aload_n 1, 1) := by decide +kernel
theorem dX8_take_14 : decode cX8_take 14 = .ok (.putfield 53, 3) := by decide +kernel
theorem dX8_take_17 : decode cX8_take 17 = .ok (.return_, 1) := by decide +kernel
theorem dX8_release_0 : decode cX8_release 0 = .ok (.aload_n 0, 1) := by decide +kernel
theorem dX8_release_1 : decode cX8_release 1 = .ok (.iload_n 1, 1) := by decide +kernel
theorem dX8_release_2 : decode cX8_release 2 = .ok (.invokevirtual 56, 3) := by decide +kernel
theorem dX8_release_5 : decode cX8_release 5 = .ok (.astore_n 2, 1) := by decide +kernel
theorem dX8_release_6 : decode cX8_release 6 = .ok (.aload_n 2, 1) := by decide +kernel
theorem dX8_release_7 : decode cX8_release 7 = .ok (.ifnonnull 6, 3) := by decide +kernel
theorem dX8_release_10 : decode cX8_release 10 = .ok (.bipush (-9), 2) := by decide +kernel
theorem dX8_release_12 : decode cX8_release 12 = .ok (.ireturn, 1) := by decide +kernel
theorem dX8_release_13 : decode cX8_release 13 = .ok (.aload_n 2, 1) := by decide +kernel
theorem dX8_release_14 : decode cX8_release 14 = .ok (.bipush (-9), 2) := by decide +kernel
theorem dX8_release_16 : decode cX8_release 16 = .ok (.putfield 68, 3) := by decide +kernel
theorem dX8_release_19 : decode cX8_release 19 = .ok (.aload_n 0, 1) := by decide +kernel
theorem dX8_release_20 : decode cX8_release 20 = .ok (.aconst_null, 1) := by decide +kernel
theorem dX8_release_21 : decode cX8_release 21 = .ok (.iload_n 1, 1) := by decide +kernel
theorem dX8_release_22 : decode cX8_release 22 = .ok (.invokevirtual 71, 3) := by decide +kernel
theorem dX8_release_25 : decode cX8_release 25 = .ok (.aload_n 2, 1) := by decide +kernel
theorem dX8_release_26 : decode cX8_release 26 = .ok (.getfield 60, 3) := by decide +kernel
theorem dX8_release_29 : decode cX8_release 29 = .ok (.ireturn, 1) := by decide +kernel
theorem dX8_keepSilence_0 : decode cX8_keepSilence 0 = .ok (.aload_n 0, 1) := by decide +kernel
theorem dX8_keepSilence_1 : decode cX8_keepSilence 1 = .ok (.iload_n 1, 1) := by decide +kernel
theorem dX8_keepSilence_2 : decode cX8_keepSilence 2 = .ok (.putfield 75, 3) := by decide +kernel
theorem dX8_keepSilence_5 : decode cX8_keepSilence 5 = .ok (.aload_n 0, 1) := by decide +kernel
theorem dX8_keepSilence_6 : decode cX8_keepSilence 6 = .ok (.iload_n 2, 1) := by decide +kernel
theorem dX8_keepSilence_7 : decode cX8_keepSilence 7 = .ok (.putfield 78, 3) := by decide +kernel
theorem dX8_keepSilence_10 : decode cX8_keepSilence 10 = .ok (.aload_n 0, 1) := by decide +kernel
theorem dX8_keepSilence_11 : decode cX8_keepSilence 11 = .ok (.iload_n 3, 1) := by decide +kernel
theorem dX8_keepSilence_12 : decode cX8_keepSilence 12 = .ok (.putfield 81, 3) := by decide +kernel
theorem dX8_keepSilence_15 : decode cX8_keepSilence 15 = .ok (.return_, 1) := by decide +kernel
theorem dX8_silenceNow_0 : decode cX8_silenceNow 0 = .ok (.aload_n 0, 1) := by decide +kernel
theorem dX8_silenceNow_1 : decode cX8_silenceNow 1 = .ok (.getfield 22, 3) := by decide +kernel
theorem dX8_silenceNow_4 : decode cX8_silenceNow 4 = .ok (.bipush 60, 2) := by decide +kernel
theorem dX8_silenceNow_6 : decode cX8_silenceNow 6 = .ok (.idiv, 1) := by decide +kernel
theorem dX8_silenceNow_7 : decode cX8_silenceNow 7 = .ok (.aload_n 0, 1) := by decide +kernel
theorem dX8_silenceNow_8 : decode cX8_silenceNow 8 = .ok (.getfield 75, 3) := by decide +kernel
theorem dX8_silenceNow_11 : decode cX8_silenceNow 11 = .ok (.isub, 1) := by decide +kernel
theorem dX8_silenceNow_12 : decode cX8_silenceNow 12 = .ok (.bipush 24, 2) := by decide +kernel
theorem dX8_silenceNow_14 : decode cX8_silenceNow 14 = .ok (.invokestatic 84, 3) := by decide +kernel
