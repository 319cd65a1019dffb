theorem dX7_init_0 : decode cX7_init 0 = .ok (.aload_n 0, 1) := by decide +kernel
theorem dX7_init_1 : decode cX7_init 1 = .ok (.invokespecial 1, 3) := by decide +kernel
theorem dX7_init_4 : decode cX7_init 4 = .ok (.aload_n 0, 1) := by decide +kernel
theorem dX7_init_5 : decode cX7_init 5 = .ok (.bipush 10, 2) := by decide +kernel
theorem dX7_init_7 : decode cX7_init 7 = .ok (.newarray .int, 2) := by decide +kernel
theorem dX7_init_9 : decode cX7_init 9 = .ok (.putfield 7, 3) := by decide +kernel
theorem dX7_init_12 : decode cX7_init 12 = .ok (.aload_n 0, 1) := by decide +kernel
theorem dX7_init_13 : decode cX7_init 13 = .ok (.bipush 10, 2) := by decide +kernel
theorem dX7_init_15 : decode cX7_init 15 = .ok (.newarray .int, 2) := by decide +kernel
theorem dX7_init_17 : decode cX7_init 17 = .ok (.putfield 13, 3) := by decide +kernel
theorem dX7_init_20 : decode cX7_init 20 = .ok (.aload_n 0, 1) := by decide +kernel
theorem dX7_init_21 : decode cX7_init 21 = .ok (.bipush 10, 2) := by decide +kernel
theorem dX7_init_23 : decode cX7_init 23 = .ok (.newarray .int, 2) := by decide +kernel
theorem dX7_init_25 : decode cX7_init 25 = .ok (.putfield 16, 3) := by decide +kernel
theorem dX7_init_28 : decode cX7_init 28 = .ok (.aload_n 0, 1) := by decide +kernel
theorem dX7_init_29 : decode cX7_init 29 = .ok (.bipush 10, 2) := by decide +kernel
theorem dX7_init_31 : decode cX7_init 31 = .ok (.newarray .int, 2) := by decide +kernel
theorem dX7_init_33 : decode cX7_init 33 = .ok (.putfield 19, 3) := by decide +kernel
theorem dX7_init_36 : decode cX7_init 36 = .ok (.aload_n 0, 1) := by decide +kernel
theorem dX7_init_37 : decode cX7_init 37 = .ok (.bipush 10, 2) := by decide +kernel
theorem dX7_init_39 : decode cX7_init 39 = .ok (.newarray .int, 2) := by decide +kernel
theorem dX7_init_41 : decode cX7_init 41 = .ok (.putfield 22, 3) := by decide +kernel
theorem dX7_init_44 : decode cX7_init 44 = .ok (.aload_n 0, 1) := by decide +kernel
theorem dX7_init_45 : decode cX7_init 45 = .ok (.bipush 10, 2) := by decide +kernel
theorem dX7_init_47 : decode cX7_init 47 = .ok (.newarray .long, 2) := by decide +kernel
theorem dX7_init_49 : decode cX7_init 49 = .ok (.putfield 25, 3) := by decide +kernel
theorem dX7_init_52 : decode cX7_init 52 = .ok (.aload_n 0, 1) := by decide +kernel
theorem dX7_init_53 : decode cX7_init 53 = .ok (.bipush 6, 2) := by decide +kernel
theorem dX7_init_55 : decode cX7_init 55 = .ok (.newarray .int, 2) := by decide +kernel
theorem dX7_init_57 : decode cX7_init 57 = .ok (.putfield 29, 3) := by decide +kernel
theorem dX7_init_60 : decode cX7_init 60 = .ok (.aload_n 0, 1) := by decide +kernel
theorem dX7_init_61 : decode cX7_init 61 = .ok (.bipush 60, 2) := by decide +kernel
theorem dX7_init_63 : decode cX7_init 63 = .ok (.newarray .int, 2) := by decide +kernel
theorem dX7_init_65 : decode cX7_init 65 = .ok (.putfield 32, 3) := by decide +kernel
theorem dX7_init_68 : decode cX7_init 68 = .ok (.aload_n 0, 1) := by decide +kernel
theorem dX7_init_69 : decode cX7_init 69 = .ok (.bipush 6, 2) := by decide +kernel
theorem dX7_init_71 : decode cX7_init 71 = .ok (.newarray .int, 2) := by decide +kernel
theorem dX7_init_73 : decode cX7_init 73 = .ok (.putfield 35, 3) := by decide +kernel
theorem dX7_init_76 : decode cX7_init 76 = .ok (.aload_n 0, 1) := by decide +kernel
theorem dX7_init_77 : decode cX7_init 77 = .ok (.bipush 6, 2) := by decide +kernel
theorem dX7_init_79 : decode cX7_init 79 = .ok (.newarray .int, 2) := by decide +kernel
theorem dX7_init_81 : decode cX7_init 81 = .ok (.putfield 38, 3) := by decide +kernel
theorem dX7_init_84 : decode cX7_init 84 = .ok (.aload_n 0, 1) := by decide +kernel
theorem dX7_init_85 : decode cX7_init 85 = .ok (.bipush 6, 2) := by decide +kernel
theorem dX7_init_87 : decode cX7_init 87 = .ok (.newarray .int, 2) := by decide +kernel
theorem dX7_init_89 : decode cX7_init 89 = .ok (.putfield 41, 3) := by decide +kernel
theorem dX7_init_92 : decode cX7_init 92 = .ok (.aload_n 0, 1) := by decide +kernel
theorem dX7_init_93 : decode cX7_init 93 = .ok (.sipush 12000, 3) := by decide +kernel
theorem dX7_init_96 : decode cX7_init 96 = .ok (.newarray .int, 2) := by decide +kernel
theorem dX7_init_98 : decode cX7_init 98 = .ok (.putfield 44, 3) := by decide +kernel
theorem dX7_init_101 : decode cX7_init 101 = .ok (.aload_n 0, 1) := by decide +kernel
theorem dX7_init_102 : decode cX7_init 102 = .ok (.bipush 8, 2) := by decide +kernel
theorem dX7_init_104 : decode cX7_init 104 = .ok (.newarray .int, 2) := by decide +kernel
theorem dX7_init_106 : decode cX7_init 106 = .ok (.putfield 47, 3) := by decide +kernel
theorem dX7_init_109 : decode cX7_init 109 = .ok (.aload_n 0, 1) := by decide +kernel
theorem dX7_init_110 : decode cX7_init 110 = .ok (.bipush 8, 2) := by decide +kernel
theorem dX7_init_112 : decode cX7_init 112 = .ok (.newarray .boolean, 2) := by decide +kernel
theorem dX7_init_114 : decode cX7_init 114 = .ok (.putfield 50, 3) := by decide +kernel
theorem dX7_init_117 : decode cX7_init 117 = .ok (.aload_n 0, 1) := by decide +kernel
theorem dX7_init_118 : decode cX7_init 118 = .ok (.bipush 8, 2) := by decide +kernel
theorem dX7_init_120 : decode cX7_init 120 = .ok (.newarray .int, 2) := by decide +kernel
theorem dX7_init_122 : decode cX7_init 122 = .ok (.putfield 54, 3) := by decide +kernel
theorem dX7_init_125 : decode cX7_init 125 = .ok (.aload_n 0, 1) := by decide +kernel
theorem dX7_init_126 : decode cX7_init 126 = .ok (.sipush 16000, 3) := by decide +kernel
theorem dX7_init_129 : decode cX7_init 129 = .ok (.newarray .int, 2) := by decide +kernel
theorem dX7_init_131 : decode cX7_init 131 = .ok (.putfield 57, 3) := by decide +kernel
theorem dX7_init_134 : decode cX7_init 134 = .ok (.aload_n 0, 1) := by decide +kernel
theorem dX7_init_135 : decode cX7_init 135 = .ok (.bipush 10, 2) := by decide +kernel
theorem dX7_init_137 : decode cX7_init 137 = .ok (.newarray .int, 2) := by decide +kernel
theorem dX7_init_139 : decode cX7_init 139 = .ok (.putfield 60, 3) := by decide +kernel
theorem dX7_init_142 : decode cX7_init 142 = .ok (.aload_n 0, 1) := by decide +kernel
theorem dX7_init_143 : decode cX7_init 143 = .ok (.bipush 10, 2) := by decide +kernel
theorem dX7_init_145 : decode cX7_init 145 = .ok (.newarray .int, 2) := by decide +kernel
theorem dX7_init_147 : decode cX7_init 147 = .ok (.putfield 63, 3) := by decide +kernel
theorem dX7_init_150 : decode cX7_init 150 = .ok (.return_, 1) := by decide +kernel
theorem dX7_thrown_0 : decode cX7_thrown 0 = .ok (.aload_n 0, 1) := by decide +kernel
theorem dX7_thrown_1 : decode cX7_thrown 1 = .ok (.getfield 66, 3) := by decide +kernel
theorem dX7_thrown_4 : decode cX7_thrown 4 = .ok (.ireturn, 1) := by decide +kernel
theorem dX7_in_0 : decode cX7_in 0 = .ok (.iload_n 0, 1) := by decide +kernel
theorem dX7_in_1 : decode cX7_in 1 = .ok (.iload_n 1, 1) := by decide +kernel
theorem dX7_in_2 : decode cX7_in 2 = .ok (.if_icmp .lt 12, 3) := by decide +kernel
theorem dX7_in_5 : decode cX7_in 5 = .ok (.iload_n 0, 1) := by decide +kernel
theorem dX7_in_6 : decode cX7_in 6 = .ok (.iload_n 2, 1) := by decide +kernel
theorem dX7_in_7 : decode cX7_in 7 = .ok (.if_icmp .gt 7, 3) := by decide +kernel
theorem dX7_in_10 : decode cX7_in 10 = .ok (.iconst 1, 1) := by decide +kernel
theorem dX7_in_11 : decode cX7_in 11 = .ok (.goto 4, 3) := by decide +kernel
theorem dX7_in_14 : decode cX7_in 14 = .ok (.iconst 0, 1) := by decide +kernel
theorem dX7_in_15 : decode cX7_in 15 = .ok (.ireturn, 1) := by decide +kernel
theorem dX7_fails_0 : decode cX7_fails 0 = .ok (.aload_n 0, 1) := by decide +kernel
theorem dX7_fails_1 : decode cX7_fails 1 = .ok (.iload_n 1, 1) := by decide +kernel
theorem dX7_fails_2 : decode cX7_fails 2 = .ok (.putfield 66, 3) := by decide +kernel
theorem dX7_fails_5 : decode cX7_fails 5 = .ok (.iconst 0, 1) := by decide +kernel
theorem dX7_fails_6 : decode cX7_fails 6 = .ok (.ireturn, 1) := by decide +kernel
theorem dX7_isPerson_0 : decode cX7_isPerson 0 = .ok (.iload_n 1, 1) := by decide +kernel
theorem dX7_isPerson_1 : decode cX7_isPerson 1 = .ok (.iconst 0, 1) := by decide +kernel
theorem dX7_isPerson_2 : decode cX7_isPerson 2 = .ok (.aload_n 0, 1) := by decide +kernel
theorem dX7_isPerson_3 : decode cX7_isPerson 3 = .ok (.getfield 70, 3) := by decide +kernel
theorem dX7_isPerson_6 : decode cX7_isPerson 6 = .ok (.iconst 1, 1) := by decide +kernel
theorem dX7_isPerson_7 : decode cX7_isPerson 7 = .ok (.isub, 1) := by decide +kernel
theorem dX7_isPerson_8 : decode cX7_isPerson 8 = .ok (.invokestatic 73, 3) := by decide +kernel
theorem dX7_isPerson_11 : decode cX7_isPerson 11 = .ok (.ireturn, 1) := by decide +kernel
theorem dX7_isRoom_0 : decode cX7_isRoom 0 = .ok (.iload_n 1, 1) := by decide +kernel
theorem dX7_isRoom_1 : decode cX7_isRoom 1 = .ok (.iconst 0, 1) := by decide +kernel
theorem dX7_isRoom_2 : decode cX7_isRoom 2 = .ok (.aload_n 0, 1) := by decide +kernel
theorem dX7_isRoom_3 : decode cX7_isRoom 3 = .ok (.getfield 77, 3) := by decide +kernel
theorem dX7_isRoom_6 : decode cX7_isRoom 6 = .ok (.iconst 1, 1) := by decide +kernel
theorem dX7_isRoom_7 : decode cX7_isRoom 7 = .ok (.isub, 1) := by decide +kernel
theorem dX7_isRoom_8 : decode cX7_isRoom 8 = .ok (.invokestatic 73, 3) := by decide +kernel
theorem dX7_isRoom_11 : decode cX7_isRoom 11 = .ok (.ireturn, 1) := by decide +kernel
theorem dX7_isRecorder_0 : decode cX7_isRecorder 0 = .ok (.iload_n 1, 1) := by decide +kernel
theorem dX7_isRecorder_1 : decode cX7_isRecorder 1 = .ok (.iconst 0, 1) := by decide +kernel
theorem dX7_isRecorder_2 : decode cX7_isRecorder 2 = .ok (.aload_n 0, 1) := by decide +kernel
theorem dX7_isRecorder_3 : decode cX7_isRecorder 3 = .ok (.getfield 80, 3) := by decide +kernel
theorem dX7_isRecorder_6 : decode cX7_isRecorder 6 = .ok (.iconst 1, 1) := by decide +kernel
theorem dX7_isRecorder_7 : decode cX7_isRecorder 7 = .ok (.isub, 1) := by decide +kernel
theorem dX7_isRecorder_8 : decode cX7_isRecorder 8 = .ok (.invokestatic 73, 3) := by decide +kernel
theorem dX7_isRecorder_11 : decode cX7_isRecorder 11 = .ok (.ireturn, 1) := by decide +kernel
theorem dX7_goesIn_0 : decode cX7_goesIn 0 = .ok (.aload_n 0, 1) := by decide +kernel
theorem dX7_goesIn_1 : decode cX7_goesIn 1 = .ok (.getfield 32, 3) := by decide +kernel
theorem dX7_goesIn_4 : decode cX7_goesIn 4 = .ok (.bipush 10, 2) := by decide +kernel
theorem dX7_goesIn_6 : decode cX7_goesIn 6 = .ok (.iload_n 2, 1) := by decide +kernel
theorem dX7_goesIn_7 : decode cX7_goesIn 7 = .ok (.imul, 1) := by decide +kernel
theorem dX7_goesIn_8 : decode cX7_goesIn 8 = .ok (.aload_n 0, 1) := by decide +kernel
theorem dX7_goesIn_9 : decode cX7_goesIn 9 = .ok (.getfield 29, 3) := by decide +kernel
theorem dX7_goesIn_12 : decode cX7_goesIn 12 = .ok (.iload_n 2, 1) := by decide +kernel
theorem dX7_goesIn_13 : decode cX7_goesIn 13 = .ok (.iaload, 1) := by decide +kernel
theorem dX7_goesIn_14 : decode cX7_goesIn 14 = .ok (.iadd, 1) := by decide +kernel
theorem dX7_goesIn_15 : decode cX7_goesIn 15 = .ok (.iload_n 1, 1) := by decide +kernel
theorem dX7_goesIn_16 : decode cX7_goesIn 16 = .ok (.iastore, 1) := by decide +kernel
theorem dX7_goesIn_17 : decode cX7_goesIn 17 = .ok (.aload_n 0, 1) := by decide +kernel
theorem dX7_goesIn_18 : decode cX7_goesIn 18 = .ok (.getfield 29, 3) := by decide +kernel
theorem dX7_goesIn_21 : decode cX7_goesIn 21 = .ok (.iload_n 2, 1) := by decide +kernel
theorem dX7_goesIn_22 : decode cX7_goesIn 22 = .ok (.dup2, 1) := by decide +kernel
theorem dX7_goesIn_23 : decode cX7_goesIn 23 = .ok (.iaload, 1) := by decide +kernel
theorem dX7_goesIn_24 : decode cX7_goesIn 24 = .ok (.iconst 1, 1) := by decide +kernel
theorem dX7_goesIn_25 : decode cX7_goesIn 25 = .ok (.iadd, 1) := by decide +kernel
theorem dX7_goesIn_26 : decode cX7_goesIn 26 = .ok (.iastore, 1) := by decide +kernel
theorem dX7_goesIn_27 : decode cX7_goesIn 27 = .ok (.aload_n 0, 1) := by decide +kernel
theorem dX7_goesIn_28 : decode cX7_goesIn 28 = .ok (.getfield 19, 3) := by decide +kernel
theorem dX7_goesIn_31 : decode cX7_goesIn 31 = .ok (.iload_n 1, 1) := by decide +kernel
theorem dX7_goesIn_32 : decode cX7_goesIn 32 = .ok (.iload_n 2, 1) := by decide +kernel
theorem dX7_goesIn_33 : decode cX7_goesIn 33 = .ok (.iastore, 1) := by decide +kernel
theorem dX7_goesIn_34 : decode cX7_goesIn 34 = .ok (.return_, 1) := by decide +kernel
theorem dX7_goesOut_0 : decode cX7_goesOut 0 = .ok (.aload_n 0, 1) := by decide +kernel
theorem dX7_goesOut_1 : decode cX7_goesOut 1 = .ok (.getfield 19, 3) := by decide +kernel
theorem dX7_goesOut_4 : decode cX7_goesOut 4 = .ok (.iload_n 1, 1) := by decide +kernel
theorem dX7_goesOut_5 : decode cX7_goesOut 5 = .ok (.iaload, 1) := by decide +kernel
theorem dX7_goesOut_6 : decode cX7_goesOut 6 = .ok (.istore_n 2, 1) := by decide +kernel
theorem dX7_goesOut_7 : decode cX7_goesOut 7 = .ok (.iconst 0, 1) := by decide +kernel
theorem dX7_goesOut_8 : decode cX7_goesOut 8 = .ok (.istore_n 3, 1) := by decide +kernel
theorem dX7_goesOut_9 : decode cX7_goesOut 9 = .ok (.aload_n 0, 1) := by decide +kernel
theorem dX7_goesOut_10 : decode cX7_goesOut 10 = .ok (.getfield 32, 3) := by decide +kernel
theorem dX7_goesOut_13 : decode cX7_goesOut 13 = .ok (.bipush 10, 2) := by decide +kernel
theorem dX7_goesOut_15 : decode cX7_goesOut 15 = .ok (.iload_n 2, 1) := by decide +kernel
theorem dX7_goesOut_16 : decode cX7_goesOut 16 = .ok (.imul, 1) := by decide +kernel
theorem dX7_goesOut_17 : decode cX7_goesOut 17 = .ok (.iload_n 3, 1) := by decide +kernel
theorem dX7_goesOut_18 : decode cX7_goesOut 18 = .ok (.iadd, 1) := by decide +kernel
theorem dX7_goesOut_19 : decode cX7_goesOut 19 = .ok (.iaload, 1) := by decide +kernel
theorem dX7_goesOut_20 : decode cX7_goesOut 20 = .ok (.iload_n 1, 1) := by decide +kernel
theorem dX7_goesOut_21 : decode cX7_goesOut 21 = .ok (.if_icmp .eq 9, 3) := by decide +kernel
theorem dX7_goesOut_24 : decode cX7_goesOut 24 = .ok (.iinc 3 1, 3) := by decide +kernel
theorem dX7_goesOut_27 : decode cX7_goesOut 27 = .ok (.goto (-18), 3) := by decide +kernel
theorem dX7_goesOut_30 : decode cX7_goesOut 30 = .ok (.iload_n 3, 1) := by decide +kernel
theorem dX7_goesOut_31 : decode cX7_goesOut 31 = .ok (.istore 4, 2) := by decide +kernel
theorem dX7_goesOut_33 : decode cX7_goesOut 33 = .ok (.iload 4, 2) := by decide +kernel
theorem dX7_goesOut_35 : decode cX7_goesOut 35 = .ok (.iconst 1, 1) := by decide +kernel
theorem dX7_goesOut_36 : decode cX7_goesOut 36 = .ok (.iadd, 1) := by decide +kernel
theorem dX7_goesOut_37 : decode cX7_goesOut 37 = .ok (.aload_n 0, 1) := by decide +kernel
theorem dX7_goesOut_38 : decode cX7_goesOut 38 = .ok (.getfield 29, 3) := by decide +kernel
theorem dX7_goesOut_41 : decode cX7_goesOut 41 = .ok (.iload_n 2, 1) := by decide +kernel
theorem dX7_goesOut_42 : decode cX7_goesOut 42 = .ok (.iaload, 1) := by decide +kernel
theorem dX7_goesOut_43 : decode cX7_goesOut 43 = .ok (.if_icmp .ge 35, 3) := by decide +kernel
theorem dX7_goesOut_46 : decode cX7_goesOut 46 = .ok (.aload_n 0, 1) := by decide +kernel
theorem dX7_goesOut_47 : decode cX7_goesOut 47 = .ok (.getfield 32, 3) := by decide +kernel
theorem dX7_goesOut_50 : decode cX7_goesOut 50 = .ok (.bipush 10, 2) := by decide +kernel
theorem dX7_goesOut_52 : decode cX7_goesOut 52 = .ok (.iload_n 2, 1) := by decide +kernel
theorem dX7_goesOut_53 : decode cX7_goesOut 53 = .ok (.imul, 1) := by decide +kernel
theorem dX7_goesOut_54 : decode cX7_goesOut 54 = .ok (.iload 4, 2) := by decide +kernel
theorem dX7_goesOut_56 : decode cX7_goesOut 56 = .ok (.iadd, 1) := by decide +kernel
theorem dX7_goesOut_57 : decode cX7_goesOut 57 = .ok (.aload_n 0, 1) := by decide +kernel
theorem dX7_goesOut_58 : decode cX7_goesOut 58 = .ok (.getfield 32, 3) := by decide +kernel
theorem dX7_goesOut_61 : decode cX7_goesOut 61 = .ok (.bipush 10, 2) := by decide +kernel
theorem dX7_goesOut_63 : decode cX7_goesOut 63 = .ok (.iload_n 2, 1) := by decide +kernel
theorem dX7_goesOut_64 : decode cX7_goesOut 64 = .ok (.imul, 1) := by decide +kernel
theorem dX7_goesOut_65 : decode cX7_goesOut 65 = .ok (.iload 4, 2) := by decide +kernel
theorem dX7_goesOut_67 : decode cX7_goesOut 67 = .ok (.iadd, 1) := by decide +kernel
theorem dX7_goesOut_68 : decode cX7_goesOut 68 = .ok (.iconst 1, 1) := by decide +kernel
theorem dX7_goesOut_69 : decode cX7_goesOut 69 = .ok (.iadd, 1) := by decide +kernel
theorem dX7_goesOut_70 : decode cX7_goesOut 70 = .ok (.iaload, 1) := by decide +kernel
theorem dX7_goesOut_71 : decode cX7_goesOut 71 = .ok (.iastore, 1) := by decide +kernel
theorem dX7_goesOut_72 : decode cX7_goesOut 72 = .ok (.iinc 4 1, 3) := by decide +kernel
theorem dX7_goesOut_75 : decode cX7_goesOut 75 = .ok (.goto (-42), 3) := by decide +kernel
theorem dX7_goesOut_78 : decode cX7_goesOut 78 = .ok (.aload_n 0, 1) := by decide +kernel
theorem dX7_goesOut_79 : decode cX7_goesOut 79 = .ok (.getfield 29, 3) := by decide +kernel
theorem dX7_goesOut_82 : decode cX7_goesOut 82 = .ok (.iload_n 2, 1) := by decide +kernel
theorem dX7_goesOut_83 : decode cX7_goesOut 83 = .ok (.dup2, 1) := by decide +kernel
theorem dX7_goesOut_84 : decode cX7_goesOut 84 = .ok (.iaload, 1) := by decide +kernel
theorem dX7_goesOut_85 : decode cX7_goesOut 85 = .ok (.iconst 1, 1) := by decide +kernel
theorem dX7_goesOut_86 : decode cX7_goesOut 86 = .ok (.isub, 1) := by decide +kernel
theorem dX7_goesOut_87 : decode cX7_goesOut 87 = .ok (.iastore, 1) := by decide +kernel
theorem dX7_goesOut_88 : decode cX7_goesOut 88 = .ok (.aload_n 0, 1) := by decide +kernel
theorem dX7_goesOut_89 : decode cX7_goesOut 89 = .ok (.getfield 19, 3) := by decide +kernel
theorem dX7_goesOut_92 : decode cX7_goesOut 92 = .ok (.iload_n 1, 1) := by decide +kernel
theorem dX7_goesOut_93 : decode cX7_goesOut 93 = .ok (.iconst (-1), 1) := by decide +kernel
theorem dX7_goesOut_94 : decode cX7_goesOut 94 = .ok (.iastore, 1) := by decide +kernel
theorem dX7_goesOut_95 : decode cX7_goesOut 95 = .ok (.aload_n 0, 1) := by decide +kernel
theorem dX7_goesOut_96 : decode cX7_goesOut 96 = .ok (.getfield 35, 3) := by decide +kernel
theorem dX7_goesOut_99 : decode cX7_goesOut 99 = .ok (.iload_n 2, 1) := by decide +kernel
theorem dX7_goesOut_100 : decode cX7_goesOut 100 = .ok (.aload_n 0, 1) := by decide +kernel
theorem dX7_goesOut_101 : decode cX7_goesOut 101 = .ok (.getfield 35, 3) := by decide +kernel
theorem dX7_goesOut_104 : decode cX7_goesOut 104 = .ok (.iload_n 2, 1) := by decide +kernel
theorem dX7_goesOut_105 : decode cX7_goesOut 105 = .ok (.iaload, 1) := by decide +kernel
theorem dX7_goesOut_106 : decode cX7_goesOut 106 = .ok (.iload_n 1, 1) := by decide +kernel
theorem dX7_goesOut_107 : decode cX7_goesOut 107 = .ok (.if_icmp .ne 7, 3) := by decide +kernel
theorem dX7_goesOut_110 : decode cX7_goesOut 110 = .ok (.iconst (-1), 1) := by decide +kernel
theorem dX7_goesOut_111 : decode cX7_goesOut 111 = .ok (.goto 9, 3) := by decide +kernel
theorem dX7_goesOut_114 : decode cX7_goesOut 114 = .ok (.aload_n 0, 1) := by decide +kernel
theorem dX7_goesOut_115 : decode cX7_goesOut 115 = .ok (.getfield 35, 3) := by decide +kernel
theorem dX7_goesOut_118 : decode cX7_goesOut 118 = .ok (.iload_n 2, 1) := by decide +kernel
theorem dX7_goesOut_119 : decode cX7_goesOut 119 = .ok (.iaload, 1) := by decide +kernel
theorem dX7_goesOut_120 : decode cX7_goesOut 120 = .ok (.iastore, 1) := by decide +kernel
theorem dX7_goesOut_121 : decode cX7_goesOut 121 = .ok (.aload_n 0, 1) := by decide +kernel
theorem dX7_goesOut_122 : decode cX7_goesOut 122 = .ok (.getfield 41, 3) := by decide +kernel
theorem dX7_goesOut_125 : decode cX7_goesOut 125 = .ok (.iload_n 2, 1) := by decide +kernel
theorem dX7_goesOut_126 : decode cX7_goesOut 126 = .ok (.aload_n 0, 1) := by decide +kernel
theorem dX7_goesOut_127 : decode cX7_goesOut 127 = .ok (.getfield 38, 3) := by decide +kernel
theorem dX7_goesOut_130 : decode cX7_goesOut 130 = .ok (.iload_n 2, 1) := by decide +kernel
theorem dX7_goesOut_131 : decode cX7_goesOut 131 = .ok (.iaload, 1) := by decide +kernel
theorem dX7_goesOut_132 : decode cX7_goesOut 132 = .ok (.iload_n 1, 1) := by decide +kernel
theorem dX7_goesOut_133 : decode cX7_goesOut 133 = .ok (.if_icmp .ne 7, 3) := by decide +kernel
theorem dX7_goesOut_136 : decode cX7_goesOut 136 = .ok (.iconst 0, 1) := by decide +kernel
theorem dX7_goesOut_137 : decode cX7_goesOut 137 = .ok (.goto 9, 3) := by decide +kernel
theorem dX7_goesOut_140 : decode cX7_goesOut 140 = .ok (.aload_n 0, 1) := by decide +kernel
theorem dX7_goesOut_141 : decode cX7_goesOut 141 = .ok (.getfield 41, 3) := by decide +kernel
theorem dX7_goesOut_144 : decode cX7_goesOut 144 = .ok (.iload_n 2, 1) := by decide +kernel
theorem dX7_goesOut_145 : decode cX7_goesOut 145 = .ok (.iaload, 1) := by decide +kernel
theorem dX7_goesOut_146 : decode cX7_goesOut 146 = .ok (.iastore, 1) := by decide +kernel
theorem dX7_goesOut_147 : decode cX7_goesOut 147 = .ok (.aload_n 0, 1) := by decide +kernel
theorem dX7_goesOut_148 : decode cX7_goesOut 148 = .ok (.getfield 38, 3) := by decide +kernel
theorem dX7_goesOut_151 : decode cX7_goesOut 151 = .ok (.iload_n 2, 1) := by decide +kernel
theorem dX7_goesOut_152 : decode cX7_goesOut 152 = .ok (.aload_n 0, 1) := by decide +kernel
theorem dX7_goesOut_153 : decode cX7_goesOut 153 = .ok (.getfield 38, 3) := by decide +kernel
theorem dX7_goesOut_156 : decode cX7_goesOut 156 = .ok (.iload_n 2, 1) := by decide +kernel
theorem dX7_goesOut_157 : decode cX7_goesOut 157 = .ok (.iaload, 1) := by decide +kernel
theorem dX7_goesOut_158 : decode cX7_goesOut 158 = .ok (.iload_n 1, 1) := by decide +kernel
theorem dX7_goesOut_159 : decode cX7_goesOut 159 = .ok (.if_icmp .ne 7, 3) := by decide +kernel
theorem dX7_goesOut_162 : decode cX7_goesOut 162 = .ok (.iconst (-1), 1) := by decide +kernel
theorem dX7_goesOut_163 : decode cX7_goesOut 163 = .ok (.goto 9, 3) := by decide +kernel
theorem dX7_goesOut_166 : decode cX7_goesOut 166 = .ok (.aload_n 0, 1) := by decide +kernel
theorem dX7_goesOut_167 : decode cX7_goesOut 167 = .ok (.getfield 38, 3) := by decide +kernel
theorem dX7_goesOut_170 : decode cX7_goesOut 170 = .ok (.iload_n 2, 1) := by decide +kernel
theorem dX7_goesOut_171 : decode cX7_goesOut 171 = .ok (.iaload, 1) := by decide +kernel
theorem dX7_goesOut_172 : decode cX7_goesOut 172 = .ok (.iastore, 1) := by decide +kernel
theorem dX7_goesOut_173 : decode cX7_goesOut 173 = .ok (.return_, 1) := by decide +kernel
theorem dX7_endsPins_0 : decode cX7_endsPins 0 = .ok (.iconst 0, 1) := by decide +kernel
theorem dX7_endsPins_1 : decode cX7_endsPins 1 = .ok (.istore_n 1, 1) := by decide +kernel
theorem dX7_endsPins_2 : decode cX7_endsPins 2 = .ok (.iload_n 1, 1) := by decide +kernel
theorem dX7_endsPins_3 : decode cX7_endsPins 3 = .ok (.aload_n 0, 1) := by decide +kernel
theorem dX7_endsPins_4 : decode cX7_endsPins 4 = .ok (.getfield 70, 3) := by decide +kernel
theorem dX7_endsPins_7 : decode cX7_endsPins 7 = .ok (.if_icmp .ge 75, 3) := by decide +kernel
theorem dX7_endsPins_10 : decode cX7_endsPins 10 = .ok (.aload_n 0, 1) := by decide +kernel
theorem dX7_endsPins_11 : decode cX7_endsPins 11 = .ok (.getfield 22, 3) := by decide +kernel
theorem dX7_endsPins_14 : decode cX7_endsPins 14 = .ok (.iload_n 1, 1) := by decide +kernel
theorem dX7_endsPins_15 : decode cX7_endsPins 15 = .ok (.iaload, 1) := by decide +kernel
theorem dX7_endsPins_16 : decode cX7_endsPins 16 = .ok (.iconst (-1), 1) := by decide +kernel
theorem dX7_endsPins_17 : decode cX7_endsPins 17 = .ok (.if_icmp .eq 37, 3) := by decide +kernel
theorem dX7_endsPins_20 : decode cX7_endsPins 20 = .ok (.aload_n 0, 1) := by decide +kernel
theorem dX7_endsPins_21 : decode cX7_endsPins 21 = .ok (.getfield 19, 3) := by decide +kernel
theorem dX7_endsPins_24 : decode cX7_endsPins 24 = .ok (.iload_n 1, 1) := by decide +kernel
theorem dX7_endsPins_25 : decode cX7_endsPins 25 = .ok (.iaload, 1) := by decide +kernel
theorem dX7_endsPins_26 : decode cX7_endsPins 26 = .ok (.iconst (-1), 1) := by decide +kernel
theorem dX7_endsPins_27 : decode cX7_endsPins 27 = .ok (.if_icmp .eq 23, 3) := by decide +kernel
theorem dX7_endsPins_30 : decode cX7_endsPins 30 = .ok (.aload_n 0, 1) := by decide +kernel
theorem dX7_endsPins_31 : decode cX7_endsPins 31 = .ok (.getfield 19, 3) := by decide +kernel
theorem dX7_endsPins_34 : decode cX7_endsPins 34 = .ok (.iload_n 1, 1) := by decide +kernel
theorem dX7_endsPins_35 : decode cX7_endsPins 35 = .ok (.iaload, 1) := by decide +kernel
theorem dX7_endsPins_36 : decode cX7_endsPins 36 = .ok (.aload_n 0, 1) := by decide +kernel
theorem dX7_endsPins_37 : decode cX7_endsPins 37 = .ok (.getfield 19, 3) := by decide +kernel
theorem dX7_endsPins_40 : decode cX7_endsPins 40 = .ok (.aload_n 0, 1) := by decide +kernel
theorem dX7_endsPins_41 : decode cX7_endsPins 41 = .ok (.getfield 22, 3) := by decide +kernel
theorem dX7_endsPins_44 : decode cX7_endsPins 44 = .ok (.iload_n 1, 1) := by decide +kernel
theorem dX7_endsPins_45 : decode cX7_endsPins 45 = .ok (.iaload, 1) := by decide +kernel
theorem dX7_endsPins_46 : decode cX7_endsPins 46 = .ok (.iaload, 1) := by decide +kernel
theorem dX7_endsPins_47 : decode cX7_endsPins 47 = .ok (.if_icmp .eq 7, 3) := by decide +kernel
theorem dX7_endsPins_50 : decode cX7_endsPins 50 = .ok (.iconst 1, 1) := by decide +kernel
theorem dX7_endsPins_51 : decode cX7_endsPins 51 = .ok (.goto 4, 3) := by decide +kernel
theorem dX7_endsPins_54 : decode cX7_endsPins 54 = .ok (.iconst 0, 1) := by decide +kernel
theorem dX7_endsPins_55 : decode cX7_endsPins 55 = .ok (.istore_n 2, 1) := by decide +kernel
theorem dX7_endsPins_56 : decode cX7_endsPins 56 = .ok (.aload_n 0, 1) := by decide +kernel
theorem dX7_endsPins_57 : decode cX7_endsPins 57 = .ok (.getfield 22, 3) := by decide +kernel
theorem dX7_endsPins_60 : decode cX7_endsPins 60 = .ok (.iload_n 1, 1) := by decide +kernel
theorem dX7_endsPins_61 : decode cX7_endsPins 61 = .ok (.iload_n 2, 1) := by decide +kernel
theorem dX7_endsPins_62 : decode cX7_endsPins 62 = .ok (.ifCond .eq 7, 3) := by decide +kernel
theorem dX7_endsPins_65 : decode cX7_endsPins 65 = .ok (.iconst (-1), 1) := by decide +kernel
theorem dX7_endsPins_66 : decode cX7_endsPins 66 = .ok (.goto 9, 3) := by decide +kernel
theorem dX7_endsPins_69 : decode cX7_endsPins 69 = .ok (.aload_n 0, 1) := by decide +kernel
theorem dX7_endsPins_70 : decode cX7_endsPins 70 = .ok (.getfield 22, 3) := by decide +kernel
theorem dX7_endsPins_73 : decode cX7_endsPins 73 = .ok (.iload_n 1, 1) := by decide +kernel
theorem dX7_endsPins_74 : decode cX7_endsPins 74 = .ok (.iaload, 1) := by decide +kernel
theorem dX7_endsPins_75 : decode cX7_endsPins 75 = .ok (.iastore, 1) := by decide +kernel
theorem dX7_endsPins_76 : decode cX7_endsPins 76 = .ok (.iinc 1 1, 3) := by decide +kernel
theorem dX7_endsPins_79 : decode cX7_endsPins 79 = .ok (.goto (-77), 3) := by decide +kernel
theorem dX7_endsPins_82 : decode cX7_endsPins 82 = .ok (.return_, 1) := by decide +kernel
theorem dX7_makesRoom_0 : decode cX7_makesRoom 0 = .ok (.aload_n 0, 1) := by decide +kernel
theorem dX7_makesRoom_1 : decode cX7_makesRoom 1 = .ok (.getfield 35, 3) := by decide +kernel
theorem dX7_makesRoom_4 : decode cX7_makesRoom 4 = .ok (.aload_n 0, 1) := by decide +kernel
theorem dX7_makesRoom_5 : decode cX7_makesRoom 5 = .ok (.getfield 77, 3) := by decide +kernel
theorem dX7_makesRoom_8 : decode cX7_makesRoom 8 = .ok (.iconst (-1), 1) := by decide +kernel
theorem dX7_makesRoom_9 : decode cX7_makesRoom 9 = .ok (.iastore, 1) := by decide +kernel
theorem dX7_makesRoom_10 : decode cX7_makesRoom 10 = .ok (.aload_n 0, 1) := by decide +kernel
theorem dX7_makesRoom_11 : decode cX7_makesRoom 11 = .ok (.getfield 38, 3) := by decide +kernel
theorem dX7_makesRoom_14 : decode cX7_makesRoom 14 = .ok (.aload_n 0, 1) := by decide +kernel
theorem dX7_makesRoom_15 : decode cX7_makesRoom 15 = .ok (.getfield 77, 3) := by decide +kernel
theorem dX7_makesRoom_18 : decode cX7_makesRoom 18 = .ok (.iconst (-1), 1) := by decide +kernel
theorem dX7_makesRoom_19 : decode cX7_makesRoom 19 = .ok (.iastore, 1) := by decide +kernel
theorem dX7_makesRoom_20 : decode cX7_makesRoom 20 = .ok (.aload_n 0, 1) := by decide +kernel
theorem dX7_makesRoom_21 : decode cX7_makesRoom 21 = .ok (.dup, 1) := by decide +kernel
theorem dX7_makesRoom_22 : decode cX7_makesRoom 22 = .ok (.getfield 77, 3) := by decide +kernel
theorem dX7_makesRoom_25 : decode cX7_makesRoom 25 = .ok (.iconst 1, 1) := by decide +kernel
theorem dX7_makesRoom_26 : decode cX7_makesRoom 26 = .ok (.iadd, 1) := by decide +kernel
theorem dX7_makesRoom_27 : decode cX7_makesRoom 27 = .ok (.putfield 77, 3) := by decide +kernel
theorem dX7_makesRoom_30 : decode cX7_makesRoom 30 = .ok (.aload_n 0, 1) := by decide +kernel
theorem dX7_makesRoom_31 : decode cX7_makesRoom 31 = .ok (.getfield 77, 3) := by decide +kernel
theorem dX7_makesRoom_34 : decode cX7_makesRoom 34 = .ok (.iconst 1, 1) := by decide +kernel
theorem dX7_makesRoom_35 : decode cX7_makesRoom 35 = .ok (.isub, 1) := by decide +kernel
theorem dX7_makesRoom_36 : decode cX7_makesRoom 36 = .ok (.ireturn, 1) := by decide +kernel
theorem dX7_addPerson_0 : decode cX7_addPerson 0 = .ok (.aload_n 0, 1) := by decide +kernel
theorem dX7_addPerson_1 : decode cX7_addPerson 1 = .ok (.iconst 0, 1) := by decide +kernel
theorem dX7_addPerson_2 : decode cX7_addPerson 2 = .ok (.putfield 66, 3) := by decide +kernel
theorem dX7_addPerson_5 : decode cX7_addPerson 5 = .ok (.iload_n 1, 1) := by decide +kernel
theorem dX7_addPerson_6 : decode cX7_addPerson 6 = .ok (.iconst 0, 1) := by decide +kernel
theorem dX7_addPerson_7 : decode cX7_addPerson 7 = .ok (.sipush 9999, 3) := by decide +kernel
theorem dX7_addPerson_10 : decode cX7_addPerson 10 = .ok (.invokestatic 73, 3) := by decide +kernel
theorem dX7_addPerson_13 : decode cX7_addPerson 13 = .ok (.ifCond .ne 9, 3) := by decide +kernel
theorem dX7_addPerson_16 : decode cX7_addPerson 16 = .ok (.aload_n 0, 1) := by decide +kernel
theorem dX7_addPerson_17 : decode cX7_addPerson 17 = .ok (.iconst 1, 1) := by decide +kernel
theorem dX7_addPerson_18 : decode cX7_addPerson 18 = .ok (.invokevirtual 83, 3) := by decide +kernel
theorem dX7_addPerson_21 : decode cX7_addPerson 21 = .ok (.ireturn, 1) := by decide +kernel
theorem dX7_addPerson_22 : decode cX7_addPerson 22 = .ok (.aload_n 0, 1) := by decide +kernel
theorem dX7_addPerson_23 : decode cX7_addPerson 23 = .ok (.getfield 70, 3) := by decide +kernel
theorem dX7_addPerson_26 : decode cX7_addPerson 26 = .ok (.bipush 10, 2) := by decide +kernel
theorem dX7_addPerson_28 : decode cX7_addPerson 28 = .ok (.if_icmp .ne 9, 3) := by decide +kernel
theorem dX7_addPerson_31 : decode cX7_addPerson 31 = .ok (.aload_n 0, 1) := by decide +kernel
theorem dX7_addPerson_32 : decode cX7_addPerson 32 = .ok (.iconst 2, 1) := by decide +kernel
theorem dX7_addPerson_33 : decode cX7_addPerson 33 = .ok (.invokevirtual 83, 3) := by decide +kernel
theorem dX7_addPerson_36 : decode cX7_addPerson 36 = .ok (.ireturn, 1) := by decide +kernel
theorem dX7_addPerson_37 : decode cX7_addPerson 37 = .ok (.aload_n 0, 1) := by decide +kernel
theorem dX7_addPerson_38 : decode cX7_addPerson 38 = .ok (.getfield 7, 3) := by decide +kernel
theorem dX7_addPerson_41 : decode cX7_addPerson 41 = .ok (.aload_n 0, 1) := by decide +kernel
theorem dX7_addPerson_42 : decode cX7_addPerson 42 = .ok (.getfield 70, 3) := by decide +kernel
theorem dX7_addPerson_45 : decode cX7_addPerson 45 = .ok (.iload_n 1, 1) := by decide +kernel
theorem dX7_addPerson_46 : decode cX7_addPerson 46 = .ok (.iastore, 1) := by decide +kernel
theorem dX7_addPerson_47 : decode cX7_addPerson 47 = .ok (.aload_n 0, 1) := by decide +kernel
theorem dX7_addPerson_48 : decode cX7_addPerson 48 = .ok (.getfield 19, 3) := by decide +kernel
theorem dX7_addPerson_51 : decode cX7_addPerson 51 = .ok (.aload_n 0, 1) := by decide +kernel
theorem dX7_addPerson_52 : decode cX7_addPerson 52 = .ok (.getfield 70, 3) := by decide +kernel
theorem dX7_addPerson_55 : decode cX7_addPerson 55 = .ok (.iconst (-1), 1) := by decide +kernel
theorem dX7_addPerson_56 : decode cX7_addPerson 56 = .ok (.iastore, 1) := by decide +kernel
theorem dX7_addPerson_57 : decode cX7_addPerson 57 = .ok (.aload_n 0, 1) := by decide +kernel
theorem dX7_addPerson_58 : decode cX7_addPerson 58 = .ok (.getfield 22, 3) := by decide +kernel
theorem dX7_addPerson_61 : decode cX7_addPerson 61 = .ok (.aload_n 0, 1) := by decide +kernel
theorem dX7_addPerson_62 : decode cX7_addPerson 62 = .ok (.getfield 70, 3) := by decide +kernel
theorem dX7_addPerson_65 : decode cX7_addPerson 65 = .ok (.iconst (-1), 1) := by decide +kernel
theorem dX7_addPerson_66 : decode cX7_addPerson 66 = .ok (.iastore, 1) := by decide +kernel
theorem dX7_addPerson_67 : decode cX7_addPerson 67 = .ok (.aload_n 0, 1) := by decide +kernel
theorem dX7_addPerson_68 : decode cX7_addPerson 68 = .ok (.dup, 1) := by decide +kernel
theorem dX7_addPerson_69 : decode cX7_addPerson 69 = .ok (.getfield 70, 3) := by decide +kernel
theorem dX7_addPerson_72 : decode cX7_addPerson 72 = .ok (.iconst 1, 1) := by decide +kernel
theorem dX7_addPerson_73 : decode cX7_addPerson 73 = .ok (.iadd, 1) := by decide +kernel
theorem dX7_addPerson_74 : decode cX7_addPerson 74 = .ok (.putfield 70, 3) := by decide +kernel
theorem dX7_addPerson_77 : decode cX7_addPerson 77 = .ok (.aload_n 0, 1) := by decide +kernel
theorem dX7_addPerson_78 : decode cX7_addPerson 78 = .ok (.getfield 70, 3) := by decide +kernel
theorem dX7_addPerson_81 : decode cX7_addPerson 81 = .ok (.iconst 1, 1) := by decide +kernel
theorem dX7_addPerson_82 : decode cX7_addPerson 82 = .ok (.isub, 1) := by decide +kernel
theorem dX7_addPerson_83 : decode cX7_addPerson 83 = .ok (.ireturn, 1) := by decide +kernel
theorem dX7_setBudget_0 : decode cX7_setBudget 0 = .ok (.aload_n 0, 1) := by decide +kernel
theorem dX7_setBudget_1 : decode cX7_setBudget 1 = .ok (.iconst 0, 1) := by decide +kernel
theorem dX7_setBudget_2 : decode cX7_setBudget 2 = .ok (.putfield 66, 3) := by decide +kernel
theorem dX7_setBudget_5 : decode cX7_setBudget 5 = .ok (.aload_n 0, 1) := by decide +kernel
theorem dX7_setBudget_6 : decode cX7_setBudget 6 = .ok (.iload_n 1, 1) := by decide +kernel
theorem dX7_setBudget_7 : decode cX7_setBudget 7 = .ok (.invokevirtual 87, 3) := by decide +kernel
theorem dX7_setBudget_10 : decode cX7_setBudget 10 = .ok (.ifCond .ne 9, 3) := by decide +kernel
theorem dX7_setBudget_13 : decode cX7_setBudget 13 = .ok (.aload_n 0, 1) := by decide +kernel
theorem dX7_setBudget_14 : decode cX7_setBudget 14 = .ok (.iconst 1, 1) := by decide +kernel
theorem dX7_setBudget_15 : decode cX7_setBudget 15 = .ok (.invokevirtual 83, 3) := by decide +kernel
theorem dX7_setBudget_18 : decode cX7_setBudget 18 = .ok (.ireturn, 1) := by decide +kernel
theorem dX7_setBudget_19 : decode cX7_setBudget 19 = .ok (.iload_n 2, 1) := by decide +kernel
theorem dX7_setBudget_20 : decode cX7_setBudget 20 = .ok (.iconst 0, 1) := by decide +kernel
theorem dX7_setBudget_21 : decode cX7_setBudget 21 = .ok (.sipush 9999, 3) := by decide +kernel
theorem dX7_setBudget_24 : decode cX7_setBudget 24 = .ok (.invokestatic 73, 3) := by decide +kernel
theorem dX7_setBudget_27 : decode cX7_setBudget 27 = .ok (.ifCond .ne 9, 3) := by decide +kernel
theorem dX7_setBudget_30 : decode cX7_setBudget 30 = .ok (.aload_n 0, 1) := by decide +kernel
theorem dX7_setBudget_31 : decode cX7_setBudget 31 = .ok (.iconst 2, 1) := by decide +kernel
theorem dX7_setBudget_32 : decode cX7_setBudget 32 = .ok (.invokevirtual 83, 3) := by decide +kernel
theorem dX7_setBudget_35 : decode cX7_setBudget 35 = .ok (.ireturn, 1) := by decide +kernel
theorem dX7_setBudget_36 : decode cX7_setBudget 36 = .ok (.aload_n 0, 1) := by decide +kernel
theorem dX7_setBudget_37 : decode cX7_setBudget 37 = .ok (.getfield 7, 3) := by decide +kernel
theorem dX7_setBudget_40 : decode cX7_setBudget 40 = .ok (.iload_n 1, 1) := by decide +kernel
theorem dX7_setBudget_41 : decode cX7_setBudget 41 = .ok (.iaload, 1) := by decide +kernel
theorem dX7_setBudget_42 : decode cX7_setBudget 42 = .ok (.istore_n 3, 1) := by decide +kernel
theorem dX7_setBudget_43 : decode cX7_setBudget 43 = .ok (.aload_n 0, 1) := by decide +kernel
theorem dX7_setBudget_44 : decode cX7_setBudget 44 = .ok (.getfield 7, 3) := by decide +kernel
theorem dX7_setBudget_47 : decode cX7_setBudget 47 = .ok (.iload_n 1, 1) := by decide +kernel
theorem dX7_setBudget_48 : decode cX7_setBudget 48 = .ok (.iload_n 2, 1) := by decide +kernel
theorem dX7_setBudget_49 : decode cX7_setBudget 49 = .ok (.iastore, 1) := by decide +kernel
theorem dX7_setBudget_50 : decode cX7_setBudget 50 = .ok (.iload_n 3, 1) := by decide +kernel
theorem dX7_setBudget_51 : decode cX7_setBudget 51 = .ok (.ireturn, 1) := by decide +kernel
theorem dX7_setSends_0 : decode cX7_setSends 0 = .ok (.aload_n 0, 1) := by decide +kernel
theorem dX7_setSends_1 : decode cX7_setSends 1 = .ok (.iconst 0, 1) := by decide +kernel
theorem dX7_setSends_2 : decode cX7_setSends 2 = .ok (.putfield 66, 3) := by decide +kernel
theorem dX7_setSends_5 : decode cX7_setSends 5 = .ok (.aload_n 0, 1) := by decide +kernel
theorem dX7_setSends_6 : decode cX7_setSends 6 = .ok (.iload_n 1, 1) := by decide +kernel
theorem dX7_setSends_7 : decode cX7_setSends 7 = .ok (.invokevirtual 87, 3) := by decide +kernel
theorem dX7_setSends_10 : decode cX7_setSends 10 = .ok (.ifCond .ne 9, 3) := by decide +kernel
theorem dX7_setSends_13 : decode cX7_setSends 13 = .ok (.aload_n 0, 1) := by decide +kernel
theorem dX7_setSends_14 : decode cX7_setSends 14 = .ok (.iconst 1, 1) := by decide +kernel
theorem dX7_setSends_15 : decode cX7_setSends 15 = .ok (.invokevirtual 83, 3) := by decide +kernel
theorem dX7_setSends_18 : decode cX7_setSends 18 = .ok (.ireturn, 1) := by decide +kernel
theorem dX7_setSends_19 : decode cX7_setSends 19 = .ok (.iload_n 2, 1) := by decide +kernel
theorem dX7_setSends_20 : decode cX7_setSends 20 = .ok (.iconst 0, 1) := by decide +kernel
theorem dX7_setSends_21 : decode cX7_setSends 21 = .ok (.iconst 3, 1) := by decide +kernel
theorem dX7_setSends_22 : decode cX7_setSends 22 = .ok (.invokestatic 73, 3) := by decide +kernel
theorem dX7_setSends_25 : decode cX7_setSends 25 = .ok (.ifCond .ne 9, 3) := by decide +kernel
theorem dX7_setSends_28 : decode cX7_setSends 28 = .ok (.aload_n 0, 1) := by decide +kernel
theorem dX7_setSends_29 : decode cX7_setSends 29 = .ok (.iconst 2, 1) := by decide +kernel
theorem dX7_setSends_30 : decode cX7_setSends 30 = .ok (.invokevirtual 83, 3) := by decide +kernel
theorem dX7_setSends_33 : decode cX7_setSends 33 = .ok (.ireturn, 1) := by decide +kernel
theorem dX7_setSends_34 : decode cX7_setSends 34 = .ok (.aload_n 0, 1) := by decide +kernel
theorem dX7_setSends_35 : decode cX7_setSends 35 = .ok (.getfield 13, 3) := by decide +kernel
theorem dX7_setSends_38 : decode cX7_setSends 38 = .ok (.iload_n 1, 1) := by decide +kernel
theorem dX7_setSends_39 : decode cX7_setSends 39 = .ok (.iaload, 1) := by decide +kernel
theorem dX7_setSends_40 : decode cX7_setSends 40 = .ok (.istore_n 3, 1) := by decide +kernel
theorem dX7_setSends_41 : decode cX7_setSends 41 = .ok (.aload_n 0, 1) := by decide +kernel
theorem dX7_setSends_42 : decode cX7_setSends 42 = .ok (.getfield 13, 3) := by decide +kernel
theorem dX7_setSends_45 : decode cX7_setSends 45 = .ok (.iload_n 1, 1) := by decide +kernel
theorem dX7_setSends_46 : decode cX7_setSends 46 = .ok (.iload_n 2, 1) := by decide +kernel
theorem dX7_setSends_47 : decode cX7_setSends 47 = .ok (.iastore, 1) := by decide +kernel
theorem dX7_setSends_48 : decode cX7_setSends 48 = .ok (.iload_n 3, 1) := by decide +kernel
theorem dX7_setSends_49 : decode cX7_setSends 49 = .ok (.ireturn, 1) := by decide +kernel
theorem dX7_setLoud_0 : decode cX7_setLoud 0 = .ok (.aload_n 0, 1) := by decide +kernel
theorem dX7_setLoud_1 : decode cX7_setLoud 1 = .ok (.iconst 0, 1) := by decide +kernel
theorem dX7_setLoud_2 : decode cX7_setLoud 2 = .ok (.putfield 66, 3) := by decide +kernel
theorem dX7_setLoud_5 : decode cX7_setLoud 5 = .ok (.aload_n 0, 1) := by decide +kernel
theorem dX7_setLoud_6 : decode cX7_setLoud 6 = .ok (.iload_n 1, 1) := by decide +kernel
theorem dX7_setLoud_7 : decode cX7_setLoud 7 = .ok (.invokevirtual 87, 3) := by decide +kernel
theorem dX7_setLoud_10 : decode cX7_setLoud 10 = .ok (.ifCond .ne 9, 3) := by decide +kernel
theorem dX7_setLoud_13 : decode cX7_setLoud 13 = .ok (.aload_n 0, 1) := by decide +kernel
theorem dX7_setLoud_14 : decode cX7_setLoud 14 = .ok (.iconst 1, 1) := by decide +kernel
theorem dX7_setLoud_15 : decode cX7_setLoud 15 = .ok (.invokevirtual 83, 3) := by decide +kernel
theorem dX7_setLoud_18 : decode cX7_setLoud 18 = .ok (.ireturn, 1) := by decide +kernel
theorem dX7_setLoud_19 : decode cX7_setLoud 19 = .ok (.iload_n 2, 1) := by decide +kernel
theorem dX7_setLoud_20 : decode cX7_setLoud 20 = .ok (.iconst 0, 1) := by decide +kernel
theorem dX7_setLoud_21 : decode cX7_setLoud 21 = .ok (.bipush 99, 2) := by decide +kernel
theorem dX7_setLoud_23 : decode cX7_setLoud 23 = .ok (.invokestatic 73, 3) := by decide +kernel
theorem dX7_setLoud_26 : decode cX7_setLoud 26 = .ok (.ifCond .ne 9, 3) := by decide +kernel
theorem dX7_setLoud_29 : decode cX7_setLoud 29 = .ok (.aload_n 0, 1) := by decide +kernel
theorem dX7_setLoud_30 : decode cX7_setLoud 30 = .ok (.iconst 2, 1) := by decide +kernel
theorem dX7_setLoud_31 : decode cX7_setLoud 31 = .ok (.invokevirtual 83, 3) := by decide +kernel
theorem dX7_setLoud_34 : decode cX7_setLoud 34 = .ok (.ireturn, 1) := by decide +kernel
theorem dX7_setLoud_35 : decode cX7_setLoud 35 = .ok (.aload_n 0, 1) := by decide +kernel
theorem dX7_setLoud_36 : decode cX7_setLoud 36 = .ok (.getfield 16, 3) := by decide +kernel
theorem dX7_setLoud_39 : decode cX7_setLoud 39 = .ok (.iload_n 1, 1) := by decide +kernel
theorem dX7_setLoud_40 : decode cX7_setLoud 40 = .ok (.iaload, 1) := by decide +kernel
theorem dX7_setLoud_41 : decode cX7_setLoud 41 = .ok (.istore_n 3, 1) := by decide +kernel
theorem dX7_setLoud_42 : decode cX7_setLoud 42 = .ok (.aload_n 0, 1) := by decide +kernel
theorem dX7_setLoud_43 : decode cX7_setLoud 43 = .ok (.getfield 16, 3) := by decide +kernel
theorem dX7_setLoud_46 : decode cX7_setLoud 46 = .ok (.iload_n 1, 1) := by decide +kernel
theorem dX7_setLoud_47 : decode cX7_setLoud 47 = .ok (.iload_n 2, 1) := by decide +kernel
theorem dX7_setLoud_48 : decode cX7_setLoud 48 = .ok (.iastore, 1) := by decide +kernel
theorem dX7_setLoud_49 : decode cX7_setLoud 49 = .ok (.iload_n 3, 1) := by decide +kernel
theorem dX7_setLoud_50 : decode cX7_setLoud 50 = .ok (.ireturn, 1) := by decide +kernel
theorem dX7_addRoom_0 : decode cX7_addRoom 0 = .ok (.aload_n 0, 1) := by decide +kernel
theorem dX7_addRoom_1 : decode cX7_addRoom 1 = .ok (.iconst 0, 1) := by decide +kernel
theorem dX7_addRoom_2 : decode cX7_addRoom 2 = .ok (.putfield 66, 3) := by decide +kernel
theorem dX7_addRoom_5 : decode cX7_addRoom 5 = .ok (.aload_n 0, 1) := by decide +kernel
theorem dX7_addRoom_6 : decode cX7_addRoom 6 = .ok (.getfield 77, 3) := by decide +kernel
theorem dX7_addRoom_9 : decode cX7_addRoom 9 = .ok (.bipush 6, 2) := by decide +kernel
theorem dX7_addRoom_11 : decode cX7_addRoom 11 = .ok (.if_icmp .ne 11, 3) := by decide +kernel
theorem dX7_addRoom_14 : decode cX7_addRoom 14 = .ok (.aload_n 0, 1) := by decide +kernel
theorem dX7_addRoom_15 : decode cX7_addRoom 15 = .ok (.iconst 1, 1) := by decide +kernel
theorem dX7_addRoom_16 : decode cX7_addRoom 16 = .ok (.invokevirtual 83, 3) := by decide +kernel
theorem dX7_addRoom_19 : decode cX7_addRoom 19 = .ok (.goto 7, 3) := by decide +kernel
theorem dX7_addRoom_22 : decode cX7_addRoom 22 = .ok (.aload_n 0, 1) := by decide +kernel
theorem dX7_addRoom_23 : decode cX7_addRoom 23 = .ok (.invokevirtual 91, 3) := by decide +kernel
theorem dX7_addRoom_26 : decode cX7_addRoom 26 = .ok (.ireturn, 1) := by decide +kernel
theorem dX7_enter_0 : decode cX7_enter 0 = .ok (.aload_n 0, 1) := by decide +kernel
theorem dX7_enter_1 : decode cX7_enter 1 = .ok (.iconst 0, 1) := by decide +kernel
theorem dX7_enter_2 : decode cX7_enter 2 = .ok (.putfield 66, 3) := by decide +kernel
theorem dX7_enter_5 : decode cX7_enter 5 = .ok (.aload_n 0, 1) := by decide +kernel
theorem dX7_enter_6 : decode cX7_enter 6 = .ok (.iload_n 1, 1) := by decide +kernel
theorem dX7_enter_7 : decode cX7_enter 7 = .ok (.invokevirtual 87, 3) := by decide +kernel
theorem dX7_enter_10 : decode cX7_enter 10 = .ok (.ifCond .ne 9, 3) := by decide +kernel
theorem dX7_enter_13 : decode cX7_enter 13 = .ok (.aload_n 0, 1) := by decide +kernel
theorem dX7_enter_14 : decode cX7_enter 14 = .ok (.iconst 1, 1) := by decide +kernel
theorem dX7_enter_15 : decode cX7_enter 15 = .ok (.invokevirtual 83, 3) := by decide +kernel
theorem dX7_enter_18 : decode cX7_enter 18 = .ok (.ireturn, 1) := by decide +kernel
theorem dX7_enter_19 : decode cX7_enter 19 = .ok (.aload_n 0, 1) := by decide +kernel
theorem dX7_enter_20 : decode cX7_enter 20 = .ok (.iload_n 2, 1) := by decide +kernel
theorem dX7_enter_21 : decode cX7_enter 21 = .ok (.invokevirtual 95, 3) := by decide +kernel
theorem dX7_enter_24 : decode cX7_enter 24 = .ok (.ifCond .ne 9, 3) := by decide +kernel
theorem dX7_enter_27 : decode cX7_enter 27 = .ok (.aload_n 0, 1) := by decide +kernel
theorem dX7_enter_28 : decode cX7_enter 28 = .ok (.iconst 2, 1) := by decide +kernel
theorem dX7_enter_29 : decode cX7_enter 29 = .ok (.invokevirtual 83, 3) := by decide +kernel
theorem dX7_enter_32 : decode cX7_enter 32 = .ok (.ireturn, 1) := by decide +kernel
theorem dX7_enter_33 : decode cX7_enter 33 = .ok (.aload_n 0, 1) := by decide +kernel
theorem dX7_enter_34 : decode cX7_enter 34 = .ok (.getfield 19, 3) := by decide +kernel
theorem dX7_enter_37 : decode cX7_enter 37 = .ok (.iload_n 1, 1) := by decide +kernel
theorem dX7_enter_38 : decode cX7_enter 38 = .ok (.iaload, 1) := by decide +kernel
theorem dX7_enter_39 : decode cX7_enter 39 = .ok (.iload_n 2, 1) := by decide +kernel
theorem dX7_enter_40 : decode cX7_enter 40 = .ok (.if_icmp .ne 9, 3) := by decide +kernel
theorem dX7_enter_43 : decode cX7_enter 43 = .ok (.aload_n 0, 1) := by decide +kernel
theorem dX7_enter_44 : decode cX7_enter 44 = .ok (.iconst 3, 1) := by decide +kernel
theorem dX7_enter_45 : decode cX7_enter 45 = .ok (.invokevirtual 83, 3) := by decide +kernel
theorem dX7_enter_48 : decode cX7_enter 48 = .ok (.ireturn, 1) := by decide +kernel
theorem dX7_enter_49 : decode cX7_enter 49 = .ok (.aload_n 0, 1) := by decide +kernel
theorem dX7_enter_50 : decode cX7_enter 50 = .ok (.getfield 19, 3) := by decide +kernel
theorem dX7_enter_53 : decode cX7_enter 53 = .ok (.iload_n 1, 1) := by decide +kernel
theorem dX7_enter_54 : decode cX7_enter 54 = .ok (.iaload, 1) := by decide +kernel
theorem dX7_enter_55 : decode cX7_enter 55 = .ok (.iconst (-1), 1) := by decide +kernel
theorem dX7_enter_56 : decode cX7_enter 56 = .ok (.if_icmp .eq 8, 3) := by decide +kernel
theorem dX7_enter_59 : decode cX7_enter 59 = .ok (.aload_n 0, 1) := by decide +kernel
theorem dX7_enter_60 : decode cX7_enter 60 = .ok (.iload_n 1, 1) := by decide +kernel
theorem dX7_enter_61 : decode cX7_enter 61 = .ok (.invokevirtual 98, 3) := by decide +kernel
theorem dX7_enter_64 : decode cX7_enter 64 = .ok (.aload_n 0, 1) := by decide +kernel
theorem dX7_enter_65 : decode cX7_enter 65 = .ok (.iload_n 1, 1) := by decide +kernel
theorem dX7_enter_66 : decode cX7_enter 66 = .ok (.iload_n 2, 1) := by decide +kernel
theorem dX7_enter_67 : decode cX7_enter 67 = .ok (.invokevirtual 102, 3) := by decide +kernel
theorem dX7_enter_70 : decode cX7_enter 70 = .ok (.aload_n 0, 1) := by decide +kernel
theorem dX7_enter_71 : decode cX7_enter 71 = .ok (.invokevirtual 106, 3) := by decide +kernel
theorem dX7_enter_74 : decode cX7_enter 74 = .ok (.aload_n 0, 1) := by decide +kernel
theorem dX7_enter_75 : decode cX7_enter 75 = .ok (.getfield 29, 3) := by decide +kernel
theorem dX7_enter_78 : decode cX7_enter 78 = .ok (.iload_n 2, 1) := by decide +kernel
theorem dX7_enter_79 : decode cX7_enter 79 = .ok (.iaload, 1) := by decide +kernel
theorem dX7_enter_80 : decode cX7_enter 80 = .ok (.ireturn, 1) := by decide +kernel
theorem dX7_leave_0 : decode cX7_leave 0 = .ok (.aload_n 0, 1) := by decide +kernel
theorem dX7_leave_1 : decode cX7_leave 1 = .ok (.iconst 0, 1) := by decide +kernel
theorem dX7_leave_2 : decode cX7_leave 2 = .ok (.putfield 66, 3) := by decide +kernel
theorem dX7_leave_5 : decode cX7_leave 5 = .ok (.aload_n 0, 1) := by decide +kernel
theorem dX7_leave_6 : decode cX7_leave 6 = .ok (.iload_n 1, 1) := by decide +kernel
theorem dX7_leave_7 : decode cX7_leave 7 = .ok (.invokevirtual 87, 3) := by decide +kernel
theorem dX7_leave_10 : decode cX7_leave 10 = .ok (.ifCond .ne 9, 3) := by decide +kernel
theorem dX7_leave_13 : decode cX7_leave 13 = .ok (.aload_n 0, 1) := by decide +kernel
theorem dX7_leave_14 : decode cX7_leave 14 = .ok (.iconst 1, 1) := by decide +kernel
theorem dX7_leave_15 : decode cX7_leave 15 = .ok (.invokevirtual 83, 3) := by decide +kernel
theorem dX7_leave_18 : decode cX7_leave 18 = .ok (.ireturn, 1) := by decide +kernel
theorem dX7_leave_19 : decode cX7_leave 19 = .ok (.aload_n 0, 1) := by decide +kernel
theorem dX7_leave_20 : decode cX7_leave 20 = .ok (.getfield 19, 3) := by decide +kernel
theorem dX7_leave_23 : decode cX7_leave 23 = .ok (.iload_n 1, 1) := by decide +kernel
theorem dX7_leave_24 : decode cX7_leave 24 = .ok (.iaload, 1) := by decide +kernel
theorem dX7_leave_25 : decode cX7_leave 25 = .ok (.istore_n 2, 1) := by decide +kernel
theorem dX7_leave_26 : decode cX7_leave 26 = .ok (.iload_n 2, 1) := by decide +kernel
theorem dX7_leave_27 : decode cX7_leave 27 = .ok (.iconst (-1), 1) := by decide +kernel
theorem dX7_leave_28 : decode cX7_leave 28 = .ok (.if_icmp .ne 9, 3) := by decide +kernel
theorem dX7_leave_31 : decode cX7_leave 31 = .ok (.aload_n 0, 1) := by decide +kernel
theorem dX7_leave_32 : decode cX7_leave 32 = .ok (.iconst 2, 1) := by decide +kernel
theorem dX7_leave_33 : decode cX7_leave 33 = .ok (.invokevirtual 83, 3) := by decide +kernel
theorem dX7_leave_36 : decode cX7_leave 36 = .ok (.ireturn, 1) := by decide +kernel
theorem dX7_leave_37 : decode cX7_leave 37 = .ok (.aload_n 0, 1) := by decide +kernel
theorem dX7_leave_38 : decode cX7_leave 38 = .ok (.iload_n 1, 1) := by decide +kernel
theorem dX7_leave_39 : decode cX7_leave 39 = .ok (.invokevirtual 98, 3) := by decide +kernel
theorem dX7_leave_42 : decode cX7_leave 42 = .ok (.aload_n 0, 1) := by decide +kernel
theorem dX7_leave_43 : decode cX7_leave 43 = .ok (.invokevirtual 106, 3) := by decide +kernel
theorem dX7_leave_46 : decode cX7_leave 46 = .ok (.iload_n 2, 1) := by decide +kernel
theorem dX7_leave_47 : decode cX7_leave 47 = .ok (.ireturn, 1) := by decide +kernel
theorem dX7_split_0 : decode cX7_split 0 = .ok (.aload_n 0, 1) := by decide +kernel
theorem dX7_split_1 : decode cX7_split 1 = .ok (.iconst 0, 1) := by decide +kernel
theorem dX7_split_2 : decode cX7_split 2 = .ok (.putfield 66, 3) := by decide +kernel
theorem dX7_split_5 : decode cX7_split 5 = .ok (.aload_n 0, 1) := by decide +kernel
theorem dX7_split_6 : decode cX7_split 6 = .ok (.iload_n 1, 1) := by decide +kernel
theorem dX7_split_7 : decode cX7_split 7 = .ok (.invokevirtual 95, 3) := by decide +kernel
theorem dX7_split_10 : decode cX7_split 10 = .ok (.ifCond .ne 9, 3) := by decide +kernel
theorem dX7_split_13 : decode cX7_split 13 = .ok (.aload_n 0, 1) := by decide +kernel
theorem dX7_split_14 : decode cX7_split 14 = .ok (.iconst 1, 1) := by decide +kernel
theorem dX7_split_15 : decode cX7_split 15 = .ok (.invokevirtual 83, 3) := by decide +kernel
theorem dX7_split_18 : decode cX7_split 18 = .ok (.ireturn, 1) := by decide +kernel
theorem dX7_split_19 : decode cX7_split 19 = .ok (.aload_n 0, 1) := by decide +kernel
theorem dX7_split_20 : decode cX7_split 20 = .ok (.getfield 29, 3) := by decide +kernel
theorem dX7_split_23 : decode cX7_split 23 = .ok (.iload_n 1, 1) := by decide +kernel
theorem dX7_split_24 : decode cX7_split 24 = .ok (.iaload, 1) := by decide +kernel
theorem dX7_split_25 : decode cX7_split 25 = .ok (.iconst 2, 1) := by decide +kernel
theorem dX7_split_26 : decode cX7_split 26 = .ok (.if_icmp .lt 12, 3) := by decide +kernel
theorem dX7_split_29 : decode cX7_split 29 = .ok (.aload_n 0, 1) := by decide +kernel
theorem dX7_split_30 : decode cX7_split 30 = .ok (.getfield 77, 3) := by decide +kernel
theorem dX7_split_33 : decode cX7_split 33 = .ok (.bipush 6, 2) := by decide +kernel
theorem dX7_split_35 : decode cX7_split 35 = .ok (.if_icmp .ne 9, 3) := by decide +kernel
theorem dX7_split_38 : decode cX7_split 38 = .ok (.aload_n 0, 1) := by decide +kernel
theorem dX7_split_39 : decode cX7_split 39 = .ok (.iconst 2, 1) := by decide +kernel
theorem dX7_split_40 : decode cX7_split 40 = .ok (.invokevirtual 83, 3) := by decide +kernel
theorem dX7_split_43 : decode cX7_split 43 = .ok (.ireturn, 1) := by decide +kernel
theorem dX7_split_44 : decode cX7_split 44 = .ok (.aload_n 0, 1) := by decide +kernel
theorem dX7_split_45 : decode cX7_split 45 = .ok (.invokevirtual 91, 3) := by decide +kernel
theorem dX7_split_48 : decode cX7_split 48 = .ok (.istore_n 2, 1) := by decide +kernel
theorem dX7_split_49 : decode cX7_split 49 = .ok (.aload_n 0, 1) := by decide +kernel
theorem dX7_split_50 : decode cX7_split 50 = .ok (.getfield 29, 3) := by decide +kernel
theorem dX7_split_53 : decode cX7_split 53 = .ok (.iload_n 1, 1) := by decide +kernel
theorem dX7_split_54 : decode cX7_split 54 = .ok (.iaload, 1) := by decide +kernel
theorem dX7_split_55 : decode cX7_split 55 = .ok (.iconst 2, 1) := by decide +kernel
theorem dX7_split_56 : decode cX7_split 56 = .ok (.idiv, 1) := by decide +kernel
theorem dX7_split_57 : decode cX7_split 57 = .ok (.istore_n 3, 1) := by decide +kernel
theorem dX7_split_58 : decode cX7_split 58 = .ok (.iconst 0, 1) := by decide +kernel
theorem dX7_split_59 : decode cX7_split 59 = .ok (.istore 4, 2) := by decide +kernel
theorem dX7_split_61 : decode cX7_split 61 = .ok (.iload 4, 2) := by decide +kernel
theorem dX7_split_63 : decode cX7_split 63 = .ok (.iload_n 3, 1) := by decide +kernel
theorem dX7_split_64 : decode cX7_split 64 = .ok (.if_icmp .ge 38, 3) := by decide +kernel
theorem dX7_split_67 : decode cX7_split 67 = .ok (.aload_n 0, 1) := by decide +kernel
theorem dX7_split_68 : decode cX7_split 68 = .ok (.getfield 32, 3) := by decide +kernel
theorem dX7_split_71 : decode cX7_split 71 = .ok (.bipush 10, 2) := by decide +kernel
theorem dX7_split_73 : decode cX7_split 73 = .ok (.iload_n 1, 1) := by decide +kernel
theorem dX7_split_74 : decode cX7_split 74 = .ok (.imul, 1) := by decide +kernel
theorem dX7_split_75 : decode cX7_split 75 = .ok (.iload 4, 2) := by decide +kernel
theorem dX7_split_77 : decode cX7_split 77 = .ok (.iadd, 1) := by decide +kernel
theorem dX7_split_78 : decode cX7_split 78 = .ok (.iconst 1, 1) := by decide +kernel
theorem dX7_split_79 : decode cX7_split 79 = .ok (.iadd, 1) := by decide +kernel
theorem dX7_split_80 : decode cX7_split 80 = .ok (.iaload, 1) := by decide +kernel
theorem dX7_split_81 : decode cX7_split 81 = .ok (.istore 5, 2) := by decide +kernel
theorem dX7_split_83 : decode cX7_split 83 = .ok (.aload_n 0, 1) := by decide +kernel
theorem dX7_split_84 : decode cX7_split 84 = .ok (.iload 5, 2) := by decide +kernel
theorem dX7_split_86 : decode cX7_split 86 = .ok (.invokevirtual 98, 3) := by decide +kernel
theorem dX7_split_89 : decode cX7_split 89 = .ok (.aload_n 0, 1) := by decide +kernel
theorem dX7_split_90 : decode cX7_split 90 = .ok (.iload 5, 2) := by decide +kernel
theorem dX7_split_92 : decode cX7_split 92 = .ok (.iload_n 2, 1) := by decide +kernel
theorem dX7_split_93 : decode cX7_split 93 = .ok (.invokevirtual 102, 3) := by decide +kernel
theorem dX7_split_96 : decode cX7_split 96 = .ok (.iinc 4 1, 3) := by decide +kernel
theorem dX7_split_99 : decode cX7_split 99 = .ok (.goto (-38), 3) := by decide +kernel
theorem dX7_split_102 : decode cX7_split 102 = .ok (.aload_n 0, 1) := by decide +kernel
theorem dX7_split_103 : decode cX7_split 103 = .ok (.invokevirtual 106, 3) := by decide +kernel
theorem dX7_split_106 : decode cX7_split 106 = .ok (.iload_n 2, 1) := by decide +kernel
theorem dX7_split_107 : decode cX7_split 107 = .ok (.ireturn, 1) := by decide +kernel
theorem dX7_join_0 : decode cX7_join 0 = .ok (.aload_n 0, 1) := by decide +kernel
theorem dX7_join_1 : decode cX7_join 1 = .ok (.iconst 0, 1) := by decide +kernel
theorem dX7_join_2 : decode cX7_join 2 = .ok (.putfield 66, 3) := by decide +kernel
theorem dX7_join_5 : decode cX7_join 5 = .ok (.aload_n 0, 1) := by decide +kernel
theorem dX7_join_6 : decode cX7_join 6 = .ok (.iload_n 1, 1) := by decide +kernel
theorem dX7_join_7 : decode cX7_join 7 = .ok (.invokevirtual 95, 3) := by decide +kernel
theorem dX7_join_10 : decode cX7_join 10 = .ok (.ifCond .eq 11, 3) := by decide +kernel
theorem dX7_join_13 : decode cX7_join 13 = .ok (.aload_n 0, 1) := by decide +kernel
theorem dX7_join_14 : decode cX7_join 14 = .ok (.iload_n 2, 1) := by decide +kernel
theorem dX7_join_15 : decode cX7_join 15 = .ok (.invokevirtual 95, 3) := by decide +kernel
theorem dX7_join_18 : decode cX7_join 18 = .ok (.ifCond .ne 9, 3) := by decide +kernel
theorem dX7_join_21 : decode cX7_join 21 = .ok (.aload_n 0, 1) := by decide +kernel
theorem dX7_join_22 : decode cX7_join 22 = .ok (.iconst 1, 1) := by decide +kernel
theorem dX7_join_23 : decode cX7_join 23 = .ok (.invokevirtual 83, 3) := by decide +kernel
theorem dX7_join_26 : decode cX7_join 26 = .ok (.ireturn, 1) := by decide +kernel
theorem dX7_join_27 : decode cX7_join 27 = .ok (.iload_n 1, 1) := by decide +kernel
theorem dX7_join_28 : decode cX7_join 28 = .ok (.iload_n 2, 1) := by decide +kernel
theorem dX7_join_29 : decode cX7_join 29 = .ok (.if_icmp .ne 9, 3) := by decide +kernel
theorem dX7_join_32 : decode cX7_join 32 = .ok (.aload_n 0, 1) := by decide +kernel
theorem dX7_join_33 : decode cX7_join 33 = .ok (.iconst 2, 1) := by decide +kernel
theorem dX7_join_34 : decode cX7_join 34 = .ok (.invokevirtual 83, 3) := by decide +kernel
theorem dX7_join_37 : decode cX7_join 37 = .ok (.ireturn, 1) := by decide +kernel
theorem dX7_join_38 : decode cX7_join 38 = .ok (.aload_n 0, 1) := by decide +kernel
theorem dX7_join_39 : decode cX7_join 39 = .ok (.getfield 29, 3) := by decide +kernel
theorem dX7_join_42 : decode cX7_join 42 = .ok (.iload_n 1, 1) := by decide +kernel
theorem dX7_join_43 : decode cX7_join 43 = .ok (.iaload, 1) := by decide +kernel
theorem dX7_join_44 : decode cX7_join 44 = .ok (.ifCond .le 27, 3) := by decide +kernel
theorem dX7_join_47 : decode cX7_join 47 = .ok (.aload_n 0, 1) := by decide +kernel
theorem dX7_join_48 : decode cX7_join 48 = .ok (.getfield 32, 3) := by decide +kernel
theorem dX7_join_51 : decode cX7_join 51 = .ok (.bipush 10, 2) := by decide +kernel
theorem dX7_join_53 : decode cX7_join 53 = .ok (.iload_n 1, 1) := by decide +kernel
theorem dX7_join_54 : decode cX7_join 54 = .ok (.imul, 1) := by decide +kernel
theorem dX7_join_55 : decode cX7_join 55 = .ok (.iaload, 1) := by decide +kernel
theorem dX7_join_56 : decode cX7_join 56 = .ok (.istore_n 3, 1) := by decide +kernel
theorem dX7_join_57 : decode cX7_join 57 = .ok (.aload_n 0, 1) := by decide +kernel
theorem dX7_join_58 : decode cX7_join 58 = .ok (.iload_n 3, 1) := by decide +kernel
theorem dX7_join_59 : decode cX7_join 59 = .ok (.invokevirtual 98, 3) := by decide +kernel
theorem dX7_join_62 : decode cX7_join 62 = .ok (.aload_n 0, 1) := by decide +kernel
theorem dX7_join_63 : decode cX7_join 63 = .ok (.iload_n 3, 1) := by decide +kernel
theorem dX7_join_64 : decode cX7_join 64 = .ok (.iload_n 2, 1) := by decide +kernel
theorem dX7_join_65 : decode cX7_join 65 = .ok (.invokevirtual 102, 3) := by decide +kernel
theorem dX7_join_68 : decode cX7_join 68 = .ok (.goto (-30), 3) := by decide +kernel
theorem dX7_join_71 : decode cX7_join 71 = .ok (.iconst 0, 1) := by decide +kernel
theorem dX7_join_72 : decode cX7_join 72 = .ok (.istore_n 3, 1) := by decide +kernel
theorem dX7_join_73 : decode cX7_join 73 = .ok (.iload_n 3, 1) := by decide +kernel
theorem dX7_join_74 : decode cX7_join 74 = .ok (.aload_n 0, 1) := by decide +kernel
theorem dX7_join_75 : decode cX7_join 75 = .ok (.getfield 80, 3) := by decide +kernel
theorem dX7_join_78 : decode cX7_join 78 = .ok (.if_icmp .ge 35, 3) := by decide +kernel
theorem dX7_join_81 : decode cX7_join 81 = .ok (.aload_n 0, 1) := by decide +kernel
theorem dX7_join_82 : decode cX7_join 82 = .ok (.getfield 47, 3) := by decide +kernel
theorem dX7_join_85 : decode cX7_join 85 = .ok (.iload_n 3, 1) := by decide +kernel
theorem dX7_join_86 : decode cX7_join 86 = .ok (.aload_n 0, 1) := by decide +kernel
theorem dX7_join_87 : decode cX7_join 87 = .ok (.getfield 47, 3) := by decide +kernel
theorem dX7_join_90 : decode cX7_join 90 = .ok (.iload_n 3, 1) := by decide +kernel
theorem dX7_join_91 : decode cX7_join 91 = .ok (.iaload, 1) := by decide +kernel
theorem dX7_join_92 : decode cX7_join 92 = .ok (.iload_n 1, 1) := by decide +kernel
theorem dX7_join_93 : decode cX7_join 93 = .ok (.if_icmp .ne 7, 3) := by decide +kernel
theorem dX7_join_96 : decode cX7_join 96 = .ok (.iload_n 2, 1) := by decide +kernel
theorem dX7_join_97 : decode cX7_join 97 = .ok (.goto 9, 3) := by decide +kernel
theorem dX7_join_100 : decode cX7_join 100 = .ok (.aload_n 0, 1) := by decide +kernel
theorem dX7_join_101 : decode cX7_join 101 = .ok (.getfield 47, 3) := by decide +kernel
theorem dX7_join_104 : decode cX7_join 104 = .ok (.iload_n 3, 1) := by decide +kernel
theorem dX7_join_105 : decode cX7_join 105 = .ok (.iaload, 1) := by decide +kernel
theorem dX7_join_106 : decode cX7_join 106 = .ok (.iastore, 1) := by decide +kernel
theorem dX7_join_107 : decode cX7_join 107 = .ok (.iinc 3 1, 3) := by decide +kernel
theorem dX7_join_110 : decode cX7_join 110 = .ok (.goto (-37), 3) := by decide +kernel
theorem dX7_join_113 : decode cX7_join 113 = .ok (.aload_n 0, 1) := by decide +kernel
theorem dX7_join_114 : decode cX7_join 114 = .ok (.invokevirtual 106, 3) := by decide +kernel
theorem dX7_join_117 : decode cX7_join 117 = .ok (.aload_n 0, 1) := by decide +kernel
theorem dX7_join_118 : decode cX7_join 118 = .ok (.getfield 29, 3) := by decide +kernel
theorem dX7_join_121 : decode cX7_join 121 = .ok (.iload_n 2, 1) := by decide +kernel
theorem dX7_join_122 : decode cX7_join 122 = .ok (.iaload, 1) := by decide +kernel
theorem dX7_join_123 : decode cX7_join 123 = .ok (.ireturn, 1) := by decide +kernel
theorem dX7_pin_0 : decode cX7_pin 0 = .ok (.aload_n 0, 1) := by decide +kernel
theorem dX7_pin_1 : decode cX7_pin 1 = .ok (.iconst 0, 1) := by decide +kernel
theorem dX7_pin_2 : decode cX7_pin 2 = .ok (.putfield 66, 3) := by decide +kernel
theorem dX7_pin_5 : decode cX7_pin 5 = .ok (.aload_n 0, 1) := by decide +kernel
theorem dX7_pin_6 : decode cX7_pin 6 = .ok (.iload_n 1, 1) := by decide +kernel
theorem dX7_pin_7 : decode cX7_pin 7 = .ok (.invokevirtual 87, 3) := by decide +kernel
theorem dX7_pin_10 : decode cX7_pin 10 = .ok (.ifCond .eq 11, 3) := by decide +kernel
theorem dX7_pin_13 : decode cX7_pin 13 = .ok (.aload_n 0, 1) := by decide +kernel
theorem dX7_pin_14 : decode cX7_pin 14 = .ok (.iload_n 2, 1) := by decide +kernel
theorem dX7_pin_15 : decode cX7_pin 15 = .ok (.invokevirtual 87, 3) := by decide +kernel
theorem dX7_pin_18 : decode cX7_pin 18 = .ok (.ifCond .ne 9, 3) := by decide +kernel
theorem dX7_pin_21 : decode cX7_pin 21 = .ok (.aload_n 0, 1) := by decide +kernel
theorem dX7_pin_22 : decode cX7_pin 22 = .ok (.iconst 1, 1) := by decide +kernel
theorem dX7_pin_23 : decode cX7_pin 23 = .ok (.invokevirtual 83, 3) := by decide +kernel
theorem dX7_pin_26 : decode cX7_pin 26 = .ok (.ireturn, 1) := by decide +kernel
theorem dX7_pin_27 : decode cX7_pin 27 = .ok (.iload_n 1, 1) := by decide +kernel
theorem dX7_pin_28 : decode cX7_pin 28 = .ok (.iload_n 2, 1) := by decide +kernel
theorem dX7_pin_29 : decode cX7_pin 29 = .ok (.if_icmp .ne 9, 3) := by decide +kernel
theorem dX7_pin_32 : decode cX7_pin 32 = .ok (.aload_n 0, 1) := by decide +kernel
theorem dX7_pin_33 : decode cX7_pin 33 = .ok (.iconst 2, 1) := by decide +kernel
theorem dX7_pin_34 : decode cX7_pin 34 = .ok (.invokevirtual 83, 3) := by decide +kernel
theorem dX7_pin_37 : decode cX7_pin 37 = .ok (.ireturn, 1) := by decide +kernel
theorem dX7_pin_38 : decode cX7_pin 38 = .ok (.aload_n 0, 1) := by decide +kernel
theorem dX7_pin_39 : decode cX7_pin 39 = .ok (.getfield 19, 3) := by decide +kernel
theorem dX7_pin_42 : decode cX7_pin 42 = .ok (.iload_n 1, 1) := by decide +kernel
theorem dX7_pin_43 : decode cX7_pin 43 = .ok (.iaload, 1) := by decide +kernel
theorem dX7_pin_44 : decode cX7_pin 44 = .ok (.iconst (-1), 1) := by decide +kernel
theorem dX7_pin_45 : decode cX7_pin 45 = .ok (.if_icmp .eq 18, 3) := by decide +kernel
theorem dX7_pin_48 : decode cX7_pin 48 = .ok (.aload_n 0, 1) := by decide +kernel
theorem dX7_pin_49 : decode cX7_pin 49 = .ok (.getfield 19, 3) := by decide +kernel
theorem dX7_pin_52 : decode cX7_pin 52 = .ok (.iload_n 1, 1) := by decide +kernel
theorem dX7_pin_53 : decode cX7_pin 53 = .ok (.iaload, 1) := by decide +kernel
theorem dX7_pin_54 : decode cX7_pin 54 = .ok (.aload_n 0, 1) := by decide +kernel
theorem dX7_pin_55 : decode cX7_pin 55 = .ok (.getfield 19, 3) := by decide +kernel
theorem dX7_pin_58 : decode cX7_pin 58 = .ok (.iload_n 2, 1) := by decide +kernel
theorem dX7_pin_59 : decode cX7_pin 59 = .ok (.iaload, 1) := by decide +kernel
theorem dX7_pin_60 : decode cX7_pin 60 = .ok (.if_icmp .eq 9, 3) := by decide +kernel
theorem dX7_pin_63 : decode cX7_pin 63 = .ok (.aload_n 0, 1) := by decide +kernel
theorem dX7_pin_64 : decode cX7_pin 64 = .ok (.iconst 3, 1) := by decide +kernel
theorem dX7_pin_65 : decode cX7_pin 65 = .ok (.invokevirtual 83, 3) := by decide +kernel
theorem dX7_pin_68 : decode cX7_pin 68 = .ok (.ireturn, 1) := by decide +kernel
theorem dX7_pin_69 : decode cX7_pin 69 = .ok (.aload_n 0, 1) := by decide +kernel
theorem dX7_pin_70 : decode cX7_pin 70 = .ok (.getfield 22, 3) := by decide +kernel
theorem dX7_pin_73 : decode cX7_pin 73 = .ok (.iload_n 1, 1) := by decide +kernel
theorem dX7_pin_74 : decode cX7_pin 74 = .ok (.iaload, 1) := by decide +kernel
theorem dX7_pin_75 : decode cX7_pin 75 = .ok (.istore_n 3, 1) := by decide +kernel
theorem dX7_pin_76 : decode cX7_pin 76 = .ok (.aload_n 0, 1) := by decide +kernel
theorem dX7_pin_77 : decode cX7_pin 77 = .ok (.getfield 22, 3) := by decide +kernel
theorem dX7_pin_80 : decode cX7_pin 80 = .ok (.iload_n 1, 1) := by decide +kernel
theorem dX7_pin_81 : decode cX7_pin 81 = .ok (.iload_n 2, 1) := by decide +kernel
theorem dX7_pin_82 : decode cX7_pin 82 = .ok (.iastore, 1) := by decide +kernel
theorem dX7_pin_83 : decode cX7_pin 83 = .ok (.iload_n 3, 1) := by decide +kernel
theorem dX7_pin_84 : decode cX7_pin 84 = .ok (.ireturn, 1) := by decide +kernel
theorem dX7_unpin_0 : decode cX7_unpin 0 = .ok (.aload_n 0, 1) := by decide +kernel
theorem dX7_unpin_1 : decode cX7_unpin 1 = .ok (.iconst 0, 1) := by decide +kernel
theorem dX7_unpin_2 : decode cX7_unpin 2 = .ok (.putfield 66, 3) := by decide +kernel
theorem dX7_unpin_5 : decode cX7_unpin 5 = .ok (.aload_n 0, 1) := by decide +kernel
theorem dX7_unpin_6 : decode cX7_unpin 6 = .ok (.iload_n 1, 1) := by decide +kernel
theorem dX7_unpin_7 : decode cX7_unpin 7 = .ok (.invokevirtual 87, 3) := by decide +kernel
theorem dX7_unpin_10 : decode cX7_unpin 10 = .ok (.ifCond .ne 9, 3) := by decide +kernel
theorem dX7_unpin_13 : decode cX7_unpin 13 = .ok (.aload_n 0, 1) := by decide +kernel
theorem dX7_unpin_14 : decode cX7_unpin 14 = .ok (.iconst 1, 1) := by decide +kernel
theorem dX7_unpin_15 : decode cX7_unpin 15 = .ok (.invokevirtual 83, 3) := by decide +kernel
theorem dX7_unpin_18 : decode cX7_unpin 18 = .ok (.ireturn, 1) := by decide +kernel
theorem dX7_unpin_19 : decode cX7_unpin 19 = .ok (.aload_n 0, 1) := by decide +kernel
theorem dX7_unpin_20 : decode cX7_unpin 20 = .ok (.getfield 22, 3) := by decide +kernel
theorem dX7_unpin_23 : decode cX7_unpin 23 = .ok (.iload_n 1, 1) := by decide +kernel
theorem dX7_unpin_24 : decode cX7_unpin 24 = .ok (.iaload, 1) := by decide +kernel
theorem dX7_unpin_25 : decode cX7_unpin 25 = .ok (.iconst (-1), 1) := by decide +kernel
theorem dX7_unpin_26 : decode cX7_unpin 26 = .ok (.if_icmp .ne 9, 3) := by decide +kernel
theorem dX7_unpin_29 : decode cX7_unpin 29 = .ok (.aload_n 0, 1) := by decide +kernel
theorem dX7_unpin_30 : decode cX7_unpin 30 = .ok (.iconst 2, 1) := by decide +kernel
theorem dX7_unpin_31 : decode cX7_unpin 31 = .ok (.invokevirtual 83, 3) := by decide +kernel
theorem dX7_unpin_34 : decode cX7_unpin 34 = .ok (.ireturn, 1) := by decide +kernel
theorem dX7_unpin_35 : decode cX7_unpin 35 = .ok (.aload_n 0, 1) := by decide +kernel
theorem dX7_unpin_36 : decode cX7_unpin 36 = .ok (.getfield 22, 3) := by decide +kernel
theorem dX7_unpin_39 : decode cX7_unpin 39 = .ok (.iload_n 1, 1) := by decide +kernel
theorem dX7_unpin_40 : decode cX7_unpin 40 = .ok (.iaload, 1) := by decide +kernel
theorem dX7_unpin_41 : decode cX7_unpin 41 = .ok (.istore_n 2, 1) := by decide +kernel
theorem dX7_unpin_42 : decode cX7_unpin 42 = .ok (.aload_n 0, 1) := by decide +kernel
theorem dX7_unpin_43 : decode cX7_unpin 43 = .ok (.getfield 22, 3) := by decide +kernel
theorem dX7_unpin_46 : decode cX7_unpin 46 = .ok (.iload_n 1, 1) := by decide +kernel
theorem dX7_unpin_47 : decode cX7_unpin 47 = .ok (.iconst (-1), 1) := by decide +kernel
theorem dX7_unpin_48 : decode cX7_unpin 48 = .ok (.iastore, 1) := by decide +kernel
theorem dX7_unpin_49 : decode cX7_unpin 49 = .ok (.iload_n 2, 1) := by decide +kernel
theorem dX7_unpin_50 : decode cX7_unpin 50 = .ok (.ireturn, 1) := by decide +kernel
theorem dX7_people_0 : decode cX7_people 0 = .ok (.aload_n 0, 1) := by decide +kernel
theorem dX7_people_1 : decode cX7_people 1 = .ok (.iconst 0, 1) := by decide +kernel
theorem dX7_people_2 : decode cX7_people 2 = .ok (.putfield 66, 3) := by decide +kernel
theorem dX7_people_5 : decode cX7_people 5 = .ok (.aload_n 0, 1) := by decide +kernel
theorem dX7_people_6 : decode cX7_people 6 = .ok (.getfield 70, 3) := by decide +kernel
theorem dX7_people_9 : decode cX7_people 9 = .ok (.ireturn, 1) := by decide +kernel
theorem dX7_rooms_0 : decode cX7_rooms 0 = .ok (.aload_n 0, 1) := by decide +kernel
theorem dX7_rooms_1 : decode cX7_rooms 1 = .ok (.iconst 0, 1) := by decide +kernel
theorem dX7_rooms_2 : decode cX7_rooms 2 = .ok (.putfield 66, 3) := by decide +kernel
theorem dX7_rooms_5 : decode cX7_rooms 5 = .ok (.aload_n 0, 1) := by decide +kernel
theorem dX7_rooms_6 : decode cX7_rooms 6 = .ok (.getfield 77, 3) := by decide +kernel
theorem dX7_rooms_9 : decode cX7_rooms 9 = .ok (.ireturn, 1) := by decide +kernel
theorem dX7_roomOf_0 : decode cX7_roomOf 0 = .ok (.aload_n 0, 1) := by decide +kernel
theorem dX7_roomOf_1 : decode cX7_roomOf 1 = .ok (.iconst 0, 1) := by decide +kernel
theorem dX7_roomOf_2 : decode cX7_roomOf 2 = .ok (.putfield 66, 3) := by decide +kernel
theorem dX7_roomOf_5 : decode cX7_roomOf 5 = .ok (.aload_n 0, 1) := by decide +kernel
theorem dX7_roomOf_6 : decode cX7_roomOf 6 = .ok (.iload_n 1, 1) := by decide +kernel
theorem dX7_roomOf_7 : decode cX7_roomOf 7 = .ok (.invokevirtual 87, 3) := by decide +kernel
theorem dX7_roomOf_10 : decode cX7_roomOf 10 = .ok (.ifCond .ne 9, 3) := by decide +kernel
theorem dX7_roomOf_13 : decode cX7_roomOf 13 = .ok (.aload_n 0, 1) := by decide +kernel
theorem dX7_roomOf_14 : decode cX7_roomOf 14 = .ok (.iconst 1, 1) := by decide +kernel
theorem dX7_roomOf_15 : decode cX7_roomOf 15 = .ok (.invokevirtual 83, 3) := by decide +kernel
theorem dX7_roomOf_18 : decode cX7_roomOf 18 = .ok (.ireturn, 1) := by decide +kernel
theorem dX7_roomOf_19 : decode cX7_roomOf 19 = .ok (.aload_n 0, 1) := by decide +kernel
theorem dX7_roomOf_20 : decode cX7_roomOf 20 = .ok (.getfield 19, 3) := by decide +kernel
theorem dX7_roomOf_23 : decode cX7_roomOf 23 = .ok (.iload_n 1, 1) := by decide +kernel
theorem dX7_roomOf_24 : decode cX7_roomOf 24 = .ok (.iaload, 1) := by decide +kernel
theorem dX7_roomOf_25 : decode cX7_roomOf 25 = .ok (.iconst (-1), 1) := by decide +kernel
theorem dX7_roomOf_26 : decode cX7_roomOf 26 = .ok (.if_icmp .ne 11, 3) := by decide +kernel
theorem dX7_roomOf_29 : decode cX7_roomOf 29 = .ok (.aload_n 0, 1) := by decide +kernel
theorem dX7_roomOf_30 : decode cX7_roomOf 30 = .ok (.iconst 2, 1) := by decide +kernel
theorem dX7_roomOf_31 : decode cX7_roomOf 31 = .ok (.invokevirtual 83, 3) := by decide +kernel
theorem dX7_roomOf_34 : decode cX7_roomOf 34 = .ok (.goto 9, 3) := by decide +kernel
theorem dX7_roomOf_37 : decode cX7_roomOf 37 = .ok (.aload_n 0, 1) := by decide +kernel
theorem dX7_roomOf_38 : decode cX7_roomOf 38 = .ok (.getfield 19, 3) := by decide +kernel
theorem dX7_roomOf_41 : decode cX7_roomOf 41 = .ok (.iload_n 1, 1) := by decide +kernel
theorem dX7_roomOf_42 : decode cX7_roomOf 42 = .ok (.iaload, 1) := by decide +kernel
theorem dX7_roomOf_43 : decode cX7_roomOf 43 = .ok (.ireturn, 1) := by decide +kernel
theorem dX7_inRoom_0 : decode cX7_inRoom 0 = .ok (.aload_n 0, 1) := by decide +kernel
theorem dX7_inRoom_1 : decode cX7_inRoom 1 = .ok (.iconst 0, 1) := by decide +kernel
theorem dX7_inRoom_2 : decode cX7_inRoom 2 = .ok (.putfield 66, 3) := by decide +kernel
theorem dX7_inRoom_5 : decode cX7_inRoom 5 = .ok (.aload_n 0, 1) := by decide +kernel
theorem dX7_inRoom_6 : decode cX7_inRoom 6 = .ok (.iload_n 1, 1) := by decide +kernel
theorem dX7_inRoom_7 : decode cX7_inRoom 7 = .ok (.invokevirtual 95, 3) := by decide +kernel
theorem dX7_inRoom_10 : decode cX7_inRoom 10 = .ok (.ifCond .eq 12, 3) := by decide +kernel
theorem dX7_inRoom_13 : decode cX7_inRoom 13 = .ok (.aload_n 0, 1) := by decide +kernel
theorem dX7_inRoom_14 : decode cX7_inRoom 14 = .ok (.getfield 29, 3) := by decide +kernel
theorem dX7_inRoom_17 : decode cX7_inRoom 17 = .ok (.iload_n 1, 1) := by decide +kernel
theorem dX7_inRoom_18 : decode cX7_inRoom 18 = .ok (.iaload, 1) := by decide +kernel
theorem dX7_inRoom_19 : decode cX7_inRoom 19 = .ok (.goto 8, 3) := by decide +kernel
theorem dX7_inRoom_22 : decode cX7_inRoom 22 = .ok (.aload_n 0, 1) := by decide +kernel
theorem dX7_inRoom_23 : decode cX7_inRoom 23 = .ok (.iconst 1, 1) := by decide +kernel
theorem dX7_inRoom_24 : decode cX7_inRoom 24 = .ok (.invokevirtual 83, 3) := by decide +kernel
theorem dX7_inRoom_27 : decode cX7_inRoom 27 = .ok (.ireturn, 1) := by decide +kernel
theorem dX7_personAt_0 : decode cX7_personAt 0 = .ok (.aload_n 0, 1) := by decide +kernel
theorem dX7_personAt_1 : decode cX7_personAt 1 = .ok (.iconst 0, 1) := by decide +kernel
theorem dX7_personAt_2 : decode cX7_personAt 2 = .ok (.putfield 66, 3) := by decide +kernel
theorem dX7_personAt_5 : decode cX7_personAt 5 = .ok (.aload_n 0, 1) := by decide +kernel
theorem dX7_personAt_6 : decode cX7_personAt 6 = .ok (.iload_n 1, 1) := by decide +kernel
theorem dX7_personAt_7 : decode cX7_personAt 7 = .ok (.invokevirtual 95, 3) := by decide +kernel
theorem dX7_personAt_10 : decode cX7_personAt 10 = .ok (.ifCond .ne 9, 3) := by decide +kernel
theorem dX7_personAt_13 : decode cX7_personAt 13 = .ok (.aload_n 0, 1) := by decide +kernel
theorem dX7_personAt_14 : decode cX7_personAt 14 = .ok (.iconst 1, 1) := by decide +kernel
theorem dX7_personAt_15 : decode cX7_personAt 15 = .ok (.invokevirtual 83, 3) := by decide +kernel
theorem dX7_personAt_18 : decode cX7_personAt 18 = .ok (.ireturn, 1) := by decide +kernel
theorem dX7_personAt_19 : decode cX7_personAt 19 = .ok (.iload_n 2, 1) := by decide +kernel
theorem dX7_personAt_20 : decode cX7_personAt 20 = .ok (.iconst 0, 1) := by decide +kernel
theorem dX7_personAt_21 : decode cX7_personAt 21 = .ok (.aload_n 0, 1) := by decide +kernel
theorem dX7_personAt_22 : decode cX7_personAt 22 = .ok (.getfield 29, 3) := by decide +kernel
theorem dX7_personAt_25 : decode cX7_personAt 25 = .ok (.iload_n 1, 1) := by decide +kernel
theorem dX7_personAt_26 : decode cX7_personAt 26 = .ok (.iaload, 1) := by decide +kernel
theorem dX7_personAt_27 : decode cX7_personAt 27 = .ok (.iconst 1, 1) := by decide +kernel
theorem dX7_personAt_28 : decode cX7_personAt 28 = .ok (.isub, 1) := by decide +kernel
theorem dX7_personAt_29 : decode cX7_personAt 29 = .ok (.invokestatic 73, 3) := by decide +kernel
theorem dX7_personAt_32 : decode cX7_personAt 32 = .ok (.ifCond .eq 17, 3) := by decide +kernel
theorem dX7_personAt_35 : decode cX7_personAt 35 = .ok (.aload_n 0, 1) := by decide +kernel
theorem dX7_personAt_36 : decode cX7_personAt 36 = .ok (.getfield 32, 3) := by decide +kernel
theorem dX7_personAt_39 : decode cX7_personAt 39 = .ok (.bipush 10, 2) := by decide +kernel
theorem dX7_personAt_41 : decode cX7_personAt 41 = .ok (.iload_n 1, 1) := by decide +kernel
theorem dX7_personAt_42 : decode cX7_personAt 42 = .ok (.imul, 1) := by decide +kernel
theorem dX7_personAt_43 : decode cX7_personAt 43 = .ok (.iload_n 2, 1) := by decide +kernel
theorem dX7_personAt_44 : decode cX7_personAt 44 = .ok (.iadd, 1) := by decide +kernel
theorem dX7_personAt_45 : decode cX7_personAt 45 = .ok (.iaload, 1) := by decide +kernel
theorem dX7_personAt_46 : decode cX7_personAt 46 = .ok (.goto 8, 3) := by decide +kernel
theorem dX7_personAt_49 : decode cX7_personAt 49 = .ok (.aload_n 0, 1) := by decide +kernel
theorem dX7_personAt_50 : decode cX7_personAt 50 = .ok (.iconst 2, 1) := by decide +kernel
theorem dX7_personAt_51 : decode cX7_personAt 51 = .ok (.invokevirtual 83, 3) := by decide +kernel
theorem dX7_personAt_54 : decode cX7_personAt 54 = .ok (.ireturn, 1) := by decide +kernel
theorem dX7_candidateOf_0 : decode cX7_candidateOf 0 = .ok (.iconst (-1), 1) := by decide +kernel
theorem dX7_candidateOf_1 : decode cX7_candidateOf 1 = .ok (.istore_n 2, 1) := by decide +kernel
theorem dX7_candidateOf_2 : decode cX7_candidateOf 2 = .ok (.iconst 0, 1) := by decide +kernel
theorem dX7_candidateOf_3 : decode cX7_candidateOf 3 = .ok (.istore_n 3, 1) := by decide +kernel
theorem dX7_candidateOf_4 : decode cX7_candidateOf 4 = .ok (.iload_n 3, 1) := by decide +kernel
theorem dX7_candidateOf_5 : decode cX7_candidateOf 5 = .ok (.aload_n 0, 1) := by decide +kernel
theorem dX7_candidateOf_6 : decode cX7_candidateOf 6 = .ok (.getfield 29, 3) := by decide +kernel
theorem dX7_candidateOf_9 : decode cX7_candidateOf 9 = .ok (.iload_n 1, 1) := by decide +kernel
theorem dX7_candidateOf_10 : decode cX7_candidateOf 10 = .ok (.iaload, 1) := by decide +kernel
theorem dX7_candidateOf_11 : decode cX7_candidateOf 11 = .ok (.if_icmp .ge 62, 3) := by decide +kernel
theorem dX7_candidateOf_14 : decode cX7_candidateOf 14 = .ok (.aload_n 0, 1) := by decide +kernel
theorem dX7_candidateOf_15 : decode cX7_candidateOf 15 = .ok (.getfield 32, 3) := by decide +kernel
theorem dX7_candidateOf_18 : decode cX7_candidateOf 18 = .ok (.bipush 10, 2) := by decide +kernel
theorem dX7_candidateOf_20 : decode cX7_candidateOf 20 = .ok (.iload_n 1, 1) := by decide +kernel
theorem dX7_candidateOf_21 : decode cX7_candidateOf 21 = .ok (.imul, 1) := by decide +kernel
theorem dX7_candidateOf_22 : decode cX7_candidateOf 22 = .ok (.iload_n 3, 1) := by decide +kernel
theorem dX7_candidateOf_23 : decode cX7_candidateOf 23 = .ok (.iadd, 1) := by decide +kernel
theorem dX7_candidateOf_24 : decode cX7_candidateOf 24 = .ok (.iaload, 1) := by decide +kernel
theorem dX7_candidateOf_25 : decode cX7_candidateOf 25 = .ok (.istore 4, 2) := by decide +kernel
theorem dX7_candidateOf_27 : decode cX7_candidateOf 27 = .ok (.aload_n 0, 1) := by decide +kernel
theorem dX7_candidateOf_28 : decode cX7_candidateOf 28 = .ok (.getfield 16, 3) := by decide +kernel
theorem dX7_candidateOf_31 : decode cX7_candidateOf 31 = .ok (.iload 4, 2) := by decide +kernel
theorem dX7_candidateOf_33 : decode cX7_candidateOf 33 = .ok (.iaload, 1) := by decide +kernel
theorem dX7_candidateOf_34 : decode cX7_candidateOf 34 = .ok (.bipush 10, 2) := by decide +kernel
theorem dX7_candidateOf_36 : decode cX7_candidateOf 36 = .ok (.if_icmp .lt 29, 3) := by decide +kernel
theorem dX7_candidateOf_39 : decode cX7_candidateOf 39 = .ok (.iload_n 2, 1) := by decide +kernel
theorem dX7_candidateOf_40 : decode cX7_candidateOf 40 = .ok (.iconst (-1), 1) := by decide +kernel
theorem dX7_candidateOf_41 : decode cX7_candidateOf 41 = .ok (.if_icmp .eq 19, 3) := by decide +kernel
theorem dX7_candidateOf_44 : decode cX7_candidateOf 44 = .ok (.aload_n 0, 1) := by decide +kernel
theorem dX7_candidateOf_45 : decode cX7_candidateOf 45 = .ok (.getfield 16, 3) := by decide +kernel
theorem dX7_candidateOf_48 : decode cX7_candidateOf 48 = .ok (.iload 4, 2) := by decide +kernel
theorem dX7_candidateOf_50 : decode cX7_candidateOf 50 = .ok (.iaload, 1) := by decide +kernel
theorem dX7_candidateOf_51 : decode cX7_candidateOf 51 = .ok (.aload_n 0, 1) := by decide +kernel
theorem dX7_candidateOf_52 : decode cX7_candidateOf 52 = .ok (.getfield 16, 3) := by decide +kernel
theorem dX7_candidateOf_55 : decode cX7_candidateOf 55 = .ok (.iload_n 2, 1) := by decide +kernel
theorem dX7_candidateOf_56 : decode cX7_candidateOf 56 = .ok (.iaload, 1) := by decide +kernel
theorem dX7_candidateOf_57 : decode cX7_candidateOf 57 = .ok (.if_icmp .le 8, 3) := by decide +kernel
theorem dX7_candidateOf_60 : decode cX7_candidateOf 60 = .ok (.iload 4, 2) := by decide +kernel
theorem dX7_candidateOf_62 : decode cX7_candidateOf 62 = .ok (.goto 4, 3) := by decide +kernel
theorem dX7_candidateOf_65 : decode cX7_candidateOf 65 = .ok (.iload_n 2, 1) := by decide +kernel
theorem dX7_candidateOf_66 : decode cX7_candidateOf 66 = .ok (.istore_n 2, 1) := by decide +kernel
theorem dX7_candidateOf_67 : decode cX7_candidateOf 67 = .ok (.iinc 3 1, 3) := by decide +kernel
theorem dX7_candidateOf_70 : decode cX7_candidateOf 70 = .ok (.goto (-66), 3) := by decide +kernel
theorem dX7_candidateOf_73 : decode cX7_candidateOf 73 = .ok (.iload_n 2, 1) := by decide +kernel
theorem dX7_candidateOf_74 : decode cX7_candidateOf 74 = .ok (.ireturn, 1) := by decide +kernel
theorem dX7_becomes_0 : decode cX7_becomes 0 = .ok (.aload_n 0, 1) := by decide +kernel
theorem dX7_becomes_1 : decode cX7_becomes 1 = .ok (.getfield 35, 3) := by decide +kernel
theorem dX7_becomes_4 : decode cX7_becomes 4 = .ok (.iload_n 1, 1) := by decide +kernel
theorem dX7_becomes_5 : decode cX7_becomes 5 = .ok (.iload_n 2, 1) := by decide +kernel
theorem dX7_becomes_6 : decode cX7_becomes 6 = .ok (.iastore, 1) := by decide +kernel
theorem dX7_becomes_7 : decode cX7_becomes 7 = .ok (.aload_n 0, 1) := by decide +kernel
theorem dX7_becomes_8 : decode cX7_becomes 8 = .ok (.getfield 44, 3) := by decide +kernel
theorem dX7_becomes_11 : decode cX7_becomes 11 = .ok (.aload_n 0, 1) := by decide +kernel
theorem dX7_becomes_12 : decode cX7_becomes 12 = .ok (.getfield 109, 3) := by decide +kernel
theorem dX7_becomes_15 : decode cX7_becomes 15 = .ok (.bipush 10, 2) := by decide +kernel
theorem dX7_becomes_17 : decode cX7_becomes 17 = .ok (.iload_n 1, 1) := by decide +kernel
theorem dX7_becomes_18 : decode cX7_becomes 18 = .ok (.imul, 1) := by decide +kernel
theorem dX7_becomes_19 : decode cX7_becomes 19 = .ok (.iload_n 2, 1) := by decide +kernel
theorem dX7_becomes_20 : decode cX7_becomes 20 = .ok (.iadd, 1) := by decide +kernel
theorem dX7_becomes_21 : decode cX7_becomes 21 = .ok (.iastore, 1) := by decide +kernel
theorem dX7_becomes_22 : decode cX7_becomes 22 = .ok (.aload_n 0, 1) := by decide +kernel
theorem dX7_becomes_23 : decode cX7_becomes 23 = .ok (.dup, 1) := by decide +kernel
theorem dX7_becomes_24 : decode cX7_becomes 24 = .ok (.getfield 109, 3) := by decide +kernel
theorem dX7_becomes_27 : decode cX7_becomes 27 = .ok (.iconst 1, 1) := by decide +kernel
theorem dX7_becomes_28 : decode cX7_becomes 28 = .ok (.iadd, 1) := by decide +kernel
theorem dX7_becomes_29 : decode cX7_becomes 29 = .ok (.putfield 109, 3) := by decide +kernel
theorem dX7_becomes_32 : decode cX7_becomes 32 = .ok (.return_, 1) := by decide +kernel
theorem dX7_speaks_0 : decode cX7_speaks 0 = .ok (.aload_n 0, 1) := by decide +kernel
theorem dX7_speaks_1 : decode cX7_speaks 1 = .ok (.iload_n 1, 1) := by decide +kernel
theorem dX7_speaks_2 : decode cX7_speaks 2 = .ok (.invokevirtual 112, 3) := by decide +kernel
theorem dX7_speaks_5 : decode cX7_speaks 5 = .ok (.istore_n 2, 1) := by decide +kernel
theorem dX7_speaks_6 : decode cX7_speaks 6 = .ok (.aload_n 0, 1) := by decide +kernel
theorem dX7_speaks_7 : decode cX7_speaks 7 = .ok (.getfield 35, 3) := by decide +kernel
theorem dX7_speaks_10 : decode cX7_speaks 10 = .ok (.iload_n 1, 1) := by decide +kernel
theorem dX7_speaks_11 : decode cX7_speaks 11 = .ok (.iaload, 1) := by decide +kernel
theorem dX7_speaks_12 : decode cX7_speaks 12 = .ok (.istore_n 3, 1) := by decide +kernel
theorem dX7_speaks_13 : decode cX7_speaks 13 = .ok (.iload_n 3, 1) := by decide +kernel
theorem dX7_speaks_14 : decode cX7_speaks 14 = .ok (.iconst (-1), 1) := by decide +kernel
theorem dX7_speaks_15 : decode cX7_speaks 15 = .ok (.if_icmp .eq 34, 3) := by decide +kernel
theorem dX7_speaks_18 : decode cX7_speaks 18 = .ok (.iload_n 2, 1) := by decide +kernel
theorem dX7_speaks_19 : decode cX7_speaks 19 = .ok (.iconst (-1), 1) := by decide +kernel
theorem dX7_speaks_20 : decode cX7_speaks 20 = .ok (.if_icmp .eq 29, 3) := by decide +kernel
theorem dX7_speaks_23 : decode cX7_speaks 23 = .ok (.iload_n 2, 1) := by decide +kernel
theorem dX7_speaks_24 : decode cX7_speaks 24 = .ok (.iload_n 3, 1) := by decide +kernel
theorem dX7_speaks_25 : decode cX7_speaks 25 = .ok (.if_icmp .eq 24, 3) := by decide +kernel
theorem dX7_speaks_28 : decode cX7_speaks 28 = .ok (.aload_n 0, 1) := by decide +kernel
theorem dX7_speaks_29 : decode cX7_speaks 29 = .ok (.getfield 16, 3) := by decide +kernel
theorem dX7_speaks_32 : decode cX7_speaks 32 = .ok (.iload_n 2, 1) := by decide +kernel
theorem dX7_speaks_33 : decode cX7_speaks 33 = .ok (.iaload, 1) := by decide +kernel
theorem dX7_speaks_34 : decode cX7_speaks 34 = .ok (.aload_n 0, 1) := by decide +kernel
theorem dX7_speaks_35 : decode cX7_speaks 35 = .ok (.getfield 16, 3) := by decide +kernel
theorem dX7_speaks_38 : decode cX7_speaks 38 = .ok (.iload_n 3, 1) := by decide +kernel
theorem dX7_speaks_39 : decode cX7_speaks 39 = .ok (.iaload, 1) := by decide +kernel
theorem dX7_speaks_40 : decode cX7_speaks 40 = .ok (.iconst 5, 1) := by decide +kernel
theorem dX7_speaks_41 : decode cX7_speaks 41 = .ok (.iadd, 1) := by decide +kernel
theorem dX7_speaks_42 : decode cX7_speaks 42 = .ok (.if_icmp .lt 7, 3) := by decide +kernel
theorem dX7_speaks_45 : decode cX7_speaks 45 = .ok (.iconst 1, 1) := by decide +kernel
theorem dX7_speaks_46 : decode cX7_speaks 46 = .ok (.goto 4, 3) := by decide +kernel
theorem dX7_speaks_49 : decode cX7_speaks 49 = .ok (.iconst 0, 1) := by decide +kernel
theorem dX7_speaks_50 : decode cX7_speaks 50 = .ok (.istore 4, 2) := by decide +kernel
theorem dX7_speaks_52 : decode cX7_speaks 52 = .ok (.iload_n 3, 1) := by decide +kernel
theorem dX7_speaks_53 : decode cX7_speaks 53 = .ok (.iconst (-1), 1) := by decide +kernel
theorem dX7_speaks_54 : decode cX7_speaks 54 = .ok (.if_icmp .ne 14, 3) := by decide +kernel
theorem dX7_speaks_57 : decode cX7_speaks 57 = .ok (.iload_n 2, 1) := by decide +kernel
theorem dX7_speaks_58 : decode cX7_speaks 58 = .ok (.iconst (-1), 1) := by decide +kernel
theorem dX7_speaks_59 : decode cX7_speaks 59 = .ok (.if_icmp .eq 9, 3) := by decide +kernel
theorem dX7_speaks_62 : decode cX7_speaks 62 = .ok (.aload_n 0, 1) := by decide +kernel
theorem dX7_speaks_63 : decode cX7_speaks 63 = .ok (.iload_n 1, 1) := by decide +kernel
theorem dX7_speaks_64 : decode cX7_speaks 64 = .ok (.iload_n 2, 1) := by decide +kernel
theorem dX7_speaks_65 : decode cX7_speaks 65 = .ok (.invokevirtual 115, 3) := by decide +kernel
theorem dX7_speaks_68 : decode cX7_speaks 68 = .ok (.aload_n 0, 1) := by decide +kernel
theorem dX7_speaks_69 : decode cX7_speaks 69 = .ok (.getfield 41, 3) := by decide +kernel
theorem dX7_speaks_72 : decode cX7_speaks 72 = .ok (.iload_n 1, 1) := by decide +kernel
theorem dX7_speaks_73 : decode cX7_speaks 73 = .ok (.iload 4, 2) := by decide +kernel
theorem dX7_speaks_75 : decode cX7_speaks 75 = .ok (.ifCond .ne 7, 3) := by decide +kernel
theorem dX7_speaks_78 : decode cX7_speaks 78 = .ok (.iconst 0, 1) := by decide +kernel
theorem dX7_speaks_79 : decode cX7_speaks 79 = .ok (.goto 25, 3) := by decide +kernel
theorem dX7_speaks_82 : decode cX7_speaks 82 = .ok (.aload_n 0, 1) := by decide +kernel
theorem dX7_speaks_83 : decode cX7_speaks 83 = .ok (.getfield 38, 3) := by decide +kernel
theorem dX7_speaks_86 : decode cX7_speaks 86 = .ok (.iload_n 1, 1) := by decide +kernel
theorem dX7_speaks_87 : decode cX7_speaks 87 = .ok (.iaload, 1) := by decide +kernel
theorem dX7_speaks_88 : decode cX7_speaks 88 = .ok (.iload_n 2, 1) := by decide +kernel
theorem dX7_speaks_89 : decode cX7_speaks 89 = .ok (.if_icmp .ne 14, 3) := by decide +kernel
theorem dX7_speaks_92 : decode cX7_speaks 92 = .ok (.aload_n 0, 1) := by decide +kernel
theorem dX7_speaks_93 : decode cX7_speaks 93 = .ok (.getfield 41, 3) := by decide +kernel
theorem dX7_speaks_96 : decode cX7_speaks 96 = .ok (.iload_n 1, 1) := by decide +kernel
theorem dX7_speaks_97 : decode cX7_speaks 97 = .ok (.iaload, 1) := by decide +kernel
theorem dX7_speaks_98 : decode cX7_speaks 98 = .ok (.iconst 1, 1) := by decide +kernel
theorem dX7_speaks_99 : decode cX7_speaks 99 = .ok (.iadd, 1) := by decide +kernel
theorem dX7_speaks_100 : decode cX7_speaks 100 = .ok (.goto 4, 3) := by decide +kernel
theorem dX7_speaks_103 : decode cX7_speaks 103 = .ok (.iconst 1, 1) := by decide +kernel
theorem dX7_speaks_104 : decode cX7_speaks 104 = .ok (.iastore, 1) := by decide +kernel
theorem dX7_speaks_105 : decode cX7_speaks 105 = .ok (.aload_n 0, 1) := by decide +kernel
theorem dX7_speaks_106 : decode cX7_speaks 106 = .ok (.getfield 38, 3) := by decide +kernel
theorem dX7_speaks_109 : decode cX7_speaks 109 = .ok (.iload_n 1, 1) := by decide +kernel
theorem dX7_speaks_110 : decode cX7_speaks 110 = .ok (.iload 4, 2) := by decide +kernel
theorem dX7_speaks_112 : decode cX7_speaks 112 = .ok (.ifCond .eq 7, 3) := by decide +kernel
theorem dX7_speaks_115 : decode cX7_speaks 115 = .ok (.iload_n 2, 1) := by decide +kernel
theorem dX7_speaks_116 : decode cX7_speaks 116 = .ok (.goto 4, 3) := by decide +kernel
theorem dX7_speaks_119 : decode cX7_speaks 119 = .ok (.iconst (-1), 1) := by decide +kernel
theorem dX7_speaks_120 : decode cX7_speaks 120 = .ok (.iastore, 1) := by decide +kernel
theorem dX7_speaks_121 : decode cX7_speaks 121 = .ok (.aload_n 0, 1) := by decide +kernel
theorem dX7_speaks_122 : decode cX7_speaks 122 = .ok (.getfield 41, 3) := by decide +kernel
theorem dX7_speaks_125 : decode cX7_speaks 125 = .ok (.iload_n 1, 1) := by decide +kernel
theorem dX7_speaks_126 : decode cX7_speaks 126 = .ok (.iaload, 1) := by decide +kernel
theorem dX7_speaks_127 : decode cX7_speaks 127 = .ok (.iconst 3, 1) := by decide +kernel
theorem dX7_speaks_128 : decode cX7_speaks 128 = .ok (.if_icmp .ne 23, 3) := by decide +kernel
theorem dX7_speaks_131 : decode cX7_speaks 131 = .ok (.aload_n 0, 1) := by decide +kernel
theorem dX7_speaks_132 : decode cX7_speaks 132 = .ok (.iload_n 1, 1) := by decide +kernel
theorem dX7_speaks_133 : decode cX7_speaks 133 = .ok (.iload_n 2, 1) := by decide +kernel
theorem dX7_speaks_134 : decode cX7_speaks 134 = .ok (.invokevirtual 115, 3) := by decide +kernel
theorem dX7_speaks_137 : decode cX7_speaks 137 = .ok (.aload_n 0, 1) := by decide +kernel
theorem dX7_speaks_138 : decode cX7_speaks 138 = .ok (.getfield 41, 3) := by decide +kernel
theorem dX7_speaks_141 : decode cX7_speaks 141 = .ok (.iload_n 1, 1) := by decide +kernel
theorem dX7_speaks_142 : decode cX7_speaks 142 = .ok (.iconst 0, 1) := by decide +kernel
theorem dX7_speaks_143 : decode cX7_speaks 143 = .ok (.iastore, 1) := by decide +kernel
theorem dX7_speaks_144 : decode cX7_speaks 144 = .ok (.aload_n 0, 1) := by decide +kernel
theorem dX7_speaks_145 : decode cX7_speaks 145 = .ok (.getfield 38, 3) := by decide +kernel
theorem dX7_speaks_148 : decode cX7_speaks 148 = .ok (.iload_n 1, 1) := by decide +kernel
theorem dX7_speaks_149 : decode cX7_speaks 149 = .ok (.iconst (-1), 1) := by decide +kernel
theorem dX7_speaks_150 : decode cX7_speaks 150 = .ok (.iastore, 1) := by decide +kernel
theorem dX7_speaks_151 : decode cX7_speaks 151 = .ok (.return_, 1) := by decide +kernel
theorem dX7_tickPasses_0 : decode cX7_tickPasses 0 = .ok (.iconst 0, 1) := by decide +kernel
theorem dX7_tickPasses_1 : decode cX7_tickPasses 1 = .ok (.istore_n 1, 1) := by decide +kernel
theorem dX7_tickPasses_2 : decode cX7_tickPasses 2 = .ok (.iload_n 1, 1) := by decide +kernel
theorem dX7_tickPasses_3 : decode cX7_tickPasses 3 = .ok (.aload_n 0, 1) := by decide +kernel
theorem dX7_tickPasses_4 : decode cX7_tickPasses 4 = .ok (.getfield 77, 3) := by decide +kernel
theorem dX7_tickPasses_7 : decode cX7_tickPasses 7 = .ok (.if_icmp .ge 14, 3) := by decide +kernel
theorem dX7_tickPasses_10 : decode cX7_tickPasses 10 = .ok (.aload_n 0, 1) := by decide +kernel
theorem dX7_tickPasses_11 : decode cX7_tickPasses 11 = .ok (.iload_n 1, 1) := by decide +kernel
theorem dX7_tickPasses_12 : decode cX7_tickPasses 12 = .ok (.invokevirtual 118, 3) := by decide +kernel
theorem dX7_tickPasses_15 : decode cX7_tickPasses 15 = .ok (.iinc 1 1, 3) := by decide +kernel
theorem dX7_tickPasses_18 : decode cX7_tickPasses 18 = .ok (.goto (-16), 3) := by decide +kernel
theorem dX7_tickPasses_21 : decode cX7_tickPasses 21 = .ok (.iconst 0, 1) := by decide +kernel
theorem dX7_tickPasses_22 : decode cX7_tickPasses 22 = .ok (.istore_n 1, 1) := by decide +kernel
theorem dX7_tickPasses_23 : decode cX7_tickPasses 23 = .ok (.iload_n 1, 1) := by decide +kernel
theorem dX7_tickPasses_24 : decode cX7_tickPasses 24 = .ok (.aload_n 0, 1) := by decide +kernel
theorem dX7_tickPasses_25 : decode cX7_tickPasses 25 = .ok (.getfield 77, 3) := by decide +kernel
theorem dX7_tickPasses_28 : decode cX7_tickPasses 28 = .ok (.if_icmp .ge 34, 3) := by decide +kernel
theorem dX7_tickPasses_31 : decode cX7_tickPasses 31 = .ok (.aload_n 0, 1) := by decide +kernel
theorem dX7_tickPasses_32 : decode cX7_tickPasses 32 = .ok (.getfield 35, 3) := by decide +kernel
theorem dX7_tickPasses_35 : decode cX7_tickPasses 35 = .ok (.iload_n 1, 1) := by decide +kernel
theorem dX7_tickPasses_36 : decode cX7_tickPasses 36 = .ok (.iaload, 1) := by decide +kernel
theorem dX7_tickPasses_37 : decode cX7_tickPasses 37 = .ok (.iconst (-1), 1) := by decide +kernel
theorem dX7_tickPasses_38 : decode cX7_tickPasses 38 = .ok (.if_icmp .eq 18, 3) := by decide +kernel
theorem dX7_tickPasses_41 : decode cX7_tickPasses 41 = .ok (.aload_n 0, 1) := by decide +kernel
theorem dX7_tickPasses_42 : decode cX7_tickPasses 42 = .ok (.getfield 25, 3) := by decide +kernel
theorem dX7_tickPasses_45 : decode cX7_tickPasses 45 = .ok (.aload_n 0, 1) := by decide +kernel
theorem dX7_tickPasses_46 : decode cX7_tickPasses 46 = .ok (.getfield 35, 3) := by decide +kernel
theorem dX7_tickPasses_49 : decode cX7_tickPasses 49 = .ok (.iload_n 1, 1) := by decide +kernel
theorem dX7_tickPasses_50 : decode cX7_tickPasses 50 = .ok (.iaload, 1) := by decide +kernel
theorem dX7_tickPasses_51 : decode cX7_tickPasses 51 = .ok (.dup2, 1) := by decide +kernel
theorem dX7_tickPasses_52 : decode cX7_tickPasses 52 = .ok (.laload, 1) := by decide +kernel
theorem dX7_tickPasses_53 : decode cX7_tickPasses 53 = .ok (.lconst 1, 1) := by decide +kernel
theorem dX7_tickPasses_54 : decode cX7_tickPasses 54 = .ok (.ladd, 1) := by decide +kernel
theorem dX7_tickPasses_55 : decode cX7_tickPasses 55 = .ok (.lastore, 1) := by decide +kernel
theorem dX7_tickPasses_56 : decode cX7_tickPasses 56 = .ok (.iinc 1 1, 3) := by decide +kernel
theorem dX7_tickPasses_59 : decode cX7_tickPasses 59 = .ok (.goto (-36), 3) := by decide +kernel
theorem dX7_tickPasses_62 : decode cX7_tickPasses 62 = .ok (.iconst 0, 1) := by decide +kernel
theorem dX7_tickPasses_63 : decode cX7_tickPasses 63 = .ok (.istore_n 1, 1) := by decide +kernel
theorem dX7_tickPasses_64 : decode cX7_tickPasses 64 = .ok (.iload_n 1, 1) := by decide +kernel
theorem dX7_tickPasses_65 : decode cX7_tickPasses 65 = .ok (.aload_n 0, 1) := by decide +kernel
theorem dX7_tickPasses_66 : decode cX7_tickPasses 66 = .ok (.getfield 80, 3) := by decide +kernel
theorem dX7_tickPasses_69 : decode cX7_tickPasses 69 = .ok (.if_icmp .ge 56, 3) := by decide +kernel
theorem dX7_tickPasses_72 : decode cX7_tickPasses 72 = .ok (.aload_n 0, 1) := by decide +kernel
theorem dX7_tickPasses_73 : decode cX7_tickPasses 73 = .ok (.getfield 50, 3) := by decide +kernel
theorem dX7_tickPasses_76 : decode cX7_tickPasses 76 = .ok (.iload_n 1, 1) := by decide +kernel
theorem dX7_tickPasses_77 : decode cX7_tickPasses 77 = .ok (.baload, 1) := by decide +kernel
theorem dX7_tickPasses_78 : decode cX7_tickPasses 78 = .ok (.ifCond .ne 41, 3) := by decide +kernel
theorem dX7_tickPasses_81 : decode cX7_tickPasses 81 = .ok (.aload_n 0, 1) := by decide +kernel
theorem dX7_tickPasses_82 : decode cX7_tickPasses 82 = .ok (.getfield 57, 3) := by decide +kernel
theorem dX7_tickPasses_85 : decode cX7_tickPasses 85 = .ok (.sipush 2000, 3) := by decide +kernel
theorem dX7_tickPasses_88 : decode cX7_tickPasses 88 = .ok (.iload_n 1, 1) := by decide +kernel
theorem dX7_tickPasses_89 : decode cX7_tickPasses 89 = .ok (.imul, 1) := by decide +kernel
theorem dX7_tickPasses_90 : decode cX7_tickPasses 90 = .ok (.aload_n 0, 1) := by decide +kernel
theorem dX7_tickPasses_91 : decode cX7_tickPasses 91 = .ok (.getfield 54, 3) := by decide +kernel
theorem dX7_tickPasses_94 : decode cX7_tickPasses 94 = .ok (.iload_n 1, 1) := by decide +kernel
theorem dX7_tickPasses_95 : decode cX7_tickPasses 95 = .ok (.iaload, 1) := by decide +kernel
theorem dX7_tickPasses_96 : decode cX7_tickPasses 96 = .ok (.iadd, 1) := by decide +kernel
theorem dX7_tickPasses_97 : decode cX7_tickPasses 97 = .ok (.aload_n 0, 1) := by decide +kernel
theorem dX7_tickPasses_98 : decode cX7_tickPasses 98 = .ok (.getfield 35, 3) := by decide +kernel
theorem dX7_tickPasses_101 : decode cX7_tickPasses 101 = .ok (.aload_n 0, 1) := by decide +kernel
theorem dX7_tickPasses_102 : decode cX7_tickPasses 102 = .ok (.getfield 47, 3) := by decide +kernel
theorem dX7_tickPasses_105 : decode cX7_tickPasses 105 = .ok (.iload_n 1, 1) := by decide +kernel
theorem dX7_tickPasses_106 : decode cX7_tickPasses 106 = .ok (.iaload, 1) := by decide +kernel
theorem dX7_tickPasses_107 : decode cX7_tickPasses 107 = .ok (.iaload, 1) := by decide +kernel
theorem dX7_tickPasses_108 : decode cX7_tickPasses 108 = .ok (.iastore, 1) := by decide +kernel
theorem dX7_tickPasses_109 : decode cX7_tickPasses 109 = .ok (.aload_n 0, 1) := by decide +kernel
theorem dX7_tickPasses_110 : decode cX7_tickPasses 110 = .ok (.getfield 54, 3) := by decide +kernel
theorem dX7_tickPasses_113 : decode cX7_tickPasses 113 = .ok (.iload_n 1, 1) := by decide +kernel
theorem dX7_tickPasses_114 : decode cX7_tickPasses 114 = .ok (.dup2, 1) := by decide +kernel
theorem dX7_tickPasses_115 : decode cX7_tickPasses 115 = .ok (.iaload, 1) := by decide +kernel
theorem dX7_tickPasses_116 : decode cX7_tickPasses 116 = .ok (.iconst 1, 1) := by decide +kernel
theorem dX7_tickPasses_117 : decode cX7_tickPasses 117 = .ok (.iadd, 1) := by decide +kernel
theorem dX7_tickPasses_118 : decode cX7_tickPasses 118 = .ok (.iastore, 1) := by decide +kernel
theorem dX7_tickPasses_119 : decode cX7_tickPasses 119 = .ok (.iinc 1 1, 3) := by decide +kernel
theorem dX7_tickPasses_122 : decode cX7_tickPasses 122 = .ok (.goto (-58), 3) := by decide +kernel
theorem dX7_tickPasses_125 : decode cX7_tickPasses 125 = .ok (.aload_n 0, 1) := by decide +kernel
theorem dX7_tickPasses_126 : decode cX7_tickPasses 126 = .ok (.dup, 1) := by decide +kernel
theorem dX7_tickPasses_127 : decode cX7_tickPasses 127 = .ok (.getfield 121, 3) := by decide +kernel
theorem dX7_tickPasses_130 : decode cX7_tickPasses 130 = .ok (.iconst 1, 1) := by decide +kernel
theorem dX7_tickPasses_131 : decode cX7_tickPasses 131 = .ok (.iadd, 1) := by decide +kernel
theorem dX7_tickPasses_132 : decode cX7_tickPasses 132 = .ok (.putfield 121, 3) := by decide +kernel
theorem dX7_tickPasses_135 : decode cX7_tickPasses 135 = .ok (.iconst 0, 1) := by decide +kernel
theorem dX7_tickPasses_136 : decode cX7_tickPasses 136 = .ok (.istore_n 1, 1) := by decide +kernel
theorem dX7_tickPasses_137 : decode cX7_tickPasses 137 = .ok (.iload_n 1, 1) := by decide +kernel
theorem dX7_tickPasses_138 : decode cX7_tickPasses 138 = .ok (.aload_n 0, 1) := by decide +kernel
theorem dX7_tickPasses_139 : decode cX7_tickPasses 139 = .ok (.getfield 70, 3) := by decide +kernel
theorem dX7_tickPasses_142 : decode cX7_tickPasses 142 = .ok (.if_icmp .ge 24, 3) := by decide +kernel
theorem dX7_tickPasses_145 : decode cX7_tickPasses 145 = .ok (.aload_n 0, 1) := by decide +kernel
theorem dX7_tickPasses_146 : decode cX7_tickPasses 146 = .ok (.dup, 1) := by decide +kernel
theorem dX7_tickPasses_147 : decode cX7_tickPasses 147 = .ok (.getfield 124, 3) := by decide +kernel
theorem dX7_tickPasses_150 : decode cX7_tickPasses 150 = .ok (.aload_n 0, 1) := by decide +kernel
theorem dX7_tickPasses_151 : decode cX7_tickPasses 151 = .ok (.iload_n 1, 1) := by decide +kernel
theorem dX7_tickPasses_152 : decode cX7_tickPasses 152 = .ok (.invokevirtual 128, 3) := by decide +kernel
theorem dX7_tickPasses_155 : decode cX7_tickPasses 155 = .ok (.i2l, 1) := by decide +kernel
theorem dX7_tickPasses_156 : decode cX7_tickPasses 156 = .ok (.ladd, 1) := by decide +kernel
theorem dX7_tickPasses_157 : decode cX7_tickPasses 157 = .ok (.putfield 124, 3) := by decide +kernel
theorem dX7_tickPasses_160 : decode cX7_tickPasses 160 = .ok (.iinc 1 1, 3) := by decide +kernel
theorem dX7_tickPasses_163 : decode cX7_tickPasses 163 = .ok (.goto (-26), 3) := by decide +kernel
theorem dX7_tickPasses_166 : decode cX7_tickPasses 166 = .ok (.return_, 1) := by decide +kernel
theorem dX7_pass_0 : decode cX7_pass 0 = .ok (.aload_n 0, 1) := by decide +kernel
theorem dX7_pass_1 : decode cX7_pass 1 = .ok (.iconst 0, 1) := by decide +kernel
theorem dX7_pass_2 : decode cX7_pass 2 = .ok (.putfield 66, 3) := by decide +kernel
theorem dX7_pass_5 : decode cX7_pass 5 = .ok (.iload_n 1, 1) := by decide +kernel
theorem dX7_pass_6 : decode cX7_pass 6 = .ok (.iconst 1, 1) := by decide +kernel
theorem dX7_pass_7 : decode cX7_pass 7 = .ok (.bipush 60, 2) := by decide +kernel
theorem dX7_pass_9 : decode cX7_pass 9 = .ok (.invokestatic 73, 3) := by decide +kernel
theorem dX7_pass_12 : decode cX7_pass 12 = .ok (.ifCond .ne 9, 3) := by decide +kernel
theorem dX7_pass_15 : decode cX7_pass 15 = .ok (.aload_n 0, 1) := by decide +kernel
theorem dX7_pass_16 : decode cX7_pass 16 = .ok (.iconst 1, 1) := by decide +kernel
theorem dX7_pass_17 : decode cX7_pass 17 = .ok (.invokevirtual 83, 3) := by decide +kernel
theorem dX7_pass_20 : decode cX7_pass 20 = .ok (.ireturn, 1) := by decide +kernel
theorem dX7_pass_21 : decode cX7_pass 21 = .ok (.aload_n 0, 1) := by decide +kernel
theorem dX7_pass_22 : decode cX7_pass 22 = .ok (.getfield 121, 3) := by decide +kernel
theorem dX7_pass_25 : decode cX7_pass 25 = .ok (.iload_n 1, 1) := by decide +kernel
theorem dX7_pass_26 : decode cX7_pass 26 = .ok (.iadd, 1) := by decide +kernel
theorem dX7_pass_27 : decode cX7_pass 27 = .ok (.sipush 2000, 3) := by decide +kernel
theorem dX7_pass_30 : decode cX7_pass 30 = .ok (.if_icmp .le 9, 3) := by decide +kernel
theorem dX7_pass_33 : decode cX7_pass 33 = .ok (.aload_n 0, 1) := by decide +kernel
theorem dX7_pass_34 : decode cX7_pass 34 = .ok (.iconst 2, 1) := by decide +kernel
theorem dX7_pass_35 : decode cX7_pass 35 = .ok (.invokevirtual 83, 3) := by decide +kernel
theorem dX7_pass_38 : decode cX7_pass 38 = .ok (.ireturn, 1) := by decide +kernel
theorem dX7_pass_39 : decode cX7_pass 39 = .ok (.aload_n 0, 1) := by decide +kernel
theorem dX7_pass_40 : decode cX7_pass 40 = .ok (.getfield 109, 3) := by decide +kernel
theorem dX7_pass_43 : decode cX7_pass 43 = .ok (.istore_n 2, 1) := by decide +kernel
theorem dX7_pass_44 : decode cX7_pass 44 = .ok (.iconst 0, 1) := by decide +kernel
theorem dX7_pass_45 : decode cX7_pass 45 = .ok (.istore_n 3, 1) := by decide +kernel
theorem dX7_pass_46 : decode cX7_pass 46 = .ok (.iload_n 3, 1) := by decide +kernel
theorem dX7_pass_47 : decode cX7_pass 47 = .ok (.iload_n 1, 1) := by decide +kernel
theorem dX7_pass_48 : decode cX7_pass 48 = .ok (.if_icmp .ge 13, 3) := by decide +kernel
theorem dX7_pass_51 : decode cX7_pass 51 = .ok (.aload_n 0, 1) := by decide +kernel
theorem dX7_pass_52 : decode cX7_pass 52 = .ok (.invokevirtual 131, 3) := by decide +kernel
theorem dX7_pass_55 : decode cX7_pass 55 = .ok (.iinc 3 1, 3) := by decide +kernel
theorem dX7_pass_58 : decode cX7_pass 58 = .ok (.goto (-12), 3) := by decide +kernel
theorem dX7_pass_61 : decode cX7_pass 61 = .ok (.aload_n 0, 1) := by decide +kernel
theorem dX7_pass_62 : decode cX7_pass 62 = .ok (.getfield 109, 3) := by decide +kernel
theorem dX7_pass_65 : decode cX7_pass 65 = .ok (.iload_n 2, 1) := by decide +kernel
theorem dX7_pass_66 : decode cX7_pass 66 = .ok (.isub, 1) := by decide +kernel
theorem dX7_pass_67 : decode cX7_pass 67 = .ok (.ireturn, 1) := by decide +kernel
theorem dX7_tick_0 : decode cX7_tick 0 = .ok (.aload_n 0, 1) := by decide +kernel
theorem dX7_tick_1 : decode cX7_tick 1 = .ok (.iconst 0, 1) := by decide +kernel
theorem dX7_tick_2 : decode cX7_tick 2 = .ok (.putfield 66, 3) := by decide +kernel
theorem dX7_tick_5 : decode cX7_tick 5 = .ok (.aload_n 0, 1) := by decide +kernel
theorem dX7_tick_6 : decode cX7_tick 6 = .ok (.getfield 121, 3) := by decide +kernel
theorem dX7_tick_9 : decode cX7_tick 9 = .ok (.ireturn, 1) := by decide +kernel
theorem dX7_speaker_0 : decode cX7_speaker 0 = .ok (.aload_n 0, 1) := by decide +kernel
theorem dX7_speaker_1 : decode cX7_speaker 1 = .ok (.iconst 0, 1) := by decide +kernel
theorem dX7_speaker_2 : decode cX7_speaker 2 = .ok (.putfield 66, 3) := by decide +kernel
theorem dX7_speaker_5 : decode cX7_speaker 5 = .ok (.aload_n 0, 1) := by decide +kernel
theorem dX7_speaker_6 : decode cX7_speaker 6 = .ok (.iload_n 1, 1) := by decide +kernel
theorem dX7_speaker_7 : decode cX7_speaker 7 = .ok (.invokevirtual 95, 3) := by decide +kernel
theorem dX7_speaker_10 : decode cX7_speaker 10 = .ok (.ifCond .ne 9, 3) := by decide +kernel
theorem dX7_speaker_13 : decode cX7_speaker 13 = .ok (.aload_n 0, 1) := by decide +kernel
theorem dX7_speaker_14 : decode cX7_speaker 14 = .ok (.iconst 1, 1) := by decide +kernel
theorem dX7_speaker_15 : decode cX7_speaker 15 = .ok (.invokevirtual 83, 3) := by decide +kernel
theorem dX7_speaker_18 : decode cX7_speaker 18 = .ok (.ireturn, 1) := by decide +kernel
theorem dX7_speaker_19 : decode cX7_speaker 19 = .ok (.aload_n 0, 1) := by decide +kernel
theorem dX7_speaker_20 : decode cX7_speaker 20 = .ok (.getfield 35, 3) := by decide +kernel
theorem dX7_speaker_23 : decode cX7_speaker 23 = .ok (.iload_n 1, 1) := by decide +kernel
theorem dX7_speaker_24 : decode cX7_speaker 24 = .ok (.iaload, 1) := by decide +kernel
theorem dX7_speaker_25 : decode cX7_speaker 25 = .ok (.iconst (-1), 1) := by decide +kernel
theorem dX7_speaker_26 : decode cX7_speaker 26 = .ok (.if_icmp .ne 11, 3) := by decide +kernel
theorem dX7_speaker_29 : decode cX7_speaker 29 = .ok (.aload_n 0, 1) := by decide +kernel
theorem dX7_speaker_30 : decode cX7_speaker 30 = .ok (.iconst 2, 1) := by decide +kernel
theorem dX7_speaker_31 : decode cX7_speaker 31 = .ok (.invokevirtual 83, 3) := by decide +kernel
theorem dX7_speaker_34 : decode cX7_speaker 34 = .ok (.goto 9, 3) := by decide +kernel
theorem dX7_speaker_37 : decode cX7_speaker 37 = .ok (.aload_n 0, 1) := by decide +kernel
theorem dX7_speaker_38 : decode cX7_speaker 38 = .ok (.getfield 35, 3) := by decide +kernel
theorem dX7_speaker_41 : decode cX7_speaker 41 = .ok (.iload_n 1, 1) := by decide +kernel
theorem dX7_speaker_42 : decode cX7_speaker 42 = .ok (.iaload, 1) := by decide +kernel
theorem dX7_speaker_43 : decode cX7_speaker 43 = .ok (.ireturn, 1) := by decide +kernel
theorem dX7_challenge_0 : decode cX7_challenge 0 = .ok (.aload_n 0, 1) := by decide +kernel
theorem dX7_challenge_1 : decode cX7_challenge 1 = .ok (.iconst 0, 1) := by decide +kernel
theorem dX7_challenge_2 : decode cX7_challenge 2 = .ok (.putfield 66, 3) := by decide +kernel
theorem dX7_challenge_5 : decode cX7_challenge 5 = .ok (.aload_n 0, 1) := by decide +kernel
theorem dX7_challenge_6 : decode cX7_challenge 6 = .ok (.iload_n 1, 1) := by decide +kernel
theorem dX7_challenge_7 : decode cX7_challenge 7 = .ok (.invokevirtual 95, 3) := by decide +kernel
theorem dX7_challenge_10 : decode cX7_challenge 10 = .ok (.ifCond .eq 12, 3) := by decide +kernel
theorem dX7_challenge_13 : decode cX7_challenge 13 = .ok (.aload_n 0, 1) := by decide +kernel
theorem dX7_challenge_14 : decode cX7_challenge 14 = .ok (.getfield 41, 3) := by decide +kernel
theorem dX7_challenge_17 : decode cX7_challenge 17 = .ok (.iload_n 1, 1) := by decide +kernel
theorem dX7_challenge_18 : decode cX7_challenge 18 = .ok (.iaload, 1) := by decide +kernel
theorem dX7_challenge_19 : decode cX7_challenge 19 = .ok (.goto 8, 3) := by decide +kernel
theorem dX7_challenge_22 : decode cX7_challenge 22 = .ok (.aload_n 0, 1) := by decide +kernel
theorem dX7_challenge_23 : decode cX7_challenge 23 = .ok (.iconst 1, 1) := by decide +kernel
theorem dX7_challenge_24 : decode cX7_challenge 24 = .ok (.invokevirtual 83, 3) := by decide +kernel
theorem dX7_challenge_27 : decode cX7_challenge 27 = .ok (.ireturn, 1) := by decide +kernel
theorem dX7_hears_0 : decode cX7_hears 0 = .ok (.aload_n 0, 1) := by decide +kernel
theorem dX7_hears_1 : decode cX7_hears 1 = .ok (.aload_n 0, 1) := by decide +kernel
theorem dX7_hears_2 : decode cX7_hears 2 = .ok (.iload_n 1, 1) := by decide +kernel
theorem dX7_hears_3 : decode cX7_hears 3 = .ok (.invokevirtual 87, 3) := by decide +kernel
theorem dX7_hears_6 : decode cX7_hears 6 = .ok (.ifCond .eq 15, 3) := by decide +kernel
theorem dX7_hears_9 : decode cX7_hears 9 = .ok (.aload_n 0, 1) := by decide +kernel
theorem dX7_hears_10 : decode cX7_hears 10 = .ok (.iload_n 2, 1) := by decide +kernel
theorem dX7_hears_11 : decode cX7_hears 11 = .ok (.invokevirtual 87, 3) := by decide +kernel
theorem dX7_hears_14 : decode cX7_hears 14 = .ok (.ifCond .eq 7, 3) := by decide +kernel
theorem dX7_hears_17 : decode cX7_hears 17 = .ok (.iconst 0, 1) := by decide +kernel
theorem dX7_hears_18 : decode cX7_hears 18 = .ok (.goto 4, 3) := by decide +kernel
theorem dX7_hears_21 : decode cX7_hears 21 = .ok (.iconst 1, 1) := by decide +kernel
theorem dX7_hears_22 : decode cX7_hears 22 = .ok (.putfield 66, 3) := by decide +kernel
theorem dX7_hears_25 : decode cX7_hears 25 = .ok (.aload_n 0, 1) := by decide +kernel
theorem dX7_hears_26 : decode cX7_hears 26 = .ok (.getfield 66, 3) := by decide +kernel
theorem dX7_hears_29 : decode cX7_hears 29 = .ok (.ifCond .ne 48, 3) := by decide +kernel
theorem dX7_hears_32 : decode cX7_hears 32 = .ok (.iload_n 1, 1) := by decide +kernel
theorem dX7_hears_33 : decode cX7_hears 33 = .ok (.iload_n 2, 1) := by decide +kernel
theorem dX7_hears_34 : decode cX7_hears 34 = .ok (.if_icmp .eq 43, 3) := by decide +kernel
theorem dX7_hears_37 : decode cX7_hears 37 = .ok (.aload_n 0, 1) := by decide +kernel
theorem dX7_hears_38 : decode cX7_hears 38 = .ok (.getfield 19, 3) := by decide +kernel
theorem dX7_hears_41 : decode cX7_hears 41 = .ok (.iload_n 1, 1) := by decide +kernel
theorem dX7_hears_42 : decode cX7_hears 42 = .ok (.iaload, 1) := by decide +kernel
theorem dX7_hears_43 : decode cX7_hears 43 = .ok (.iconst (-1), 1) := by decide +kernel
theorem dX7_hears_44 : decode cX7_hears 44 = .ok (.if_icmp .eq 33, 3) := by decide +kernel
theorem dX7_hears_47 : decode cX7_hears 47 = .ok (.aload_n 0, 1) := by decide +kernel
theorem dX7_hears_48 : decode cX7_hears 48 = .ok (.getfield 19, 3) := by decide +kernel
theorem dX7_hears_51 : decode cX7_hears 51 = .ok (.iload_n 1, 1) := by decide +kernel
theorem dX7_hears_52 : decode cX7_hears 52 = .ok (.iaload, 1) := by decide +kernel
theorem dX7_hears_53 : decode cX7_hears 53 = .ok (.aload_n 0, 1) := by decide +kernel
theorem dX7_hears_54 : decode cX7_hears 54 = .ok (.getfield 19, 3) := by decide +kernel
theorem dX7_hears_57 : decode cX7_hears 57 = .ok (.iload_n 2, 1) := by decide +kernel
theorem dX7_hears_58 : decode cX7_hears 58 = .ok (.iaload, 1) := by decide +kernel
theorem dX7_hears_59 : decode cX7_hears 59 = .ok (.if_icmp .ne 18, 3) := by decide +kernel
theorem dX7_hears_62 : decode cX7_hears 62 = .ok (.aload_n 0, 1) := by decide +kernel
theorem dX7_hears_63 : decode cX7_hears 63 = .ok (.getfield 16, 3) := by decide +kernel
theorem dX7_hears_66 : decode cX7_hears 66 = .ok (.iload_n 2, 1) := by decide +kernel
theorem dX7_hears_67 : decode cX7_hears 67 = .ok (.iaload, 1) := by decide +kernel
theorem dX7_hears_68 : decode cX7_hears 68 = .ok (.bipush 10, 2) := by decide +kernel
theorem dX7_hears_70 : decode cX7_hears 70 = .ok (.if_icmp .lt 7, 3) := by decide +kernel
theorem dX7_hears_73 : decode cX7_hears 73 = .ok (.iconst 1, 1) := by decide +kernel
theorem dX7_hears_74 : decode cX7_hears 74 = .ok (.goto 4, 3) := by decide +kernel
theorem dX7_hears_77 : decode cX7_hears 77 = .ok (.iconst 0, 1) := by decide +kernel
theorem dX7_hears_78 : decode cX7_hears 78 = .ok (.ireturn, 1) := by decide +kernel
theorem dX7_talked_0 : decode cX7_talked 0 = .ok (.aload_n 0, 1) := by decide +kernel
theorem dX7_talked_1 : decode cX7_talked 1 = .ok (.aload_n 0, 1) := by decide +kernel
theorem dX7_talked_2 : decode cX7_talked 2 = .ok (.iload_n 1, 1) := by decide +kernel
theorem dX7_talked_3 : decode cX7_talked 3 = .ok (.invokevirtual 87, 3) := by decide +kernel
theorem dX7_talked_6 : decode cX7_talked 6 = .ok (.ifCond .eq 7, 3) := by decide +kernel
theorem dX7_talked_9 : decode cX7_talked 9 = .ok (.iconst 0, 1) := by decide +kernel
theorem dX7_talked_10 : decode cX7_talked 10 = .ok (.goto 4, 3) := by decide +kernel
theorem dX7_talked_13 : decode cX7_talked 13 = .ok (.iconst 1, 1) := by decide +kernel
theorem dX7_talked_14 : decode cX7_talked 14 = .ok (.putfield 66, 3) := by decide +kernel
theorem dX7_talked_17 : decode cX7_talked 17 = .ok (.aload_n 0, 1) := by decide +kernel
theorem dX7_talked_18 : decode cX7_talked 18 = .ok (.getfield 66, 3) := by decide +kernel
theorem dX7_talked_21 : decode cX7_talked 21 = .ok (.ifCond .le 7, 3) := by decide +kernel
theorem dX7_talked_24 : decode cX7_talked 24 = .ok (.lconst 0, 1) := by decide +kernel
theorem dX7_talked_25 : decode cX7_talked 25 = .ok (.goto 9, 3) := by decide +kernel
theorem dX7_talked_28 : decode cX7_talked 28 = .ok (.aload_n 0, 1) := by decide +kernel
theorem dX7_talked_29 : decode cX7_talked 29 = .ok (.getfield 25, 3) := by decide +kernel
theorem dX7_talked_32 : decode cX7_talked 32 = .ok (.iload_n 1, 1) := by decide +kernel
theorem dX7_talked_33 : decode cX7_talked 33 = .ok (.laload, 1) := by decide +kernel
theorem dX7_talked_34 : decode cX7_talked 34 = .ok (.lreturn, 1) := by decide +kernel
theorem dX7_changes_0 : decode cX7_changes 0 = .ok (.aload_n 0, 1) := by decide +kernel
theorem dX7_changes_1 : decode cX7_changes 1 = .ok (.iconst 0, 1) := by decide +kernel
theorem dX7_changes_2 : decode cX7_changes 2 = .ok (.putfield 66, 3) := by decide +kernel
theorem dX7_changes_5 : decode cX7_changes 5 = .ok (.aload_n 0, 1) := by decide +kernel
theorem dX7_changes_6 : decode cX7_changes 6 = .ok (.getfield 109, 3) := by decide +kernel
theorem dX7_changes_9 : decode cX7_changes 9 = .ok (.ireturn, 1) := by decide +kernel
theorem dX7_turnAt_0 : decode cX7_turnAt 0 = .ok (.aload_n 0, 1) := by decide +kernel
theorem dX7_turnAt_1 : decode cX7_turnAt 1 = .ok (.iconst 0, 1) := by decide +kernel
theorem dX7_turnAt_2 : decode cX7_turnAt 2 = .ok (.putfield 66, 3) := by decide +kernel
theorem dX7_turnAt_5 : decode cX7_turnAt 5 = .ok (.iload_n 1, 1) := by decide +kernel
theorem dX7_turnAt_6 : decode cX7_turnAt 6 = .ok (.iconst 0, 1) := by decide +kernel
theorem dX7_turnAt_7 : decode cX7_turnAt 7 = .ok (.aload_n 0, 1) := by decide +kernel
theorem dX7_turnAt_8 : decode cX7_turnAt 8 = .ok (.getfield 109, 3) := by decide +kernel
theorem dX7_turnAt_11 : decode cX7_turnAt 11 = .ok (.iconst 1, 1) := by decide +kernel
theorem dX7_turnAt_12 : decode cX7_turnAt 12 = .ok (.isub, 1) := by decide +kernel
theorem dX7_turnAt_13 : decode cX7_turnAt 13 = .ok (.invokestatic 73, 3) := by decide +kernel
theorem dX7_turnAt_16 : decode cX7_turnAt 16 = .ok (.ifCond .eq 12, 3) := by decide +kernel
theorem dX7_turnAt_19 : decode cX7_turnAt 19 = .ok (.aload_n 0, 1) := by decide +kernel
theorem dX7_turnAt_20 : decode cX7_turnAt 20 = .ok (.getfield 44, 3) := by decide +kernel
theorem dX7_turnAt_23 : decode cX7_turnAt 23 = .ok (.iload_n 1, 1) := by decide +kernel
theorem dX7_turnAt_24 : decode cX7_turnAt 24 = .ok (.iaload, 1) := by decide +kernel
theorem dX7_turnAt_25 : decode cX7_turnAt 25 = .ok (.goto 8, 3) := by decide +kernel
theorem dX7_turnAt_28 : decode cX7_turnAt 28 = .ok (.aload_n 0, 1) := by decide +kernel
theorem dX7_turnAt_29 : decode cX7_turnAt 29 = .ok (.iconst 1, 1) := by decide +kernel
theorem dX7_turnAt_30 : decode cX7_turnAt 30 = .ok (.invokevirtual 83, 3) := by decide +kernel
theorem dX7_turnAt_33 : decode cX7_turnAt 33 = .ok (.ireturn, 1) := by decide +kernel
theorem dX7_need_0 : decode cX7_need 0 = .ok (.iload_n 0, 1) := by decide +kernel
theorem dX7_need_1 : decode cX7_need 1 = .ok (.ifCond .ne 7, 3) := by decide +kernel
theorem dX7_need_4 : decode cX7_need 4 = .ok (.iconst 0, 1) := by decide +kernel
theorem dX7_need_5 : decode cX7_need 5 = .ok (.goto 27, 3) := by decide +kernel
theorem dX7_need_8 : decode cX7_need 8 = .ok (.iload_n 0, 1) := by decide +kernel
theorem dX7_need_9 : decode cX7_need 9 = .ok (.iconst 1, 1) := by decide +kernel
theorem dX7_need_10 : decode cX7_need 10 = .ok (.if_icmp .ne 8, 3) := by decide +kernel
theorem dX7_need_13 : decode cX7_need 13 = .ok (.bipush 100, 2) := by decide +kernel
theorem dX7_need_15 : decode cX7_need 15 = .ok (.goto 17, 3) := by decide +kernel
theorem dX7_need_18 : decode cX7_need 18 = .ok (.iload_n 0, 1) := by decide +kernel
theorem dX7_need_19 : decode cX7_need 19 = .ok (.iconst 2, 1) := by decide +kernel
theorem dX7_need_20 : decode cX7_need 20 = .ok (.if_icmp .ne 9, 3) := by decide +kernel
theorem dX7_need_23 : decode cX7_need 23 = .ok (.sipush 400, 3) := by decide +kernel
theorem dX7_need_26 : decode cX7_need 26 = .ok (.goto 6, 3) := by decide +kernel
theorem dX7_need_29 : decode cX7_need 29 = .ok (.sipush 1600, 3) := by decide +kernel
theorem dX7_need_32 : decode cX7_need 32 = .ok (.ireturn, 1) := by decide +kernel
theorem dX7_takes_0 : decode cX7_takes 0 = .ok (.iload_n 2, 1) := by decide +kernel
theorem dX7_takes_1 : decode cX7_takes 1 = .ok (.invokestatic 134, 3) := by decide +kernel
theorem dX7_takes_4 : decode cX7_takes 4 = .ok (.aload_n 0, 1) := by decide +kernel
theorem dX7_takes_5 : decode cX7_takes 5 = .ok (.getfield 63, 3) := by decide +kernel
theorem dX7_takes_8 : decode cX7_takes 8 = .ok (.iload_n 1, 1) := by decide +kernel
theorem dX7_takes_9 : decode cX7_takes 9 = .ok (.iaload, 1) := by decide +kernel
theorem dX7_takes_10 : decode cX7_takes 10 = .ok (.invokestatic 134, 3) := by decide +kernel
theorem dX7_takes_13 : decode cX7_takes 13 = .ok (.isub, 1) := by decide +kernel
theorem dX7_takes_14 : decode cX7_takes 14 = .ok (.istore 4, 2) := by decide +kernel
theorem dX7_takes_16 : decode cX7_takes 16 = .ok (.aload_n 0, 1) := by decide +kernel
theorem dX7_takes_17 : decode cX7_takes 17 = .ok (.getfield 13, 3) := by decide +kernel
theorem dX7_takes_20 : decode cX7_takes 20 = .ok (.iload_n 1, 1) := by decide +kernel
theorem dX7_takes_21 : decode cX7_takes 21 = .ok (.iaload, 1) := by decide +kernel
theorem dX7_takes_22 : decode cX7_takes 22 = .ok (.iload_n 2, 1) := by decide +kernel
theorem dX7_takes_23 : decode cX7_takes 23 = .ok (.if_icmp .lt 9, 3) := by decide +kernel
theorem dX7_takes_26 : decode cX7_takes 26 = .ok (.iload 4, 2) := by decide +kernel
theorem dX7_takes_28 : decode cX7_takes 28 = .ok (.iload_n 3, 1) := by decide +kernel
theorem dX7_takes_29 : decode cX7_takes 29 = .ok (.if_icmp .le 5, 3) := by decide +kernel
theorem dX7_takes_32 : decode cX7_takes 32 = .ok (.iload_n 3, 1) := by decide +kernel
theorem dX7_takes_33 : decode cX7_takes 33 = .ok (.ireturn, 1) := by decide +kernel
theorem dX7_takes_34 : decode cX7_takes 34 = .ok (.aload_n 0, 1) := by decide +kernel
theorem dX7_takes_35 : decode cX7_takes 35 = .ok (.getfield 63, 3) := by decide +kernel
theorem dX7_takes_38 : decode cX7_takes 38 = .ok (.iload_n 1, 1) := by decide +kernel
theorem dX7_takes_39 : decode cX7_takes 39 = .ok (.iload_n 2, 1) := by decide +kernel
theorem dX7_takes_40 : decode cX7_takes 40 = .ok (.iastore, 1) := by decide +kernel
theorem dX7_takes_41 : decode cX7_takes 41 = .ok (.iload_n 3, 1) := by decide +kernel
theorem dX7_takes_42 : decode cX7_takes 42 = .ok (.iload 4, 2) := by decide +kernel
theorem dX7_takes_44 : decode cX7_takes 44 = .ok (.isub, 1) := by decide +kernel
theorem dX7_takes_45 : decode cX7_takes 45 = .ok (.ireturn, 1) := by decide +kernel
theorem dX7_uses_0 : decode cX7_uses 0 = .ok (.iconst 0, 1) := by decide +kernel
theorem dX7_uses_1 : decode cX7_uses 1 = .ok (.istore_n 2, 1) := by decide +kernel
theorem dX7_uses_2 : decode cX7_uses 2 = .ok (.iload_n 2, 1) := by decide +kernel
theorem dX7_uses_3 : decode cX7_uses 3 = .ok (.bipush 10, 2) := by decide +kernel
theorem dX7_uses_5 : decode cX7_uses 5 = .ok (.if_icmp .ge 16, 3) := by decide +kernel
theorem dX7_uses_8 : decode cX7_uses 8 = .ok (.aload_n 0, 1) := by decide +kernel
theorem dX7_uses_9 : decode cX7_uses 9 = .ok (.getfield 63, 3) := by decide +kernel
theorem dX7_uses_12 : decode cX7_uses 12 = .ok (.iload_n 2, 1) := by decide +kernel
theorem dX7_uses_13 : decode cX7_uses 13 = .ok (.iconst 0, 1) := by decide +kernel
theorem dX7_uses_14 : decode cX7_uses 14 = .ok (.iastore, 1) := by decide +kernel
theorem dX7_uses_15 : decode cX7_uses 15 = .ok (.iinc 2 1, 3) := by decide +kernel
theorem dX7_uses_18 : decode cX7_uses 18 = .ok (.goto (-16), 3) := by decide +kernel
theorem dX7_uses_21 : decode cX7_uses 21 = .ok (.aload_n 0, 1) := by decide +kernel
theorem dX7_uses_22 : decode cX7_uses 22 = .ok (.getfield 19, 3) := by decide +kernel
theorem dX7_uses_25 : decode cX7_uses 25 = .ok (.iload_n 1, 1) := by decide +kernel
theorem dX7_uses_26 : decode cX7_uses 26 = .ok (.iaload, 1) := by decide +kernel
theorem dX7_uses_27 : decode cX7_uses 27 = .ok (.istore_n 2, 1) := by decide +kernel
theorem dX7_uses_28 : decode cX7_uses 28 = .ok (.iload_n 2, 1) := by decide +kernel
theorem dX7_uses_29 : decode cX7_uses 29 = .ok (.iconst (-1), 1) := by decide +kernel
theorem dX7_uses_30 : decode cX7_uses 30 = .ok (.if_icmp .ne 5, 3) := by decide +kernel
theorem dX7_uses_33 : decode cX7_uses 33 = .ok (.iconst 0, 1) := by decide +kernel
theorem dX7_uses_34 : decode cX7_uses 34 = .ok (.ireturn, 1) := by decide +kernel
theorem dX7_uses_35 : decode cX7_uses 35 = .ok (.aload_n 0, 1) := by decide +kernel
theorem dX7_uses_36 : decode cX7_uses 36 = .ok (.getfield 22, 3) := by decide +kernel
theorem dX7_uses_39 : decode cX7_uses 39 = .ok (.iload_n 1, 1) := by decide +kernel
theorem dX7_uses_40 : decode cX7_uses 40 = .ok (.iaload, 1) := by decide +kernel
theorem dX7_uses_41 : decode cX7_uses 41 = .ok (.iconst (-1), 1) := by decide +kernel
theorem dX7_uses_42 : decode cX7_uses 42 = .ok (.if_icmp .eq 12, 3) := by decide +kernel
theorem dX7_uses_45 : decode cX7_uses 45 = .ok (.aload_n 0, 1) := by decide +kernel
theorem dX7_uses_46 : decode cX7_uses 46 = .ok (.getfield 22, 3) := by decide +kernel
theorem dX7_uses_49 : decode cX7_uses 49 = .ok (.iload_n 1, 1) := by decide +kernel
theorem dX7_uses_50 : decode cX7_uses 50 = .ok (.iaload, 1) := by decide +kernel
theorem dX7_uses_51 : decode cX7_uses 51 = .ok (.goto 23, 3) := by decide +kernel
theorem dX7_uses_54 : decode cX7_uses 54 = .ok (.aload_n 0, 1) := by decide +kernel
theorem dX7_uses_55 : decode cX7_uses 55 = .ok (.getfield 35, 3) := by decide +kernel
theorem dX7_uses_58 : decode cX7_uses 58 = .ok (.iload_n 2, 1) := by decide +kernel
theorem dX7_uses_59 : decode cX7_uses 59 = .ok (.iaload, 1) := by decide +kernel
theorem dX7_uses_60 : decode cX7_uses 60 = .ok (.iload_n 1, 1) := by decide +kernel
theorem dX7_uses_61 : decode cX7_uses 61 = .ok (.if_icmp .ne 7, 3) := by decide +kernel
theorem dX7_uses_64 : decode cX7_uses 64 = .ok (.iconst (-1), 1) := by decide +kernel
theorem dX7_uses_65 : decode cX7_uses 65 = .ok (.goto 9, 3) := by decide +kernel
theorem dX7_uses_68 : decode cX7_uses 68 = .ok (.aload_n 0, 1) := by decide +kernel
theorem dX7_uses_69 : decode cX7_uses 69 = .ok (.getfield 35, 3) := by decide +kernel
theorem dX7_uses_72 : decode cX7_uses 72 = .ok (.iload_n 2, 1) := by decide +kernel
theorem dX7_uses_73 : decode cX7_uses 73 = .ok (.iaload, 1) := by decide +kernel
theorem dX7_uses_74 : decode cX7_uses 74 = .ok (.istore_n 3, 1) := by decide +kernel
theorem dX7_uses_75 : decode cX7_uses 75 = .ok (.iconst 0, 1) := by decide +kernel
theorem dX7_uses_76 : decode cX7_uses 76 = .ok (.istore 4, 2) := by decide +kernel
theorem dX7_uses_78 : decode cX7_uses 78 = .ok (.iload_n 3, 1) := by decide +kernel
theorem dX7_uses_79 : decode cX7_uses 79 = .ok (.iconst (-1), 1) := by decide +kernel
theorem dX7_uses_80 : decode cX7_uses 80 = .ok (.if_icmp .eq 13, 3) := by decide +kernel
theorem dX7_uses_83 : decode cX7_uses 83 = .ok (.aload_n 0, 1) := by decide +kernel
theorem dX7_uses_84 : decode cX7_uses 84 = .ok (.getfield 60, 3) := by decide +kernel
theorem dX7_uses_87 : decode cX7_uses 87 = .ok (.iconst 0, 1) := by decide +kernel
theorem dX7_uses_88 : decode cX7_uses 88 = .ok (.iload_n 3, 1) := by decide +kernel
theorem dX7_uses_89 : decode cX7_uses 89 = .ok (.iastore, 1) := by decide +kernel
theorem dX7_uses_90 : decode cX7_uses 90 = .ok (.iconst 1, 1) := by decide +kernel
theorem dX7_uses_91 : decode cX7_uses 91 = .ok (.istore 4, 2) := by decide +kernel
theorem dX7_uses_93 : decode cX7_uses 93 = .ok (.iconst 0, 1) := by decide +kernel
theorem dX7_uses_94 : decode cX7_uses 94 = .ok (.istore 5, 2) := by decide +kernel
theorem dX7_uses_96 : decode cX7_uses 96 = .ok (.iload 5, 2) := by decide +kernel
theorem dX7_uses_98 : decode cX7_uses 98 = .ok (.aload_n 0, 1) := by decide +kernel
theorem dX7_uses_99 : decode cX7_uses 99 = .ok (.getfield 29, 3) := by decide +kernel
theorem dX7_uses_102 : decode cX7_uses 102 = .ok (.iload_n 2, 1) := by decide +kernel
theorem dX7_uses_103 : decode cX7_uses 103 = .ok (.iaload, 1) := by decide +kernel
theorem dX7_uses_104 : decode cX7_uses 104 = .ok (.if_icmp .ge 47, 3) := by decide +kernel
theorem dX7_uses_107 : decode cX7_uses 107 = .ok (.aload_n 0, 1) := by decide +kernel
theorem dX7_uses_108 : decode cX7_uses 108 = .ok (.getfield 32, 3) := by decide +kernel
theorem dX7_uses_111 : decode cX7_uses 111 = .ok (.bipush 10, 2) := by decide +kernel
theorem dX7_uses_113 : decode cX7_uses 113 = .ok (.iload_n 2, 1) := by decide +kernel
theorem dX7_uses_114 : decode cX7_uses 114 = .ok (.imul, 1) := by decide +kernel
theorem dX7_uses_115 : decode cX7_uses 115 = .ok (.iload 5, 2) := by decide +kernel
theorem dX7_uses_117 : decode cX7_uses 117 = .ok (.iadd, 1) := by decide +kernel
theorem dX7_uses_118 : decode cX7_uses 118 = .ok (.iaload, 1) := by decide +kernel
theorem dX7_uses_119 : decode cX7_uses 119 = .ok (.istore 6, 2) := by decide +kernel
theorem dX7_uses_121 : decode cX7_uses 121 = .ok (.iload 6, 2) := by decide +kernel
theorem dX7_uses_123 : decode cX7_uses 123 = .ok (.iload_n 1, 1) := by decide +kernel
theorem dX7_uses_124 : decode cX7_uses 124 = .ok (.if_icmp .eq 21, 3) := by decide +kernel
theorem dX7_uses_127 : decode cX7_uses 127 = .ok (.iload 6, 2) := by decide +kernel
theorem dX7_uses_129 : decode cX7_uses 129 = .ok (.iload_n 3, 1) := by decide +kernel
theorem dX7_uses_130 : decode cX7_uses 130 = .ok (.if_icmp .eq 15, 3) := by decide +kernel
theorem dX7_uses_133 : decode cX7_uses 133 = .ok (.aload_n 0, 1) := by decide +kernel
theorem dX7_uses_134 : decode cX7_uses 134 = .ok (.getfield 60, 3) := by decide +kernel
theorem dX7_uses_137 : decode cX7_uses 137 = .ok (.iload 4, 2) := by decide +kernel
theorem dX7_uses_139 : decode cX7_uses 139 = .ok (.iload 6, 2) := by decide +kernel
theorem dX7_uses_141 : decode cX7_uses 141 = .ok (.iastore, 1) := by decide +kernel
theorem dX7_uses_142 : decode cX7_uses 142 = .ok (.iinc 4 1, 3) := by decide +kernel
theorem dX7_uses_145 : decode cX7_uses 145 = .ok (.iinc 5 1, 3) := by decide +kernel
theorem dX7_uses_148 : decode cX7_uses 148 = .ok (.goto (-52), 3) := by decide +kernel
theorem dX7_uses_151 : decode cX7_uses 151 = .ok (.aload_n 0, 1) := by decide +kernel
theorem dX7_uses_152 : decode cX7_uses 152 = .ok (.getfield 7, 3) := by decide +kernel
theorem dX7_uses_155 : decode cX7_uses 155 = .ok (.iload_n 1, 1) := by decide +kernel
theorem dX7_uses_156 : decode cX7_uses 156 = .ok (.iaload, 1) := by decide +kernel
theorem dX7_uses_157 : decode cX7_uses 157 = .ok (.istore 5, 2) := by decide +kernel
theorem dX7_uses_159 : decode cX7_uses 159 = .ok (.iconst 0, 1) := by decide +kernel
theorem dX7_uses_160 : decode cX7_uses 160 = .ok (.istore 6, 2) := by decide +kernel
theorem dX7_uses_162 : decode cX7_uses 162 = .ok (.iload 6, 2) := by decide +kernel
theorem dX7_uses_164 : decode cX7_uses 164 = .ok (.iload 4, 2) := by decide +kernel
theorem dX7_uses_166 : decode cX7_uses 166 = .ok (.if_icmp .ge 25, 3) := by decide +kernel
theorem dX7_uses_169 : decode cX7_uses 169 = .ok (.aload_n 0, 1) := by decide +kernel
theorem dX7_uses_170 : decode cX7_uses 170 = .ok (.aload_n 0, 1) := by decide +kernel
theorem dX7_uses_171 : decode cX7_uses 171 = .ok (.getfield 60, 3) := by decide +kernel
theorem dX7_uses_174 : decode cX7_uses 174 = .ok (.iload 6, 2) := by decide +kernel
theorem dX7_uses_176 : decode cX7_uses 176 = .ok (.iaload, 1) := by decide +kernel
theorem dX7_uses_177 : decode cX7_uses 177 = .ok (.iconst 1, 1) := by decide +kernel
theorem dX7_uses_178 : decode cX7_uses 178 = .ok (.iload 5, 2) := by decide +kernel
theorem dX7_uses_180 : decode cX7_uses 180 = .ok (.invokevirtual 137, 3) := by decide +kernel
theorem dX7_uses_183 : decode cX7_uses 183 = .ok (.istore 5, 2) := by decide +kernel
theorem dX7_uses_185 : decode cX7_uses 185 = .ok (.iinc 6 1, 3) := by decide +kernel
theorem dX7_uses_188 : decode cX7_uses 188 = .ok (.goto (-26), 3) := by decide +kernel
theorem dX7_uses_191 : decode cX7_uses 191 = .ok (.iload 4, 2) := by decide +kernel
theorem dX7_uses_193 : decode cX7_uses 193 = .ok (.ifCond .le 33, 3) := by decide +kernel
theorem dX7_uses_196 : decode cX7_uses 196 = .ok (.aload_n 0, 1) := by decide +kernel
theorem dX7_uses_197 : decode cX7_uses 197 = .ok (.aload_n 0, 1) := by decide +kernel
theorem dX7_uses_198 : decode cX7_uses 198 = .ok (.getfield 60, 3) := by decide +kernel
theorem dX7_uses_201 : decode cX7_uses 201 = .ok (.iconst 0, 1) := by decide +kernel
theorem dX7_uses_202 : decode cX7_uses 202 = .ok (.iaload, 1) := by decide +kernel
theorem dX7_uses_203 : decode cX7_uses 203 = .ok (.iconst 2, 1) := by decide +kernel
theorem dX7_uses_204 : decode cX7_uses 204 = .ok (.iload 5, 2) := by decide +kernel
theorem dX7_uses_206 : decode cX7_uses 206 = .ok (.invokevirtual 137, 3) := by decide +kernel
theorem dX7_uses_209 : decode cX7_uses 209 = .ok (.istore 5, 2) := by decide +kernel
theorem dX7_uses_211 : decode cX7_uses 211 = .ok (.aload_n 0, 1) := by decide +kernel
theorem dX7_uses_212 : decode cX7_uses 212 = .ok (.aload_n 0, 1) := by decide +kernel
theorem dX7_uses_213 : decode cX7_uses 213 = .ok (.getfield 60, 3) := by decide +kernel
theorem dX7_uses_216 : decode cX7_uses 216 = .ok (.iconst 0, 1) := by decide +kernel
theorem dX7_uses_217 : decode cX7_uses 217 = .ok (.iaload, 1) := by decide +kernel
theorem dX7_uses_218 : decode cX7_uses 218 = .ok (.iconst 3, 1) := by decide +kernel
theorem dX7_uses_219 : decode cX7_uses 219 = .ok (.iload 5, 2) := by decide +kernel
theorem dX7_uses_221 : decode cX7_uses 221 = .ok (.invokevirtual 137, 3) := by decide +kernel
theorem dX7_uses_224 : decode cX7_uses 224 = .ok (.istore 5, 2) := by decide +kernel
theorem dX7_uses_226 : decode cX7_uses 226 = .ok (.iconst 2, 1) := by decide +kernel
theorem dX7_uses_227 : decode cX7_uses 227 = .ok (.istore 6, 2) := by decide +kernel
theorem dX7_uses_229 : decode cX7_uses 229 = .ok (.iload 6, 2) := by decide +kernel
theorem dX7_uses_231 : decode cX7_uses 231 = .ok (.iconst 4, 1) := by decide +kernel
theorem dX7_uses_232 : decode cX7_uses 232 = .ok (.if_icmp .ge 66, 3) := by decide +kernel
theorem dX7_uses_235 : decode cX7_uses 235 = .ok (.iconst 0, 1) := by decide +kernel
theorem dX7_uses_236 : decode cX7_uses 236 = .ok (.istore 7, 2) := by decide +kernel
theorem dX7_uses_238 : decode cX7_uses 238 = .ok (.iload 7, 2) := by decide +kernel
theorem dX7_uses_240 : decode cX7_uses 240 = .ok (.iload 4, 2) := by decide +kernel
theorem dX7_uses_242 : decode cX7_uses 242 = .ok (.if_icmp .ge 50, 3) := by decide +kernel
theorem dX7_uses_245 : decode cX7_uses 245 = .ok (.aload_n 0, 1) := by decide +kernel
theorem dX7_uses_246 : decode cX7_uses 246 = .ok (.getfield 63, 3) := by decide +kernel
theorem dX7_uses_249 : decode cX7_uses 249 = .ok (.aload_n 0, 1) := by decide +kernel
theorem dX7_uses_250 : decode cX7_uses 250 = .ok (.getfield 60, 3) := by decide +kernel
theorem dX7_uses_253 : decode cX7_uses 253 = .ok (.iload 7, 2) := by decide +kernel
theorem dX7_uses_255 : decode cX7_uses 255 = .ok (.iaload, 1) := by decide +kernel
theorem dX7_uses_256 : decode cX7_uses 256 = .ok (.iaload, 1) := by decide +kernel
theorem dX7_uses_257 : decode cX7_uses 257 = .ok (.iload 6, 2) := by decide +kernel
theorem dX7_uses_259 : decode cX7_uses 259 = .ok (.iconst 1, 1) := by decide +kernel
theorem dX7_uses_260 : decode cX7_uses 260 = .ok (.isub, 1) := by decide +kernel
theorem dX7_uses_261 : decode cX7_uses 261 = .ok (.if_icmp .ne 21, 3) := by decide +kernel
theorem dX7_uses_264 : decode cX7_uses 264 = .ok (.aload_n 0, 1) := by decide +kernel
theorem dX7_uses_265 : decode cX7_uses 265 = .ok (.aload_n 0, 1) := by decide +kernel
theorem dX7_uses_266 : decode cX7_uses 266 = .ok (.getfield 60, 3) := by decide +kernel
theorem dX7_uses_269 : decode cX7_uses 269 = .ok (.iload 7, 2) := by decide +kernel
theorem dX7_uses_271 : decode cX7_uses 271 = .ok (.iaload, 1) := by decide +kernel
theorem dX7_uses_272 : decode cX7_uses 272 = .ok (.iload 6, 2) := by decide +kernel
theorem dX7_uses_274 : decode cX7_uses 274 = .ok (.iload 5, 2) := by decide +kernel
theorem dX7_uses_276 : decode cX7_uses 276 = .ok (.invokevirtual 137, 3) := by decide +kernel
theorem dX7_uses_279 : decode cX7_uses 279 = .ok (.goto 5, 3) := by decide +kernel
theorem dX7_uses_282 : decode cX7_uses 282 = .ok (.iload 5, 2) := by decide +kernel
theorem dX7_uses_284 : decode cX7_uses 284 = .ok (.istore 5, 2) := by decide +kernel
theorem dX7_uses_286 : decode cX7_uses 286 = .ok (.iinc 7 1, 3) := by decide +kernel
theorem dX7_uses_289 : decode cX7_uses 289 = .ok (.goto (-51), 3) := by decide +kernel
theorem dX7_uses_292 : decode cX7_uses 292 = .ok (.iinc 6 1, 3) := by decide +kernel
theorem dX7_uses_295 : decode cX7_uses 295 = .ok (.goto (-66), 3) := by decide +kernel
theorem dX7_uses_298 : decode cX7_uses 298 = .ok (.aload_n 0, 1) := by decide +kernel
theorem dX7_uses_299 : decode cX7_uses 299 = .ok (.getfield 7, 3) := by decide +kernel
theorem dX7_uses_302 : decode cX7_uses 302 = .ok (.iload_n 1, 1) := by decide +kernel
theorem dX7_uses_303 : decode cX7_uses 303 = .ok (.iaload, 1) := by decide +kernel
theorem dX7_uses_304 : decode cX7_uses 304 = .ok (.iload 5, 2) := by decide +kernel
theorem dX7_uses_306 : decode cX7_uses 306 = .ok (.isub, 1) := by decide +kernel
theorem dX7_uses_307 : decode cX7_uses 307 = .ok (.ireturn, 1) := by decide +kernel
theorem dX7_layer_0 : decode cX7_layer 0 = .ok (.aload_n 0, 1) := by decide +kernel
theorem dX7_layer_1 : decode cX7_layer 1 = .ok (.aload_n 0, 1) := by decide +kernel
theorem dX7_layer_2 : decode cX7_layer 2 = .ok (.iload_n 1, 1) := by decide +kernel
theorem dX7_layer_3 : decode cX7_layer 3 = .ok (.invokevirtual 87, 3) := by decide +kernel
theorem dX7_layer_6 : decode cX7_layer 6 = .ok (.ifCond .eq 15, 3) := by decide +kernel
theorem dX7_layer_9 : decode cX7_layer 9 = .ok (.aload_n 0, 1) := by decide +kernel
theorem dX7_layer_10 : decode cX7_layer 10 = .ok (.iload_n 2, 1) := by decide +kernel
theorem dX7_layer_11 : decode cX7_layer 11 = .ok (.invokevirtual 87, 3) := by decide +kernel
theorem dX7_layer_14 : decode cX7_layer 14 = .ok (.ifCond .eq 7, 3) := by decide +kernel
theorem dX7_layer_17 : decode cX7_layer 17 = .ok (.iconst 0, 1) := by decide +kernel
theorem dX7_layer_18 : decode cX7_layer 18 = .ok (.goto 4, 3) := by decide +kernel
theorem dX7_layer_21 : decode cX7_layer 21 = .ok (.iconst 1, 1) := by decide +kernel
theorem dX7_layer_22 : decode cX7_layer 22 = .ok (.putfield 66, 3) := by decide +kernel
theorem dX7_layer_25 : decode cX7_layer 25 = .ok (.aload_n 0, 1) := by decide +kernel
theorem dX7_layer_26 : decode cX7_layer 26 = .ok (.getfield 66, 3) := by decide +kernel
theorem dX7_layer_29 : decode cX7_layer 29 = .ok (.ifCond .le 5, 3) := by decide +kernel
theorem dX7_layer_32 : decode cX7_layer 32 = .ok (.iconst 0, 1) := by decide +kernel
theorem dX7_layer_33 : decode cX7_layer 33 = .ok (.ireturn, 1) := by decide +kernel
theorem dX7_layer_34 : decode cX7_layer 34 = .ok (.aload_n 0, 1) := by decide +kernel
theorem dX7_layer_35 : decode cX7_layer 35 = .ok (.iload_n 1, 1) := by decide +kernel
theorem dX7_layer_36 : decode cX7_layer 36 = .ok (.invokevirtual 128, 3) := by decide +kernel
theorem dX7_layer_39 : decode cX7_layer 39 = .ok (.istore_n 3, 1) := by decide +kernel
theorem dX7_layer_40 : decode cX7_layer 40 = .ok (.iload_n 3, 1) := by decide +kernel
theorem dX7_layer_41 : decode cX7_layer 41 = .ok (.ifCond .ne 7, 3) := by decide +kernel
theorem dX7_layer_44 : decode cX7_layer 44 = .ok (.iconst 0, 1) := by decide +kernel
theorem dX7_layer_45 : decode cX7_layer 45 = .ok (.goto 9, 3) := by decide +kernel
theorem dX7_layer_48 : decode cX7_layer 48 = .ok (.aload_n 0, 1) := by decide +kernel
theorem dX7_layer_49 : decode cX7_layer 49 = .ok (.getfield 63, 3) := by decide +kernel
theorem dX7_layer_52 : decode cX7_layer 52 = .ok (.iload_n 2, 1) := by decide +kernel
theorem dX7_layer_53 : decode cX7_layer 53 = .ok (.iaload, 1) := by decide +kernel
theorem dX7_layer_54 : decode cX7_layer 54 = .ok (.ireturn, 1) := by decide +kernel
theorem dX7_layerAnew_0 : decode cX7_layerAnew 0 = .ok (.aload_n 0, 1) := by decide +kernel
theorem dX7_layerAnew_1 : decode cX7_layerAnew 1 = .ok (.iload_n 1, 1) := by decide +kernel
theorem dX7_layerAnew_2 : decode cX7_layerAnew 2 = .ok (.iload_n 2, 1) := by decide +kernel
theorem dX7_layerAnew_3 : decode cX7_layerAnew 3 = .ok (.invokevirtual 141, 3) := by decide +kernel
theorem dX7_layerAnew_6 : decode cX7_layerAnew 6 = .ok (.ireturn, 1) := by decide +kernel
theorem dX7_used_0 : decode cX7_used 0 = .ok (.aload_n 0, 1) := by decide +kernel
theorem dX7_used_1 : decode cX7_used 1 = .ok (.iconst 0, 1) := by decide +kernel
theorem dX7_used_2 : decode cX7_used 2 = .ok (.putfield 66, 3) := by decide +kernel
theorem dX7_used_5 : decode cX7_used 5 = .ok (.aload_n 0, 1) := by decide +kernel
theorem dX7_used_6 : decode cX7_used 6 = .ok (.iload_n 1, 1) := by decide +kernel
theorem dX7_used_7 : decode cX7_used 7 = .ok (.invokevirtual 87, 3) := by decide +kernel
theorem dX7_used_10 : decode cX7_used 10 = .ok (.ifCond .eq 11, 3) := by decide +kernel
theorem dX7_used_13 : decode cX7_used 13 = .ok (.aload_n 0, 1) := by decide +kernel
theorem dX7_used_14 : decode cX7_used 14 = .ok (.iload_n 1, 1) := by decide +kernel
theorem dX7_used_15 : decode cX7_used 15 = .ok (.invokevirtual 128, 3) := by decide +kernel
theorem dX7_used_18 : decode cX7_used 18 = .ok (.goto 8, 3) := by decide +kernel
theorem dX7_used_21 : decode cX7_used 21 = .ok (.aload_n 0, 1) := by decide +kernel
theorem dX7_used_22 : decode cX7_used 22 = .ok (.iconst 1, 1) := by decide +kernel
theorem dX7_used_23 : decode cX7_used 23 = .ok (.invokevirtual 83, 3) := by decide +kernel
theorem dX7_used_26 : decode cX7_used 26 = .ok (.ireturn, 1) := by decide +kernel
theorem dX7_viewers_0 : decode cX7_viewers 0 = .ok (.aload_n 0, 1) := by decide +kernel
theorem dX7_viewers_1 : decode cX7_viewers 1 = .ok (.iconst 0, 1) := by decide +kernel
theorem dX7_viewers_2 : decode cX7_viewers 2 = .ok (.putfield 66, 3) := by decide +kernel
theorem dX7_viewers_5 : decode cX7_viewers 5 = .ok (.aload_n 0, 1) := by decide +kernel
theorem dX7_viewers_6 : decode cX7_viewers 6 = .ok (.iload_n 1, 1) := by decide +kernel
theorem dX7_viewers_7 : decode cX7_viewers 7 = .ok (.invokevirtual 87, 3) := by decide +kernel
theorem dX7_viewers_10 : decode cX7_viewers 10 = .ok (.ifCond .ne 9, 3) := by decide +kernel
theorem dX7_viewers_13 : decode cX7_viewers 13 = .ok (.aload_n 0, 1) := by decide +kernel
theorem dX7_viewers_14 : decode cX7_viewers 14 = .ok (.iconst 1, 1) := by decide +kernel
theorem dX7_viewers_15 : decode cX7_viewers 15 = .ok (.invokevirtual 83, 3) := by decide +kernel
theorem dX7_viewers_18 : decode cX7_viewers 18 = .ok (.ireturn, 1) := by decide +kernel
theorem dX7_viewers_19 : decode cX7_viewers 19 = .ok (.iconst 0, 1) := by decide +kernel
theorem dX7_viewers_20 : decode cX7_viewers 20 = .ok (.istore_n 2, 1) := by decide +kernel
theorem dX7_viewers_21 : decode cX7_viewers 21 = .ok (.iconst 0, 1) := by decide +kernel
theorem dX7_viewers_22 : decode cX7_viewers 22 = .ok (.istore_n 3, 1) := by decide +kernel
theorem dX7_viewers_23 : decode cX7_viewers 23 = .ok (.iload_n 3, 1) := by decide +kernel
theorem dX7_viewers_24 : decode cX7_viewers 24 = .ok (.aload_n 0, 1) := by decide +kernel
theorem dX7_viewers_25 : decode cX7_viewers 25 = .ok (.getfield 70, 3) := by decide +kernel
theorem dX7_viewers_28 : decode cX7_viewers 28 = .ok (.if_icmp .ge 34, 3) := by decide +kernel
theorem dX7_viewers_31 : decode cX7_viewers 31 = .ok (.iload_n 2, 1) := by decide +kernel
theorem dX7_viewers_32 : decode cX7_viewers 32 = .ok (.aload_n 0, 1) := by decide +kernel
theorem dX7_viewers_33 : decode cX7_viewers 33 = .ok (.iload_n 3, 1) := by decide +kernel
theorem dX7_viewers_34 : decode cX7_viewers 34 = .ok (.invokevirtual 128, 3) := by decide +kernel
theorem dX7_viewers_37 : decode cX7_viewers 37 = .ok (.ifCond .le 16, 3) := by decide +kernel
theorem dX7_viewers_40 : decode cX7_viewers 40 = .ok (.aload_n 0, 1) := by decide +kernel
theorem dX7_viewers_41 : decode cX7_viewers 41 = .ok (.getfield 63, 3) := by decide +kernel
theorem dX7_viewers_44 : decode cX7_viewers 44 = .ok (.iload_n 1, 1) := by decide +kernel
theorem dX7_viewers_45 : decode cX7_viewers 45 = .ok (.iaload, 1) := by decide +kernel
theorem dX7_viewers_46 : decode cX7_viewers 46 = .ok (.ifCond .le 7, 3) := by decide +kernel
theorem dX7_viewers_49 : decode cX7_viewers 49 = .ok (.iconst 1, 1) := by decide +kernel
theorem dX7_viewers_50 : decode cX7_viewers 50 = .ok (.goto 4, 3) := by decide +kernel
theorem dX7_viewers_53 : decode cX7_viewers 53 = .ok (.iconst 0, 1) := by decide +kernel
theorem dX7_viewers_54 : decode cX7_viewers 54 = .ok (.iadd, 1) := by decide +kernel
theorem dX7_viewers_55 : decode cX7_viewers 55 = .ok (.istore_n 2, 1) := by decide +kernel
theorem dX7_viewers_56 : decode cX7_viewers 56 = .ok (.iinc 3 1, 3) := by decide +kernel
theorem dX7_viewers_59 : decode cX7_viewers 59 = .ok (.goto (-36), 3) := by decide +kernel
theorem dX7_viewers_62 : decode cX7_viewers 62 = .ok (.iload_n 2, 1) := by decide +kernel
theorem dX7_viewers_63 : decode cX7_viewers 63 = .ok (.ireturn, 1) := by decide +kernel
theorem dX7_sent_0 : decode cX7_sent 0 = .ok (.aload_n 0, 1) := by decide +kernel
theorem dX7_sent_1 : decode cX7_sent 1 = .ok (.iconst 0, 1) := by decide +kernel
theorem dX7_sent_2 : decode cX7_sent 2 = .ok (.putfield 66, 3) := by decide +kernel
theorem dX7_sent_5 : decode cX7_sent 5 = .ok (.aload_n 0, 1) := by decide +kernel
theorem dX7_sent_6 : decode cX7_sent 6 = .ok (.getfield 124, 3) := by decide +kernel
theorem dX7_sent_9 : decode cX7_sent 9 = .ok (.lreturn, 1) := by decide +kernel
theorem dX7_meanLayer_0 : decode cX7_meanLayer 0 = .ok (.iconst 0, 1) := by decide +kernel
theorem dX7_meanLayer_1 : decode cX7_meanLayer 1 = .ok (.istore_n 1, 1) := by decide +kernel
theorem dX7_meanLayer_2 : decode cX7_meanLayer 2 = .ok (.iconst 0, 1) := by decide +kernel
theorem dX7_meanLayer_3 : decode cX7_meanLayer 3 = .ok (.istore_n 2, 1) := by decide +kernel
theorem dX7_meanLayer_4 : decode cX7_meanLayer 4 = .ok (.iconst 0, 1) := by decide +kernel
theorem dX7_meanLayer_5 : decode cX7_meanLayer 5 = .ok (.istore_n 3, 1) := by decide +kernel
theorem dX7_meanLayer_6 : decode cX7_meanLayer 6 = .ok (.iload_n 3, 1) := by decide +kernel
theorem dX7_meanLayer_7 : decode cX7_meanLayer 7 = .ok (.aload_n 0, 1) := by decide +kernel
theorem dX7_meanLayer_8 : decode cX7_meanLayer 8 = .ok (.getfield 70, 3) := by decide +kernel
theorem dX7_meanLayer_11 : decode cX7_meanLayer 11 = .ok (.if_icmp .ge 75, 3) := by decide +kernel
theorem dX7_meanLayer_14 : decode cX7_meanLayer 14 = .ok (.iload_n 1, 1) := by decide +kernel
theorem dX7_meanLayer_15 : decode cX7_meanLayer 15 = .ok (.aload_n 0, 1) := by decide +kernel
theorem dX7_meanLayer_16 : decode cX7_meanLayer 16 = .ok (.getfield 19, 3) := by decide +kernel
theorem dX7_meanLayer_19 : decode cX7_meanLayer 19 = .ok (.iload_n 3, 1) := by decide +kernel
theorem dX7_meanLayer_20 : decode cX7_meanLayer 20 = .ok (.iaload, 1) := by decide +kernel
theorem dX7_meanLayer_21 : decode cX7_meanLayer 21 = .ok (.iconst (-1), 1) := by decide +kernel
theorem dX7_meanLayer_22 : decode cX7_meanLayer 22 = .ok (.if_icmp .ne 7, 3) := by decide +kernel
theorem dX7_meanLayer_25 : decode cX7_meanLayer 25 = .ok (.iconst 0, 1) := by decide +kernel
theorem dX7_meanLayer_26 : decode cX7_meanLayer 26 = .ok (.goto 16, 3) := by decide +kernel
theorem dX7_meanLayer_29 : decode cX7_meanLayer 29 = .ok (.aload_n 0, 1) := by decide +kernel
theorem dX7_meanLayer_30 : decode cX7_meanLayer 30 = .ok (.getfield 29, 3) := by decide +kernel
theorem dX7_meanLayer_33 : decode cX7_meanLayer 33 = .ok (.aload_n 0, 1) := by decide +kernel
theorem dX7_meanLayer_34 : decode cX7_meanLayer 34 = .ok (.getfield 19, 3) := by decide +kernel
theorem dX7_meanLayer_37 : decode cX7_meanLayer 37 = .ok (.iload_n 3, 1) := by decide +kernel
theorem dX7_meanLayer_38 : decode cX7_meanLayer 38 = .ok (.iaload, 1) := by decide +kernel
theorem dX7_meanLayer_39 : decode cX7_meanLayer 39 = .ok (.iaload, 1) := by decide +kernel
theorem dX7_meanLayer_40 : decode cX7_meanLayer 40 = .ok (.iconst 1, 1) := by decide +kernel
theorem dX7_meanLayer_41 : decode cX7_meanLayer 41 = .ok (.isub, 1) := by decide +kernel
theorem dX7_meanLayer_42 : decode cX7_meanLayer 42 = .ok (.iadd, 1) := by decide +kernel
theorem dX7_meanLayer_43 : decode cX7_meanLayer 43 = .ok (.istore_n 1, 1) := by decide +kernel
theorem dX7_meanLayer_44 : decode cX7_meanLayer 44 = .ok (.aload_n 0, 1) := by decide +kernel
theorem dX7_meanLayer_45 : decode cX7_meanLayer 45 = .ok (.iload_n 3, 1) := by decide +kernel
theorem dX7_meanLayer_46 : decode cX7_meanLayer 46 = .ok (.invokevirtual 128, 3) := by decide +kernel
theorem dX7_meanLayer_49 : decode cX7_meanLayer 49 = .ok (.ifCond .le 31, 3) := by decide +kernel
theorem dX7_meanLayer_52 : decode cX7_meanLayer 52 = .ok (.iconst 0, 1) := by decide +kernel
theorem dX7_meanLayer_53 : decode cX7_meanLayer 53 = .ok (.istore 4, 2) := by decide +kernel
theorem dX7_meanLayer_55 : decode cX7_meanLayer 55 = .ok (.iload 4, 2) := by decide +kernel
theorem dX7_meanLayer_57 : decode cX7_meanLayer 57 = .ok (.aload_n 0, 1) := by decide +kernel
theorem dX7_meanLayer_58 : decode cX7_meanLayer 58 = .ok (.getfield 70, 3) := by decide +kernel
theorem dX7_meanLayer_61 : decode cX7_meanLayer 61 = .ok (.if_icmp .ge 19, 3) := by decide +kernel
theorem dX7_meanLayer_64 : decode cX7_meanLayer 64 = .ok (.iload_n 2, 1) := by decide +kernel
theorem dX7_meanLayer_65 : decode cX7_meanLayer 65 = .ok (.aload_n 0, 1) := by decide +kernel
theorem dX7_meanLayer_66 : decode cX7_meanLayer 66 = .ok (.getfield 63, 3) := by decide +kernel
theorem dX7_meanLayer_69 : decode cX7_meanLayer 69 = .ok (.iload 4, 2) := by decide +kernel
theorem dX7_meanLayer_71 : decode cX7_meanLayer 71 = .ok (.iaload, 1) := by decide +kernel
theorem dX7_meanLayer_72 : decode cX7_meanLayer 72 = .ok (.iadd, 1) := by decide +kernel
theorem dX7_meanLayer_73 : decode cX7_meanLayer 73 = .ok (.istore_n 2, 1) := by decide +kernel
theorem dX7_meanLayer_74 : decode cX7_meanLayer 74 = .ok (.iinc 4 1, 3) := by decide +kernel
theorem dX7_meanLayer_77 : decode cX7_meanLayer 77 = .ok (.goto (-22), 3) := by decide +kernel
theorem dX7_meanLayer_80 : decode cX7_meanLayer 80 = .ok (.iinc 3 1, 3) := by decide +kernel
theorem dX7_meanLayer_83 : decode cX7_meanLayer 83 = .ok (.goto (-77), 3) := by decide +kernel
theorem dX7_meanLayer_86 : decode cX7_meanLayer 86 = .ok (.aload_n 0, 1) := by decide +kernel
theorem dX7_meanLayer_87 : decode cX7_meanLayer 87 = .ok (.iload_n 1, 1) := by decide +kernel
theorem dX7_meanLayer_88 : decode cX7_meanLayer 88 = .ok (.ifCond .ne 7, 3) := by decide +kernel
theorem dX7_meanLayer_91 : decode cX7_meanLayer 91 = .ok (.iconst 1, 1) := by decide +kernel
theorem dX7_meanLayer_92 : decode cX7_meanLayer 92 = .ok (.goto 4, 3) := by decide +kernel
theorem dX7_meanLayer_95 : decode cX7_meanLayer 95 = .ok (.iconst 0, 1) := by decide +kernel
theorem dX7_meanLayer_96 : decode cX7_meanLayer 96 = .ok (.putfield 66, 3) := by decide +kernel
theorem dX7_meanLayer_99 : decode cX7_meanLayer 99 = .ok (.aload_n 0, 1) := by decide +kernel
theorem dX7_meanLayer_100 : decode cX7_meanLayer 100 = .ok (.getfield 66, 3) := by decide +kernel
theorem dX7_meanLayer_103 : decode cX7_meanLayer 103 = .ok (.ifCond .le 7, 3) := by decide +kernel
theorem dX7_meanLayer_106 : decode cX7_meanLayer 106 = .ok (.dconst 0, 1) := by decide +kernel
theorem dX7_meanLayer_107 : decode cX7_meanLayer 107 = .ok (.goto 8, 3) := by decide +kernel
theorem dX7_meanLayer_110 : decode cX7_meanLayer 110 = .ok (.iload_n 2, 1) := by decide +kernel
theorem dX7_meanLayer_111 : decode cX7_meanLayer 111 = .ok (.i2d, 1) := by decide +kernel
theorem dX7_meanLayer_112 : decode cX7_meanLayer 112 = .ok (.iload_n 1, 1) := by decide +kernel
theorem dX7_meanLayer_113 : decode cX7_meanLayer 113 = .ok (.i2d, 1) := by decide +kernel
theorem dX7_meanLayer_114 : decode cX7_meanLayer 114 = .ok (.ddiv, 1) := by decide +kernel
theorem dX7_meanLayer_115 : decode cX7_meanLayer 115 = .ok (.dreturn, 1) := by decide +kernel
theorem dX7_usedShare_0 : decode cX7_usedShare 0 = .ok (.iconst 0, 1) := by decide +kernel
theorem dX7_usedShare_1 : decode cX7_usedShare 1 = .ok (.istore_n 1, 1) := by decide +kernel
theorem dX7_usedShare_2 : decode cX7_usedShare 2 = .ok (.iconst 0, 1) := by decide +kernel
theorem dX7_usedShare_3 : decode cX7_usedShare 3 = .ok (.istore_n 2, 1) := by decide +kernel
theorem dX7_usedShare_4 : decode cX7_usedShare 4 = .ok (.iconst 0, 1) := by decide +kernel
theorem dX7_usedShare_5 : decode cX7_usedShare 5 = .ok (.istore_n 3, 1) := by decide +kernel
theorem dX7_usedShare_6 : decode cX7_usedShare 6 = .ok (.iload_n 3, 1) := by decide +kernel
theorem dX7_usedShare_7 : decode cX7_usedShare 7 = .ok (.aload_n 0, 1) := by decide +kernel
theorem dX7_usedShare_8 : decode cX7_usedShare 8 = .ok (.getfield 70, 3) := by decide +kernel
theorem dX7_usedShare_11 : decode cX7_usedShare 11 = .ok (.if_icmp .ge 26, 3) := by decide +kernel
theorem dX7_usedShare_14 : decode cX7_usedShare 14 = .ok (.iload_n 1, 1) := by decide +kernel
theorem dX7_usedShare_15 : decode cX7_usedShare 15 = .ok (.aload_n 0, 1) := by decide +kernel
theorem dX7_usedShare_16 : decode cX7_usedShare 16 = .ok (.iload_n 3, 1) := by decide +kernel
theorem dX7_usedShare_17 : decode cX7_usedShare 17 = .ok (.invokevirtual 128, 3) := by decide +kernel
theorem dX7_usedShare_20 : decode cX7_usedShare 20 = .ok (.iadd, 1) := by decide +kernel
theorem dX7_usedShare_21 : decode cX7_usedShare 21 = .ok (.istore_n 1, 1) := by decide +kernel
theorem dX7_usedShare_22 : decode cX7_usedShare 22 = .ok (.iload_n 2, 1) := by decide +kernel
theorem dX7_usedShare_23 : decode cX7_usedShare 23 = .ok (.aload_n 0, 1) := by decide +kernel
theorem dX7_usedShare_24 : decode cX7_usedShare 24 = .ok (.getfield 7, 3) := by decide +kernel
theorem dX7_usedShare_27 : decode cX7_usedShare 27 = .ok (.iload_n 3, 1) := by decide +kernel
theorem dX7_usedShare_28 : decode cX7_usedShare 28 = .ok (.iaload, 1) := by decide +kernel
theorem dX7_usedShare_29 : decode cX7_usedShare 29 = .ok (.iadd, 1) := by decide +kernel
theorem dX7_usedShare_30 : decode cX7_usedShare 30 = .ok (.istore_n 2, 1) := by decide +kernel
theorem dX7_usedShare_31 : decode cX7_usedShare 31 = .ok (.iinc 3 1, 3) := by decide +kernel
theorem dX7_usedShare_34 : decode cX7_usedShare 34 = .ok (.goto (-28), 3) := by decide +kernel
theorem dX7_usedShare_37 : decode cX7_usedShare 37 = .ok (.aload_n 0, 1) := by decide +kernel
theorem dX7_usedShare_38 : decode cX7_usedShare 38 = .ok (.iload_n 2, 1) := by decide +kernel
theorem dX7_usedShare_39 : decode cX7_usedShare 39 = .ok (.ifCond .ne 7, 3) := by decide +kernel
theorem dX7_usedShare_42 : decode cX7_usedShare 42 = .ok (.iconst 1, 1) := by decide +kernel
theorem dX7_usedShare_43 : decode cX7_usedShare 43 = .ok (.goto 4, 3) := by decide +kernel
theorem dX7_usedShare_46 : decode cX7_usedShare 46 = .ok (.iconst 0, 1) := by decide +kernel
theorem dX7_usedShare_47 : decode cX7_usedShare 47 = .ok (.putfield 66, 3) := by decide +kernel
theorem dX7_usedShare_50 : decode cX7_usedShare 50 = .ok (.aload_n 0, 1) := by decide +kernel
theorem dX7_usedShare_51 : decode cX7_usedShare 51 = .ok (.getfield 66, 3) := by decide +kernel
theorem dX7_usedShare_54 : decode cX7_usedShare 54 = .ok (.ifCond .le 7, 3) := by decide +kernel
theorem dX7_usedShare_57 : decode cX7_usedShare 57 = .ok (.fconst 0, 1) := by decide +kernel
theorem dX7_usedShare_58 : decode cX7_usedShare 58 = .ok (.goto 8, 3) := by decide +kernel
theorem dX7_usedShare_61 : decode cX7_usedShare 61 = .ok (.iload_n 1, 1) := by decide +kernel
theorem dX7_usedShare_62 : decode cX7_usedShare 62 = .ok (.i2f, 1) := by decide +kernel
theorem dX7_usedShare_63 : decode cX7_usedShare 63 = .ok (.iload_n 2, 1) := by decide +kernel
theorem dX7_usedShare_64 : decode cX7_usedShare 64 = .ok (.i2f, 1) := by decide +kernel
theorem dX7_usedShare_65 : decode cX7_usedShare 65 = .ok (.fdiv, 1) := by decide +kernel
theorem dX7_usedShare_66 : decode cX7_usedShare 66 = .ok (.freturn, 1) := by decide +kernel
theorem dX7_record_0 : decode cX7_record 0 = .ok (.aload_n 0, 1) := by decide +kernel
theorem dX7_record_1 : decode cX7_record 1 = .ok (.iconst 0, 1) := by decide +kernel
theorem dX7_record_2 : decode cX7_record 2 = .ok (.putfield 66, 3) := by decide +kernel
theorem dX7_record_5 : decode cX7_record 5 = .ok (.aload_n 0, 1) := by decide +kernel
theorem dX7_record_6 : decode cX7_record 6 = .ok (.iload_n 1, 1) := by decide +kernel
theorem dX7_record_7 : decode cX7_record 7 = .ok (.invokevirtual 95, 3) := by decide +kernel
theorem dX7_record_10 : decode cX7_record 10 = .ok (.ifCond .ne 9, 3) := by decide +kernel
theorem dX7_record_13 : decode cX7_record 13 = .ok (.aload_n 0, 1) := by decide +kernel
theorem dX7_record_14 : decode cX7_record 14 = .ok (.iconst 1, 1) := by decide +kernel
theorem dX7_record_15 : decode cX7_record 15 = .ok (.invokevirtual 83, 3) := by decide +kernel
theorem dX7_record_18 : decode cX7_record 18 = .ok (.ireturn, 1) := by decide +kernel
theorem dX7_record_19 : decode cX7_record 19 = .ok (.aload_n 0, 1) := by decide +kernel
theorem dX7_record_20 : decode cX7_record 20 = .ok (.getfield 80, 3) := by decide +kernel
theorem dX7_record_23 : decode cX7_record 23 = .ok (.bipush 8, 2) := by decide +kernel
theorem dX7_record_25 : decode cX7_record 25 = .ok (.if_icmp .ne 9, 3) := by decide +kernel
theorem dX7_record_28 : decode cX7_record 28 = .ok (.aload_n 0, 1) := by decide +kernel
theorem dX7_record_29 : decode cX7_record 29 = .ok (.iconst 2, 1) := by decide +kernel
theorem dX7_record_30 : decode cX7_record 30 = .ok (.invokevirtual 83, 3) := by decide +kernel
theorem dX7_record_33 : decode cX7_record 33 = .ok (.ireturn, 1) := by decide +kernel
theorem dX7_record_34 : decode cX7_record 34 = .ok (.aload_n 0, 1) := by decide +kernel
theorem dX7_record_35 : decode cX7_record 35 = .ok (.getfield 47, 3) := by decide +kernel
theorem dX7_record_38 : decode cX7_record 38 = .ok (.aload_n 0, 1) := by decide +kernel
theorem dX7_record_39 : decode cX7_record 39 = .ok (.getfield 80, 3) := by decide +kernel
theorem dX7_record_42 : decode cX7_record 42 = .ok (.iload_n 1, 1) := by decide +kernel
theorem dX7_record_43 : decode cX7_record 43 = .ok (.iastore, 1) := by decide +kernel
theorem dX7_record_44 : decode cX7_record 44 = .ok (.aload_n 0, 1) := by decide +kernel
theorem dX7_record_45 : decode cX7_record 45 = .ok (.dup, 1) := by decide +kernel
theorem dX7_record_46 : decode cX7_record 46 = .ok (.getfield 80, 3) := by decide +kernel
theorem dX7_record_49 : decode cX7_record 49 = .ok (.iconst 1, 1) := by decide +kernel
theorem dX7_record_50 : decode cX7_record 50 = .ok (.iadd, 1) := by decide +kernel
theorem dX7_record_51 : decode cX7_record 51 = .ok (.putfield 80, 3) := by decide +kernel
theorem dX7_record_54 : decode cX7_record 54 = .ok (.aload_n 0, 1) := by decide +kernel
theorem dX7_record_55 : decode cX7_record 55 = .ok (.getfield 80, 3) := by decide +kernel
theorem dX7_record_58 : decode cX7_record 58 = .ok (.iconst 1, 1) := by decide +kernel
theorem dX7_record_59 : decode cX7_record 59 = .ok (.isub, 1) := by decide +kernel
theorem dX7_record_60 : decode cX7_record 60 = .ok (.ireturn, 1) := by decide +kernel
theorem dX7_stop_0 : decode cX7_stop 0 = .ok (.aload_n 0, 1) := by decide +kernel
theorem dX7_stop_1 : decode cX7_stop 1 = .ok (.iconst 0, 1) := by decide +kernel
theorem dX7_stop_2 : decode cX7_stop 2 = .ok (.putfield 66, 3) := by decide +kernel
theorem dX7_stop_5 : decode cX7_stop 5 = .ok (.aload_n 0, 1) := by decide +kernel
theorem dX7_stop_6 : decode cX7_stop 6 = .ok (.iload_n 1, 1) := by decide +kernel
theorem dX7_stop_7 : decode cX7_stop 7 = .ok (.invokevirtual 145, 3) := by decide +kernel
theorem dX7_stop_10 : decode cX7_stop 10 = .ok (.ifCond .ne 9, 3) := by decide +kernel
theorem dX7_stop_13 : decode cX7_stop 13 = .ok (.aload_n 0, 1) := by decide +kernel
theorem dX7_stop_14 : decode cX7_stop 14 = .ok (.iconst 1, 1) := by decide +kernel
theorem dX7_stop_15 : decode cX7_stop 15 = .ok (.invokevirtual 83, 3) := by decide +kernel
theorem dX7_stop_18 : decode cX7_stop 18 = .ok (.ireturn, 1) := by decide +kernel
theorem dX7_stop_19 : decode cX7_stop 19 = .ok (.aload_n 0, 1) := by decide +kernel
theorem dX7_stop_20 : decode cX7_stop 20 = .ok (.getfield 50, 3) := by decide +kernel
theorem dX7_stop_23 : decode cX7_stop 23 = .ok (.iload_n 1, 1) := by decide +kernel
theorem dX7_stop_24 : decode cX7_stop 24 = .ok (.baload, 1) := by decide +kernel
theorem dX7_stop_25 : decode cX7_stop 25 = .ok (.ifCond .eq 9, 3) := by decide +kernel
theorem dX7_stop_28 : decode cX7_stop 28 = .ok (.aload_n 0, 1) := by decide +kernel
theorem dX7_stop_29 : decode cX7_stop 29 = .ok (.iconst 2, 1) := by decide +kernel
theorem dX7_stop_30 : decode cX7_stop 30 = .ok (.invokevirtual 83, 3) := by decide +kernel
theorem dX7_stop_33 : decode cX7_stop 33 = .ok (.ireturn, 1) := by decide +kernel
theorem dX7_stop_34 : decode cX7_stop 34 = .ok (.aload_n 0, 1) := by decide +kernel
theorem dX7_stop_35 : decode cX7_stop 35 = .ok (.getfield 50, 3) := by decide +kernel
theorem dX7_stop_38 : decode cX7_stop 38 = .ok (.iload_n 1, 1) := by decide +kernel
theorem dX7_stop_39 : decode cX7_stop 39 = .ok (.iconst 1, 1) := by decide +kernel
theorem dX7_stop_40 : decode cX7_stop 40 = .ok (.bastore, 1) := by decide +kernel
theorem dX7_stop_41 : decode cX7_stop 41 = .ok (.aload_n 0, 1) := by decide +kernel
theorem dX7_stop_42 : decode cX7_stop 42 = .ok (.getfield 54, 3) := by decide +kernel
theorem dX7_stop_45 : decode cX7_stop 45 = .ok (.iload_n 1, 1) := by decide +kernel
theorem dX7_stop_46 : decode cX7_stop 46 = .ok (.iaload, 1) := by decide +kernel
theorem dX7_stop_47 : decode cX7_stop 47 = .ok (.ireturn, 1) := by decide +kernel
theorem dX7_stateOf_0 : decode cX7_stateOf 0 = .ok (.aload_n 0, 1) := by decide +kernel
theorem dX7_stateOf_1 : decode cX7_stateOf 1 = .ok (.aload_n 0, 1) := by decide +kernel
theorem dX7_stateOf_2 : decode cX7_stateOf 2 = .ok (.iload_n 1, 1) := by decide +kernel
theorem dX7_stateOf_3 : decode cX7_stateOf 3 = .ok (.invokevirtual 145, 3) := by decide +kernel
theorem dX7_stateOf_6 : decode cX7_stateOf 6 = .ok (.ifCond .eq 7, 3) := by decide +kernel
theorem dX7_stateOf_9 : decode cX7_stateOf 9 = .ok (.iconst 0, 1) := by decide +kernel
theorem dX7_stateOf_10 : decode cX7_stateOf 10 = .ok (.goto 4, 3) := by decide +kernel
theorem dX7_stateOf_13 : decode cX7_stateOf 13 = .ok (.iconst 1, 1) := by decide +kernel
theorem dX7_stateOf_14 : decode cX7_stateOf 14 = .ok (.putfield 66, 3) := by decide +kernel
theorem dX7_stateOf_17 : decode cX7_stateOf 17 = .ok (.aload_n 0, 1) := by decide +kernel
theorem dX7_stateOf_18 : decode cX7_stateOf 18 = .ok (.getfield 66, 3) := by decide +kernel
theorem dX7_stateOf_21 : decode cX7_stateOf 21 = .ok (.ifCond .le 7, 3) := by decide +kernel
theorem dX7_stateOf_24 : decode cX7_stateOf 24 = .ok (.iconst 0, 1) := by decide +kernel
theorem dX7_stateOf_25 : decode cX7_stateOf 25 = .ok (.goto 19, 3) := by decide +kernel
theorem dX7_stateOf_28 : decode cX7_stateOf 28 = .ok (.aload_n 0, 1) := by decide +kernel
theorem dX7_stateOf_29 : decode cX7_stateOf 29 = .ok (.getfield 50, 3) := by decide +kernel
theorem dX7_stateOf_32 : decode cX7_stateOf 32 = .ok (.iload_n 1, 1) := by decide +kernel
theorem dX7_stateOf_33 : decode cX7_stateOf 33 = .ok (.baload, 1) := by decide +kernel
theorem dX7_stateOf_34 : decode cX7_stateOf 34 = .ok (.ifCond .eq 8, 3) := by decide +kernel
theorem dX7_stateOf_37 : decode cX7_stateOf 37 = .ok (.bipush 115, 2) := by decide +kernel
theorem dX7_stateOf_39 : decode cX7_stateOf 39 = .ok (.goto 5, 3) := by decide +kernel
theorem dX7_stateOf_42 : decode cX7_stateOf 42 = .ok (.bipush 114, 2) := by decide +kernel
theorem dX7_stateOf_44 : decode cX7_stateOf 44 = .ok (.ireturn, 1) := by decide +kernel
theorem dX7_follows_0 : decode cX7_follows 0 = .ok (.aload_n 0, 1) := by decide +kernel
theorem dX7_follows_1 : decode cX7_follows 1 = .ok (.iconst 0, 1) := by decide +kernel
theorem dX7_follows_2 : decode cX7_follows 2 = .ok (.putfield 66, 3) := by decide +kernel
theorem dX7_follows_5 : decode cX7_follows 5 = .ok (.aload_n 0, 1) := by decide +kernel
theorem dX7_follows_6 : decode cX7_follows 6 = .ok (.iload_n 1, 1) := by decide +kernel
theorem dX7_follows_7 : decode cX7_follows 7 = .ok (.invokevirtual 145, 3) := by decide +kernel
theorem dX7_follows_10 : decode cX7_follows 10 = .ok (.ifCond .ne 9, 3) := by decide +kernel
theorem dX7_follows_13 : decode cX7_follows 13 = .ok (.aload_n 0, 1) := by decide +kernel
theorem dX7_follows_14 : decode cX7_follows 14 = .ok (.iconst 1, 1) := by decide +kernel
theorem dX7_follows_15 : decode cX7_follows 15 = .ok (.invokevirtual 83, 3) := by decide +kernel
theorem dX7_follows_18 : decode cX7_follows 18 = .ok (.ireturn, 1) := by decide +kernel
theorem dX7_follows_19 : decode cX7_follows 19 = .ok (.aload_n 0, 1) := by decide +kernel
theorem dX7_follows_20 : decode cX7_follows 20 = .ok (.getfield 50, 3) := by decide +kernel
theorem dX7_follows_23 : decode cX7_follows 23 = .ok (.iload_n 1, 1) := by decide +kernel
theorem dX7_follows_24 : decode cX7_follows 24 = .ok (.baload, 1) := by decide +kernel
theorem dX7_follows_25 : decode cX7_follows 25 = .ok (.ifCond .eq 11, 3) := by decide +kernel
theorem dX7_follows_28 : decode cX7_follows 28 = .ok (.aload_n 0, 1) := by decide +kernel
theorem dX7_follows_29 : decode cX7_follows 29 = .ok (.iconst 2, 1) := by decide +kernel
theorem dX7_follows_30 : decode cX7_follows 30 = .ok (.invokevirtual 83, 3) := by decide +kernel
theorem dX7_follows_33 : decode cX7_follows 33 = .ok (.goto 9, 3) := by decide +kernel
theorem dX7_follows_36 : decode cX7_follows 36 = .ok (.aload_n 0, 1) := by decide +kernel
theorem dX7_follows_37 : decode cX7_follows 37 = .ok (.getfield 47, 3) := by decide +kernel
theorem dX7_follows_40 : decode cX7_follows 40 = .ok (.iload_n 1, 1) := by decide +kernel
theorem dX7_follows_41 : decode cX7_follows 41 = .ok (.iaload, 1) := by decide +kernel
theorem dX7_follows_42 : decode cX7_follows 42 = .ok (.ireturn, 1) := by decide +kernel
theorem dX7_noteAt_0 : decode cX7_noteAt 0 = .ok (.aload_n 0, 1) := by decide +kernel
theorem dX7_noteAt_1 : decode cX7_noteAt 1 = .ok (.iconst 0, 1) := by decide +kernel
theorem dX7_noteAt_2 : decode cX7_noteAt 2 = .ok (.putfield 66, 3) := by decide +kernel
theorem dX7_noteAt_5 : decode cX7_noteAt 5 = .ok (.aload_n 0, 1) := by decide +kernel
theorem dX7_noteAt_6 : decode cX7_noteAt 6 = .ok (.iload_n 1, 1) := by decide +kernel
theorem dX7_noteAt_7 : decode cX7_noteAt 7 = .ok (.invokevirtual 145, 3) := by decide +kernel
theorem dX7_noteAt_10 : decode cX7_noteAt 10 = .ok (.ifCond .ne 9, 3) := by decide +kernel
theorem dX7_noteAt_13 : decode cX7_noteAt 13 = .ok (.aload_n 0, 1) := by decide +kernel
theorem dX7_noteAt_14 : decode cX7_noteAt 14 = .ok (.iconst 1, 1) := by decide +kernel
theorem dX7_noteAt_15 : decode cX7_noteAt 15 = .ok (.invokevirtual 83, 3) := by decide +kernel
theorem dX7_noteAt_18 : decode cX7_noteAt 18 = .ok (.ireturn, 1) := by decide +kernel
theorem dX7_noteAt_19 : decode cX7_noteAt 19 = .ok (.iload_n 2, 1) := by decide +kernel
theorem dX7_noteAt_20 : decode cX7_noteAt 20 = .ok (.iconst 0, 1) := by decide +kernel
theorem dX7_noteAt_21 : decode cX7_noteAt 21 = .ok (.aload_n 0, 1) := by decide +kernel
theorem dX7_noteAt_22 : decode cX7_noteAt 22 = .ok (.getfield 54, 3) := by decide +kernel
theorem dX7_noteAt_25 : decode cX7_noteAt 25 = .ok (.iload_n 1, 1) := by decide +kernel
theorem dX7_noteAt_26 : decode cX7_noteAt 26 = .ok (.iaload, 1) := by decide +kernel
theorem dX7_noteAt_27 : decode cX7_noteAt 27 = .ok (.iconst 1, 1) := by decide +kernel
theorem dX7_noteAt_28 : decode cX7_noteAt 28 = .ok (.isub, 1) := by decide +kernel
theorem dX7_noteAt_29 : decode cX7_noteAt 29 = .ok (.invokestatic 73, 3) := by decide +kernel
theorem dX7_noteAt_32 : decode cX7_noteAt 32 = .ok (.ifCond .eq 18, 3) := by decide +kernel
theorem dX7_noteAt_35 : decode cX7_noteAt 35 = .ok (.aload_n 0, 1) := by decide +kernel
theorem dX7_noteAt_36 : decode cX7_noteAt 36 = .ok (.getfield 57, 3) := by decide +kernel
theorem dX7_noteAt_39 : decode cX7_noteAt 39 = .ok (.sipush 2000, 3) := by decide +kernel
theorem dX7_noteAt_42 : decode cX7_noteAt 42 = .ok (.iload_n 1, 1) := by decide +kernel
theorem dX7_noteAt_43 : decode cX7_noteAt 43 = .ok (.imul, 1) := by decide +kernel
theorem dX7_noteAt_44 : decode cX7_noteAt 44 = .ok (.iload_n 2, 1) := by decide +kernel
theorem dX7_noteAt_45 : decode cX7_noteAt 45 = .ok (.iadd, 1) := by decide +kernel
theorem dX7_noteAt_46 : decode cX7_noteAt 46 = .ok (.iaload, 1) := by decide +kernel
theorem dX7_noteAt_47 : decode cX7_noteAt 47 = .ok (.goto 8, 3) := by decide +kernel
theorem dX7_noteAt_50 : decode cX7_noteAt 50 = .ok (.aload_n 0, 1) := by decide +kernel
theorem dX7_noteAt_51 : decode cX7_noteAt 51 = .ok (.iconst 2, 1) := by decide +kernel
theorem dX7_noteAt_52 : decode cX7_noteAt 52 = .ok (.invokevirtual 83, 3) := by decide +kernel
theorem dX7_noteAt_55 : decode cX7_noteAt 55 = .ok (.ireturn, 1) := by decide +kernel
theorem dX7_isApart_0 : decode cX7_isApart 0 = .ok (.aload_n 0, 1) := by decide +kernel
theorem dX7_isApart_1 : decode cX7_isApart 1 = .ok (.iconst 0, 1) := by decide +kernel
theorem dX7_isApart_2 : decode cX7_isApart 2 = .ok (.putfield 66, 3) := by decide +kernel
theorem dX7_isApart_5 : decode cX7_isApart 5 = .ok (.iconst 0, 1) := by decide +kernel
theorem dX7_isApart_6 : decode cX7_isApart 6 = .ok (.istore_n 1, 1) := by decide +kernel
theorem dX7_isApart_7 : decode cX7_isApart 7 = .ok (.iload_n 1, 1) := by decide +kernel
theorem dX7_isApart_8 : decode cX7_isApart 8 = .ok (.aload_n 0, 1) := by decide +kernel
theorem dX7_isApart_9 : decode cX7_isApart 9 = .ok (.getfield 70, 3) := by decide +kernel
theorem dX7_isApart_12 : decode cX7_isApart 12 = .ok (.if_icmp .ge 25, 3) := by decide +kernel
theorem dX7_isApart_15 : decode cX7_isApart 15 = .ok (.aload_n 0, 1) := by decide +kernel
theorem dX7_isApart_16 : decode cX7_isApart 16 = .ok (.iload_n 1, 1) := by decide +kernel
theorem dX7_isApart_17 : decode cX7_isApart 17 = .ok (.invokevirtual 128, 3) := by decide +kernel
theorem dX7_isApart_20 : decode cX7_isApart 20 = .ok (.aload_n 0, 1) := by decide +kernel
theorem dX7_isApart_21 : decode cX7_isApart 21 = .ok (.getfield 7, 3) := by decide +kernel
theorem dX7_isApart_24 : decode cX7_isApart 24 = .ok (.iload_n 1, 1) := by decide +kernel
theorem dX7_isApart_25 : decode cX7_isApart 25 = .ok (.iaload, 1) := by decide +kernel
theorem dX7_isApart_26 : decode cX7_isApart 26 = .ok (.if_icmp .le 5, 3) := by decide +kernel
theorem dX7_isApart_29 : decode cX7_isApart 29 = .ok (.iconst 0, 1) := by decide +kernel
theorem dX7_isApart_30 : decode cX7_isApart 30 = .ok (.ireturn, 1) := by decide +kernel
theorem dX7_isApart_31 : decode cX7_isApart 31 = .ok (.iinc 1 1, 3) := by decide +kernel
theorem dX7_isApart_34 : decode cX7_isApart 34 = .ok (.goto (-27), 3) := by decide +kernel
theorem dX7_isApart_37 : decode cX7_isApart 37 = .ok (.iconst 1, 1) := by decide +kernel
theorem dX7_isApart_38 : decode cX7_isApart 38 = .ok (.ireturn, 1) := by decide +kernel
