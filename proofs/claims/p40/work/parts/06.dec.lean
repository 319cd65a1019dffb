theorem dX0_init_0 : decode cX0_init 0 = .ok (.aload_n 0, 1) := by decide +kernel
theorem dX0_init_1 : decode cX0_init 1 = .ok (.invokespecial 3, 3) := by decide +kernel
theorem dX0_init_4 : decode cX0_init 4 = .ok (.aload_n 0, 1) := by decide +kernel
theorem dX0_init_5 : decode cX0_init 5 = .ok (.new 9, 3) := by decide +kernel
theorem dX0_init_8 : decode cX0_init 8 = .ok (.dup, 1) := by decide +kernel
theorem dX0_init_9 : decode cX0_init 9 = .ok (.invokespecial 11, 3) := by decide +kernel
theorem dX0_init_12 : decode cX0_init 12 = .ok (.putfield 12, 3) := by decide +kernel
theorem dX0_init_15 : decode cX0_init 15 = .ok (.aload_n 0, 1) := by decide +kernel
theorem dX0_init_16 : decode cX0_init 16 = .ok (.bipush 10, 2) := by decide +kernel
theorem dX0_init_18 : decode cX0_init 18 = .ok (.anewarray 18, 3) := by decide +kernel
theorem dX0_init_21 : decode cX0_init 21 = .ok (.putfield 20, 3) := by decide +kernel
theorem dX0_init_24 : decode cX0_init 24 = .ok (.return_, 1) := by decide +kernel
theorem dX0_choose_0 : decode cX0_choose 0 = .ok (.aload_n 0, 1) := by decide +kernel
theorem dX0_choose_1 : decode cX0_choose 1 = .ok (.getfield 12, 3) := by decide +kernel
theorem dX0_choose_4 : decode cX0_choose 4 = .ok (.invokevirtual 24, 3) := by decide +kernel
theorem dX0_choose_7 : decode cX0_choose 7 = .ok (.aload_n 0, 1) := by decide +kernel
theorem dX0_choose_8 : decode cX0_choose 8 = .ok (.aload_n 1, 1) := by decide +kernel
theorem dX0_choose_9 : decode cX0_choose 9 = .ok (.getfield 27, 3) := by decide +kernel
theorem dX0_choose_12 : decode cX0_choose 12 = .ok (.putfield 31, 3) := by decide +kernel
theorem dX0_choose_15 : decode cX0_choose 15 = .ok (.aload_n 0, 1) := by decide +kernel
theorem dX0_choose_16 : decode cX0_choose 16 = .ok (.aload_n 1, 1) := by decide +kernel
theorem dX0_choose_17 : decode cX0_choose 17 = .ok (.invokevirtual 34, 3) := by decide +kernel
theorem dX0_choose_20 : decode cX0_choose 20 = .ok (.aload_n 0, 1) := by decide +kernel
theorem dX0_choose_21 : decode cX0_choose 21 = .ok (.iconst 1, 1) := by decide +kernel
theorem dX0_choose_22 : decode cX0_choose 22 = .ok (.invokevirtual 38, 3) := by decide +kernel
theorem dX0_choose_25 : decode cX0_choose 25 = .ok (.aload_n 0, 1) := by decide +kernel
theorem dX0_choose_26 : decode cX0_choose 26 = .ok (.aload_n 0, 1) := by decide +kernel
theorem dX0_choose_27 : decode cX0_choose 27 = .ok (.iconst 0, 1) := by decide +kernel
theorem dX0_choose_28 : decode cX0_choose 28 = .ok (.invokevirtual 42, 3) := by decide +kernel
theorem dX0_choose_31 : decode cX0_choose 31 = .ok (.iconst 2, 1) := by decide +kernel
theorem dX0_choose_32 : decode cX0_choose 32 = .ok (.invokevirtual 46, 3) := by decide +kernel
theorem dX0_choose_35 : decode cX0_choose 35 = .ok (.aload_n 0, 1) := by decide +kernel
theorem dX0_choose_36 : decode cX0_choose 36 = .ok (.aload_n 0, 1) := by decide +kernel
theorem dX0_choose_37 : decode cX0_choose 37 = .ok (.iconst 0, 1) := by decide +kernel
theorem dX0_choose_38 : decode cX0_choose 38 = .ok (.invokevirtual 42, 3) := by decide +kernel
theorem dX0_choose_41 : decode cX0_choose 41 = .ok (.iconst 3, 1) := by decide +kernel
theorem dX0_choose_42 : decode cX0_choose 42 = .ok (.invokevirtual 46, 3) := by decide +kernel
theorem dX0_choose_45 : decode cX0_choose 45 = .ok (.aload_n 0, 1) := by decide +kernel
theorem dX0_choose_46 : decode cX0_choose 46 = .ok (.iconst 2, 1) := by decide +kernel
theorem dX0_choose_47 : decode cX0_choose 47 = .ok (.invokevirtual 38, 3) := by decide +kernel
theorem dX0_choose_50 : decode cX0_choose 50 = .ok (.aload_n 0, 1) := by decide +kernel
theorem dX0_choose_51 : decode cX0_choose 51 = .ok (.iconst 3, 1) := by decide +kernel
theorem dX0_choose_52 : decode cX0_choose 52 = .ok (.invokevirtual 38, 3) := by decide +kernel
theorem dX0_choose_55 : decode cX0_choose 55 = .ok (.return_, 1) := by decide +kernel
theorem dX0_lineUp_0 : decode cX0_lineUp 0 = .ok (.aload_n 0, 1) := by decide +kernel
theorem dX0_lineUp_1 : decode cX0_lineUp 1 = .ok (.iconst 0, 1) := by decide +kernel
theorem dX0_lineUp_2 : decode cX0_lineUp 2 = .ok (.putfield 50, 3) := by decide +kernel
theorem dX0_lineUp_5 : decode cX0_lineUp 5 = .ok (.aload_n 1, 1) := by decide +kernel
theorem dX0_lineUp_6 : decode cX0_lineUp 6 = .ok (.getfield 53, 3) := by decide +kernel
theorem dX0_lineUp_9 : decode cX0_lineUp 9 = .ok (.astore_n 2, 1) := by decide +kernel
theorem dX0_lineUp_10 : decode cX0_lineUp 10 = .ok (.aload_n 2, 1) := by decide +kernel
theorem dX0_lineUp_11 : decode cX0_lineUp 11 = .ok (.ifnonnull 4, 3) := by decide +kernel
theorem dX0_lineUp_14 : decode cX0_lineUp 14 = .ok (.return_, 1) := by decide +kernel
theorem dX0_lineUp_15 : decode cX0_lineUp 15 = .ok (.aload_n 1, 1) := by decide +kernel
theorem dX0_lineUp_16 : decode cX0_lineUp 16 = .ok (.getfield 57, 3) := by decide +kernel
theorem dX0_lineUp_19 : decode cX0_lineUp 19 = .ok (.ifnull 10, 3) := by decide +kernel
theorem dX0_lineUp_22 : decode cX0_lineUp 22 = .ok (.aload_n 1, 1) := by decide +kernel
theorem dX0_lineUp_23 : decode cX0_lineUp 23 = .ok (.getfield 57, 3) := by decide +kernel
theorem dX0_lineUp_26 : decode cX0_lineUp 26 = .ok (.goto 7, 3) := by decide +kernel
theorem dX0_lineUp_29 : decode cX0_lineUp 29 = .ok (.aload_n 2, 1) := by decide +kernel
theorem dX0_lineUp_30 : decode cX0_lineUp 30 = .ok (.getfield 61, 3) := by decide +kernel
theorem dX0_lineUp_33 : decode cX0_lineUp 33 = .ok (.astore_n 3, 1) := by decide +kernel
theorem dX0_lineUp_34 : decode cX0_lineUp 34 = .ok (.aload_n 0, 1) := by decide +kernel
theorem dX0_lineUp_35 : decode cX0_lineUp 35 = .ok (.aload_n 3, 1) := by decide +kernel
theorem dX0_lineUp_36 : decode cX0_lineUp 36 = .ok (.aload_n 1, 1) := by decide +kernel
theorem dX0_lineUp_37 : decode cX0_lineUp 37 = .ok (.invokevirtual 66, 3) := by decide +kernel
theorem dX0_lineUp_40 : decode cX0_lineUp 40 = .ok (.iconst 0, 1) := by decide +kernel
theorem dX0_lineUp_41 : decode cX0_lineUp 41 = .ok (.istore 4, 2) := by decide +kernel
theorem dX0_lineUp_43 : decode cX0_lineUp 43 = .ok (.iload 4, 2) := by decide +kernel
theorem dX0_lineUp_45 : decode cX0_lineUp 45 = .ok (.aload_n 2, 1) := by decide +kernel
theorem dX0_lineUp_46 : decode cX0_lineUp 46 = .ok (.getfield 70, 3) := by decide +kernel
theorem dX0_lineUp_49 : decode cX0_lineUp 49 = .ok (.if_icmp .ge 30, 3) := by decide +kernel
theorem dX0_lineUp_52 : decode cX0_lineUp 52 = .ok (.aload_n 2, 1) := by decide +kernel
theorem dX0_lineUp_53 : decode cX0_lineUp 53 = .ok (.iload 4, 2) := by decide +kernel
theorem dX0_lineUp_55 : decode cX0_lineUp 55 = .ok (.invokevirtual 73, 3) := by decide +kernel
theorem dX0_lineUp_58 : decode cX0_lineUp 58 = .ok (.astore 5, 2) := by decide +kernel
theorem dX0_lineUp_60 : decode cX0_lineUp 60 = .ok (.aload 5, 2) := by decide +kernel
theorem dX0_lineUp_62 : decode cX0_lineUp 62 = .ok (.aload_n 3, 1) := by decide +kernel
theorem dX0_lineUp_63 : decode cX0_lineUp 63 = .ok (.if_acmp .eq 10, 3) := by decide +kernel
theorem dX0_lineUp_66 : decode cX0_lineUp 66 = .ok (.aload_n 0, 1) := by decide +kernel
theorem dX0_lineUp_67 : decode cX0_lineUp 67 = .ok (.aload 5, 2) := by decide +kernel
theorem dX0_lineUp_69 : decode cX0_lineUp 69 = .ok (.aload_n 1, 1) := by decide +kernel
theorem dX0_lineUp_70 : decode cX0_lineUp 70 = .ok (.invokevirtual 66, 3) := by decide +kernel
theorem dX0_lineUp_73 : decode cX0_lineUp 73 = .ok (.iinc 4 1, 3) := by decide +kernel
theorem dX0_lineUp_76 : decode cX0_lineUp 76 = .ok (.goto (-33), 3) := by decide +kernel
theorem dX0_lineUp_79 : decode cX0_lineUp 79 = .ok (.return_, 1) := by decide +kernel
theorem dX0_append_0 : decode cX0_append 0 = .ok (.aload_n 1, 1) := by decide +kernel
theorem dX0_append_1 : decode cX0_append 1 = .ok (.ifnull 47, 3) := by decide +kernel
theorem dX0_append_4 : decode cX0_append 4 = .ok (.aload_n 1, 1) := by decide +kernel
theorem dX0_append_5 : decode cX0_append 5 = .ok (.aload_n 2, 1) := by decide +kernel
theorem dX0_append_6 : decode cX0_append 6 = .ok (.if_acmp .eq 42, 3) := by decide +kernel
theorem dX0_append_9 : decode cX0_append 9 = .ok (.aload_n 0, 1) := by decide +kernel
theorem dX0_append_10 : decode cX0_append 10 = .ok (.getfield 50, 3) := by decide +kernel
theorem dX0_append_13 : decode cX0_append 13 = .ok (.ifCond .lt 35, 3) := by decide +kernel
theorem dX0_append_16 : decode cX0_append 16 = .ok (.aload_n 0, 1) := by decide +kernel
theorem dX0_append_17 : decode cX0_append 17 = .ok (.getfield 50, 3) := by decide +kernel
theorem dX0_append_20 : decode cX0_append 20 = .ok (.aload_n 0, 1) := by decide +kernel
theorem dX0_append_21 : decode cX0_append 21 = .ok (.getfield 20, 3) := by decide +kernel
theorem dX0_append_24 : decode cX0_append 24 = .ok (.arraylength, 1) := by decide +kernel
theorem dX0_append_25 : decode cX0_append 25 = .ok (.if_icmp .ge 23, 3) := by decide +kernel
theorem dX0_append_28 : decode cX0_append 28 = .ok (.aload_n 0, 1) := by decide +kernel
theorem dX0_append_29 : decode cX0_append 29 = .ok (.getfield 20, 3) := by decide +kernel
theorem dX0_append_32 : decode cX0_append 32 = .ok (.aload_n 0, 1) := by decide +kernel
theorem dX0_append_33 : decode cX0_append 33 = .ok (.getfield 50, 3) := by decide +kernel
theorem dX0_append_36 : decode cX0_append 36 = .ok (.aload_n 1, 1) := by decide +kernel
theorem dX0_append_37 : decode cX0_append 37 = .ok (.aastore, 1) := by decide +kernel
theorem dX0_append_38 : decode cX0_append 38 = .ok (.aload_n 0, 1) := by decide +kernel
theorem dX0_append_39 : decode cX0_append 39 = .ok (.dup, 1) := by decide +kernel
theorem dX0_append_40 : decode cX0_append 40 = .ok (.getfield 50, 3) := by decide +kernel
theorem dX0_append_43 : decode cX0_append 43 = .ok (.iconst 1, 1) := by decide +kernel
theorem dX0_append_44 : decode cX0_append 44 = .ok (.iadd, 1) := by decide +kernel
theorem dX0_append_45 : decode cX0_append 45 = .ok (.putfield 50, 3) := by decide +kernel
theorem dX0_append_48 : decode cX0_append 48 = .ok (.return_, 1) := by decide +kernel
theorem dX0_inLine_0 : decode cX0_inLine 0 = .ok (.iload_n 1, 1) := by decide +kernel
theorem dX0_inLine_1 : decode cX0_inLine 1 = .ok (.ifCond .lt 20, 3) := by decide +kernel
theorem dX0_inLine_4 : decode cX0_inLine 4 = .ok (.iload_n 1, 1) := by decide +kernel
theorem dX0_inLine_5 : decode cX0_inLine 5 = .ok (.aload_n 0, 1) := by decide +kernel
theorem dX0_inLine_6 : decode cX0_inLine 6 = .ok (.getfield 50, 3) := by decide +kernel
theorem dX0_inLine_9 : decode cX0_inLine 9 = .ok (.if_icmp .ge 12, 3) := by decide +kernel
theorem dX0_inLine_12 : decode cX0_inLine 12 = .ok (.iload_n 1, 1) := by decide +kernel
theorem dX0_inLine_13 : decode cX0_inLine 13 = .ok (.aload_n 0, 1) := by decide +kernel
theorem dX0_inLine_14 : decode cX0_inLine 14 = .ok (.getfield 20, 3) := by decide +kernel
theorem dX0_inLine_17 : decode cX0_inLine 17 = .ok (.arraylength, 1) := by decide +kernel
theorem dX0_inLine_18 : decode cX0_inLine 18 = .ok (.if_icmp .lt 7, 3) := by decide +kernel
theorem dX0_inLine_21 : decode cX0_inLine 21 = .ok (.aconst_null, 1) := by decide +kernel
theorem dX0_inLine_22 : decode cX0_inLine 22 = .ok (.goto 9, 3) := by decide +kernel
theorem dX0_inLine_25 : decode cX0_inLine 25 = .ok (.aload_n 0, 1) := by decide +kernel
theorem dX0_inLine_26 : decode cX0_inLine 26 = .ok (.getfield 20, 3) := by decide +kernel
theorem dX0_inLine_29 : decode cX0_inLine 29 = .ok (.iload_n 1, 1) := by decide +kernel
theorem dX0_inLine_30 : decode cX0_inLine 30 = .ok (.aaload, 1) := by decide +kernel
theorem dX0_inLine_31 : decode cX0_inLine 31 = .ok (.areturn, 1) := by decide +kernel
theorem dX0_takeForAll_0 : decode cX0_takeForAll 0 = .ok (.iconst 0, 1) := by decide +kernel
theorem dX0_takeForAll_1 : decode cX0_takeForAll 1 = .ok (.istore_n 2, 1) := by decide +kernel
theorem dX0_takeForAll_2 : decode cX0_takeForAll 2 = .ok (.iload_n 2, 1) := by decide +kernel
theorem dX0_takeForAll_3 : decode cX0_takeForAll 3 = .ok (.aload_n 0, 1) := by decide +kernel
theorem dX0_takeForAll_4 : decode cX0_takeForAll 4 = .ok (.getfield 50, 3) := by decide +kernel
theorem dX0_takeForAll_7 : decode cX0_takeForAll 7 = .ok (.if_icmp .ge 19, 3) := by decide +kernel
theorem dX0_takeForAll_10 : decode cX0_takeForAll 10 = .ok (.aload_n 0, 1) := by decide +kernel
theorem dX0_takeForAll_11 : decode cX0_takeForAll 11 = .ok (.aload_n 0, 1) := by decide +kernel
theorem dX0_takeForAll_12 : decode cX0_takeForAll 12 = .ok (.iload_n 2, 1) := by decide +kernel
theorem dX0_takeForAll_13 : decode cX0_takeForAll 13 = .ok (.invokevirtual 42, 3) := by decide +kernel
theorem dX0_takeForAll_16 : decode cX0_takeForAll 16 = .ok (.iload_n 1, 1) := by decide +kernel
theorem dX0_takeForAll_17 : decode cX0_takeForAll 17 = .ok (.invokevirtual 46, 3) := by decide +kernel
theorem dX0_takeForAll_20 : decode cX0_takeForAll 20 = .ok (.iinc 2 1, 3) := by decide +kernel
theorem dX0_takeForAll_23 : decode cX0_takeForAll 23 = .ok (.goto (-21), 3) := by decide +kernel
theorem dX0_takeForAll_26 : decode cX0_takeForAll 26 = .ok (.return_, 1) := by decide +kernel
theorem dX0_take_0 : decode cX0_take 0 = .ok (.aload_n 1, 1) := by decide +kernel
theorem dX0_take_1 : decode cX0_take 1 = .ok (.ifnull 28, 3) := by decide +kernel
theorem dX0_take_4 : decode cX0_take 4 = .ok (.aload_n 0, 1) := by decide +kernel
theorem dX0_take_5 : decode cX0_take 5 = .ok (.getfield 12, 3) := by decide +kernel
theorem dX0_take_8 : decode cX0_take 8 = .ok (.aload_n 1, 1) := by decide +kernel
theorem dX0_take_9 : decode cX0_take 9 = .ok (.getfield 76, 3) := by decide +kernel
theorem dX0_take_12 : decode cX0_take 12 = .ok (.invokevirtual 79, 3) := by decide +kernel
theorem dX0_take_15 : decode cX0_take 15 = .ok (.iload_n 2, 1) := by decide +kernel
theorem dX0_take_16 : decode cX0_take 16 = .ok (.iconst 1, 1) := by decide +kernel
theorem dX0_take_17 : decode cX0_take 17 = .ok (.isub, 1) := by decide +kernel
theorem dX0_take_18 : decode cX0_take 18 = .ok (.if_icmp .ne 11, 3) := by decide +kernel
theorem dX0_take_21 : decode cX0_take 21 = .ok (.aload_n 1, 1) := by decide +kernel
theorem dX0_take_22 : decode cX0_take 22 = .ok (.getfield 83, 3) := by decide +kernel
theorem dX0_take_25 : decode cX0_take 25 = .ok (.iload_n 2, 1) := by decide +kernel
theorem dX0_take_26 : decode cX0_take 26 = .ok (.if_icmp .ge 4, 3) := by decide +kernel
theorem dX0_take_29 : decode cX0_take 29 = .ok (.return_, 1) := by decide +kernel
theorem dX0_take_30 : decode cX0_take 30 = .ok (.iload_n 2, 1) := by decide +kernel
theorem dX0_take_31 : decode cX0_take 31 = .ok (.invokestatic 86, 3) := by decide +kernel
theorem dX0_take_34 : decode cX0_take 34 = .ok (.iload_n 2, 1) := by decide +kernel
theorem dX0_take_35 : decode cX0_take 35 = .ok (.iconst 1, 1) := by decide +kernel
theorem dX0_take_36 : decode cX0_take 36 = .ok (.isub, 1) := by decide +kernel
theorem dX0_take_37 : decode cX0_take 37 = .ok (.invokestatic 86, 3) := by decide +kernel
theorem dX0_take_40 : decode cX0_take 40 = .ok (.isub, 1) := by decide +kernel
theorem dX0_take_41 : decode cX0_take 41 = .ok (.istore_n 3, 1) := by decide +kernel
theorem dX0_take_42 : decode cX0_take 42 = .ok (.iload_n 3, 1) := by decide +kernel
theorem dX0_take_43 : decode cX0_take 43 = .ok (.aload_n 0, 1) := by decide +kernel
theorem dX0_take_44 : decode cX0_take 44 = .ok (.getfield 31, 3) := by decide +kernel
theorem dX0_take_47 : decode cX0_take 47 = .ok (.if_icmp .gt 25, 3) := by decide +kernel
theorem dX0_take_50 : decode cX0_take 50 = .ok (.aload_n 0, 1) := by decide +kernel
theorem dX0_take_51 : decode cX0_take 51 = .ok (.dup, 1) := by decide +kernel
theorem dX0_take_52 : decode cX0_take 52 = .ok (.getfield 31, 3) := by decide +kernel
theorem dX0_take_55 : decode cX0_take 55 = .ok (.iload_n 3, 1) := by decide +kernel
theorem dX0_take_56 : decode cX0_take 56 = .ok (.isub, 1) := by decide +kernel
theorem dX0_take_57 : decode cX0_take 57 = .ok (.putfield 31, 3) := by decide +kernel
theorem dX0_take_60 : decode cX0_take 60 = .ok (.aload_n 0, 1) := by decide +kernel
theorem dX0_take_61 : decode cX0_take 61 = .ok (.getfield 12, 3) := by decide +kernel
theorem dX0_take_64 : decode cX0_take 64 = .ok (.aload_n 1, 1) := by decide +kernel
theorem dX0_take_65 : decode cX0_take 65 = .ok (.getfield 76, 3) := by decide +kernel
theorem dX0_take_68 : decode cX0_take 68 = .ok (.iload_n 2, 1) := by decide +kernel
theorem dX0_take_69 : decode cX0_take 69 = .ok (.invokevirtual 89, 3) := by decide +kernel
theorem dX0_take_72 : decode cX0_take 72 = .ok (.return_, 1) := by decide +kernel
theorem dX1_init_0 : decode cX1_init 0 = .ok (.aload_n 0, 1) := by decide +kernel
theorem dX1_init_1 : decode cX1_init 1 = .ok (.invokespecial 3, 3) := by decide +kernel
theorem dX1_init_4 : decode cX1_init 4 = .ok (.aload_n 0, 1) := by decide +kernel
theorem dX1_init_5 : decode cX1_init 5 = .ok (.bipush 10, 2) := by decide +kernel
theorem dX1_init_7 : decode cX1_init 7 = .ok (.newarray .int, 2) := by decide +kernel
theorem dX1_init_9 : decode cX1_init 9 = .ok (.putfield 9, 3) := by decide +kernel
theorem dX1_init_12 : decode cX1_init 12 = .ok (.return_, 1) := by decide +kernel
theorem dX1_of_0 : decode cX1_of 0 = .ok (.iload_n 1, 1) := by decide +kernel
theorem dX1_of_1 : decode cX1_of 1 = .ok (.ifCond .lt 12, 3) := by decide +kernel
theorem dX1_of_4 : decode cX1_of 4 = .ok (.iload_n 1, 1) := by decide +kernel
theorem dX1_of_5 : decode cX1_of 5 = .ok (.aload_n 0, 1) := by decide +kernel
theorem dX1_of_6 : decode cX1_of 6 = .ok (.getfield 9, 3) := by decide +kernel
theorem dX1_of_9 : decode cX1_of 9 = .ok (.arraylength, 1) := by decide +kernel
theorem dX1_of_10 : decode cX1_of 10 = .ok (.if_icmp .lt 7, 3) := by decide +kernel
theorem dX1_of_13 : decode cX1_of 13 = .ok (.iconst 0, 1) := by decide +kernel
theorem dX1_of_14 : decode cX1_of 14 = .ok (.goto 9, 3) := by decide +kernel
theorem dX1_of_17 : decode cX1_of 17 = .ok (.aload_n 0, 1) := by decide +kernel
theorem dX1_of_18 : decode cX1_of 18 = .ok (.getfield 9, 3) := by decide +kernel
theorem dX1_of_21 : decode cX1_of 21 = .ok (.iload_n 1, 1) := by decide +kernel
theorem dX1_of_22 : decode cX1_of 22 = .ok (.iaload, 1) := by decide +kernel
theorem dX1_of_23 : decode cX1_of 23 = .ok (.ireturn, 1) := by decide +kernel
theorem dX1_set_0 : decode cX1_set 0 = .ok (.iload_n 1, 1) := by decide +kernel
theorem dX1_set_1 : decode cX1_set 1 = .ok (.ifCond .lt 19, 3) := by decide +kernel
theorem dX1_set_4 : decode cX1_set 4 = .ok (.iload_n 1, 1) := by decide +kernel
theorem dX1_set_5 : decode cX1_set 5 = .ok (.aload_n 0, 1) := by decide +kernel
theorem dX1_set_6 : decode cX1_set 6 = .ok (.getfield 9, 3) := by decide +kernel
theorem dX1_set_9 : decode cX1_set 9 = .ok (.arraylength, 1) := by decide +kernel
theorem dX1_set_10 : decode cX1_set 10 = .ok (.if_icmp .ge 10, 3) := by decide +kernel
theorem dX1_set_13 : decode cX1_set 13 = .ok (.aload_n 0, 1) := by decide +kernel
theorem dX1_set_14 : decode cX1_set 14 = .ok (.getfield 9, 3) := by decide +kernel
theorem dX1_set_17 : decode cX1_set 17 = .ok (.iload_n 1, 1) := by decide +kernel
theorem dX1_set_18 : decode cX1_set 18 = .ok (.iload_n 2, 1) := by decide +kernel
theorem dX1_set_19 : decode cX1_set 19 = .ok (.iastore, 1) := by decide +kernel
theorem dX1_set_20 : decode cX1_set 20 = .ok (.return_, 1) := by decide +kernel
theorem dX1_clear_0 : decode cX1_clear 0 = .ok (.aload_n 0, 1) := by decide +kernel
theorem dX1_clear_1 : decode cX1_clear 1 = .ok (.getfield 9, 3) := by decide +kernel
theorem dX1_clear_4 : decode cX1_clear 4 = .ok (.iconst 0, 1) := by decide +kernel
theorem dX1_clear_5 : decode cX1_clear 5 = .ok (.invokestatic 15, 3) := by decide +kernel
theorem dX1_clear_8 : decode cX1_clear 8 = .ok (.return_, 1) := by decide +kernel
theorem dX1_takeOver_0 : decode cX1_takeOver 0 = .ok (.iconst 0, 1) := by decide +kernel
theorem dX1_takeOver_1 : decode cX1_takeOver 1 = .ok (.istore_n 2, 1) := by decide +kernel
theorem dX1_takeOver_2 : decode cX1_takeOver 2 = .ok (.iload_n 2, 1) := by decide +kernel
theorem dX1_takeOver_3 : decode cX1_takeOver 3 = .ok (.aload_n 0, 1) := by decide +kernel
theorem dX1_takeOver_4 : decode cX1_takeOver 4 = .ok (.getfield 9, 3) := by decide +kernel
theorem dX1_takeOver_7 : decode cX1_takeOver 7 = .ok (.arraylength, 1) := by decide +kernel
theorem dX1_takeOver_8 : decode cX1_takeOver 8 = .ok (.if_icmp .ge 20, 3) := by decide +kernel
theorem dX1_takeOver_11 : decode cX1_takeOver 11 = .ok (.aload_n 0, 1) := by decide +kernel
theorem dX1_takeOver_12 : decode cX1_takeOver 12 = .ok (.getfield 9, 3) := by decide +kernel
theorem dX1_takeOver_15 : decode cX1_takeOver 15 = .ok (.iload_n 2, 1) := by decide +kernel
theorem dX1_takeOver_16 : decode cX1_takeOver 16 = .ok (.aload_n 1, 1) := by decide +kernel
theorem dX1_takeOver_17 : decode cX1_takeOver 17 = .ok (.iload_n 2, 1) := by decide +kernel
theorem dX1_takeOver_18 : decode cX1_takeOver 18 = .ok (.invokevirtual 21, 3) := by decide +kernel
theorem dX1_takeOver_21 : decode cX1_takeOver 21 = .ok (.iastore, 1) := by decide +kernel
theorem dX1_takeOver_22 : decode cX1_takeOver 22 = .ok (.iinc 2 1, 3) := by decide +kernel
theorem dX1_takeOver_25 : decode cX1_takeOver 25 = .ok (.goto (-23), 3) := by decide +kernel
theorem dX1_takeOver_28 : decode cX1_takeOver 28 = .ok (.return_, 1) := by decide +kernel
theorem dX1_isSameAs_0 : decode cX1_isSameAs 0 = .ok (.iconst 0, 1) := by decide +kernel
theorem dX1_isSameAs_1 : decode cX1_isSameAs 1 = .ok (.istore_n 2, 1) := by decide +kernel
theorem dX1_isSameAs_2 : decode cX1_isSameAs 2 = .ok (.iload_n 2, 1) := by decide +kernel
theorem dX1_isSameAs_3 : decode cX1_isSameAs 3 = .ok (.aload_n 0, 1) := by decide +kernel
theorem dX1_isSameAs_4 : decode cX1_isSameAs 4 = .ok (.getfield 9, 3) := by decide +kernel
theorem dX1_isSameAs_7 : decode cX1_isSameAs 7 = .ok (.arraylength, 1) := by decide +kernel
theorem dX1_isSameAs_8 : decode cX1_isSameAs 8 = .ok (.if_icmp .ge 25, 3) := by decide +kernel
theorem dX1_isSameAs_11 : decode cX1_isSameAs 11 = .ok (.aload_n 0, 1) := by decide +kernel
theorem dX1_isSameAs_12 : decode cX1_isSameAs 12 = .ok (.getfield 9, 3) := by decide +kernel
theorem dX1_isSameAs_15 : decode cX1_isSameAs 15 = .ok (.iload_n 2, 1) := by decide +kernel
theorem dX1_isSameAs_16 : decode cX1_isSameAs 16 = .ok (.iaload, 1) := by decide +kernel
theorem dX1_isSameAs_17 : decode cX1_isSameAs 17 = .ok (.aload_n 1, 1) := by decide +kernel
theorem dX1_isSameAs_18 : decode cX1_isSameAs 18 = .ok (.iload_n 2, 1) := by decide +kernel
theorem dX1_isSameAs_19 : decode cX1_isSameAs 19 = .ok (.invokevirtual 21, 3) := by decide +kernel
theorem dX1_isSameAs_22 : decode cX1_isSameAs 22 = .ok (.if_icmp .eq 5, 3) := by decide +kernel
theorem dX1_isSameAs_25 : decode cX1_isSameAs 25 = .ok (.iconst 0, 1) := by decide +kernel
theorem dX1_isSameAs_26 : decode cX1_isSameAs 26 = .ok (.ireturn, 1) := by decide +kernel
theorem dX1_isSameAs_27 : decode cX1_isSameAs 27 = .ok (.iinc 2 1, 3) := by decide +kernel
theorem dX1_isSameAs_30 : decode cX1_isSameAs 30 = .ok (.goto (-28), 3) := by decide +kernel
theorem dX1_isSameAs_33 : decode cX1_isSameAs 33 = .ok (.iconst 1, 1) := by decide +kernel
theorem dX1_isSameAs_34 : decode cX1_isSameAs 34 = .ok (.ireturn, 1) := by decide +kernel
theorem dX1_needed_0 : decode cX1_needed 0 = .ok (.iconst 0, 1) := by decide +kernel
theorem dX1_needed_1 : decode cX1_needed 1 = .ok (.istore_n 1, 1) := by decide +kernel
theorem dX1_needed_2 : decode cX1_needed 2 = .ok (.aload_n 0, 1) := by decide +kernel
theorem dX1_needed_3 : decode cX1_needed 3 = .ok (.getfield 9, 3) := by decide +kernel
theorem dX1_needed_6 : decode cX1_needed 6 = .ok (.astore_n 2, 1) := by decide +kernel
theorem dX1_needed_7 : decode cX1_needed 7 = .ok (.aload_n 2, 1) := by decide +kernel
theorem dX1_needed_8 : decode cX1_needed 8 = .ok (.arraylength, 1) := by decide +kernel
theorem dX1_needed_9 : decode cX1_needed 9 = .ok (.istore_n 3, 1) := by decide +kernel
theorem dX1_needed_10 : decode cX1_needed 10 = .ok (.iconst 0, 1) := by decide +kernel
theorem dX1_needed_11 : decode cX1_needed 11 = .ok (.istore 4, 2) := by decide +kernel
theorem dX1_needed_13 : decode cX1_needed 13 = .ok (.iload 4, 2) := by decide +kernel
theorem dX1_needed_15 : decode cX1_needed 15 = .ok (.iload_n 3, 1) := by decide +kernel
theorem dX1_needed_16 : decode cX1_needed 16 = .ok (.if_icmp .ge 23, 3) := by decide +kernel
theorem dX1_needed_19 : decode cX1_needed 19 = .ok (.aload_n 2, 1) := by decide +kernel
theorem dX1_needed_20 : decode cX1_needed 20 = .ok (.iload 4, 2) := by decide +kernel
theorem dX1_needed_22 : decode cX1_needed 22 = .ok (.iaload, 1) := by decide +kernel
theorem dX1_needed_23 : decode cX1_needed 23 = .ok (.istore 5, 2) := by decide +kernel
theorem dX1_needed_25 : decode cX1_needed 25 = .ok (.iload_n 1, 1) := by decide +kernel
theorem dX1_needed_26 : decode cX1_needed 26 = .ok (.iload 5, 2) := by decide +kernel
theorem dX1_needed_28 : decode cX1_needed 28 = .ok (.invokestatic 25, 3) := by decide +kernel
theorem dX1_needed_31 : decode cX1_needed 31 = .ok (.iadd, 1) := by decide +kernel
theorem dX1_needed_32 : decode cX1_needed 32 = .ok (.istore_n 1, 1) := by decide +kernel
theorem dX1_needed_33 : decode cX1_needed 33 = .ok (.iinc 4 1, 3) := by decide +kernel
theorem dX1_needed_36 : decode cX1_needed 36 = .ok (.goto (-23), 3) := by decide +kernel
theorem dX1_needed_39 : decode cX1_needed 39 = .ok (.iload_n 1, 1) := by decide +kernel
theorem dX1_needed_40 : decode cX1_needed 40 = .ok (.ireturn, 1) := by decide +kernel
theorem dX2_init_0 : decode cX2_init 0 = .ok (.aload_n 0, 1) := by decide +kernel
theorem dX2_init_1 : decode cX2_init 1 = .ok (.invokespecial 1, 3) := by decide +kernel
theorem dX2_init_4 : decode cX2_init 4 = .ok (.aload_n 0, 1) := by decide +kernel
theorem dX2_init_5 : decode cX2_init 5 = .ok (.new 7, 3) := by decide +kernel
theorem dX2_init_8 : decode cX2_init 8 = .ok (.dup, 1) := by decide +kernel
theorem dX2_init_9 : decode cX2_init 9 = .ok (.invokespecial 9, 3) := by decide +kernel
theorem dX2_init_12 : decode cX2_init 12 = .ok (.putfield 10, 3) := by decide +kernel
theorem dX2_init_15 : decode cX2_init 15 = .ok (.aload_n 0, 1) := by decide +kernel
theorem dX2_init_16 : decode cX2_init 16 = .ok (.iload_n 1, 1) := by decide +kernel
theorem dX2_init_17 : decode cX2_init 17 = .ok (.putfield 16, 3) := by decide +kernel
theorem dX2_init_20 : decode cX2_init 20 = .ok (.aload_n 0, 1) := by decide +kernel
theorem dX2_init_21 : decode cX2_init 21 = .ok (.iload_n 2, 1) := by decide +kernel
theorem dX2_init_22 : decode cX2_init 22 = .ok (.putfield 20, 3) := by decide +kernel
theorem dX2_init_25 : decode cX2_init 25 = .ok (.return_, 1) := by decide +kernel
theorem dX3_init_0 : decode cX3_init 0 = .ok (.aload_n 0, 1) := by decide +kernel
theorem dX3_init_1 : decode cX3_init 1 = .ok (.invokespecial 3, 3) := by decide +kernel
theorem dX3_init_4 : decode cX3_init 4 = .ok (.aload_n 0, 1) := by decide +kernel
theorem dX3_init_5 : decode cX3_init 5 = .ok (.new 9, 3) := by decide +kernel
theorem dX3_init_8 : decode cX3_init 8 = .ok (.dup, 1) := by decide +kernel
theorem dX3_init_9 : decode cX3_init 9 = .ok (.sipush 2000, 3) := by decide +kernel
theorem dX3_init_12 : decode cX3_init 12 = .ok (.invokespecial 11, 3) := by decide +kernel
theorem dX3_init_15 : decode cX3_init 15 = .ok (.putfield 14, 3) := by decide +kernel
theorem dX3_init_18 : decode cX3_init 18 = .ok (.aload_n 0, 1) := by decide +kernel
theorem dX3_init_19 : decode cX3_init 19 = .ok (.aload_n 1, 1) := by decide +kernel
theorem dX3_init_20 : decode cX3_init 20 = .ok (.putfield 20, 3) := by decide +kernel
theorem dX3_init_23 : decode cX3_init 23 = .ok (.return_, 1) := by decide +kernel
theorem dX4_init_0 : decode cX4_init 0 = .ok (.aload_n 0, 1) := by decide +kernel
theorem dX4_init_1 : decode cX4_init 1 = .ok (.invokespecial 3, 3) := by decide +kernel
theorem dX4_init_4 : decode cX4_init 4 = .ok (.aload_n 0, 1) := by decide +kernel
theorem dX4_init_5 : decode cX4_init 5 = .ok (.bipush 10, 2) := by decide +kernel
theorem dX4_init_7 : decode cX4_init 7 = .ok (.anewarray 9, 3) := by decide +kernel
theorem dX4_init_10 : decode cX4_init 10 = .ok (.putfield 11, 3) := by decide +kernel
theorem dX4_init_13 : decode cX4_init 13 = .ok (.aload_n 0, 1) := by decide +kernel
theorem dX4_init_14 : decode cX4_init 14 = .ok (.iload_n 1, 1) := by decide +kernel
theorem dX4_init_15 : decode cX4_init 15 = .ok (.putfield 17, 3) := by decide +kernel
theorem dX4_init_18 : decode cX4_init 18 = .ok (.return_, 1) := by decide +kernel
theorem dX4_at_0 : decode cX4_at 0 = .ok (.iload_n 1, 1) := by decide +kernel
theorem dX4_at_1 : decode cX4_at 1 = .ok (.ifCond .lt 20, 3) := by decide +kernel
theorem dX4_at_4 : decode cX4_at 4 = .ok (.iload_n 1, 1) := by decide +kernel
theorem dX4_at_5 : decode cX4_at 5 = .ok (.aload_n 0, 1) := by decide +kernel
theorem dX4_at_6 : decode cX4_at 6 = .ok (.getfield 21, 3) := by decide +kernel
theorem dX4_at_9 : decode cX4_at 9 = .ok (.if_icmp .ge 12, 3) := by decide +kernel
theorem dX4_at_12 : decode cX4_at 12 = .ok (.iload_n 1, 1) := by decide +kernel
theorem dX4_at_13 : decode cX4_at 13 = .ok (.aload_n 0, 1) := by decide +kernel
theorem dX4_at_14 : decode cX4_at 14 = .ok (.getfield 11, 3) := by decide +kernel
theorem dX4_at_17 : decode cX4_at 17 = .ok (.arraylength, 1) := by decide +kernel
theorem dX4_at_18 : decode cX4_at 18 = .ok (.if_icmp .lt 7, 3) := by decide +kernel
theorem dX4_at_21 : decode cX4_at 21 = .ok (.aconst_null, 1) := by decide +kernel
theorem dX4_at_22 : decode cX4_at 22 = .ok (.goto 9, 3) := by decide +kernel
theorem dX4_at_25 : decode cX4_at 25 = .ok (.aload_n 0, 1) := by decide +kernel
theorem dX4_at_26 : decode cX4_at 26 = .ok (.getfield 11, 3) := by decide +kernel
theorem dX4_at_29 : decode cX4_at 29 = .ok (.iload_n 1, 1) := by decide +kernel
theorem dX4_at_30 : decode cX4_at 30 = .ok (.aaload, 1) := by decide +kernel
theorem dX4_at_31 : decode cX4_at 31 = .ok (.areturn, 1) := by decide +kernel
theorem dX4_letIn_0 : decode cX4_letIn 0 = .ok (.aload_n 0, 1) := by decide +kernel
theorem dX4_letIn_1 : decode cX4_letIn 1 = .ok (.getfield 21, 3) := by decide +kernel
theorem dX4_letIn_4 : decode cX4_letIn 4 = .ok (.ifCond .lt 35, 3) := by decide +kernel
theorem dX4_letIn_7 : decode cX4_letIn 7 = .ok (.aload_n 0, 1) := by decide +kernel
theorem dX4_letIn_8 : decode cX4_letIn 8 = .ok (.getfield 21, 3) := by decide +kernel
theorem dX4_letIn_11 : decode cX4_letIn 11 = .ok (.aload_n 0, 1) := by decide +kernel
theorem dX4_letIn_12 : decode cX4_letIn 12 = .ok (.getfield 11, 3) := by decide +kernel
theorem dX4_letIn_15 : decode cX4_letIn 15 = .ok (.arraylength, 1) := by decide +kernel
theorem dX4_letIn_16 : decode cX4_letIn 16 = .ok (.if_icmp .ge 23, 3) := by decide +kernel
theorem dX4_letIn_19 : decode cX4_letIn 19 = .ok (.aload_n 0, 1) := by decide +kernel
theorem dX4_letIn_20 : decode cX4_letIn 20 = .ok (.getfield 11, 3) := by decide +kernel
theorem dX4_letIn_23 : decode cX4_letIn 23 = .ok (.aload_n 0, 1) := by decide +kernel
theorem dX4_letIn_24 : decode cX4_letIn 24 = .ok (.getfield 21, 3) := by decide +kernel
theorem dX4_letIn_27 : decode cX4_letIn 27 = .ok (.aload_n 1, 1) := by decide +kernel
theorem dX4_letIn_28 : decode cX4_letIn 28 = .ok (.aastore, 1) := by decide +kernel
theorem dX4_letIn_29 : decode cX4_letIn 29 = .ok (.aload_n 0, 1) := by decide +kernel
theorem dX4_letIn_30 : decode cX4_letIn 30 = .ok (.dup, 1) := by decide +kernel
theorem dX4_letIn_31 : decode cX4_letIn 31 = .ok (.getfield 21, 3) := by decide +kernel
theorem dX4_letIn_34 : decode cX4_letIn 34 = .ok (.iconst 1, 1) := by decide +kernel
theorem dX4_letIn_35 : decode cX4_letIn 35 = .ok (.iadd, 1) := by decide +kernel
theorem dX4_letIn_36 : decode cX4_letIn 36 = .ok (.putfield 21, 3) := by decide +kernel
theorem dX4_letIn_39 : decode cX4_letIn 39 = .ok (.return_, 1) := by decide +kernel
theorem dX4_letOut_0 : decode cX4_letOut 0 = .ok (.aload_n 0, 1) := by decide +kernel
theorem dX4_letOut_1 : decode cX4_letOut 1 = .ok (.aload_n 1, 1) := by decide +kernel
theorem dX4_letOut_2 : decode cX4_letOut 2 = .ok (.invokevirtual 24, 3) := by decide +kernel
theorem dX4_letOut_5 : decode cX4_letOut 5 = .ok (.istore_n 2, 1) := by decide +kernel
theorem dX4_letOut_6 : decode cX4_letOut 6 = .ok (.iload_n 2, 1) := by decide +kernel
theorem dX4_letOut_7 : decode cX4_letOut 7 = .ok (.ifCond .ge 4, 3) := by decide +kernel
theorem dX4_letOut_10 : decode cX4_letOut 10 = .ok (.return_, 1) := by decide +kernel
theorem dX4_letOut_11 : decode cX4_letOut 11 = .ok (.iload_n 2, 1) := by decide +kernel
theorem dX4_letOut_12 : decode cX4_letOut 12 = .ok (.istore_n 3, 1) := by decide +kernel
theorem dX4_letOut_13 : decode cX4_letOut 13 = .ok (.iload_n 3, 1) := by decide +kernel
theorem dX4_letOut_14 : decode cX4_letOut 14 = .ok (.iconst 1, 1) := by decide +kernel
theorem dX4_letOut_15 : decode cX4_letOut 15 = .ok (.iadd, 1) := by decide +kernel
theorem dX4_letOut_16 : decode cX4_letOut 16 = .ok (.aload_n 0, 1) := by decide +kernel
theorem dX4_letOut_17 : decode cX4_letOut 17 = .ok (.getfield 21, 3) := by decide +kernel
theorem dX4_letOut_20 : decode cX4_letOut 20 = .ok (.if_icmp .ge 34, 3) := by decide +kernel
theorem dX4_letOut_23 : decode cX4_letOut 23 = .ok (.iload_n 3, 1) := by decide +kernel
theorem dX4_letOut_24 : decode cX4_letOut 24 = .ok (.iconst 1, 1) := by decide +kernel
theorem dX4_letOut_25 : decode cX4_letOut 25 = .ok (.iadd, 1) := by decide +kernel
theorem dX4_letOut_26 : decode cX4_letOut 26 = .ok (.aload_n 0, 1) := by decide +kernel
theorem dX4_letOut_27 : decode cX4_letOut 27 = .ok (.getfield 11, 3) := by decide +kernel
theorem dX4_letOut_30 : decode cX4_letOut 30 = .ok (.arraylength, 1) := by decide +kernel
theorem dX4_letOut_31 : decode cX4_letOut 31 = .ok (.if_icmp .ge 23, 3) := by decide +kernel
theorem dX4_letOut_34 : decode cX4_letOut 34 = .ok (.aload_n 0, 1) := by decide +kernel
theorem dX4_letOut_35 : decode cX4_letOut 35 = .ok (.getfield 11, 3) := by decide +kernel
theorem dX4_letOut_38 : decode cX4_letOut 38 = .ok (.iload_n 3, 1) := by decide +kernel
theorem dX4_letOut_39 : decode cX4_letOut 39 = .ok (.aload_n 0, 1) := by decide +kernel
theorem dX4_letOut_40 : decode cX4_letOut 40 = .ok (.getfield 11, 3) := by decide +kernel
theorem dX4_letOut_43 : decode cX4_letOut 43 = .ok (.iload_n 3, 1) := by decide +kernel
theorem dX4_letOut_44 : decode cX4_letOut 44 = .ok (.iconst 1, 1) := by decide +kernel
theorem dX4_letOut_45 : decode cX4_letOut 45 = .ok (.iadd, 1) := by decide +kernel
theorem dX4_letOut_46 : decode cX4_letOut 46 = .ok (.aaload, 1) := by decide +kernel
theorem dX4_letOut_47 : decode cX4_letOut 47 = .ok (.aastore, 1) := by decide +kernel
theorem dX4_letOut_48 : decode cX4_letOut 48 = .ok (.iinc 3 1, 3) := by decide +kernel
theorem dX4_letOut_51 : decode cX4_letOut 51 = .ok (.goto (-38), 3) := by decide +kernel
theorem dX4_letOut_54 : decode cX4_letOut 54 = .ok (.aload_n 0, 1) := by decide +kernel
theorem dX4_letOut_55 : decode cX4_letOut 55 = .ok (.dup, 1) := by decide +kernel
theorem dX4_letOut_56 : decode cX4_letOut 56 = .ok (.getfield 21, 3) := by decide +kernel
theorem dX4_letOut_59 : decode cX4_letOut 59 = .ok (.iconst 1, 1) := by decide +kernel
theorem dX4_letOut_60 : decode cX4_letOut 60 = .ok (.isub, 1) := by decide +kernel
theorem dX4_letOut_61 : decode cX4_letOut 61 = .ok (.putfield 21, 3) := by decide +kernel
theorem dX4_letOut_64 : decode cX4_letOut 64 = .ok (.aload_n 0, 1) := by decide +kernel
theorem dX4_letOut_65 : decode cX4_letOut 65 = .ok (.getfield 28, 3) := by decide +kernel
theorem dX4_letOut_68 : decode cX4_letOut 68 = .ok (.aload_n 1, 1) := by decide +kernel
theorem dX4_letOut_69 : decode cX4_letOut 69 = .ok (.if_acmp .ne 8, 3) := by decide +kernel
theorem dX4_letOut_72 : decode cX4_letOut 72 = .ok (.aload_n 0, 1) := by decide +kernel
theorem dX4_letOut_73 : decode cX4_letOut 73 = .ok (.aconst_null, 1) := by decide +kernel
theorem dX4_letOut_74 : decode cX4_letOut 74 = .ok (.putfield 28, 3) := by decide +kernel
theorem dX4_letOut_77 : decode cX4_letOut 77 = .ok (.aload_n 0, 1) := by decide +kernel
theorem dX4_letOut_78 : decode cX4_letOut 78 = .ok (.getfield 32, 3) := by decide +kernel
theorem dX4_letOut_81 : decode cX4_letOut 81 = .ok (.aload_n 1, 1) := by decide +kernel
theorem dX4_letOut_82 : decode cX4_letOut 82 = .ok (.if_acmp .ne 7, 3) := by decide +kernel
theorem dX4_letOut_85 : decode cX4_letOut 85 = .ok (.aload_n 0, 1) := by decide +kernel
theorem dX4_letOut_86 : decode cX4_letOut 86 = .ok (.invokevirtual 35, 3) := by decide +kernel
theorem dX4_letOut_89 : decode cX4_letOut 89 = .ok (.return_, 1) := by decide +kernel
theorem dX4_placeOf_0 : decode cX4_placeOf 0 = .ok (.iconst 0, 1) := by decide +kernel
theorem dX4_placeOf_1 : decode cX4_placeOf 1 = .ok (.istore_n 2, 1) := by decide +kernel
theorem dX4_placeOf_2 : decode cX4_placeOf 2 = .ok (.iload_n 2, 1) := by decide +kernel
theorem dX4_placeOf_3 : decode cX4_placeOf 3 = .ok (.aload_n 0, 1) := by decide +kernel
theorem dX4_placeOf_4 : decode cX4_placeOf 4 = .ok (.getfield 21, 3) := by decide +kernel
theorem dX4_placeOf_7 : decode cX4_placeOf 7 = .ok (.if_icmp .ge 20, 3) := by decide +kernel
theorem dX4_placeOf_10 : decode cX4_placeOf 10 = .ok (.aload_n 0, 1) := by decide +kernel
theorem dX4_placeOf_11 : decode cX4_placeOf 11 = .ok (.iload_n 2, 1) := by decide +kernel
theorem dX4_placeOf_12 : decode cX4_placeOf 12 = .ok (.invokevirtual 38, 3) := by decide +kernel
theorem dX4_placeOf_15 : decode cX4_placeOf 15 = .ok (.aload_n 1, 1) := by decide +kernel
theorem dX4_placeOf_16 : decode cX4_placeOf 16 = .ok (.if_acmp .ne 5, 3) := by decide +kernel
theorem dX4_placeOf_19 : decode cX4_placeOf 19 = .ok (.iload_n 2, 1) := by decide +kernel
theorem dX4_placeOf_20 : decode cX4_placeOf 20 = .ok (.ireturn, 1) := by decide +kernel
theorem dX4_placeOf_21 : decode cX4_placeOf 21 = .ok (.iinc 2 1, 3) := by decide +kernel
theorem dX4_placeOf_24 : decode cX4_placeOf 24 = .ok (.goto (-22), 3) := by decide +kernel
theorem dX4_placeOf_27 : decode cX4_placeOf 27 = .ok (.iconst (-1), 1) := by decide +kernel
theorem dX4_placeOf_28 : decode cX4_placeOf 28 = .ok (.ireturn, 1) := by decide +kernel
theorem dX4_passTick_0 : decode cX4_passTick 0 = .ok (.aload_n 0, 1) := by decide +kernel
theorem dX4_passTick_1 : decode cX4_passTick 1 = .ok (.invokevirtual 42, 3) := by decide +kernel
theorem dX4_passTick_4 : decode cX4_passTick 4 = .ok (.astore_n 1, 1) := by decide +kernel
theorem dX4_passTick_5 : decode cX4_passTick 5 = .ok (.aload_n 0, 1) := by decide +kernel
theorem dX4_passTick_6 : decode cX4_passTick 6 = .ok (.getfield 28, 3) := by decide +kernel
theorem dX4_passTick_9 : decode cX4_passTick 9 = .ok (.ifnonnull 22, 3) := by decide +kernel
theorem dX4_passTick_12 : decode cX4_passTick 12 = .ok (.aload_n 0, 1) := by decide +kernel
theorem dX4_passTick_13 : decode cX4_passTick 13 = .ok (.invokevirtual 35, 3) := by decide +kernel
theorem dX4_passTick_16 : decode cX4_passTick 16 = .ok (.aload_n 0, 1) := by decide +kernel
theorem dX4_passTick_17 : decode cX4_passTick 17 = .ok (.aload_n 1, 1) := by decide +kernel
theorem dX4_passTick_18 : decode cX4_passTick 18 = .ok (.putfield 28, 3) := by decide +kernel
theorem dX4_passTick_21 : decode cX4_passTick 21 = .ok (.aload_n 1, 1) := by decide +kernel
theorem dX4_passTick_22 : decode cX4_passTick 22 = .ok (.ifnull 7, 3) := by decide +kernel
theorem dX4_passTick_25 : decode cX4_passTick 25 = .ok (.iconst 1, 1) := by decide +kernel
theorem dX4_passTick_26 : decode cX4_passTick 26 = .ok (.goto 4, 3) := by decide +kernel
theorem dX4_passTick_29 : decode cX4_passTick 29 = .ok (.iconst 0, 1) := by decide +kernel
theorem dX4_passTick_30 : decode cX4_passTick 30 = .ok (.ireturn, 1) := by decide +kernel
theorem dX4_passTick_31 : decode cX4_passTick 31 = .ok (.aload_n 0, 1) := by decide +kernel
theorem dX4_passTick_32 : decode cX4_passTick 32 = .ok (.aload_n 1, 1) := by decide +kernel
theorem dX4_passTick_33 : decode cX4_passTick 33 = .ok (.invokevirtual 46, 3) := by decide +kernel
theorem dX4_passTick_36 : decode cX4_passTick 36 = .ok (.ifCond .ne 9, 3) := by decide +kernel
theorem dX4_passTick_39 : decode cX4_passTick 39 = .ok (.aload_n 0, 1) := by decide +kernel
theorem dX4_passTick_40 : decode cX4_passTick 40 = .ok (.invokevirtual 35, 3) := by decide +kernel
theorem dX4_passTick_43 : decode cX4_passTick 43 = .ok (.iconst 0, 1) := by decide +kernel
theorem dX4_passTick_44 : decode cX4_passTick 44 = .ok (.ireturn, 1) := by decide +kernel
theorem dX4_passTick_45 : decode cX4_passTick 45 = .ok (.aload_n 0, 1) := by decide +kernel
theorem dX4_passTick_46 : decode cX4_passTick 46 = .ok (.aload_n 1, 1) := by decide +kernel
theorem dX4_passTick_47 : decode cX4_passTick 47 = .ok (.aload_n 0, 1) := by decide +kernel
theorem dX4_passTick_48 : decode cX4_passTick 48 = .ok (.getfield 32, 3) := by decide +kernel
theorem dX4_passTick_51 : decode cX4_passTick 51 = .ok (.if_acmp .ne 12, 3) := by decide +kernel
theorem dX4_passTick_54 : decode cX4_passTick 54 = .ok (.aload_n 0, 1) := by decide +kernel
theorem dX4_passTick_55 : decode cX4_passTick 55 = .ok (.getfield 50, 3) := by decide +kernel
theorem dX4_passTick_58 : decode cX4_passTick 58 = .ok (.iconst 1, 1) := by decide +kernel
theorem dX4_passTick_59 : decode cX4_passTick 59 = .ok (.iadd, 1) := by decide +kernel
theorem dX4_passTick_60 : decode cX4_passTick 60 = .ok (.goto 4, 3) := by decide +kernel
theorem dX4_passTick_63 : decode cX4_passTick 63 = .ok (.iconst 1, 1) := by decide +kernel
theorem dX4_passTick_64 : decode cX4_passTick 64 = .ok (.putfield 50, 3) := by decide +kernel
theorem dX4_passTick_67 : decode cX4_passTick 67 = .ok (.aload_n 0, 1) := by decide +kernel
theorem dX4_passTick_68 : decode cX4_passTick 68 = .ok (.aload_n 1, 1) := by decide +kernel
theorem dX4_passTick_69 : decode cX4_passTick 69 = .ok (.putfield 32, 3) := by decide +kernel
theorem dX4_passTick_72 : decode cX4_passTick 72 = .ok (.aload_n 0, 1) := by decide +kernel
theorem dX4_passTick_73 : decode cX4_passTick 73 = .ok (.getfield 50, 3) := by decide +kernel
theorem dX4_passTick_76 : decode cX4_passTick 76 = .ok (.iconst 3, 1) := by decide +kernel
theorem dX4_passTick_77 : decode cX4_passTick 77 = .ok (.if_icmp .ge 5, 3) := by decide +kernel
theorem dX4_passTick_80 : decode cX4_passTick 80 = .ok (.iconst 0, 1) := by decide +kernel
theorem dX4_passTick_81 : decode cX4_passTick 81 = .ok (.ireturn, 1) := by decide +kernel
theorem dX4_passTick_82 : decode cX4_passTick 82 = .ok (.aload_n 0, 1) := by decide +kernel
theorem dX4_passTick_83 : decode cX4_passTick 83 = .ok (.aload_n 1, 1) := by decide +kernel
theorem dX4_passTick_84 : decode cX4_passTick 84 = .ok (.putfield 28, 3) := by decide +kernel
theorem dX4_passTick_87 : decode cX4_passTick 87 = .ok (.aload_n 0, 1) := by decide +kernel
theorem dX4_passTick_88 : decode cX4_passTick 88 = .ok (.invokevirtual 35, 3) := by decide +kernel
theorem dX4_passTick_91 : decode cX4_passTick 91 = .ok (.iconst 1, 1) := by decide +kernel
theorem dX4_passTick_92 : decode cX4_passTick 92 = .ok (.ireturn, 1) := by decide +kernel
theorem dX4_candidate_0 : decode cX4_candidate 0 = .ok (.aconst_null, 1) := by decide +kernel
theorem dX4_candidate_1 : decode cX4_candidate 1 = .ok (.astore_n 1, 1) := by decide +kernel
theorem dX4_candidate_2 : decode cX4_candidate 2 = .ok (.iconst 0, 1) := by decide +kernel
theorem dX4_candidate_3 : decode cX4_candidate 3 = .ok (.istore_n 2, 1) := by decide +kernel
theorem dX4_candidate_4 : decode cX4_candidate 4 = .ok (.iload_n 2, 1) := by decide +kernel
theorem dX4_candidate_5 : decode cX4_candidate 5 = .ok (.aload_n 0, 1) := by decide +kernel
theorem dX4_candidate_6 : decode cX4_candidate 6 = .ok (.getfield 21, 3) := by decide +kernel
theorem dX4_candidate_9 : decode cX4_candidate 9 = .ok (.if_icmp .ge 36, 3) := by decide +kernel
theorem dX4_candidate_12 : decode cX4_candidate 12 = .ok (.aload_n 0, 1) := by decide +kernel
theorem dX4_candidate_13 : decode cX4_candidate 13 = .ok (.iload_n 2, 1) := by decide +kernel
theorem dX4_candidate_14 : decode cX4_candidate 14 = .ok (.invokevirtual 38, 3) := by decide +kernel
theorem dX4_candidate_17 : decode cX4_candidate 17 = .ok (.astore_n 3, 1) := by decide +kernel
theorem dX4_candidate_18 : decode cX4_candidate 18 = .ok (.aload_n 3, 1) := by decide +kernel
theorem dX4_candidate_19 : decode cX4_candidate 19 = .ok (.ifnull 20, 3) := by decide +kernel
theorem dX4_candidate_22 : decode cX4_candidate 22 = .ok (.aload_n 1, 1) := by decide +kernel
theorem dX4_candidate_23 : decode cX4_candidate 23 = .ok (.ifnull 14, 3) := by decide +kernel
theorem dX4_candidate_26 : decode cX4_candidate 26 = .ok (.aload_n 3, 1) := by decide +kernel
theorem dX4_candidate_27 : decode cX4_candidate 27 = .ok (.getfield 53, 3) := by decide +kernel
theorem dX4_candidate_30 : decode cX4_candidate 30 = .ok (.aload_n 1, 1) := by decide +kernel
theorem dX4_candidate_31 : decode cX4_candidate 31 = .ok (.getfield 53, 3) := by decide +kernel
theorem dX4_candidate_34 : decode cX4_candidate 34 = .ok (.if_icmp .le 5, 3) := by decide +kernel
theorem dX4_candidate_37 : decode cX4_candidate 37 = .ok (.aload_n 3, 1) := by decide +kernel
theorem dX4_candidate_38 : decode cX4_candidate 38 = .ok (.astore_n 1, 1) := by decide +kernel
theorem dX4_candidate_39 : decode cX4_candidate 39 = .ok (.iinc 2 1, 3) := by decide +kernel
theorem dX4_candidate_42 : decode cX4_candidate 42 = .ok (.goto (-38), 3) := by decide +kernel
theorem dX4_candidate_45 : decode cX4_candidate 45 = .ok (.aload_n 1, 1) := by decide +kernel
theorem dX4_candidate_46 : decode cX4_candidate 46 = .ok (.ifnull 16, 3) := by decide +kernel
theorem dX4_candidate_49 : decode cX4_candidate 49 = .ok (.aload_n 1, 1) := by decide +kernel
theorem dX4_candidate_50 : decode cX4_candidate 50 = .ok (.getfield 53, 3) := by decide +kernel
theorem dX4_candidate_53 : decode cX4_candidate 53 = .ok (.bipush 10, 2) := by decide +kernel
theorem dX4_candidate_55 : decode cX4_candidate 55 = .ok (.if_icmp .lt 7, 3) := by decide +kernel
theorem dX4_candidate_58 : decode cX4_candidate 58 = .ok (.aload_n 1, 1) := by decide +kernel
theorem dX4_candidate_59 : decode cX4_candidate 59 = .ok (.goto 4, 3) := by decide +kernel
theorem dX4_candidate_62 : decode cX4_candidate 62 = .ok (.aconst_null, 1) := by decide +kernel
theorem dX4_candidate_63 : decode cX4_candidate 63 = .ok (.areturn, 1) := by decide +kernel
theorem dX4_isLouderThanSpeaker_0 : decode cX4_isLouderThanSpeaker 0 = .ok (.aload_n 1, 1) := by decide +kernel
theorem dX4_isLouderThanSpeaker_1 : decode cX4_isLouderThanSpeaker 1 = .ok (.ifnull 30, 3) := by decide +kernel
theorem dX4_isLouderThanSpeaker_4 : decode cX4_isLouderThanSpeaker 4 = .ok (.aload_n 0, 1) := by decide +kernel
theorem dX4_isLouderThanSpeaker_5 : decode cX4_isLouderThanSpeaker 5 = .ok (.getfield 28, 3) := by decide +kernel
theorem dX4_isLouderThanSpeaker_8 : decode cX4_isLouderThanSpeaker 8 = .ok (.ifnull 23, 3) := by decide +kernel
theorem dX4_isLouderThanSpeaker_11 : decode cX4_isLouderThanSpeaker 11 = .ok (.aload_n 1, 1) := by decide +kernel
theorem dX4_isLouderThanSpeaker_12 : decode cX4_isLouderThanSpeaker 12 = .ok (.getfield 53, 3) := by decide +kernel
theorem dX4_isLouderThanSpeaker_15 : decode cX4_isLouderThanSpeaker 15 = .ok (.aload_n 0, 1) := by decide +kernel
theorem dX4_isLouderThanSpeaker_16 : decode cX4_isLouderThanSpeaker 16 = .ok (.getfield 28, 3) := by decide +kernel
theorem dX4_isLouderThanSpeaker_19 : decode cX4_isLouderThanSpeaker 19 = .ok (.getfield 53, 3) := by decide +kernel
theorem dX4_isLouderThanSpeaker_22 : decode cX4_isLouderThanSpeaker 22 = .ok (.iconst 5, 1) := by decide +kernel
theorem dX4_isLouderThanSpeaker_23 : decode cX4_isLouderThanSpeaker 23 = .ok (.iadd, 1) := by decide +kernel
theorem dX4_isLouderThanSpeaker_24 : decode cX4_isLouderThanSpeaker 24 = .ok (.if_icmp .lt 7, 3) := by decide +kernel
theorem dX4_isLouderThanSpeaker_27 : decode cX4_isLouderThanSpeaker 27 = .ok (.iconst 1, 1) := by decide +kernel
theorem dX4_isLouderThanSpeaker_28 : decode cX4_isLouderThanSpeaker 28 = .ok (.goto 4, 3) := by decide +kernel
theorem dX4_isLouderThanSpeaker_31 : decode cX4_isLouderThanSpeaker 31 = .ok (.iconst 0, 1) := by decide +kernel
theorem dX4_isLouderThanSpeaker_32 : decode cX4_isLouderThanSpeaker 32 = .ok (.ireturn, 1) := by decide +kernel
theorem dX4_endChallenge_0 : decode cX4_endChallenge 0 = .ok (.aload_n 0, 1) := by decide +kernel
theorem dX4_endChallenge_1 : decode cX4_endChallenge 1 = .ok (.aconst_null, 1) := by decide +kernel
theorem dX4_endChallenge_2 : decode cX4_endChallenge 2 = .ok (.putfield 32, 3) := by decide +kernel
theorem dX4_endChallenge_5 : decode cX4_endChallenge 5 = .ok (.aload_n 0, 1) := by decide +kernel
theorem dX4_endChallenge_6 : decode cX4_endChallenge 6 = .ok (.iconst 0, 1) := by decide +kernel
theorem dX4_endChallenge_7 : decode cX4_endChallenge 7 = .ok (.putfield 50, 3) := by decide +kernel
theorem dX4_endChallenge_10 : decode cX4_endChallenge 10 = .ok (.return_, 1) := by decide +kernel
theorem dX5_init_0 : decode cX5_init 0 = .ok (.aload_n 0, 1) := by decide +kernel
theorem dX5_init_1 : decode cX5_init 1 = .ok (.invokespecial 3, 3) := by decide +kernel
theorem dX5_init_4 : decode cX5_init 4 = .ok (.aload_n 0, 1) := by decide +kernel
theorem dX5_init_5 : decode cX5_init 5 = .ok (.bipush 16, 2) := by decide +kernel
theorem dX5_init_7 : decode cX5_init 7 = .ok (.newarray .int, 2) := by decide +kernel
theorem dX5_init_9 : decode cX5_init 9 = .ok (.putfield 9, 3) := by decide +kernel
theorem dX5_init_12 : decode cX5_init 12 = .ok (.aload_n 0, 1) := by decide +kernel
theorem dX5_init_13 : decode cX5_init 13 = .ok (.iload_n 1, 1) := by decide +kernel
theorem dX5_init_14 : decode cX5_init 14 = .ok (.putfield 15, 3) := by decide +kernel
theorem dX5_init_17 : decode cX5_init 17 = .ok (.return_, 1) := by decide +kernel
theorem dX5_put_0 : decode cX5_put 0 = .ok (.aload_n 0, 1) := by decide +kernel
theorem dX5_put_1 : decode cX5_put 1 = .ok (.getfield 19, 3) := by decide +kernel
theorem dX5_put_4 : decode cX5_put 4 = .ok (.aload_n 0, 1) := by decide +kernel
theorem dX5_put_5 : decode cX5_put 5 = .ok (.getfield 9, 3) := by decide +kernel
theorem dX5_put_8 : decode cX5_put 8 = .ok (.arraylength, 1) := by decide +kernel
theorem dX5_put_9 : decode cX5_put 9 = .ok (.if_icmp .lt 7, 3) := by decide +kernel
theorem dX5_put_12 : decode cX5_put 12 = .ok (.aload_n 0, 1) := by decide +kernel
theorem dX5_put_13 : decode cX5_put 13 = .ok (.invokevirtual 22, 3) := by decide +kernel
theorem dX5_put_16 : decode cX5_put 16 = .ok (.aload_n 0, 1) := by decide +kernel
theorem dX5_put_17 : decode cX5_put 17 = .ok (.getfield 19, 3) := by decide +kernel
theorem dX5_put_20 : decode cX5_put 20 = .ok (.ifCond .lt 35, 3) := by decide +kernel
theorem dX5_put_23 : decode cX5_put 23 = .ok (.aload_n 0, 1) := by decide +kernel
theorem dX5_put_24 : decode cX5_put 24 = .ok (.getfield 19, 3) := by decide +kernel
theorem dX5_put_27 : decode cX5_put 27 = .ok (.aload_n 0, 1) := by decide +kernel
theorem dX5_put_28 : decode cX5_put 28 = .ok (.getfield 9, 3) := by decide +kernel
theorem dX5_put_31 : decode cX5_put 31 = .ok (.arraylength, 1) := by decide +kernel
theorem dX5_put_32 : decode cX5_put 32 = .ok (.if_icmp .ge 23, 3) := by decide +kernel
theorem dX5_put_35 : decode cX5_put 35 = .ok (.aload_n 0, 1) := by decide +kernel
theorem dX5_put_36 : decode cX5_put 36 = .ok (.getfield 9, 3) := by decide +kernel
theorem dX5_put_39 : decode cX5_put 39 = .ok (.aload_n 0, 1) := by decide +kernel
theorem dX5_put_40 : decode cX5_put 40 = .ok (.getfield 19, 3) := by decide +kernel
theorem dX5_put_43 : decode cX5_put 43 = .ok (.iload_n 1, 1) := by decide +kernel
theorem dX5_put_44 : decode cX5_put 44 = .ok (.iastore, 1) := by decide +kernel
theorem dX5_put_45 : decode cX5_put 45 = .ok (.aload_n 0, 1) := by decide +kernel
theorem dX5_put_46 : decode cX5_put 46 = .ok (.dup, 1) := by decide +kernel
theorem dX5_put_47 : decode cX5_put 47 = .ok (.getfield 19, 3) := by decide +kernel
theorem dX5_put_50 : decode cX5_put 50 = .ok (.iconst 1, 1) := by decide +kernel
theorem dX5_put_51 : decode cX5_put 51 = .ok (.iadd, 1) := by decide +kernel
theorem dX5_put_52 : decode cX5_put 52 = .ok (.putfield 19, 3) := by decide +kernel
theorem dX5_put_55 : decode cX5_put 55 = .ok (.return_, 1) := by decide +kernel
theorem dX5_grow_0 : decode cX5_grow 0 = .ok (.iconst 2, 1) := by decide +kernel
theorem dX5_grow_1 : decode cX5_grow 1 = .ok (.aload_n 0, 1) := by decide +kernel
theorem dX5_grow_2 : decode cX5_grow 2 = .ok (.getfield 9, 3) := by decide +kernel
theorem dX5_grow_5 : decode cX5_grow 5 = .ok (.arraylength, 1) := by decide +kernel
theorem dX5_grow_6 : decode cX5_grow 6 = .ok (.imul, 1) := by decide +kernel
theorem dX5_grow_7 : decode cX5_grow 7 = .ok (.aload_n 0, 1) := by decide +kernel
theorem dX5_grow_8 : decode cX5_grow 8 = .ok (.getfield 15, 3) := by decide +kernel
theorem dX5_grow_11 : decode cX5_grow 11 = .ok (.invokestatic 25, 3) := by decide +kernel
theorem dX5_grow_14 : decode cX5_grow 14 = .ok (.istore_n 1, 1) := by decide +kernel
theorem dX5_grow_15 : decode cX5_grow 15 = .ok (.iload_n 1, 1) := by decide +kernel
theorem dX5_grow_16 : decode cX5_grow 16 = .ok (.aload_n 0, 1) := by decide +kernel
theorem dX5_grow_17 : decode cX5_grow 17 = .ok (.getfield 9, 3) := by decide +kernel
theorem dX5_grow_20 : decode cX5_grow 20 = .ok (.arraylength, 1) := by decide +kernel
theorem dX5_grow_21 : decode cX5_grow 21 = .ok (.if_icmp .le 15, 3) := by decide +kernel
theorem dX5_grow_24 : decode cX5_grow 24 = .ok (.aload_n 0, 1) := by decide +kernel
theorem dX5_grow_25 : decode cX5_grow 25 = .ok (.aload_n 0, 1) := by decide +kernel
theorem dX5_grow_26 : decode cX5_grow 26 = .ok (.getfield 9, 3) := by decide +kernel
theorem dX5_grow_29 : decode cX5_grow 29 = .ok (.iload_n 1, 1) := by decide +kernel
theorem dX5_grow_30 : decode cX5_grow 30 = .ok (.invokestatic 31, 3) := by decide +kernel
theorem dX5_grow_33 : decode cX5_grow 33 = .ok (.putfield 9, 3) := by decide +kernel
theorem dX5_grow_36 : decode cX5_grow 36 = .ok (.return_, 1) := by decide +kernel
theorem dX5_has_0 : decode cX5_has 0 = .ok (.iload_n 1, 1) := by decide +kernel
theorem dX5_has_1 : decode cX5_has 1 = .ok (.ifCond .lt 15, 3) := by decide +kernel
theorem dX5_has_4 : decode cX5_has 4 = .ok (.iload_n 1, 1) := by decide +kernel
theorem dX5_has_5 : decode cX5_has 5 = .ok (.aload_n 0, 1) := by decide +kernel
theorem dX5_has_6 : decode cX5_has 6 = .ok (.getfield 19, 3) := by decide +kernel
theorem dX5_has_9 : decode cX5_has 9 = .ok (.if_icmp .ge 7, 3) := by decide +kernel
theorem dX5_has_12 : decode cX5_has 12 = .ok (.iconst 1, 1) := by decide +kernel
theorem dX5_has_13 : decode cX5_has 13 = .ok (.goto 4, 3) := by decide +kernel
theorem dX5_has_16 : decode cX5_has 16 = .ok (.iconst 0, 1) := by decide +kernel
theorem dX5_has_17 : decode cX5_has 17 = .ok (.ireturn, 1) := by decide +kernel
theorem dX5_at_0 : decode cX5_at 0 = .ok (.iload_n 1, 1) := by decide +kernel
theorem dX5_at_1 : decode cX5_at 1 = .ok (.ifCond .lt 20, 3) := by decide +kernel
theorem dX5_at_4 : decode cX5_at 4 = .ok (.iload_n 1, 1) := by decide +kernel
theorem dX5_at_5 : decode cX5_at 5 = .ok (.aload_n 0, 1) := by decide +kernel
theorem dX5_at_6 : decode cX5_at 6 = .ok (.getfield 19, 3) := by decide +kernel
theorem dX5_at_9 : decode cX5_at 9 = .ok (.if_icmp .ge 12, 3) := by decide +kernel
theorem dX5_at_12 : decode cX5_at 12 = .ok (.iload_n 1, 1) := by decide +kernel
theorem dX5_at_13 : decode cX5_at 13 = .ok (.aload_n 0, 1) := by decide +kernel
theorem dX5_at_14 : decode cX5_at 14 = .ok (.getfield 9, 3) := by decide +kernel
theorem dX5_at_17 : decode cX5_at 17 = .ok (.arraylength, 1) := by decide +kernel
theorem dX5_at_18 : decode cX5_at 18 = .ok (.if_icmp .lt 7, 3) := by decide +kernel
theorem dX5_at_21 : decode cX5_at 21 = .ok (.iconst 0, 1) := by decide +kernel
theorem dX5_at_22 : decode cX5_at 22 = .ok (.goto 9, 3) := by decide +kernel
theorem dX5_at_25 : decode cX5_at 25 = .ok (.aload_n 0, 1) := by decide +kernel
theorem dX5_at_26 : decode cX5_at 26 = .ok (.getfield 9, 3) := by decide +kernel
theorem dX5_at_29 : decode cX5_at 29 = .ok (.iload_n 1, 1) := by decide +kernel
theorem dX5_at_30 : decode cX5_at 30 = .ok (.iaload, 1) := by decide +kernel
theorem dX5_at_31 : decode cX5_at 31 = .ok (.ireturn, 1) := by decide +kernel
theorem dX6_init_0 : decode cX6_init 0 = .ok (.aload_n 0, 1) := by decide +kernel
theorem dX6_init_1 : decode cX6_init 1 = .ok (.invokespecial 1, 3) := by decide +kernel
theorem dX6_init_4 : decode cX6_init 4 = .ok (.aload_n 0, 1) := by decide +kernel
theorem dX6_init_5 : decode cX6_init 5 = .ok (.bipush 10, 2) := by decide +kernel
theorem dX6_init_7 : decode cX6_init 7 = .ok (.anewarray 9, 3) := by decide +kernel
theorem dX6_init_10 : decode cX6_init 10 = .ok (.putfield 11, 3) := by decide +kernel
theorem dX6_init_13 : decode cX6_init 13 = .ok (.aload_n 0, 1) := by decide +kernel
theorem dX6_init_14 : decode cX6_init 14 = .ok (.bipush 6, 2) := by decide +kernel
theorem dX6_init_16 : decode cX6_init 16 = .ok (.anewarray 15, 3) := by decide +kernel
theorem dX6_init_19 : decode cX6_init 19 = .ok (.putfield 17, 3) := by decide +kernel
theorem dX6_init_22 : decode cX6_init 22 = .ok (.aload_n 0, 1) := by decide +kernel
theorem dX6_init_23 : decode cX6_init 23 = .ok (.bipush 8, 2) := by decide +kernel
theorem dX6_init_25 : decode cX6_init 25 = .ok (.anewarray 21, 3) := by decide +kernel
theorem dX6_init_28 : decode cX6_init 28 = .ok (.putfield 23, 3) := by decide +kernel
theorem dX6_init_31 : decode cX6_init 31 = .ok (.aload_n 0, 1) := by decide +kernel
theorem dX6_init_32 : decode cX6_init 32 = .ok (.new 27, 3) := by decide +kernel
theorem dX6_init_35 : decode cX6_init 35 = .ok (.dup, 1) := by decide +kernel
theorem dX6_init_36 : decode cX6_init 36 = .ok (.sipush 12000, 3) := by decide +kernel
theorem dX6_init_39 : decode cX6_init 39 = .ok (.invokespecial 29, 3) := by decide +kernel
theorem dX6_init_42 : decode cX6_init 42 = .ok (.putfield 32, 3) := by decide +kernel
theorem dX6_init_45 : decode cX6_init 45 = .ok (.aload_n 0, 1) := by decide +kernel
theorem dX6_init_46 : decode cX6_init 46 = .ok (.new 36, 3) := by decide +kernel
theorem dX6_init_49 : decode cX6_init 49 = .ok (.dup, 1) := by decide +kernel
theorem dX6_init_50 : decode cX6_init 50 = .ok (.invokespecial 38, 3) := by decide +kernel
theorem dX6_init_53 : decode cX6_init 53 = .ok (.putfield 39, 3) := by decide +kernel
theorem dX6_init_56 : decode cX6_init 56 = .ok (.return_, 1) := by decide +kernel
theorem dX6_addPerson_0 : decode cX6_addPerson 0 = .ok (.sipush 9999, 3) := by decide +kernel
theorem dX6_addPerson_3 : decode cX6_addPerson 3 = .ok (.iload_n 1, 1) := by decide +kernel
theorem dX6_addPerson_4 : decode cX6_addPerson 4 = .ok (.invokestatic 43, 3) := by decide +kernel
theorem dX6_addPerson_7 : decode cX6_addPerson 7 = .ok (.aload_n 0, 1) := by decide +kernel
theorem dX6_addPerson_8 : decode cX6_addPerson 8 = .ok (.getfield 47, 3) := by decide +kernel
theorem dX6_addPerson_11 : decode cX6_addPerson 11 = .ok (.istore_n 2, 1) := by decide +kernel
theorem dX6_addPerson_12 : decode cX6_addPerson 12 = .ok (.iload_n 2, 1) := by decide +kernel
theorem dX6_addPerson_13 : decode cX6_addPerson 13 = .ok (.ifCond .lt 12, 3) := by decide +kernel
theorem dX6_addPerson_16 : decode cX6_addPerson 16 = .ok (.iload_n 2, 1) := by decide +kernel
theorem dX6_addPerson_17 : decode cX6_addPerson 17 = .ok (.aload_n 0, 1) := by decide +kernel
theorem dX6_addPerson_18 : decode cX6_addPerson 18 = .ok (.getfield 11, 3) := by decide +kernel
theorem dX6_addPerson_21 : decode cX6_addPerson 21 = .ok (.arraylength, 1) := by decide +kernel
theorem dX6_addPerson_22 : decode cX6_addPerson 22 = .ok (.if_icmp .lt 13, 3) := by decide +kernel
theorem dX6_addPerson_25 : decode cX6_addPerson 25 = .ok (.new 51, 3) := by decide +kernel
theorem dX6_addPerson_28 : decode cX6_addPerson 28 = .ok (.dup, 1) := by decide +kernel
theorem dX6_addPerson_29 : decode cX6_addPerson 29 = .ok (.ldc 53, 2) := by decide +kernel
theorem dX6_addPerson_31 : decode cX6_addPerson 31 = .ok (.invokespecial 55, 3) := by decide +kernel
theorem dX6_addPerson_34 : decode cX6_addPerson 34 = .ok (.athrow, 1) := by decide +kernel
theorem dX6_addPerson_35 : decode cX6_addPerson 35 = .ok (.aload_n 0, 1) := by decide +kernel
theorem dX6_addPerson_36 : decode cX6_addPerson 36 = .ok (.getfield 11, 3) := by decide +kernel
theorem dX6_addPerson_39 : decode cX6_addPerson 39 = .ok (.iload_n 2, 1) := by decide +kernel
theorem dX6_addPerson_40 : decode cX6_addPerson 40 = .ok (.new 9, 3) := by decide +kernel
theorem dX6_addPerson_43 : decode cX6_addPerson 43 = .ok (.dup, 1) := by decide +kernel
theorem dX6_addPerson_44 : decode cX6_addPerson 44 = .ok (.iload_n 2, 1) := by decide +kernel
theorem dX6_addPerson_45 : decode cX6_addPerson 45 = .ok (.iload_n 1, 1) := by decide +kernel
theorem dX6_addPerson_46 : decode cX6_addPerson 46 = .ok (.invokespecial 58, 3) := by decide +kernel
theorem dX6_addPerson_49 : decode cX6_addPerson 49 = .ok (.aastore, 1) := by decide +kernel
theorem dX6_addPerson_50 : decode cX6_addPerson 50 = .ok (.aload_n 0, 1) := by decide +kernel
theorem dX6_addPerson_51 : decode cX6_addPerson 51 = .ok (.iload_n 2, 1) := by decide +kernel
theorem dX6_addPerson_52 : decode cX6_addPerson 52 = .ok (.iconst 1, 1) := by decide +kernel
theorem dX6_addPerson_53 : decode cX6_addPerson 53 = .ok (.iadd, 1) := by decide +kernel
theorem dX6_addPerson_54 : decode cX6_addPerson 54 = .ok (.putfield 47, 3) := by decide +kernel
theorem dX6_addPerson_57 : decode cX6_addPerson 57 = .ok (.iload_n 2, 1) := by decide +kernel
theorem dX6_addPerson_58 : decode cX6_addPerson 58 = .ok (.ireturn, 1) := by decide +kernel
theorem dX6_setBudget_0 : decode cX6_setBudget 0 = .ok (.aload_n 0, 1) := by decide +kernel
theorem dX6_setBudget_1 : decode cX6_setBudget 1 = .ok (.iload_n 1, 1) := by decide +kernel
theorem dX6_setBudget_2 : decode cX6_setBudget 2 = .ok (.invokevirtual 60, 3) := by decide +kernel
theorem dX6_setBudget_5 : decode cX6_setBudget 5 = .ok (.astore_n 3, 1) := by decide +kernel
theorem dX6_setBudget_6 : decode cX6_setBudget 6 = .ok (.sipush 9999, 3) := by decide +kernel
theorem dX6_setBudget_9 : decode cX6_setBudget 9 = .ok (.iload_n 2, 1) := by decide +kernel
theorem dX6_setBudget_10 : decode cX6_setBudget 10 = .ok (.invokestatic 43, 3) := by decide +kernel
theorem dX6_setBudget_13 : decode cX6_setBudget 13 = .ok (.aload_n 3, 1) := by decide +kernel
theorem dX6_setBudget_14 : decode cX6_setBudget 14 = .ok (.getfield 64, 3) := by decide +kernel
theorem dX6_setBudget_17 : decode cX6_setBudget 17 = .ok (.istore 4, 2) := by decide +kernel
theorem dX6_setBudget_19 : decode cX6_setBudget 19 = .ok (.aload_n 3, 1) := by decide +kernel
theorem dX6_setBudget_20 : decode cX6_setBudget 20 = .ok (.iload_n 2, 1) := by decide +kernel
theorem dX6_setBudget_21 : decode cX6_setBudget 21 = .ok (.putfield 64, 3) := by decide +kernel
theorem dX6_setBudget_24 : decode cX6_setBudget 24 = .ok (.aload_n 0, 1) := by decide +kernel
theorem dX6_setBudget_25 : decode cX6_setBudget 25 = .ok (.invokevirtual 67, 3) := by decide +kernel
theorem dX6_setBudget_28 : decode cX6_setBudget 28 = .ok (.iload 4, 2) := by decide +kernel
theorem dX6_setBudget_30 : decode cX6_setBudget 30 = .ok (.ireturn, 1) := by decide +kernel
theorem dX6_setSends_0 : decode cX6_setSends 0 = .ok (.aload_n 0, 1) := by decide +kernel
theorem dX6_setSends_1 : decode cX6_setSends 1 = .ok (.iload_n 1, 1) := by decide +kernel
theorem dX6_setSends_2 : decode cX6_setSends 2 = .ok (.invokevirtual 60, 3) := by decide +kernel
theorem dX6_setSends_5 : decode cX6_setSends 5 = .ok (.astore_n 3, 1) := by decide +kernel
theorem dX6_setSends_6 : decode cX6_setSends 6 = .ok (.iconst 3, 1) := by decide +kernel
theorem dX6_setSends_7 : decode cX6_setSends 7 = .ok (.iload_n 2, 1) := by decide +kernel
theorem dX6_setSends_8 : decode cX6_setSends 8 = .ok (.invokestatic 43, 3) := by decide +kernel
theorem dX6_setSends_11 : decode cX6_setSends 11 = .ok (.aload_n 3, 1) := by decide +kernel
theorem dX6_setSends_12 : decode cX6_setSends 12 = .ok (.getfield 70, 3) := by decide +kernel
theorem dX6_setSends_15 : decode cX6_setSends 15 = .ok (.istore 4, 2) := by decide +kernel
theorem dX6_setSends_17 : decode cX6_setSends 17 = .ok (.aload_n 3, 1) := by decide +kernel
theorem dX6_setSends_18 : decode cX6_setSends 18 = .ok (.iload_n 2, 1) := by decide +kernel
theorem dX6_setSends_19 : decode cX6_setSends 19 = .ok (.putfield 70, 3) := by decide +kernel
theorem dX6_setSends_22 : decode cX6_setSends 22 = .ok (.aload_n 0, 1) := by decide +kernel
theorem dX6_setSends_23 : decode cX6_setSends 23 = .ok (.invokevirtual 67, 3) := by decide +kernel
theorem dX6_setSends_26 : decode cX6_setSends 26 = .ok (.iload 4, 2) := by decide +kernel
theorem dX6_setSends_28 : decode cX6_setSends 28 = .ok (.ireturn, 1) := by decide +kernel
theorem dX6_setLoud_0 : decode cX6_setLoud 0 = .ok (.aload_n 0, 1) := by decide +kernel
theorem dX6_setLoud_1 : decode cX6_setLoud 1 = .ok (.iload_n 1, 1) := by decide +kernel
theorem dX6_setLoud_2 : decode cX6_setLoud 2 = .ok (.invokevirtual 60, 3) := by decide +kernel
theorem dX6_setLoud_5 : decode cX6_setLoud 5 = .ok (.astore_n 3, 1) := by decide +kernel
theorem dX6_setLoud_6 : decode cX6_setLoud 6 = .ok (.bipush 99, 2) := by decide +kernel
theorem dX6_setLoud_8 : decode cX6_setLoud 8 = .ok (.iload_n 2, 1) := by decide +kernel
theorem dX6_setLoud_9 : decode cX6_setLoud 9 = .ok (.invokestatic 43, 3) := by decide +kernel
theorem dX6_setLoud_12 : decode cX6_setLoud 12 = .ok (.aload_n 3, 1) := by decide +kernel
theorem dX6_setLoud_13 : decode cX6_setLoud 13 = .ok (.getfield 73, 3) := by decide +kernel
theorem dX6_setLoud_16 : decode cX6_setLoud 16 = .ok (.istore 4, 2) := by decide +kernel
theorem dX6_setLoud_18 : decode cX6_setLoud 18 = .ok (.aload_n 3, 1) := by decide +kernel
theorem dX6_setLoud_19 : decode cX6_setLoud 19 = .ok (.iload_n 2, 1) := by decide +kernel
theorem dX6_setLoud_20 : decode cX6_setLoud 20 = .ok (.putfield 73, 3) := by decide +kernel
theorem dX6_setLoud_23 : decode cX6_setLoud 23 = .ok (.iload 4, 2) := by decide +kernel
theorem dX6_setLoud_25 : decode cX6_setLoud 25 = .ok (.ireturn, 1) := by decide +kernel
theorem dX6_addRoom_0 : decode cX6_addRoom 0 = .ok (.aload_n 0, 1) := by decide +kernel
theorem dX6_addRoom_1 : decode cX6_addRoom 1 = .ok (.invokevirtual 76, 3) := by decide +kernel
theorem dX6_addRoom_4 : decode cX6_addRoom 4 = .ok (.ifCond .ne 13, 3) := by decide +kernel
theorem dX6_addRoom_7 : decode cX6_addRoom 7 = .ok (.new 51, 3) := by decide +kernel
theorem dX6_addRoom_10 : decode cX6_addRoom 10 = .ok (.dup, 1) := by decide +kernel
theorem dX6_addRoom_11 : decode cX6_addRoom 11 = .ok (.ldc 80, 2) := by decide +kernel
theorem dX6_addRoom_13 : decode cX6_addRoom 13 = .ok (.invokespecial 55, 3) := by decide +kernel
theorem dX6_addRoom_16 : decode cX6_addRoom 16 = .ok (.athrow, 1) := by decide +kernel
theorem dX6_addRoom_17 : decode cX6_addRoom 17 = .ok (.aload_n 0, 1) := by decide +kernel
theorem dX6_addRoom_18 : decode cX6_addRoom 18 = .ok (.invokevirtual 82, 3) := by decide +kernel
theorem dX6_addRoom_21 : decode cX6_addRoom 21 = .ok (.getfield 86, 3) := by decide +kernel
theorem dX6_addRoom_24 : decode cX6_addRoom 24 = .ok (.ireturn, 1) := by decide +kernel
theorem dX6_enter_0 : decode cX6_enter 0 = .ok (.aload_n 0, 1) := by decide +kernel
theorem dX6_enter_1 : decode cX6_enter 1 = .ok (.iload_n 1, 1) := by decide +kernel
theorem dX6_enter_2 : decode cX6_enter 2 = .ok (.invokevirtual 60, 3) := by decide +kernel
theorem dX6_enter_5 : decode cX6_enter 5 = .ok (.astore_n 3, 1) := by decide +kernel
theorem dX6_enter_6 : decode cX6_enter 6 = .ok (.aload_n 0, 1) := by decide +kernel
theorem dX6_enter_7 : decode cX6_enter 7 = .ok (.iload_n 2, 1) := by decide +kernel
theorem dX6_enter_8 : decode cX6_enter 8 = .ok (.invokevirtual 89, 3) := by decide +kernel
theorem dX6_enter_11 : decode cX6_enter 11 = .ok (.astore 4, 2) := by decide +kernel
theorem dX6_enter_13 : decode cX6_enter 13 = .ok (.aload_n 3, 1) := by decide +kernel
theorem dX6_enter_14 : decode cX6_enter 14 = .ok (.getfield 93, 3) := by decide +kernel
theorem dX6_enter_17 : decode cX6_enter 17 = .ok (.aload 4, 2) := by decide +kernel
theorem dX6_enter_19 : decode cX6_enter 19 = .ok (.if_acmp .ne 13, 3) := by decide +kernel
theorem dX6_enter_22 : decode cX6_enter 22 = .ok (.new 51, 3) := by decide +kernel
theorem dX6_enter_25 : decode cX6_enter 25 = .ok (.dup, 1) := by decide +kernel
theorem dX6_enter_26 : decode cX6_enter 26 = .ok (.ldc 97, 2) := by decide +kernel
theorem dX6_enter_28 : decode cX6_enter 28 = .ok (.invokespecial 55, 3) := by decide +kernel
theorem dX6_enter_31 : decode cX6_enter 31 = .ok (.athrow, 1) := by decide +kernel
theorem dX6_enter_32 : decode cX6_enter 32 = .ok (.aload_n 3, 1) := by decide +kernel
theorem dX6_enter_33 : decode cX6_enter 33 = .ok (.aload 4, 2) := by decide +kernel
theorem dX6_enter_35 : decode cX6_enter 35 = .ok (.invokestatic 99, 3) := by decide +kernel
theorem dX6_enter_38 : decode cX6_enter 38 = .ok (.aload_n 0, 1) := by decide +kernel
theorem dX6_enter_39 : decode cX6_enter 39 = .ok (.invokevirtual 103, 3) := by decide +kernel
theorem dX6_enter_42 : decode cX6_enter 42 = .ok (.aload 4, 2) := by decide +kernel
theorem dX6_enter_44 : decode cX6_enter 44 = .ok (.getfield 106, 3) := by decide +kernel
theorem dX6_enter_47 : decode cX6_enter 47 = .ok (.ireturn, 1) := by decide +kernel
theorem dX6_leave_0 : decode cX6_leave 0 = .ok (.aload_n 0, 1) := by decide +kernel
theorem dX6_leave_1 : decode cX6_leave 1 = .ok (.iload_n 1, 1) := by decide +kernel
theorem dX6_leave_2 : decode cX6_leave 2 = .ok (.invokevirtual 60, 3) := by decide +kernel
theorem dX6_leave_5 : decode cX6_leave 5 = .ok (.astore_n 2, 1) := by decide +kernel
theorem dX6_leave_6 : decode cX6_leave 6 = .ok (.aload_n 2, 1) := by decide +kernel
theorem dX6_leave_7 : decode cX6_leave 7 = .ok (.getfield 93, 3) := by decide +kernel
theorem dX6_leave_10 : decode cX6_leave 10 = .ok (.astore_n 3, 1) := by decide +kernel
theorem dX6_leave_11 : decode cX6_leave 11 = .ok (.aload_n 3, 1) := by decide +kernel
theorem dX6_leave_12 : decode cX6_leave 12 = .ok (.ifnonnull 13, 3) := by decide +kernel
theorem dX6_leave_15 : decode cX6_leave 15 = .ok (.new 51, 3) := by decide +kernel
theorem dX6_leave_18 : decode cX6_leave 18 = .ok (.dup, 1) := by decide +kernel
theorem dX6_leave_19 : decode cX6_leave 19 = .ok (.ldc 109, 2) := by decide +kernel
theorem dX6_leave_21 : decode cX6_leave 21 = .ok (.invokespecial 55, 3) := by decide +kernel
theorem dX6_leave_24 : decode cX6_leave 24 = .ok (.athrow, 1) := by decide +kernel
theorem dX6_leave_25 : decode cX6_leave 25 = .ok (.aload_n 2, 1) := by decide +kernel
theorem dX6_leave_26 : decode cX6_leave 26 = .ok (.aconst_null, 1) := by decide +kernel
theorem dX6_leave_27 : decode cX6_leave 27 = .ok (.invokestatic 99, 3) := by decide +kernel
theorem dX6_leave_30 : decode cX6_leave 30 = .ok (.aload_n 0, 1) := by decide +kernel
theorem dX6_leave_31 : decode cX6_leave 31 = .ok (.invokevirtual 103, 3) := by decide +kernel
theorem dX6_leave_34 : decode cX6_leave 34 = .ok (.aload_n 3, 1) := by decide +kernel
theorem dX6_leave_35 : decode cX6_leave 35 = .ok (.getfield 86, 3) := by decide +kernel
theorem dX6_leave_38 : decode cX6_leave 38 = .ok (.ireturn, 1) := by decide +kernel
theorem dX6_split_0 : decode cX6_split 0 = .ok (.aload_n 0, 1) := by decide +kernel
theorem dX6_split_1 : decode cX6_split 1 = .ok (.iload_n 1, 1) := by decide +kernel
theorem dX6_split_2 : decode cX6_split 2 = .ok (.invokevirtual 89, 3) := by decide +kernel
theorem dX6_split_5 : decode cX6_split 5 = .ok (.astore_n 2, 1) := by decide +kernel
theorem dX6_split_6 : decode cX6_split 6 = .ok (.aload_n 2, 1) := by decide +kernel
theorem dX6_split_7 : decode cX6_split 7 = .ok (.getfield 106, 3) := by decide +kernel
theorem dX6_split_10 : decode cX6_split 10 = .ok (.iconst 2, 1) := by decide +kernel
theorem dX6_split_11 : decode cX6_split 11 = .ok (.if_icmp .lt 10, 3) := by decide +kernel
theorem dX6_split_14 : decode cX6_split 14 = .ok (.aload_n 0, 1) := by decide +kernel
theorem dX6_split_15 : decode cX6_split 15 = .ok (.invokevirtual 76, 3) := by decide +kernel
theorem dX6_split_18 : decode cX6_split 18 = .ok (.ifCond .ne 13, 3) := by decide +kernel
theorem dX6_split_21 : decode cX6_split 21 = .ok (.new 51, 3) := by decide +kernel
theorem dX6_split_24 : decode cX6_split 24 = .ok (.dup, 1) := by decide +kernel
theorem dX6_split_25 : decode cX6_split 25 = .ok (.ldc 111, 2) := by decide +kernel
theorem dX6_split_27 : decode cX6_split 27 = .ok (.invokespecial 55, 3) := by decide +kernel
theorem dX6_split_30 : decode cX6_split 30 = .ok (.athrow, 1) := by decide +kernel
theorem dX6_split_31 : decode cX6_split 31 = .ok (.aload_n 0, 1) := by decide +kernel
theorem dX6_split_32 : decode cX6_split 32 = .ok (.invokevirtual 82, 3) := by decide +kernel
theorem dX6_split_35 : decode cX6_split 35 = .ok (.astore_n 3, 1) := by decide +kernel
theorem dX6_split_36 : decode cX6_split 36 = .ok (.iconst 1, 1) := by decide +kernel
theorem dX6_split_37 : decode cX6_split 37 = .ok (.istore 4, 2) := by decide +kernel
theorem dX6_split_39 : decode cX6_split 39 = .ok (.iload 4, 2) := by decide +kernel
theorem dX6_split_41 : decode cX6_split 41 = .ok (.bipush 10, 2) := by decide +kernel
theorem dX6_split_43 : decode cX6_split 43 = .ok (.if_icmp .ge 28, 3) := by decide +kernel
theorem dX6_split_46 : decode cX6_split 46 = .ok (.aload_n 2, 1) := by decide +kernel
theorem dX6_split_47 : decode cX6_split 47 = .ok (.iload 4, 2) := by decide +kernel
theorem dX6_split_49 : decode cX6_split 49 = .ok (.invokevirtual 113, 3) := by decide +kernel
theorem dX6_split_52 : decode cX6_split 52 = .ok (.astore 5, 2) := by decide +kernel
theorem dX6_split_54 : decode cX6_split 54 = .ok (.aload 5, 2) := by decide +kernel
theorem dX6_split_56 : decode cX6_split 56 = .ok (.ifnull 9, 3) := by decide +kernel
theorem dX6_split_59 : decode cX6_split 59 = .ok (.aload 5, 2) := by decide +kernel
theorem dX6_split_61 : decode cX6_split 61 = .ok (.aload_n 3, 1) := by decide +kernel
theorem dX6_split_62 : decode cX6_split 62 = .ok (.invokestatic 99, 3) := by decide +kernel
theorem dX6_split_65 : decode cX6_split 65 = .ok (.iinc 4 1, 3) := by decide +kernel
theorem dX6_split_68 : decode cX6_split 68 = .ok (.goto (-29), 3) := by decide +kernel
theorem dX6_split_71 : decode cX6_split 71 = .ok (.aload_n 0, 1) := by decide +kernel
theorem dX6_split_72 : decode cX6_split 72 = .ok (.invokevirtual 103, 3) := by decide +kernel
theorem dX6_split_75 : decode cX6_split 75 = .ok (.aload_n 3, 1) := by decide +kernel
theorem dX6_split_76 : decode cX6_split 76 = .ok (.getfield 86, 3) := by decide +kernel
theorem dX6_split_79 : decode cX6_split 79 = .ok (.ireturn, 1) := by decide +kernel
theorem dX6_join_0 : decode cX6_join 0 = .ok (.aload_n 0, 1) := by decide +kernel
theorem dX6_join_1 : decode cX6_join 1 = .ok (.iload_n 1, 1) := by decide +kernel
theorem dX6_join_2 : decode cX6_join 2 = .ok (.invokevirtual 89, 3) := by decide +kernel
theorem dX6_join_5 : decode cX6_join 5 = .ok (.astore_n 3, 1) := by decide +kernel
theorem dX6_join_6 : decode cX6_join 6 = .ok (.aload_n 0, 1) := by decide +kernel
theorem dX6_join_7 : decode cX6_join 7 = .ok (.iload_n 2, 1) := by decide +kernel
theorem dX6_join_8 : decode cX6_join 8 = .ok (.invokevirtual 89, 3) := by decide +kernel
theorem dX6_join_11 : decode cX6_join 11 = .ok (.astore 4, 2) := by decide +kernel
theorem dX6_join_13 : decode cX6_join 13 = .ok (.aload_n 3, 1) := by decide +kernel
theorem dX6_join_14 : decode cX6_join 14 = .ok (.aload 4, 2) := by decide +kernel
theorem dX6_join_16 : decode cX6_join 16 = .ok (.if_acmp .ne 13, 3) := by decide +kernel
theorem dX6_join_19 : decode cX6_join 19 = .ok (.new 116, 3) := by decide +kernel
theorem dX6_join_22 : decode cX6_join 22 = .ok (.dup, 1) := by decide +kernel
theorem dX6_join_23 : decode cX6_join 23 = .ok (.ldc 118, 2) := by decide +kernel
theorem dX6_join_25 : decode cX6_join 25 = .ok (.invokespecial 120, 3) := by decide +kernel
theorem dX6_join_28 : decode cX6_join 28 = .ok (.athrow, 1) := by decide +kernel
theorem dX6_join_29 : decode cX6_join 29 = .ok (.iconst 0, 1) := by decide +kernel
theorem dX6_join_30 : decode cX6_join 30 = .ok (.istore 5, 2) := by decide +kernel
theorem dX6_join_32 : decode cX6_join 32 = .ok (.iload 5, 2) := by decide +kernel
theorem dX6_join_34 : decode cX6_join 34 = .ok (.bipush 10, 2) := by decide +kernel
theorem dX6_join_36 : decode cX6_join 36 = .ok (.if_icmp .ge 28, 3) := by decide +kernel
theorem dX6_join_39 : decode cX6_join 39 = .ok (.aload_n 3, 1) := by decide +kernel
theorem dX6_join_40 : decode cX6_join 40 = .ok (.iconst 0, 1) := by decide +kernel
theorem dX6_join_41 : decode cX6_join 41 = .ok (.invokevirtual 113, 3) := by decide +kernel
theorem dX6_join_44 : decode cX6_join 44 = .ok (.astore 6, 2) := by decide +kernel
theorem dX6_join_46 : decode cX6_join 46 = .ok (.aload 6, 2) := by decide +kernel
theorem dX6_join_48 : decode cX6_join 48 = .ok (.ifnull 10, 3) := by decide +kernel
theorem dX6_join_51 : decode cX6_join 51 = .ok (.aload 6, 2) := by decide +kernel
theorem dX6_join_53 : decode cX6_join 53 = .ok (.aload 4, 2) := by decide +kernel
theorem dX6_join_55 : decode cX6_join 55 = .ok (.invokestatic 99, 3) := by decide +kernel
theorem dX6_join_58 : decode cX6_join 58 = .ok (.iinc 5 1, 3) := by decide +kernel
theorem dX6_join_61 : decode cX6_join 61 = .ok (.goto (-29), 3) := by decide +kernel
theorem dX6_join_64 : decode cX6_join 64 = .ok (.aload_n 0, 1) := by decide +kernel
theorem dX6_join_65 : decode cX6_join 65 = .ok (.getfield 23, 3) := by decide +kernel
theorem dX6_join_68 : decode cX6_join 68 = .ok (.astore 5, 2) := by decide +kernel
theorem dX6_join_70 : decode cX6_join 70 = .ok (.aload 5, 2) := by decide +kernel
theorem dX6_join_72 : decode cX6_join 72 = .ok (.arraylength, 1) := by decide +kernel
theorem dX6_join_73 : decode cX6_join 73 = .ok (.istore 6, 2) := by decide +kernel
theorem dX6_join_75 : decode cX6_join 75 = .ok (.iconst 0, 1) := by decide +kernel
theorem dX6_join_76 : decode cX6_join 76 = .ok (.istore 7, 2) := by decide +kernel
theorem dX6_join_78 : decode cX6_join 78 = .ok (.iload 7, 2) := by decide +kernel
theorem dX6_join_80 : decode cX6_join 80 = .ok (.iload 6, 2) := by decide +kernel
theorem dX6_join_82 : decode cX6_join 82 = .ok (.if_icmp .ge 37, 3) := by decide +kernel
theorem dX6_join_85 : decode cX6_join 85 = .ok (.aload 5, 2) := by decide +kernel
theorem dX6_join_87 : decode cX6_join 87 = .ok (.iload 7, 2) := by decide +kernel
theorem dX6_join_89 : decode cX6_join 89 = .ok (.aaload, 1) := by decide +kernel
theorem dX6_join_90 : decode cX6_join 90 = .ok (.astore 8, 2) := by decide +kernel
theorem dX6_join_92 : decode cX6_join 92 = .ok (.aload 8, 2) := by decide +kernel
theorem dX6_join_94 : decode cX6_join 94 = .ok (.ifnull 19, 3) := by decide +kernel
theorem dX6_join_97 : decode cX6_join 97 = .ok (.aload 8, 2) := by decide +kernel
theorem dX6_join_99 : decode cX6_join 99 = .ok (.getfield 121, 3) := by decide +kernel
theorem dX6_join_102 : decode cX6_join 102 = .ok (.aload_n 3, 1) := by decide +kernel
theorem dX6_join_103 : decode cX6_join 103 = .ok (.if_acmp .ne 10, 3) := by decide +kernel
theorem dX6_join_106 : decode cX6_join 106 = .ok (.aload 8, 2) := by decide +kernel
theorem dX6_join_108 : decode cX6_join 108 = .ok (.aload 4, 2) := by decide +kernel
theorem dX6_join_110 : decode cX6_join 110 = .ok (.putfield 121, 3) := by decide +kernel
theorem dX6_join_113 : decode cX6_join 113 = .ok (.iinc 7 1, 3) := by decide +kernel
theorem dX6_join_116 : decode cX6_join 116 = .ok (.goto (-38), 3) := by decide +kernel
theorem dX6_join_119 : decode cX6_join 119 = .ok (.aload_n 0, 1) := by decide +kernel
theorem dX6_join_120 : decode cX6_join 120 = .ok (.invokevirtual 103, 3) := by decide +kernel
theorem dX6_join_123 : decode cX6_join 123 = .ok (.aload 4, 2) := by decide +kernel
theorem dX6_join_125 : decode cX6_join 125 = .ok (.getfield 106, 3) := by decide +kernel
theorem dX6_join_128 : decode cX6_join 128 = .ok (.ireturn, 1) := by decide +kernel
theorem dX6_pin_0 : decode cX6_pin 0 = .ok (.aload_n 0, 1) := by decide +kernel
theorem dX6_pin_1 : decode cX6_pin 1 = .ok (.iload_n 1, 1) := by decide +kernel
theorem dX6_pin_2 : decode cX6_pin 2 = .ok (.invokevirtual 60, 3) := by decide +kernel
theorem dX6_pin_5 : decode cX6_pin 5 = .ok (.astore_n 3, 1) := by decide +kernel
theorem dX6_pin_6 : decode cX6_pin 6 = .ok (.aload_n 0, 1) := by decide +kernel
theorem dX6_pin_7 : decode cX6_pin 7 = .ok (.iload_n 2, 1) := by decide +kernel
theorem dX6_pin_8 : decode cX6_pin 8 = .ok (.invokevirtual 60, 3) := by decide +kernel
theorem dX6_pin_11 : decode cX6_pin 11 = .ok (.astore 4, 2) := by decide +kernel
theorem dX6_pin_13 : decode cX6_pin 13 = .ok (.aload_n 3, 1) := by decide +kernel
theorem dX6_pin_14 : decode cX6_pin 14 = .ok (.aload 4, 2) := by decide +kernel
theorem dX6_pin_16 : decode cX6_pin 16 = .ok (.if_acmp .ne 13, 3) := by decide +kernel
theorem dX6_pin_19 : decode cX6_pin 19 = .ok (.new 116, 3) := by decide +kernel
theorem dX6_pin_22 : decode cX6_pin 22 = .ok (.dup, 1) := by decide +kernel
theorem dX6_pin_23 : decode cX6_pin 23 = .ok (.ldc 124, 2) := by decide +kernel
theorem dX6_pin_25 : decode cX6_pin 25 = .ok (.invokespecial 120, 3) := by decide +kernel
theorem dX6_pin_28 : decode cX6_pin 28 = .ok (.athrow, 1) := by decide +kernel
theorem dX6_pin_29 : decode cX6_pin 29 = .ok (.aload_n 3, 1) := by decide +kernel
theorem dX6_pin_30 : decode cX6_pin 30 = .ok (.aload 4, 2) := by decide +kernel
theorem dX6_pin_32 : decode cX6_pin 32 = .ok (.invokestatic 126, 3) := by decide +kernel
theorem dX6_pin_35 : decode cX6_pin 35 = .ok (.ifCond .ne 13, 3) := by decide +kernel
theorem dX6_pin_38 : decode cX6_pin 38 = .ok (.new 130, 3) := by decide +kernel
theorem dX6_pin_41 : decode cX6_pin 41 = .ok (.dup, 1) := by decide +kernel
theorem dX6_pin_42 : decode cX6_pin 42 = .ok (.ldc 132, 2) := by decide +kernel
theorem dX6_pin_44 : decode cX6_pin 44 = .ok (.invokespecial 134, 3) := by decide +kernel
theorem dX6_pin_47 : decode cX6_pin 47 = .ok (.athrow, 1) := by decide +kernel
theorem dX6_pin_48 : decode cX6_pin 48 = .ok (.aload_n 3, 1) := by decide +kernel
theorem dX6_pin_49 : decode cX6_pin 49 = .ok (.getfield 135, 3) := by decide +kernel
theorem dX6_pin_52 : decode cX6_pin 52 = .ok (.invokestatic 139, 3) := by decide +kernel
theorem dX6_pin_55 : decode cX6_pin 55 = .ok (.istore 5, 2) := by decide +kernel
theorem dX6_pin_57 : decode cX6_pin 57 = .ok (.aload_n 3, 1) := by decide +kernel
theorem dX6_pin_58 : decode cX6_pin 58 = .ok (.aload 4, 2) := by decide +kernel
theorem dX6_pin_60 : decode cX6_pin 60 = .ok (.putfield 135, 3) := by decide +kernel
theorem dX6_pin_63 : decode cX6_pin 63 = .ok (.aload_n 0, 1) := by decide +kernel
theorem dX6_pin_64 : decode cX6_pin 64 = .ok (.invokevirtual 67, 3) := by decide +kernel
theorem dX6_pin_67 : decode cX6_pin 67 = .ok (.iload 5, 2) := by decide +kernel
theorem dX6_pin_69 : decode cX6_pin 69 = .ok (.ireturn, 1) := by decide +kernel
theorem dX6_unpin_0 : decode cX6_unpin 0 = .ok (.aload_n 0, 1) := by decide +kernel
theorem dX6_unpin_1 : decode cX6_unpin 1 = .ok (.iload_n 1, 1) := by decide +kernel
theorem dX6_unpin_2 : decode cX6_unpin 2 = .ok (.invokevirtual 60, 3) := by decide +kernel
theorem dX6_unpin_5 : decode cX6_unpin 5 = .ok (.astore_n 2, 1) := by decide +kernel
theorem dX6_unpin_6 : decode cX6_unpin 6 = .ok (.aload_n 2, 1) := by decide +kernel
theorem dX6_unpin_7 : decode cX6_unpin 7 = .ok (.getfield 135, 3) := by decide +kernel
theorem dX6_unpin_10 : decode cX6_unpin 10 = .ok (.astore_n 3, 1) := by decide +kernel
theorem dX6_unpin_11 : decode cX6_unpin 11 = .ok (.aload_n 3, 1) := by decide +kernel
theorem dX6_unpin_12 : decode cX6_unpin 12 = .ok (.ifnonnull 13, 3) := by decide +kernel
theorem dX6_unpin_15 : decode cX6_unpin 15 = .ok (.new 51, 3) := by decide +kernel
theorem dX6_unpin_18 : decode cX6_unpin 18 = .ok (.dup, 1) := by decide +kernel
theorem dX6_unpin_19 : decode cX6_unpin 19 = .ok (.ldc 143, 2) := by decide +kernel
theorem dX6_unpin_21 : decode cX6_unpin 21 = .ok (.invokespecial 55, 3) := by decide +kernel
theorem dX6_unpin_24 : decode cX6_unpin 24 = .ok (.athrow, 1) := by decide +kernel
theorem dX6_unpin_25 : decode cX6_unpin 25 = .ok (.aload_n 2, 1) := by decide +kernel
theorem dX6_unpin_26 : decode cX6_unpin 26 = .ok (.aconst_null, 1) := by decide +kernel
theorem dX6_unpin_27 : decode cX6_unpin 27 = .ok (.putfield 135, 3) := by decide +kernel
theorem dX6_unpin_30 : decode cX6_unpin 30 = .ok (.aload_n 0, 1) := by decide +kernel
theorem dX6_unpin_31 : decode cX6_unpin 31 = .ok (.invokevirtual 67, 3) := by decide +kernel
theorem dX6_unpin_34 : decode cX6_unpin 34 = .ok (.aload_n 3, 1) := by decide +kernel
theorem dX6_unpin_35 : decode cX6_unpin 35 = .ok (.getfield 145, 3) := by decide +kernel
theorem dX6_unpin_38 : decode cX6_unpin 38 = .ok (.ireturn, 1) := by decide +kernel
theorem dX6_people_0 : decode cX6_people 0 = .ok (.aload_n 0, 1) := by decide +kernel
theorem dX6_people_1 : decode cX6_people 1 = .ok (.getfield 47, 3) := by decide +kernel
theorem dX6_people_4 : decode cX6_people 4 = .ok (.ireturn, 1) := by decide +kernel
theorem dX6_rooms_0 : decode cX6_rooms 0 = .ok (.aload_n 0, 1) := by decide +kernel
theorem dX6_rooms_1 : decode cX6_rooms 1 = .ok (.getfield 146, 3) := by decide +kernel
theorem dX6_rooms_4 : decode cX6_rooms 4 = .ok (.ireturn, 1) := by decide +kernel
theorem dX6_roomOf_0 : decode cX6_roomOf 0 = .ok (.aload_n 0, 1) := by decide +kernel
theorem dX6_roomOf_1 : decode cX6_roomOf 1 = .ok (.iload_n 1, 1) := by decide +kernel
theorem dX6_roomOf_2 : decode cX6_roomOf 2 = .ok (.invokevirtual 60, 3) := by decide +kernel
theorem dX6_roomOf_5 : decode cX6_roomOf 5 = .ok (.getfield 93, 3) := by decide +kernel
theorem dX6_roomOf_8 : decode cX6_roomOf 8 = .ok (.astore_n 2, 1) := by decide +kernel
theorem dX6_roomOf_9 : decode cX6_roomOf 9 = .ok (.aload_n 2, 1) := by decide +kernel
theorem dX6_roomOf_10 : decode cX6_roomOf 10 = .ok (.ifnonnull 13, 3) := by decide +kernel
theorem dX6_roomOf_13 : decode cX6_roomOf 13 = .ok (.new 51, 3) := by decide +kernel
theorem dX6_roomOf_16 : decode cX6_roomOf 16 = .ok (.dup, 1) := by decide +kernel
theorem dX6_roomOf_17 : decode cX6_roomOf 17 = .ok (.ldc 109, 2) := by decide +kernel
theorem dX6_roomOf_19 : decode cX6_roomOf 19 = .ok (.invokespecial 55, 3) := by decide +kernel
theorem dX6_roomOf_22 : decode cX6_roomOf 22 = .ok (.athrow, 1) := by decide +kernel
theorem dX6_roomOf_23 : decode cX6_roomOf 23 = .ok (.aload_n 2, 1) := by decide +kernel
theorem dX6_roomOf_24 : decode cX6_roomOf 24 = .ok (.getfield 86, 3) := by decide +kernel
theorem dX6_roomOf_27 : decode cX6_roomOf 27 = .ok (.ireturn, 1) := by decide +kernel
theorem dX6_inRoom_0 : decode cX6_inRoom 0 = .ok (.aload_n 0, 1) := by decide +kernel
theorem dX6_inRoom_1 : decode cX6_inRoom 1 = .ok (.iload_n 1, 1) := by decide +kernel
theorem dX6_inRoom_2 : decode cX6_inRoom 2 = .ok (.invokevirtual 89, 3) := by decide +kernel
theorem dX6_inRoom_5 : decode cX6_inRoom 5 = .ok (.getfield 106, 3) := by decide +kernel
theorem dX6_inRoom_8 : decode cX6_inRoom 8 = .ok (.ireturn, 1) := by decide +kernel
theorem dX6_personAt_0 : decode cX6_personAt 0 = .ok (.aload_n 0, 1) := by decide +kernel
theorem dX6_personAt_1 : decode cX6_personAt 1 = .ok (.iload_n 1, 1) := by decide +kernel
theorem dX6_personAt_2 : decode cX6_personAt 2 = .ok (.invokevirtual 89, 3) := by decide +kernel
theorem dX6_personAt_5 : decode cX6_personAt 5 = .ok (.iload_n 2, 1) := by decide +kernel
theorem dX6_personAt_6 : decode cX6_personAt 6 = .ok (.invokevirtual 113, 3) := by decide +kernel
theorem dX6_personAt_9 : decode cX6_personAt 9 = .ok (.astore_n 3, 1) := by decide +kernel
theorem dX6_personAt_10 : decode cX6_personAt 10 = .ok (.aload_n 3, 1) := by decide +kernel
theorem dX6_personAt_11 : decode cX6_personAt 11 = .ok (.ifnonnull 13, 3) := by decide +kernel
theorem dX6_personAt_14 : decode cX6_personAt 14 = .ok (.new 149, 3) := by decide +kernel
theorem dX6_personAt_17 : decode cX6_personAt 17 = .ok (.dup, 1) := by decide +kernel
theorem dX6_personAt_18 : decode cX6_personAt 18 = .ok (.ldc 151, 2) := by decide +kernel
theorem dX6_personAt_20 : decode cX6_personAt 20 = .ok (.invokespecial 153, 3) := by decide +kernel
theorem dX6_personAt_23 : decode cX6_personAt 23 = .ok (.athrow, 1) := by decide +kernel
theorem dX6_personAt_24 : decode cX6_personAt 24 = .ok (.aload_n 3, 1) := by decide +kernel
theorem dX6_personAt_25 : decode cX6_personAt 25 = .ok (.getfield 145, 3) := by decide +kernel
theorem dX6_personAt_28 : decode cX6_personAt 28 = .ok (.ireturn, 1) := by decide +kernel
theorem dX6_pass_0 : decode cX6_pass 0 = .ok (.iload_n 1, 1) := by decide +kernel
theorem dX6_pass_1 : decode cX6_pass 1 = .ok (.iconst 1, 1) := by decide +kernel
theorem dX6_pass_2 : decode cX6_pass 2 = .ok (.if_icmp .lt 9, 3) := by decide +kernel
theorem dX6_pass_5 : decode cX6_pass 5 = .ok (.iload_n 1, 1) := by decide +kernel
theorem dX6_pass_6 : decode cX6_pass 6 = .ok (.bipush 60, 2) := by decide +kernel
theorem dX6_pass_8 : decode cX6_pass 8 = .ok (.if_icmp .le 13, 3) := by decide +kernel
theorem dX6_pass_11 : decode cX6_pass 11 = .ok (.new 116, 3) := by decide +kernel
theorem dX6_pass_14 : decode cX6_pass 14 = .ok (.dup, 1) := by decide +kernel
theorem dX6_pass_15 : decode cX6_pass 15 = .ok (.ldc 154, 2) := by decide +kernel
theorem dX6_pass_17 : decode cX6_pass 17 = .ok (.invokespecial 120, 3) := by decide +kernel
theorem dX6_pass_20 : decode cX6_pass 20 = .ok (.athrow, 1) := by decide +kernel
theorem dX6_pass_21 : decode cX6_pass 21 = .ok (.aload_n 0, 1) := by decide +kernel
theorem dX6_pass_22 : decode cX6_pass 22 = .ok (.getfield 156, 3) := by decide +kernel
theorem dX6_pass_25 : decode cX6_pass 25 = .ok (.iload_n 1, 1) := by decide +kernel
theorem dX6_pass_26 : decode cX6_pass 26 = .ok (.iadd, 1) := by decide +kernel
theorem dX6_pass_27 : decode cX6_pass 27 = .ok (.sipush 2000, 3) := by decide +kernel
theorem dX6_pass_30 : decode cX6_pass 30 = .ok (.if_icmp .le 13, 3) := by decide +kernel
theorem dX6_pass_33 : decode cX6_pass 33 = .ok (.new 51, 3) := by decide +kernel
theorem dX6_pass_36 : decode cX6_pass 36 = .ok (.dup, 1) := by decide +kernel
theorem dX6_pass_37 : decode cX6_pass 37 = .ok (.ldc 159, 2) := by decide +kernel
theorem dX6_pass_39 : decode cX6_pass 39 = .ok (.invokespecial 55, 3) := by decide +kernel
theorem dX6_pass_42 : decode cX6_pass 42 = .ok (.athrow, 1) := by decide +kernel
theorem dX6_pass_43 : decode cX6_pass 43 = .ok (.aload_n 0, 1) := by decide +kernel
theorem dX6_pass_44 : decode cX6_pass 44 = .ok (.getfield 32, 3) := by decide +kernel
theorem dX6_pass_47 : decode cX6_pass 47 = .ok (.getfield 161, 3) := by decide +kernel
theorem dX6_pass_50 : decode cX6_pass 50 = .ok (.istore_n 2, 1) := by decide +kernel
theorem dX6_pass_51 : decode cX6_pass 51 = .ok (.iconst 0, 1) := by decide +kernel
theorem dX6_pass_52 : decode cX6_pass 52 = .ok (.istore_n 3, 1) := by decide +kernel
theorem dX6_pass_53 : decode cX6_pass 53 = .ok (.iload_n 3, 1) := by decide +kernel
theorem dX6_pass_54 : decode cX6_pass 54 = .ok (.iload_n 1, 1) := by decide +kernel
theorem dX6_pass_55 : decode cX6_pass 55 = .ok (.if_icmp .ge 13, 3) := by decide +kernel
theorem dX6_pass_58 : decode cX6_pass 58 = .ok (.aload_n 0, 1) := by decide +kernel
theorem dX6_pass_59 : decode cX6_pass 59 = .ok (.invokevirtual 162, 3) := by decide +kernel
theorem dX6_pass_62 : decode cX6_pass 62 = .ok (.iinc 3 1, 3) := by decide +kernel
theorem dX6_pass_65 : decode cX6_pass 65 = .ok (.goto (-12), 3) := by decide +kernel
theorem dX6_pass_68 : decode cX6_pass 68 = .ok (.aload_n 0, 1) := by decide +kernel
theorem dX6_pass_69 : decode cX6_pass 69 = .ok (.getfield 32, 3) := by decide +kernel
theorem dX6_pass_72 : decode cX6_pass 72 = .ok (.getfield 161, 3) := by decide +kernel
theorem dX6_pass_75 : decode cX6_pass 75 = .ok (.iload_n 2, 1) := by decide +kernel
theorem dX6_pass_76 : decode cX6_pass 76 = .ok (.isub, 1) := by decide +kernel
theorem dX6_pass_77 : decode cX6_pass 77 = .ok (.ireturn, 1) := by decide +kernel
theorem dX6_tick_0 : decode cX6_tick 0 = .ok (.aload_n 0, 1) := by decide +kernel
theorem dX6_tick_1 : decode cX6_tick 1 = .ok (.getfield 156, 3) := by decide +kernel
theorem dX6_tick_4 : decode cX6_tick 4 = .ok (.ireturn, 1) := by decide +kernel
theorem dX6_speaker_0 : decode cX6_speaker 0 = .ok (.aload_n 0, 1) := by decide +kernel
theorem dX6_speaker_1 : decode cX6_speaker 1 = .ok (.iload_n 1, 1) := by decide +kernel
theorem dX6_speaker_2 : decode cX6_speaker 2 = .ok (.invokevirtual 89, 3) := by decide +kernel
theorem dX6_speaker_5 : decode cX6_speaker 5 = .ok (.getfield 165, 3) := by decide +kernel
theorem dX6_speaker_8 : decode cX6_speaker 8 = .ok (.astore_n 2, 1) := by decide +kernel
theorem dX6_speaker_9 : decode cX6_speaker 9 = .ok (.aload_n 2, 1) := by decide +kernel
theorem dX6_speaker_10 : decode cX6_speaker 10 = .ok (.ifnonnull 13, 3) := by decide +kernel
theorem dX6_speaker_13 : decode cX6_speaker 13 = .ok (.new 149, 3) := by decide +kernel
theorem dX6_speaker_16 : decode cX6_speaker 16 = .ok (.dup, 1) := by decide +kernel
theorem dX6_speaker_17 : decode cX6_speaker 17 = .ok (.ldc 168, 2) := by decide +kernel
theorem dX6_speaker_19 : decode cX6_speaker 19 = .ok (.invokespecial 153, 3) := by decide +kernel
theorem dX6_speaker_22 : decode cX6_speaker 22 = .ok (.athrow, 1) := by decide +kernel
theorem dX6_speaker_23 : decode cX6_speaker 23 = .ok (.aload_n 2, 1) := by decide +kernel
theorem dX6_speaker_24 : decode cX6_speaker 24 = .ok (.getfield 145, 3) := by decide +kernel
theorem dX6_speaker_27 : decode cX6_speaker 27 = .ok (.ireturn, 1) := by decide +kernel
theorem dX6_challenge_0 : decode cX6_challenge 0 = .ok (.aload_n 0, 1) := by decide +kernel
theorem dX6_challenge_1 : decode cX6_challenge 1 = .ok (.iload_n 1, 1) := by decide +kernel
theorem dX6_challenge_2 : decode cX6_challenge 2 = .ok (.invokevirtual 89, 3) := by decide +kernel
theorem dX6_challenge_5 : decode cX6_challenge 5 = .ok (.getfield 170, 3) := by decide +kernel
theorem dX6_challenge_8 : decode cX6_challenge 8 = .ok (.ireturn, 1) := by decide +kernel
theorem dX6_hears_0 : decode cX6_hears 0 = .ok (.aload_n 0, 1) := by decide +kernel
theorem dX6_hears_1 : decode cX6_hears 1 = .ok (.iload_n 1, 1) := by decide +kernel
theorem dX6_hears_2 : decode cX6_hears 2 = .ok (.invokevirtual 60, 3) := by decide +kernel
theorem dX6_hears_5 : decode cX6_hears 5 = .ok (.astore_n 3, 1) := by decide +kernel
theorem dX6_hears_6 : decode cX6_hears 6 = .ok (.aload_n 0, 1) := by decide +kernel
theorem dX6_hears_7 : decode cX6_hears 7 = .ok (.iload_n 2, 1) := by decide +kernel
theorem dX6_hears_8 : decode cX6_hears 8 = .ok (.invokevirtual 60, 3) := by decide +kernel
theorem dX6_hears_11 : decode cX6_hears 11 = .ok (.astore 4, 2) := by decide +kernel
theorem dX6_hears_13 : decode cX6_hears 13 = .ok (.aload_n 3, 1) := by decide +kernel
theorem dX6_hears_14 : decode cX6_hears 14 = .ok (.aload 4, 2) := by decide +kernel
theorem dX6_hears_16 : decode cX6_hears 16 = .ok (.if_acmp .eq 26, 3) := by decide +kernel
theorem dX6_hears_19 : decode cX6_hears 19 = .ok (.aload_n 3, 1) := by decide +kernel
theorem dX6_hears_20 : decode cX6_hears 20 = .ok (.aload 4, 2) := by decide +kernel
theorem dX6_hears_22 : decode cX6_hears 22 = .ok (.invokestatic 126, 3) := by decide +kernel
theorem dX6_hears_25 : decode cX6_hears 25 = .ok (.ifCond .eq 17, 3) := by decide +kernel
theorem dX6_hears_28 : decode cX6_hears 28 = .ok (.aload 4, 2) := by decide +kernel
theorem dX6_hears_30 : decode cX6_hears 30 = .ok (.getfield 73, 3) := by decide +kernel
theorem dX6_hears_33 : decode cX6_hears 33 = .ok (.bipush 10, 2) := by decide +kernel
theorem dX6_hears_35 : decode cX6_hears 35 = .ok (.if_icmp .lt 7, 3) := by decide +kernel
theorem dX6_hears_38 : decode cX6_hears 38 = .ok (.iconst 1, 1) := by decide +kernel
theorem dX6_hears_39 : decode cX6_hears 39 = .ok (.goto 4, 3) := by decide +kernel
theorem dX6_hears_42 : decode cX6_hears 42 = .ok (.iconst 0, 1) := by decide +kernel
theorem dX6_hears_43 : decode cX6_hears 43 = .ok (.ireturn, 1) := by decide +kernel
theorem dX6_talked_0 : decode cX6_talked 0 = .ok (.aload_n 0, 1) := by decide +kernel
theorem dX6_talked_1 : decode cX6_talked 1 = .ok (.iload_n 1, 1) := by decide +kernel
theorem dX6_talked_2 : decode cX6_talked 2 = .ok (.invokevirtual 60, 3) := by decide +kernel
theorem dX6_talked_5 : decode cX6_talked 5 = .ok (.getfield 173, 3) := by decide +kernel
theorem dX6_talked_8 : decode cX6_talked 8 = .ok (.lreturn, 1) := by decide +kernel
theorem dX6_changes_0 : decode cX6_changes 0 = .ok (.aload_n 0, 1) := by decide +kernel
theorem dX6_changes_1 : decode cX6_changes 1 = .ok (.getfield 32, 3) := by decide +kernel
theorem dX6_changes_4 : decode cX6_changes 4 = .ok (.getfield 161, 3) := by decide +kernel
theorem dX6_changes_7 : decode cX6_changes 7 = .ok (.ireturn, 1) := by decide +kernel
theorem dX6_turnAt_0 : decode cX6_turnAt 0 = .ok (.aload_n 0, 1) := by decide +kernel
theorem dX6_turnAt_1 : decode cX6_turnAt 1 = .ok (.getfield 32, 3) := by decide +kernel
theorem dX6_turnAt_4 : decode cX6_turnAt 4 = .ok (.iload_n 1, 1) := by decide +kernel
theorem dX6_turnAt_5 : decode cX6_turnAt 5 = .ok (.invokevirtual 177, 3) := by decide +kernel
theorem dX6_turnAt_8 : decode cX6_turnAt 8 = .ok (.ifCond .ne 13, 3) := by decide +kernel
theorem dX6_turnAt_11 : decode cX6_turnAt 11 = .ok (.new 149, 3) := by decide +kernel
theorem dX6_turnAt_14 : decode cX6_turnAt 14 = .ok (.dup, 1) := by decide +kernel
theorem dX6_turnAt_15 : decode cX6_turnAt 15 = .ok (.ldc 181, 2) := by decide +kernel
theorem dX6_turnAt_17 : decode cX6_turnAt 17 = .ok (.invokespecial 153, 3) := by decide +kernel
theorem dX6_turnAt_20 : decode cX6_turnAt 20 = .ok (.athrow, 1) := by decide +kernel
theorem dX6_turnAt_21 : decode cX6_turnAt 21 = .ok (.aload_n 0, 1) := by decide +kernel
theorem dX6_turnAt_22 : decode cX6_turnAt 22 = .ok (.getfield 32, 3) := by decide +kernel
theorem dX6_turnAt_25 : decode cX6_turnAt 25 = .ok (.iload_n 1, 1) := by decide +kernel
theorem dX6_turnAt_26 : decode cX6_turnAt 26 = .ok (.invokevirtual 183, 3) := by decide +kernel
theorem dX6_turnAt_29 : decode cX6_turnAt 29 = .ok (.ireturn, 1) := by decide +kernel
theorem dX6_layer_0 : decode cX6_layer 0 = .ok (.aload_n 0, 1) := by decide +kernel
theorem dX6_layer_1 : decode cX6_layer 1 = .ok (.iload_n 1, 1) := by decide +kernel
theorem dX6_layer_2 : decode cX6_layer 2 = .ok (.invokevirtual 60, 3) := by decide +kernel
theorem dX6_layer_5 : decode cX6_layer 5 = .ok (.astore_n 3, 1) := by decide +kernel
theorem dX6_layer_6 : decode cX6_layer 6 = .ok (.aload_n 0, 1) := by decide +kernel
theorem dX6_layer_7 : decode cX6_layer 7 = .ok (.iload_n 2, 1) := by decide +kernel
theorem dX6_layer_8 : decode cX6_layer 8 = .ok (.invokevirtual 60, 3) := by decide +kernel
theorem dX6_layer_11 : decode cX6_layer 11 = .ok (.astore 4, 2) := by decide +kernel
theorem dX6_layer_13 : decode cX6_layer 13 = .ok (.aload_n 3, 1) := by decide +kernel
theorem dX6_layer_14 : decode cX6_layer 14 = .ok (.getfield 186, 3) := by decide +kernel
theorem dX6_layer_17 : decode cX6_layer 17 = .ok (.aload 4, 2) := by decide +kernel
theorem dX6_layer_19 : decode cX6_layer 19 = .ok (.getfield 145, 3) := by decide +kernel
theorem dX6_layer_22 : decode cX6_layer 22 = .ok (.invokevirtual 190, 3) := by decide +kernel
theorem dX6_layer_25 : decode cX6_layer 25 = .ok (.ireturn, 1) := by decide +kernel
theorem dX6_layerAnew_0 : decode cX6_layerAnew 0 = .ok (.aload_n 0, 1) := by decide +kernel
theorem dX6_layerAnew_1 : decode cX6_layerAnew 1 = .ok (.iload_n 1, 1) := by decide +kernel
theorem dX6_layerAnew_2 : decode cX6_layerAnew 2 = .ok (.invokevirtual 60, 3) := by decide +kernel
theorem dX6_layerAnew_5 : decode cX6_layerAnew 5 = .ok (.astore_n 3, 1) := by decide +kernel
theorem dX6_layerAnew_6 : decode cX6_layerAnew 6 = .ok (.aload_n 0, 1) := by decide +kernel
theorem dX6_layerAnew_7 : decode cX6_layerAnew 7 = .ok (.iload_n 2, 1) := by decide +kernel
theorem dX6_layerAnew_8 : decode cX6_layerAnew 8 = .ok (.invokevirtual 60, 3) := by decide +kernel
theorem dX6_layerAnew_11 : decode cX6_layerAnew 11 = .ok (.astore 4, 2) := by decide +kernel
theorem dX6_layerAnew_13 : decode cX6_layerAnew 13 = .ok (.aload_n 0, 1) := by decide +kernel
theorem dX6_layerAnew_14 : decode cX6_layerAnew 14 = .ok (.getfield 39, 3) := by decide +kernel
theorem dX6_layerAnew_17 : decode cX6_layerAnew 17 = .ok (.aload_n 3, 1) := by decide +kernel
theorem dX6_layerAnew_18 : decode cX6_layerAnew 18 = .ok (.invokevirtual 195, 3) := by decide +kernel
theorem dX6_layerAnew_21 : decode cX6_layerAnew 21 = .ok (.aload_n 0, 1) := by decide +kernel
theorem dX6_layerAnew_22 : decode cX6_layerAnew 22 = .ok (.getfield 39, 3) := by decide +kernel
theorem dX6_layerAnew_25 : decode cX6_layerAnew 25 = .ok (.getfield 199, 3) := by decide +kernel
theorem dX6_layerAnew_28 : decode cX6_layerAnew 28 = .ok (.aload 4, 2) := by decide +kernel
theorem dX6_layerAnew_30 : decode cX6_layerAnew 30 = .ok (.getfield 145, 3) := by decide +kernel
theorem dX6_layerAnew_33 : decode cX6_layerAnew 33 = .ok (.invokevirtual 190, 3) := by decide +kernel
theorem dX6_layerAnew_36 : decode cX6_layerAnew 36 = .ok (.ireturn, 1) := by decide +kernel
theorem dX6_used_0 : decode cX6_used 0 = .ok (.aload_n 0, 1) := by decide +kernel
theorem dX6_used_1 : decode cX6_used 1 = .ok (.iload_n 1, 1) := by decide +kernel
theorem dX6_used_2 : decode cX6_used 2 = .ok (.invokevirtual 60, 3) := by decide +kernel
theorem dX6_used_5 : decode cX6_used 5 = .ok (.getfield 186, 3) := by decide +kernel
theorem dX6_used_8 : decode cX6_used 8 = .ok (.invokevirtual 202, 3) := by decide +kernel
theorem dX6_used_11 : decode cX6_used 11 = .ok (.ireturn, 1) := by decide +kernel
theorem dX6_viewers_0 : decode cX6_viewers 0 = .ok (.aload_n 0, 1) := by decide +kernel
theorem dX6_viewers_1 : decode cX6_viewers 1 = .ok (.iload_n 1, 1) := by decide +kernel
theorem dX6_viewers_2 : decode cX6_viewers 2 = .ok (.invokevirtual 60, 3) := by decide +kernel
theorem dX6_viewers_5 : decode cX6_viewers 5 = .ok (.astore_n 2, 1) := by decide +kernel
theorem dX6_viewers_6 : decode cX6_viewers 6 = .ok (.iconst 0, 1) := by decide +kernel
theorem dX6_viewers_7 : decode cX6_viewers 7 = .ok (.istore_n 3, 1) := by decide +kernel
theorem dX6_viewers_8 : decode cX6_viewers 8 = .ok (.aload_n 0, 1) := by decide +kernel
theorem dX6_viewers_9 : decode cX6_viewers 9 = .ok (.getfield 11, 3) := by decide +kernel
theorem dX6_viewers_12 : decode cX6_viewers 12 = .ok (.astore 4, 2) := by decide +kernel
theorem dX6_viewers_14 : decode cX6_viewers 14 = .ok (.aload 4, 2) := by decide +kernel
theorem dX6_viewers_16 : decode cX6_viewers 16 = .ok (.arraylength, 1) := by decide +kernel
theorem dX6_viewers_17 : decode cX6_viewers 17 = .ok (.istore 5, 2) := by decide +kernel
theorem dX6_viewers_19 : decode cX6_viewers 19 = .ok (.iconst 0, 1) := by decide +kernel
theorem dX6_viewers_20 : decode cX6_viewers 20 = .ok (.istore 6, 2) := by decide +kernel
theorem dX6_viewers_22 : decode cX6_viewers 22 = .ok (.iload 6, 2) := by decide +kernel
theorem dX6_viewers_24 : decode cX6_viewers 24 = .ok (.iload 5, 2) := by decide +kernel
theorem dX6_viewers_26 : decode cX6_viewers 26 = .ok (.if_icmp .ge 40, 3) := by decide +kernel
theorem dX6_viewers_29 : decode cX6_viewers 29 = .ok (.aload 4, 2) := by decide +kernel
theorem dX6_viewers_31 : decode cX6_viewers 31 = .ok (.iload 6, 2) := by decide +kernel
theorem dX6_viewers_33 : decode cX6_viewers 33 = .ok (.aaload, 1) := by decide +kernel
theorem dX6_viewers_34 : decode cX6_viewers 34 = .ok (.astore 7, 2) := by decide +kernel
theorem dX6_viewers_36 : decode cX6_viewers 36 = .ok (.aload 7, 2) := by decide +kernel
theorem dX6_viewers_38 : decode cX6_viewers 38 = .ok (.ifnull 22, 3) := by decide +kernel
theorem dX6_viewers_41 : decode cX6_viewers 41 = .ok (.aload 7, 2) := by decide +kernel
theorem dX6_viewers_43 : decode cX6_viewers 43 = .ok (.getfield 186, 3) := by decide +kernel
theorem dX6_viewers_46 : decode cX6_viewers 46 = .ok (.aload_n 2, 1) := by decide +kernel
theorem dX6_viewers_47 : decode cX6_viewers 47 = .ok (.getfield 145, 3) := by decide +kernel
theorem dX6_viewers_50 : decode cX6_viewers 50 = .ok (.invokevirtual 190, 3) := by decide +kernel
theorem dX6_viewers_53 : decode cX6_viewers 53 = .ok (.iconst 1, 1) := by decide +kernel
theorem dX6_viewers_54 : decode cX6_viewers 54 = .ok (.if_icmp .lt 6, 3) := by decide +kernel
theorem dX6_viewers_57 : decode cX6_viewers 57 = .ok (.iinc 3 1, 3) := by decide +kernel
theorem dX6_viewers_60 : decode cX6_viewers 60 = .ok (.iinc 6 1, 3) := by decide +kernel
theorem dX6_viewers_63 : decode cX6_viewers 63 = .ok (.goto (-41), 3) := by decide +kernel
theorem dX6_viewers_66 : decode cX6_viewers 66 = .ok (.iload_n 3, 1) := by decide +kernel
theorem dX6_viewers_67 : decode cX6_viewers 67 = .ok (.ireturn, 1) := by decide +kernel
theorem dX6_sent_0 : decode cX6_sent 0 = .ok (.aload_n 0, 1) := by decide +kernel
theorem dX6_sent_1 : decode cX6_sent 1 = .ok (.getfield 206, 3) := by decide +kernel
theorem dX6_sent_4 : decode cX6_sent 4 = .ok (.lreturn, 1) := by decide +kernel
theorem dX6_record_0 : decode cX6_record 0 = .ok (.aload_n 0, 1) := by decide +kernel
theorem dX6_record_1 : decode cX6_record 1 = .ok (.iload_n 1, 1) := by decide +kernel
theorem dX6_record_2 : decode cX6_record 2 = .ok (.invokevirtual 89, 3) := by decide +kernel
theorem dX6_record_5 : decode cX6_record 5 = .ok (.astore_n 2, 1) := by decide +kernel
theorem dX6_record_6 : decode cX6_record 6 = .ok (.aload_n 0, 1) := by decide +kernel
theorem dX6_record_7 : decode cX6_record 7 = .ok (.getfield 219, 3) := by decide +kernel
theorem dX6_record_10 : decode cX6_record 10 = .ok (.istore_n 3, 1) := by decide +kernel
theorem dX6_record_11 : decode cX6_record 11 = .ok (.iload_n 3, 1) := by decide +kernel
theorem dX6_record_12 : decode cX6_record 12 = .ok (.ifCond .lt 12, 3) := by decide +kernel
theorem dX6_record_15 : decode cX6_record 15 = .ok (.iload_n 3, 1) := by decide +kernel
theorem dX6_record_16 : decode cX6_record 16 = .ok (.aload_n 0, 1) := by decide +kernel
theorem dX6_record_17 : decode cX6_record 17 = .ok (.getfield 23, 3) := by decide +kernel
theorem dX6_record_20 : decode cX6_record 20 = .ok (.arraylength, 1) := by decide +kernel
theorem dX6_record_21 : decode cX6_record 21 = .ok (.if_icmp .lt 13, 3) := by decide +kernel
theorem dX6_record_24 : decode cX6_record 24 = .ok (.new 51, 3) := by decide +kernel
theorem dX6_record_27 : decode cX6_record 27 = .ok (.dup, 1) := by decide +kernel
theorem dX6_record_28 : decode cX6_record 28 = .ok (.ldc 222, 2) := by decide +kernel
theorem dX6_record_30 : decode cX6_record 30 = .ok (.invokespecial 55, 3) := by decide +kernel
theorem dX6_record_33 : decode cX6_record 33 = .ok (.athrow, 1) := by decide +kernel
theorem dX6_record_34 : decode cX6_record 34 = .ok (.aload_n 0, 1) := by decide +kernel
theorem dX6_record_35 : decode cX6_record 35 = .ok (.getfield 23, 3) := by decide +kernel
theorem dX6_record_38 : decode cX6_record 38 = .ok (.iload_n 3, 1) := by decide +kernel
theorem dX6_record_39 : decode cX6_record 39 = .ok (.new 21, 3) := by decide +kernel
theorem dX6_record_42 : decode cX6_record 42 = .ok (.dup, 1) := by decide +kernel
theorem dX6_record_43 : decode cX6_record 43 = .ok (.aload_n 2, 1) := by decide +kernel
theorem dX6_record_44 : decode cX6_record 44 = .ok (.invokespecial 224, 3) := by decide +kernel
theorem dX6_record_47 : decode cX6_record 47 = .ok (.aastore, 1) := by decide +kernel
theorem dX6_record_48 : decode cX6_record 48 = .ok (.aload_n 0, 1) := by decide +kernel
theorem dX6_record_49 : decode cX6_record 49 = .ok (.iload_n 3, 1) := by decide +kernel
theorem dX6_record_50 : decode cX6_record 50 = .ok (.iconst 1, 1) := by decide +kernel
theorem dX6_record_51 : decode cX6_record 51 = .ok (.iadd, 1) := by decide +kernel
theorem dX6_record_52 : decode cX6_record 52 = .ok (.putfield 219, 3) := by decide +kernel
theorem dX6_record_55 : decode cX6_record 55 = .ok (.iload_n 3, 1) := by decide +kernel
theorem dX6_record_56 : decode cX6_record 56 = .ok (.ireturn, 1) := by decide +kernel
theorem dX6_stop_0 : decode cX6_stop 0 = .ok (.aload_n 0, 1) := by decide +kernel
theorem dX6_stop_1 : decode cX6_stop 1 = .ok (.iload_n 1, 1) := by decide +kernel
theorem dX6_stop_2 : decode cX6_stop 2 = .ok (.invokevirtual 227, 3) := by decide +kernel
theorem dX6_stop_5 : decode cX6_stop 5 = .ok (.astore_n 2, 1) := by decide +kernel
theorem dX6_stop_6 : decode cX6_stop 6 = .ok (.aload_n 2, 1) := by decide +kernel
theorem dX6_stop_7 : decode cX6_stop 7 = .ok (.getfield 231, 3) := by decide +kernel
theorem dX6_stop_10 : decode cX6_stop 10 = .ok (.ifCond .eq 13, 3) := by decide +kernel
theorem dX6_stop_13 : decode cX6_stop 13 = .ok (.new 51, 3) := by decide +kernel
theorem dX6_stop_16 : decode cX6_stop 16 = .ok (.dup, 1) := by decide +kernel
theorem dX6_stop_17 : decode cX6_stop 17 = .ok (.ldc 235, 2) := by decide +kernel
theorem dX6_stop_19 : decode cX6_stop 19 = .ok (.invokespecial 55, 3) := by decide +kernel
theorem dX6_stop_22 : decode cX6_stop 22 = .ok (.athrow, 1) := by decide +kernel
theorem dX6_stop_23 : decode cX6_stop 23 = .ok (.aload_n 2, 1) := by decide +kernel
theorem dX6_stop_24 : decode cX6_stop 24 = .ok (.iconst 1, 1) := by decide +kernel
theorem dX6_stop_25 : decode cX6_stop 25 = .ok (.putfield 231, 3) := by decide +kernel
theorem dX6_stop_28 : decode cX6_stop 28 = .ok (.aload_n 2, 1) := by decide +kernel
theorem dX6_stop_29 : decode cX6_stop 29 = .ok (.getfield 237, 3) := by decide +kernel
theorem dX6_stop_32 : decode cX6_stop 32 = .ok (.getfield 161, 3) := by decide +kernel
theorem dX6_stop_35 : decode cX6_stop 35 = .ok (.ireturn, 1) := by decide +kernel
theorem dX6_stateOf_0 : decode cX6_stateOf 0 = .ok (.aload_n 0, 1) := by decide +kernel
theorem dX6_stateOf_1 : decode cX6_stateOf 1 = .ok (.iload_n 1, 1) := by decide +kernel
theorem dX6_stateOf_2 : decode cX6_stateOf 2 = .ok (.invokevirtual 227, 3) := by decide +kernel
theorem dX6_stateOf_5 : decode cX6_stateOf 5 = .ok (.getfield 231, 3) := by decide +kernel
theorem dX6_stateOf_8 : decode cX6_stateOf 8 = .ok (.ifCond .eq 8, 3) := by decide +kernel
theorem dX6_stateOf_11 : decode cX6_stateOf 11 = .ok (.bipush 115, 2) := by decide +kernel
theorem dX6_stateOf_13 : decode cX6_stateOf 13 = .ok (.goto 5, 3) := by decide +kernel
theorem dX6_stateOf_16 : decode cX6_stateOf 16 = .ok (.bipush 114, 2) := by decide +kernel
theorem dX6_stateOf_18 : decode cX6_stateOf 18 = .ok (.ireturn, 1) := by decide +kernel
theorem dX6_follows_0 : decode cX6_follows 0 = .ok (.aload_n 0, 1) := by decide +kernel
theorem dX6_follows_1 : decode cX6_follows 1 = .ok (.iload_n 1, 1) := by decide +kernel
theorem dX6_follows_2 : decode cX6_follows 2 = .ok (.invokevirtual 227, 3) := by decide +kernel
theorem dX6_follows_5 : decode cX6_follows 5 = .ok (.astore_n 2, 1) := by decide +kernel
theorem dX6_follows_6 : decode cX6_follows 6 = .ok (.aload_n 2, 1) := by decide +kernel
theorem dX6_follows_7 : decode cX6_follows 7 = .ok (.getfield 231, 3) := by decide +kernel
theorem dX6_follows_10 : decode cX6_follows 10 = .ok (.ifCond .eq 13, 3) := by decide +kernel
theorem dX6_follows_13 : decode cX6_follows 13 = .ok (.new 51, 3) := by decide +kernel
theorem dX6_follows_16 : decode cX6_follows 16 = .ok (.dup, 1) := by decide +kernel
theorem dX6_follows_17 : decode cX6_follows 17 = .ok (.ldc 235, 2) := by decide +kernel
theorem dX6_follows_19 : decode cX6_follows 19 = .ok (.invokespecial 55, 3) := by decide +kernel
theorem dX6_follows_22 : decode cX6_follows 22 = .ok (.athrow, 1) := by decide +kernel
theorem dX6_follows_23 : decode cX6_follows 23 = .ok (.aload_n 2, 1) := by decide +kernel
theorem dX6_follows_24 : decode cX6_follows 24 = .ok (.getfield 121, 3) := by decide +kernel
theorem dX6_follows_27 : decode cX6_follows 27 = .ok (.getfield 86, 3) := by decide +kernel
theorem dX6_follows_30 : decode cX6_follows 30 = .ok (.ireturn, 1) := by decide +kernel
theorem dX6_noteAt_0 : decode cX6_noteAt 0 = .ok (.aload_n 0, 1) := by decide +kernel
theorem dX6_noteAt_1 : decode cX6_noteAt 1 = .ok (.iload_n 1, 1) := by decide +kernel
theorem dX6_noteAt_2 : decode cX6_noteAt 2 = .ok (.invokevirtual 227, 3) := by decide +kernel
theorem dX6_noteAt_5 : decode cX6_noteAt 5 = .ok (.getfield 237, 3) := by decide +kernel
theorem dX6_noteAt_8 : decode cX6_noteAt 8 = .ok (.astore_n 3, 1) := by decide +kernel
theorem dX6_noteAt_9 : decode cX6_noteAt 9 = .ok (.aload_n 3, 1) := by decide +kernel
theorem dX6_noteAt_10 : decode cX6_noteAt 10 = .ok (.iload_n 2, 1) := by decide +kernel
theorem dX6_noteAt_11 : decode cX6_noteAt 11 = .ok (.invokevirtual 177, 3) := by decide +kernel
theorem dX6_noteAt_14 : decode cX6_noteAt 14 = .ok (.ifCond .ne 13, 3) := by decide +kernel
theorem dX6_noteAt_17 : decode cX6_noteAt 17 = .ok (.new 240, 3) := by decide +kernel
theorem dX6_noteAt_20 : decode cX6_noteAt 20 = .ok (.dup, 1) := by decide +kernel
theorem dX6_noteAt_21 : decode cX6_noteAt 21 = .ok (.ldc 242, 2) := by decide +kernel
theorem dX6_noteAt_23 : decode cX6_noteAt 23 = .ok (.invokespecial 244, 3) := by decide +kernel
theorem dX6_noteAt_26 : decode cX6_noteAt 26 = .ok (.athrow, 1) := by decide +kernel
theorem dX6_noteAt_27 : decode cX6_noteAt 27 = .ok (.aload_n 3, 1) := by decide +kernel
theorem dX6_noteAt_28 : decode cX6_noteAt 28 = .ok (.iload_n 2, 1) := by decide +kernel
theorem dX6_noteAt_29 : decode cX6_noteAt 29 = .ok (.invokevirtual 183, 3) := by decide +kernel
theorem dX6_noteAt_32 : decode cX6_noteAt 32 = .ok (.ireturn, 1) := by decide +kernel
theorem dX6_isApart_0 : decode cX6_isApart 0 = .ok (.aload_n 0, 1) := by decide +kernel
theorem dX6_isApart_1 : decode cX6_isApart 1 = .ok (.getfield 11, 3) := by decide +kernel
theorem dX6_isApart_4 : decode cX6_isApart 4 = .ok (.astore_n 1, 1) := by decide +kernel
theorem dX6_isApart_5 : decode cX6_isApart 5 = .ok (.aload_n 1, 1) := by decide +kernel
theorem dX6_isApart_6 : decode cX6_isApart 6 = .ok (.arraylength, 1) := by decide +kernel
theorem dX6_isApart_7 : decode cX6_isApart 7 = .ok (.istore_n 2, 1) := by decide +kernel
theorem dX6_isApart_8 : decode cX6_isApart 8 = .ok (.iconst 0, 1) := by decide +kernel
theorem dX6_isApart_9 : decode cX6_isApart 9 = .ok (.istore_n 3, 1) := by decide +kernel
theorem dX6_isApart_10 : decode cX6_isApart 10 = .ok (.iload_n 3, 1) := by decide +kernel
theorem dX6_isApart_11 : decode cX6_isApart 11 = .ok (.iload_n 2, 1) := by decide +kernel
theorem dX6_isApart_12 : decode cX6_isApart 12 = .ok (.if_icmp .ge 30, 3) := by decide +kernel
theorem dX6_isApart_15 : decode cX6_isApart 15 = .ok (.aload_n 1, 1) := by decide +kernel
theorem dX6_isApart_16 : decode cX6_isApart 16 = .ok (.iload_n 3, 1) := by decide +kernel
theorem dX6_isApart_17 : decode cX6_isApart 17 = .ok (.aaload, 1) := by decide +kernel
theorem dX6_isApart_18 : decode cX6_isApart 18 = .ok (.astore 4, 2) := by decide +kernel
theorem dX6_isApart_20 : decode cX6_isApart 20 = .ok (.aload 4, 2) := by decide +kernel
theorem dX6_isApart_22 : decode cX6_isApart 22 = .ok (.ifnull 14, 3) := by decide +kernel
theorem dX6_isApart_25 : decode cX6_isApart 25 = .ok (.aload_n 0, 1) := by decide +kernel
theorem dX6_isApart_26 : decode cX6_isApart 26 = .ok (.aload 4, 2) := by decide +kernel
theorem dX6_isApart_28 : decode cX6_isApart 28 = .ok (.invokevirtual 245, 3) := by decide +kernel
theorem dX6_isApart_31 : decode cX6_isApart 31 = .ok (.ifCond .ne 5, 3) := by decide +kernel
theorem dX6_isApart_34 : decode cX6_isApart 34 = .ok (.iconst 0, 1) := by decide +kernel
theorem dX6_isApart_35 : decode cX6_isApart 35 = .ok (.ireturn, 1) := by decide +kernel
theorem dX6_isApart_36 : decode cX6_isApart 36 = .ok (.iinc 3 1, 3) := by decide +kernel
theorem dX6_isApart_39 : decode cX6_isApart 39 = .ok (.goto (-29), 3) := by decide +kernel
theorem dX6_isApart_42 : decode cX6_isApart 42 = .ok (.aload_n 0, 1) := by decide +kernel
theorem dX6_isApart_43 : decode cX6_isApart 43 = .ok (.getfield 17, 3) := by decide +kernel
theorem dX6_isApart_46 : decode cX6_isApart 46 = .ok (.astore_n 1, 1) := by decide +kernel
theorem dX6_isApart_47 : decode cX6_isApart 47 = .ok (.aload_n 1, 1) := by decide +kernel
theorem dX6_isApart_48 : decode cX6_isApart 48 = .ok (.arraylength, 1) := by decide +kernel
theorem dX6_isApart_49 : decode cX6_isApart 49 = .ok (.istore_n 2, 1) := by decide +kernel
theorem dX6_isApart_50 : decode cX6_isApart 50 = .ok (.iconst 0, 1) := by decide +kernel
theorem dX6_isApart_51 : decode cX6_isApart 51 = .ok (.istore_n 3, 1) := by decide +kernel
theorem dX6_isApart_52 : decode cX6_isApart 52 = .ok (.iload_n 3, 1) := by decide +kernel
theorem dX6_isApart_53 : decode cX6_isApart 53 = .ok (.iload_n 2, 1) := by decide +kernel
theorem dX6_isApart_54 : decode cX6_isApart 54 = .ok (.if_icmp .ge 42, 3) := by decide +kernel
theorem dX6_isApart_57 : decode cX6_isApart 57 = .ok (.aload_n 1, 1) := by decide +kernel
theorem dX6_isApart_58 : decode cX6_isApart 58 = .ok (.iload_n 3, 1) := by decide +kernel
theorem dX6_isApart_59 : decode cX6_isApart 59 = .ok (.aaload, 1) := by decide +kernel
theorem dX6_isApart_60 : decode cX6_isApart 60 = .ok (.astore 4, 2) := by decide +kernel
theorem dX6_isApart_62 : decode cX6_isApart 62 = .ok (.aload 4, 2) := by decide +kernel
theorem dX6_isApart_64 : decode cX6_isApart 64 = .ok (.ifnull 26, 3) := by decide +kernel
theorem dX6_isApart_67 : decode cX6_isApart 67 = .ok (.aload 4, 2) := by decide +kernel
theorem dX6_isApart_69 : decode cX6_isApart 69 = .ok (.getfield 165, 3) := by decide +kernel
theorem dX6_isApart_72 : decode cX6_isApart 72 = .ok (.ifnull 18, 3) := by decide +kernel
theorem dX6_isApart_75 : decode cX6_isApart 75 = .ok (.aload 4, 2) := by decide +kernel
theorem dX6_isApart_77 : decode cX6_isApart 77 = .ok (.getfield 165, 3) := by decide +kernel
theorem dX6_isApart_80 : decode cX6_isApart 80 = .ok (.getfield 93, 3) := by decide +kernel
theorem dX6_isApart_83 : decode cX6_isApart 83 = .ok (.aload 4, 2) := by decide +kernel
theorem dX6_isApart_85 : decode cX6_isApart 85 = .ok (.if_acmp .eq 5, 3) := by decide +kernel
theorem dX6_isApart_88 : decode cX6_isApart 88 = .ok (.iconst 0, 1) := by decide +kernel
theorem dX6_isApart_89 : decode cX6_isApart 89 = .ok (.ireturn, 1) := by decide +kernel
theorem dX6_isApart_90 : decode cX6_isApart 90 = .ok (.iinc 3 1, 3) := by decide +kernel
theorem dX6_isApart_93 : decode cX6_isApart 93 = .ok (.goto (-41), 3) := by decide +kernel
theorem dX6_isApart_96 : decode cX6_isApart 96 = .ok (.iconst 1, 1) := by decide +kernel
theorem dX6_isApart_97 : decode cX6_isApart 97 = .ok (.ireturn, 1) := by decide +kernel
theorem dX6_isViewRight_0 : decode cX6_isViewRight 0 = .ok (.aload_n 0, 1) := by decide +kernel
theorem dX6_isViewRight_1 : decode cX6_isViewRight 1 = .ok (.getfield 11, 3) := by decide +kernel
theorem dX6_isViewRight_4 : decode cX6_isViewRight 4 = .ok (.astore_n 2, 1) := by decide +kernel
theorem dX6_isViewRight_5 : decode cX6_isViewRight 5 = .ok (.aload_n 2, 1) := by decide +kernel
theorem dX6_isViewRight_6 : decode cX6_isViewRight 6 = .ok (.arraylength, 1) := by decide +kernel
theorem dX6_isViewRight_7 : decode cX6_isViewRight 7 = .ok (.istore_n 3, 1) := by decide +kernel
theorem dX6_isViewRight_8 : decode cX6_isViewRight 8 = .ok (.iconst 0, 1) := by decide +kernel
theorem dX6_isViewRight_9 : decode cX6_isViewRight 9 = .ok (.istore 4, 2) := by decide +kernel
theorem dX6_isViewRight_11 : decode cX6_isViewRight 11 = .ok (.iload 4, 2) := by decide +kernel
theorem dX6_isViewRight_13 : decode cX6_isViewRight 13 = .ok (.iload_n 3, 1) := by decide +kernel
theorem dX6_isViewRight_14 : decode cX6_isViewRight 14 = .ok (.if_icmp .ge 46, 3) := by decide +kernel
theorem dX6_isViewRight_17 : decode cX6_isViewRight 17 = .ok (.aload_n 2, 1) := by decide +kernel
theorem dX6_isViewRight_18 : decode cX6_isViewRight 18 = .ok (.iload 4, 2) := by decide +kernel
theorem dX6_isViewRight_20 : decode cX6_isViewRight 20 = .ok (.aaload, 1) := by decide +kernel
theorem dX6_isViewRight_21 : decode cX6_isViewRight 21 = .ok (.astore 5, 2) := by decide +kernel
theorem dX6_isViewRight_23 : decode cX6_isViewRight 23 = .ok (.aload 5, 2) := by decide +kernel
theorem dX6_isViewRight_25 : decode cX6_isViewRight 25 = .ok (.ifnull 29, 3) := by decide +kernel
theorem dX6_isViewRight_28 : decode cX6_isViewRight 28 = .ok (.aload_n 1, 1) := by decide +kernel
theorem dX6_isViewRight_29 : decode cX6_isViewRight 29 = .ok (.aload 5, 2) := by decide +kernel
theorem dX6_isViewRight_31 : decode cX6_isViewRight 31 = .ok (.invokestatic 126, 3) := by decide +kernel
theorem dX6_isViewRight_34 : decode cX6_isViewRight 34 = .ok (.ifCond .ne 20, 3) := by decide +kernel
theorem dX6_isViewRight_37 : decode cX6_isViewRight 37 = .ok (.aload_n 1, 1) := by decide +kernel
theorem dX6_isViewRight_38 : decode cX6_isViewRight 38 = .ok (.getfield 186, 3) := by decide +kernel
theorem dX6_isViewRight_41 : decode cX6_isViewRight 41 = .ok (.aload 5, 2) := by decide +kernel
theorem dX6_isViewRight_43 : decode cX6_isViewRight 43 = .ok (.getfield 145, 3) := by decide +kernel
theorem dX6_isViewRight_46 : decode cX6_isViewRight 46 = .ok (.invokevirtual 190, 3) := by decide +kernel
theorem dX6_isViewRight_49 : decode cX6_isViewRight 49 = .ok (.ifCond .eq 5, 3) := by decide +kernel
theorem dX6_isViewRight_52 : decode cX6_isViewRight 52 = .ok (.iconst 0, 1) := by decide +kernel
theorem dX6_isViewRight_53 : decode cX6_isViewRight 53 = .ok (.ireturn, 1) := by decide +kernel
theorem dX6_isViewRight_54 : decode cX6_isViewRight 54 = .ok (.iinc 4 1, 3) := by decide +kernel
theorem dX6_isViewRight_57 : decode cX6_isViewRight 57 = .ok (.goto (-46), 3) := by decide +kernel
theorem dX6_isViewRight_60 : decode cX6_isViewRight 60 = .ok (.aload_n 0, 1) := by decide +kernel
theorem dX6_isViewRight_61 : decode cX6_isViewRight 61 = .ok (.getfield 39, 3) := by decide +kernel
theorem dX6_isViewRight_64 : decode cX6_isViewRight 64 = .ok (.aload_n 1, 1) := by decide +kernel
theorem dX6_isViewRight_65 : decode cX6_isViewRight 65 = .ok (.invokevirtual 195, 3) := by decide +kernel
theorem dX6_isViewRight_68 : decode cX6_isViewRight 68 = .ok (.aload_n 1, 1) := by decide +kernel
theorem dX6_isViewRight_69 : decode cX6_isViewRight 69 = .ok (.getfield 186, 3) := by decide +kernel
theorem dX6_isViewRight_72 : decode cX6_isViewRight 72 = .ok (.invokevirtual 202, 3) := by decide +kernel
theorem dX6_isViewRight_75 : decode cX6_isViewRight 75 = .ok (.aload_n 1, 1) := by decide +kernel
theorem dX6_isViewRight_76 : decode cX6_isViewRight 76 = .ok (.getfield 64, 3) := by decide +kernel
theorem dX6_isViewRight_79 : decode cX6_isViewRight 79 = .ok (.if_icmp .gt 24, 3) := by decide +kernel
theorem dX6_isViewRight_82 : decode cX6_isViewRight 82 = .ok (.aload_n 1, 1) := by decide +kernel
theorem dX6_isViewRight_83 : decode cX6_isViewRight 83 = .ok (.getfield 186, 3) := by decide +kernel
theorem dX6_isViewRight_86 : decode cX6_isViewRight 86 = .ok (.aload_n 0, 1) := by decide +kernel
theorem dX6_isViewRight_87 : decode cX6_isViewRight 87 = .ok (.getfield 39, 3) := by decide +kernel
theorem dX6_isViewRight_90 : decode cX6_isViewRight 90 = .ok (.getfield 199, 3) := by decide +kernel
theorem dX6_isViewRight_93 : decode cX6_isViewRight 93 = .ok (.invokevirtual 249, 3) := by decide +kernel
theorem dX6_isViewRight_96 : decode cX6_isViewRight 96 = .ok (.ifCond .eq 7, 3) := by decide +kernel
theorem dX6_isViewRight_99 : decode cX6_isViewRight 99 = .ok (.iconst 1, 1) := by decide +kernel
theorem dX6_isViewRight_100 : decode cX6_isViewRight 100 = .ok (.goto 4, 3) := by decide +kernel
theorem dX6_isViewRight_103 : decode cX6_isViewRight 103 = .ok (.iconst 0, 1) := by decide +kernel
theorem dX6_isViewRight_104 : decode cX6_isViewRight 104 = .ok (.ireturn, 1) := by decide +kernel
theorem dX6_personOf_0 : decode cX6_personOf 0 = .ok (.iload_n 1, 1) := by decide +kernel
theorem dX6_personOf_1 : decode cX6_personOf 1 = .ok (.ifCond .lt 12, 3) := by decide +kernel
theorem dX6_personOf_4 : decode cX6_personOf 4 = .ok (.iload_n 1, 1) := by decide +kernel
theorem dX6_personOf_5 : decode cX6_personOf 5 = .ok (.aload_n 0, 1) := by decide +kernel
theorem dX6_personOf_6 : decode cX6_personOf 6 = .ok (.getfield 11, 3) := by decide +kernel
theorem dX6_personOf_9 : decode cX6_personOf 9 = .ok (.arraylength, 1) := by decide +kernel
theorem dX6_personOf_10 : decode cX6_personOf 10 = .ok (.if_icmp .lt 7, 3) := by decide +kernel
theorem dX6_personOf_13 : decode cX6_personOf 13 = .ok (.aconst_null, 1) := by decide +kernel
theorem dX6_personOf_14 : decode cX6_personOf 14 = .ok (.goto 9, 3) := by decide +kernel
theorem dX6_personOf_17 : decode cX6_personOf 17 = .ok (.aload_n 0, 1) := by decide +kernel
theorem dX6_personOf_18 : decode cX6_personOf 18 = .ok (.getfield 11, 3) := by decide +kernel
theorem dX6_personOf_21 : decode cX6_personOf 21 = .ok (.iload_n 1, 1) := by decide +kernel
theorem dX6_personOf_22 : decode cX6_personOf 22 = .ok (.aaload, 1) := by decide +kernel
theorem dX6_personOf_23 : decode cX6_personOf 23 = .ok (.astore_n 2, 1) := by decide +kernel
theorem dX6_personOf_24 : decode cX6_personOf 24 = .ok (.aload_n 2, 1) := by decide +kernel
theorem dX6_personOf_25 : decode cX6_personOf 25 = .ok (.ifnonnull 13, 3) := by decide +kernel
theorem dX6_personOf_28 : decode cX6_personOf 28 = .ok (.new 149, 3) := by decide +kernel
theorem dX6_personOf_31 : decode cX6_personOf 31 = .ok (.dup, 1) := by decide +kernel
theorem dX6_personOf_32 : decode cX6_personOf 32 = .ok (.ldc 253, 2) := by decide +kernel
theorem dX6_personOf_34 : decode cX6_personOf 34 = .ok (.invokespecial 153, 3) := by decide +kernel
theorem dX6_personOf_37 : decode cX6_personOf 37 = .ok (.athrow, 1) := by decide +kernel
theorem dX6_personOf_38 : decode cX6_personOf 38 = .ok (.aload_n 2, 1) := by decide +kernel
theorem dX6_personOf_39 : decode cX6_personOf 39 = .ok (.areturn, 1) := by decide +kernel
theorem dX6_roomNumbered_0 : decode cX6_roomNumbered 0 = .ok (.iload_n 1, 1) := by decide +kernel
theorem dX6_roomNumbered_1 : decode cX6_roomNumbered 1 = .ok (.ifCond .lt 12, 3) := by decide +kernel
theorem dX6_roomNumbered_4 : decode cX6_roomNumbered 4 = .ok (.iload_n 1, 1) := by decide +kernel
theorem dX6_roomNumbered_5 : decode cX6_roomNumbered 5 = .ok (.aload_n 0, 1) := by decide +kernel
theorem dX6_roomNumbered_6 : decode cX6_roomNumbered 6 = .ok (.getfield 17, 3) := by decide +kernel
theorem dX6_roomNumbered_9 : decode cX6_roomNumbered 9 = .ok (.arraylength, 1) := by decide +kernel
theorem dX6_roomNumbered_10 : decode cX6_roomNumbered 10 = .ok (.if_icmp .lt 7, 3) := by decide +kernel
theorem dX6_roomNumbered_13 : decode cX6_roomNumbered 13 = .ok (.aconst_null, 1) := by decide +kernel
theorem dX6_roomNumbered_14 : decode cX6_roomNumbered 14 = .ok (.goto 9, 3) := by decide +kernel
theorem dX6_roomNumbered_17 : decode cX6_roomNumbered 17 = .ok (.aload_n 0, 1) := by decide +kernel
theorem dX6_roomNumbered_18 : decode cX6_roomNumbered 18 = .ok (.getfield 17, 3) := by decide +kernel
theorem dX6_roomNumbered_21 : decode cX6_roomNumbered 21 = .ok (.iload_n 1, 1) := by decide +kernel
theorem dX6_roomNumbered_22 : decode cX6_roomNumbered 22 = .ok (.aaload, 1) := by decide +kernel
theorem dX6_roomNumbered_23 : decode cX6_roomNumbered 23 = .ok (.astore_n 2, 1) := by decide +kernel
theorem dX6_roomNumbered_24 : decode cX6_roomNumbered 24 = .ok (.aload_n 2, 1) := by decide +kernel
theorem dX6_roomNumbered_25 : decode cX6_roomNumbered 25 = .ok (.ifnonnull 13, 3) := by decide +kernel
theorem dX6_roomNumbered_28 : decode cX6_roomNumbered 28 = .ok (.new 240, 3) := by decide +kernel
theorem dX6_roomNumbered_31 : decode cX6_roomNumbered 31 = .ok (.dup, 1) := by decide +kernel
theorem dX6_roomNumbered_32 : decode cX6_roomNumbered 32 = .ok (.ldc 255, 2) := by decide +kernel
theorem dX6_roomNumbered_34 : decode cX6_roomNumbered 34 = .ok (.invokespecial 244, 3) := by decide +kernel
theorem dX6_roomNumbered_37 : decode cX6_roomNumbered 37 = .ok (.athrow, 1) := by decide +kernel
theorem dX6_roomNumbered_38 : decode cX6_roomNumbered 38 = .ok (.aload_n 2, 1) := by decide +kernel
theorem dX6_roomNumbered_39 : decode cX6_roomNumbered 39 = .ok (.areturn, 1) := by decide +kernel
theorem dX6_recorderNumbered_0 : decode cX6_recorderNumbered 0 = .ok (.iload_n 1, 1) := by decide +kernel
theorem dX6_recorderNumbered_1 : decode cX6_recorderNumbered 1 = .ok (.ifCond .lt 12, 3) := by decide +kernel
theorem dX6_recorderNumbered_4 : decode cX6_recorderNumbered 4 = .ok (.iload_n 1, 1) := by decide +kernel
theorem dX6_recorderNumbered_5 : decode cX6_recorderNumbered 5 = .ok (.aload_n 0, 1) := by decide +kernel
theorem dX6_recorderNumbered_6 : decode cX6_recorderNumbered 6 = .ok (.getfield 23, 3) := by decide +kernel
theorem dX6_recorderNumbered_9 : decode cX6_recorderNumbered 9 = .ok (.arraylength, 1) := by decide +kernel
theorem dX6_recorderNumbered_10 : decode cX6_recorderNumbered 10 = .ok (.if_icmp .lt 7, 3) := by decide +kernel
theorem dX6_recorderNumbered_13 : decode cX6_recorderNumbered 13 = .ok (.aconst_null, 1) := by decide +kernel
theorem dX6_recorderNumbered_14 : decode cX6_recorderNumbered 14 = .ok (.goto 9, 3) := by decide +kernel
theorem dX6_recorderNumbered_17 : decode cX6_recorderNumbered 17 = .ok (.aload_n 0, 1) := by decide +kernel
theorem dX6_recorderNumbered_18 : decode cX6_recorderNumbered 18 = .ok (.getfield 23, 3) := by decide +kernel
theorem dX6_recorderNumbered_21 : decode cX6_recorderNumbered 21 = .ok (.iload_n 1, 1) := by decide +kernel
theorem dX6_recorderNumbered_22 : decode cX6_recorderNumbered 22 = .ok (.aaload, 1) := by decide +kernel
theorem dX6_recorderNumbered_23 : decode cX6_recorderNumbered 23 = .ok (.astore_n 2, 1) := by decide +kernel
theorem dX6_recorderNumbered_24 : decode cX6_recorderNumbered 24 = .ok (.aload_n 2, 1) := by decide +kernel
theorem dX6_recorderNumbered_25 : decode cX6_recorderNumbered 25 = .ok (.ifnonnull 14, 3) := by decide +kernel
theorem dX6_recorderNumbered_28 : decode cX6_recorderNumbered 28 = .ok (.new 149, 3) := by decide +kernel
theorem dX6_recorderNumbered_31 : decode cX6_recorderNumbered 31 = .ok (.dup, 1) := by decide +kernel
theorem dX6_recorderNumbered_32 : decode cX6_recorderNumbered 32 = .ok (.ldc_w 257, 3) := by decide +kernel
theorem dX6_recorderNumbered_35 : decode cX6_recorderNumbered 35 = .ok (.invokespecial 153, 3) := by decide +kernel
theorem dX6_recorderNumbered_38 : decode cX6_recorderNumbered 38 = .ok (.athrow, 1) := by decide +kernel
theorem dX6_recorderNumbered_39 : decode cX6_recorderNumbered 39 = .ok (.aload_n 2, 1) := by decide +kernel
theorem dX6_recorderNumbered_40 : decode cX6_recorderNumbered 40 = .ok (.areturn, 1) := by decide +kernel
theorem dX6_requireUpTo_0 : decode cX6_requireUpTo 0 = .ok (.iload_n 1, 1) := by decide +kernel
theorem dX6_requireUpTo_1 : decode cX6_requireUpTo 1 = .ok (.ifCond .lt 8, 3) := by decide +kernel
theorem dX6_requireUpTo_4 : decode cX6_requireUpTo 4 = .ok (.iload_n 1, 1) := by decide +kernel
theorem dX6_requireUpTo_5 : decode cX6_requireUpTo 5 = .ok (.iload_n 0, 1) := by decide +kernel
theorem dX6_requireUpTo_6 : decode cX6_requireUpTo 6 = .ok (.if_icmp .le 14, 3) := by decide +kernel
theorem dX6_requireUpTo_9 : decode cX6_requireUpTo 9 = .ok (.new 116, 3) := by decide +kernel
theorem dX6_requireUpTo_12 : decode cX6_requireUpTo 12 = .ok (.dup, 1) := by decide +kernel
theorem dX6_requireUpTo_13 : decode cX6_requireUpTo 13 = .ok (.ldc_w 259, 3) := by decide +kernel
theorem dX6_requireUpTo_16 : decode cX6_requireUpTo 16 = .ok (.invokespecial 120, 3) := by decide +kernel
theorem dX6_requireUpTo_19 : decode cX6_requireUpTo 19 = .ok (.athrow, 1) := by decide +kernel
theorem dX6_requireUpTo_20 : decode cX6_requireUpTo 20 = .ok (.return_, 1) := by decide +kernel
theorem dX6_numberOf_0 : decode cX6_numberOf 0 = .ok (.aload_n 0, 1) := by decide +kernel
theorem dX6_numberOf_1 : decode cX6_numberOf 1 = .ok (.ifnonnull 7, 3) := by decide +kernel
theorem dX6_numberOf_4 : decode cX6_numberOf 4 = .ok (.iconst (-1), 1) := by decide +kernel
theorem dX6_numberOf_5 : decode cX6_numberOf 5 = .ok (.goto 7, 3) := by decide +kernel
theorem dX6_numberOf_8 : decode cX6_numberOf 8 = .ok (.aload_n 0, 1) := by decide +kernel
theorem dX6_numberOf_9 : decode cX6_numberOf 9 = .ok (.getfield 145, 3) := by decide +kernel
theorem dX6_numberOf_12 : decode cX6_numberOf 12 = .ok (.ireturn, 1) := by decide +kernel
theorem dX6_need_0 : decode cX6_need 0 = .ok (.iload_n 0, 1) := by decide +kernel
theorem dX6_need_1 : decode cX6_need 1 = .ok (.ifCond .lt 11, 3) := by decide +kernel
theorem dX6_need_4 : decode cX6_need 4 = .ok (.iload_n 0, 1) := by decide +kernel
theorem dX6_need_5 : decode cX6_need 5 = .ok (.getstatic 261, 3) := by decide +kernel
theorem dX6_need_8 : decode cX6_need 8 = .ok (.arraylength, 1) := by decide +kernel
theorem dX6_need_9 : decode cX6_need 9 = .ok (.if_icmp .lt 7, 3) := by decide +kernel
theorem dX6_need_12 : decode cX6_need 12 = .ok (.iconst 0, 1) := by decide +kernel
theorem dX6_need_13 : decode cX6_need 13 = .ok (.goto 8, 3) := by decide +kernel
theorem dX6_need_16 : decode cX6_need 16 = .ok (.getstatic 261, 3) := by decide +kernel
theorem dX6_need_19 : decode cX6_need 19 = .ok (.iload_n 0, 1) := by decide +kernel
theorem dX6_need_20 : decode cX6_need 20 = .ok (.iaload, 1) := by decide +kernel
theorem dX6_need_21 : decode cX6_need 21 = .ok (.ireturn, 1) := by decide +kernel
theorem dX6_areTogether_0 : decode cX6_areTogether 0 = .ok (.aload_n 0, 1) := by decide +kernel
theorem dX6_areTogether_1 : decode cX6_areTogether 1 = .ok (.ifnull 29, 3) := by decide +kernel
theorem dX6_areTogether_4 : decode cX6_areTogether 4 = .ok (.aload_n 1, 1) := by decide +kernel
theorem dX6_areTogether_5 : decode cX6_areTogether 5 = .ok (.ifnull 25, 3) := by decide +kernel
theorem dX6_areTogether_8 : decode cX6_areTogether 8 = .ok (.aload_n 0, 1) := by decide +kernel
theorem dX6_areTogether_9 : decode cX6_areTogether 9 = .ok (.getfield 93, 3) := by decide +kernel
theorem dX6_areTogether_12 : decode cX6_areTogether 12 = .ok (.ifnull 18, 3) := by decide +kernel
theorem dX6_areTogether_15 : decode cX6_areTogether 15 = .ok (.aload_n 0, 1) := by decide +kernel
theorem dX6_areTogether_16 : decode cX6_areTogether 16 = .ok (.getfield 93, 3) := by decide +kernel
theorem dX6_areTogether_19 : decode cX6_areTogether 19 = .ok (.aload_n 1, 1) := by decide +kernel
theorem dX6_areTogether_20 : decode cX6_areTogether 20 = .ok (.getfield 93, 3) := by decide +kernel
theorem dX6_areTogether_23 : decode cX6_areTogether 23 = .ok (.if_acmp .ne 7, 3) := by decide +kernel
theorem dX6_areTogether_26 : decode cX6_areTogether 26 = .ok (.iconst 1, 1) := by decide +kernel
theorem dX6_areTogether_27 : decode cX6_areTogether 27 = .ok (.goto 4, 3) := by decide +kernel
theorem dX6_areTogether_30 : decode cX6_areTogether 30 = .ok (.iconst 0, 1) := by decide +kernel
theorem dX6_areTogether_31 : decode cX6_areTogether 31 = .ok (.ireturn, 1) := by decide +kernel
theorem dX6_isRoomLeft_0 : decode cX6_isRoomLeft 0 = .ok (.aload_n 0, 1) := by decide +kernel
theorem dX6_isRoomLeft_1 : decode cX6_isRoomLeft 1 = .ok (.getfield 146, 3) := by decide +kernel
theorem dX6_isRoomLeft_4 : decode cX6_isRoomLeft 4 = .ok (.bipush 6, 2) := by decide +kernel
theorem dX6_isRoomLeft_6 : decode cX6_isRoomLeft 6 = .ok (.if_icmp .ge 7, 3) := by decide +kernel
theorem dX6_isRoomLeft_9 : decode cX6_isRoomLeft 9 = .ok (.iconst 1, 1) := by decide +kernel
theorem dX6_isRoomLeft_10 : decode cX6_isRoomLeft 10 = .ok (.goto 4, 3) := by decide +kernel
theorem dX6_isRoomLeft_13 : decode cX6_isRoomLeft 13 = .ok (.iconst 0, 1) := by decide +kernel
theorem dX6_isRoomLeft_14 : decode cX6_isRoomLeft 14 = .ok (.ireturn, 1) := by decide +kernel
theorem dX6_openRoom_0 : decode cX6_openRoom 0 = .ok (.new 15, 3) := by decide +kernel
theorem dX6_openRoom_3 : decode cX6_openRoom 3 = .ok (.dup, 1) := by decide +kernel
theorem dX6_openRoom_4 : decode cX6_openRoom 4 = .ok (.aload_n 0, 1) := by decide +kernel
theorem dX6_openRoom_5 : decode cX6_openRoom 5 = .ok (.getfield 146, 3) := by decide +kernel
theorem dX6_openRoom_8 : decode cX6_openRoom 8 = .ok (.invokespecial 265, 3) := by decide +kernel
theorem dX6_openRoom_11 : decode cX6_openRoom 11 = .ok (.astore_n 1, 1) := by decide +kernel
theorem dX6_openRoom_12 : decode cX6_openRoom 12 = .ok (.aload_n 0, 1) := by decide +kernel
theorem dX6_openRoom_13 : decode cX6_openRoom 13 = .ok (.getfield 146, 3) := by decide +kernel
theorem dX6_openRoom_16 : decode cX6_openRoom 16 = .ok (.ifCond .lt 35, 3) := by decide +kernel
theorem dX6_openRoom_19 : decode cX6_openRoom 19 = .ok (.aload_n 0, 1) := by decide +kernel
theorem dX6_openRoom_20 : decode cX6_openRoom 20 = .ok (.getfield 146, 3) := by decide +kernel
theorem dX6_openRoom_23 : decode cX6_openRoom 23 = .ok (.aload_n 0, 1) := by decide +kernel
theorem dX6_openRoom_24 : decode cX6_openRoom 24 = .ok (.getfield 17, 3) := by decide +kernel
theorem dX6_openRoom_27 : decode cX6_openRoom 27 = .ok (.arraylength, 1) := by decide +kernel
theorem dX6_openRoom_28 : decode cX6_openRoom 28 = .ok (.if_icmp .ge 23, 3) := by decide +kernel
theorem dX6_openRoom_31 : decode cX6_openRoom 31 = .ok (.aload_n 0, 1) := by decide +kernel
theorem dX6_openRoom_32 : decode cX6_openRoom 32 = .ok (.getfield 17, 3) := by decide +kernel
theorem dX6_openRoom_35 : decode cX6_openRoom 35 = .ok (.aload_n 0, 1) := by decide +kernel
theorem dX6_openRoom_36 : decode cX6_openRoom 36 = .ok (.getfield 146, 3) := by decide +kernel
theorem dX6_openRoom_39 : decode cX6_openRoom 39 = .ok (.aload_n 1, 1) := by decide +kernel
theorem dX6_openRoom_40 : decode cX6_openRoom 40 = .ok (.aastore, 1) := by decide +kernel
theorem dX6_openRoom_41 : decode cX6_openRoom 41 = .ok (.aload_n 0, 1) := by decide +kernel
theorem dX6_openRoom_42 : decode cX6_openRoom 42 = .ok (.dup, 1) := by decide +kernel
theorem dX6_openRoom_43 : decode cX6_openRoom 43 = .ok (.getfield 146, 3) := by decide +kernel
theorem dX6_openRoom_46 : decode cX6_openRoom 46 = .ok (.iconst 1, 1) := by decide +kernel
theorem dX6_openRoom_47 : decode cX6_openRoom 47 = .ok (.iadd, 1) := by decide +kernel
theorem dX6_openRoom_48 : decode cX6_openRoom 48 = .ok (.putfield 146, 3) := by decide +kernel
theorem dX6_openRoom_51 : decode cX6_openRoom 51 = .ok (.aload_n 1, 1) := by decide +kernel
theorem dX6_openRoom_52 : decode cX6_openRoom 52 = .ok (.areturn, 1) := by decide +kernel
theorem dX6_move_0 : decode cX6_move 0 = .ok (.aload_n 0, 1) := by decide +kernel
theorem dX6_move_1 : decode cX6_move 1 = .ok (.getfield 93, 3) := by decide +kernel
theorem dX6_move_4 : decode cX6_move 4 = .ok (.ifnull 11, 3) := by decide +kernel
theorem dX6_move_7 : decode cX6_move 7 = .ok (.aload_n 0, 1) := by decide +kernel
theorem dX6_move_8 : decode cX6_move 8 = .ok (.getfield 93, 3) := by decide +kernel
theorem dX6_move_11 : decode cX6_move 11 = .ok (.aload_n 0, 1) := by decide +kernel
theorem dX6_move_12 : decode cX6_move 12 = .ok (.invokevirtual 266, 3) := by decide +kernel
theorem dX6_move_15 : decode cX6_move 15 = .ok (.aload_n 0, 1) := by decide +kernel
theorem dX6_move_16 : decode cX6_move 16 = .ok (.aload_n 1, 1) := by decide +kernel
theorem dX6_move_17 : decode cX6_move 17 = .ok (.putfield 93, 3) := by decide +kernel
theorem dX6_move_20 : decode cX6_move 20 = .ok (.aload_n 1, 1) := by decide +kernel
theorem dX6_move_21 : decode cX6_move 21 = .ok (.ifnull 8, 3) := by decide +kernel
theorem dX6_move_24 : decode cX6_move 24 = .ok (.aload_n 1, 1) := by decide +kernel
theorem dX6_move_25 : decode cX6_move 25 = .ok (.aload_n 0, 1) := by decide +kernel
theorem dX6_move_26 : decode cX6_move 26 = .ok (.invokevirtual 269, 3) := by decide +kernel
theorem dX6_move_29 : decode cX6_move 29 = .ok (.return_, 1) := by decide +kernel
theorem dX6_settle_0 : decode cX6_settle 0 = .ok (.aload_n 0, 1) := by decide +kernel
theorem dX6_settle_1 : decode cX6_settle 1 = .ok (.getfield 11, 3) := by decide +kernel
theorem dX6_settle_4 : decode cX6_settle 4 = .ok (.astore_n 1, 1) := by decide +kernel
theorem dX6_settle_5 : decode cX6_settle 5 = .ok (.aload_n 1, 1) := by decide +kernel
theorem dX6_settle_6 : decode cX6_settle 6 = .ok (.arraylength, 1) := by decide +kernel
theorem dX6_settle_7 : decode cX6_settle 7 = .ok (.istore_n 2, 1) := by decide +kernel
theorem dX6_settle_8 : decode cX6_settle 8 = .ok (.iconst 0, 1) := by decide +kernel
theorem dX6_settle_9 : decode cX6_settle 9 = .ok (.istore_n 3, 1) := by decide +kernel
theorem dX6_settle_10 : decode cX6_settle 10 = .ok (.iload_n 3, 1) := by decide +kernel
theorem dX6_settle_11 : decode cX6_settle 11 = .ok (.iload_n 2, 1) := by decide +kernel
theorem dX6_settle_12 : decode cX6_settle 12 = .ok (.if_icmp .ge 38, 3) := by decide +kernel
theorem dX6_settle_15 : decode cX6_settle 15 = .ok (.aload_n 1, 1) := by decide +kernel
theorem dX6_settle_16 : decode cX6_settle 16 = .ok (.iload_n 3, 1) := by decide +kernel
theorem dX6_settle_17 : decode cX6_settle 17 = .ok (.aaload, 1) := by decide +kernel
theorem dX6_settle_18 : decode cX6_settle 18 = .ok (.astore 4, 2) := by decide +kernel
theorem dX6_settle_20 : decode cX6_settle 20 = .ok (.aload 4, 2) := by decide +kernel
theorem dX6_settle_22 : decode cX6_settle 22 = .ok (.ifnull 22, 3) := by decide +kernel
theorem dX6_settle_25 : decode cX6_settle 25 = .ok (.aload 4, 2) := by decide +kernel
theorem dX6_settle_27 : decode cX6_settle 27 = .ok (.aload 4, 2) := by decide +kernel
theorem dX6_settle_29 : decode cX6_settle 29 = .ok (.getfield 135, 3) := by decide +kernel
theorem dX6_settle_32 : decode cX6_settle 32 = .ok (.invokestatic 126, 3) := by decide +kernel
theorem dX6_settle_35 : decode cX6_settle 35 = .ok (.ifCond .ne 9, 3) := by decide +kernel
theorem dX6_settle_38 : decode cX6_settle 38 = .ok (.aload 4, 2) := by decide +kernel
theorem dX6_settle_40 : decode cX6_settle 40 = .ok (.aconst_null, 1) := by decide +kernel
theorem dX6_settle_41 : decode cX6_settle 41 = .ok (.putfield 135, 3) := by decide +kernel
theorem dX6_settle_44 : decode cX6_settle 44 = .ok (.iinc 3 1, 3) := by decide +kernel
theorem dX6_settle_47 : decode cX6_settle 47 = .ok (.goto (-37), 3) := by decide +kernel
theorem dX6_settle_50 : decode cX6_settle 50 = .ok (.aload_n 0, 1) := by decide +kernel
theorem dX6_settle_51 : decode cX6_settle 51 = .ok (.invokevirtual 67, 3) := by decide +kernel
theorem dX6_settle_54 : decode cX6_settle 54 = .ok (.return_, 1) := by decide +kernel
theorem dX6_chooseViews_0 : decode cX6_chooseViews 0 = .ok (.lconst 0, 1) := by decide +kernel
theorem dX6_chooseViews_1 : decode cX6_chooseViews 1 = .ok (.lstore_n 1, 1) := by decide +kernel
theorem dX6_chooseViews_2 : decode cX6_chooseViews 2 = .ok (.aload_n 0, 1) := by decide +kernel
theorem dX6_chooseViews_3 : decode cX6_chooseViews 3 = .ok (.getfield 11, 3) := by decide +kernel
theorem dX6_chooseViews_6 : decode cX6_chooseViews 6 = .ok (.astore_n 3, 1) := by decide +kernel
theorem dX6_chooseViews_7 : decode cX6_chooseViews 7 = .ok (.aload_n 3, 1) := by decide +kernel
theorem dX6_chooseViews_8 : decode cX6_chooseViews 8 = .ok (.arraylength, 1) := by decide +kernel
theorem dX6_chooseViews_9 : decode cX6_chooseViews 9 = .ok (.istore 4, 2) := by decide +kernel
theorem dX6_chooseViews_11 : decode cX6_chooseViews 11 = .ok (.iconst 0, 1) := by decide +kernel
theorem dX6_chooseViews_12 : decode cX6_chooseViews 12 = .ok (.istore 5, 2) := by decide +kernel
theorem dX6_chooseViews_14 : decode cX6_chooseViews 14 = .ok (.iload 5, 2) := by decide +kernel
theorem dX6_chooseViews_16 : decode cX6_chooseViews 16 = .ok (.iload 4, 2) := by decide +kernel
theorem dX6_chooseViews_18 : decode cX6_chooseViews 18 = .ok (.if_icmp .ge 56, 3) := by decide +kernel
theorem dX6_chooseViews_21 : decode cX6_chooseViews 21 = .ok (.aload_n 3, 1) := by decide +kernel
theorem dX6_chooseViews_22 : decode cX6_chooseViews 22 = .ok (.iload 5, 2) := by decide +kernel
theorem dX6_chooseViews_24 : decode cX6_chooseViews 24 = .ok (.aaload, 1) := by decide +kernel
theorem dX6_chooseViews_25 : decode cX6_chooseViews 25 = .ok (.astore 6, 2) := by decide +kernel
theorem dX6_chooseViews_27 : decode cX6_chooseViews 27 = .ok (.aload 6, 2) := by decide +kernel
theorem dX6_chooseViews_29 : decode cX6_chooseViews 29 = .ok (.ifnull 39, 3) := by decide +kernel
theorem dX6_chooseViews_32 : decode cX6_chooseViews 32 = .ok (.aload_n 0, 1) := by decide +kernel
theorem dX6_chooseViews_33 : decode cX6_chooseViews 33 = .ok (.getfield 39, 3) := by decide +kernel
theorem dX6_chooseViews_36 : decode cX6_chooseViews 36 = .ok (.aload 6, 2) := by decide +kernel
theorem dX6_chooseViews_38 : decode cX6_chooseViews 38 = .ok (.invokevirtual 195, 3) := by decide +kernel
theorem dX6_chooseViews_41 : decode cX6_chooseViews 41 = .ok (.aload 6, 2) := by decide +kernel
theorem dX6_chooseViews_43 : decode cX6_chooseViews 43 = .ok (.getfield 186, 3) := by decide +kernel
theorem dX6_chooseViews_46 : decode cX6_chooseViews 46 = .ok (.aload_n 0, 1) := by decide +kernel
theorem dX6_chooseViews_47 : decode cX6_chooseViews 47 = .ok (.getfield 39, 3) := by decide +kernel
theorem dX6_chooseViews_50 : decode cX6_chooseViews 50 = .ok (.getfield 199, 3) := by decide +kernel
theorem dX6_chooseViews_53 : decode cX6_chooseViews 53 = .ok (.invokevirtual 272, 3) := by decide +kernel
theorem dX6_chooseViews_56 : decode cX6_chooseViews 56 = .ok (.lload_n 1, 1) := by decide +kernel
theorem dX6_chooseViews_57 : decode cX6_chooseViews 57 = .ok (.aload 6, 2) := by decide +kernel
theorem dX6_chooseViews_59 : decode cX6_chooseViews 59 = .ok (.getfield 186, 3) := by decide +kernel
theorem dX6_chooseViews_62 : decode cX6_chooseViews 62 = .ok (.invokevirtual 202, 3) := by decide +kernel
theorem dX6_chooseViews_65 : decode cX6_chooseViews 65 = .ok (.i2l, 1) := by decide +kernel
theorem dX6_chooseViews_66 : decode cX6_chooseViews 66 = .ok (.ladd, 1) := by decide +kernel
theorem dX6_chooseViews_67 : decode cX6_chooseViews 67 = .ok (.lstore_n 1, 1) := by decide +kernel
theorem dX6_chooseViews_68 : decode cX6_chooseViews 68 = .ok (.iinc 5 1, 3) := by decide +kernel
theorem dX6_chooseViews_71 : decode cX6_chooseViews 71 = .ok (.goto (-57), 3) := by decide +kernel
theorem dX6_chooseViews_74 : decode cX6_chooseViews 74 = .ok (.aload_n 0, 1) := by decide +kernel
theorem dX6_chooseViews_75 : decode cX6_chooseViews 75 = .ok (.lload_n 1, 1) := by decide +kernel
theorem dX6_chooseViews_76 : decode cX6_chooseViews 76 = .ok (.putfield 216, 3) := by decide +kernel
theorem dX6_chooseViews_79 : decode cX6_chooseViews 79 = .ok (.return_, 1) := by decide +kernel
theorem dX6_passOneTick_0 : decode cX6_passOneTick 0 = .ok (.aload_n 0, 1) := by decide +kernel
theorem dX6_passOneTick_1 : decode cX6_passOneTick 1 = .ok (.dup, 1) := by decide +kernel
theorem dX6_passOneTick_2 : decode cX6_passOneTick 2 = .ok (.getfield 156, 3) := by decide +kernel
theorem dX6_passOneTick_5 : decode cX6_passOneTick 5 = .ok (.iconst 1, 1) := by decide +kernel
theorem dX6_passOneTick_6 : decode cX6_passOneTick 6 = .ok (.iadd, 1) := by decide +kernel
theorem dX6_passOneTick_7 : decode cX6_passOneTick 7 = .ok (.putfield 156, 3) := by decide +kernel
theorem dX6_passOneTick_10 : decode cX6_passOneTick 10 = .ok (.aload_n 0, 1) := by decide +kernel
theorem dX6_passOneTick_11 : decode cX6_passOneTick 11 = .ok (.invokevirtual 276, 3) := by decide +kernel
theorem dX6_passOneTick_14 : decode cX6_passOneTick 14 = .ok (.ifCond .eq 7, 3) := by decide +kernel
theorem dX6_passOneTick_17 : decode cX6_passOneTick 17 = .ok (.aload_n 0, 1) := by decide +kernel
theorem dX6_passOneTick_18 : decode cX6_passOneTick 18 = .ok (.invokevirtual 67, 3) := by decide +kernel
theorem dX6_passOneTick_21 : decode cX6_passOneTick 21 = .ok (.aload_n 0, 1) := by decide +kernel
theorem dX6_passOneTick_22 : decode cX6_passOneTick 22 = .ok (.getfield 17, 3) := by decide +kernel
theorem dX6_passOneTick_25 : decode cX6_passOneTick 25 = .ok (.astore_n 1, 1) := by decide +kernel
theorem dX6_passOneTick_26 : decode cX6_passOneTick 26 = .ok (.aload_n 1, 1) := by decide +kernel
theorem dX6_passOneTick_27 : decode cX6_passOneTick 27 = .ok (.arraylength, 1) := by decide +kernel
theorem dX6_passOneTick_28 : decode cX6_passOneTick 28 = .ok (.istore_n 2, 1) := by decide +kernel
theorem dX6_passOneTick_29 : decode cX6_passOneTick 29 = .ok (.iconst 0, 1) := by decide +kernel
theorem dX6_passOneTick_30 : decode cX6_passOneTick 30 = .ok (.istore_n 3, 1) := by decide +kernel
theorem dX6_passOneTick_31 : decode cX6_passOneTick 31 = .ok (.iload_n 3, 1) := by decide +kernel
theorem dX6_passOneTick_32 : decode cX6_passOneTick 32 = .ok (.iload_n 2, 1) := by decide +kernel
theorem dX6_passOneTick_33 : decode cX6_passOneTick 33 = .ok (.if_icmp .ge 41, 3) := by decide +kernel
theorem dX6_passOneTick_36 : decode cX6_passOneTick 36 = .ok (.aload_n 1, 1) := by decide +kernel
theorem dX6_passOneTick_37 : decode cX6_passOneTick 37 = .ok (.iload_n 3, 1) := by decide +kernel
theorem dX6_passOneTick_38 : decode cX6_passOneTick 38 = .ok (.aaload, 1) := by decide +kernel
theorem dX6_passOneTick_39 : decode cX6_passOneTick 39 = .ok (.astore 4, 2) := by decide +kernel
theorem dX6_passOneTick_41 : decode cX6_passOneTick 41 = .ok (.aload 4, 2) := by decide +kernel
theorem dX6_passOneTick_43 : decode cX6_passOneTick 43 = .ok (.ifnull 25, 3) := by decide +kernel
theorem dX6_passOneTick_46 : decode cX6_passOneTick 46 = .ok (.aload 4, 2) := by decide +kernel
theorem dX6_passOneTick_48 : decode cX6_passOneTick 48 = .ok (.getfield 165, 3) := by decide +kernel
theorem dX6_passOneTick_51 : decode cX6_passOneTick 51 = .ok (.ifnull 17, 3) := by decide +kernel
theorem dX6_passOneTick_54 : decode cX6_passOneTick 54 = .ok (.aload 4, 2) := by decide +kernel
theorem dX6_passOneTick_56 : decode cX6_passOneTick 56 = .ok (.getfield 165, 3) := by decide +kernel
theorem dX6_passOneTick_59 : decode cX6_passOneTick 59 = .ok (.dup, 1) := by decide +kernel
theorem dX6_passOneTick_60 : decode cX6_passOneTick 60 = .ok (.getfield 173, 3) := by decide +kernel
theorem dX6_passOneTick_63 : decode cX6_passOneTick 63 = .ok (.lconst 1, 1) := by decide +kernel
theorem dX6_passOneTick_64 : decode cX6_passOneTick 64 = .ok (.ladd, 1) := by decide +kernel
theorem dX6_passOneTick_65 : decode cX6_passOneTick 65 = .ok (.putfield 173, 3) := by decide +kernel
theorem dX6_passOneTick_68 : decode cX6_passOneTick 68 = .ok (.iinc 3 1, 3) := by decide +kernel
theorem dX6_passOneTick_71 : decode cX6_passOneTick 71 = .ok (.goto (-40), 3) := by decide +kernel
theorem dX6_passOneTick_74 : decode cX6_passOneTick 74 = .ok (.aload_n 0, 1) := by decide +kernel
theorem dX6_passOneTick_75 : decode cX6_passOneTick 75 = .ok (.getfield 23, 3) := by decide +kernel
theorem dX6_passOneTick_78 : decode cX6_passOneTick 78 = .ok (.astore_n 1, 1) := by decide +kernel
theorem dX6_passOneTick_79 : decode cX6_passOneTick 79 = .ok (.aload_n 1, 1) := by decide +kernel
theorem dX6_passOneTick_80 : decode cX6_passOneTick 80 = .ok (.arraylength, 1) := by decide +kernel
theorem dX6_passOneTick_81 : decode cX6_passOneTick 81 = .ok (.istore_n 2, 1) := by decide +kernel
theorem dX6_passOneTick_82 : decode cX6_passOneTick 82 = .ok (.iconst 0, 1) := by decide +kernel
theorem dX6_passOneTick_83 : decode cX6_passOneTick 83 = .ok (.istore_n 3, 1) := by decide +kernel
theorem dX6_passOneTick_84 : decode cX6_passOneTick 84 = .ok (.iload_n 3, 1) := by decide +kernel
theorem dX6_passOneTick_85 : decode cX6_passOneTick 85 = .ok (.iload_n 2, 1) := by decide +kernel
theorem dX6_passOneTick_86 : decode cX6_passOneTick 86 = .ok (.if_icmp .ge 46, 3) := by decide +kernel
theorem dX6_passOneTick_89 : decode cX6_passOneTick 89 = .ok (.aload_n 1, 1) := by decide +kernel
theorem dX6_passOneTick_90 : decode cX6_passOneTick 90 = .ok (.iload_n 3, 1) := by decide +kernel
theorem dX6_passOneTick_91 : decode cX6_passOneTick 91 = .ok (.aaload, 1) := by decide +kernel
theorem dX6_passOneTick_92 : decode cX6_passOneTick 92 = .ok (.astore 4, 2) := by decide +kernel
theorem dX6_passOneTick_94 : decode cX6_passOneTick 94 = .ok (.aload 4, 2) := by decide +kernel
theorem dX6_passOneTick_96 : decode cX6_passOneTick 96 = .ok (.ifnull 30, 3) := by decide +kernel
theorem dX6_passOneTick_99 : decode cX6_passOneTick 99 = .ok (.aload 4, 2) := by decide +kernel
theorem dX6_passOneTick_101 : decode cX6_passOneTick 101 = .ok (.getfield 231, 3) := by decide +kernel
theorem dX6_passOneTick_104 : decode cX6_passOneTick 104 = .ok (.ifCond .ne 22, 3) := by decide +kernel
theorem dX6_passOneTick_107 : decode cX6_passOneTick 107 = .ok (.aload 4, 2) := by decide +kernel
theorem dX6_passOneTick_109 : decode cX6_passOneTick 109 = .ok (.getfield 237, 3) := by decide +kernel
theorem dX6_passOneTick_112 : decode cX6_passOneTick 112 = .ok (.aload 4, 2) := by decide +kernel
theorem dX6_passOneTick_114 : decode cX6_passOneTick 114 = .ok (.getfield 121, 3) := by decide +kernel
theorem dX6_passOneTick_117 : decode cX6_passOneTick 117 = .ok (.getfield 165, 3) := by decide +kernel
theorem dX6_passOneTick_120 : decode cX6_passOneTick 120 = .ok (.invokestatic 139, 3) := by decide +kernel
theorem dX6_passOneTick_123 : decode cX6_passOneTick 123 = .ok (.invokevirtual 279, 3) := by decide +kernel
theorem dX6_passOneTick_126 : decode cX6_passOneTick 126 = .ok (.iinc 3 1, 3) := by decide +kernel
theorem dX6_passOneTick_129 : decode cX6_passOneTick 129 = .ok (.goto (-45), 3) := by decide +kernel
theorem dX6_passOneTick_132 : decode cX6_passOneTick 132 = .ok (.aload_n 0, 1) := by decide +kernel
theorem dX6_passOneTick_133 : decode cX6_passOneTick 133 = .ok (.dup, 1) := by decide +kernel
theorem dX6_passOneTick_134 : decode cX6_passOneTick 134 = .ok (.getfield 206, 3) := by decide +kernel
theorem dX6_passOneTick_137 : decode cX6_passOneTick 137 = .ok (.aload_n 0, 1) := by decide +kernel
theorem dX6_passOneTick_138 : decode cX6_passOneTick 138 = .ok (.getfield 216, 3) := by decide +kernel
theorem dX6_passOneTick_141 : decode cX6_passOneTick 141 = .ok (.ladd, 1) := by decide +kernel
theorem dX6_passOneTick_142 : decode cX6_passOneTick 142 = .ok (.putfield 206, 3) := by decide +kernel
theorem dX6_passOneTick_145 : decode cX6_passOneTick 145 = .ok (.return_, 1) := by decide +kernel
theorem dX6_takeTurns_0 : decode cX6_takeTurns 0 = .ok (.iconst 0, 1) := by decide +kernel
theorem dX6_takeTurns_1 : decode cX6_takeTurns 1 = .ok (.istore_n 1, 1) := by decide +kernel
theorem dX6_takeTurns_2 : decode cX6_takeTurns 2 = .ok (.aload_n 0, 1) := by decide +kernel
theorem dX6_takeTurns_3 : decode cX6_takeTurns 3 = .ok (.getfield 17, 3) := by decide +kernel
theorem dX6_takeTurns_6 : decode cX6_takeTurns 6 = .ok (.astore_n 2, 1) := by decide +kernel
theorem dX6_takeTurns_7 : decode cX6_takeTurns 7 = .ok (.aload_n 2, 1) := by decide +kernel
theorem dX6_takeTurns_8 : decode cX6_takeTurns 8 = .ok (.arraylength, 1) := by decide +kernel
theorem dX6_takeTurns_9 : decode cX6_takeTurns 9 = .ok (.istore_n 3, 1) := by decide +kernel
theorem dX6_takeTurns_10 : decode cX6_takeTurns 10 = .ok (.iconst 0, 1) := by decide +kernel
theorem dX6_takeTurns_11 : decode cX6_takeTurns 11 = .ok (.istore 4, 2) := by decide +kernel
theorem dX6_takeTurns_13 : decode cX6_takeTurns 13 = .ok (.iload 4, 2) := by decide +kernel
theorem dX6_takeTurns_15 : decode cX6_takeTurns 15 = .ok (.iload_n 3, 1) := by decide +kernel
theorem dX6_takeTurns_16 : decode cX6_takeTurns 16 = .ok (.if_icmp .ge 54, 3) := by decide +kernel
theorem dX6_takeTurns_19 : decode cX6_takeTurns 19 = .ok (.aload_n 2, 1) := by decide +kernel
theorem dX6_takeTurns_20 : decode cX6_takeTurns 20 = .ok (.iload 4, 2) := by decide +kernel
theorem dX6_takeTurns_22 : decode cX6_takeTurns 22 = .ok (.aaload, 1) := by decide +kernel
theorem dX6_takeTurns_23 : decode cX6_takeTurns 23 = .ok (.astore 5, 2) := by decide +kernel
theorem dX6_takeTurns_25 : decode cX6_takeTurns 25 = .ok (.aload 5, 2) := by decide +kernel
theorem dX6_takeTurns_27 : decode cX6_takeTurns 27 = .ok (.ifnull 37, 3) := by decide +kernel
theorem dX6_takeTurns_30 : decode cX6_takeTurns 30 = .ok (.aload 5, 2) := by decide +kernel
theorem dX6_takeTurns_32 : decode cX6_takeTurns 32 = .ok (.invokevirtual 282, 3) := by decide +kernel
theorem dX6_takeTurns_35 : decode cX6_takeTurns 35 = .ok (.ifCond .eq 29, 3) := by decide +kernel
theorem dX6_takeTurns_38 : decode cX6_takeTurns 38 = .ok (.aload_n 0, 1) := by decide +kernel
theorem dX6_takeTurns_39 : decode cX6_takeTurns 39 = .ok (.getfield 32, 3) := by decide +kernel
theorem dX6_takeTurns_42 : decode cX6_takeTurns 42 = .ok (.bipush 10, 2) := by decide +kernel
theorem dX6_takeTurns_44 : decode cX6_takeTurns 44 = .ok (.aload 5, 2) := by decide +kernel
theorem dX6_takeTurns_46 : decode cX6_takeTurns 46 = .ok (.getfield 86, 3) := by decide +kernel
theorem dX6_takeTurns_49 : decode cX6_takeTurns 49 = .ok (.imul, 1) := by decide +kernel
theorem dX6_takeTurns_50 : decode cX6_takeTurns 50 = .ok (.aload 5, 2) := by decide +kernel
theorem dX6_takeTurns_52 : decode cX6_takeTurns 52 = .ok (.getfield 165, 3) := by decide +kernel
theorem dX6_takeTurns_55 : decode cX6_takeTurns 55 = .ok (.invokestatic 139, 3) := by decide +kernel
theorem dX6_takeTurns_58 : decode cX6_takeTurns 58 = .ok (.iadd, 1) := by decide +kernel
theorem dX6_takeTurns_59 : decode cX6_takeTurns 59 = .ok (.invokevirtual 279, 3) := by decide +kernel
theorem dX6_takeTurns_62 : decode cX6_takeTurns 62 = .ok (.iconst 1, 1) := by decide +kernel
theorem dX6_takeTurns_63 : decode cX6_takeTurns 63 = .ok (.istore_n 1, 1) := by decide +kernel
theorem dX6_takeTurns_64 : decode cX6_takeTurns 64 = .ok (.iinc 4 1, 3) := by decide +kernel
theorem dX6_takeTurns_67 : decode cX6_takeTurns 67 = .ok (.goto (-54), 3) := by decide +kernel
theorem dX6_takeTurns_70 : decode cX6_takeTurns 70 = .ok (.iload_n 1, 1) := by decide +kernel
theorem dX6_takeTurns_71 : decode cX6_takeTurns 71 = .ok (.ireturn, 1) := by decide +kernel
theorem dJx00060_init_a7421_0 : decode cJx00060_init_a7421 0 = .ok (.aload_n 0, 1) := by decide +kernel
theorem dJx00060_init_a7421_1 : decode cJx00060_init_a7421 1 = .ok (.aload_n 1, 1) := by decide +kernel
theorem dJx00060_init_a7421_2 : decode cJx00060_init_a7421 2 = .ok (.invokespecial 7, 3) := by decide +kernel
theorem dJx00060_init_a7421_5 : decode cJx00060_init_a7421 5 = .ok (.return_, 1) := by decide +kernel
theorem dJ9_min_7cf53_0 : decode cJ9_min_7cf53 0 = .ok (.iload_n 0, 1) := by decide +kernel
theorem dJ9_min_7cf53_1 : decode cJ9_min_7cf53 1 = .ok (.iload_n 1, 1) := by decide +kernel
theorem dJ9_min_7cf53_2 : decode cJ9_min_7cf53 2 = .ok (.if_icmp .gt 7, 3) := by decide +kernel
theorem dJ9_min_7cf53_5 : decode cJ9_min_7cf53 5 = .ok (.iload_n 0, 1) := by decide +kernel
theorem dJ9_min_7cf53_6 : decode cJ9_min_7cf53 6 = .ok (.goto 4, 3) := by decide +kernel
theorem dJ9_min_7cf53_9 : decode cJ9_min_7cf53 9 = .ok (.iload_n 1, 1) := by decide +kernel
theorem dJ9_min_7cf53_10 : decode cJ9_min_7cf53 10 = .ok (.ireturn, 1) := by decide +kernel
theorem dJ7_fill_53178_0 : decode cJ7_fill_53178 0 = .ok (.iconst 0, 1) := by decide +kernel
theorem dJ7_fill_53178_1 : decode cJ7_fill_53178 1 = .ok (.istore_n 2, 1) := by decide +kernel
theorem dJ7_fill_53178_2 : decode cJ7_fill_53178 2 = .ok (.aload_n 0, 1) := by decide +kernel
theorem dJ7_fill_53178_3 : decode cJ7_fill_53178 3 = .ok (.arraylength, 1) := by decide +kernel
theorem dJ7_fill_53178_4 : decode cJ7_fill_53178 4 = .ok (.istore_n 3, 1) := by decide +kernel
theorem dJ7_fill_53178_5 : decode cJ7_fill_53178 5 = .ok (.iload_n 2, 1) := by decide +kernel
theorem dJ7_fill_53178_6 : decode cJ7_fill_53178 6 = .ok (.iload_n 3, 1) := by decide +kernel
theorem dJ7_fill_53178_7 : decode cJ7_fill_53178 7 = .ok (.if_icmp .ge 13, 3) := by decide +kernel
theorem dJ7_fill_53178_10 : decode cJ7_fill_53178 10 = .ok (.aload_n 0, 1) := by decide +kernel
theorem dJ7_fill_53178_11 : decode cJ7_fill_53178 11 = .ok (.iload_n 2, 1) := by decide +kernel
theorem dJ7_fill_53178_12 : decode cJ7_fill_53178 12 = .ok (.iload_n 1, 1) := by decide +kernel
theorem dJ7_fill_53178_13 : decode cJ7_fill_53178 13 = .ok (.iastore, 1) := by decide +kernel
theorem dJ7_fill_53178_14 : decode cJ7_fill_53178 14 = .ok (.iinc 2 1, 3) := by decide +kernel
theorem dJ7_fill_53178_17 : decode cJ7_fill_53178 17 = .ok (.goto (-12), 3) := by decide +kernel
theorem dJ7_fill_53178_20 : decode cJ7_fill_53178 20 = .ok (.return_, 1) := by decide +kernel
theorem dJ7_copyOf_59c91_0 : decode cJ7_copyOf_59c91 0 = .ok (.iload_n 1, 1) := by decide +kernel
theorem dJ7_copyOf_59c91_1 : decode cJ7_copyOf_59c91 1 = .ok (.aload_n 0, 1) := by decide +kernel
theorem dJ7_copyOf_59c91_2 : decode cJ7_copyOf_59c91 2 = .ok (.arraylength, 1) := by decide +kernel
theorem dJ7_copyOf_59c91_3 : decode cJ7_copyOf_59c91 3 = .ok (.if_icmp .ne 11, 3) := by decide +kernel
theorem dJ7_copyOf_59c91_6 : decode cJ7_copyOf_59c91 6 = .ok (.aload_n 0, 1) := by decide +kernel
theorem dJ7_copyOf_59c91_7 : decode cJ7_copyOf_59c91 7 = .ok (.invokevirtual 316, 3) := by decide +kernel
theorem dJ7_copyOf_59c91_10 : decode cJ7_copyOf_59c91 10 = .ok (.checkcast 317, 3) := by decide +kernel
theorem dJ7_copyOf_59c91_13 : decode cJ7_copyOf_59c91 13 = .ok (.areturn, 1) := by decide +kernel
theorem dJ7_copyOf_59c91_14 : decode cJ7_copyOf_59c91 14 = .ok (.iload_n 1, 1) := by decide +kernel
theorem dJ7_copyOf_59c91_15 : decode cJ7_copyOf_59c91 15 = .ok (.newarray .int, 2) := by decide +kernel
theorem dJ7_copyOf_59c91_17 : decode cJ7_copyOf_59c91 17 = .ok (.astore_n 2, 1) := by decide +kernel
theorem dJ7_copyOf_59c91_18 : decode cJ7_copyOf_59c91 18 = .ok (.aload_n 0, 1) := by decide +kernel
theorem dJ7_copyOf_59c91_19 : decode cJ7_copyOf_59c91 19 = .ok (.iconst 0, 1) := by decide +kernel
theorem dJ7_copyOf_59c91_20 : decode cJ7_copyOf_59c91 20 = .ok (.aload_n 2, 1) := by decide +kernel
theorem dJ7_copyOf_59c91_21 : decode cJ7_copyOf_59c91 21 = .ok (.iconst 0, 1) := by decide +kernel
theorem dJ7_copyOf_59c91_22 : decode cJ7_copyOf_59c91 22 = .ok (.aload_n 0, 1) := by decide +kernel
theorem dJ7_copyOf_59c91_23 : decode cJ7_copyOf_59c91 23 = .ok (.arraylength, 1) := by decide +kernel
theorem dJ7_copyOf_59c91_24 : decode cJ7_copyOf_59c91 24 = .ok (.iload_n 1, 1) := by decide +kernel
theorem dJ7_copyOf_59c91_25 : decode cJ7_copyOf_59c91 25 = .ok (.invokestatic 304, 3) := by decide +kernel
theorem dJ7_copyOf_59c91_28 : decode cJ7_copyOf_59c91 28 = .ok (.invokestatic 150, 3) := by decide +kernel
theorem dJ7_copyOf_59c91_31 : decode cJ7_copyOf_59c91 31 = .ok (.aload_n 2, 1) := by decide +kernel
theorem dJ7_copyOf_59c91_32 : decode cJ7_copyOf_59c91 32 = .ok (.areturn, 1) := by decide +kernel
