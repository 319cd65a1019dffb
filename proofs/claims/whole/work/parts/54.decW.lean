theorem dL_addPerson_0 : decode cL_addPerson 0 = .ok (.aload_n 2, 1) := by decide +kernel
theorem dL_addPerson_1 : decode cL_addPerson 1 = .ok (.iconst 0, 1) := by decide +kernel
theorem dL_addPerson_2 : decode cL_addPerson 2 = .ok (.aload_n 0, 1) := by decide +kernel
theorem dL_addPerson_3 : decode cL_addPerson 3 = .ok (.iload_n 1, 1) := by decide +kernel
theorem dL_addPerson_4 : decode cL_addPerson 4 = .ok (.invokevirtual 7, 3) := by decide +kernel
theorem dL_addPerson_7 : decode cL_addPerson 7 = .ok (.i2l, 1) := by decide +kernel
theorem dL_addPerson_8 : decode cL_addPerson 8 = .ok (.lastore, 1) := by decide +kernel
theorem dL_addPerson_9 : decode cL_addPerson 9 = .ok (.goto 9, 3) := by decide +kernel
theorem dL_addPerson_12 : decode cL_addPerson 12 = .ok (.astore_n 3, 1) := by decide +kernel
theorem dL_addPerson_13 : decode cL_addPerson 13 = .ok (.iconst 1, 1) := by decide +kernel
theorem dL_addPerson_14 : decode cL_addPerson 14 = .ok (.ireturn, 1) := by decide +kernel
theorem dL_addPerson_15 : decode cL_addPerson 15 = .ok (.astore_n 3, 1) := by decide +kernel
theorem dL_addPerson_16 : decode cL_addPerson 16 = .ok (.iconst 2, 1) := by decide +kernel
theorem dL_addPerson_17 : decode cL_addPerson 17 = .ok (.ireturn, 1) := by decide +kernel
theorem dL_addPerson_18 : decode cL_addPerson 18 = .ok (.iconst 0, 1) := by decide +kernel
theorem dL_addPerson_19 : decode cL_addPerson 19 = .ok (.ireturn, 1) := by decide +kernel
theorem dL_setBudget_0 : decode cL_setBudget 0 = .ok (.aload_n 3, 1) := by decide +kernel
theorem dL_setBudget_1 : decode cL_setBudget 1 = .ok (.iconst 0, 1) := by decide +kernel
theorem dL_setBudget_2 : decode cL_setBudget 2 = .ok (.aload_n 0, 1) := by decide +kernel
theorem dL_setBudget_3 : decode cL_setBudget 3 = .ok (.iload_n 1, 1) := by decide +kernel
theorem dL_setBudget_4 : decode cL_setBudget 4 = .ok (.iload_n 2, 1) := by decide +kernel
theorem dL_setBudget_5 : decode cL_setBudget 5 = .ok (.invokevirtual 17, 3) := by decide +kernel
theorem dL_setBudget_8 : decode cL_setBudget 8 = .ok (.i2l, 1) := by decide +kernel
theorem dL_setBudget_9 : decode cL_setBudget 9 = .ok (.lastore, 1) := by decide +kernel
theorem dL_setBudget_10 : decode cL_setBudget 10 = .ok (.goto 11, 3) := by decide +kernel
theorem dL_setBudget_13 : decode cL_setBudget 13 = .ok (.astore 4, 2) := by decide +kernel
theorem dL_setBudget_15 : decode cL_setBudget 15 = .ok (.iconst 1, 1) := by decide +kernel
theorem dL_setBudget_16 : decode cL_setBudget 16 = .ok (.ireturn, 1) := by decide +kernel
theorem dL_setBudget_17 : decode cL_setBudget 17 = .ok (.astore 4, 2) := by decide +kernel
theorem dL_setBudget_19 : decode cL_setBudget 19 = .ok (.iconst 2, 1) := by decide +kernel
theorem dL_setBudget_20 : decode cL_setBudget 20 = .ok (.ireturn, 1) := by decide +kernel
theorem dL_setBudget_21 : decode cL_setBudget 21 = .ok (.iconst 0, 1) := by decide +kernel
theorem dL_setBudget_22 : decode cL_setBudget 22 = .ok (.ireturn, 1) := by decide +kernel
theorem dL_setSends_0 : decode cL_setSends 0 = .ok (.aload_n 3, 1) := by decide +kernel
theorem dL_setSends_1 : decode cL_setSends 1 = .ok (.iconst 0, 1) := by decide +kernel
theorem dL_setSends_2 : decode cL_setSends 2 = .ok (.aload_n 0, 1) := by decide +kernel
theorem dL_setSends_3 : decode cL_setSends 3 = .ok (.iload_n 1, 1) := by decide +kernel
theorem dL_setSends_4 : decode cL_setSends 4 = .ok (.iload_n 2, 1) := by decide +kernel
theorem dL_setSends_5 : decode cL_setSends 5 = .ok (.invokevirtual 23, 3) := by decide +kernel
theorem dL_setSends_8 : decode cL_setSends 8 = .ok (.i2l, 1) := by decide +kernel
theorem dL_setSends_9 : decode cL_setSends 9 = .ok (.lastore, 1) := by decide +kernel
theorem dL_setSends_10 : decode cL_setSends 10 = .ok (.goto 11, 3) := by decide +kernel
theorem dL_setSends_13 : decode cL_setSends 13 = .ok (.astore 4, 2) := by decide +kernel
theorem dL_setSends_15 : decode cL_setSends 15 = .ok (.iconst 1, 1) := by decide +kernel
theorem dL_setSends_16 : decode cL_setSends 16 = .ok (.ireturn, 1) := by decide +kernel
theorem dL_setSends_17 : decode cL_setSends 17 = .ok (.astore 4, 2) := by decide +kernel
theorem dL_setSends_19 : decode cL_setSends 19 = .ok (.iconst 2, 1) := by decide +kernel
theorem dL_setSends_20 : decode cL_setSends 20 = .ok (.ireturn, 1) := by decide +kernel
theorem dL_setSends_21 : decode cL_setSends 21 = .ok (.iconst 0, 1) := by decide +kernel
theorem dL_setSends_22 : decode cL_setSends 22 = .ok (.ireturn, 1) := by decide +kernel
theorem dL_setLoud_0 : decode cL_setLoud 0 = .ok (.aload_n 3, 1) := by decide +kernel
theorem dL_setLoud_1 : decode cL_setLoud 1 = .ok (.iconst 0, 1) := by decide +kernel
theorem dL_setLoud_2 : decode cL_setLoud 2 = .ok (.aload_n 0, 1) := by decide +kernel
theorem dL_setLoud_3 : decode cL_setLoud 3 = .ok (.iload_n 1, 1) := by decide +kernel
theorem dL_setLoud_4 : decode cL_setLoud 4 = .ok (.iload_n 2, 1) := by decide +kernel
theorem dL_setLoud_5 : decode cL_setLoud 5 = .ok (.invokevirtual 26, 3) := by decide +kernel
theorem dL_setLoud_8 : decode cL_setLoud 8 = .ok (.i2l, 1) := by decide +kernel
theorem dL_setLoud_9 : decode cL_setLoud 9 = .ok (.lastore, 1) := by decide +kernel
theorem dL_setLoud_10 : decode cL_setLoud 10 = .ok (.goto 11, 3) := by decide +kernel
theorem dL_setLoud_13 : decode cL_setLoud 13 = .ok (.astore 4, 2) := by decide +kernel
theorem dL_setLoud_15 : decode cL_setLoud 15 = .ok (.iconst 1, 1) := by decide +kernel
theorem dL_setLoud_16 : decode cL_setLoud 16 = .ok (.ireturn, 1) := by decide +kernel
theorem dL_setLoud_17 : decode cL_setLoud 17 = .ok (.astore 4, 2) := by decide +kernel
theorem dL_setLoud_19 : decode cL_setLoud 19 = .ok (.iconst 2, 1) := by decide +kernel
theorem dL_setLoud_20 : decode cL_setLoud 20 = .ok (.ireturn, 1) := by decide +kernel
theorem dL_setLoud_21 : decode cL_setLoud 21 = .ok (.iconst 0, 1) := by decide +kernel
theorem dL_setLoud_22 : decode cL_setLoud 22 = .ok (.ireturn, 1) := by decide +kernel
theorem dL_addRoom_0 : decode cL_addRoom 0 = .ok (.aload_n 1, 1) := by decide +kernel
theorem dL_addRoom_1 : decode cL_addRoom 1 = .ok (.iconst 0, 1) := by decide +kernel
theorem dL_addRoom_2 : decode cL_addRoom 2 = .ok (.aload_n 0, 1) := by decide +kernel
theorem dL_addRoom_3 : decode cL_addRoom 3 = .ok (.invokevirtual 29, 3) := by decide +kernel
theorem dL_addRoom_6 : decode cL_addRoom 6 = .ok (.i2l, 1) := by decide +kernel
theorem dL_addRoom_7 : decode cL_addRoom 7 = .ok (.lastore, 1) := by decide +kernel
theorem dL_addRoom_8 : decode cL_addRoom 8 = .ok (.goto 6, 3) := by decide +kernel
theorem dL_addRoom_11 : decode cL_addRoom 11 = .ok (.astore_n 2, 1) := by decide +kernel
theorem dL_addRoom_12 : decode cL_addRoom 12 = .ok (.iconst 1, 1) := by decide +kernel
theorem dL_addRoom_13 : decode cL_addRoom 13 = .ok (.ireturn, 1) := by decide +kernel
theorem dL_addRoom_14 : decode cL_addRoom 14 = .ok (.iconst 0, 1) := by decide +kernel
theorem dL_addRoom_15 : decode cL_addRoom 15 = .ok (.ireturn, 1) := by decide +kernel
theorem dL_enter_0 : decode cL_enter 0 = .ok (.aload_n 3, 1) := by decide +kernel
theorem dL_enter_1 : decode cL_enter 1 = .ok (.iconst 0, 1) := by decide +kernel
theorem dL_enter_2 : decode cL_enter 2 = .ok (.aload_n 0, 1) := by decide +kernel
theorem dL_enter_3 : decode cL_enter 3 = .ok (.iload_n 1, 1) := by decide +kernel
theorem dL_enter_4 : decode cL_enter 4 = .ok (.iload_n 2, 1) := by decide +kernel
theorem dL_enter_5 : decode cL_enter 5 = .ok (.invokevirtual 33, 3) := by decide +kernel
theorem dL_enter_8 : decode cL_enter 8 = .ok (.i2l, 1) := by decide +kernel
theorem dL_enter_9 : decode cL_enter 9 = .ok (.lastore, 1) := by decide +kernel
theorem dL_enter_10 : decode cL_enter 10 = .ok (.goto 15, 3) := by decide +kernel
theorem dL_enter_13 : decode cL_enter 13 = .ok (.astore 4, 2) := by decide +kernel
theorem dL_enter_15 : decode cL_enter 15 = .ok (.iconst 1, 1) := by decide +kernel
theorem dL_enter_16 : decode cL_enter 16 = .ok (.ireturn, 1) := by decide +kernel
theorem dL_enter_17 : decode cL_enter 17 = .ok (.astore 4, 2) := by decide +kernel
theorem dL_enter_19 : decode cL_enter 19 = .ok (.iconst 2, 1) := by decide +kernel
theorem dL_enter_20 : decode cL_enter 20 = .ok (.ireturn, 1) := by decide +kernel
theorem dL_enter_21 : decode cL_enter 21 = .ok (.astore 4, 2) := by decide +kernel
theorem dL_enter_23 : decode cL_enter 23 = .ok (.iconst 3, 1) := by decide +kernel
theorem dL_enter_24 : decode cL_enter 24 = .ok (.ireturn, 1) := by decide +kernel
theorem dL_enter_25 : decode cL_enter 25 = .ok (.iconst 0, 1) := by decide +kernel
theorem dL_enter_26 : decode cL_enter 26 = .ok (.ireturn, 1) := by decide +kernel
theorem dL_leave_0 : decode cL_leave 0 = .ok (.aload_n 2, 1) := by decide +kernel
theorem dL_leave_1 : decode cL_leave 1 = .ok (.iconst 0, 1) := by decide +kernel
theorem dL_leave_2 : decode cL_leave 2 = .ok (.aload_n 0, 1) := by decide +kernel
theorem dL_leave_3 : decode cL_leave 3 = .ok (.iload_n 1, 1) := by decide +kernel
theorem dL_leave_4 : decode cL_leave 4 = .ok (.invokevirtual 38, 3) := by decide +kernel
theorem dL_leave_7 : decode cL_leave 7 = .ok (.i2l, 1) := by decide +kernel
theorem dL_leave_8 : decode cL_leave 8 = .ok (.lastore, 1) := by decide +kernel
theorem dL_leave_9 : decode cL_leave 9 = .ok (.goto 9, 3) := by decide +kernel
theorem dL_leave_12 : decode cL_leave 12 = .ok (.astore_n 3, 1) := by decide +kernel
theorem dL_leave_13 : decode cL_leave 13 = .ok (.iconst 1, 1) := by decide +kernel
theorem dL_leave_14 : decode cL_leave 14 = .ok (.ireturn, 1) := by decide +kernel
theorem dL_leave_15 : decode cL_leave 15 = .ok (.astore_n 3, 1) := by decide +kernel
theorem dL_leave_16 : decode cL_leave 16 = .ok (.iconst 2, 1) := by decide +kernel
theorem dL_leave_17 : decode cL_leave 17 = .ok (.ireturn, 1) := by decide +kernel
theorem dL_leave_18 : decode cL_leave 18 = .ok (.iconst 0, 1) := by decide +kernel
theorem dL_leave_19 : decode cL_leave 19 = .ok (.ireturn, 1) := by decide +kernel
theorem dL_split_0 : decode cL_split 0 = .ok (.aload_n 2, 1) := by decide +kernel
theorem dL_split_1 : decode cL_split 1 = .ok (.iconst 0, 1) := by decide +kernel
theorem dL_split_2 : decode cL_split 2 = .ok (.aload_n 0, 1) := by decide +kernel
theorem dL_split_3 : decode cL_split 3 = .ok (.iload_n 1, 1) := by decide +kernel
theorem dL_split_4 : decode cL_split 4 = .ok (.invokevirtual 41, 3) := by decide +kernel
theorem dL_split_7 : decode cL_split 7 = .ok (.i2l, 1) := by decide +kernel
theorem dL_split_8 : decode cL_split 8 = .ok (.lastore, 1) := by decide +kernel
theorem dL_split_9 : decode cL_split 9 = .ok (.goto 9, 3) := by decide +kernel
theorem dL_split_12 : decode cL_split 12 = .ok (.astore_n 3, 1) := by decide +kernel
theorem dL_split_13 : decode cL_split 13 = .ok (.iconst 1, 1) := by decide +kernel
theorem dL_split_14 : decode cL_split 14 = .ok (.ireturn, 1) := by decide +kernel
theorem dL_split_15 : decode cL_split 15 = .ok (.astore_n 3, 1) := by decide +kernel
theorem dL_split_16 : decode cL_split 16 = .ok (.iconst 2, 1) := by decide +kernel
theorem dL_split_17 : decode cL_split 17 = .ok (.ireturn, 1) := by decide +kernel
theorem dL_split_18 : decode cL_split 18 = .ok (.iconst 0, 1) := by decide +kernel
theorem dL_split_19 : decode cL_split 19 = .ok (.ireturn, 1) := by decide +kernel
theorem dL_join_0 : decode cL_join 0 = .ok (.aload_n 3, 1) := by decide +kernel
theorem dL_join_1 : decode cL_join 1 = .ok (.iconst 0, 1) := by decide +kernel
theorem dL_join_2 : decode cL_join 2 = .ok (.aload_n 0, 1) := by decide +kernel
theorem dL_join_3 : decode cL_join 3 = .ok (.iload_n 1, 1) := by decide +kernel
theorem dL_join_4 : decode cL_join 4 = .ok (.iload_n 2, 1) := by decide +kernel
theorem dL_join_5 : decode cL_join 5 = .ok (.invokevirtual 44, 3) := by decide +kernel
theorem dL_join_8 : decode cL_join 8 = .ok (.i2l, 1) := by decide +kernel
theorem dL_join_9 : decode cL_join 9 = .ok (.lastore, 1) := by decide +kernel
theorem dL_join_10 : decode cL_join 10 = .ok (.goto 11, 3) := by decide +kernel
theorem dL_join_13 : decode cL_join 13 = .ok (.astore 4, 2) := by decide +kernel
theorem dL_join_15 : decode cL_join 15 = .ok (.iconst 1, 1) := by decide +kernel
theorem dL_join_16 : decode cL_join 16 = .ok (.ireturn, 1) := by decide +kernel
theorem dL_join_17 : decode cL_join 17 = .ok (.astore 4, 2) := by decide +kernel
theorem dL_join_19 : decode cL_join 19 = .ok (.iconst 2, 1) := by decide +kernel
theorem dL_join_20 : decode cL_join 20 = .ok (.ireturn, 1) := by decide +kernel
theorem dL_join_21 : decode cL_join 21 = .ok (.iconst 0, 1) := by decide +kernel
theorem dL_join_22 : decode cL_join 22 = .ok (.ireturn, 1) := by decide +kernel
theorem dL_pin_0 : decode cL_pin 0 = .ok (.aload_n 3, 1) := by decide +kernel
theorem dL_pin_1 : decode cL_pin 1 = .ok (.iconst 0, 1) := by decide +kernel
theorem dL_pin_2 : decode cL_pin 2 = .ok (.aload_n 0, 1) := by decide +kernel
theorem dL_pin_3 : decode cL_pin 3 = .ok (.iload_n 1, 1) := by decide +kernel
theorem dL_pin_4 : decode cL_pin 4 = .ok (.iload_n 2, 1) := by decide +kernel
theorem dL_pin_5 : decode cL_pin 5 = .ok (.invokevirtual 47, 3) := by decide +kernel
theorem dL_pin_8 : decode cL_pin 8 = .ok (.i2l, 1) := by decide +kernel
theorem dL_pin_9 : decode cL_pin 9 = .ok (.lastore, 1) := by decide +kernel
theorem dL_pin_10 : decode cL_pin 10 = .ok (.goto 15, 3) := by decide +kernel
theorem dL_pin_13 : decode cL_pin 13 = .ok (.astore 4, 2) := by decide +kernel
theorem dL_pin_15 : decode cL_pin 15 = .ok (.iconst 1, 1) := by decide +kernel
theorem dL_pin_16 : decode cL_pin 16 = .ok (.ireturn, 1) := by decide +kernel
theorem dL_pin_17 : decode cL_pin 17 = .ok (.astore 4, 2) := by decide +kernel
theorem dL_pin_19 : decode cL_pin 19 = .ok (.iconst 2, 1) := by decide +kernel
theorem dL_pin_20 : decode cL_pin 20 = .ok (.ireturn, 1) := by decide +kernel
theorem dL_pin_21 : decode cL_pin 21 = .ok (.astore 4, 2) := by decide +kernel
theorem dL_pin_23 : decode cL_pin 23 = .ok (.iconst 3, 1) := by decide +kernel
theorem dL_pin_24 : decode cL_pin 24 = .ok (.ireturn, 1) := by decide +kernel
theorem dL_pin_25 : decode cL_pin 25 = .ok (.iconst 0, 1) := by decide +kernel
theorem dL_pin_26 : decode cL_pin 26 = .ok (.ireturn, 1) := by decide +kernel
theorem dL_unpin_0 : decode cL_unpin 0 = .ok (.aload_n 2, 1) := by decide +kernel
theorem dL_unpin_1 : decode cL_unpin 1 = .ok (.iconst 0, 1) := by decide +kernel
theorem dL_unpin_2 : decode cL_unpin 2 = .ok (.aload_n 0, 1) := by decide +kernel
theorem dL_unpin_3 : decode cL_unpin 3 = .ok (.iload_n 1, 1) := by decide +kernel
theorem dL_unpin_4 : decode cL_unpin 4 = .ok (.invokevirtual 52, 3) := by decide +kernel
theorem dL_unpin_7 : decode cL_unpin 7 = .ok (.i2l, 1) := by decide +kernel
theorem dL_unpin_8 : decode cL_unpin 8 = .ok (.lastore, 1) := by decide +kernel
theorem dL_unpin_9 : decode cL_unpin 9 = .ok (.goto 9, 3) := by decide +kernel
theorem dL_unpin_12 : decode cL_unpin 12 = .ok (.astore_n 3, 1) := by decide +kernel
theorem dL_unpin_13 : decode cL_unpin 13 = .ok (.iconst 1, 1) := by decide +kernel
theorem dL_unpin_14 : decode cL_unpin 14 = .ok (.ireturn, 1) := by decide +kernel
theorem dL_unpin_15 : decode cL_unpin 15 = .ok (.astore_n 3, 1) := by decide +kernel
theorem dL_unpin_16 : decode cL_unpin 16 = .ok (.iconst 2, 1) := by decide +kernel
theorem dL_unpin_17 : decode cL_unpin 17 = .ok (.ireturn, 1) := by decide +kernel
theorem dL_unpin_18 : decode cL_unpin 18 = .ok (.iconst 0, 1) := by decide +kernel
theorem dL_unpin_19 : decode cL_unpin 19 = .ok (.ireturn, 1) := by decide +kernel
theorem dL_roomOf_0 : decode cL_roomOf 0 = .ok (.aload_n 2, 1) := by decide +kernel
theorem dL_roomOf_1 : decode cL_roomOf 1 = .ok (.iconst 0, 1) := by decide +kernel
theorem dL_roomOf_2 : decode cL_roomOf 2 = .ok (.aload_n 0, 1) := by decide +kernel
theorem dL_roomOf_3 : decode cL_roomOf 3 = .ok (.iload_n 1, 1) := by decide +kernel
theorem dL_roomOf_4 : decode cL_roomOf 4 = .ok (.invokevirtual 55, 3) := by decide +kernel
theorem dL_roomOf_7 : decode cL_roomOf 7 = .ok (.i2l, 1) := by decide +kernel
theorem dL_roomOf_8 : decode cL_roomOf 8 = .ok (.lastore, 1) := by decide +kernel
theorem dL_roomOf_9 : decode cL_roomOf 9 = .ok (.goto 9, 3) := by decide +kernel
theorem dL_roomOf_12 : decode cL_roomOf 12 = .ok (.astore_n 3, 1) := by decide +kernel
theorem dL_roomOf_13 : decode cL_roomOf 13 = .ok (.iconst 1, 1) := by decide +kernel
theorem dL_roomOf_14 : decode cL_roomOf 14 = .ok (.ireturn, 1) := by decide +kernel
theorem dL_roomOf_15 : decode cL_roomOf 15 = .ok (.astore_n 3, 1) := by decide +kernel
theorem dL_roomOf_16 : decode cL_roomOf 16 = .ok (.iconst 2, 1) := by decide +kernel
theorem dL_roomOf_17 : decode cL_roomOf 17 = .ok (.ireturn, 1) := by decide +kernel
theorem dL_roomOf_18 : decode cL_roomOf 18 = .ok (.iconst 0, 1) := by decide +kernel
theorem dL_roomOf_19 : decode cL_roomOf 19 = .ok (.ireturn, 1) := by decide +kernel
theorem dL_inRoom_0 : decode cL_inRoom 0 = .ok (.aload_n 2, 1) := by decide +kernel
theorem dL_inRoom_1 : decode cL_inRoom 1 = .ok (.iconst 0, 1) := by decide +kernel
theorem dL_inRoom_2 : decode cL_inRoom 2 = .ok (.aload_n 0, 1) := by decide +kernel
theorem dL_inRoom_3 : decode cL_inRoom 3 = .ok (.iload_n 1, 1) := by decide +kernel
theorem dL_inRoom_4 : decode cL_inRoom 4 = .ok (.invokevirtual 58, 3) := by decide +kernel
theorem dL_inRoom_7 : decode cL_inRoom 7 = .ok (.i2l, 1) := by decide +kernel
theorem dL_inRoom_8 : decode cL_inRoom 8 = .ok (.lastore, 1) := by decide +kernel
theorem dL_inRoom_9 : decode cL_inRoom 9 = .ok (.goto 6, 3) := by decide +kernel
theorem dL_inRoom_12 : decode cL_inRoom 12 = .ok (.astore_n 3, 1) := by decide +kernel
theorem dL_inRoom_13 : decode cL_inRoom 13 = .ok (.iconst 1, 1) := by decide +kernel
theorem dL_inRoom_14 : decode cL_inRoom 14 = .ok (.ireturn, 1) := by decide +kernel
theorem dL_inRoom_15 : decode cL_inRoom 15 = .ok (.iconst 0, 1) := by decide +kernel
theorem dL_inRoom_16 : decode cL_inRoom 16 = .ok (.ireturn, 1) := by decide +kernel
theorem dL_personAt_0 : decode cL_personAt 0 = .ok (.aload_n 3, 1) := by decide +kernel
theorem dL_personAt_1 : decode cL_personAt 1 = .ok (.iconst 0, 1) := by decide +kernel
theorem dL_personAt_2 : decode cL_personAt 2 = .ok (.aload_n 0, 1) := by decide +kernel
theorem dL_personAt_3 : decode cL_personAt 3 = .ok (.iload_n 1, 1) := by decide +kernel
theorem dL_personAt_4 : decode cL_personAt 4 = .ok (.iload_n 2, 1) := by decide +kernel
theorem dL_personAt_5 : decode cL_personAt 5 = .ok (.invokevirtual 61, 3) := by decide +kernel
theorem dL_personAt_8 : decode cL_personAt 8 = .ok (.i2l, 1) := by decide +kernel
theorem dL_personAt_9 : decode cL_personAt 9 = .ok (.lastore, 1) := by decide +kernel
theorem dL_personAt_10 : decode cL_personAt 10 = .ok (.goto 11, 3) := by decide +kernel
theorem dL_personAt_13 : decode cL_personAt 13 = .ok (.astore 4, 2) := by decide +kernel
theorem dL_personAt_15 : decode cL_personAt 15 = .ok (.iconst 1, 1) := by decide +kernel
theorem dL_personAt_16 : decode cL_personAt 16 = .ok (.ireturn, 1) := by decide +kernel
theorem dL_personAt_17 : decode cL_personAt 17 = .ok (.astore 4, 2) := by decide +kernel
theorem dL_personAt_19 : decode cL_personAt 19 = .ok (.iconst 2, 1) := by decide +kernel
theorem dL_personAt_20 : decode cL_personAt 20 = .ok (.ireturn, 1) := by decide +kernel
theorem dL_personAt_21 : decode cL_personAt 21 = .ok (.iconst 0, 1) := by decide +kernel
theorem dL_personAt_22 : decode cL_personAt 22 = .ok (.ireturn, 1) := by decide +kernel
theorem dL_pass_0 : decode cL_pass 0 = .ok (.aload_n 2, 1) := by decide +kernel
theorem dL_pass_1 : decode cL_pass 1 = .ok (.iconst 0, 1) := by decide +kernel
theorem dL_pass_2 : decode cL_pass 2 = .ok (.aload_n 0, 1) := by decide +kernel
theorem dL_pass_3 : decode cL_pass 3 = .ok (.iload_n 1, 1) := by decide +kernel
theorem dL_pass_4 : decode cL_pass 4 = .ok (.invokevirtual 64, 3) := by decide +kernel
theorem dL_pass_7 : decode cL_pass 7 = .ok (.i2l, 1) := by decide +kernel
theorem dL_pass_8 : decode cL_pass 8 = .ok (.lastore, 1) := by decide +kernel
theorem dL_pass_9 : decode cL_pass 9 = .ok (.goto 9, 3) := by decide +kernel
theorem dL_pass_12 : decode cL_pass 12 = .ok (.astore_n 3, 1) := by decide +kernel
theorem dL_pass_13 : decode cL_pass 13 = .ok (.iconst 1, 1) := by decide +kernel
theorem dL_pass_14 : decode cL_pass 14 = .ok (.ireturn, 1) := by decide +kernel
theorem dL_pass_15 : decode cL_pass 15 = .ok (.astore_n 3, 1) := by decide +kernel
theorem dL_pass_16 : decode cL_pass 16 = .ok (.iconst 2, 1) := by decide +kernel
theorem dL_pass_17 : decode cL_pass 17 = .ok (.ireturn, 1) := by decide +kernel
theorem dL_pass_18 : decode cL_pass 18 = .ok (.iconst 0, 1) := by decide +kernel
theorem dL_pass_19 : decode cL_pass 19 = .ok (.ireturn, 1) := by decide +kernel
theorem dL_speaker_0 : decode cL_speaker 0 = .ok (.aload_n 2, 1) := by decide +kernel
theorem dL_speaker_1 : decode cL_speaker 1 = .ok (.iconst 0, 1) := by decide +kernel
theorem dL_speaker_2 : decode cL_speaker 2 = .ok (.aload_n 0, 1) := by decide +kernel
theorem dL_speaker_3 : decode cL_speaker 3 = .ok (.iload_n 1, 1) := by decide +kernel
theorem dL_speaker_4 : decode cL_speaker 4 = .ok (.invokevirtual 67, 3) := by decide +kernel
theorem dL_speaker_7 : decode cL_speaker 7 = .ok (.i2l, 1) := by decide +kernel
theorem dL_speaker_8 : decode cL_speaker 8 = .ok (.lastore, 1) := by decide +kernel
theorem dL_speaker_9 : decode cL_speaker 9 = .ok (.goto 9, 3) := by decide +kernel
theorem dL_speaker_12 : decode cL_speaker 12 = .ok (.astore_n 3, 1) := by decide +kernel
theorem dL_speaker_13 : decode cL_speaker 13 = .ok (.iconst 1, 1) := by decide +kernel
theorem dL_speaker_14 : decode cL_speaker 14 = .ok (.ireturn, 1) := by decide +kernel
theorem dL_speaker_15 : decode cL_speaker 15 = .ok (.astore_n 3, 1) := by decide +kernel
theorem dL_speaker_16 : decode cL_speaker 16 = .ok (.iconst 2, 1) := by decide +kernel
theorem dL_speaker_17 : decode cL_speaker 17 = .ok (.ireturn, 1) := by decide +kernel
theorem dL_speaker_18 : decode cL_speaker 18 = .ok (.iconst 0, 1) := by decide +kernel
theorem dL_speaker_19 : decode cL_speaker 19 = .ok (.ireturn, 1) := by decide +kernel
theorem dL_challenge_0 : decode cL_challenge 0 = .ok (.aload_n 2, 1) := by decide +kernel
theorem dL_challenge_1 : decode cL_challenge 1 = .ok (.iconst 0, 1) := by decide +kernel
theorem dL_challenge_2 : decode cL_challenge 2 = .ok (.aload_n 0, 1) := by decide +kernel
theorem dL_challenge_3 : decode cL_challenge 3 = .ok (.iload_n 1, 1) := by decide +kernel
theorem dL_challenge_4 : decode cL_challenge 4 = .ok (.invokevirtual 70, 3) := by decide +kernel
theorem dL_challenge_7 : decode cL_challenge 7 = .ok (.i2l, 1) := by decide +kernel
theorem dL_challenge_8 : decode cL_challenge 8 = .ok (.lastore, 1) := by decide +kernel
theorem dL_challenge_9 : decode cL_challenge 9 = .ok (.goto 6, 3) := by decide +kernel
theorem dL_challenge_12 : decode cL_challenge 12 = .ok (.astore_n 3, 1) := by decide +kernel
theorem dL_challenge_13 : decode cL_challenge 13 = .ok (.iconst 1, 1) := by decide +kernel
theorem dL_challenge_14 : decode cL_challenge 14 = .ok (.ireturn, 1) := by decide +kernel
theorem dL_challenge_15 : decode cL_challenge 15 = .ok (.iconst 0, 1) := by decide +kernel
theorem dL_challenge_16 : decode cL_challenge 16 = .ok (.ireturn, 1) := by decide +kernel
theorem dL_hears_0 : decode cL_hears 0 = .ok (.aload_n 3, 1) := by decide +kernel
theorem dL_hears_1 : decode cL_hears 1 = .ok (.iconst 0, 1) := by decide +kernel
theorem dL_hears_2 : decode cL_hears 2 = .ok (.aload_n 0, 1) := by decide +kernel
theorem dL_hears_3 : decode cL_hears 3 = .ok (.iload_n 1, 1) := by decide +kernel
theorem dL_hears_4 : decode cL_hears 4 = .ok (.iload_n 2, 1) := by decide +kernel
theorem dL_hears_5 : decode cL_hears 5 = .ok (.invokevirtual 73, 3) := by decide +kernel
theorem dL_hears_8 : decode cL_hears 8 = .ok (.ifCond .eq 7, 3) := by decide +kernel
theorem dL_hears_11 : decode cL_hears 11 = .ok (.lconst 1, 1) := by decide +kernel
theorem dL_hears_12 : decode cL_hears 12 = .ok (.goto 4, 3) := by decide +kernel
theorem dL_hears_15 : decode cL_hears 15 = .ok (.lconst 0, 1) := by decide +kernel
theorem dL_hears_16 : decode cL_hears 16 = .ok (.lastore, 1) := by decide +kernel
theorem dL_hears_17 : decode cL_hears 17 = .ok (.goto 7, 3) := by decide +kernel
theorem dL_hears_20 : decode cL_hears 20 = .ok (.astore 4, 2) := by decide +kernel
theorem dL_hears_22 : decode cL_hears 22 = .ok (.iconst 1, 1) := by decide +kernel
theorem dL_hears_23 : decode cL_hears 23 = .ok (.ireturn, 1) := by decide +kernel
theorem dL_hears_24 : decode cL_hears 24 = .ok (.iconst 0, 1) := by decide +kernel
theorem dL_hears_25 : decode cL_hears 25 = .ok (.ireturn, 1) := by decide +kernel
theorem dL_talked_0 : decode cL_talked 0 = .ok (.aload_n 2, 1) := by decide +kernel
theorem dL_talked_1 : decode cL_talked 1 = .ok (.iconst 0, 1) := by decide +kernel
theorem dL_talked_2 : decode cL_talked 2 = .ok (.aload_n 0, 1) := by decide +kernel
theorem dL_talked_3 : decode cL_talked 3 = .ok (.iload_n 1, 1) := by decide +kernel
theorem dL_talked_4 : decode cL_talked 4 = .ok (.invokevirtual 77, 3) := by decide +kernel
theorem dL_talked_7 : decode cL_talked 7 = .ok (.lastore, 1) := by decide +kernel
theorem dL_talked_8 : decode cL_talked 8 = .ok (.goto 6, 3) := by decide +kernel
theorem dL_talked_11 : decode cL_talked 11 = .ok (.astore_n 3, 1) := by decide +kernel
theorem dL_talked_12 : decode cL_talked 12 = .ok (.iconst 1, 1) := by decide +kernel
theorem dL_talked_13 : decode cL_talked 13 = .ok (.ireturn, 1) := by decide +kernel
theorem dL_talked_14 : decode cL_talked 14 = .ok (.iconst 0, 1) := by decide +kernel
theorem dL_talked_15 : decode cL_talked 15 = .ok (.ireturn, 1) := by decide +kernel
theorem dL_turnAt_0 : decode cL_turnAt 0 = .ok (.aload_n 2, 1) := by decide +kernel
theorem dL_turnAt_1 : decode cL_turnAt 1 = .ok (.iconst 0, 1) := by decide +kernel
theorem dL_turnAt_2 : decode cL_turnAt 2 = .ok (.aload_n 0, 1) := by decide +kernel
theorem dL_turnAt_3 : decode cL_turnAt 3 = .ok (.iload_n 1, 1) := by decide +kernel
theorem dL_turnAt_4 : decode cL_turnAt 4 = .ok (.invokevirtual 81, 3) := by decide +kernel
theorem dL_turnAt_7 : decode cL_turnAt 7 = .ok (.i2l, 1) := by decide +kernel
theorem dL_turnAt_8 : decode cL_turnAt 8 = .ok (.lastore, 1) := by decide +kernel
theorem dL_turnAt_9 : decode cL_turnAt 9 = .ok (.goto 6, 3) := by decide +kernel
theorem dL_turnAt_12 : decode cL_turnAt 12 = .ok (.astore_n 3, 1) := by decide +kernel
theorem dL_turnAt_13 : decode cL_turnAt 13 = .ok (.iconst 1, 1) := by decide +kernel
theorem dL_turnAt_14 : decode cL_turnAt 14 = .ok (.ireturn, 1) := by decide +kernel
theorem dL_turnAt_15 : decode cL_turnAt 15 = .ok (.iconst 0, 1) := by decide +kernel
theorem dL_turnAt_16 : decode cL_turnAt 16 = .ok (.ireturn, 1) := by decide +kernel
theorem dL_layer_0 : decode cL_layer 0 = .ok (.aload_n 3, 1) := by decide +kernel
theorem dL_layer_1 : decode cL_layer 1 = .ok (.iconst 0, 1) := by decide +kernel
theorem dL_layer_2 : decode cL_layer 2 = .ok (.aload_n 0, 1) := by decide +kernel
theorem dL_layer_3 : decode cL_layer 3 = .ok (.iload_n 1, 1) := by decide +kernel
theorem dL_layer_4 : decode cL_layer 4 = .ok (.iload_n 2, 1) := by decide +kernel
theorem dL_layer_5 : decode cL_layer 5 = .ok (.invokevirtual 84, 3) := by decide +kernel
theorem dL_layer_8 : decode cL_layer 8 = .ok (.i2l, 1) := by decide +kernel
theorem dL_layer_9 : decode cL_layer 9 = .ok (.lastore, 1) := by decide +kernel
theorem dL_layer_10 : decode cL_layer 10 = .ok (.goto 7, 3) := by decide +kernel
theorem dL_layer_13 : decode cL_layer 13 = .ok (.astore 4, 2) := by decide +kernel
theorem dL_layer_15 : decode cL_layer 15 = .ok (.iconst 1, 1) := by decide +kernel
theorem dL_layer_16 : decode cL_layer 16 = .ok (.ireturn, 1) := by decide +kernel
theorem dL_layer_17 : decode cL_layer 17 = .ok (.iconst 0, 1) := by decide +kernel
theorem dL_layer_18 : decode cL_layer 18 = .ok (.ireturn, 1) := by decide +kernel
theorem dL_layerAnew_0 : decode cL_layerAnew 0 = .ok (.aload_n 3, 1) := by decide +kernel
theorem dL_layerAnew_1 : decode cL_layerAnew 1 = .ok (.iconst 0, 1) := by decide +kernel
theorem dL_layerAnew_2 : decode cL_layerAnew 2 = .ok (.aload_n 0, 1) := by decide +kernel
theorem dL_layerAnew_3 : decode cL_layerAnew 3 = .ok (.iload_n 1, 1) := by decide +kernel
theorem dL_layerAnew_4 : decode cL_layerAnew 4 = .ok (.iload_n 2, 1) := by decide +kernel
theorem dL_layerAnew_5 : decode cL_layerAnew 5 = .ok (.invokevirtual 87, 3) := by decide +kernel
theorem dL_layerAnew_8 : decode cL_layerAnew 8 = .ok (.i2l, 1) := by decide +kernel
theorem dL_layerAnew_9 : decode cL_layerAnew 9 = .ok (.lastore, 1) := by decide +kernel
theorem dL_layerAnew_10 : decode cL_layerAnew 10 = .ok (.goto 7, 3) := by decide +kernel
theorem dL_layerAnew_13 : decode cL_layerAnew 13 = .ok (.astore 4, 2) := by decide +kernel
theorem dL_layerAnew_15 : decode cL_layerAnew 15 = .ok (.iconst 1, 1) := by decide +kernel
theorem dL_layerAnew_16 : decode cL_layerAnew 16 = .ok (.ireturn, 1) := by decide +kernel
theorem dL_layerAnew_17 : decode cL_layerAnew 17 = .ok (.iconst 0, 1) := by decide +kernel
theorem dL_layerAnew_18 : decode cL_layerAnew 18 = .ok (.ireturn, 1) := by decide +kernel
theorem dL_used_0 : decode cL_used 0 = .ok (.aload_n 2, 1) := by decide +kernel
theorem dL_used_1 : decode cL_used 1 = .ok (.iconst 0, 1) := by decide +kernel
theorem dL_used_2 : decode cL_used 2 = .ok (.aload_n 0, 1) := by decide +kernel
theorem dL_used_3 : decode cL_used 3 = .ok (.iload_n 1, 1) := by decide +kernel
theorem dL_used_4 : decode cL_used 4 = .ok (.invokevirtual 90, 3) := by decide +kernel
theorem dL_used_7 : decode cL_used 7 = .ok (.i2l, 1) := by decide +kernel
theorem dL_used_8 : decode cL_used 8 = .ok (.lastore, 1) := by decide +kernel
theorem dL_used_9 : decode cL_used 9 = .ok (.goto 6, 3) := by decide +kernel
theorem dL_used_12 : decode cL_used 12 = .ok (.astore_n 3, 1) := by decide +kernel
theorem dL_used_13 : decode cL_used 13 = .ok (.iconst 1, 1) := by decide +kernel
theorem dL_used_14 : decode cL_used 14 = .ok (.ireturn, 1) := by decide +kernel
theorem dL_used_15 : decode cL_used 15 = .ok (.iconst 0, 1) := by decide +kernel
theorem dL_used_16 : decode cL_used 16 = .ok (.ireturn, 1) := by decide +kernel
theorem dL_viewers_0 : decode cL_viewers 0 = .ok (.aload_n 2, 1) := by decide +kernel
theorem dL_viewers_1 : decode cL_viewers 1 = .ok (.iconst 0, 1) := by decide +kernel
theorem dL_viewers_2 : decode cL_viewers 2 = .ok (.aload_n 0, 1) := by decide +kernel
theorem dL_viewers_3 : decode cL_viewers 3 = .ok (.iload_n 1, 1) := by decide +kernel
theorem dL_viewers_4 : decode cL_viewers 4 = .ok (.invokevirtual 93, 3) := by decide +kernel
theorem dL_viewers_7 : decode cL_viewers 7 = .ok (.i2l, 1) := by decide +kernel
theorem dL_viewers_8 : decode cL_viewers 8 = .ok (.lastore, 1) := by decide +kernel
theorem dL_viewers_9 : decode cL_viewers 9 = .ok (.goto 6, 3) := by decide +kernel
theorem dL_viewers_12 : decode cL_viewers 12 = .ok (.astore_n 3, 1) := by decide +kernel
theorem dL_viewers_13 : decode cL_viewers 13 = .ok (.iconst 1, 1) := by decide +kernel
theorem dL_viewers_14 : decode cL_viewers 14 = .ok (.ireturn, 1) := by decide +kernel
theorem dL_viewers_15 : decode cL_viewers 15 = .ok (.iconst 0, 1) := by decide +kernel
theorem dL_viewers_16 : decode cL_viewers 16 = .ok (.ireturn, 1) := by decide +kernel
theorem dL_meanLayer_0 : decode cL_meanLayer 0 = .ok (.aload_n 1, 1) := by decide +kernel
theorem dL_meanLayer_1 : decode cL_meanLayer 1 = .ok (.iconst 0, 1) := by decide +kernel
theorem dL_meanLayer_2 : decode cL_meanLayer 2 = .ok (.aload_n 0, 1) := by decide +kernel
theorem dL_meanLayer_3 : decode cL_meanLayer 3 = .ok (.invokevirtual 96, 3) := by decide +kernel
theorem dL_meanLayer_6 : decode cL_meanLayer 6 = .ok (.dastore, 1) := by decide +kernel
theorem dL_meanLayer_7 : decode cL_meanLayer 7 = .ok (.goto 6, 3) := by decide +kernel
theorem dL_meanLayer_10 : decode cL_meanLayer 10 = .ok (.astore_n 2, 1) := by decide +kernel
theorem dL_meanLayer_11 : decode cL_meanLayer 11 = .ok (.iconst 1, 1) := by decide +kernel
theorem dL_meanLayer_12 : decode cL_meanLayer 12 = .ok (.ireturn, 1) := by decide +kernel
theorem dL_meanLayer_13 : decode cL_meanLayer 13 = .ok (.iconst 0, 1) := by decide +kernel
theorem dL_meanLayer_14 : decode cL_meanLayer 14 = .ok (.ireturn, 1) := by decide +kernel
theorem dL_usedShare_0 : decode cL_usedShare 0 = .ok (.aload_n 1, 1) := by decide +kernel
theorem dL_usedShare_1 : decode cL_usedShare 1 = .ok (.iconst 0, 1) := by decide +kernel
theorem dL_usedShare_2 : decode cL_usedShare 2 = .ok (.aload_n 0, 1) := by decide +kernel
theorem dL_usedShare_3 : decode cL_usedShare 3 = .ok (.invokevirtual 102, 3) := by decide +kernel
theorem dL_usedShare_6 : decode cL_usedShare 6 = .ok (.f2d, 1) := by decide +kernel
theorem dL_usedShare_7 : decode cL_usedShare 7 = .ok (.dastore, 1) := by decide +kernel
theorem dL_usedShare_8 : decode cL_usedShare 8 = .ok (.goto 6, 3) := by decide +kernel
theorem dL_usedShare_11 : decode cL_usedShare 11 = .ok (.astore_n 2, 1) := by decide +kernel
theorem dL_usedShare_12 : decode cL_usedShare 12 = .ok (.iconst 1, 1) := by decide +kernel
theorem dL_usedShare_13 : decode cL_usedShare 13 = .ok (.ireturn, 1) := by decide +kernel
theorem dL_usedShare_14 : decode cL_usedShare 14 = .ok (.iconst 0, 1) := by decide +kernel
theorem dL_usedShare_15 : decode cL_usedShare 15 = .ok (.ireturn, 1) := by decide +kernel
theorem dL_record_0 : decode cL_record 0 = .ok (.aload_n 2, 1) := by decide +kernel
theorem dL_record_1 : decode cL_record 1 = .ok (.iconst 0, 1) := by decide +kernel
theorem dL_record_2 : decode cL_record 2 = .ok (.aload_n 0, 1) := by decide +kernel
theorem dL_record_3 : decode cL_record 3 = .ok (.iload_n 1, 1) := by decide +kernel
theorem dL_record_4 : decode cL_record 4 = .ok (.invokevirtual 106, 3) := by decide +kernel
theorem dL_record_7 : decode cL_record 7 = .ok (.i2l, 1) := by decide +kernel
theorem dL_record_8 : decode cL_record 8 = .ok (.lastore, 1) := by decide +kernel
theorem dL_record_9 : decode cL_record 9 = .ok (.goto 9, 3) := by decide +kernel
theorem dL_record_12 : decode cL_record 12 = .ok (.astore_n 3, 1) := by decide +kernel
theorem dL_record_13 : decode cL_record 13 = .ok (.iconst 1, 1) := by decide +kernel
theorem dL_record_14 : decode cL_record 14 = .ok (.ireturn, 1) := by decide +kernel
theorem dL_record_15 : decode cL_record 15 = .ok (.astore_n 3, 1) := by decide +kernel
theorem dL_record_16 : decode cL_record 16 = .ok (.iconst 2, 1) := by decide +kernel
theorem dL_record_17 : decode cL_record 17 = .ok (.ireturn, 1) := by decide +kernel
theorem dL_record_18 : decode cL_record 18 = .ok (.iconst 0, 1) := by decide +kernel
theorem dL_record_19 : decode cL_record 19 = .ok (.ireturn, 1) := by decide +kernel
theorem dL_stop_0 : decode cL_stop 0 = .ok (.aload_n 2, 1) := by decide +kernel
theorem dL_stop_1 : decode cL_stop 1 = .ok (.iconst 0, 1) := by decide +kernel
theorem dL_stop_2 : decode cL_stop 2 = .ok (.aload_n 0, 1) := by decide +kernel
theorem dL_stop_3 : decode cL_stop 3 = .ok (.iload_n 1, 1) := by decide +kernel
theorem dL_stop_4 : decode cL_stop 4 = .ok (.invokevirtual 109, 3) := by decide +kernel
theorem dL_stop_7 : decode cL_stop 7 = .ok (.i2l, 1) := by decide +kernel
theorem dL_stop_8 : decode cL_stop 8 = .ok (.lastore, 1) := by decide +kernel
theorem dL_stop_9 : decode cL_stop 9 = .ok (.goto 9, 3) := by decide +kernel
theorem dL_stop_12 : decode cL_stop 12 = .ok (.astore_n 3, 1) := by decide +kernel
theorem dL_stop_13 : decode cL_stop 13 = .ok (.iconst 1, 1) := by decide +kernel
theorem dL_stop_14 : decode cL_stop 14 = .ok (.ireturn, 1) := by decide +kernel
theorem dL_stop_15 : decode cL_stop 15 = .ok (.astore_n 3, 1) := by decide +kernel
theorem dL_stop_16 : decode cL_stop 16 = .ok (.iconst 2, 1) := by decide +kernel
theorem dL_stop_17 : decode cL_stop 17 = .ok (.ireturn, 1) := by decide +kernel
theorem dL_stop_18 : decode cL_stop 18 = .ok (.iconst 0, 1) := by decide +kernel
theorem dL_stop_19 : decode cL_stop 19 = .ok (.ireturn, 1) := by decide +kernel
theorem dL_stateOf_0 : decode cL_stateOf 0 = .ok (.aload_n 2, 1) := by decide +kernel
theorem dL_stateOf_1 : decode cL_stateOf 1 = .ok (.iconst 0, 1) := by decide +kernel
theorem dL_stateOf_2 : decode cL_stateOf 2 = .ok (.aload_n 0, 1) := by decide +kernel
theorem dL_stateOf_3 : decode cL_stateOf 3 = .ok (.iload_n 1, 1) := by decide +kernel
theorem dL_stateOf_4 : decode cL_stateOf 4 = .ok (.invokevirtual 112, 3) := by decide +kernel
theorem dL_stateOf_7 : decode cL_stateOf 7 = .ok (.i2l, 1) := by decide +kernel
theorem dL_stateOf_8 : decode cL_stateOf 8 = .ok (.lastore, 1) := by decide +kernel
theorem dL_stateOf_9 : decode cL_stateOf 9 = .ok (.goto 6, 3) := by decide +kernel
theorem dL_stateOf_12 : decode cL_stateOf 12 = .ok (.astore_n 3, 1) := by decide +kernel
theorem dL_stateOf_13 : decode cL_stateOf 13 = .ok (.iconst 1, 1) := by decide +kernel
theorem dL_stateOf_14 : decode cL_stateOf 14 = .ok (.ireturn, 1) := by decide +kernel
theorem dL_stateOf_15 : decode cL_stateOf 15 = .ok (.iconst 0, 1) := by decide +kernel
theorem dL_stateOf_16 : decode cL_stateOf 16 = .ok (.ireturn, 1) := by decide +kernel
theorem dL_follows_0 : decode cL_follows 0 = .ok (.aload_n 2, 1) := by decide +kernel
theorem dL_follows_1 : decode cL_follows 1 = .ok (.iconst 0, 1) := by decide +kernel
theorem dL_follows_2 : decode cL_follows 2 = .ok (.aload_n 0, 1) := by decide +kernel
theorem dL_follows_3 : decode cL_follows 3 = .ok (.iload_n 1, 1) := by decide +kernel
theorem dL_follows_4 : decode cL_follows 4 = .ok (.invokevirtual 116, 3) := by decide +kernel
theorem dL_follows_7 : decode cL_follows 7 = .ok (.i2l, 1) := by decide +kernel
theorem dL_follows_8 : decode cL_follows 8 = .ok (.lastore, 1) := by decide +kernel
theorem dL_follows_9 : decode cL_follows 9 = .ok (.goto 9, 3) := by decide +kernel
theorem dL_follows_12 : decode cL_follows 12 = .ok (.astore_n 3, 1) := by decide +kernel
theorem dL_follows_13 : decode cL_follows 13 = .ok (.iconst 1, 1) := by decide +kernel
theorem dL_follows_14 : decode cL_follows 14 = .ok (.ireturn, 1) := by decide +kernel
theorem dL_follows_15 : decode cL_follows 15 = .ok (.astore_n 3, 1) := by decide +kernel
theorem dL_follows_16 : decode cL_follows 16 = .ok (.iconst 2, 1) := by decide +kernel
theorem dL_follows_17 : decode cL_follows 17 = .ok (.ireturn, 1) := by decide +kernel
theorem dL_follows_18 : decode cL_follows 18 = .ok (.iconst 0, 1) := by decide +kernel
theorem dL_follows_19 : decode cL_follows 19 = .ok (.ireturn, 1) := by decide +kernel
theorem dL_noteAt_0 : decode cL_noteAt 0 = .ok (.aload_n 3, 1) := by decide +kernel
theorem dL_noteAt_1 : decode cL_noteAt 1 = .ok (.iconst 0, 1) := by decide +kernel
theorem dL_noteAt_2 : decode cL_noteAt 2 = .ok (.aload_n 0, 1) := by decide +kernel
theorem dL_noteAt_3 : decode cL_noteAt 3 = .ok (.iload_n 1, 1) := by decide +kernel
theorem dL_noteAt_4 : decode cL_noteAt 4 = .ok (.iload_n 2, 1) := by decide +kernel
theorem dL_noteAt_5 : decode cL_noteAt 5 = .ok (.invokevirtual 119, 3) := by decide +kernel
theorem dL_noteAt_8 : decode cL_noteAt 8 = .ok (.i2l, 1) := by decide +kernel
theorem dL_noteAt_9 : decode cL_noteAt 9 = .ok (.lastore, 1) := by decide +kernel
theorem dL_noteAt_10 : decode cL_noteAt 10 = .ok (.goto 11, 3) := by decide +kernel
theorem dL_noteAt_13 : decode cL_noteAt 13 = .ok (.astore 4, 2) := by decide +kernel
theorem dL_noteAt_15 : decode cL_noteAt 15 = .ok (.iconst 1, 1) := by decide +kernel
theorem dL_noteAt_16 : decode cL_noteAt 16 = .ok (.ireturn, 1) := by decide +kernel
theorem dL_noteAt_17 : decode cL_noteAt 17 = .ok (.astore 4, 2) := by decide +kernel
theorem dL_noteAt_19 : decode cL_noteAt 19 = .ok (.iconst 2, 1) := by decide +kernel
theorem dL_noteAt_20 : decode cL_noteAt 20 = .ok (.ireturn, 1) := by decide +kernel
theorem dL_noteAt_21 : decode cL_noteAt 21 = .ok (.iconst 0, 1) := by decide +kernel
theorem dL_noteAt_22 : decode cL_noteAt 22 = .ok (.ireturn, 1) := by decide +kernel
