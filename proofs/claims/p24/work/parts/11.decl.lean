theorem dL_cell_0 : decode cL_cell 0 = .ok (.iload_n 1, 1) := by decide +kernel
theorem dL_cell_1 : decode cL_cell 1 = .ok (.aload_n 0, 1) := by decide +kernel
theorem dL_cell_2 : decode cL_cell 2 = .ok (.arraylength, 1) := by decide +kernel
theorem dL_cell_3 : decode cL_cell 3 = .ok (.if_icmp .ge 9, 3) := by decide +kernel
theorem dL_cell_6 : decode cL_cell 6 = .ok (.aload_n 0, 1) := by decide +kernel
theorem dL_cell_7 : decode cL_cell 7 = .ok (.iload_n 1, 1) := by decide +kernel
theorem dL_cell_8 : decode cL_cell 8 = .ok (.iaload, 1) := by decide +kernel
theorem dL_cell_9 : decode cL_cell 9 = .ok (.goto 10, 3) := by decide +kernel
theorem dL_cell_12 : decode cL_cell 12 = .ok (.ldc 7, 2) := by decide +kernel
theorem dL_cell_14 : decode cL_cell 14 = .ok (.iload_n 1, 1) := by decide +kernel
theorem dL_cell_15 : decode cL_cell 15 = .ok (.bipush 8, 2) := by decide +kernel
theorem dL_cell_17 : decode cL_cell 17 = .ok (.iadd, 1) := by decide +kernel
theorem dL_cell_18 : decode cL_cell 18 = .ok (.imul, 1) := by decide +kernel
theorem dL_cell_19 : decode cL_cell 19 = .ok (.ireturn, 1) := by decide +kernel
theorem dL_low_0 : decode cL_low 0 = .ok (.iload_n 0, 1) := by decide +kernel
theorem dL_low_1 : decode cL_low 1 = .ok (.iconst 1, 1) := by decide +kernel
theorem dL_low_2 : decode cL_low 2 = .ok (.iushr, 1) := by decide +kernel
theorem dL_low_3 : decode cL_low 3 = .ok (.iload_n 1, 1) := by decide +kernel
theorem dL_low_4 : decode cL_low 4 = .ok (.irem, 1) := by decide +kernel
theorem dL_low_5 : decode cL_low 5 = .ok (.ireturn, 1) := by decide +kernel
theorem dL_wish_0 : decode cL_wish 0 = .ok (.aload_n 0, 1) := by decide +kernel
theorem dL_wish_1 : decode cL_wish 1 = .ok (.iload_n 1, 1) := by decide +kernel
theorem dL_wish_2 : decode cL_wish 2 = .ok (.iload_n 2, 1) := by decide +kernel
theorem dL_wish_3 : decode cL_wish 3 = .ok (.iload_n 3, 1) := by decide +kernel
theorem dL_wish_4 : decode cL_wish 4 = .ok (.invokevirtual 8, 3) := by decide +kernel
theorem dL_wish_7 : decode cL_wish 7 = .ok (.istore 4, 2) := by decide +kernel
theorem dL_wish_9 : decode cL_wish 9 = .ok (.goto 13, 3) := by decide +kernel
theorem dL_wish_12 : decode cL_wish 12 = .ok (.astore 5, 2) := by decide +kernel
theorem dL_wish_14 : decode cL_wish 14 = .ok (.bipush (-71), 2) := by decide +kernel
theorem dL_wish_16 : decode cL_wish 16 = .ok (.ireturn, 1) := by decide +kernel
theorem dL_wish_17 : decode cL_wish 17 = .ok (.astore 5, 2) := by decide +kernel
theorem dL_wish_19 : decode cL_wish 19 = .ok (.bipush (-72), 2) := by decide +kernel
theorem dL_wish_21 : decode cL_wish 21 = .ok (.ireturn, 1) := by decide +kernel
theorem dL_wish_22 : decode cL_wish 22 = .ok (.iload 4, 2) := by decide +kernel
theorem dL_wish_24 : decode cL_wish 24 = .ok (.ireturn, 1) := by decide +kernel
theorem dL_allow_0 : decode cL_allow 0 = .ok (.aload_n 0, 1) := by decide +kernel
theorem dL_allow_1 : decode cL_allow 1 = .ok (.iload_n 1, 1) := by decide +kernel
theorem dL_allow_2 : decode cL_allow 2 = .ok (.iload_n 2, 1) := by decide +kernel
theorem dL_allow_3 : decode cL_allow 3 = .ok (.iload_n 3, 1) := by decide +kernel
theorem dL_allow_4 : decode cL_allow 4 = .ok (.invokevirtual 18, 3) := by decide +kernel
theorem dL_allow_7 : decode cL_allow 7 = .ok (.istore 4, 2) := by decide +kernel
theorem dL_allow_9 : decode cL_allow 9 = .ok (.goto 13, 3) := by decide +kernel
theorem dL_allow_12 : decode cL_allow 12 = .ok (.astore 5, 2) := by decide +kernel
theorem dL_allow_14 : decode cL_allow 14 = .ok (.bipush (-71), 2) := by decide +kernel
theorem dL_allow_16 : decode cL_allow 16 = .ok (.ireturn, 1) := by decide +kernel
theorem dL_allow_17 : decode cL_allow 17 = .ok (.astore 5, 2) := by decide +kernel
theorem dL_allow_19 : decode cL_allow 19 = .ok (.bipush (-72), 2) := by decide +kernel
theorem dL_allow_21 : decode cL_allow 21 = .ok (.ireturn, 1) := by decide +kernel
theorem dL_allow_22 : decode cL_allow 22 = .ok (.iload 4, 2) := by decide +kernel
theorem dL_allow_24 : decode cL_allow 24 = .ok (.ireturn, 1) := by decide +kernel
theorem dL_setsMagic_0 : decode cL_setsMagic 0 = .ok (.aload_n 0, 1) := by decide +kernel
theorem dL_setsMagic_1 : decode cL_setsMagic 1 = .ok (.iload_n 1, 1) := by decide +kernel
theorem dL_setsMagic_2 : decode cL_setsMagic 2 = .ok (.iload_n 2, 1) := by decide +kernel
theorem dL_setsMagic_3 : decode cL_setsMagic 3 = .ok (.invokevirtual 21, 3) := by decide +kernel
theorem dL_setsMagic_6 : decode cL_setsMagic 6 = .ok (.iload_n 3, 1) := by decide +kernel
theorem dL_setsMagic_7 : decode cL_setsMagic 7 = .ok (.if_icmp .ne 7, 3) := by decide +kernel
theorem dL_setsMagic_10 : decode cL_setsMagic 10 = .ok (.iconst 1, 1) := by decide +kernel
theorem dL_setsMagic_11 : decode cL_setsMagic 11 = .ok (.goto 4, 3) := by decide +kernel
theorem dL_setsMagic_14 : decode cL_setsMagic 14 = .ok (.iconst 0, 1) := by decide +kernel
theorem dL_setsMagic_15 : decode cL_setsMagic 15 = .ok (.istore 4, 2) := by decide +kernel
theorem dL_setsMagic_17 : decode cL_setsMagic 17 = .ok (.goto 7, 3) := by decide +kernel
theorem dL_setsMagic_20 : decode cL_setsMagic 20 = .ok (.astore 5, 2) := by decide +kernel
theorem dL_setsMagic_22 : decode cL_setsMagic 22 = .ok (.iconst 0, 1) := by decide +kernel
theorem dL_setsMagic_23 : decode cL_setsMagic 23 = .ok (.ireturn, 1) := by decide +kernel
theorem dL_setsMagic_24 : decode cL_setsMagic 24 = .ok (.iload 4, 2) := by decide +kernel
theorem dL_setsMagic_26 : decode cL_setsMagic 26 = .ok (.ireturn, 1) := by decide +kernel
theorem dL_open_0 : decode cL_open 0 = .ok (.aload_n 0, 1) := by decide +kernel
theorem dL_open_1 : decode cL_open 1 = .ok (.iload_n 1, 1) := by decide +kernel
theorem dL_open_2 : decode cL_open 2 = .ok (.invokevirtual 25, 3) := by decide +kernel
theorem dL_open_5 : decode cL_open 5 = .ok (.istore_n 2, 1) := by decide +kernel
theorem dL_open_6 : decode cL_open 6 = .ok (.goto 11, 3) := by decide +kernel
theorem dL_open_9 : decode cL_open 9 = .ok (.astore_n 3, 1) := by decide +kernel
theorem dL_open_10 : decode cL_open 10 = .ok (.bipush (-71), 2) := by decide +kernel
theorem dL_open_12 : decode cL_open 12 = .ok (.ireturn, 1) := by decide +kernel
theorem dL_open_13 : decode cL_open 13 = .ok (.astore_n 3, 1) := by decide +kernel
theorem dL_open_14 : decode cL_open 14 = .ok (.bipush (-73), 2) := by decide +kernel
theorem dL_open_16 : decode cL_open 16 = .ok (.ireturn, 1) := by decide +kernel
theorem dL_open_17 : decode cL_open 17 = .ok (.iload_n 2, 1) := by decide +kernel
theorem dL_open_18 : decode cL_open 18 = .ok (.ireturn, 1) := by decide +kernel
theorem dL_close_0 : decode cL_close 0 = .ok (.aload_n 0, 1) := by decide +kernel
theorem dL_close_1 : decode cL_close 1 = .ok (.iload_n 1, 1) := by decide +kernel
theorem dL_close_2 : decode cL_close 2 = .ok (.invokevirtual 31, 3) := by decide +kernel
theorem dL_close_5 : decode cL_close 5 = .ok (.istore_n 2, 1) := by decide +kernel
theorem dL_close_6 : decode cL_close 6 = .ok (.goto 11, 3) := by decide +kernel
theorem dL_close_9 : decode cL_close 9 = .ok (.astore_n 3, 1) := by decide +kernel
theorem dL_close_10 : decode cL_close 10 = .ok (.bipush (-71), 2) := by decide +kernel
theorem dL_close_12 : decode cL_close 12 = .ok (.ireturn, 1) := by decide +kernel
theorem dL_close_13 : decode cL_close 13 = .ok (.astore_n 3, 1) := by decide +kernel
theorem dL_close_14 : decode cL_close 14 = .ok (.bipush (-73), 2) := by decide +kernel
theorem dL_close_16 : decode cL_close 16 = .ok (.ireturn, 1) := by decide +kernel
theorem dL_close_17 : decode cL_close 17 = .ok (.iload_n 2, 1) := by decide +kernel
theorem dL_close_18 : decode cL_close 18 = .ok (.ireturn, 1) := by decide +kernel
theorem dL_deliver_0 : decode cL_deliver 0 = .ok (.aload_n 0, 1) := by decide +kernel
theorem dL_deliver_1 : decode cL_deliver 1 = .ok (.iload_n 1, 1) := by decide +kernel
theorem dL_deliver_2 : decode cL_deliver 2 = .ok (.invokevirtual 34, 3) := by decide +kernel
theorem dL_deliver_5 : decode cL_deliver 5 = .ok (.istore_n 2, 1) := by decide +kernel
theorem dL_deliver_6 : decode cL_deliver 6 = .ok (.goto 11, 3) := by decide +kernel
theorem dL_deliver_9 : decode cL_deliver 9 = .ok (.astore_n 3, 1) := by decide +kernel
theorem dL_deliver_10 : decode cL_deliver 10 = .ok (.bipush (-71), 2) := by decide +kernel
theorem dL_deliver_12 : decode cL_deliver 12 = .ok (.ireturn, 1) := by decide +kernel
theorem dL_deliver_13 : decode cL_deliver 13 = .ok (.astore_n 3, 1) := by decide +kernel
theorem dL_deliver_14 : decode cL_deliver 14 = .ok (.bipush (-73), 2) := by decide +kernel
theorem dL_deliver_16 : decode cL_deliver 16 = .ok (.ireturn, 1) := by decide +kernel
theorem dL_deliver_17 : decode cL_deliver 17 = .ok (.iload_n 2, 1) := by decide +kernel
theorem dL_deliver_18 : decode cL_deliver 18 = .ok (.ireturn, 1) := by decide +kernel
theorem dL_lose_0 : decode cL_lose 0 = .ok (.aload_n 0, 1) := by decide +kernel
theorem dL_lose_1 : decode cL_lose 1 = .ok (.iload_n 1, 1) := by decide +kernel
theorem dL_lose_2 : decode cL_lose 2 = .ok (.invokevirtual 37, 3) := by decide +kernel
theorem dL_lose_5 : decode cL_lose 5 = .ok (.istore_n 2, 1) := by decide +kernel
theorem dL_lose_6 : decode cL_lose 6 = .ok (.goto 11, 3) := by decide +kernel
theorem dL_lose_9 : decode cL_lose 9 = .ok (.astore_n 3, 1) := by decide +kernel
theorem dL_lose_10 : decode cL_lose 10 = .ok (.bipush (-71), 2) := by decide +kernel
theorem dL_lose_12 : decode cL_lose 12 = .ok (.ireturn, 1) := by decide +kernel
theorem dL_lose_13 : decode cL_lose 13 = .ok (.astore_n 3, 1) := by decide +kernel
theorem dL_lose_14 : decode cL_lose 14 = .ok (.bipush (-73), 2) := by decide +kernel
theorem dL_lose_16 : decode cL_lose 16 = .ok (.ireturn, 1) := by decide +kernel
theorem dL_lose_17 : decode cL_lose 17 = .ok (.iload_n 2, 1) := by decide +kernel
theorem dL_lose_18 : decode cL_lose 18 = .ok (.ireturn, 1) := by decide +kernel
theorem dL_loop_0 : decode cL_loop 0 = .ok (.aload_n 0, 1) := by decide +kernel
theorem dL_loop_1 : decode cL_loop 1 = .ok (.iload_n 1, 1) := by decide +kernel
theorem dL_loop_2 : decode cL_loop 2 = .ok (.invokevirtual 40, 3) := by decide +kernel
theorem dL_loop_5 : decode cL_loop 5 = .ok (.istore_n 2, 1) := by decide +kernel
theorem dL_loop_6 : decode cL_loop 6 = .ok (.goto 11, 3) := by decide +kernel
theorem dL_loop_9 : decode cL_loop 9 = .ok (.astore_n 3, 1) := by decide +kernel
theorem dL_loop_10 : decode cL_loop 10 = .ok (.bipush (-71), 2) := by decide +kernel
theorem dL_loop_12 : decode cL_loop 12 = .ok (.ireturn, 1) := by decide +kernel
theorem dL_loop_13 : decode cL_loop 13 = .ok (.astore_n 3, 1) := by decide +kernel
theorem dL_loop_14 : decode cL_loop 14 = .ok (.bipush (-73), 2) := by decide +kernel
theorem dL_loop_16 : decode cL_loop 16 = .ok (.ireturn, 1) := by decide +kernel
theorem dL_loop_17 : decode cL_loop 17 = .ok (.iload_n 2, 1) := by decide +kernel
theorem dL_loop_18 : decode cL_loop 18 = .ok (.ireturn, 1) := by decide +kernel
theorem dL_pass_0 : decode cL_pass 0 = .ok (.aload_n 0, 1) := by decide +kernel
theorem dL_pass_1 : decode cL_pass 1 = .ok (.iload_n 1, 1) := by decide +kernel
theorem dL_pass_2 : decode cL_pass 2 = .ok (.invokevirtual 43, 3) := by decide +kernel
theorem dL_pass_5 : decode cL_pass 5 = .ok (.istore_n 2, 1) := by decide +kernel
theorem dL_pass_6 : decode cL_pass 6 = .ok (.goto 7, 3) := by decide +kernel
theorem dL_pass_9 : decode cL_pass 9 = .ok (.astore_n 3, 1) := by decide +kernel
theorem dL_pass_10 : decode cL_pass 10 = .ok (.bipush (-72), 2) := by decide +kernel
theorem dL_pass_12 : decode cL_pass 12 = .ok (.ireturn, 1) := by decide +kernel
theorem dL_pass_13 : decode cL_pass 13 = .ok (.iload_n 2, 1) := by decide +kernel
theorem dL_pass_14 : decode cL_pass 14 = .ok (.ireturn, 1) := by decide +kernel
theorem dL_stateOf_0 : decode cL_stateOf 0 = .ok (.aload_n 0, 1) := by decide +kernel
theorem dL_stateOf_1 : decode cL_stateOf 1 = .ok (.iload_n 1, 1) := by decide +kernel
theorem dL_stateOf_2 : decode cL_stateOf 2 = .ok (.invokevirtual 46, 3) := by decide +kernel
theorem dL_stateOf_5 : decode cL_stateOf 5 = .ok (.istore_n 2, 1) := by decide +kernel
theorem dL_stateOf_6 : decode cL_stateOf 6 = .ok (.goto 7, 3) := by decide +kernel
theorem dL_stateOf_9 : decode cL_stateOf 9 = .ok (.astore_n 3, 1) := by decide +kernel
theorem dL_stateOf_10 : decode cL_stateOf 10 = .ok (.bipush (-71), 2) := by decide +kernel
theorem dL_stateOf_12 : decode cL_stateOf 12 = .ok (.ireturn, 1) := by decide +kernel
theorem dL_stateOf_13 : decode cL_stateOf 13 = .ok (.iload_n 2, 1) := by decide +kernel
theorem dL_stateOf_14 : decode cL_stateOf 14 = .ok (.ireturn, 1) := by decide +kernel
theorem dL_asked_0 : decode cL_asked 0 = .ok (.aload_n 0, 1) := by decide +kernel
theorem dL_asked_1 : decode cL_asked 1 = .ok (.iload_n 1, 1) := by decide +kernel
theorem dL_asked_2 : decode cL_asked 2 = .ok (.iload_n 2, 1) := by decide +kernel
theorem dL_asked_3 : decode cL_asked 3 = .ok (.invokevirtual 49, 3) := by decide +kernel
theorem dL_asked_6 : decode cL_asked 6 = .ok (.istore_n 3, 1) := by decide +kernel
theorem dL_asked_7 : decode cL_asked 7 = .ok (.goto 8, 3) := by decide +kernel
theorem dL_asked_10 : decode cL_asked 10 = .ok (.astore 4, 2) := by decide +kernel
theorem dL_asked_12 : decode cL_asked 12 = .ok (.bipush (-71), 2) := by decide +kernel
theorem dL_asked_14 : decode cL_asked 14 = .ok (.ireturn, 1) := by decide +kernel
theorem dL_asked_15 : decode cL_asked 15 = .ok (.iload_n 3, 1) := by decide +kernel
theorem dL_asked_16 : decode cL_asked 16 = .ok (.ireturn, 1) := by decide +kernel
theorem dL_underWay_0 : decode cL_underWay 0 = .ok (.aload_n 0, 1) := by decide +kernel
theorem dL_underWay_1 : decode cL_underWay 1 = .ok (.iload_n 1, 1) := by decide +kernel
theorem dL_underWay_2 : decode cL_underWay 2 = .ok (.invokevirtual 52, 3) := by decide +kernel
theorem dL_underWay_5 : decode cL_underWay 5 = .ok (.istore_n 2, 1) := by decide +kernel
theorem dL_underWay_6 : decode cL_underWay 6 = .ok (.goto 7, 3) := by decide +kernel
theorem dL_underWay_9 : decode cL_underWay 9 = .ok (.astore_n 3, 1) := by decide +kernel
theorem dL_underWay_10 : decode cL_underWay 10 = .ok (.bipush (-71), 2) := by decide +kernel
theorem dL_underWay_12 : decode cL_underWay 12 = .ok (.ireturn, 1) := by decide +kernel
theorem dL_underWay_13 : decode cL_underWay 13 = .ok (.iload_n 2, 1) := by decide +kernel
theorem dL_underWay_14 : decode cL_underWay 14 = .ok (.ireturn, 1) := by decide +kernel
theorem dL_send_0 : decode cL_send 0 = .ok (.aload_n 0, 1) := by decide +kernel
theorem dL_send_1 : decode cL_send 1 = .ok (.iload_n 1, 1) := by decide +kernel
theorem dL_send_2 : decode cL_send 2 = .ok (.invokevirtual 55, 3) := by decide +kernel
theorem dL_send_5 : decode cL_send 5 = .ok (.istore_n 2, 1) := by decide +kernel
theorem dL_send_6 : decode cL_send 6 = .ok (.goto 11, 3) := by decide +kernel
theorem dL_send_9 : decode cL_send 9 = .ok (.astore_n 3, 1) := by decide +kernel
theorem dL_send_10 : decode cL_send 10 = .ok (.bipush (-72), 2) := by decide +kernel
theorem dL_send_12 : decode cL_send 12 = .ok (.ireturn, 1) := by decide +kernel
theorem dL_send_13 : decode cL_send 13 = .ok (.astore_n 3, 1) := by decide +kernel
theorem dL_send_14 : decode cL_send 14 = .ok (.bipush (-73), 2) := by decide +kernel
theorem dL_send_16 : decode cL_send 16 = .ok (.ireturn, 1) := by decide +kernel
theorem dL_send_17 : decode cL_send 17 = .ok (.iload_n 2, 1) := by decide +kernel
theorem dL_send_18 : decode cL_send 18 = .ok (.ireturn, 1) := by decide +kernel
theorem dL_come_0 : decode cL_come 0 = .ok (.aload_n 0, 1) := by decide +kernel
theorem dL_come_1 : decode cL_come 1 = .ok (.iload_n 1, 1) := by decide +kernel
theorem dL_come_2 : decode cL_come 2 = .ok (.invokevirtual 58, 3) := by decide +kernel
theorem dL_come_5 : decode cL_come 5 = .ok (.istore_n 2, 1) := by decide +kernel
theorem dL_come_6 : decode cL_come 6 = .ok (.goto 11, 3) := by decide +kernel
theorem dL_come_9 : decode cL_come 9 = .ok (.astore_n 3, 1) := by decide +kernel
theorem dL_come_10 : decode cL_come 10 = .ok (.bipush (-71), 2) := by decide +kernel
theorem dL_come_12 : decode cL_come 12 = .ok (.ireturn, 1) := by decide +kernel
theorem dL_come_13 : decode cL_come 13 = .ok (.astore_n 3, 1) := by decide +kernel
theorem dL_come_14 : decode cL_come 14 = .ok (.bipush (-73), 2) := by decide +kernel
theorem dL_come_16 : decode cL_come 16 = .ok (.ireturn, 1) := by decide +kernel
theorem dL_come_17 : decode cL_come 17 = .ok (.iload_n 2, 1) := by decide +kernel
theorem dL_come_18 : decode cL_come 18 = .ok (.ireturn, 1) := by decide +kernel
theorem dL_drop_0 : decode cL_drop 0 = .ok (.aload_n 0, 1) := by decide +kernel
theorem dL_drop_1 : decode cL_drop 1 = .ok (.iload_n 1, 1) := by decide +kernel
theorem dL_drop_2 : decode cL_drop 2 = .ok (.invokevirtual 61, 3) := by decide +kernel
theorem dL_drop_5 : decode cL_drop 5 = .ok (.istore_n 2, 1) := by decide +kernel
theorem dL_drop_6 : decode cL_drop 6 = .ok (.goto 11, 3) := by decide +kernel
theorem dL_drop_9 : decode cL_drop 9 = .ok (.astore_n 3, 1) := by decide +kernel
theorem dL_drop_10 : decode cL_drop 10 = .ok (.bipush (-71), 2) := by decide +kernel
theorem dL_drop_12 : decode cL_drop 12 = .ok (.ireturn, 1) := by decide +kernel
theorem dL_drop_13 : decode cL_drop 13 = .ok (.astore_n 3, 1) := by decide +kernel
theorem dL_drop_14 : decode cL_drop 14 = .ok (.bipush (-73), 2) := by decide +kernel
theorem dL_drop_16 : decode cL_drop 16 = .ok (.ireturn, 1) := by decide +kernel
theorem dL_drop_17 : decode cL_drop 17 = .ok (.iload_n 2, 1) := by decide +kernel
theorem dL_drop_18 : decode cL_drop 18 = .ok (.ireturn, 1) := by decide +kernel
theorem dL_givenAt_0 : decode cL_givenAt 0 = .ok (.aload_n 0, 1) := by decide +kernel
theorem dL_givenAt_1 : decode cL_givenAt 1 = .ok (.iload_n 1, 1) := by decide +kernel
theorem dL_givenAt_2 : decode cL_givenAt 2 = .ok (.invokevirtual 64, 3) := by decide +kernel
theorem dL_givenAt_5 : decode cL_givenAt 5 = .ok (.istore_n 2, 1) := by decide +kernel
theorem dL_givenAt_6 : decode cL_givenAt 6 = .ok (.goto 7, 3) := by decide +kernel
theorem dL_givenAt_9 : decode cL_givenAt 9 = .ok (.astore_n 3, 1) := by decide +kernel
theorem dL_givenAt_10 : decode cL_givenAt 10 = .ok (.bipush (-71), 2) := by decide +kernel
theorem dL_givenAt_12 : decode cL_givenAt 12 = .ok (.ireturn, 1) := by decide +kernel
theorem dL_givenAt_13 : decode cL_givenAt 13 = .ok (.iload_n 2, 1) := by decide +kernel
theorem dL_givenAt_14 : decode cL_givenAt 14 = .ok (.ireturn, 1) := by decide +kernel
theorem dL_number_0 : decode cL_number 0 = .ok (.iload_n 0, 1) := by decide +kernel
theorem dL_number_1 : decode cL_number 1 = .ok (.tableswitch 41 0 3 #[31, 33, 35, 38], 31) := by decide +kernel
theorem dL_number_32 : decode cL_number 32 = .ok (.iconst 1, 1) := by decide +kernel
theorem dL_number_33 : decode cL_number 33 = .ok (.ireturn, 1) := by decide +kernel
theorem dL_number_34 : decode cL_number 34 = .ok (.iconst 2, 1) := by decide +kernel
theorem dL_number_35 : decode cL_number 35 = .ok (.ireturn, 1) := by decide +kernel
theorem dL_number_36 : decode cL_number 36 = .ok (.ldc 67, 2) := by decide +kernel
theorem dL_number_38 : decode cL_number 38 = .ok (.ireturn, 1) := by decide +kernel
theorem dL_number_39 : decode cL_number 39 = .ok (.ldc 68, 2) := by decide +kernel
theorem dL_number_41 : decode cL_number 41 = .ok (.ireturn, 1) := by decide +kernel
theorem dL_number_42 : decode cL_number 42 = .ok (.iconst 0, 1) := by decide +kernel
theorem dL_number_43 : decode cL_number 43 = .ok (.ireturn, 1) := by decide +kernel
theorem dL_post_0 : decode cL_post 0 = .ok (.aload_n 0, 1) := by decide +kernel
theorem dL_post_1 : decode cL_post 1 = .ok (.aload_n 1, 1) := by decide +kernel
theorem dL_post_2 : decode cL_post 2 = .ok (.bipush 8, 2) := by decide +kernel
theorem dL_post_4 : decode cL_post 4 = .ok (.iload_n 2, 1) := by decide +kernel
theorem dL_post_5 : decode cL_post 5 = .ok (.imul, 1) := by decide +kernel
theorem dL_post_6 : decode cL_post 6 = .ok (.bipush 7, 2) := by decide +kernel
theorem dL_post_8 : decode cL_post 8 = .ok (.iadd, 1) := by decide +kernel
theorem dL_post_9 : decode cL_post 9 = .ok (.iaload, 1) := by decide +kernel
theorem dL_post_10 : decode cL_post 10 = .ok (.iload_n 3, 1) := by decide +kernel
theorem dL_post_11 : decode cL_post 11 = .ok (.i2l, 1) := by decide +kernel
theorem dL_post_12 : decode cL_post 12 = .ok (.ldc2_w 69, 3) := by decide +kernel
theorem dL_post_15 : decode cL_post 15 = .ok (.lload 5, 2) := by decide +kernel
theorem dL_post_17 : decode cL_post 17 = .ok (.lmul, 1) := by decide +kernel
theorem dL_post_18 : decode cL_post 18 = .ok (.ladd, 1) := by decide +kernel
theorem dL_post_19 : decode cL_post 19 = .ok (.aload_n 1, 1) := by decide +kernel
theorem dL_post_20 : decode cL_post 20 = .ok (.bipush 8, 2) := by decide +kernel
theorem dL_post_22 : decode cL_post 22 = .ok (.iload_n 2, 1) := by decide +kernel
theorem dL_post_23 : decode cL_post 23 = .ok (.imul, 1) := by decide +kernel
theorem dL_post_24 : decode cL_post 24 = .ok (.bipush 6, 2) := by decide +kernel
theorem dL_post_26 : decode cL_post 26 = .ok (.iadd, 1) := by decide +kernel
theorem dL_post_27 : decode cL_post 27 = .ok (.iaload, 1) := by decide +kernel
theorem dL_post_28 : decode cL_post 28 = .ok (.i2l, 1) := by decide +kernel
theorem dL_post_29 : decode cL_post 29 = .ok (.bipush 32, 2) := by decide +kernel
theorem dL_post_31 : decode cL_post 31 = .ok (.lshl, 1) := by decide +kernel
theorem dL_post_32 : decode cL_post 32 = .ok (.ladd, 1) := by decide +kernel
theorem dL_post_33 : decode cL_post 33 = .ok (.iload 4, 2) := by decide +kernel
theorem dL_post_35 : decode cL_post 35 = .ok (.i2l, 1) := by decide +kernel
theorem dL_post_36 : decode cL_post 36 = .ok (.bipush 36, 2) := by decide +kernel
theorem dL_post_38 : decode cL_post 38 = .ok (.lshl, 1) := by decide +kernel
theorem dL_post_39 : decode cL_post 39 = .ok (.ladd, 1) := by decide +kernel
theorem dL_post_40 : decode cL_post 40 = .ok (.lastore, 1) := by decide +kernel
theorem dL_post_41 : decode cL_post 41 = .ok (.aload_n 1, 1) := by decide +kernel
theorem dL_post_42 : decode cL_post 42 = .ok (.bipush 8, 2) := by decide +kernel
theorem dL_post_44 : decode cL_post 44 = .ok (.iload_n 2, 1) := by decide +kernel
theorem dL_post_45 : decode cL_post 45 = .ok (.imul, 1) := by decide +kernel
theorem dL_post_46 : decode cL_post 46 = .ok (.bipush 7, 2) := by decide +kernel
theorem dL_post_48 : decode cL_post 48 = .ok (.iadd, 1) := by decide +kernel
theorem dL_post_49 : decode cL_post 49 = .ok (.dup2, 1) := by decide +kernel
theorem dL_post_50 : decode cL_post 50 = .ok (.iaload, 1) := by decide +kernel
theorem dL_post_51 : decode cL_post 51 = .ok (.iconst 1, 1) := by decide +kernel
theorem dL_post_52 : decode cL_post 52 = .ok (.iadd, 1) := by decide +kernel
theorem dL_post_53 : decode cL_post 53 = .ok (.iastore, 1) := by decide +kernel
theorem dL_post_54 : decode cL_post 54 = .ok (.return_, 1) := by decide +kernel
theorem dL_pull_0 : decode cL_pull 0 = .ok (.aload_n 0, 1) := by decide +kernel
theorem dL_pull_1 : decode cL_pull 1 = .ok (.iconst 0, 1) := by decide +kernel
theorem dL_pull_2 : decode cL_pull 2 = .ok (.laload, 1) := by decide +kernel
theorem dL_pull_3 : decode cL_pull 3 = .ok (.lstore_n 3, 1) := by decide +kernel
theorem dL_pull_4 : decode cL_pull 4 = .ok (.aload_n 1, 1) := by decide +kernel
theorem dL_pull_5 : decode cL_pull 5 = .ok (.bipush 8, 2) := by decide +kernel
theorem dL_pull_7 : decode cL_pull 7 = .ok (.iload_n 2, 1) := by decide +kernel
theorem dL_pull_8 : decode cL_pull 8 = .ok (.imul, 1) := by decide +kernel
theorem dL_pull_9 : decode cL_pull 9 = .ok (.bipush 7, 2) := by decide +kernel
theorem dL_pull_11 : decode cL_pull 11 = .ok (.iadd, 1) := by decide +kernel
theorem dL_pull_12 : decode cL_pull 12 = .ok (.dup2, 1) := by decide +kernel
theorem dL_pull_13 : decode cL_pull 13 = .ok (.iaload, 1) := by decide +kernel
theorem dL_pull_14 : decode cL_pull 14 = .ok (.iconst 1, 1) := by decide +kernel
theorem dL_pull_15 : decode cL_pull 15 = .ok (.isub, 1) := by decide +kernel
theorem dL_pull_16 : decode cL_pull 16 = .ok (.iastore, 1) := by decide +kernel
theorem dL_pull_17 : decode cL_pull 17 = .ok (.iconst 0, 1) := by decide +kernel
theorem dL_pull_18 : decode cL_pull 18 = .ok (.istore 5, 2) := by decide +kernel
theorem dL_pull_20 : decode cL_pull 20 = .ok (.iload 5, 2) := by decide +kernel
theorem dL_pull_22 : decode cL_pull 22 = .ok (.aload_n 1, 1) := by decide +kernel
theorem dL_pull_23 : decode cL_pull 23 = .ok (.bipush 8, 2) := by decide +kernel
theorem dL_pull_25 : decode cL_pull 25 = .ok (.iload_n 2, 1) := by decide +kernel
theorem dL_pull_26 : decode cL_pull 26 = .ok (.imul, 1) := by decide +kernel
theorem dL_pull_27 : decode cL_pull 27 = .ok (.bipush 7, 2) := by decide +kernel
theorem dL_pull_29 : decode cL_pull 29 = .ok (.iadd, 1) := by decide +kernel
theorem dL_pull_30 : decode cL_pull 30 = .ok (.iaload, 1) := by decide +kernel
theorem dL_pull_31 : decode cL_pull 31 = .ok (.if_icmp .ge 19, 3) := by decide +kernel
theorem dL_pull_34 : decode cL_pull 34 = .ok (.aload_n 0, 1) := by decide +kernel
theorem dL_pull_35 : decode cL_pull 35 = .ok (.iload 5, 2) := by decide +kernel
theorem dL_pull_37 : decode cL_pull 37 = .ok (.aload_n 0, 1) := by decide +kernel
theorem dL_pull_38 : decode cL_pull 38 = .ok (.iload 5, 2) := by decide +kernel
theorem dL_pull_40 : decode cL_pull 40 = .ok (.iconst 1, 1) := by decide +kernel
theorem dL_pull_41 : decode cL_pull 41 = .ok (.iadd, 1) := by decide +kernel
theorem dL_pull_42 : decode cL_pull 42 = .ok (.laload, 1) := by decide +kernel
theorem dL_pull_43 : decode cL_pull 43 = .ok (.lastore, 1) := by decide +kernel
theorem dL_pull_44 : decode cL_pull 44 = .ok (.iinc 5 1, 3) := by decide +kernel
theorem dL_pull_47 : decode cL_pull 47 = .ok (.goto (-27), 3) := by decide +kernel
theorem dL_pull_50 : decode cL_pull 50 = .ok (.lload_n 3, 1) := by decide +kernel
theorem dL_pull_51 : decode cL_pull 51 = .ok (.lreturn, 1) := by decide +kernel
theorem dL_beg_0 : decode cL_beg 0 = .ok (.bipush 8, 2) := by decide +kernel
theorem dL_beg_2 : decode cL_beg 2 = .ok (.iload_n 3, 1) := by decide +kernel
theorem dL_beg_3 : decode cL_beg 3 = .ok (.imul, 1) := by decide +kernel
theorem dL_beg_4 : decode cL_beg 4 = .ok (.istore 4, 2) := by decide +kernel
theorem dL_beg_6 : decode cL_beg 6 = .ok (.aload_n 2, 1) := by decide +kernel
theorem dL_beg_7 : decode cL_beg 7 = .ok (.iload 4, 2) := by decide +kernel
theorem dL_beg_9 : decode cL_beg 9 = .ok (.iconst 2, 1) := by decide +kernel
theorem dL_beg_10 : decode cL_beg 10 = .ok (.iadd, 1) := by decide +kernel
theorem dL_beg_11 : decode cL_beg 11 = .ok (.iaload, 1) := by decide +kernel
theorem dL_beg_12 : decode cL_beg 12 = .ok (.bipush 10, 2) := by decide +kernel
theorem dL_beg_14 : decode cL_beg 14 = .ok (.if_icmp .ne 10, 3) := by decide +kernel
theorem dL_beg_17 : decode cL_beg 17 = .ok (.aload_n 2, 1) := by decide +kernel
theorem dL_beg_18 : decode cL_beg 18 = .ok (.iload 4, 2) := by decide +kernel
theorem dL_beg_20 : decode cL_beg 20 = .ok (.iconst 0, 1) := by decide +kernel
theorem dL_beg_21 : decode cL_beg 21 = .ok (.iastore, 1) := by decide +kernel
theorem dL_beg_22 : decode cL_beg 22 = .ok (.iconst 0, 1) := by decide +kernel
theorem dL_beg_23 : decode cL_beg 23 = .ok (.ireturn, 1) := by decide +kernel
theorem dL_beg_24 : decode cL_beg 24 = .ok (.aload_n 2, 1) := by decide +kernel
theorem dL_beg_25 : decode cL_beg 25 = .ok (.iload 4, 2) := by decide +kernel
theorem dL_beg_27 : decode cL_beg 27 = .ok (.iconst 1, 1) := by decide +kernel
theorem dL_beg_28 : decode cL_beg 28 = .ok (.iadd, 1) := by decide +kernel
theorem dL_beg_29 : decode cL_beg 29 = .ok (.dup2, 1) := by decide +kernel
theorem dL_beg_30 : decode cL_beg 30 = .ok (.iaload, 1) := by decide +kernel
theorem dL_beg_31 : decode cL_beg 31 = .ok (.iconst 1, 1) := by decide +kernel
theorem dL_beg_32 : decode cL_beg 32 = .ok (.iadd, 1) := by decide +kernel
theorem dL_beg_33 : decode cL_beg 33 = .ok (.iastore, 1) := by decide +kernel
theorem dL_beg_34 : decode cL_beg 34 = .ok (.aload_n 2, 1) := by decide +kernel
theorem dL_beg_35 : decode cL_beg 35 = .ok (.iload 4, 2) := by decide +kernel
theorem dL_beg_37 : decode cL_beg 37 = .ok (.iconst 2, 1) := by decide +kernel
theorem dL_beg_38 : decode cL_beg 38 = .ok (.iadd, 1) := by decide +kernel
theorem dL_beg_39 : decode cL_beg 39 = .ok (.dup2, 1) := by decide +kernel
theorem dL_beg_40 : decode cL_beg 40 = .ok (.iaload, 1) := by decide +kernel
theorem dL_beg_41 : decode cL_beg 41 = .ok (.iconst 1, 1) := by decide +kernel
theorem dL_beg_42 : decode cL_beg 42 = .ok (.iadd, 1) := by decide +kernel
theorem dL_beg_43 : decode cL_beg 43 = .ok (.iastore, 1) := by decide +kernel
theorem dL_beg_44 : decode cL_beg 44 = .ok (.aload_n 2, 1) := by decide +kernel
theorem dL_beg_45 : decode cL_beg 45 = .ok (.iload 4, 2) := by decide +kernel
theorem dL_beg_47 : decode cL_beg 47 = .ok (.iconst 3, 1) := by decide +kernel
theorem dL_beg_48 : decode cL_beg 48 = .ok (.iadd, 1) := by decide +kernel
theorem dL_beg_49 : decode cL_beg 49 = .ok (.iconst 3, 1) := by decide +kernel
theorem dL_beg_50 : decode cL_beg 50 = .ok (.iastore, 1) := by decide +kernel
theorem dL_beg_51 : decode cL_beg 51 = .ok (.lconst 0, 1) := by decide +kernel
theorem dL_beg_52 : decode cL_beg 52 = .ok (.lstore 5, 2) := by decide +kernel
theorem dL_beg_54 : decode cL_beg 54 = .ok (.iconst 5, 1) := by decide +kernel
theorem dL_beg_55 : decode cL_beg 55 = .ok (.istore 7, 2) := by decide +kernel
theorem dL_beg_57 : decode cL_beg 57 = .ok (.iload 7, 2) := by decide +kernel
theorem dL_beg_59 : decode cL_beg 59 = .ok (.ifCond .lt 30, 3) := by decide +kernel
theorem dL_beg_62 : decode cL_beg 62 = .ok (.ldc2_w 71, 3) := by decide +kernel
theorem dL_beg_65 : decode cL_beg 65 = .ok (.lload 5, 2) := by decide +kernel
theorem dL_beg_67 : decode cL_beg 67 = .ok (.lmul, 1) := by decide +kernel
theorem dL_beg_68 : decode cL_beg 68 = .ok (.aload_n 1, 1) := by decide +kernel
theorem dL_beg_69 : decode cL_beg 69 = .ok (.bipush 6, 2) := by decide +kernel
theorem dL_beg_71 : decode cL_beg 71 = .ok (.iload_n 3, 1) := by decide +kernel
theorem dL_beg_72 : decode cL_beg 72 = .ok (.imul, 1) := by decide +kernel
theorem dL_beg_73 : decode cL_beg 73 = .ok (.iload 7, 2) := by decide +kernel
theorem dL_beg_75 : decode cL_beg 75 = .ok (.iadd, 1) := by decide +kernel
theorem dL_beg_76 : decode cL_beg 76 = .ok (.iaload, 1) := by decide +kernel
theorem dL_beg_77 : decode cL_beg 77 = .ok (.i2l, 1) := by decide +kernel
theorem dL_beg_78 : decode cL_beg 78 = .ok (.ladd, 1) := by decide +kernel
theorem dL_beg_79 : decode cL_beg 79 = .ok (.lconst 1, 1) := by decide +kernel
theorem dL_beg_80 : decode cL_beg 80 = .ok (.ladd, 1) := by decide +kernel
theorem dL_beg_81 : decode cL_beg 81 = .ok (.lstore 5, 2) := by decide +kernel
theorem dL_beg_83 : decode cL_beg 83 = .ok (.iinc 7 (-1), 3) := by decide +kernel
theorem dL_beg_86 : decode cL_beg 86 = .ok (.goto (-29), 3) := by decide +kernel
theorem dL_beg_89 : decode cL_beg 89 = .ok (.aload_n 0, 1) := by decide +kernel
theorem dL_beg_90 : decode cL_beg 90 = .ok (.aload_n 2, 1) := by decide +kernel
theorem dL_beg_91 : decode cL_beg 91 = .ok (.iload_n 3, 1) := by decide +kernel
theorem dL_beg_92 : decode cL_beg 92 = .ok (.iconst 0, 1) := by decide +kernel
theorem dL_beg_93 : decode cL_beg 93 = .ok (.aload_n 2, 1) := by decide +kernel
theorem dL_beg_94 : decode cL_beg 94 = .ok (.iload 4, 2) := by decide +kernel
theorem dL_beg_96 : decode cL_beg 96 = .ok (.iconst 1, 1) := by decide +kernel
theorem dL_beg_97 : decode cL_beg 97 = .ok (.iadd, 1) := by decide +kernel
theorem dL_beg_98 : decode cL_beg 98 = .ok (.iaload, 1) := by decide +kernel
theorem dL_beg_99 : decode cL_beg 99 = .ok (.lload 5, 2) := by decide +kernel
theorem dL_beg_101 : decode cL_beg 101 = .ok (.invokestatic 73, 3) := by decide +kernel
theorem dL_beg_104 : decode cL_beg 104 = .ok (.iconst 1, 1) := by decide +kernel
theorem dL_beg_105 : decode cL_beg 105 = .ok (.ireturn, 1) := by decide +kernel
theorem dL_answer_0 : decode cL_answer 0 = .ok (.bipush 8, 2) := by decide +kernel
theorem dL_answer_2 : decode cL_answer 2 = .ok (.iload 5, 2) := by decide +kernel
theorem dL_answer_4 : decode cL_answer 4 = .ok (.imul, 1) := by decide +kernel
theorem dL_answer_5 : decode cL_answer 5 = .ok (.istore 6, 2) := by decide +kernel
theorem dL_answer_7 : decode cL_answer 7 = .ok (.lload_n 0, 1) := by decide +kernel
theorem dL_answer_8 : decode cL_answer 8 = .ok (.bipush 36, 2) := by decide +kernel
theorem dL_answer_10 : decode cL_answer 10 = .ok (.lshr, 1) := by decide +kernel
theorem dL_answer_11 : decode cL_answer 11 = .ok (.l2i, 1) := by decide +kernel
theorem dL_answer_12 : decode cL_answer 12 = .ok (.istore 7, 2) := by decide +kernel
theorem dL_answer_14 : decode cL_answer 14 = .ok (.lconst 0, 1) := by decide +kernel
theorem dL_answer_15 : decode cL_answer 15 = .ok (.lstore 8, 2) := by decide +kernel
theorem dL_answer_17 : decode cL_answer 17 = .ok (.lconst 0, 1) := by decide +kernel
theorem dL_answer_18 : decode cL_answer 18 = .ok (.lstore 10, 2) := by decide +kernel
theorem dL_answer_20 : decode cL_answer 20 = .ok (.iconst 0, 1) := by decide +kernel
theorem dL_answer_21 : decode cL_answer 21 = .ok (.istore 12, 2) := by decide +kernel
theorem dL_answer_23 : decode cL_answer 23 = .ok (.iload 12, 2) := by decide +kernel
theorem dL_answer_25 : decode cL_answer 25 = .ok (.bipush 6, 2) := by decide +kernel
theorem dL_answer_27 : decode cL_answer 27 = .ok (.if_icmp .ge 119, 3) := by decide +kernel
theorem dL_answer_30 : decode cL_answer 30 = .ok (.lload_n 0, 1) := by decide +kernel
theorem dL_answer_31 : decode cL_answer 31 = .ok (.iconst 3, 1) := by decide +kernel
theorem dL_answer_32 : decode cL_answer 32 = .ok (.iconst 4, 1) := by decide +kernel
theorem dL_answer_33 : decode cL_answer 33 = .ok (.iload 12, 2) := by decide +kernel
theorem dL_answer_35 : decode cL_answer 35 = .ok (.imul, 1) := by decide +kernel
theorem dL_answer_36 : decode cL_answer 36 = .ok (.iadd, 1) := by decide +kernel
theorem dL_answer_37 : decode cL_answer 37 = .ok (.lshr, 1) := by decide +kernel
theorem dL_answer_38 : decode cL_answer 38 = .ok (.ldc2_w 79, 3) := by decide +kernel
theorem dL_answer_41 : decode cL_answer 41 = .ok (.land, 1) := by decide +kernel
theorem dL_answer_42 : decode cL_answer 42 = .ok (.l2i, 1) := by decide +kernel
theorem dL_answer_43 : decode cL_answer 43 = .ok (.istore 13, 2) := by decide +kernel
theorem dL_answer_45 : decode cL_answer 45 = .ok (.aload_n 3, 1) := by decide +kernel
theorem dL_answer_46 : decode cL_answer 46 = .ok (.bipush 6, 2) := by decide +kernel
theorem dL_answer_48 : decode cL_answer 48 = .ok (.iload 5, 2) := by decide +kernel
theorem dL_answer_50 : decode cL_answer 50 = .ok (.imul, 1) := by decide +kernel
theorem dL_answer_51 : decode cL_answer 51 = .ok (.iload 12, 2) := by decide +kernel
theorem dL_answer_53 : decode cL_answer 53 = .ok (.iadd, 1) := by decide +kernel
theorem dL_answer_54 : decode cL_answer 54 = .ok (.iaload, 1) := by decide +kernel
theorem dL_answer_55 : decode cL_answer 55 = .ok (.istore 14, 2) := by decide +kernel
theorem dL_answer_57 : decode cL_answer 57 = .ok (.iload 13, 2) := by decide +kernel
theorem dL_answer_59 : decode cL_answer 59 = .ok (.ifCond .eq 81, 3) := by decide +kernel
theorem dL_answer_62 : decode cL_answer 62 = .ok (.iload 14, 2) := by decide +kernel
theorem dL_answer_64 : decode cL_answer 64 = .ok (.iload 13, 2) := by decide +kernel
theorem dL_answer_66 : decode cL_answer 66 = .ok (.iconst 1, 1) := by decide +kernel
theorem dL_answer_67 : decode cL_answer 67 = .ok (.isub, 1) := by decide +kernel
theorem dL_answer_68 : decode cL_answer 68 = .ok (.ishr, 1) := by decide +kernel
theorem dL_answer_69 : decode cL_answer 69 = .ok (.iconst 1, 1) := by decide +kernel
theorem dL_answer_70 : decode cL_answer 70 = .ok (.iand, 1) := by decide +kernel
theorem dL_answer_71 : decode cL_answer 71 = .ok (.iconst 1, 1) := by decide +kernel
theorem dL_answer_72 : decode cL_answer 72 = .ok (.if_icmp .ne 6, 3) := by decide +kernel
theorem dL_answer_75 : decode cL_answer 75 = .ok (.goto 65, 3) := by decide +kernel
theorem dL_answer_78 : decode cL_answer 78 = .ok (.iload 14, 2) := by decide +kernel
theorem dL_answer_80 : decode cL_answer 80 = .ok (.ifCond .ne 16, 3) := by decide +kernel
theorem dL_answer_83 : decode cL_answer 83 = .ok (.lload 8, 2) := by decide +kernel
theorem dL_answer_85 : decode cL_answer 85 = .ok (.iload 13, 2) := by decide +kernel
theorem dL_answer_87 : decode cL_answer 87 = .ok (.i2l, 1) := by decide +kernel
theorem dL_answer_88 : decode cL_answer 88 = .ok (.iconst 4, 1) := by decide +kernel
theorem dL_answer_89 : decode cL_answer 89 = .ok (.iload 12, 2) := by decide +kernel
theorem dL_answer_91 : decode cL_answer 91 = .ok (.imul, 1) := by decide +kernel
theorem dL_answer_92 : decode cL_answer 92 = .ok (.lshl, 1) := by decide +kernel
theorem dL_answer_93 : decode cL_answer 93 = .ok (.lor, 1) := by decide +kernel
theorem dL_answer_94 : decode cL_answer 94 = .ok (.lstore 8, 2) := by decide +kernel
theorem dL_answer_96 : decode cL_answer 96 = .ok (.iconst 0, 1) := by decide +kernel
theorem dL_answer_97 : decode cL_answer 97 = .ok (.istore 15, 2) := by decide +kernel
theorem dL_answer_99 : decode cL_answer 99 = .ok (.iload 14, 2) := by decide +kernel
theorem dL_answer_101 : decode cL_answer 101 = .ok (.ifCond .le 19, 3) := by decide +kernel
theorem dL_answer_104 : decode cL_answer 104 = .ok (.iload 14, 2) := by decide +kernel
theorem dL_answer_106 : decode cL_answer 106 = .ok (.iconst 1, 1) := by decide +kernel
theorem dL_answer_107 : decode cL_answer 107 = .ok (.iload 15, 2) := by decide +kernel
theorem dL_answer_109 : decode cL_answer 109 = .ok (.ishl, 1) := by decide +kernel
theorem dL_answer_110 : decode cL_answer 110 = .ok (.iand, 1) := by decide +kernel
theorem dL_answer_111 : decode cL_answer 111 = .ok (.ifCond .ne 9, 3) := by decide +kernel
theorem dL_answer_114 : decode cL_answer 114 = .ok (.iinc 15 1, 3) := by decide +kernel
theorem dL_answer_117 : decode cL_answer 117 = .ok (.goto (-18), 3) := by decide +kernel
theorem dL_answer_120 : decode cL_answer 120 = .ok (.iload 14, 2) := by decide +kernel
theorem dL_answer_122 : decode cL_answer 122 = .ok (.ifCond .le 18, 3) := by decide +kernel
theorem dL_answer_125 : decode cL_answer 125 = .ok (.lload 10, 2) := by decide +kernel
theorem dL_answer_127 : decode cL_answer 127 = .ok (.iload 15, 2) := by decide +kernel
theorem dL_answer_129 : decode cL_answer 129 = .ok (.i2l, 1) := by decide +kernel
theorem dL_answer_130 : decode cL_answer 130 = .ok (.lconst 1, 1) := by decide +kernel
theorem dL_answer_131 : decode cL_answer 131 = .ok (.ladd, 1) := by decide +kernel
theorem dL_answer_132 : decode cL_answer 132 = .ok (.iconst 4, 1) := by decide +kernel
theorem dL_answer_133 : decode cL_answer 133 = .ok (.iload 12, 2) := by decide +kernel
theorem dL_answer_135 : decode cL_answer 135 = .ok (.imul, 1) := by decide +kernel
theorem dL_answer_136 : decode cL_answer 136 = .ok (.lshl, 1) := by decide +kernel
theorem dL_answer_137 : decode cL_answer 137 = .ok (.lor, 1) := by decide +kernel
theorem dL_answer_138 : decode cL_answer 138 = .ok (.lstore 10, 2) := by decide +kernel
theorem dL_answer_140 : decode cL_answer 140 = .ok (.iinc 12 1, 3) := by decide +kernel
theorem dL_answer_143 : decode cL_answer 143 = .ok (.goto (-120), 3) := by decide +kernel
theorem dL_answer_146 : decode cL_answer 146 = .ok (.lload 8, 2) := by decide +kernel
theorem dL_answer_148 : decode cL_answer 148 = .ok (.lconst 0, 1) := by decide +kernel
theorem dL_answer_149 : decode cL_answer 149 = .ok (.lcmp, 1) := by decide +kernel
theorem dL_answer_150 : decode cL_answer 150 = .ok (.ifCond .gt 10, 3) := by decide +kernel
theorem dL_answer_153 : decode cL_answer 153 = .ok (.lload 10, 2) := by decide +kernel
theorem dL_answer_155 : decode cL_answer 155 = .ok (.lconst 0, 1) := by decide +kernel
theorem dL_answer_156 : decode cL_answer 156 = .ok (.lcmp, 1) := by decide +kernel
theorem dL_answer_157 : decode cL_answer 157 = .ok (.ifCond .le 55, 3) := by decide +kernel
theorem dL_answer_160 : decode cL_answer 160 = .ok (.aload_n 2, 1) := by decide +kernel
theorem dL_answer_161 : decode cL_answer 161 = .ok (.aload 4, 2) := by decide +kernel
theorem dL_answer_163 : decode cL_answer 163 = .ok (.iload 5, 2) := by decide +kernel
theorem dL_answer_165 : decode cL_answer 165 = .ok (.lload 8, 2) := by decide +kernel
theorem dL_answer_167 : decode cL_answer 167 = .ok (.lconst 0, 1) := by decide +kernel
theorem dL_answer_168 : decode cL_answer 168 = .ok (.lcmp, 1) := by decide +kernel
theorem dL_answer_169 : decode cL_answer 169 = .ok (.ifCond .le 7, 3) := by decide +kernel
theorem dL_answer_172 : decode cL_answer 172 = .ok (.iconst 3, 1) := by decide +kernel
theorem dL_answer_173 : decode cL_answer 173 = .ok (.goto 4, 3) := by decide +kernel
theorem dL_answer_176 : decode cL_answer 176 = .ok (.iconst 2, 1) := by decide +kernel
theorem dL_answer_177 : decode cL_answer 177 = .ok (.iload 7, 2) := by decide +kernel
theorem dL_answer_179 : decode cL_answer 179 = .ok (.lload 8, 2) := by decide +kernel
theorem dL_answer_181 : decode cL_answer 181 = .ok (.lconst 0, 1) := by decide +kernel
theorem dL_answer_182 : decode cL_answer 182 = .ok (.lcmp, 1) := by decide +kernel
theorem dL_answer_183 : decode cL_answer 183 = .ok (.ifCond .le 8, 3) := by decide +kernel
theorem dL_answer_186 : decode cL_answer 186 = .ok (.lload 8, 2) := by decide +kernel
theorem dL_answer_188 : decode cL_answer 188 = .ok (.goto 5, 3) := by decide +kernel
theorem dL_answer_191 : decode cL_answer 191 = .ok (.lload 10, 2) := by decide +kernel
theorem dL_answer_193 : decode cL_answer 193 = .ok (.invokestatic 73, 3) := by decide +kernel
theorem dL_answer_196 : decode cL_answer 196 = .ok (.aload 4, 2) := by decide +kernel
theorem dL_answer_198 : decode cL_answer 198 = .ok (.iload 6, 2) := by decide +kernel
theorem dL_answer_200 : decode cL_answer 200 = .ok (.iaload, 1) := by decide +kernel
theorem dL_answer_201 : decode cL_answer 201 = .ok (.iconst 3, 1) := by decide +kernel
theorem dL_answer_202 : decode cL_answer 202 = .ok (.if_icmp .ne 9, 3) := by decide +kernel
theorem dL_answer_205 : decode cL_answer 205 = .ok (.aload 4, 2) := by decide +kernel
theorem dL_answer_207 : decode cL_answer 207 = .ok (.iload 6, 2) := by decide +kernel
theorem dL_answer_209 : decode cL_answer 209 = .ok (.iconst 1, 1) := by decide +kernel
theorem dL_answer_210 : decode cL_answer 210 = .ok (.iastore, 1) := by decide +kernel
theorem dL_answer_211 : decode cL_answer 211 = .ok (.return_, 1) := by decide +kernel
theorem dL_answer_212 : decode cL_answer 212 = .ok (.aload_n 2, 1) := by decide +kernel
theorem dL_answer_213 : decode cL_answer 213 = .ok (.aload 4, 2) := by decide +kernel
theorem dL_answer_215 : decode cL_answer 215 = .ok (.iload 5, 2) := by decide +kernel
theorem dL_answer_217 : decode cL_answer 217 = .ok (.iconst 1, 1) := by decide +kernel
theorem dL_answer_218 : decode cL_answer 218 = .ok (.iload 7, 2) := by decide +kernel
theorem dL_answer_220 : decode cL_answer 220 = .ok (.lconst 0, 1) := by decide +kernel
theorem dL_answer_221 : decode cL_answer 221 = .ok (.invokestatic 73, 3) := by decide +kernel
theorem dL_answer_224 : decode cL_answer 224 = .ok (.aload 4, 2) := by decide +kernel
theorem dL_answer_226 : decode cL_answer 226 = .ok (.iload 6, 2) := by decide +kernel
theorem dL_answer_228 : decode cL_answer 228 = .ok (.iaload, 1) := by decide +kernel
theorem dL_answer_229 : decode cL_answer 229 = .ok (.iconst 3, 1) := by decide +kernel
theorem dL_answer_230 : decode cL_answer 230 = .ok (.if_icmp .ge 12, 3) := by decide +kernel
theorem dL_answer_233 : decode cL_answer 233 = .ok (.aload 4, 2) := by decide +kernel
theorem dL_answer_235 : decode cL_answer 235 = .ok (.iload 6, 2) := by decide +kernel
theorem dL_answer_237 : decode cL_answer 237 = .ok (.dup2, 1) := by decide +kernel
theorem dL_answer_238 : decode cL_answer 238 = .ok (.iaload, 1) := by decide +kernel
theorem dL_answer_239 : decode cL_answer 239 = .ok (.iconst 2, 1) := by decide +kernel
theorem dL_answer_240 : decode cL_answer 240 = .ok (.iadd, 1) := by decide +kernel
theorem dL_answer_241 : decode cL_answer 241 = .ok (.iastore, 1) := by decide +kernel
theorem dL_answer_242 : decode cL_answer 242 = .ok (.return_, 1) := by decide +kernel
theorem dL_take_0 : decode cL_take 0 = .ok (.bipush 8, 2) := by decide +kernel
theorem dL_take_2 : decode cL_take 2 = .ok (.iload 6, 2) := by decide +kernel
theorem dL_take_4 : decode cL_take 4 = .ok (.imul, 1) := by decide +kernel
theorem dL_take_5 : decode cL_take 5 = .ok (.istore 7, 2) := by decide +kernel
theorem dL_take_7 : decode cL_take 7 = .ok (.lload_n 0, 1) := by decide +kernel
theorem dL_take_8 : decode cL_take 8 = .ok (.ldc2_w 81, 3) := by decide +kernel
theorem dL_take_11 : decode cL_take 11 = .ok (.land, 1) := by decide +kernel
theorem dL_take_12 : decode cL_take 12 = .ok (.l2i, 1) := by decide +kernel
theorem dL_take_13 : decode cL_take 13 = .ok (.istore 8, 2) := by decide +kernel
theorem dL_take_15 : decode cL_take 15 = .ok (.iload 8, 2) := by decide +kernel
theorem dL_take_17 : decode cL_take 17 = .ok (.iconst 4, 1) := by decide +kernel
theorem dL_take_18 : decode cL_take 18 = .ok (.if_icmp .ne 12, 3) := by decide +kernel
theorem dL_take_21 : decode cL_take 21 = .ok (.aload 5, 2) := by decide +kernel
theorem dL_take_23 : decode cL_take 23 = .ok (.iload 7, 2) := by decide +kernel
theorem dL_take_25 : decode cL_take 25 = .ok (.iconst 0, 1) := by decide +kernel
theorem dL_take_26 : decode cL_take 26 = .ok (.iastore, 1) := by decide +kernel
theorem dL_take_27 : decode cL_take 27 = .ok (.goto 241, 3) := by decide +kernel
theorem dL_take_30 : decode cL_take 30 = .ok (.iload 8, 2) := by decide +kernel
theorem dL_take_32 : decode cL_take 32 = .ok (.ifCond .ne 115, 3) := by decide +kernel
theorem dL_take_35 : decode cL_take 35 = .ok (.aload 5, 2) := by decide +kernel
theorem dL_take_37 : decode cL_take 37 = .ok (.iload 7, 2) := by decide +kernel
theorem dL_take_39 : decode cL_take 39 = .ok (.iconst 4, 1) := by decide +kernel
theorem dL_take_40 : decode cL_take 40 = .ok (.iadd, 1) := by decide +kernel
theorem dL_take_41 : decode cL_take 41 = .ok (.lload_n 0, 1) := by decide +kernel
theorem dL_take_42 : decode cL_take 42 = .ok (.bipush 32, 2) := by decide +kernel
theorem dL_take_44 : decode cL_take 44 = .ok (.lshr, 1) := by decide +kernel
theorem dL_take_45 : decode cL_take 45 = .ok (.ldc2_w 79, 3) := by decide +kernel
theorem dL_take_48 : decode cL_take 48 = .ok (.land, 1) := by decide +kernel
theorem dL_take_49 : decode cL_take 49 = .ok (.l2i, 1) := by decide +kernel
theorem dL_take_50 : decode cL_take 50 = .ok (.invokestatic 83, 3) := by decide +kernel
theorem dL_take_53 : decode cL_take 53 = .ok (.aload 5, 2) := by decide +kernel
theorem dL_take_55 : decode cL_take 55 = .ok (.iload 7, 2) := by decide +kernel
theorem dL_take_57 : decode cL_take 57 = .ok (.bipush 6, 2) := by decide +kernel
theorem dL_take_59 : decode cL_take 59 = .ok (.iadd, 1) := by decide +kernel
theorem dL_take_60 : decode cL_take 60 = .ok (.iaload, 1) := by decide +kernel
theorem dL_take_61 : decode cL_take 61 = .ok (.invokestatic 83, 3) := by decide +kernel
theorem dL_take_64 : decode cL_take 64 = .ok (.if_icmp .ne 7, 3) := by decide +kernel
theorem dL_take_67 : decode cL_take 67 = .ok (.iconst 1, 1) := by decide +kernel
theorem dL_take_68 : decode cL_take 68 = .ok (.goto 4, 3) := by decide +kernel
theorem dL_take_71 : decode cL_take 71 = .ok (.iconst 0, 1) := by decide +kernel
theorem dL_take_72 : decode cL_take 72 = .ok (.iastore, 1) := by decide +kernel
theorem dL_take_73 : decode cL_take 73 = .ok (.aload 5, 2) := by decide +kernel
theorem dL_take_75 : decode cL_take 75 = .ok (.iload 7, 2) := by decide +kernel
theorem dL_take_77 : decode cL_take 77 = .ok (.iconst 4, 1) := by decide +kernel
theorem dL_take_78 : decode cL_take 78 = .ok (.iadd, 1) := by decide +kernel
theorem dL_take_79 : decode cL_take 79 = .ok (.iaload, 1) := by decide +kernel
theorem dL_take_80 : decode cL_take 80 = .ok (.iconst 1, 1) := by decide +kernel
theorem dL_take_81 : decode cL_take 81 = .ok (.if_icmp .ne 4, 3) := by decide +kernel
theorem dL_take_84 : decode cL_take 84 = .ok (.return_, 1) := by decide +kernel
theorem dL_take_85 : decode cL_take 85 = .ok (.aload 5, 2) := by decide +kernel
theorem dL_take_87 : decode cL_take 87 = .ok (.iload 7, 2) := by decide +kernel
theorem dL_take_89 : decode cL_take 89 = .ok (.iaload, 1) := by decide +kernel
theorem dL_take_90 : decode cL_take 90 = .ok (.ifCond .ne 15, 3) := by decide +kernel
theorem dL_take_93 : decode cL_take 93 = .ok (.aload_n 2, 1) := by decide +kernel
theorem dL_take_94 : decode cL_take 94 = .ok (.aload 5, 2) := by decide +kernel
theorem dL_take_96 : decode cL_take 96 = .ok (.iload 6, 2) := by decide +kernel
theorem dL_take_98 : decode cL_take 98 = .ok (.iconst 4, 1) := by decide +kernel
theorem dL_take_99 : decode cL_take 99 = .ok (.iconst 0, 1) := by decide +kernel
theorem dL_take_100 : decode cL_take 100 = .ok (.lconst 0, 1) := by decide +kernel
theorem dL_take_101 : decode cL_take 101 = .ok (.invokestatic 73, 3) := by decide +kernel
theorem dL_take_104 : decode cL_take 104 = .ok (.return_, 1) := by decide +kernel
theorem dL_take_105 : decode cL_take 105 = .ok (.aload 5, 2) := by decide +kernel
theorem dL_take_107 : decode cL_take 107 = .ok (.iload 7, 2) := by decide +kernel
theorem dL_take_109 : decode cL_take 109 = .ok (.iaload, 1) := by decide +kernel
theorem dL_take_110 : decode cL_take 110 = .ok (.iconst 4, 1) := by decide +kernel
theorem dL_take_111 : decode cL_take 111 = .ok (.if_icmp .ne 23, 3) := by decide +kernel
theorem dL_take_114 : decode cL_take 114 = .ok (.aload 5, 2) := by decide +kernel
theorem dL_take_116 : decode cL_take 116 = .ok (.iload 7, 2) := by decide +kernel
theorem dL_take_118 : decode cL_take 118 = .ok (.iconst 1, 1) := by decide +kernel
theorem dL_take_119 : decode cL_take 119 = .ok (.iastore, 1) := by decide +kernel
theorem dL_take_120 : decode cL_take 120 = .ok (.aload_n 2, 1) := by decide +kernel
theorem dL_take_121 : decode cL_take 121 = .ok (.aload 4, 2) := by decide +kernel
theorem dL_take_123 : decode cL_take 123 = .ok (.aload 5, 2) := by decide +kernel
theorem dL_take_125 : decode cL_take 125 = .ok (.iload 6, 2) := by decide +kernel
theorem dL_take_127 : decode cL_take 127 = .ok (.invokestatic 86, 3) := by decide +kernel
theorem dL_take_130 : decode cL_take 130 = .ok (.ifCond .ne 4, 3) := by decide +kernel
theorem dL_take_133 : decode cL_take 133 = .ok (.return_, 1) := by decide +kernel
theorem dL_take_134 : decode cL_take 134 = .ok (.lload_n 0, 1) := by decide +kernel
theorem dL_take_135 : decode cL_take 135 = .ok (.aload_n 2, 1) := by decide +kernel
theorem dL_take_136 : decode cL_take 136 = .ok (.aload_n 3, 1) := by decide +kernel
theorem dL_take_137 : decode cL_take 137 = .ok (.aload 5, 2) := by decide +kernel
theorem dL_take_139 : decode cL_take 139 = .ok (.iload 6, 2) := by decide +kernel
theorem dL_take_141 : decode cL_take 141 = .ok (.invokestatic 90, 3) := by decide +kernel
theorem dL_take_144 : decode cL_take 144 = .ok (.goto 124, 3) := by decide +kernel
theorem dL_take_147 : decode cL_take 147 = .ok (.aload 5, 2) := by decide +kernel
theorem dL_take_149 : decode cL_take 149 = .ok (.iload 7, 2) := by decide +kernel
theorem dL_take_151 : decode cL_take 151 = .ok (.iaload, 1) := by decide +kernel
theorem dL_take_152 : decode cL_take 152 = .ok (.iconst 1, 1) := by decide +kernel
theorem dL_take_153 : decode cL_take 153 = .ok (.if_icmp .eq 12, 3) := by decide +kernel
theorem dL_take_156 : decode cL_take 156 = .ok (.aload 5, 2) := by decide +kernel
theorem dL_take_158 : decode cL_take 158 = .ok (.iload 7, 2) := by decide +kernel
theorem dL_take_160 : decode cL_take 160 = .ok (.iaload, 1) := by decide +kernel
theorem dL_take_161 : decode cL_take 161 = .ok (.iconst 3, 1) := by decide +kernel
theorem dL_take_162 : decode cL_take 162 = .ok (.if_icmp .ne 106, 3) := by decide +kernel
theorem dL_take_165 : decode cL_take 165 = .ok (.lload_n 0, 1) := by decide +kernel
theorem dL_take_166 : decode cL_take 166 = .ok (.bipush 36, 2) := by decide +kernel
theorem dL_take_168 : decode cL_take 168 = .ok (.lshr, 1) := by decide +kernel
theorem dL_take_169 : decode cL_take 169 = .ok (.l2i, 1) := by decide +kernel
theorem dL_take_170 : decode cL_take 170 = .ok (.aload 5, 2) := by decide +kernel
theorem dL_take_172 : decode cL_take 172 = .ok (.iload 7, 2) := by decide +kernel
theorem dL_take_174 : decode cL_take 174 = .ok (.iconst 1, 1) := by decide +kernel
theorem dL_take_175 : decode cL_take 175 = .ok (.iadd, 1) := by decide +kernel
theorem dL_take_176 : decode cL_take 176 = .ok (.iaload, 1) := by decide +kernel
theorem dL_take_177 : decode cL_take 177 = .ok (.if_icmp .ne 91, 3) := by decide +kernel
theorem dL_take_180 : decode cL_take 180 = .ok (.iload 8, 2) := by decide +kernel
theorem dL_take_182 : decode cL_take 182 = .ok (.iconst 1, 1) := by decide +kernel
theorem dL_take_183 : decode cL_take 183 = .ok (.if_icmp .ne 13, 3) := by decide +kernel
theorem dL_take_186 : decode cL_take 186 = .ok (.aload 5, 2) := by decide +kernel
theorem dL_take_188 : decode cL_take 188 = .ok (.iload 7, 2) := by decide +kernel
theorem dL_take_190 : decode cL_take 190 = .ok (.dup2, 1) := by decide +kernel
theorem dL_take_191 : decode cL_take 191 = .ok (.iaload, 1) := by decide +kernel
theorem dL_take_192 : decode cL_take 192 = .ok (.iconst 1, 1) := by decide +kernel
theorem dL_take_193 : decode cL_take 193 = .ok (.iadd, 1) := by decide +kernel
theorem dL_take_194 : decode cL_take 194 = .ok (.iastore, 1) := by decide +kernel
theorem dL_take_195 : decode cL_take 195 = .ok (.return_, 1) := by decide +kernel
theorem dL_take_196 : decode cL_take 196 = .ok (.iconst 0, 1) := by decide +kernel
theorem dL_take_197 : decode cL_take 197 = .ok (.istore 9, 2) := by decide +kernel
theorem dL_take_199 : decode cL_take 199 = .ok (.iload 9, 2) := by decide +kernel
theorem dL_take_201 : decode cL_take 201 = .ok (.bipush 6, 2) := by decide +kernel
theorem dL_take_203 : decode cL_take 203 = .ok (.if_icmp .ge 54, 3) := by decide +kernel
theorem dL_take_206 : decode cL_take 206 = .ok (.lload_n 0, 1) := by decide +kernel
theorem dL_take_207 : decode cL_take 207 = .ok (.iconst 3, 1) := by decide +kernel
theorem dL_take_208 : decode cL_take 208 = .ok (.iconst 4, 1) := by decide +kernel
theorem dL_take_209 : decode cL_take 209 = .ok (.iload 9, 2) := by decide +kernel
theorem dL_take_211 : decode cL_take 211 = .ok (.imul, 1) := by decide +kernel
theorem dL_take_212 : decode cL_take 212 = .ok (.iadd, 1) := by decide +kernel
theorem dL_take_213 : decode cL_take 213 = .ok (.lshr, 1) := by decide +kernel
theorem dL_take_214 : decode cL_take 214 = .ok (.ldc2_w 79, 3) := by decide +kernel
theorem dL_take_217 : decode cL_take 217 = .ok (.land, 1) := by decide +kernel
theorem dL_take_218 : decode cL_take 218 = .ok (.l2i, 1) := by decide +kernel
theorem dL_take_219 : decode cL_take 219 = .ok (.istore 10, 2) := by decide +kernel
theorem dL_take_221 : decode cL_take 221 = .ok (.iload 10, 2) := by decide +kernel
theorem dL_take_223 : decode cL_take 223 = .ok (.ifCond .le 28, 3) := by decide +kernel
theorem dL_take_226 : decode cL_take 226 = .ok (.aload 4, 2) := by decide +kernel
theorem dL_take_228 : decode cL_take 228 = .ok (.bipush 6, 2) := by decide +kernel
theorem dL_take_230 : decode cL_take 230 = .ok (.iload 6, 2) := by decide +kernel
theorem dL_take_232 : decode cL_take 232 = .ok (.imul, 1) := by decide +kernel
theorem dL_take_233 : decode cL_take 233 = .ok (.iload 9, 2) := by decide +kernel
theorem dL_take_235 : decode cL_take 235 = .ok (.iadd, 1) := by decide +kernel
theorem dL_take_236 : decode cL_take 236 = .ok (.iload 8, 2) := by decide +kernel
theorem dL_take_238 : decode cL_take 238 = .ok (.iconst 2, 1) := by decide +kernel
theorem dL_take_239 : decode cL_take 239 = .ok (.if_icmp .ne 10, 3) := by decide +kernel
theorem dL_take_242 : decode cL_take 242 = .ok (.iload 10, 2) := by decide +kernel
theorem dL_take_244 : decode cL_take 244 = .ok (.iconst 1, 1) := by decide +kernel
theorem dL_take_245 : decode cL_take 245 = .ok (.isub, 1) := by decide +kernel
theorem dL_take_246 : decode cL_take 246 = .ok (.goto 4, 3) := by decide +kernel
theorem dL_take_249 : decode cL_take 249 = .ok (.iconst (-1), 1) := by decide +kernel
theorem dL_take_250 : decode cL_take 250 = .ok (.iastore, 1) := by decide +kernel
theorem dL_take_251 : decode cL_take 251 = .ok (.iinc 9 1, 3) := by decide +kernel
theorem dL_take_254 : decode cL_take 254 = .ok (.goto (-55), 3) := by decide +kernel
theorem dL_take_257 : decode cL_take 257 = .ok (.aload_n 2, 1) := by decide +kernel
theorem dL_take_258 : decode cL_take 258 = .ok (.aload 4, 2) := by decide +kernel
theorem dL_take_260 : decode cL_take 260 = .ok (.aload 5, 2) := by decide +kernel
theorem dL_take_262 : decode cL_take 262 = .ok (.iload 6, 2) := by decide +kernel
theorem dL_take_264 : decode cL_take 264 = .ok (.invokestatic 86, 3) := by decide +kernel
theorem dL_take_267 : decode cL_take 267 = .ok (.pop, 1) := by decide +kernel
theorem dL_take_268 : decode cL_take 268 = .ok (.return_, 1) := by decide +kernel
theorem dL_goBy_0 : decode cL_goBy 0 = .ok (.iconst 0, 1) := by decide +kernel
theorem dL_goBy_1 : decode cL_goBy 1 = .ok (.istore 5, 2) := by decide +kernel
theorem dL_goBy_3 : decode cL_goBy 3 = .ok (.iconst 0, 1) := by decide +kernel
theorem dL_goBy_4 : decode cL_goBy 4 = .ok (.istore 6, 2) := by decide +kernel
theorem dL_goBy_6 : decode cL_goBy 6 = .ok (.iload 6, 2) := by decide +kernel
theorem dL_goBy_8 : decode cL_goBy 8 = .ok (.iconst 2, 1) := by decide +kernel
theorem dL_goBy_9 : decode cL_goBy 9 = .ok (.iload_n 0, 1) := by decide +kernel
theorem dL_goBy_10 : decode cL_goBy 10 = .ok (.imul, 1) := by decide +kernel
theorem dL_goBy_11 : decode cL_goBy 11 = .ok (.if_icmp .ge 104, 3) := by decide +kernel
theorem dL_goBy_14 : decode cL_goBy 14 = .ok (.bipush 8, 2) := by decide +kernel
theorem dL_goBy_16 : decode cL_goBy 16 = .ok (.iload 6, 2) := by decide +kernel
theorem dL_goBy_18 : decode cL_goBy 18 = .ok (.iconst 2, 1) := by decide +kernel
theorem dL_goBy_19 : decode cL_goBy 19 = .ok (.irem, 1) := by decide +kernel
theorem dL_goBy_20 : decode cL_goBy 20 = .ok (.imul, 1) := by decide +kernel
theorem dL_goBy_21 : decode cL_goBy 21 = .ok (.istore 7, 2) := by decide +kernel
theorem dL_goBy_23 : decode cL_goBy 23 = .ok (.aload 4, 2) := by decide +kernel
theorem dL_goBy_25 : decode cL_goBy 25 = .ok (.iload 7, 2) := by decide +kernel
theorem dL_goBy_27 : decode cL_goBy 27 = .ok (.iaload, 1) := by decide +kernel
theorem dL_goBy_28 : decode cL_goBy 28 = .ok (.ifCond .eq 81, 3) := by decide +kernel
theorem dL_goBy_31 : decode cL_goBy 31 = .ok (.aload 4, 2) := by decide +kernel
theorem dL_goBy_33 : decode cL_goBy 33 = .ok (.iload 7, 2) := by decide +kernel
theorem dL_goBy_35 : decode cL_goBy 35 = .ok (.iaload, 1) := by decide +kernel
theorem dL_goBy_36 : decode cL_goBy 36 = .ok (.iconst 4, 1) := by decide +kernel
theorem dL_goBy_37 : decode cL_goBy 37 = .ok (.if_icmp .ne 6, 3) := by decide +kernel
theorem dL_goBy_40 : decode cL_goBy 40 = .ok (.goto 69, 3) := by decide +kernel
theorem dL_goBy_43 : decode cL_goBy 43 = .ok (.aload 4, 2) := by decide +kernel
theorem dL_goBy_45 : decode cL_goBy 45 = .ok (.iload 7, 2) := by decide +kernel
theorem dL_goBy_47 : decode cL_goBy 47 = .ok (.iconst 3, 1) := by decide +kernel
theorem dL_goBy_48 : decode cL_goBy 48 = .ok (.iadd, 1) := by decide +kernel
theorem dL_goBy_49 : decode cL_goBy 49 = .ok (.dup2, 1) := by decide +kernel
theorem dL_goBy_50 : decode cL_goBy 50 = .ok (.iaload, 1) := by decide +kernel
theorem dL_goBy_51 : decode cL_goBy 51 = .ok (.iconst 1, 1) := by decide +kernel
theorem dL_goBy_52 : decode cL_goBy 52 = .ok (.isub, 1) := by decide +kernel
theorem dL_goBy_53 : decode cL_goBy 53 = .ok (.iastore, 1) := by decide +kernel
theorem dL_goBy_54 : decode cL_goBy 54 = .ok (.aload 4, 2) := by decide +kernel
theorem dL_goBy_56 : decode cL_goBy 56 = .ok (.iload 7, 2) := by decide +kernel
theorem dL_goBy_58 : decode cL_goBy 58 = .ok (.iconst 3, 1) := by decide +kernel
theorem dL_goBy_59 : decode cL_goBy 59 = .ok (.iadd, 1) := by decide +kernel
theorem dL_goBy_60 : decode cL_goBy 60 = .ok (.iaload, 1) := by decide +kernel
theorem dL_goBy_61 : decode cL_goBy 61 = .ok (.ifCond .le 6, 3) := by decide +kernel
theorem dL_goBy_64 : decode cL_goBy 64 = .ok (.goto 45, 3) := by decide +kernel
theorem dL_goBy_67 : decode cL_goBy 67 = .ok (.aload 4, 2) := by decide +kernel
theorem dL_goBy_69 : decode cL_goBy 69 = .ok (.iload 7, 2) := by decide +kernel
theorem dL_goBy_71 : decode cL_goBy 71 = .ok (.iaload, 1) := by decide +kernel
theorem dL_goBy_72 : decode cL_goBy 72 = .ok (.iconst 2, 1) := by decide +kernel
theorem dL_goBy_73 : decode cL_goBy 73 = .ok (.if_icmp .ne 9, 3) := by decide +kernel
theorem dL_goBy_76 : decode cL_goBy 76 = .ok (.aload 4, 2) := by decide +kernel
theorem dL_goBy_78 : decode cL_goBy 78 = .ok (.iload 7, 2) := by decide +kernel
theorem dL_goBy_80 : decode cL_goBy 80 = .ok (.iconst 1, 1) := by decide +kernel
theorem dL_goBy_81 : decode cL_goBy 81 = .ok (.iastore, 1) := by decide +kernel
theorem dL_goBy_82 : decode cL_goBy 82 = .ok (.iload 5, 2) := by decide +kernel
theorem dL_goBy_84 : decode cL_goBy 84 = .ok (.iload 6, 2) := by decide +kernel
theorem dL_goBy_86 : decode cL_goBy 86 = .ok (.iconst 2, 1) := by decide +kernel
theorem dL_goBy_87 : decode cL_goBy 87 = .ok (.irem, 1) := by decide +kernel
theorem dL_goBy_88 : decode cL_goBy 88 = .ok (.ifCond .ne 7, 3) := by decide +kernel
theorem dL_goBy_91 : decode cL_goBy 91 = .ok (.aload_n 1, 1) := by decide +kernel
theorem dL_goBy_92 : decode cL_goBy 92 = .ok (.goto 4, 3) := by decide +kernel
theorem dL_goBy_95 : decode cL_goBy 95 = .ok (.aload_n 2, 1) := by decide +kernel
theorem dL_goBy_96 : decode cL_goBy 96 = .ok (.aload_n 3, 1) := by decide +kernel
theorem dL_goBy_97 : decode cL_goBy 97 = .ok (.aload 4, 2) := by decide +kernel
theorem dL_goBy_99 : decode cL_goBy 99 = .ok (.iload 6, 2) := by decide +kernel
theorem dL_goBy_101 : decode cL_goBy 101 = .ok (.iconst 2, 1) := by decide +kernel
theorem dL_goBy_102 : decode cL_goBy 102 = .ok (.irem, 1) := by decide +kernel
theorem dL_goBy_103 : decode cL_goBy 103 = .ok (.invokestatic 86, 3) := by decide +kernel
theorem dL_goBy_106 : decode cL_goBy 106 = .ok (.iadd, 1) := by decide +kernel
theorem dL_goBy_107 : decode cL_goBy 107 = .ok (.istore 5, 2) := by decide +kernel
theorem dL_goBy_109 : decode cL_goBy 109 = .ok (.iinc 6 1, 3) := by decide +kernel
theorem dL_goBy_112 : decode cL_goBy 112 = .ok (.goto (-106), 3) := by decide +kernel
theorem dL_goBy_115 : decode cL_goBy 115 = .ok (.iload 5, 2) := by decide +kernel
theorem dL_goBy_117 : decode cL_goBy 117 = .ok (.ireturn, 1) := by decide +kernel
theorem dL_links_0 : decode cL_links 0 = .ok (.iload_n 2, 1) := by decide +kernel
theorem dL_links_1 : decode cL_links 1 = .ok (.iconst 1, 1) := by decide +kernel
theorem dL_links_2 : decode cL_links 2 = .ok (.iand, 1) := by decide +kernel
theorem dL_links_3 : decode cL_links 3 = .ok (.istore 10, 2) := by decide +kernel
theorem dL_links_5 : decode cL_links 5 = .ok (.bipush 8, 2) := by decide +kernel
theorem dL_links_7 : decode cL_links 7 = .ok (.iload 10, 2) := by decide +kernel
theorem dL_links_9 : decode cL_links 9 = .ok (.imul, 1) := by decide +kernel
theorem dL_links_10 : decode cL_links 10 = .ok (.istore 11, 2) := by decide +kernel
theorem dL_links_12 : decode cL_links 12 = .ok (.iload 10, 2) := by decide +kernel
theorem dL_links_14 : decode cL_links 14 = .ok (.ifCond .ne 8, 3) := by decide +kernel
theorem dL_links_17 : decode cL_links 17 = .ok (.aload 4, 2) := by decide +kernel
theorem dL_links_19 : decode cL_links 19 = .ok (.goto 5, 3) := by decide +kernel
theorem dL_links_22 : decode cL_links 22 = .ok (.aload 5, 2) := by decide +kernel
theorem dL_links_24 : decode cL_links 24 = .ok (.astore 12, 2) := by decide +kernel
theorem dL_links_26 : decode cL_links 26 = .ok (.iload_n 3, 1) := by decide +kernel
theorem dL_links_27 : decode cL_links 27 = .ok (.bipush 6, 2) := by decide +kernel
theorem dL_links_29 : decode cL_links 29 = .ok (.invokestatic 94, 3) := by decide +kernel
theorem dL_links_32 : decode cL_links 32 = .ok (.istore 13, 2) := by decide +kernel
theorem dL_links_34 : decode cL_links 34 = .ok (.iload_n 1, 1) := by decide +kernel
theorem dL_links_35 : decode cL_links 35 = .ok (.iconst 3, 1) := by decide +kernel
theorem dL_links_36 : decode cL_links 36 = .ok (.if_icmp .ge 121, 3) := by decide +kernel
theorem dL_links_39 : decode cL_links 39 = .ok (.iload_n 3, 1) := by decide +kernel
theorem dL_links_40 : decode cL_links 40 = .ok (.iconst 3, 1) := by decide +kernel
theorem dL_links_41 : decode cL_links 41 = .ok (.ishr, 1) := by decide +kernel
theorem dL_links_42 : decode cL_links 42 = .ok (.bipush 11, 2) := by decide +kernel
theorem dL_links_44 : decode cL_links 44 = .ok (.invokestatic 94, 3) := by decide +kernel
theorem dL_links_47 : decode cL_links 47 = .ok (.iconst 1, 1) := by decide +kernel
theorem dL_links_48 : decode cL_links 48 = .ok (.isub, 1) := by decide +kernel
theorem dL_links_49 : decode cL_links 49 = .ok (.istore 14, 2) := by decide +kernel
theorem dL_links_51 : decode cL_links 51 = .ok (.aload 6, 2) := by decide +kernel
theorem dL_links_53 : decode cL_links 53 = .ok (.bipush 6, 2) := by decide +kernel
theorem dL_links_55 : decode cL_links 55 = .ok (.iload 10, 2) := by decide +kernel
theorem dL_links_57 : decode cL_links 57 = .ok (.imul, 1) := by decide +kernel
theorem dL_links_58 : decode cL_links 58 = .ok (.iload 13, 2) := by decide +kernel
theorem dL_links_60 : decode cL_links 60 = .ok (.iadd, 1) := by decide +kernel
theorem dL_links_61 : decode cL_links 61 = .ok (.iaload, 1) := by decide +kernel
theorem dL_links_62 : decode cL_links 62 = .ok (.istore 15, 2) := by decide +kernel
theorem dL_links_64 : decode cL_links 64 = .ok (.aload 6, 2) := by decide +kernel
theorem dL_links_66 : decode cL_links 66 = .ok (.bipush 6, 2) := by decide +kernel
theorem dL_links_68 : decode cL_links 68 = .ok (.iload 10, 2) := by decide +kernel
theorem dL_links_70 : decode cL_links 70 = .ok (.imul, 1) := by decide +kernel
theorem dL_links_71 : decode cL_links 71 = .ok (.iload 13, 2) := by decide +kernel
theorem dL_links_73 : decode cL_links 73 = .ok (.iadd, 1) := by decide +kernel
theorem dL_links_74 : decode cL_links 74 = .ok (.iload 14, 2) := by decide +kernel
theorem dL_links_76 : decode cL_links 76 = .ok (.iastore, 1) := by decide +kernel
theorem dL_links_77 : decode cL_links 77 = .ok (.aload_n 0, 1) := by decide +kernel
theorem dL_links_78 : decode cL_links 78 = .ok (.iconst 2, 1) := by decide +kernel
theorem dL_links_79 : decode cL_links 79 = .ok (.iload 13, 2) := by decide +kernel
theorem dL_links_81 : decode cL_links 81 = .ok (.bipush 10, 2) := by decide +kernel
theorem dL_links_83 : decode cL_links 83 = .ok (.invokestatic 97, 3) := by decide +kernel
theorem dL_links_86 : decode cL_links 86 = .ok (.bipush (-71), 2) := by decide +kernel
theorem dL_links_88 : decode cL_links 88 = .ok (.if_icmp .ne 67, 3) := by decide +kernel
theorem dL_links_91 : decode cL_links 91 = .ok (.aload_n 0, 1) := by decide +kernel
theorem dL_links_92 : decode cL_links 92 = .ok (.iload 10, 2) := by decide +kernel
theorem dL_links_94 : decode cL_links 94 = .ok (.bipush 6, 2) := by decide +kernel
theorem dL_links_96 : decode cL_links 96 = .ok (.iload 14, 2) := by decide +kernel
theorem dL_links_98 : decode cL_links 98 = .ok (.invokestatic 97, 3) := by decide +kernel
theorem dL_links_101 : decode cL_links 101 = .ok (.bipush (-71), 2) := by decide +kernel
theorem dL_links_103 : decode cL_links 103 = .ok (.if_icmp .ne 52, 3) := by decide +kernel
theorem dL_links_106 : decode cL_links 106 = .ok (.aload_n 0, 1) := by decide +kernel
theorem dL_links_107 : decode cL_links 107 = .ok (.iload 10, 2) := by decide +kernel
theorem dL_links_109 : decode cL_links 109 = .ok (.iload 13, 2) := by decide +kernel
theorem dL_links_111 : decode cL_links 111 = .ok (.bipush 10, 2) := by decide +kernel
theorem dL_links_113 : decode cL_links 113 = .ok (.invokestatic 97, 3) := by decide +kernel
theorem dL_links_116 : decode cL_links 116 = .ok (.bipush (-72), 2) := by decide +kernel
theorem dL_links_118 : decode cL_links 118 = .ok (.if_icmp .ne 37, 3) := by decide +kernel
theorem dL_links_121 : decode cL_links 121 = .ok (.aload_n 0, 1) := by decide +kernel
theorem dL_links_122 : decode cL_links 122 = .ok (.iload 10, 2) := by decide +kernel
theorem dL_links_124 : decode cL_links 124 = .ok (.iload 13, 2) := by decide +kernel
theorem dL_links_126 : decode cL_links 126 = .ok (.bipush (-2), 2) := by decide +kernel
theorem dL_links_128 : decode cL_links 128 = .ok (.invokestatic 97, 3) := by decide +kernel
theorem dL_links_131 : decode cL_links 131 = .ok (.bipush (-72), 2) := by decide +kernel
theorem dL_links_133 : decode cL_links 133 = .ok (.if_icmp .ne 22, 3) := by decide +kernel
theorem dL_links_136 : decode cL_links 136 = .ok (.aload_n 0, 1) := by decide +kernel
theorem dL_links_137 : decode cL_links 137 = .ok (.iload 10, 2) := by decide +kernel
theorem dL_links_139 : decode cL_links 139 = .ok (.iload 13, 2) := by decide +kernel
theorem dL_links_141 : decode cL_links 141 = .ok (.iload 14, 2) := by decide +kernel
theorem dL_links_143 : decode cL_links 143 = .ok (.invokestatic 97, 3) := by decide +kernel
theorem dL_links_146 : decode cL_links 146 = .ok (.iload 15, 2) := by decide +kernel
theorem dL_links_148 : decode cL_links 148 = .ok (.if_icmp .ne 7, 3) := by decide +kernel
theorem dL_links_151 : decode cL_links 151 = .ok (.iconst 1, 1) := by decide +kernel
theorem dL_links_152 : decode cL_links 152 = .ok (.goto 4, 3) := by decide +kernel
theorem dL_links_155 : decode cL_links 155 = .ok (.iconst 0, 1) := by decide +kernel
theorem dL_links_156 : decode cL_links 156 = .ok (.ireturn, 1) := by decide +kernel
theorem dL_links_157 : decode cL_links 157 = .ok (.iload_n 1, 1) := by decide +kernel
theorem dL_links_158 : decode cL_links 158 = .ok (.bipush 6, 2) := by decide +kernel
theorem dL_links_160 : decode cL_links 160 = .ok (.if_icmp .ge 144, 3) := by decide +kernel
theorem dL_links_163 : decode cL_links 163 = .ok (.iload_n 3, 1) := by decide +kernel
theorem dL_links_164 : decode cL_links 164 = .ok (.bipush 96, 2) := by decide +kernel
theorem dL_links_166 : decode cL_links 166 = .ok (.iand, 1) := by decide +kernel
theorem dL_links_167 : decode cL_links 167 = .ok (.ifCond .ne 7, 3) := by decide +kernel
theorem dL_links_170 : decode cL_links 170 = .ok (.iconst 0, 1) := by decide +kernel
theorem dL_links_171 : decode cL_links 171 = .ok (.goto 28, 3) := by decide +kernel
theorem dL_links_174 : decode cL_links 174 = .ok (.iload_n 3, 1) := by decide +kernel
theorem dL_links_175 : decode cL_links 175 = .ok (.bipush 96, 2) := by decide +kernel
theorem dL_links_177 : decode cL_links 177 = .ok (.iand, 1) := by decide +kernel
theorem dL_links_178 : decode cL_links 178 = .ok (.bipush 32, 2) := by decide +kernel
theorem dL_links_180 : decode cL_links 180 = .ok (.if_icmp .ne 9, 3) := by decide +kernel
theorem dL_links_183 : decode cL_links 183 = .ok (.sipush 1023, 3) := by decide +kernel
theorem dL_links_186 : decode cL_links 186 = .ok (.goto 13, 3) := by decide +kernel
theorem dL_links_189 : decode cL_links 189 = .ok (.iload_n 3, 1) := by decide +kernel
theorem dL_links_190 : decode cL_links 190 = .ok (.bipush 7, 2) := by decide +kernel
theorem dL_links_192 : decode cL_links 192 = .ok (.ishr, 1) := by decide +kernel
theorem dL_links_193 : decode cL_links 193 = .ok (.sipush 1024, 3) := by decide +kernel
theorem dL_links_196 : decode cL_links 196 = .ok (.invokestatic 94, 3) := by decide +kernel
theorem dL_links_199 : decode cL_links 199 = .ok (.istore 14, 2) := by decide +kernel
theorem dL_links_201 : decode cL_links 201 = .ok (.aload 7, 2) := by decide +kernel
theorem dL_links_203 : decode cL_links 203 = .ok (.bipush 6, 2) := by decide +kernel
theorem dL_links_205 : decode cL_links 205 = .ok (.iload 10, 2) := by decide +kernel
theorem dL_links_207 : decode cL_links 207 = .ok (.imul, 1) := by decide +kernel
theorem dL_links_208 : decode cL_links 208 = .ok (.iload 13, 2) := by decide +kernel
theorem dL_links_210 : decode cL_links 210 = .ok (.iadd, 1) := by decide +kernel
theorem dL_links_211 : decode cL_links 211 = .ok (.iaload, 1) := by decide +kernel
theorem dL_links_212 : decode cL_links 212 = .ok (.istore 15, 2) := by decide +kernel
theorem dL_links_214 : decode cL_links 214 = .ok (.aload 7, 2) := by decide +kernel
theorem dL_links_216 : decode cL_links 216 = .ok (.bipush 6, 2) := by decide +kernel
theorem dL_links_218 : decode cL_links 218 = .ok (.iload 10, 2) := by decide +kernel
theorem dL_links_220 : decode cL_links 220 = .ok (.imul, 1) := by decide +kernel
theorem dL_links_221 : decode cL_links 221 = .ok (.iload 13, 2) := by decide +kernel
theorem dL_links_223 : decode cL_links 223 = .ok (.iadd, 1) := by decide +kernel
theorem dL_links_224 : decode cL_links 224 = .ok (.iload 14, 2) := by decide +kernel
theorem dL_links_226 : decode cL_links 226 = .ok (.iastore, 1) := by decide +kernel
theorem dL_links_227 : decode cL_links 227 = .ok (.aload_n 0, 1) := by decide +kernel
theorem dL_links_228 : decode cL_links 228 = .ok (.iconst (-1), 1) := by decide +kernel
theorem dL_links_229 : decode cL_links 229 = .ok (.iload 13, 2) := by decide +kernel
theorem dL_links_231 : decode cL_links 231 = .ok (.iconst 0, 1) := by decide +kernel
theorem dL_links_232 : decode cL_links 232 = .ok (.invokestatic 100, 3) := by decide +kernel
theorem dL_links_235 : decode cL_links 235 = .ok (.bipush (-71), 2) := by decide +kernel
theorem dL_links_237 : decode cL_links 237 = .ok (.if_icmp .ne 65, 3) := by decide +kernel
theorem dL_links_240 : decode cL_links 240 = .ok (.aload_n 0, 1) := by decide +kernel
theorem dL_links_241 : decode cL_links 241 = .ok (.iload 10, 2) := by decide +kernel
theorem dL_links_243 : decode cL_links 243 = .ok (.iconst (-1), 1) := by decide +kernel
theorem dL_links_244 : decode cL_links 244 = .ok (.iconst 0, 1) := by decide +kernel
theorem dL_links_245 : decode cL_links 245 = .ok (.invokestatic 100, 3) := by decide +kernel
theorem dL_links_248 : decode cL_links 248 = .ok (.bipush (-71), 2) := by decide +kernel
theorem dL_links_250 : decode cL_links 250 = .ok (.if_icmp .ne 52, 3) := by decide +kernel
theorem dL_links_253 : decode cL_links 253 = .ok (.aload_n 0, 1) := by decide +kernel
theorem dL_links_254 : decode cL_links 254 = .ok (.iload 10, 2) := by decide +kernel
theorem dL_links_256 : decode cL_links 256 = .ok (.iload 13, 2) := by decide +kernel
theorem dL_links_258 : decode cL_links 258 = .ok (.sipush 1024, 3) := by decide +kernel
theorem dL_links_261 : decode cL_links 261 = .ok (.invokestatic 100, 3) := by decide +kernel
theorem dL_links_264 : decode cL_links 264 = .ok (.bipush (-72), 2) := by decide +kernel
theorem dL_links_266 : decode cL_links 266 = .ok (.if_icmp .ne 36, 3) := by decide +kernel
theorem dL_links_269 : decode cL_links 269 = .ok (.aload_n 0, 1) := by decide +kernel
theorem dL_links_270 : decode cL_links 270 = .ok (.iload 10, 2) := by decide +kernel
theorem dL_links_272 : decode cL_links 272 = .ok (.iload 13, 2) := by decide +kernel
theorem dL_links_274 : decode cL_links 274 = .ok (.iconst (-1), 1) := by decide +kernel
theorem dL_links_275 : decode cL_links 275 = .ok (.invokestatic 100, 3) := by decide +kernel
theorem dL_links_278 : decode cL_links 278 = .ok (.bipush (-72), 2) := by decide +kernel
theorem dL_links_280 : decode cL_links 280 = .ok (.if_icmp .ne 22, 3) := by decide +kernel
theorem dL_links_283 : decode cL_links 283 = .ok (.aload_n 0, 1) := by decide +kernel
theorem dL_links_284 : decode cL_links 284 = .ok (.iload 10, 2) := by decide +kernel
theorem dL_links_286 : decode cL_links 286 = .ok (.iload 13, 2) := by decide +kernel
theorem dL_links_288 : decode cL_links 288 = .ok (.iload 14, 2) := by decide +kernel
theorem dL_links_290 : decode cL_links 290 = .ok (.invokestatic 100, 3) := by decide +kernel
theorem dL_links_293 : decode cL_links 293 = .ok (.iload 15, 2) := by decide +kernel
theorem dL_links_295 : decode cL_links 295 = .ok (.if_icmp .ne 7, 3) := by decide +kernel
theorem dL_links_298 : decode cL_links 298 = .ok (.iconst 1, 1) := by decide +kernel
theorem dL_links_299 : decode cL_links 299 = .ok (.goto 4, 3) := by decide +kernel
theorem dL_links_302 : decode cL_links 302 = .ok (.iconst 0, 1) := by decide +kernel
theorem dL_links_303 : decode cL_links 303 = .ok (.ireturn, 1) := by decide +kernel
theorem dL_links_304 : decode cL_links 304 = .ok (.iload_n 1, 1) := by decide +kernel
theorem dL_links_305 : decode cL_links 305 = .ok (.bipush 6, 2) := by decide +kernel
theorem dL_links_307 : decode cL_links 307 = .ok (.if_icmp .ne 77, 3) := by decide +kernel
theorem dL_links_310 : decode cL_links 310 = .ok (.iload_n 2, 1) := by decide +kernel
theorem dL_links_311 : decode cL_links 311 = .ok (.bipush 48, 2) := by decide +kernel
theorem dL_links_313 : decode cL_links 313 = .ok (.iand, 1) := by decide +kernel
theorem dL_links_314 : decode cL_links 314 = .ok (.ifCond .ne 11, 3) := by decide +kernel
theorem dL_links_317 : decode cL_links 317 = .ok (.iload_n 3, 1) := by decide +kernel
theorem dL_links_318 : decode cL_links 318 = .ok (.iconst 5, 1) := by decide +kernel
theorem dL_links_319 : decode cL_links 319 = .ok (.invokestatic 94, 3) := by decide +kernel
theorem dL_links_322 : decode cL_links 322 = .ok (.goto 5, 3) := by decide +kernel
theorem dL_links_325 : decode cL_links 325 = .ok (.iload 10, 2) := by decide +kernel
theorem dL_links_327 : decode cL_links 327 = .ok (.istore 14, 2) := by decide +kernel
theorem dL_links_329 : decode cL_links 329 = .ok (.aload 9, 2) := by decide +kernel
theorem dL_links_331 : decode cL_links 331 = .ok (.iload 11, 2) := by decide +kernel
theorem dL_links_333 : decode cL_links 333 = .ok (.bipush 6, 2) := by decide +kernel
theorem dL_links_335 : decode cL_links 335 = .ok (.iadd, 1) := by decide +kernel
theorem dL_links_336 : decode cL_links 336 = .ok (.iaload, 1) := by decide +kernel
theorem dL_links_337 : decode cL_links 337 = .ok (.invokestatic 83, 3) := by decide +kernel
theorem dL_links_340 : decode cL_links 340 = .ok (.istore 15, 2) := by decide +kernel
theorem dL_links_342 : decode cL_links 342 = .ok (.aload 9, 2) := by decide +kernel
theorem dL_links_344 : decode cL_links 344 = .ok (.iload 11, 2) := by decide +kernel
theorem dL_links_346 : decode cL_links 346 = .ok (.bipush 6, 2) := by decide +kernel
theorem dL_links_348 : decode cL_links 348 = .ok (.iadd, 1) := by decide +kernel
theorem dL_links_349 : decode cL_links 349 = .ok (.iload 14, 2) := by decide +kernel
theorem dL_links_351 : decode cL_links 351 = .ok (.iastore, 1) := by decide +kernel
theorem dL_links_352 : decode cL_links 352 = .ok (.aload_n 0, 1) := by decide +kernel
theorem dL_links_353 : decode cL_links 353 = .ok (.iconst 2, 1) := by decide +kernel
theorem dL_links_354 : decode cL_links 354 = .ok (.iconst 5, 1) := by decide +kernel
theorem dL_links_355 : decode cL_links 355 = .ok (.iconst 5, 1) := by decide +kernel
theorem dL_links_356 : decode cL_links 356 = .ok (.invokestatic 102, 3) := by decide +kernel
theorem dL_links_359 : decode cL_links 359 = .ok (.ifCond .ne 23, 3) := by decide +kernel
theorem dL_links_362 : decode cL_links 362 = .ok (.aload_n 0, 1) := by decide +kernel
theorem dL_links_363 : decode cL_links 363 = .ok (.iload 10, 2) := by decide +kernel
theorem dL_links_365 : decode cL_links 365 = .ok (.iload 14, 2) := by decide +kernel
theorem dL_links_367 : decode cL_links 367 = .ok (.invokestatic 83, 3) := by decide +kernel
theorem dL_links_370 : decode cL_links 370 = .ok (.iload 15, 2) := by decide +kernel
theorem dL_links_372 : decode cL_links 372 = .ok (.invokestatic 102, 3) := by decide +kernel
theorem dL_links_375 : decode cL_links 375 = .ok (.ifCond .eq 7, 3) := by decide +kernel
theorem dL_links_378 : decode cL_links 378 = .ok (.iconst 1, 1) := by decide +kernel
theorem dL_links_379 : decode cL_links 379 = .ok (.goto 4, 3) := by decide +kernel
theorem dL_links_382 : decode cL_links 382 = .ok (.iconst 0, 1) := by decide +kernel
theorem dL_links_383 : decode cL_links 383 = .ok (.ireturn, 1) := by decide +kernel
theorem dL_links_384 : decode cL_links 384 = .ok (.iload_n 1, 1) := by decide +kernel
theorem dL_links_385 : decode cL_links 385 = .ok (.bipush 10, 2) := by decide +kernel
theorem dL_links_387 : decode cL_links 387 = .ok (.if_icmp .ge 132, 3) := by decide +kernel
theorem dL_links_390 : decode cL_links 390 = .ok (.aload 9, 2) := by decide +kernel
theorem dL_links_392 : decode cL_links 392 = .ok (.iload 11, 2) := by decide +kernel
theorem dL_links_394 : decode cL_links 394 = .ok (.iaload, 1) := by decide +kernel
theorem dL_links_395 : decode cL_links 395 = .ok (.ifCond .le 30, 3) := by decide +kernel
theorem dL_links_398 : decode cL_links 398 = .ok (.aload_n 0, 1) := by decide +kernel
theorem dL_links_399 : decode cL_links 399 = .ok (.iload 10, 2) := by decide +kernel
theorem dL_links_401 : decode cL_links 401 = .ok (.invokestatic 106, 3) := by decide +kernel
theorem dL_links_404 : decode cL_links 404 = .ok (.bipush (-73), 2) := by decide +kernel
theorem dL_links_406 : decode cL_links 406 = .ok (.if_icmp .ne 17, 3) := by decide +kernel
theorem dL_links_409 : decode cL_links 409 = .ok (.aload_n 0, 1) := by decide +kernel
theorem dL_links_410 : decode cL_links 410 = .ok (.iconst 2, 1) := by decide +kernel
theorem dL_links_411 : decode cL_links 411 = .ok (.invokestatic 106, 3) := by decide +kernel
theorem dL_links_414 : decode cL_links 414 = .ok (.bipush (-71), 2) := by decide +kernel
theorem dL_links_416 : decode cL_links 416 = .ok (.if_icmp .ne 7, 3) := by decide +kernel
theorem dL_links_419 : decode cL_links 419 = .ok (.iconst 1, 1) := by decide +kernel
theorem dL_links_420 : decode cL_links 420 = .ok (.goto 4, 3) := by decide +kernel
theorem dL_links_423 : decode cL_links 423 = .ok (.iconst 0, 1) := by decide +kernel
theorem dL_links_424 : decode cL_links 424 = .ok (.ireturn, 1) := by decide +kernel
theorem dL_links_425 : decode cL_links 425 = .ok (.bipush 6, 2) := by decide +kernel
theorem dL_links_427 : decode cL_links 427 = .ok (.iload 10, 2) := by decide +kernel
theorem dL_links_429 : decode cL_links 429 = .ok (.imul, 1) := by decide +kernel
theorem dL_links_430 : decode cL_links 430 = .ok (.istore 14, 2) := by decide +kernel
theorem dL_links_432 : decode cL_links 432 = .ok (.iload 14, 2) := by decide +kernel
theorem dL_links_434 : decode cL_links 434 = .ok (.bipush 6, 2) := by decide +kernel
theorem dL_links_436 : decode cL_links 436 = .ok (.iload 10, 2) := by decide +kernel
theorem dL_links_438 : decode cL_links 438 = .ok (.imul, 1) := by decide +kernel
theorem dL_links_439 : decode cL_links 439 = .ok (.bipush 6, 2) := by decide +kernel
theorem dL_links_441 : decode cL_links 441 = .ok (.iadd, 1) := by decide +kernel
theorem dL_links_442 : decode cL_links 442 = .ok (.if_icmp .ge 19, 3) := by decide +kernel
theorem dL_links_445 : decode cL_links 445 = .ok (.aload 8, 2) := by decide +kernel
theorem dL_links_447 : decode cL_links 447 = .ok (.iload 14, 2) := by decide +kernel
theorem dL_links_449 : decode cL_links 449 = .ok (.aload 6, 2) := by decide +kernel
theorem dL_links_451 : decode cL_links 451 = .ok (.iload 14, 2) := by decide +kernel
theorem dL_links_453 : decode cL_links 453 = .ok (.iaload, 1) := by decide +kernel
theorem dL_links_454 : decode cL_links 454 = .ok (.iastore, 1) := by decide +kernel
theorem dL_links_455 : decode cL_links 455 = .ok (.iinc 14 1, 3) := by decide +kernel
theorem dL_links_458 : decode cL_links 458 = .ok (.goto (-26), 3) := by decide +kernel
theorem dL_links_461 : decode cL_links 461 = .ok (.aload 9, 2) := by decide +kernel
theorem dL_links_463 : decode cL_links 463 = .ok (.iload 11, 2) := by decide +kernel
theorem dL_links_465 : decode cL_links 465 = .ok (.iconst 1, 1) := by decide +kernel
theorem dL_links_466 : decode cL_links 466 = .ok (.iastore, 1) := by decide +kernel
theorem dL_links_467 : decode cL_links 467 = .ok (.aload 9, 2) := by decide +kernel
theorem dL_links_469 : decode cL_links 469 = .ok (.iload 11, 2) := by decide +kernel
theorem dL_links_471 : decode cL_links 471 = .ok (.iconst 2, 1) := by decide +kernel
theorem dL_links_472 : decode cL_links 472 = .ok (.iadd, 1) := by decide +kernel
theorem dL_links_473 : decode cL_links 473 = .ok (.iconst 0, 1) := by decide +kernel
theorem dL_links_474 : decode cL_links 474 = .ok (.iastore, 1) := by decide +kernel
theorem dL_links_475 : decode cL_links 475 = .ok (.aload 12, 2) := by decide +kernel
theorem dL_links_477 : decode cL_links 477 = .ok (.aload 8, 2) := by decide +kernel
theorem dL_links_479 : decode cL_links 479 = .ok (.aload 9, 2) := by decide +kernel
theorem dL_links_481 : decode cL_links 481 = .ok (.iload 10, 2) := by decide +kernel
theorem dL_links_483 : decode cL_links 483 = .ok (.invokestatic 86, 3) := by decide +kernel
theorem dL_links_486 : decode cL_links 486 = .ok (.pop, 1) := by decide +kernel
theorem dL_links_487 : decode cL_links 487 = .ok (.aload_n 0, 1) := by decide +kernel
theorem dL_links_488 : decode cL_links 488 = .ok (.iconst (-1), 1) := by decide +kernel
theorem dL_links_489 : decode cL_links 489 = .ok (.invokestatic 106, 3) := by decide +kernel
theorem dL_links_492 : decode cL_links 492 = .ok (.bipush (-71), 2) := by decide +kernel
theorem dL_links_494 : decode cL_links 494 = .ok (.if_icmp .ne 23, 3) := by decide +kernel
theorem dL_links_497 : decode cL_links 497 = .ok (.aload_n 0, 1) := by decide +kernel
theorem dL_links_498 : decode cL_links 498 = .ok (.iload 10, 2) := by decide +kernel
theorem dL_links_500 : decode cL_links 500 = .ok (.invokestatic 106, 3) := by decide +kernel
theorem dL_links_503 : decode cL_links 503 = .ok (.aload 9, 2) := by decide +kernel
theorem dL_links_505 : decode cL_links 505 = .ok (.iload 11, 2) := by decide +kernel
theorem dL_links_507 : decode cL_links 507 = .ok (.iconst 1, 1) := by decide +kernel
theorem dL_links_508 : decode cL_links 508 = .ok (.iadd, 1) := by decide +kernel
theorem dL_links_509 : decode cL_links 509 = .ok (.iaload, 1) := by decide +kernel
theorem dL_links_510 : decode cL_links 510 = .ok (.if_icmp .ne 7, 3) := by decide +kernel
theorem dL_links_513 : decode cL_links 513 = .ok (.iconst 1, 1) := by decide +kernel
theorem dL_links_514 : decode cL_links 514 = .ok (.goto 4, 3) := by decide +kernel
theorem dL_links_517 : decode cL_links 517 = .ok (.iconst 0, 1) := by decide +kernel
theorem dL_links_518 : decode cL_links 518 = .ok (.ireturn, 1) := by decide +kernel
theorem dL_links_519 : decode cL_links 519 = .ok (.iload_n 1, 1) := by decide +kernel
theorem dL_links_520 : decode cL_links 520 = .ok (.bipush 10, 2) := by decide +kernel
theorem dL_links_522 : decode cL_links 522 = .ok (.if_icmp .ne 93, 3) := by decide +kernel
theorem dL_links_525 : decode cL_links 525 = .ok (.iload_n 3, 1) := by decide +kernel
theorem dL_links_526 : decode cL_links 526 = .ok (.bipush 6, 2) := by decide +kernel
theorem dL_links_528 : decode cL_links 528 = .ok (.iand, 1) := by decide +kernel
theorem dL_links_529 : decode cL_links 529 = .ok (.ifCond .le 19, 3) := by decide +kernel
theorem dL_links_532 : decode cL_links 532 = .ok (.aload_n 0, 1) := by decide +kernel
theorem dL_links_533 : decode cL_links 533 = .ok (.iconst 2, 1) := by decide +kernel
theorem dL_links_534 : decode cL_links 534 = .ok (.invokestatic 109, 3) := by decide +kernel
theorem dL_links_537 : decode cL_links 537 = .ok (.bipush (-71), 2) := by decide +kernel
theorem dL_links_539 : decode cL_links 539 = .ok (.if_icmp .ne 7, 3) := by decide +kernel
theorem dL_links_542 : decode cL_links 542 = .ok (.iconst 1, 1) := by decide +kernel
theorem dL_links_543 : decode cL_links 543 = .ok (.goto 4, 3) := by decide +kernel
theorem dL_links_546 : decode cL_links 546 = .ok (.iconst 0, 1) := by decide +kernel
theorem dL_links_547 : decode cL_links 547 = .ok (.ireturn, 1) := by decide +kernel
theorem dL_links_548 : decode cL_links 548 = .ok (.aload 9, 2) := by decide +kernel
theorem dL_links_550 : decode cL_links 550 = .ok (.iload 11, 2) := by decide +kernel
theorem dL_links_552 : decode cL_links 552 = .ok (.iaload, 1) := by decide +kernel
theorem dL_links_553 : decode cL_links 553 = .ok (.ifCond .ne 20, 3) := by decide +kernel
theorem dL_links_556 : decode cL_links 556 = .ok (.aload_n 0, 1) := by decide +kernel
theorem dL_links_557 : decode cL_links 557 = .ok (.iload 10, 2) := by decide +kernel
theorem dL_links_559 : decode cL_links 559 = .ok (.invokestatic 109, 3) := by decide +kernel
theorem dL_links_562 : decode cL_links 562 = .ok (.bipush (-73), 2) := by decide +kernel
theorem dL_links_564 : decode cL_links 564 = .ok (.if_icmp .ne 7, 3) := by decide +kernel
theorem dL_links_567 : decode cL_links 567 = .ok (.iconst 1, 1) := by decide +kernel
theorem dL_links_568 : decode cL_links 568 = .ok (.goto 4, 3) := by decide +kernel
theorem dL_links_571 : decode cL_links 571 = .ok (.iconst 0, 1) := by decide +kernel
theorem dL_links_572 : decode cL_links 572 = .ok (.ireturn, 1) := by decide +kernel
theorem dL_links_573 : decode cL_links 573 = .ok (.aload 9, 2) := by decide +kernel
theorem dL_links_575 : decode cL_links 575 = .ok (.iload 11, 2) := by decide +kernel
theorem dL_links_577 : decode cL_links 577 = .ok (.iaload, 1) := by decide +kernel
theorem dL_links_578 : decode cL_links 578 = .ok (.istore 14, 2) := by decide +kernel
theorem dL_links_580 : decode cL_links 580 = .ok (.aload 12, 2) := by decide +kernel
theorem dL_links_582 : decode cL_links 582 = .ok (.aload 9, 2) := by decide +kernel
theorem dL_links_584 : decode cL_links 584 = .ok (.iload 10, 2) := by decide +kernel
theorem dL_links_586 : decode cL_links 586 = .ok (.iconst 4, 1) := by decide +kernel
theorem dL_links_587 : decode cL_links 587 = .ok (.iconst 0, 1) := by decide +kernel
theorem dL_links_588 : decode cL_links 588 = .ok (.lconst 0, 1) := by decide +kernel
theorem dL_links_589 : decode cL_links 589 = .ok (.invokestatic 73, 3) := by decide +kernel
theorem dL_links_592 : decode cL_links 592 = .ok (.aload 9, 2) := by decide +kernel
theorem dL_links_594 : decode cL_links 594 = .ok (.iload 11, 2) := by decide +kernel
theorem dL_links_596 : decode cL_links 596 = .ok (.iconst 0, 1) := by decide +kernel
theorem dL_links_597 : decode cL_links 597 = .ok (.iastore, 1) := by decide +kernel
theorem dL_links_598 : decode cL_links 598 = .ok (.aload_n 0, 1) := by decide +kernel
theorem dL_links_599 : decode cL_links 599 = .ok (.iload 10, 2) := by decide +kernel
theorem dL_links_601 : decode cL_links 601 = .ok (.invokestatic 109, 3) := by decide +kernel
theorem dL_links_604 : decode cL_links 604 = .ok (.iload 14, 2) := by decide +kernel
theorem dL_links_606 : decode cL_links 606 = .ok (.if_icmp .ne 7, 3) := by decide +kernel
theorem dL_links_609 : decode cL_links 609 = .ok (.iconst 1, 1) := by decide +kernel
theorem dL_links_610 : decode cL_links 610 = .ok (.goto 4, 3) := by decide +kernel
theorem dL_links_613 : decode cL_links 613 = .ok (.iconst 0, 1) := by decide +kernel
theorem dL_links_614 : decode cL_links 614 = .ok (.ireturn, 1) := by decide +kernel
theorem dL_links_615 : decode cL_links 615 = .ok (.iload_n 1, 1) := by decide +kernel
theorem dL_links_616 : decode cL_links 616 = .ok (.bipush 14, 2) := by decide +kernel
theorem dL_links_618 : decode cL_links 618 = .ok (.if_icmp .ge 88, 3) := by decide +kernel
theorem dL_links_621 : decode cL_links 621 = .ok (.iconst 1, 1) := by decide +kernel
theorem dL_links_622 : decode cL_links 622 = .ok (.iload_n 3, 1) := by decide +kernel
theorem dL_links_623 : decode cL_links 623 = .ok (.iload_n 2, 1) := by decide +kernel
theorem dL_links_624 : decode cL_links 624 = .ok (.bipush 48, 2) := by decide +kernel
theorem dL_links_626 : decode cL_links 626 = .ok (.iand, 1) := by decide +kernel
theorem dL_links_627 : decode cL_links 627 = .ok (.ifCond .ne 8, 3) := by decide +kernel
theorem dL_links_630 : decode cL_links 630 = .ok (.bipush 50, 2) := by decide +kernel
theorem dL_links_632 : decode cL_links 632 = .ok (.goto 4, 3) := by decide +kernel
theorem dL_links_635 : decode cL_links 635 = .ok (.iconst 5, 1) := by decide +kernel
theorem dL_links_636 : decode cL_links 636 = .ok (.invokestatic 94, 3) := by decide +kernel
theorem dL_links_639 : decode cL_links 639 = .ok (.iadd, 1) := by decide +kernel
theorem dL_links_640 : decode cL_links 640 = .ok (.istore 14, 2) := by decide +kernel
theorem dL_links_642 : decode cL_links 642 = .ok (.iload 14, 2) := by decide +kernel
theorem dL_links_644 : decode cL_links 644 = .ok (.aload 4, 2) := by decide +kernel
theorem dL_links_646 : decode cL_links 646 = .ok (.aload 5, 2) := by decide +kernel
theorem dL_links_648 : decode cL_links 648 = .ok (.aload 8, 2) := by decide +kernel
theorem dL_links_650 : decode cL_links 650 = .ok (.aload 9, 2) := by decide +kernel
theorem dL_links_652 : decode cL_links 652 = .ok (.invokestatic 111, 3) := by decide +kernel
theorem dL_links_655 : decode cL_links 655 = .ok (.istore 15, 2) := by decide +kernel
theorem dL_links_657 : decode cL_links 657 = .ok (.aload_n 0, 1) := by decide +kernel
theorem dL_links_658 : decode cL_links 658 = .ok (.iconst 0, 1) := by decide +kernel
theorem dL_links_659 : decode cL_links 659 = .ok (.invokestatic 115, 3) := by decide +kernel
theorem dL_links_662 : decode cL_links 662 = .ok (.bipush (-72), 2) := by decide +kernel
theorem dL_links_664 : decode cL_links 664 = .ok (.if_icmp .ne 40, 3) := by decide +kernel
theorem dL_links_667 : decode cL_links 667 = .ok (.aload_n 0, 1) := by decide +kernel
theorem dL_links_668 : decode cL_links 668 = .ok (.bipush 51, 2) := by decide +kernel
theorem dL_links_670 : decode cL_links 670 = .ok (.invokestatic 115, 3) := by decide +kernel
theorem dL_links_673 : decode cL_links 673 = .ok (.bipush (-72), 2) := by decide +kernel
theorem dL_links_675 : decode cL_links 675 = .ok (.if_icmp .ne 29, 3) := by decide +kernel
theorem dL_links_678 : decode cL_links 678 = .ok (.aload_n 0, 1) := by decide +kernel
theorem dL_links_679 : decode cL_links 679 = .ok (.ldc 67, 2) := by decide +kernel
theorem dL_links_681 : decode cL_links 681 = .ok (.invokestatic 115, 3) := by decide +kernel
theorem dL_links_684 : decode cL_links 684 = .ok (.bipush (-72), 2) := by decide +kernel
theorem dL_links_686 : decode cL_links 686 = .ok (.if_icmp .ne 18, 3) := by decide +kernel
theorem dL_links_689 : decode cL_links 689 = .ok (.aload_n 0, 1) := by decide +kernel
theorem dL_links_690 : decode cL_links 690 = .ok (.iload 14, 2) := by decide +kernel
theorem dL_links_692 : decode cL_links 692 = .ok (.invokestatic 115, 3) := by decide +kernel
theorem dL_links_695 : decode cL_links 695 = .ok (.iload 15, 2) := by decide +kernel
theorem dL_links_697 : decode cL_links 697 = .ok (.if_icmp .ne 7, 3) := by decide +kernel
theorem dL_links_700 : decode cL_links 700 = .ok (.iconst 1, 1) := by decide +kernel
theorem dL_links_701 : decode cL_links 701 = .ok (.goto 4, 3) := by decide +kernel
theorem dL_links_704 : decode cL_links 704 = .ok (.iconst 0, 1) := by decide +kernel
theorem dL_links_705 : decode cL_links 705 = .ok (.ireturn, 1) := by decide +kernel
theorem dL_links_706 : decode cL_links 706 = .ok (.aload_n 0, 1) := by decide +kernel
theorem dL_links_707 : decode cL_links 707 = .ok (.iconst 2, 1) := by decide +kernel
theorem dL_links_708 : decode cL_links 708 = .ok (.invokestatic 117, 3) := by decide +kernel
theorem dL_links_711 : decode cL_links 711 = .ok (.bipush (-71), 2) := by decide +kernel
theorem dL_links_713 : decode cL_links 713 = .ok (.if_icmp .ne 23, 3) := by decide +kernel
theorem dL_links_716 : decode cL_links 716 = .ok (.aload_n 0, 1) := by decide +kernel
theorem dL_links_717 : decode cL_links 717 = .ok (.iconst (-1), 1) := by decide +kernel
theorem dL_links_718 : decode cL_links 718 = .ok (.invokestatic 119, 3) := by decide +kernel
theorem dL_links_721 : decode cL_links 721 = .ok (.bipush (-71), 2) := by decide +kernel
theorem dL_links_723 : decode cL_links 723 = .ok (.if_icmp .ne 13, 3) := by decide +kernel
theorem dL_links_726 : decode cL_links 726 = .ok (.aload_n 0, 1) := by decide +kernel
theorem dL_links_727 : decode cL_links 727 = .ok (.iconst 2, 1) := by decide +kernel
theorem dL_links_728 : decode cL_links 728 = .ok (.invokestatic 121, 3) := by decide +kernel
theorem dL_links_731 : decode cL_links 731 = .ok (.bipush (-71), 2) := by decide +kernel
theorem dL_links_733 : decode cL_links 733 = .ok (.if_icmp .eq 5, 3) := by decide +kernel
theorem dL_links_736 : decode cL_links 736 = .ok (.iconst 0, 1) := by decide +kernel
theorem dL_links_737 : decode cL_links 737 = .ok (.ireturn, 1) := by decide +kernel
theorem dL_links_738 : decode cL_links 738 = .ok (.aload 9, 2) := by decide +kernel
theorem dL_links_740 : decode cL_links 740 = .ok (.iload 11, 2) := by decide +kernel
theorem dL_links_742 : decode cL_links 742 = .ok (.bipush 7, 2) := by decide +kernel
theorem dL_links_744 : decode cL_links 744 = .ok (.iadd, 1) := by decide +kernel
theorem dL_links_745 : decode cL_links 745 = .ok (.iaload, 1) := by decide +kernel
theorem dL_links_746 : decode cL_links 746 = .ok (.ifCond .ne 42, 3) := by decide +kernel
theorem dL_links_749 : decode cL_links 749 = .ok (.aload_n 0, 1) := by decide +kernel
theorem dL_links_750 : decode cL_links 750 = .ok (.iload 10, 2) := by decide +kernel
theorem dL_links_752 : decode cL_links 752 = .ok (.invokestatic 117, 3) := by decide +kernel
theorem dL_links_755 : decode cL_links 755 = .ok (.bipush (-73), 2) := by decide +kernel
theorem dL_links_757 : decode cL_links 757 = .ok (.if_icmp .ne 29, 3) := by decide +kernel
theorem dL_links_760 : decode cL_links 760 = .ok (.aload_n 0, 1) := by decide +kernel
theorem dL_links_761 : decode cL_links 761 = .ok (.iload 10, 2) := by decide +kernel
theorem dL_links_763 : decode cL_links 763 = .ok (.invokestatic 119, 3) := by decide +kernel
theorem dL_links_766 : decode cL_links 766 = .ok (.bipush (-73), 2) := by decide +kernel
theorem dL_links_768 : decode cL_links 768 = .ok (.if_icmp .ne 18, 3) := by decide +kernel
theorem dL_links_771 : decode cL_links 771 = .ok (.aload_n 0, 1) := by decide +kernel
theorem dL_links_772 : decode cL_links 772 = .ok (.iload 10, 2) := by decide +kernel
theorem dL_links_774 : decode cL_links 774 = .ok (.invokestatic 121, 3) := by decide +kernel
theorem dL_links_777 : decode cL_links 777 = .ok (.bipush (-73), 2) := by decide +kernel
theorem dL_links_779 : decode cL_links 779 = .ok (.if_icmp .ne 7, 3) := by decide +kernel
theorem dL_links_782 : decode cL_links 782 = .ok (.iconst 1, 1) := by decide +kernel
theorem dL_links_783 : decode cL_links 783 = .ok (.goto 4, 3) := by decide +kernel
theorem dL_links_786 : decode cL_links 786 = .ok (.iconst 0, 1) := by decide +kernel
theorem dL_links_787 : decode cL_links 787 = .ok (.ireturn, 1) := by decide +kernel
theorem dL_links_788 : decode cL_links 788 = .ok (.aload 12, 2) := by decide +kernel
theorem dL_links_790 : decode cL_links 790 = .ok (.aload 9, 2) := by decide +kernel
theorem dL_links_792 : decode cL_links 792 = .ok (.iload 10, 2) := by decide +kernel
theorem dL_links_794 : decode cL_links 794 = .ok (.invokestatic 123, 3) := by decide +kernel
theorem dL_links_797 : decode cL_links 797 = .ok (.lstore 14, 2) := by decide +kernel
theorem dL_links_799 : decode cL_links 799 = .ok (.lload 14, 2) := by decide +kernel
theorem dL_links_801 : decode cL_links 801 = .ok (.ldc2_w 81, 3) := by decide +kernel
theorem dL_links_804 : decode cL_links 804 = .ok (.land, 1) := by decide +kernel
theorem dL_links_805 : decode cL_links 805 = .ok (.l2i, 1) := by decide +kernel
theorem dL_links_806 : decode cL_links 806 = .ok (.istore 16, 2) := by decide +kernel
theorem dL_links_808 : decode cL_links 808 = .ok (.iload_n 1, 1) := by decide +kernel
theorem dL_links_809 : decode cL_links 809 = .ok (.bipush 22, 2) := by decide +kernel
theorem dL_links_811 : decode cL_links 811 = .ok (.if_icmp .ge 47, 3) := by decide +kernel
theorem dL_links_814 : decode cL_links 814 = .ok (.lload 14, 2) := by decide +kernel
theorem dL_links_816 : decode cL_links 816 = .ok (.iload 10, 2) := by decide +kernel
theorem dL_links_818 : decode cL_links 818 = .ok (.ifCond .ne 8, 3) := by decide +kernel
theorem dL_links_821 : decode cL_links 821 = .ok (.aload 5, 2) := by decide +kernel
theorem dL_links_823 : decode cL_links 823 = .ok (.goto 5, 3) := by decide +kernel
theorem dL_links_826 : decode cL_links 826 = .ok (.aload 4, 2) := by decide +kernel
theorem dL_links_828 : decode cL_links 828 = .ok (.aload 7, 2) := by decide +kernel
theorem dL_links_830 : decode cL_links 830 = .ok (.aload 8, 2) := by decide +kernel
theorem dL_links_832 : decode cL_links 832 = .ok (.aload 9, 2) := by decide +kernel
theorem dL_links_834 : decode cL_links 834 = .ok (.iconst 1, 1) := by decide +kernel
theorem dL_links_835 : decode cL_links 835 = .ok (.iload 10, 2) := by decide +kernel
theorem dL_links_837 : decode cL_links 837 = .ok (.isub, 1) := by decide +kernel
theorem dL_links_838 : decode cL_links 838 = .ok (.invokestatic 127, 3) := by decide +kernel
theorem dL_links_841 : decode cL_links 841 = .ok (.aload_n 0, 1) := by decide +kernel
theorem dL_links_842 : decode cL_links 842 = .ok (.iload 10, 2) := by decide +kernel
theorem dL_links_844 : decode cL_links 844 = .ok (.invokestatic 117, 3) := by decide +kernel
theorem dL_links_847 : decode cL_links 847 = .ok (.iload 16, 2) := by decide +kernel
theorem dL_links_849 : decode cL_links 849 = .ok (.if_icmp .ne 7, 3) := by decide +kernel
theorem dL_links_852 : decode cL_links 852 = .ok (.iconst 1, 1) := by decide +kernel
theorem dL_links_853 : decode cL_links 853 = .ok (.goto 4, 3) := by decide +kernel
theorem dL_links_856 : decode cL_links 856 = .ok (.iconst 0, 1) := by decide +kernel
theorem dL_links_857 : decode cL_links 857 = .ok (.ireturn, 1) := by decide +kernel
theorem dL_links_858 : decode cL_links 858 = .ok (.aload 9, 2) := by decide +kernel
theorem dL_links_860 : decode cL_links 860 = .ok (.iload 11, 2) := by decide +kernel
theorem dL_links_862 : decode cL_links 862 = .ok (.iconst 5, 1) := by decide +kernel
theorem dL_links_863 : decode cL_links 863 = .ok (.iadd, 1) := by decide +kernel
theorem dL_links_864 : decode cL_links 864 = .ok (.dup2, 1) := by decide +kernel
theorem dL_links_865 : decode cL_links 865 = .ok (.iaload, 1) := by decide +kernel
theorem dL_links_866 : decode cL_links 866 = .ok (.iconst 1, 1) := by decide +kernel
theorem dL_links_867 : decode cL_links 867 = .ok (.iadd, 1) := by decide +kernel
theorem dL_links_868 : decode cL_links 868 = .ok (.iastore, 1) := by decide +kernel
theorem dL_links_869 : decode cL_links 869 = .ok (.iload_n 1, 1) := by decide +kernel
theorem dL_links_870 : decode cL_links 870 = .ok (.bipush 22, 2) := by decide +kernel
theorem dL_links_872 : decode cL_links 872 = .ok (.if_icmp .ne 20, 3) := by decide +kernel
theorem dL_links_875 : decode cL_links 875 = .ok (.aload_n 0, 1) := by decide +kernel
theorem dL_links_876 : decode cL_links 876 = .ok (.iload 10, 2) := by decide +kernel
theorem dL_links_878 : decode cL_links 878 = .ok (.invokestatic 119, 3) := by decide +kernel
theorem dL_links_881 : decode cL_links 881 = .ok (.iload 16, 2) := by decide +kernel
theorem dL_links_883 : decode cL_links 883 = .ok (.if_icmp .ne 7, 3) := by decide +kernel
theorem dL_links_886 : decode cL_links 886 = .ok (.iconst 1, 1) := by decide +kernel
theorem dL_links_887 : decode cL_links 887 = .ok (.goto 4, 3) := by decide +kernel
theorem dL_links_890 : decode cL_links 890 = .ok (.iconst 0, 1) := by decide +kernel
theorem dL_links_891 : decode cL_links 891 = .ok (.ireturn, 1) := by decide +kernel
theorem dL_links_892 : decode cL_links 892 = .ok (.lload 14, 2) := by decide +kernel
theorem dL_links_894 : decode cL_links 894 = .ok (.aload 12, 2) := by decide +kernel
theorem dL_links_896 : decode cL_links 896 = .ok (.aload 7, 2) := by decide +kernel
theorem dL_links_898 : decode cL_links 898 = .ok (.aload 8, 2) := by decide +kernel
theorem dL_links_900 : decode cL_links 900 = .ok (.aload 9, 2) := by decide +kernel
theorem dL_links_902 : decode cL_links 902 = .ok (.iload 10, 2) := by decide +kernel
theorem dL_links_904 : decode cL_links 904 = .ok (.invokestatic 127, 3) := by decide +kernel
theorem dL_links_907 : decode cL_links 907 = .ok (.aload_n 0, 1) := by decide +kernel
theorem dL_links_908 : decode cL_links 908 = .ok (.iload 10, 2) := by decide +kernel
theorem dL_links_910 : decode cL_links 910 = .ok (.invokestatic 121, 3) := by decide +kernel
theorem dL_links_913 : decode cL_links 913 = .ok (.iload 16, 2) := by decide +kernel
theorem dL_links_915 : decode cL_links 915 = .ok (.if_icmp .ne 7, 3) := by decide +kernel
theorem dL_links_918 : decode cL_links 918 = .ok (.iconst 1, 1) := by decide +kernel
theorem dL_links_919 : decode cL_links 919 = .ok (.goto 4, 3) := by decide +kernel
theorem dL_links_922 : decode cL_links 922 = .ok (.iconst 0, 1) := by decide +kernel
theorem dL_links_923 : decode cL_links 923 = .ok (.ireturn, 1) := by decide +kernel
theorem dL_follow_0 : decode cL_follow 0 = .ok (.aload_n 3, 1) := by decide +kernel
theorem dL_follow_1 : decode cL_follow 1 = .ok (.iconst 3, 1) := by decide +kernel
theorem dL_follow_2 : decode cL_follow 2 = .ok (.iaload, 1) := by decide +kernel
theorem dL_follow_3 : decode cL_follow 3 = .ok (.aload_n 3, 1) := by decide +kernel
theorem dL_follow_4 : decode cL_follow 4 = .ok (.iconst 4, 1) := by decide +kernel
theorem dL_follow_5 : decode cL_follow 5 = .ok (.iaload, 1) := by decide +kernel
theorem dL_follow_6 : decode cL_follow 6 = .ok (.if_icmp .ge 9, 3) := by decide +kernel
theorem dL_follow_9 : decode cL_follow 9 = .ok (.aload_n 3, 1) := by decide +kernel
theorem dL_follow_10 : decode cL_follow 10 = .ok (.iconst 3, 1) := by decide +kernel
theorem dL_follow_11 : decode cL_follow 11 = .ok (.iaload, 1) := by decide +kernel
theorem dL_follow_12 : decode cL_follow 12 = .ok (.goto 6, 3) := by decide +kernel
theorem dL_follow_15 : decode cL_follow 15 = .ok (.aload_n 3, 1) := by decide +kernel
theorem dL_follow_16 : decode cL_follow 16 = .ok (.iconst 4, 1) := by decide +kernel
theorem dL_follow_17 : decode cL_follow 17 = .ok (.iaload, 1) := by decide +kernel
theorem dL_follow_18 : decode cL_follow 18 = .ok (.istore 4, 2) := by decide +kernel
theorem dL_follow_20 : decode cL_follow 20 = .ok (.aload_n 3, 1) := by decide +kernel
theorem dL_follow_21 : decode cL_follow 21 = .ok (.iconst 5, 1) := by decide +kernel
theorem dL_follow_22 : decode cL_follow 22 = .ok (.iaload, 1) := by decide +kernel
theorem dL_follow_23 : decode cL_follow 23 = .ok (.iload 4, 2) := by decide +kernel
theorem dL_follow_25 : decode cL_follow 25 = .ok (.if_icmp .ge 9, 3) := by decide +kernel
theorem dL_follow_28 : decode cL_follow 28 = .ok (.aload_n 3, 1) := by decide +kernel
theorem dL_follow_29 : decode cL_follow 29 = .ok (.iconst 5, 1) := by decide +kernel
theorem dL_follow_30 : decode cL_follow 30 = .ok (.iaload, 1) := by decide +kernel
theorem dL_follow_31 : decode cL_follow 31 = .ok (.goto 5, 3) := by decide +kernel
theorem dL_follow_34 : decode cL_follow 34 = .ok (.iload 4, 2) := by decide +kernel
theorem dL_follow_36 : decode cL_follow 36 = .ok (.istore 4, 2) := by decide +kernel
theorem dL_follow_38 : decode cL_follow 38 = .ok (.iconst 0, 1) := by decide +kernel
theorem dL_follow_39 : decode cL_follow 39 = .ok (.istore 5, 2) := by decide +kernel
theorem dL_follow_41 : decode cL_follow 41 = .ok (.aload_n 3, 1) := by decide +kernel
theorem dL_follow_42 : decode cL_follow 42 = .ok (.bipush 8, 2) := by decide +kernel
theorem dL_follow_44 : decode cL_follow 44 = .ok (.iaload, 1) := by decide +kernel
theorem dL_follow_45 : decode cL_follow 45 = .ok (.aload_n 3, 1) := by decide +kernel
theorem dL_follow_46 : decode cL_follow 46 = .ok (.bipush 6, 2) := by decide +kernel
theorem dL_follow_48 : decode cL_follow 48 = .ok (.iaload, 1) := by decide +kernel
theorem dL_follow_49 : decode cL_follow 49 = .ok (.if_icmp .ge 180, 3) := by decide +kernel
theorem dL_follow_52 : decode cL_follow 52 = .ok (.aload_n 0, 1) := by decide +kernel
theorem dL_follow_53 : decode cL_follow 53 = .ok (.iload 5, 2) := by decide +kernel
theorem dL_follow_55 : decode cL_follow 55 = .ok (.iconst 1, 1) := by decide +kernel
theorem dL_follow_56 : decode cL_follow 56 = .ok (.iadd, 1) := by decide +kernel
theorem dL_follow_57 : decode cL_follow 57 = .ok (.iaload, 1) := by decide +kernel
theorem dL_follow_58 : decode cL_follow 58 = .ok (.aload_n 3, 1) := by decide +kernel
theorem dL_follow_59 : decode cL_follow 59 = .ok (.bipush 8, 2) := by decide +kernel
theorem dL_follow_61 : decode cL_follow 61 = .ok (.iaload, 1) := by decide +kernel
theorem dL_follow_62 : decode cL_follow 62 = .ok (.if_icmp .gt 9, 3) := by decide +kernel
theorem dL_follow_65 : decode cL_follow 65 = .ok (.iinc 5 1, 3) := by decide +kernel
theorem dL_follow_68 : decode cL_follow 68 = .ok (.goto (-16), 3) := by decide +kernel
theorem dL_follow_71 : decode cL_follow 71 = .ok (.aload_n 1, 1) := by decide +kernel
theorem dL_follow_72 : decode cL_follow 72 = .ok (.iconst 0, 1) := by decide +kernel
theorem dL_follow_73 : decode cL_follow 73 = .ok (.laload, 1) := by decide +kernel
theorem dL_follow_74 : decode cL_follow 74 = .ok (.aload_n 3, 1) := by decide +kernel
theorem dL_follow_75 : decode cL_follow 75 = .ok (.bipush 8, 2) := by decide +kernel
theorem dL_follow_77 : decode cL_follow 77 = .ok (.iaload, 1) := by decide +kernel
theorem dL_follow_78 : decode cL_follow 78 = .ok (.lshr, 1) := by decide +kernel
theorem dL_follow_79 : decode cL_follow 79 = .ok (.lconst 1, 1) := by decide +kernel
theorem dL_follow_80 : decode cL_follow 80 = .ok (.land, 1) := by decide +kernel
theorem dL_follow_81 : decode cL_follow 81 = .ok (.lconst 1, 1) := by decide +kernel
theorem dL_follow_82 : decode cL_follow 82 = .ok (.lcmp, 1) := by decide +kernel
theorem dL_follow_83 : decode cL_follow 83 = .ok (.ifCond .ne 7, 3) := by decide +kernel
theorem dL_follow_86 : decode cL_follow 86 = .ok (.iconst 1, 1) := by decide +kernel
theorem dL_follow_87 : decode cL_follow 87 = .ok (.goto 4, 3) := by decide +kernel
theorem dL_follow_90 : decode cL_follow 90 = .ok (.iconst 0, 1) := by decide +kernel
theorem dL_follow_91 : decode cL_follow 91 = .ok (.istore 6, 2) := by decide +kernel
theorem dL_follow_93 : decode cL_follow 93 = .ok (.iload 6, 2) := by decide +kernel
theorem dL_follow_95 : decode cL_follow 95 = .ok (.ifCond .ne 13, 3) := by decide +kernel
theorem dL_follow_98 : decode cL_follow 98 = .ok (.aload_n 3, 1) := by decide +kernel
theorem dL_follow_99 : decode cL_follow 99 = .ok (.bipush 8, 2) := by decide +kernel
theorem dL_follow_101 : decode cL_follow 101 = .ok (.iaload, 1) := by decide +kernel
theorem dL_follow_102 : decode cL_follow 102 = .ok (.iload 4, 2) := by decide +kernel
theorem dL_follow_104 : decode cL_follow 104 = .ok (.if_icmp .lt 4, 3) := by decide +kernel
theorem dL_follow_107 : decode cL_follow 107 = .ok (.return_, 1) := by decide +kernel
theorem dL_follow_108 : decode cL_follow 108 = .ok (.iload 6, 2) := by decide +kernel
theorem dL_follow_110 : decode cL_follow 110 = .ok (.ifCond .eq 14, 3) := by decide +kernel
theorem dL_follow_113 : decode cL_follow 113 = .ok (.aload_n 3, 1) := by decide +kernel
theorem dL_follow_114 : decode cL_follow 114 = .ok (.bipush 8, 2) := by decide +kernel
theorem dL_follow_116 : decode cL_follow 116 = .ok (.iaload, 1) := by decide +kernel
theorem dL_follow_117 : decode cL_follow 117 = .ok (.aload_n 0, 1) := by decide +kernel
theorem dL_follow_118 : decode cL_follow 118 = .ok (.iload 5, 2) := by decide +kernel
theorem dL_follow_120 : decode cL_follow 120 = .ok (.iaload, 1) := by decide +kernel
theorem dL_follow_121 : decode cL_follow 121 = .ok (.if_icmp .le 14, 3) := by decide +kernel
theorem dL_follow_124 : decode cL_follow 124 = .ok (.aload_n 3, 1) := by decide +kernel
theorem dL_follow_125 : decode cL_follow 125 = .ok (.bipush 8, 2) := by decide +kernel
theorem dL_follow_127 : decode cL_follow 127 = .ok (.dup2, 1) := by decide +kernel
theorem dL_follow_128 : decode cL_follow 128 = .ok (.iaload, 1) := by decide +kernel
theorem dL_follow_129 : decode cL_follow 129 = .ok (.iconst 1, 1) := by decide +kernel
theorem dL_follow_130 : decode cL_follow 130 = .ok (.iadd, 1) := by decide +kernel
theorem dL_follow_131 : decode cL_follow 131 = .ok (.iastore, 1) := by decide +kernel
theorem dL_follow_132 : decode cL_follow 132 = .ok (.goto (-91), 3) := by decide +kernel
theorem dL_follow_135 : decode cL_follow 135 = .ok (.aload_n 3, 1) := by decide +kernel
theorem dL_follow_136 : decode cL_follow 136 = .ok (.bipush 8, 2) := by decide +kernel
theorem dL_follow_138 : decode cL_follow 138 = .ok (.iaload, 1) := by decide +kernel
theorem dL_follow_139 : decode cL_follow 139 = .ok (.istore 7, 2) := by decide +kernel
theorem dL_follow_141 : decode cL_follow 141 = .ok (.iload 7, 2) := by decide +kernel
theorem dL_follow_143 : decode cL_follow 143 = .ok (.aload_n 0, 1) := by decide +kernel
theorem dL_follow_144 : decode cL_follow 144 = .ok (.iload 5, 2) := by decide +kernel
theorem dL_follow_146 : decode cL_follow 146 = .ok (.iconst 1, 1) := by decide +kernel
theorem dL_follow_147 : decode cL_follow 147 = .ok (.iadd, 1) := by decide +kernel
theorem dL_follow_148 : decode cL_follow 148 = .ok (.iaload, 1) := by decide +kernel
theorem dL_follow_149 : decode cL_follow 149 = .ok (.if_icmp .ge 22, 3) := by decide +kernel
theorem dL_follow_152 : decode cL_follow 152 = .ok (.aload_n 1, 1) := by decide +kernel
theorem dL_follow_153 : decode cL_follow 153 = .ok (.iconst 0, 1) := by decide +kernel
theorem dL_follow_154 : decode cL_follow 154 = .ok (.laload, 1) := by decide +kernel
theorem dL_follow_155 : decode cL_follow 155 = .ok (.iload 7, 2) := by decide +kernel
theorem dL_follow_157 : decode cL_follow 157 = .ok (.lshr, 1) := by decide +kernel
theorem dL_follow_158 : decode cL_follow 158 = .ok (.lconst 1, 1) := by decide +kernel
theorem dL_follow_159 : decode cL_follow 159 = .ok (.land, 1) := by decide +kernel
theorem dL_follow_160 : decode cL_follow 160 = .ok (.lconst 1, 1) := by decide +kernel
theorem dL_follow_161 : decode cL_follow 161 = .ok (.lcmp, 1) := by decide +kernel
theorem dL_follow_162 : decode cL_follow 162 = .ok (.ifCond .ne 9, 3) := by decide +kernel
theorem dL_follow_165 : decode cL_follow 165 = .ok (.iinc 7 1, 3) := by decide +kernel
theorem dL_follow_168 : decode cL_follow 168 = .ok (.goto (-27), 3) := by decide +kernel
theorem dL_follow_171 : decode cL_follow 171 = .ok (.iload 7, 2) := by decide +kernel
theorem dL_follow_173 : decode cL_follow 173 = .ok (.aload_n 0, 1) := by decide +kernel
theorem dL_follow_174 : decode cL_follow 174 = .ok (.iload 5, 2) := by decide +kernel
theorem dL_follow_176 : decode cL_follow 176 = .ok (.iconst 1, 1) := by decide +kernel
theorem dL_follow_177 : decode cL_follow 177 = .ok (.iadd, 1) := by decide +kernel
theorem dL_follow_178 : decode cL_follow 178 = .ok (.iaload, 1) := by decide +kernel
theorem dL_follow_179 : decode cL_follow 179 = .ok (.if_icmp .ne 28, 3) := by decide +kernel
theorem dL_follow_182 : decode cL_follow 182 = .ok (.aload_n 2, 1) := by decide +kernel
theorem dL_follow_183 : decode cL_follow 183 = .ok (.aload_n 3, 1) := by decide +kernel
theorem dL_follow_184 : decode cL_follow 184 = .ok (.bipush 9, 2) := by decide +kernel
theorem dL_follow_186 : decode cL_follow 186 = .ok (.iaload, 1) := by decide +kernel
theorem dL_follow_187 : decode cL_follow 187 = .ok (.iload 5, 2) := by decide +kernel
theorem dL_follow_189 : decode cL_follow 189 = .ok (.iastore, 1) := by decide +kernel
theorem dL_follow_190 : decode cL_follow 190 = .ok (.aload_n 3, 1) := by decide +kernel
theorem dL_follow_191 : decode cL_follow 191 = .ok (.bipush 9, 2) := by decide +kernel
theorem dL_follow_193 : decode cL_follow 193 = .ok (.dup2, 1) := by decide +kernel
theorem dL_follow_194 : decode cL_follow 194 = .ok (.iaload, 1) := by decide +kernel
theorem dL_follow_195 : decode cL_follow 195 = .ok (.iconst 1, 1) := by decide +kernel
theorem dL_follow_196 : decode cL_follow 196 = .ok (.iadd, 1) := by decide +kernel
theorem dL_follow_197 : decode cL_follow 197 = .ok (.iastore, 1) := by decide +kernel
theorem dL_follow_198 : decode cL_follow 198 = .ok (.aload_n 3, 1) := by decide +kernel
theorem dL_follow_199 : decode cL_follow 199 = .ok (.bipush 8, 2) := by decide +kernel
theorem dL_follow_201 : decode cL_follow 201 = .ok (.iload 7, 2) := by decide +kernel
theorem dL_follow_203 : decode cL_follow 203 = .ok (.iastore, 1) := by decide +kernel
theorem dL_follow_204 : decode cL_follow 204 = .ok (.goto 22, 3) := by decide +kernel
theorem dL_follow_207 : decode cL_follow 207 = .ok (.iload 7, 2) := by decide +kernel
theorem dL_follow_209 : decode cL_follow 209 = .ok (.iload 4, 2) := by decide +kernel
theorem dL_follow_211 : decode cL_follow 211 = .ok (.if_icmp .ge 14, 3) := by decide +kernel
theorem dL_follow_214 : decode cL_follow 214 = .ok (.aload_n 3, 1) := by decide +kernel
theorem dL_follow_215 : decode cL_follow 215 = .ok (.bipush 8, 2) := by decide +kernel
theorem dL_follow_217 : decode cL_follow 217 = .ok (.iload 7, 2) := by decide +kernel
theorem dL_follow_219 : decode cL_follow 219 = .ok (.iconst 1, 1) := by decide +kernel
theorem dL_follow_220 : decode cL_follow 220 = .ok (.iadd, 1) := by decide +kernel
theorem dL_follow_221 : decode cL_follow 221 = .ok (.iastore, 1) := by decide +kernel
theorem dL_follow_222 : decode cL_follow 222 = .ok (.goto 4, 3) := by decide +kernel
theorem dL_follow_225 : decode cL_follow 225 = .ok (.return_, 1) := by decide +kernel
theorem dL_follow_226 : decode cL_follow 226 = .ok (.goto (-185), 3) := by decide +kernel
theorem dL_follow_229 : decode cL_follow 229 = .ok (.return_, 1) := by decide +kernel
theorem dL_bundles_0 : decode cL_bundles 0 = .ok (.iload_n 1, 1) := by decide +kernel
theorem dL_bundles_1 : decode cL_bundles 1 = .ok (.iconst 2, 1) := by decide +kernel
theorem dL_bundles_2 : decode cL_bundles 2 = .ok (.if_icmp .ge 141, 3) := by decide +kernel
theorem dL_bundles_5 : decode cL_bundles 5 = .ok (.iconst 1, 1) := by decide +kernel
theorem dL_bundles_6 : decode cL_bundles 6 = .ok (.iload_n 2, 1) := by decide +kernel
theorem dL_bundles_7 : decode cL_bundles 7 = .ok (.iconst 4, 1) := by decide +kernel
theorem dL_bundles_8 : decode cL_bundles 8 = .ok (.invokestatic 94, 3) := by decide +kernel
theorem dL_bundles_11 : decode cL_bundles 11 = .ok (.iadd, 1) := by decide +kernel
theorem dL_bundles_12 : decode cL_bundles 12 = .ok (.istore 8, 2) := by decide +kernel
theorem dL_bundles_14 : decode cL_bundles 14 = .ok (.aload_n 0, 1) := by decide +kernel
theorem dL_bundles_15 : decode cL_bundles 15 = .ok (.iconst 0, 1) := by decide +kernel
theorem dL_bundles_16 : decode cL_bundles 16 = .ok (.invokestatic 131, 3) := by decide +kernel
theorem dL_bundles_19 : decode cL_bundles 19 = .ok (.bipush (-72), 2) := by decide +kernel
theorem dL_bundles_21 : decode cL_bundles 21 = .ok (.if_icmp .ne 24, 3) := by decide +kernel
theorem dL_bundles_24 : decode cL_bundles 24 = .ok (.aload_n 0, 1) := by decide +kernel
theorem dL_bundles_25 : decode cL_bundles 25 = .ok (.iconst 5, 1) := by decide +kernel
theorem dL_bundles_26 : decode cL_bundles 26 = .ok (.invokestatic 131, 3) := by decide +kernel
theorem dL_bundles_29 : decode cL_bundles 29 = .ok (.bipush (-72), 2) := by decide +kernel
theorem dL_bundles_31 : decode cL_bundles 31 = .ok (.if_icmp .ne 14, 3) := by decide +kernel
theorem dL_bundles_34 : decode cL_bundles 34 = .ok (.aload_n 0, 1) := by decide +kernel
theorem dL_bundles_35 : decode cL_bundles 35 = .ok (.ldc 68, 2) := by decide +kernel
theorem dL_bundles_37 : decode cL_bundles 37 = .ok (.invokestatic 131, 3) := by decide +kernel
theorem dL_bundles_40 : decode cL_bundles 40 = .ok (.bipush (-72), 2) := by decide +kernel
theorem dL_bundles_42 : decode cL_bundles 42 = .ok (.if_icmp .eq 5, 3) := by decide +kernel
theorem dL_bundles_45 : decode cL_bundles 45 = .ok (.iconst 0, 1) := by decide +kernel
theorem dL_bundles_46 : decode cL_bundles 46 = .ok (.ireturn, 1) := by decide +kernel
theorem dL_bundles_47 : decode cL_bundles 47 = .ok (.aload 7, 2) := by decide +kernel
theorem dL_bundles_49 : decode cL_bundles 49 = .ok (.bipush 6, 2) := by decide +kernel
theorem dL_bundles_51 : decode cL_bundles 51 = .ok (.iaload, 1) := by decide +kernel
theorem dL_bundles_52 : decode cL_bundles 52 = .ok (.bipush 56, 2) := by decide +kernel
theorem dL_bundles_54 : decode cL_bundles 54 = .ok (.if_icmp .le 19, 3) := by decide +kernel
theorem dL_bundles_57 : decode cL_bundles 57 = .ok (.aload_n 0, 1) := by decide +kernel
theorem dL_bundles_58 : decode cL_bundles 58 = .ok (.iconst (-1), 1) := by decide +kernel
theorem dL_bundles_59 : decode cL_bundles 59 = .ok (.invokestatic 131, 3) := by decide +kernel
theorem dL_bundles_62 : decode cL_bundles 62 = .ok (.bipush (-72), 2) := by decide +kernel
theorem dL_bundles_64 : decode cL_bundles 64 = .ok (.if_icmp .ne 7, 3) := by decide +kernel
theorem dL_bundles_67 : decode cL_bundles 67 = .ok (.iconst 1, 1) := by decide +kernel
theorem dL_bundles_68 : decode cL_bundles 68 = .ok (.goto 4, 3) := by decide +kernel
theorem dL_bundles_71 : decode cL_bundles 71 = .ok (.iconst 0, 1) := by decide +kernel
theorem dL_bundles_72 : decode cL_bundles 72 = .ok (.ireturn, 1) := by decide +kernel
theorem dL_bundles_73 : decode cL_bundles 73 = .ok (.aload 4, 2) := by decide +kernel
theorem dL_bundles_75 : decode cL_bundles 75 = .ok (.aload 7, 2) := by decide +kernel
theorem dL_bundles_77 : decode cL_bundles 77 = .ok (.bipush 7, 2) := by decide +kernel
theorem dL_bundles_79 : decode cL_bundles 79 = .ok (.iaload, 1) := by decide +kernel
theorem dL_bundles_80 : decode cL_bundles 80 = .ok (.aload 7, 2) := by decide +kernel
theorem dL_bundles_82 : decode cL_bundles 82 = .ok (.bipush 6, 2) := by decide +kernel
theorem dL_bundles_84 : decode cL_bundles 84 = .ok (.iaload, 1) := by decide +kernel
theorem dL_bundles_85 : decode cL_bundles 85 = .ok (.iastore, 1) := by decide +kernel
theorem dL_bundles_86 : decode cL_bundles 86 = .ok (.aload 7, 2) := by decide +kernel
theorem dL_bundles_88 : decode cL_bundles 88 = .ok (.bipush 7, 2) := by decide +kernel
theorem dL_bundles_90 : decode cL_bundles 90 = .ok (.dup2, 1) := by decide +kernel
theorem dL_bundles_91 : decode cL_bundles 91 = .ok (.iaload, 1) := by decide +kernel
theorem dL_bundles_92 : decode cL_bundles 92 = .ok (.iconst 1, 1) := by decide +kernel
theorem dL_bundles_93 : decode cL_bundles 93 = .ok (.iadd, 1) := by decide +kernel
theorem dL_bundles_94 : decode cL_bundles 94 = .ok (.iastore, 1) := by decide +kernel
theorem dL_bundles_95 : decode cL_bundles 95 = .ok (.aload 7, 2) := by decide +kernel
theorem dL_bundles_97 : decode cL_bundles 97 = .ok (.bipush 6, 2) := by decide +kernel
theorem dL_bundles_99 : decode cL_bundles 99 = .ok (.dup2, 1) := by decide +kernel
theorem dL_bundles_100 : decode cL_bundles 100 = .ok (.iaload, 1) := by decide +kernel
theorem dL_bundles_101 : decode cL_bundles 101 = .ok (.iload 8, 2) := by decide +kernel
theorem dL_bundles_103 : decode cL_bundles 103 = .ok (.iadd, 1) := by decide +kernel
theorem dL_bundles_104 : decode cL_bundles 104 = .ok (.iastore, 1) := by decide +kernel
theorem dL_bundles_105 : decode cL_bundles 105 = .ok (.aload 4, 2) := by decide +kernel
theorem dL_bundles_107 : decode cL_bundles 107 = .ok (.aload 7, 2) := by decide +kernel
theorem dL_bundles_109 : decode cL_bundles 109 = .ok (.bipush 7, 2) := by decide +kernel
theorem dL_bundles_111 : decode cL_bundles 111 = .ok (.iaload, 1) := by decide +kernel
theorem dL_bundles_112 : decode cL_bundles 112 = .ok (.aload 7, 2) := by decide +kernel
theorem dL_bundles_114 : decode cL_bundles 114 = .ok (.bipush 6, 2) := by decide +kernel
theorem dL_bundles_116 : decode cL_bundles 116 = .ok (.iaload, 1) := by decide +kernel
theorem dL_bundles_117 : decode cL_bundles 117 = .ok (.iastore, 1) := by decide +kernel
theorem dL_bundles_118 : decode cL_bundles 118 = .ok (.aload_n 0, 1) := by decide +kernel
theorem dL_bundles_119 : decode cL_bundles 119 = .ok (.iload 8, 2) := by decide +kernel
theorem dL_bundles_121 : decode cL_bundles 121 = .ok (.invokestatic 131, 3) := by decide +kernel
theorem dL_bundles_124 : decode cL_bundles 124 = .ok (.aload 4, 2) := by decide +kernel
theorem dL_bundles_126 : decode cL_bundles 126 = .ok (.aload 7, 2) := by decide +kernel
theorem dL_bundles_128 : decode cL_bundles 128 = .ok (.bipush 7, 2) := by decide +kernel
theorem dL_bundles_130 : decode cL_bundles 130 = .ok (.iaload, 1) := by decide +kernel
theorem dL_bundles_131 : decode cL_bundles 131 = .ok (.iconst 1, 1) := by decide +kernel
theorem dL_bundles_132 : decode cL_bundles 132 = .ok (.isub, 1) := by decide +kernel
theorem dL_bundles_133 : decode cL_bundles 133 = .ok (.iaload, 1) := by decide +kernel
theorem dL_bundles_134 : decode cL_bundles 134 = .ok (.if_icmp .ne 7, 3) := by decide +kernel
theorem dL_bundles_137 : decode cL_bundles 137 = .ok (.iconst 1, 1) := by decide +kernel
theorem dL_bundles_138 : decode cL_bundles 138 = .ok (.goto 4, 3) := by decide +kernel
theorem dL_bundles_141 : decode cL_bundles 141 = .ok (.iconst 0, 1) := by decide +kernel
theorem dL_bundles_142 : decode cL_bundles 142 = .ok (.ireturn, 1) := by decide +kernel
theorem dL_bundles_143 : decode cL_bundles 143 = .ok (.iload_n 2, 1) := by decide +kernel
theorem dL_bundles_144 : decode cL_bundles 144 = .ok (.iconst 3, 1) := by decide +kernel
theorem dL_bundles_145 : decode cL_bundles 145 = .ok (.invokestatic 94, 3) := by decide +kernel
theorem dL_bundles_148 : decode cL_bundles 148 = .ok (.istore 8, 2) := by decide +kernel
theorem dL_bundles_150 : decode cL_bundles 150 = .ok (.iload 8, 2) := by decide +kernel
theorem dL_bundles_152 : decode cL_bundles 152 = .ok (.iconst 3, 1) := by decide +kernel
theorem dL_bundles_153 : decode cL_bundles 153 = .ok (.aload 7, 2) := by decide +kernel
theorem dL_bundles_155 : decode cL_bundles 155 = .ok (.iload 8, 2) := by decide +kernel
theorem dL_bundles_157 : decode cL_bundles 157 = .ok (.iaload, 1) := by decide +kernel
theorem dL_bundles_158 : decode cL_bundles 158 = .ok (.imul, 1) := by decide +kernel
theorem dL_bundles_159 : decode cL_bundles 159 = .ok (.iadd, 1) := by decide +kernel
theorem dL_bundles_160 : decode cL_bundles 160 = .ok (.istore 9, 2) := by decide +kernel
theorem dL_bundles_162 : decode cL_bundles 162 = .ok (.aload_n 0, 1) := by decide +kernel
theorem dL_bundles_163 : decode cL_bundles 163 = .ok (.iconst 3, 1) := by decide +kernel
theorem dL_bundles_164 : decode cL_bundles 164 = .ok (.invokestatic 133, 3) := by decide +kernel
theorem dL_bundles_167 : decode cL_bundles 167 = .ok (.bipush (-71), 2) := by decide +kernel
theorem dL_bundles_169 : decode cL_bundles 169 = .ok (.if_icmp .ne 13, 3) := by decide +kernel
theorem dL_bundles_172 : decode cL_bundles 172 = .ok (.aload_n 0, 1) := by decide +kernel
theorem dL_bundles_173 : decode cL_bundles 173 = .ok (.iconst (-1), 1) := by decide +kernel
theorem dL_bundles_174 : decode cL_bundles 174 = .ok (.invokestatic 135, 3) := by decide +kernel
theorem dL_bundles_177 : decode cL_bundles 177 = .ok (.bipush (-71), 2) := by decide +kernel
theorem dL_bundles_179 : decode cL_bundles 179 = .ok (.if_icmp .eq 5, 3) := by decide +kernel
theorem dL_bundles_182 : decode cL_bundles 182 = .ok (.iconst 0, 1) := by decide +kernel
theorem dL_bundles_183 : decode cL_bundles 183 = .ok (.ireturn, 1) := by decide +kernel
theorem dL_bundles_184 : decode cL_bundles 184 = .ok (.iload 9, 2) := by decide +kernel
theorem dL_bundles_186 : decode cL_bundles 186 = .ok (.aload 7, 2) := by decide +kernel
theorem dL_bundles_188 : decode cL_bundles 188 = .ok (.bipush 6, 2) := by decide +kernel
theorem dL_bundles_190 : decode cL_bundles 190 = .ok (.iaload, 1) := by decide +kernel
theorem dL_bundles_191 : decode cL_bundles 191 = .ok (.if_icmp .lt 31, 3) := by decide +kernel
theorem dL_bundles_194 : decode cL_bundles 194 = .ok (.aload_n 0, 1) := by decide +kernel
theorem dL_bundles_195 : decode cL_bundles 195 = .ok (.iload 8, 2) := by decide +kernel
theorem dL_bundles_197 : decode cL_bundles 197 = .ok (.invokestatic 133, 3) := by decide +kernel
theorem dL_bundles_200 : decode cL_bundles 200 = .ok (.bipush (-73), 2) := by decide +kernel
theorem dL_bundles_202 : decode cL_bundles 202 = .ok (.if_icmp .ne 18, 3) := by decide +kernel
theorem dL_bundles_205 : decode cL_bundles 205 = .ok (.aload_n 0, 1) := by decide +kernel
theorem dL_bundles_206 : decode cL_bundles 206 = .ok (.iload 8, 2) := by decide +kernel
theorem dL_bundles_208 : decode cL_bundles 208 = .ok (.invokestatic 135, 3) := by decide +kernel
theorem dL_bundles_211 : decode cL_bundles 211 = .ok (.bipush (-73), 2) := by decide +kernel
theorem dL_bundles_213 : decode cL_bundles 213 = .ok (.if_icmp .ne 7, 3) := by decide +kernel
theorem dL_bundles_216 : decode cL_bundles 216 = .ok (.iconst 1, 1) := by decide +kernel
theorem dL_bundles_217 : decode cL_bundles 217 = .ok (.goto 4, 3) := by decide +kernel
theorem dL_bundles_220 : decode cL_bundles 220 = .ok (.iconst 0, 1) := by decide +kernel
theorem dL_bundles_221 : decode cL_bundles 221 = .ok (.ireturn, 1) := by decide +kernel
theorem dL_bundles_222 : decode cL_bundles 222 = .ok (.aload 7, 2) := by decide +kernel
theorem dL_bundles_224 : decode cL_bundles 224 = .ok (.iload 8, 2) := by decide +kernel
theorem dL_bundles_226 : decode cL_bundles 226 = .ok (.dup2, 1) := by decide +kernel
theorem dL_bundles_227 : decode cL_bundles 227 = .ok (.iaload, 1) := by decide +kernel
theorem dL_bundles_228 : decode cL_bundles 228 = .ok (.iconst 1, 1) := by decide +kernel
theorem dL_bundles_229 : decode cL_bundles 229 = .ok (.iadd, 1) := by decide +kernel
theorem dL_bundles_230 : decode cL_bundles 230 = .ok (.iastore, 1) := by decide +kernel
theorem dL_bundles_231 : decode cL_bundles 231 = .ok (.iload_n 1, 1) := by decide +kernel
theorem dL_bundles_232 : decode cL_bundles 232 = .ok (.iconst 2, 1) := by decide +kernel
theorem dL_bundles_233 : decode cL_bundles 233 = .ok (.if_icmp .ne 20, 3) := by decide +kernel
theorem dL_bundles_236 : decode cL_bundles 236 = .ok (.aload_n 0, 1) := by decide +kernel
theorem dL_bundles_237 : decode cL_bundles 237 = .ok (.iload 8, 2) := by decide +kernel
theorem dL_bundles_239 : decode cL_bundles 239 = .ok (.invokestatic 135, 3) := by decide +kernel
theorem dL_bundles_242 : decode cL_bundles 242 = .ok (.iload 9, 2) := by decide +kernel
theorem dL_bundles_244 : decode cL_bundles 244 = .ok (.if_icmp .ne 7, 3) := by decide +kernel
theorem dL_bundles_247 : decode cL_bundles 247 = .ok (.iconst 1, 1) := by decide +kernel
theorem dL_bundles_248 : decode cL_bundles 248 = .ok (.goto 4, 3) := by decide +kernel
theorem dL_bundles_251 : decode cL_bundles 251 = .ok (.iconst 0, 1) := by decide +kernel
theorem dL_bundles_252 : decode cL_bundles 252 = .ok (.ireturn, 1) := by decide +kernel
theorem dL_bundles_253 : decode cL_bundles 253 = .ok (.aload 7, 2) := by decide +kernel
theorem dL_bundles_255 : decode cL_bundles 255 = .ok (.bipush 9, 2) := by decide +kernel
theorem dL_bundles_257 : decode cL_bundles 257 = .ok (.iaload, 1) := by decide +kernel
theorem dL_bundles_258 : decode cL_bundles 258 = .ok (.istore 10, 2) := by decide +kernel
theorem dL_bundles_260 : decode cL_bundles 260 = .ok (.aload 7, 2) := by decide +kernel
theorem dL_bundles_262 : decode cL_bundles 262 = .ok (.iconst 3, 1) := by decide +kernel
theorem dL_bundles_263 : decode cL_bundles 263 = .ok (.iload 8, 2) := by decide +kernel
theorem dL_bundles_265 : decode cL_bundles 265 = .ok (.iadd, 1) := by decide +kernel
theorem dL_bundles_266 : decode cL_bundles 266 = .ok (.iload 9, 2) := by decide +kernel
theorem dL_bundles_268 : decode cL_bundles 268 = .ok (.iastore, 1) := by decide +kernel
theorem dL_bundles_269 : decode cL_bundles 269 = .ok (.aload 5, 2) := by decide +kernel
theorem dL_bundles_271 : decode cL_bundles 271 = .ok (.iconst 0, 1) := by decide +kernel
theorem dL_bundles_272 : decode cL_bundles 272 = .ok (.dup2, 1) := by decide +kernel
theorem dL_bundles_273 : decode cL_bundles 273 = .ok (.laload, 1) := by decide +kernel
theorem dL_bundles_274 : decode cL_bundles 274 = .ok (.lconst 1, 1) := by decide +kernel
theorem dL_bundles_275 : decode cL_bundles 275 = .ok (.iload 9, 2) := by decide +kernel
theorem dL_bundles_277 : decode cL_bundles 277 = .ok (.lshl, 1) := by decide +kernel
theorem dL_bundles_278 : decode cL_bundles 278 = .ok (.lor, 1) := by decide +kernel
theorem dL_bundles_279 : decode cL_bundles 279 = .ok (.lastore, 1) := by decide +kernel
theorem dL_bundles_280 : decode cL_bundles 280 = .ok (.aload 4, 2) := by decide +kernel
theorem dL_bundles_282 : decode cL_bundles 282 = .ok (.aload 5, 2) := by decide +kernel
theorem dL_bundles_284 : decode cL_bundles 284 = .ok (.aload 6, 2) := by decide +kernel
theorem dL_bundles_286 : decode cL_bundles 286 = .ok (.aload 7, 2) := by decide +kernel
theorem dL_bundles_288 : decode cL_bundles 288 = .ok (.invokestatic 137, 3) := by decide +kernel
theorem dL_bundles_291 : decode cL_bundles 291 = .ok (.aload_n 0, 1) := by decide +kernel
theorem dL_bundles_292 : decode cL_bundles 292 = .ok (.iload 8, 2) := by decide +kernel
theorem dL_bundles_294 : decode cL_bundles 294 = .ok (.invokestatic 133, 3) := by decide +kernel
theorem dL_bundles_297 : decode cL_bundles 297 = .ok (.aload 7, 2) := by decide +kernel
theorem dL_bundles_299 : decode cL_bundles 299 = .ok (.bipush 9, 2) := by decide +kernel
theorem dL_bundles_301 : decode cL_bundles 301 = .ok (.iaload, 1) := by decide +kernel
theorem dL_bundles_302 : decode cL_bundles 302 = .ok (.iload 10, 2) := by decide +kernel
theorem dL_bundles_304 : decode cL_bundles 304 = .ok (.isub, 1) := by decide +kernel
theorem dL_bundles_305 : decode cL_bundles 305 = .ok (.if_icmp .ne 7, 3) := by decide +kernel
theorem dL_bundles_308 : decode cL_bundles 308 = .ok (.iconst 1, 1) := by decide +kernel
theorem dL_bundles_309 : decode cL_bundles 309 = .ok (.goto 4, 3) := by decide +kernel
theorem dL_bundles_312 : decode cL_bundles 312 = .ok (.iconst 0, 1) := by decide +kernel
theorem dL_bundles_313 : decode cL_bundles 313 = .ok (.ireturn, 1) := by decide +kernel
theorem dL_isTold_0 : decode cL_isTold 0 = .ok (.iconst 0, 1) := by decide +kernel
theorem dL_isTold_1 : decode cL_isTold 1 = .ok (.istore 5, 2) := by decide +kernel
theorem dL_isTold_3 : decode cL_isTold 3 = .ok (.iload 5, 2) := by decide +kernel
theorem dL_isTold_5 : decode cL_isTold 5 = .ok (.iconst 2, 1) := by decide +kernel
theorem dL_isTold_6 : decode cL_isTold 6 = .ok (.if_icmp .ge 140, 3) := by decide +kernel
theorem dL_isTold_9 : decode cL_isTold 9 = .ok (.bipush 8, 2) := by decide +kernel
theorem dL_isTold_11 : decode cL_isTold 11 = .ok (.iload 5, 2) := by decide +kernel
theorem dL_isTold_13 : decode cL_isTold 13 = .ok (.imul, 1) := by decide +kernel
theorem dL_isTold_14 : decode cL_isTold 14 = .ok (.istore 6, 2) := by decide +kernel
theorem dL_isTold_16 : decode cL_isTold 16 = .ok (.aload_n 0, 1) := by decide +kernel
theorem dL_isTold_17 : decode cL_isTold 17 = .ok (.iload 5, 2) := by decide +kernel
theorem dL_isTold_19 : decode cL_isTold 19 = .ok (.invokestatic 141, 3) := by decide +kernel
theorem dL_isTold_22 : decode cL_isTold 22 = .ok (.aload_n 2, 1) := by decide +kernel
theorem dL_isTold_23 : decode cL_isTold 23 = .ok (.iload 6, 2) := by decide +kernel
theorem dL_isTold_25 : decode cL_isTold 25 = .ok (.iaload, 1) := by decide +kernel
theorem dL_isTold_26 : decode cL_isTold 26 = .ok (.if_icmp .ne 73, 3) := by decide +kernel
theorem dL_isTold_29 : decode cL_isTold 29 = .ok (.aload_n 0, 1) := by decide +kernel
theorem dL_isTold_30 : decode cL_isTold 30 = .ok (.iload 5, 2) := by decide +kernel
theorem dL_isTold_32 : decode cL_isTold 32 = .ok (.invokevirtual 143, 3) := by decide +kernel
theorem dL_isTold_35 : decode cL_isTold 35 = .ok (.aload_n 2, 1) := by decide +kernel
theorem dL_isTold_36 : decode cL_isTold 36 = .ok (.iload 6, 2) := by decide +kernel
theorem dL_isTold_38 : decode cL_isTold 38 = .ok (.iconst 2, 1) := by decide +kernel
theorem dL_isTold_39 : decode cL_isTold 39 = .ok (.iadd, 1) := by decide +kernel
theorem dL_isTold_40 : decode cL_isTold 40 = .ok (.iaload, 1) := by decide +kernel
theorem dL_isTold_41 : decode cL_isTold 41 = .ok (.if_icmp .ne 58, 3) := by decide +kernel
theorem dL_isTold_44 : decode cL_isTold 44 = .ok (.aload_n 0, 1) := by decide +kernel
theorem dL_isTold_45 : decode cL_isTold 45 = .ok (.iload 5, 2) := by decide +kernel
theorem dL_isTold_47 : decode cL_isTold 47 = .ok (.invokevirtual 146, 3) := by decide +kernel
theorem dL_isTold_50 : decode cL_isTold 50 = .ok (.aload_n 2, 1) := by decide +kernel
theorem dL_isTold_51 : decode cL_isTold 51 = .ok (.iload 6, 2) := by decide +kernel
theorem dL_isTold_53 : decode cL_isTold 53 = .ok (.iconst 4, 1) := by decide +kernel
theorem dL_isTold_54 : decode cL_isTold 54 = .ok (.iadd, 1) := by decide +kernel
theorem dL_isTold_55 : decode cL_isTold 55 = .ok (.iaload, 1) := by decide +kernel
theorem dL_isTold_56 : decode cL_isTold 56 = .ok (.iconst 1, 1) := by decide +kernel
theorem dL_isTold_57 : decode cL_isTold 57 = .ok (.if_icmp .ne 7, 3) := by decide +kernel
theorem dL_isTold_60 : decode cL_isTold 60 = .ok (.iconst 1, 1) := by decide +kernel
theorem dL_isTold_61 : decode cL_isTold 61 = .ok (.goto 4, 3) := by decide +kernel
theorem dL_isTold_64 : decode cL_isTold 64 = .ok (.iconst 0, 1) := by decide +kernel
theorem dL_isTold_65 : decode cL_isTold 65 = .ok (.if_icmp .ne 34, 3) := by decide +kernel
theorem dL_isTold_68 : decode cL_isTold 68 = .ok (.aload_n 0, 1) := by decide +kernel
theorem dL_isTold_69 : decode cL_isTold 69 = .ok (.iload 5, 2) := by decide +kernel
theorem dL_isTold_71 : decode cL_isTold 71 = .ok (.invokestatic 150, 3) := by decide +kernel
theorem dL_isTold_74 : decode cL_isTold 74 = .ok (.aload_n 2, 1) := by decide +kernel
theorem dL_isTold_75 : decode cL_isTold 75 = .ok (.iload 6, 2) := by decide +kernel
theorem dL_isTold_77 : decode cL_isTold 77 = .ok (.bipush 7, 2) := by decide +kernel
theorem dL_isTold_79 : decode cL_isTold 79 = .ok (.iadd, 1) := by decide +kernel
theorem dL_isTold_80 : decode cL_isTold 80 = .ok (.iaload, 1) := by decide +kernel
theorem dL_isTold_81 : decode cL_isTold 81 = .ok (.if_icmp .ne 18, 3) := by decide +kernel
theorem dL_isTold_84 : decode cL_isTold 84 = .ok (.aload_n 0, 1) := by decide +kernel
theorem dL_isTold_85 : decode cL_isTold 85 = .ok (.iload 5, 2) := by decide +kernel
theorem dL_isTold_87 : decode cL_isTold 87 = .ok (.invokevirtual 152, 3) := by decide +kernel
theorem dL_isTold_90 : decode cL_isTold 90 = .ok (.aload_n 2, 1) := by decide +kernel
theorem dL_isTold_91 : decode cL_isTold 91 = .ok (.iload 6, 2) := by decide +kernel
theorem dL_isTold_93 : decode cL_isTold 93 = .ok (.iconst 5, 1) := by decide +kernel
theorem dL_isTold_94 : decode cL_isTold 94 = .ok (.iadd, 1) := by decide +kernel
theorem dL_isTold_95 : decode cL_isTold 95 = .ok (.iaload, 1) := by decide +kernel
theorem dL_isTold_96 : decode cL_isTold 96 = .ok (.if_icmp .eq 5, 3) := by decide +kernel
theorem dL_isTold_99 : decode cL_isTold 99 = .ok (.iconst 0, 1) := by decide +kernel
theorem dL_isTold_100 : decode cL_isTold 100 = .ok (.ireturn, 1) := by decide +kernel
theorem dL_isTold_101 : decode cL_isTold 101 = .ok (.iconst 0, 1) := by decide +kernel
theorem dL_isTold_102 : decode cL_isTold 102 = .ok (.istore 7, 2) := by decide +kernel
theorem dL_isTold_104 : decode cL_isTold 104 = .ok (.iload 7, 2) := by decide +kernel
theorem dL_isTold_106 : decode cL_isTold 106 = .ok (.bipush 6, 2) := by decide +kernel
theorem dL_isTold_108 : decode cL_isTold 108 = .ok (.if_icmp .ge 32, 3) := by decide +kernel
theorem dL_isTold_111 : decode cL_isTold 111 = .ok (.aload_n 0, 1) := by decide +kernel
theorem dL_isTold_112 : decode cL_isTold 112 = .ok (.iload 5, 2) := by decide +kernel
theorem dL_isTold_114 : decode cL_isTold 114 = .ok (.iload 7, 2) := by decide +kernel
theorem dL_isTold_116 : decode cL_isTold 116 = .ok (.invokestatic 155, 3) := by decide +kernel
theorem dL_isTold_119 : decode cL_isTold 119 = .ok (.aload_n 1, 1) := by decide +kernel
theorem dL_isTold_120 : decode cL_isTold 120 = .ok (.bipush 6, 2) := by decide +kernel
theorem dL_isTold_122 : decode cL_isTold 122 = .ok (.iload 5, 2) := by decide +kernel
theorem dL_isTold_124 : decode cL_isTold 124 = .ok (.imul, 1) := by decide +kernel
theorem dL_isTold_125 : decode cL_isTold 125 = .ok (.iload 7, 2) := by decide +kernel
theorem dL_isTold_127 : decode cL_isTold 127 = .ok (.iadd, 1) := by decide +kernel
theorem dL_isTold_128 : decode cL_isTold 128 = .ok (.iaload, 1) := by decide +kernel
theorem dL_isTold_129 : decode cL_isTold 129 = .ok (.if_icmp .eq 5, 3) := by decide +kernel
theorem dL_isTold_132 : decode cL_isTold 132 = .ok (.iconst 0, 1) := by decide +kernel
theorem dL_isTold_133 : decode cL_isTold 133 = .ok (.ireturn, 1) := by decide +kernel
theorem dL_isTold_134 : decode cL_isTold 134 = .ok (.iinc 7 1, 3) := by decide +kernel
theorem dL_isTold_137 : decode cL_isTold 137 = .ok (.goto (-33), 3) := by decide +kernel
theorem dL_isTold_140 : decode cL_isTold 140 = .ok (.iinc 5 1, 3) := by decide +kernel
theorem dL_isTold_143 : decode cL_isTold 143 = .ok (.goto (-140), 3) := by decide +kernel
theorem dL_isTold_146 : decode cL_isTold 146 = .ok (.iconst 0, 1) := by decide +kernel
theorem dL_isTold_147 : decode cL_isTold 147 = .ok (.istore 5, 2) := by decide +kernel
theorem dL_isTold_149 : decode cL_isTold 149 = .ok (.iload 5, 2) := by decide +kernel
theorem dL_isTold_151 : decode cL_isTold 151 = .ok (.aload 4, 2) := by decide +kernel
theorem dL_isTold_153 : decode cL_isTold 153 = .ok (.bipush 9, 2) := by decide +kernel
theorem dL_isTold_155 : decode cL_isTold 155 = .ok (.iaload, 1) := by decide +kernel
theorem dL_isTold_156 : decode cL_isTold 156 = .ok (.if_icmp .ge 24, 3) := by decide +kernel
theorem dL_isTold_159 : decode cL_isTold 159 = .ok (.aload_n 0, 1) := by decide +kernel
theorem dL_isTold_160 : decode cL_isTold 160 = .ok (.iload 5, 2) := by decide +kernel
theorem dL_isTold_162 : decode cL_isTold 162 = .ok (.invokestatic 158, 3) := by decide +kernel
theorem dL_isTold_165 : decode cL_isTold 165 = .ok (.aload_n 3, 1) := by decide +kernel
theorem dL_isTold_166 : decode cL_isTold 166 = .ok (.iload 5, 2) := by decide +kernel
theorem dL_isTold_168 : decode cL_isTold 168 = .ok (.iaload, 1) := by decide +kernel
theorem dL_isTold_169 : decode cL_isTold 169 = .ok (.if_icmp .eq 5, 3) := by decide +kernel
theorem dL_isTold_172 : decode cL_isTold 172 = .ok (.iconst 0, 1) := by decide +kernel
theorem dL_isTold_173 : decode cL_isTold 173 = .ok (.ireturn, 1) := by decide +kernel
theorem dL_isTold_174 : decode cL_isTold 174 = .ok (.iinc 5 1, 3) := by decide +kernel
theorem dL_isTold_177 : decode cL_isTold 177 = .ok (.goto (-28), 3) := by decide +kernel
theorem dL_isTold_180 : decode cL_isTold 180 = .ok (.aload_n 0, 1) := by decide +kernel
theorem dL_isTold_181 : decode cL_isTold 181 = .ok (.invokevirtual 160, 3) := by decide +kernel
theorem dL_isTold_184 : decode cL_isTold 184 = .ok (.aload 4, 2) := by decide +kernel
theorem dL_isTold_186 : decode cL_isTold 186 = .ok (.bipush 9, 2) := by decide +kernel
theorem dL_isTold_188 : decode cL_isTold 188 = .ok (.iaload, 1) := by decide +kernel
theorem dL_isTold_189 : decode cL_isTold 189 = .ok (.if_icmp .ne 119, 3) := by decide +kernel
theorem dL_isTold_192 : decode cL_isTold 192 = .ok (.aload_n 0, 1) := by decide +kernel
theorem dL_isTold_193 : decode cL_isTold 193 = .ok (.invokevirtual 164, 3) := by decide +kernel
theorem dL_isTold_196 : decode cL_isTold 196 = .ok (.aload 4, 2) := by decide +kernel
theorem dL_isTold_198 : decode cL_isTold 198 = .ok (.bipush 8, 2) := by decide +kernel
theorem dL_isTold_200 : decode cL_isTold 200 = .ok (.iaload, 1) := by decide +kernel
theorem dL_isTold_201 : decode cL_isTold 201 = .ok (.if_icmp .ne 107, 3) := by decide +kernel
theorem dL_isTold_204 : decode cL_isTold 204 = .ok (.aload_n 0, 1) := by decide +kernel
theorem dL_isTold_205 : decode cL_isTold 205 = .ok (.aload 4, 2) := by decide +kernel
theorem dL_isTold_207 : decode cL_isTold 207 = .ok (.bipush 9, 2) := by decide +kernel
theorem dL_isTold_209 : decode cL_isTold 209 = .ok (.iaload, 1) := by decide +kernel
theorem dL_isTold_210 : decode cL_isTold 210 = .ok (.invokestatic 158, 3) := by decide +kernel
theorem dL_isTold_213 : decode cL_isTold 213 = .ok (.bipush (-71), 2) := by decide +kernel
theorem dL_isTold_215 : decode cL_isTold 215 = .ok (.if_icmp .ne 93, 3) := by decide +kernel
theorem dL_isTold_218 : decode cL_isTold 218 = .ok (.aload_n 0, 1) := by decide +kernel
theorem dL_isTold_219 : decode cL_isTold 219 = .ok (.iconst (-1), 1) := by decide +kernel
theorem dL_isTold_220 : decode cL_isTold 220 = .ok (.invokestatic 158, 3) := by decide +kernel
theorem dL_isTold_223 : decode cL_isTold 223 = .ok (.bipush (-71), 2) := by decide +kernel
theorem dL_isTold_225 : decode cL_isTold 225 = .ok (.if_icmp .ne 83, 3) := by decide +kernel
theorem dL_isTold_228 : decode cL_isTold 228 = .ok (.aload_n 0, 1) := by decide +kernel
theorem dL_isTold_229 : decode cL_isTold 229 = .ok (.ldc 68, 2) := by decide +kernel
theorem dL_isTold_231 : decode cL_isTold 231 = .ok (.invokestatic 158, 3) := by decide +kernel
theorem dL_isTold_234 : decode cL_isTold 234 = .ok (.bipush (-71), 2) := by decide +kernel
theorem dL_isTold_236 : decode cL_isTold 236 = .ok (.if_icmp .ne 72, 3) := by decide +kernel
theorem dL_isTold_239 : decode cL_isTold 239 = .ok (.aload_n 0, 1) := by decide +kernel
theorem dL_isTold_240 : decode cL_isTold 240 = .ok (.iconst 2, 1) := by decide +kernel
theorem dL_isTold_241 : decode cL_isTold 241 = .ok (.invokestatic 141, 3) := by decide +kernel
theorem dL_isTold_244 : decode cL_isTold 244 = .ok (.bipush (-71), 2) := by decide +kernel
theorem dL_isTold_246 : decode cL_isTold 246 = .ok (.if_icmp .ne 62, 3) := by decide +kernel
theorem dL_isTold_249 : decode cL_isTold 249 = .ok (.aload_n 0, 1) := by decide +kernel
theorem dL_isTold_250 : decode cL_isTold 250 = .ok (.ldc 67, 2) := by decide +kernel
theorem dL_isTold_252 : decode cL_isTold 252 = .ok (.invokestatic 141, 3) := by decide +kernel
theorem dL_isTold_255 : decode cL_isTold 255 = .ok (.bipush (-71), 2) := by decide +kernel
theorem dL_isTold_257 : decode cL_isTold 257 = .ok (.if_icmp .ne 51, 3) := by decide +kernel
theorem dL_isTold_260 : decode cL_isTold 260 = .ok (.aload_n 0, 1) := by decide +kernel
theorem dL_isTold_261 : decode cL_isTold 261 = .ok (.iconst 0, 1) := by decide +kernel
theorem dL_isTold_262 : decode cL_isTold 262 = .ok (.bipush 6, 2) := by decide +kernel
theorem dL_isTold_264 : decode cL_isTold 264 = .ok (.invokestatic 155, 3) := by decide +kernel
theorem dL_isTold_267 : decode cL_isTold 267 = .ok (.bipush (-71), 2) := by decide +kernel
theorem dL_isTold_269 : decode cL_isTold 269 = .ok (.if_icmp .ne 39, 3) := by decide +kernel
theorem dL_isTold_272 : decode cL_isTold 272 = .ok (.aload_n 0, 1) := by decide +kernel
theorem dL_isTold_273 : decode cL_isTold 273 = .ok (.iconst 2, 1) := by decide +kernel
theorem dL_isTold_274 : decode cL_isTold 274 = .ok (.iconst 0, 1) := by decide +kernel
theorem dL_isTold_275 : decode cL_isTold 275 = .ok (.invokestatic 155, 3) := by decide +kernel
theorem dL_isTold_278 : decode cL_isTold 278 = .ok (.bipush (-71), 2) := by decide +kernel
theorem dL_isTold_280 : decode cL_isTold 280 = .ok (.if_icmp .ne 28, 3) := by decide +kernel
theorem dL_isTold_283 : decode cL_isTold 283 = .ok (.aload_n 0, 1) := by decide +kernel
theorem dL_isTold_284 : decode cL_isTold 284 = .ok (.iconst 0, 1) := by decide +kernel
theorem dL_isTold_285 : decode cL_isTold 285 = .ok (.iconst (-1), 1) := by decide +kernel
theorem dL_isTold_286 : decode cL_isTold 286 = .ok (.invokestatic 155, 3) := by decide +kernel
theorem dL_isTold_289 : decode cL_isTold 289 = .ok (.bipush (-71), 2) := by decide +kernel
theorem dL_isTold_291 : decode cL_isTold 291 = .ok (.if_icmp .ne 17, 3) := by decide +kernel
theorem dL_isTold_294 : decode cL_isTold 294 = .ok (.aload_n 0, 1) := by decide +kernel
theorem dL_isTold_295 : decode cL_isTold 295 = .ok (.iconst (-1), 1) := by decide +kernel
theorem dL_isTold_296 : decode cL_isTold 296 = .ok (.invokestatic 150, 3) := by decide +kernel
theorem dL_isTold_299 : decode cL_isTold 299 = .ok (.bipush (-71), 2) := by decide +kernel
theorem dL_isTold_301 : decode cL_isTold 301 = .ok (.if_icmp .ne 7, 3) := by decide +kernel
theorem dL_isTold_304 : decode cL_isTold 304 = .ok (.iconst 1, 1) := by decide +kernel
theorem dL_isTold_305 : decode cL_isTold 305 = .ok (.goto 4, 3) := by decide +kernel
theorem dL_isTold_308 : decode cL_isTold 308 = .ok (.iconst 0, 1) := by decide +kernel
theorem dL_isTold_309 : decode cL_isTold 309 = .ok (.ireturn, 1) := by decide +kernel
theorem dL_law_0 : decode cL_law 0 = .ok (.new 9, 3) := by decide +kernel
theorem dL_law_3 : decode cL_law 3 = .ok (.dup, 1) := by decide +kernel
theorem dL_law_4 : decode cL_law 4 = .ok (.invokespecial 167, 3) := by decide +kernel
theorem dL_law_7 : decode cL_law 7 = .ok (.astore_n 1, 1) := by decide +kernel
theorem dL_law_8 : decode cL_law 8 = .ok (.bipush 64, 2) := by decide +kernel
theorem dL_law_10 : decode cL_law 10 = .ok (.newarray .long, 2) := by decide +kernel
theorem dL_law_12 : decode cL_law 12 = .ok (.astore_n 2, 1) := by decide +kernel
theorem dL_law_13 : decode cL_law 13 = .ok (.bipush 64, 2) := by decide +kernel
theorem dL_law_15 : decode cL_law 15 = .ok (.newarray .long, 2) := by decide +kernel
theorem dL_law_17 : decode cL_law 17 = .ok (.astore_n 3, 1) := by decide +kernel
theorem dL_law_18 : decode cL_law 18 = .ok (.bipush 12, 2) := by decide +kernel
theorem dL_law_20 : decode cL_law 20 = .ok (.newarray .int, 2) := by decide +kernel
theorem dL_law_22 : decode cL_law 22 = .ok (.astore 4, 2) := by decide +kernel
theorem dL_law_24 : decode cL_law 24 = .ok (.bipush 12, 2) := by decide +kernel
theorem dL_law_26 : decode cL_law 26 = .ok (.newarray .int, 2) := by decide +kernel
theorem dL_law_28 : decode cL_law 28 = .ok (.astore 5, 2) := by decide +kernel
theorem dL_law_30 : decode cL_law 30 = .ok (.bipush 12, 2) := by decide +kernel
theorem dL_law_32 : decode cL_law 32 = .ok (.newarray .int, 2) := by decide +kernel
theorem dL_law_34 : decode cL_law 34 = .ok (.astore 6, 2) := by decide +kernel
theorem dL_law_36 : decode cL_law 36 = .ok (.bipush 16, 2) := by decide +kernel
theorem dL_law_38 : decode cL_law 38 = .ok (.newarray .int, 2) := by decide +kernel
theorem dL_law_40 : decode cL_law 40 = .ok (.astore 7, 2) := by decide +kernel
theorem dL_law_42 : decode cL_law 42 = .ok (.bipush 64, 2) := by decide +kernel
theorem dL_law_44 : decode cL_law 44 = .ok (.newarray .int, 2) := by decide +kernel
theorem dL_law_46 : decode cL_law 46 = .ok (.astore 8, 2) := by decide +kernel
theorem dL_law_48 : decode cL_law 48 = .ok (.iconst 1, 1) := by decide +kernel
theorem dL_law_49 : decode cL_law 49 = .ok (.newarray .long, 2) := by decide +kernel
theorem dL_law_51 : decode cL_law 51 = .ok (.astore 9, 2) := by decide +kernel
theorem dL_law_53 : decode cL_law 53 = .ok (.bipush 60, 2) := by decide +kernel
theorem dL_law_55 : decode cL_law 55 = .ok (.newarray .int, 2) := by decide +kernel
theorem dL_law_57 : decode cL_law 57 = .ok (.astore 10, 2) := by decide +kernel
theorem dL_law_59 : decode cL_law 59 = .ok (.bipush 10, 2) := by decide +kernel
theorem dL_law_61 : decode cL_law 61 = .ok (.newarray .int, 2) := by decide +kernel
theorem dL_law_63 : decode cL_law 63 = .ok (.astore 11, 2) := by decide +kernel
theorem dL_law_65 : decode cL_law 65 = .ok (.iconst 0, 1) := by decide +kernel
theorem dL_law_66 : decode cL_law 66 = .ok (.istore 12, 2) := by decide +kernel
theorem dL_law_68 : decode cL_law 68 = .ok (.iload 12, 2) := by decide +kernel
theorem dL_law_70 : decode cL_law 70 = .ok (.bipush 12, 2) := by decide +kernel
theorem dL_law_72 : decode cL_law 72 = .ok (.if_icmp .ge 21, 3) := by decide +kernel
theorem dL_law_75 : decode cL_law 75 = .ok (.aload 4, 2) := by decide +kernel
theorem dL_law_77 : decode cL_law 77 = .ok (.iload 12, 2) := by decide +kernel
theorem dL_law_79 : decode cL_law 79 = .ok (.iconst (-1), 1) := by decide +kernel
theorem dL_law_80 : decode cL_law 80 = .ok (.iastore, 1) := by decide +kernel
theorem dL_law_81 : decode cL_law 81 = .ok (.aload 6, 2) := by decide +kernel
theorem dL_law_83 : decode cL_law 83 = .ok (.iload 12, 2) := by decide +kernel
theorem dL_law_85 : decode cL_law 85 = .ok (.iconst (-1), 1) := by decide +kernel
theorem dL_law_86 : decode cL_law 86 = .ok (.iastore, 1) := by decide +kernel
theorem dL_law_87 : decode cL_law 87 = .ok (.iinc 12 1, 3) := by decide +kernel
theorem dL_law_90 : decode cL_law 90 = .ok (.goto (-22), 3) := by decide +kernel
theorem dL_law_93 : decode cL_law 93 = .ok (.aload 7, 2) := by decide +kernel
theorem dL_law_95 : decode cL_law 95 = .ok (.iconst 1, 1) := by decide +kernel
theorem dL_law_96 : decode cL_law 96 = .ok (.iconst (-1), 1) := by decide +kernel
theorem dL_law_97 : decode cL_law 97 = .ok (.iastore, 1) := by decide +kernel
theorem dL_law_98 : decode cL_law 98 = .ok (.aload 7, 2) := by decide +kernel
theorem dL_law_100 : decode cL_law 100 = .ok (.bipush 9, 2) := by decide +kernel
theorem dL_law_102 : decode cL_law 102 = .ok (.iconst (-1), 1) := by decide +kernel
theorem dL_law_103 : decode cL_law 103 = .ok (.iastore, 1) := by decide +kernel
theorem dL_law_104 : decode cL_law 104 = .ok (.aload 7, 2) := by decide +kernel
theorem dL_law_106 : decode cL_law 106 = .ok (.bipush 14, 2) := by decide +kernel
theorem dL_law_108 : decode cL_law 108 = .ok (.iconst 1, 1) := by decide +kernel
theorem dL_law_109 : decode cL_law 109 = .ok (.iastore, 1) := by decide +kernel
theorem dL_law_110 : decode cL_law 110 = .ok (.iconst 3, 1) := by decide +kernel
theorem dL_law_111 : decode cL_law 111 = .ok (.istore 12, 2) := by decide +kernel
theorem dL_law_113 : decode cL_law 113 = .ok (.iload 12, 2) := by decide +kernel
theorem dL_law_115 : decode cL_law 115 = .ok (.bipush 6, 2) := by decide +kernel
theorem dL_law_117 : decode cL_law 117 = .ok (.if_icmp .ge 15, 3) := by decide +kernel
theorem dL_law_120 : decode cL_law 120 = .ok (.aload 11, 2) := by decide +kernel
theorem dL_law_122 : decode cL_law 122 = .ok (.iload 12, 2) := by decide +kernel
theorem dL_law_124 : decode cL_law 124 = .ok (.iconst (-1), 1) := by decide +kernel
theorem dL_law_125 : decode cL_law 125 = .ok (.iastore, 1) := by decide +kernel
theorem dL_law_126 : decode cL_law 126 = .ok (.iinc 12 1, 3) := by decide +kernel
theorem dL_law_129 : decode cL_law 129 = .ok (.goto (-16), 3) := by decide +kernel
theorem dL_law_132 : decode cL_law 132 = .ok (.aload_n 1, 1) := by decide +kernel
theorem dL_law_133 : decode cL_law 133 = .ok (.aload 6, 2) := by decide +kernel
theorem dL_law_135 : decode cL_law 135 = .ok (.aload 7, 2) := by decide +kernel
theorem dL_law_137 : decode cL_law 137 = .ok (.aload 10, 2) := by decide +kernel
theorem dL_law_139 : decode cL_law 139 = .ok (.aload 11, 2) := by decide +kernel
theorem dL_law_141 : decode cL_law 141 = .ok (.invokestatic 168, 3) := by decide +kernel
theorem dL_law_144 : decode cL_law 144 = .ok (.ifCond .ne 5, 3) := by decide +kernel
theorem dL_law_147 : decode cL_law 147 = .ok (.iconst 0, 1) := by decide +kernel
theorem dL_law_148 : decode cL_law 148 = .ok (.ireturn, 1) := by decide +kernel
theorem dL_law_149 : decode cL_law 149 = .ok (.iconst 0, 1) := by decide +kernel
theorem dL_law_150 : decode cL_law 150 = .ok (.istore 12, 2) := by decide +kernel
theorem dL_law_152 : decode cL_law 152 = .ok (.iload 12, 2) := by decide +kernel
theorem dL_law_154 : decode cL_law 154 = .ok (.sipush 150, 3) := by decide +kernel
theorem dL_law_157 : decode cL_law 157 = .ok (.if_icmp .ge 201, 3) := by decide +kernel
theorem dL_law_160 : decode cL_law 160 = .ok (.aload_n 0, 1) := by decide +kernel
theorem dL_law_161 : decode cL_law 161 = .ok (.iconst 3, 1) := by decide +kernel
theorem dL_law_162 : decode cL_law 162 = .ok (.iload 12, 2) := by decide +kernel
theorem dL_law_164 : decode cL_law 164 = .ok (.imul, 1) := by decide +kernel
theorem dL_law_165 : decode cL_law 165 = .ok (.invokestatic 172, 3) := by decide +kernel
theorem dL_law_168 : decode cL_law 168 = .ok (.istore 13, 2) := by decide +kernel
theorem dL_law_170 : decode cL_law 170 = .ok (.aload_n 0, 1) := by decide +kernel
theorem dL_law_171 : decode cL_law 171 = .ok (.iconst 3, 1) := by decide +kernel
theorem dL_law_172 : decode cL_law 172 = .ok (.iload 12, 2) := by decide +kernel
theorem dL_law_174 : decode cL_law 174 = .ok (.imul, 1) := by decide +kernel
theorem dL_law_175 : decode cL_law 175 = .ok (.iconst 1, 1) := by decide +kernel
theorem dL_law_176 : decode cL_law 176 = .ok (.iadd, 1) := by decide +kernel
theorem dL_law_177 : decode cL_law 177 = .ok (.invokestatic 172, 3) := by decide +kernel
theorem dL_law_180 : decode cL_law 180 = .ok (.istore 14, 2) := by decide +kernel
theorem dL_law_182 : decode cL_law 182 = .ok (.aload_n 0, 1) := by decide +kernel
theorem dL_law_183 : decode cL_law 183 = .ok (.iconst 3, 1) := by decide +kernel
theorem dL_law_184 : decode cL_law 184 = .ok (.iload 12, 2) := by decide +kernel
theorem dL_law_186 : decode cL_law 186 = .ok (.imul, 1) := by decide +kernel
theorem dL_law_187 : decode cL_law 187 = .ok (.iconst 2, 1) := by decide +kernel
theorem dL_law_188 : decode cL_law 188 = .ok (.iadd, 1) := by decide +kernel
theorem dL_law_189 : decode cL_law 189 = .ok (.invokestatic 172, 3) := by decide +kernel
theorem dL_law_192 : decode cL_law 192 = .ok (.istore 15, 2) := by decide +kernel
theorem dL_law_194 : decode cL_law 194 = .ok (.iload 12, 2) := by decide +kernel
theorem dL_law_196 : decode cL_law 196 = .ok (.bipush 8, 2) := by decide +kernel
theorem dL_law_198 : decode cL_law 198 = .ok (.if_icmp .ge 12, 3) := by decide +kernel
theorem dL_law_201 : decode cL_law 201 = .ok (.iload 12, 2) := by decide +kernel
theorem dL_law_203 : decode cL_law 203 = .ok (.iconst 2, 1) := by decide +kernel
theorem dL_law_204 : decode cL_law 204 = .ok (.irem, 1) := by decide +kernel
theorem dL_law_205 : decode cL_law 205 = .ok (.iconst 4, 1) := by decide +kernel
theorem dL_law_206 : decode cL_law 206 = .ok (.imul, 1) := by decide +kernel
theorem dL_law_207 : decode cL_law 207 = .ok (.goto 10, 3) := by decide +kernel
theorem dL_law_210 : decode cL_law 210 = .ok (.iload 13, 2) := by decide +kernel
theorem dL_law_212 : decode cL_law 212 = .ok (.bipush 32, 2) := by decide +kernel
theorem dL_law_214 : decode cL_law 214 = .ok (.invokestatic 94, 3) := by decide +kernel
theorem dL_law_217 : decode cL_law 217 = .ok (.istore 16, 2) := by decide +kernel
theorem dL_law_219 : decode cL_law 219 = .ok (.aload 7, 2) := by decide +kernel
theorem dL_law_221 : decode cL_law 221 = .ok (.bipush 7, 2) := by decide +kernel
theorem dL_law_223 : decode cL_law 223 = .ok (.iaload, 1) := by decide +kernel
theorem dL_law_224 : decode cL_law 224 = .ok (.bipush 40, 2) := by decide +kernel
theorem dL_law_226 : decode cL_law 226 = .ok (.if_icmp .gt 13, 3) := by decide +kernel
theorem dL_law_229 : decode cL_law 229 = .ok (.aload 7, 2) := by decide +kernel
theorem dL_law_231 : decode cL_law 231 = .ok (.bipush 15, 2) := by decide +kernel
theorem dL_law_233 : decode cL_law 233 = .ok (.iaload, 1) := by decide +kernel
theorem dL_law_234 : decode cL_law 234 = .ok (.bipush 40, 2) := by decide +kernel
theorem dL_law_236 : decode cL_law 236 = .ok (.if_icmp .le 24, 3) := by decide +kernel
theorem dL_law_239 : decode cL_law 239 = .ok (.bipush 22, 2) := by decide +kernel
theorem dL_law_241 : decode cL_law 241 = .ok (.istore 16, 2) := by decide +kernel
theorem dL_law_243 : decode cL_law 243 = .ok (.aload 7, 2) := by decide +kernel
theorem dL_law_245 : decode cL_law 245 = .ok (.bipush 7, 2) := by decide +kernel
theorem dL_law_247 : decode cL_law 247 = .ok (.iaload, 1) := by decide +kernel
theorem dL_law_248 : decode cL_law 248 = .ok (.bipush 40, 2) := by decide +kernel
theorem dL_law_250 : decode cL_law 250 = .ok (.if_icmp .le 7, 3) := by decide +kernel
theorem dL_law_253 : decode cL_law 253 = .ok (.iconst 0, 1) := by decide +kernel
theorem dL_law_254 : decode cL_law 254 = .ok (.goto 4, 3) := by decide +kernel
theorem dL_law_257 : decode cL_law 257 = .ok (.iconst 1, 1) := by decide +kernel
theorem dL_law_258 : decode cL_law 258 = .ok (.istore 14, 2) := by decide +kernel
theorem dL_law_260 : decode cL_law 260 = .ok (.iload 16, 2) := by decide +kernel
theorem dL_law_262 : decode cL_law 262 = .ok (.bipush 24, 2) := by decide +kernel
theorem dL_law_264 : decode cL_law 264 = .ok (.if_icmp .ge 29, 3) := by decide +kernel
theorem dL_law_267 : decode cL_law 267 = .ok (.aload_n 1, 1) := by decide +kernel
theorem dL_law_268 : decode cL_law 268 = .ok (.iload 16, 2) := by decide +kernel
theorem dL_law_270 : decode cL_law 270 = .ok (.iload 14, 2) := by decide +kernel
theorem dL_law_272 : decode cL_law 272 = .ok (.iload 15, 2) := by decide +kernel
theorem dL_law_274 : decode cL_law 274 = .ok (.aload_n 2, 1) := by decide +kernel
theorem dL_law_275 : decode cL_law 275 = .ok (.aload_n 3, 1) := by decide +kernel
theorem dL_law_276 : decode cL_law 276 = .ok (.aload 4, 2) := by decide +kernel
theorem dL_law_278 : decode cL_law 278 = .ok (.aload 5, 2) := by decide +kernel
theorem dL_law_280 : decode cL_law 280 = .ok (.aload 6, 2) := by decide +kernel
theorem dL_law_282 : decode cL_law 282 = .ok (.aload 7, 2) := by decide +kernel
theorem dL_law_284 : decode cL_law 284 = .ok (.invokestatic 176, 3) := by decide +kernel
theorem dL_law_287 : decode cL_law 287 = .ok (.ifCond .eq 63, 3) := by decide +kernel
theorem dL_law_290 : decode cL_law 290 = .ok (.goto 45, 3) := by decide +kernel
theorem dL_law_293 : decode cL_law 293 = .ok (.aload_n 1, 1) := by decide +kernel
theorem dL_law_294 : decode cL_law 294 = .ok (.iload 16, 2) := by decide +kernel
theorem dL_law_296 : decode cL_law 296 = .ok (.bipush 26, 2) := by decide +kernel
theorem dL_law_298 : decode cL_law 298 = .ok (.if_icmp .ge 7, 3) := by decide +kernel
theorem dL_law_301 : decode cL_law 301 = .ok (.iconst 0, 1) := by decide +kernel
theorem dL_law_302 : decode cL_law 302 = .ok (.goto 15, 3) := by decide +kernel
theorem dL_law_305 : decode cL_law 305 = .ok (.iload 16, 2) := by decide +kernel
theorem dL_law_307 : decode cL_law 307 = .ok (.bipush 26, 2) := by decide +kernel
theorem dL_law_309 : decode cL_law 309 = .ok (.if_icmp .ne 7, 3) := by decide +kernel
theorem dL_law_312 : decode cL_law 312 = .ok (.iconst 2, 1) := by decide +kernel
theorem dL_law_313 : decode cL_law 313 = .ok (.goto 4, 3) := by decide +kernel
theorem dL_law_316 : decode cL_law 316 = .ok (.iconst 3, 1) := by decide +kernel
theorem dL_law_317 : decode cL_law 317 = .ok (.iload 14, 2) := by decide +kernel
theorem dL_law_319 : decode cL_law 319 = .ok (.iload 15, 2) := by decide +kernel
theorem dL_law_321 : decode cL_law 321 = .ok (.aload 8, 2) := by decide +kernel
theorem dL_law_323 : decode cL_law 323 = .ok (.aload 9, 2) := by decide +kernel
theorem dL_law_325 : decode cL_law 325 = .ok (.aload 10, 2) := by decide +kernel
theorem dL_law_327 : decode cL_law 327 = .ok (.aload 11, 2) := by decide +kernel
theorem dL_law_329 : decode cL_law 329 = .ok (.invokestatic 180, 3) := by decide +kernel
theorem dL_law_332 : decode cL_law 332 = .ok (.ifCond .eq 18, 3) := by decide +kernel
theorem dL_law_335 : decode cL_law 335 = .ok (.aload_n 1, 1) := by decide +kernel
theorem dL_law_336 : decode cL_law 336 = .ok (.aload 6, 2) := by decide +kernel
theorem dL_law_338 : decode cL_law 338 = .ok (.aload 7, 2) := by decide +kernel
theorem dL_law_340 : decode cL_law 340 = .ok (.aload 10, 2) := by decide +kernel
theorem dL_law_342 : decode cL_law 342 = .ok (.aload 11, 2) := by decide +kernel
theorem dL_law_344 : decode cL_law 344 = .ok (.invokestatic 168, 3) := by decide +kernel
theorem dL_law_347 : decode cL_law 347 = .ok (.ifCond .ne 5, 3) := by decide +kernel
theorem dL_law_350 : decode cL_law 350 = .ok (.iconst 0, 1) := by decide +kernel
theorem dL_law_351 : decode cL_law 351 = .ok (.ireturn, 1) := by decide +kernel
theorem dL_law_352 : decode cL_law 352 = .ok (.iinc 12 1, 3) := by decide +kernel
theorem dL_law_355 : decode cL_law 355 = .ok (.goto (-203), 3) := by decide +kernel
theorem dL_law_358 : decode cL_law 358 = .ok (.iconst 1, 1) := by decide +kernel
theorem dL_law_359 : decode cL_law 359 = .ok (.ireturn, 1) := by decide +kernel
