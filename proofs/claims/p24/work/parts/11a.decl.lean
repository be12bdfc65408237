theorem dL_cell_0 : decode cL_cell 0 = .ok (.iload_n 1, 1) := by decide +kernel
theorem dL_cell_1 : decode cL_cell 1 = .ok (.aload_n 0, 1) := by decide +kernel
theorem dL_cell_2 : decode cL_cell 2 = .ok (.arraylength, 1) := by decide +kernel
theorem dL_cell_3 : decode cL_cell 3 = .ok (.if_icmp .ge 9, 3) := by decide +kernel
theorem dL_cell_6 : decode cL_cell 6 = .ok (.aload_n 0, 1) := by decide +kernel
theorem dL_cell_7 : decode cL_cell 7 = .ok (.iload_n 1, 1) := by decide +kernel
theorem dL_cell_8 : decode cL_cell 8 = .ok (.iaload, 1) := by decide +kernel
theorem dL_cell_9 : decode cL_cell 9 = .ok (.goto 10, 3) := by decide +kernel
theorem dL_cell_12 : decode cL_cell 12 = .ok (.ldc 7, 2) := by decide +kernel
theorem dL_cell_14 : decode cL_cell 14 = .ok (.iload_n 1, 1) := by decide +kernel
theorem dL_cell_15 : decode cL_cell 15 = .ok (.bipush 8, 2) := by decide +kernel
theorem dL_cell_17 : decode cL_cell 17 = .ok (.iadd, 1) := by decide +kernel
theorem dL_cell_18 : decode cL_cell 18 = .ok (.imul, 1) := by decide +kernel
theorem dL_cell_19 : decode cL_cell 19 = .ok (.ireturn, 1) := by decide +kernel
theorem dL_low_0 : decode cL_low 0 = .ok (.iload_n 0, 1) := by decide +kernel
theorem dL_low_1 : decode cL_low 1 = .ok (.iconst 1, 1) := by decide +kernel
theorem dL_low_2 : decode cL_low 2 = .ok (.iushr, 1) := by decide +kernel
theorem dL_low_3 : decode cL_low 3 = .ok (.iload_n 1, 1) := by decide +kernel
theorem dL_low_4 : decode cL_low 4 = .ok (.irem, 1) := by decide +kernel
theorem dL_low_5 : decode cL_low 5 = .ok (.ireturn, 1) := by decide +kernel
theorem dL_wish_0 : decode cL_wish 0 = .ok (.aload_n 0, 1) := by decide +kernel
theorem dL_wish_1 : decode cL_wish 1 = .ok (.iload_n 1, 1) := by decide +kernel
theorem dL_wish_2 : decode cL_wish 2 = .ok (.iload_n 2, 1) := by decide +kernel
theorem dL_wish_3 : decode cL_wish 3 = .ok (.iload_n 3, 1) := by decide +kernel
theorem dL_wish_4 : decode cL_wish 4 = .ok (.invokevirtual 8, 3) := by decide +kernel
theorem dL_wish_7 : decode cL_wish 7 = .ok (.istore 4, 2) := by decide +kernel
theorem dL_wish_9 : decode cL_wish 9 = .ok (.goto 13, 3) := by decide +kernel
theorem dL_wish_12 : decode cL_wish 12 = .ok (.astore 5, 2) := by decide +kernel
theorem dL_wish_14 : decode cL_wish 14 = .ok (.bipush (-71), 2) := by decide +kernel
theorem dL_wish_16 : decode cL_wish 16 = .ok (.ireturn, 1) := by decide +kernel
theorem dL_wish_17 : decode cL_wish 17 = .ok (.astore 5, 2) := by decide +kernel
theorem dL_wish_19 : decode cL_wish 19 = .ok (.bipush (-72), 2) := by decide +kernel
theorem dL_wish_21 : decode cL_wish 21 = .ok (.ireturn, 1) := by decide +kernel
theorem dL_wish_22 : decode cL_wish 22 = .ok (.iload 4, 2) := by decide +kernel
theorem dL_wish_24 : decode cL_wish 24 = .ok (.ireturn, 1) := by decide +kernel
theorem dL_allow_0 : decode cL_allow 0 = .ok (.aload_n 0, 1) := by decide +kernel
theorem dL_allow_1 : decode cL_allow 1 = .ok (.iload_n 1, 1) := by decide +kernel
theorem dL_allow_2 : decode cL_allow 2 = .ok (.iload_n 2, 1) := by decide +kernel
theorem dL_allow_3 : decode cL_allow 3 = .ok (.iload_n 3, 1) := by decide +kernel
theorem dL_allow_4 : decode cL_allow 4 = .ok (.invokevirtual 18, 3) := by decide +kernel
theorem dL_allow_7 : decode cL_allow 7 = .ok (.istore 4, 2) := by decide +kernel
theorem dL_allow_9 : decode cL_allow 9 = .ok (.goto 13, 3) := by decide +kernel
theorem dL_allow_12 : decode cL_allow 12 = .ok (.astore 5, 2) := by decide +kernel
theorem dL_allow_14 : decode cL_allow 14 = .ok (.bipush (-71), 2) := by decide +kernel
theorem dL_allow_16 : decode cL_allow 16 = .ok (.ireturn, 1) := by decide +kernel
theorem dL_allow_17 : decode cL_allow 17 = .ok (.astore 5, 2) := by decide +kernel
theorem dL_allow_19 : decode cL_allow 19 = .ok (.bipush (-72), 2) := by decide +kernel
theorem dL_allow_21 : decode cL_allow 21 = .ok (.ireturn, 1) := by decide +kernel
theorem dL_allow_22 : decode cL_allow 22 = .ok (.iload 4, 2) := by decide +kernel
theorem dL_allow_24 : decode cL_allow 24 = .ok (.ireturn, 1) := by decide +kernel
theorem dL_setsMagic_0 : decode cL_setsMagic 0 = .ok (.aload_n 0, 1) := by decide +kernel
theorem dL_setsMagic_1 : decode cL_setsMagic 1 = .ok (.iload_n 1, 1) := by decide +kernel
theorem dL_setsMagic_2 : decode cL_setsMagic 2 = .ok (.iload_n 2, 1) := by decide +kernel
theorem dL_setsMagic_3 : decode cL_setsMagic 3 = .ok (.invokevirtual 21, 3) := by decide +kernel
theorem dL_setsMagic_6 : decode cL_setsMagic 6 = .ok (.iload_n 3, 1) := by decide +kernel
theorem dL_setsMagic_7 : decode cL_setsMagic 7 = .ok (.if_icmp .ne 7, 3) := by decide +kernel
theorem dL_setsMagic_10 : decode cL_setsMagic 10 = .ok (.iconst 1, 1) := by decide +kernel
theorem dL_setsMagic_11 : decode cL_setsMagic 11 = .ok (.goto 4, 3) := by decide +kernel
theorem dL_setsMagic_14 : decode cL_setsMagic 14 = .ok (.iconst 0, 1) := by decide +kernel
theorem dL_setsMagic_15 : decode cL_setsMagic 15 = .ok (.istore 4, 2) := by decide +kernel
theorem dL_setsMagic_17 : decode cL_setsMagic 17 = .ok (.goto 7, 3) := by decide +kernel
theorem dL_setsMagic_20 : decode cL_setsMagic 20 = .ok (.astore 5, 2) := by decide +kernel
theorem dL_setsMagic_22 : decode cL_setsMagic 22 = .ok (.iconst 0, 1) := by decide +kernel
theorem dL_setsMagic_23 : decode cL_setsMagic 23 = .ok (.ireturn, 1) := by decide +kernel
theorem dL_setsMagic_24 : decode cL_setsMagic 24 = .ok (.iload 4, 2) := by decide +kernel
theorem dL_setsMagic_26 : decode cL_setsMagic 26 = .ok (.ireturn, 1) := by decide +kernel
theorem dL_open_0 : decode cL_open 0 = .ok (.aload_n 0, 1) := by decide +kernel
theorem dL_open_1 : decode cL_open 1 = .ok (.iload_n 1, 1) := by decide +kernel
theorem dL_open_2 : decode cL_open 2 = .ok (.invokevirtual 25, 3) := by decide +kernel
theorem dL_open_5 : decode cL_open 5 = .ok (.istore_n 2, 1) := by decide +kernel
theorem dL_open_6 : decode cL_open 6 = .ok (.goto 11, 3) := by decide +kernel
theorem dL_open_9 : decode cL_open 9 = .ok (.astore_n 3, 1) := by decide +kernel
theorem dL_open_10 : decode cL_open 10 = .ok (.bipush (-71), 2) := by decide +kernel
theorem dL_open_12 : decode cL_open 12 = .ok (.ireturn, 1) := by decide +kernel
theorem dL_open_13 : decode cL_open 13 = .ok (.astore_n 3, 1) := by decide +kernel
theorem dL_open_14 : decode cL_open 14 = .ok (.bipush (-73), 2) := by decide +kernel
theorem dL_open_16 : decode cL_open 16 = .ok (.ireturn, 1) := by decide +kernel
theorem dL_open_17 : decode cL_open 17 = .ok (.iload_n 2, 1) := by decide +kernel
theorem dL_open_18 : decode cL_open 18 = .ok (.ireturn, 1) := by decide +kernel
theorem dL_close_0 : decode cL_close 0 = .ok (.aload_n 0, 1) := by decide +kernel
theorem dL_close_1 : decode cL_close 1 = .ok (.iload_n 1, 1) := by decide +kernel
theorem dL_close_2 : decode cL_close 2 = .ok (.invokevirtual 31, 3) := by decide +kernel
theorem dL_close_5 : decode cL_close 5 = .ok (.istore_n 2, 1) := by decide +kernel
theorem dL_close_6 : decode cL_close 6 = .ok (.goto 11, 3) := by decide +kernel
theorem dL_close_9 : decode cL_close 9 = .ok (.astore_n 3, 1) := by decide +kernel
theorem dL_close_10 : decode cL_close 10 = .ok (.bipush (-71), 2) := by decide +kernel
theorem dL_close_12 : decode cL_close 12 = .ok (.ireturn, 1) := by decide +kernel
theorem dL_close_13 : decode cL_close 13 = .ok (.astore_n 3, 1) := by decide +kernel
theorem dL_close_14 : decode cL_close 14 = .ok (.bipush (-73), 2) := by decide +kernel
theorem dL_close_16 : decode cL_close 16 = .ok (.ireturn, 1) := by decide +kernel
theorem dL_close_17 : decode cL_close 17 = .ok (.iload_n 2, 1) := by decide +kernel
theorem dL_close_18 : decode cL_close 18 = .ok (.ireturn, 1) := by decide +kernel
theorem dL_deliver_0 : decode cL_deliver 0 = .ok (.aload_n 0, 1) := by decide +kernel
theorem dL_deliver_1 : decode cL_deliver 1 = .ok (.iload_n 1, 1) := by decide +kernel
theorem dL_deliver_2 : decode cL_deliver 2 = .ok (.invokevirtual 34, 3) := by decide +kernel
theorem dL_deliver_5 : decode cL_deliver 5 = .ok (.istore_n 2, 1) := by decide +kernel
theorem dL_deliver_6 : decode cL_deliver 6 = .ok (.goto 11, 3) := by decide +kernel
theorem dL_deliver_9 : decode cL_deliver 9 = .ok (.astore_n 3, 1) := by decide +kernel
theorem dL_deliver_10 : decode cL_deliver 10 = .ok (.bipush (-71), 2) := by decide +kernel
theorem dL_deliver_12 : decode cL_deliver 12 = .ok (.ireturn, 1) := by decide +kernel
theorem dL_deliver_13 : decode cL_deliver 13 = .ok (.astore_n 3, 1) := by decide +kernel
theorem dL_deliver_14 : decode cL_deliver 14 = .ok (.bipush (-73), 2) := by decide +kernel
theorem dL_deliver_16 : decode cL_deliver 16 = .ok (.ireturn, 1) := by decide +kernel
theorem dL_deliver_17 : decode cL_deliver 17 = .ok (.iload_n 2, 1) := by decide +kernel
theorem dL_deliver_18 : decode cL_deliver 18 = .ok (.ireturn, 1) := by decide +kernel
theorem dL_lose_0 : decode cL_lose 0 = .ok (.aload_n 0, 1) := by decide +kernel
theorem dL_lose_1 : decode cL_lose 1 = .ok (.iload_n 1, 1) := by decide +kernel
theorem dL_lose_2 : decode cL_lose 2 = .ok (.invokevirtual 37, 3) := by decide +kernel
theorem dL_lose_5 : decode cL_lose 5 = .ok (.istore_n 2, 1) := by decide +kernel
theorem dL_lose_6 : decode cL_lose 6 = .ok (.goto 11, 3) := by decide +kernel
theorem dL_lose_9 : decode cL_lose 9 = .ok (.astore_n 3, 1) := by decide +kernel
theorem dL_lose_10 : decode cL_lose 10 = .ok (.bipush (-71), 2) := by decide +kernel
theorem dL_lose_12 : decode cL_lose 12 = .ok (.ireturn, 1) := by decide +kernel
theorem dL_lose_13 : decode cL_lose 13 = .ok (.astore_n 3, 1) := by decide +kernel
theorem dL_lose_14 : decode cL_lose 14 = .ok (.bipush (-73), 2) := by decide +kernel
theorem dL_lose_16 : decode cL_lose 16 = .ok (.ireturn, 1) := by decide +kernel
theorem dL_lose_17 : decode cL_lose 17 = .ok (.iload_n 2, 1) := by decide +kernel
theorem dL_lose_18 : decode cL_lose 18 = .ok (.ireturn, 1) := by decide +kernel
theorem dL_loop_0 : decode cL_loop 0 = .ok (.aload_n 0, 1) := by decide +kernel
theorem dL_loop_1 : decode cL_loop 1 = .ok (.iload_n 1, 1) := by decide +kernel
theorem dL_loop_2 : decode cL_loop 2 = .ok (.invokevirtual 40, 3) := by decide +kernel
theorem dL_loop_5 : decode cL_loop 5 = .ok (.istore_n 2, 1) := by decide +kernel
theorem dL_loop_6 : decode cL_loop 6 = .ok (.goto 11, 3) := by decide +kernel
theorem dL_loop_9 : decode cL_loop 9 = .ok (.astore_n 3, 1) := by decide +kernel
theorem dL_loop_10 : decode cL_loop 10 = .ok (.bipush (-71), 2) := by decide +kernel
theorem dL_loop_12 : decode cL_loop 12 = .ok (.ireturn, 1) := by decide +kernel
theorem dL_loop_13 : decode cL_loop 13 = .ok (.astore_n 3, 1) := by decide +kernel
theorem dL_loop_14 : decode cL_loop 14 = .ok (.bipush (-73), 2) := by decide +kernel
theorem dL_loop_16 : decode cL_loop 16 = .ok (.ireturn, 1) := by decide +kernel
theorem dL_loop_17 : decode cL_loop 17 = .ok (.iload_n 2, 1) := by decide +kernel
theorem dL_loop_18 : decode cL_loop 18 = .ok (.ireturn, 1) := by decide +kernel
theorem dL_pass_0 : decode cL_pass 0 = .ok (.aload_n 0, 1) := by decide +kernel
theorem dL_pass_1 : decode cL_pass 1 = .ok (.iload_n 1, 1) := by decide +kernel
theorem dL_pass_2 : decode cL_pass 2 = .ok (.invokevirtual 43, 3) := by decide +kernel
theorem dL_pass_5 : decode cL_pass 5 = .ok (.istore_n 2, 1) := by decide +kernel
theorem dL_pass_6 : decode cL_pass 6 = .ok (.goto 7, 3) := by decide +kernel
theorem dL_pass_9 : decode cL_pass 9 = .ok (.astore_n 3, 1) := by decide +kernel
theorem dL_pass_10 : decode cL_pass 10 = .ok (.bipush (-72), 2) := by decide +kernel
theorem dL_pass_12 : decode cL_pass 12 = .ok (.ireturn, 1) := by decide +kernel
theorem dL_pass_13 : decode cL_pass 13 = .ok (.iload_n 2, 1) := by decide +kernel
theorem dL_pass_14 : decode cL_pass 14 = .ok (.ireturn, 1) := by decide +kernel
theorem dL_stateOf_0 : decode cL_stateOf 0 = .ok (.aload_n 0, 1) := by decide +kernel
theorem dL_stateOf_1 : decode cL_stateOf 1 = .ok (.iload_n 1, 1) := by decide +kernel
theorem dL_stateOf_2 : decode cL_stateOf 2 = .ok (.invokevirtual 46, 3) := by decide +kernel
theorem dL_stateOf_5 : decode cL_stateOf 5 = .ok (.istore_n 2, 1) := by decide +kernel
theorem dL_stateOf_6 : decode cL_stateOf 6 = .ok (.goto 7, 3) := by decide +kernel
theorem dL_stateOf_9 : decode cL_stateOf 9 = .ok (.astore_n 3, 1) := by decide +kernel
theorem dL_stateOf_10 : decode cL_stateOf 10 = .ok (.bipush (-71), 2) := by decide +kernel
theorem dL_stateOf_12 : decode cL_stateOf 12 = .ok (.ireturn, 1) := by decide +kernel
theorem dL_stateOf_13 : decode cL_stateOf 13 = .ok (.iload_n 2, 1) := by decide +kernel
theorem dL_stateOf_14 : decode cL_stateOf 14 = .ok (.ireturn, 1) := by decide +kernel
theorem dL_asked_0 : decode cL_asked 0 = .ok (.aload_n 0, 1) := by decide +kernel
theorem dL_asked_1 : decode cL_asked 1 = .ok (.iload_n 1, 1) := by decide +kernel
theorem dL_asked_2 : decode cL_asked 2 = .ok (.iload_n 2, 1) := by decide +kernel
theorem dL_asked_3 : decode cL_asked 3 = .ok (.invokevirtual 49, 3) := by decide +kernel
theorem dL_asked_6 : decode cL_asked 6 = .ok (.istore_n 3, 1) := by decide +kernel
theorem dL_asked_7 : decode cL_asked 7 = .ok (.goto 8, 3) := by decide +kernel
theorem dL_asked_10 : decode cL_asked 10 = .ok (.astore 4, 2) := by decide +kernel
theorem dL_asked_12 : decode cL_asked 12 = .ok (.bipush (-71), 2) := by decide +kernel
theorem dL_asked_14 : decode cL_asked 14 = .ok (.ireturn, 1) := by decide +kernel
theorem dL_asked_15 : decode cL_asked 15 = .ok (.iload_n 3, 1) := by decide +kernel
theorem dL_asked_16 : decode cL_asked 16 = .ok (.ireturn, 1) := by decide +kernel
theorem dL_underWay_0 : decode cL_underWay 0 = .ok (.aload_n 0, 1) := by decide +kernel
theorem dL_underWay_1 : decode cL_underWay 1 = .ok (.iload_n 1, 1) := by decide +kernel
theorem dL_underWay_2 : decode cL_underWay 2 = .ok (.invokevirtual 52, 3) := by decide +kernel
theorem dL_underWay_5 : decode cL_underWay 5 = .ok (.istore_n 2, 1) := by decide +kernel
theorem dL_underWay_6 : decode cL_underWay 6 = .ok (.goto 7, 3) := by decide +kernel
theorem dL_underWay_9 : decode cL_underWay 9 = .ok (.astore_n 3, 1) := by decide +kernel
theorem dL_underWay_10 : decode cL_underWay 10 = .ok (.bipush (-71), 2) := by decide +kernel
theorem dL_underWay_12 : decode cL_underWay 12 = .ok (.ireturn, 1) := by decide +kernel
theorem dL_underWay_13 : decode cL_underWay 13 = .ok (.iload_n 2, 1) := by decide +kernel
theorem dL_underWay_14 : decode cL_underWay 14 = .ok (.ireturn, 1) := by decide +kernel
theorem dL_send_0 : decode cL_send 0 = .ok (.aload_n 0, 1) := by decide +kernel
theorem dL_send_1 : decode cL_send 1 = .ok (.iload_n 1, 1) := by decide +kernel
theorem dL_send_2 : decode cL_send 2 = .ok (.invokevirtual 55, 3) := by decide +kernel
theorem dL_send_5 : decode cL_send 5 = .ok (.istore_n 2, 1) := by decide +kernel
theorem dL_send_6 : decode cL_send 6 = .ok (.goto 11, 3) := by decide +kernel
theorem dL_send_9 : decode cL_send 9 = .ok (.astore_n 3, 1) := by decide +kernel
theorem dL_send_10 : decode cL_send 10 = .ok (.bipush (-72), 2) := by decide +kernel
theorem dL_send_12 : decode cL_send 12 = .ok (.ireturn, 1) := by decide +kernel
theorem dL_send_13 : decode cL_send 13 = .ok (.astore_n 3, 1) := by decide +kernel
theorem dL_send_14 : decode cL_send 14 = .ok (.bipush (-73), 2) := by decide +kernel
theorem dL_send_16 : decode cL_send 16 = .ok (.ireturn, 1) := by decide +kernel
theorem dL_send_17 : decode cL_send 17 = .ok (.iload_n 2, 1) := by decide +kernel
theorem dL_send_18 : decode cL_send 18 = .ok (.ireturn, 1) := by decide +kernel
theorem dL_come_0 : decode cL_come 0 = .ok (.aload_n 0, 1) := by decide +kernel
theorem dL_come_1 : decode cL_come 1 = .ok (.iload_n 1, 1) := by decide +kernel
theorem dL_come_2 : decode cL_come 2 = .ok (.invokevirtual 58, 3) := by decide +kernel
theorem dL_come_5 : decode cL_come 5 = .ok (.istore_n 2, 1) := by decide +kernel
theorem dL_come_6 : decode cL_come 6 = .ok (.goto 11, 3) := by decide +kernel
theorem dL_come_9 : decode cL_come 9 = .ok (.astore_n 3, 1) := by decide +kernel
theorem dL_come_10 : decode cL_come 10 = .ok (.bipush (-71), 2) := by decide +kernel
theorem dL_come_12 : decode cL_come 12 = .ok (.ireturn, 1) := by decide +kernel
theorem dL_come_13 : decode cL_come 13 = .ok (.astore_n 3, 1) := by decide +kernel
theorem dL_come_14 : decode cL_come 14 = .ok (.bipush (-73), 2) := by decide +kernel
theorem dL_come_16 : decode cL_come 16 = .ok (.ireturn, 1) := by decide +kernel
theorem dL_come_17 : decode cL_come 17 = .ok (.iload_n 2, 1) := by decide +kernel
theorem dL_come_18 : decode cL_come 18 = .ok (.ireturn, 1) := by decide +kernel
theorem dL_drop_0 : decode cL_drop 0 = .ok (.aload_n 0, 1) := by decide +kernel
theorem dL_drop_1 : decode cL_drop 1 = .ok (.iload_n 1, 1) := by decide +kernel
theorem dL_drop_2 : decode cL_drop 2 = .ok (.invokevirtual 61, 3) := by decide +kernel
theorem dL_drop_5 : decode cL_drop 5 = .ok (.istore_n 2, 1) := by decide +kernel
theorem dL_drop_6 : decode cL_drop 6 = .ok (.goto 11, 3) := by decide +kernel
theorem dL_drop_9 : decode cL_drop 9 = .ok (.astore_n 3, 1) := by decide +kernel
theorem dL_drop_10 : decode cL_drop 10 = .ok (.bipush (-71), 2) := by decide +kernel
theorem dL_drop_12 : decode cL_drop 12 = .ok (.ireturn, 1) := by decide +kernel
theorem dL_drop_13 : decode cL_drop 13 = .ok (.astore_n 3, 1) := by decide +kernel
theorem dL_drop_14 : decode cL_drop 14 = .ok (.bipush (-73), 2) := by decide +kernel
theorem dL_drop_16 : decode cL_drop 16 = .ok (.ireturn, 1) := by decide +kernel
theorem dL_drop_17 : decode cL_drop 17 = .ok (.iload_n 2, 1) := by decide +kernel
theorem dL_drop_18 : decode cL_drop 18 = .ok (.ireturn, 1) := by decide +kernel
theorem dL_givenAt_0 : decode cL_givenAt 0 = .ok (.aload_n 0, 1) := by decide +kernel
theorem dL_givenAt_1 : decode cL_givenAt 1 = .ok (.iload_n 1, 1) := by decide +kernel
theorem dL_givenAt_2 : decode cL_givenAt 2 = .ok (.invokevirtual 64, 3) := by decide +kernel
theorem dL_givenAt_5 : decode cL_givenAt 5 = .ok (.istore_n 2, 1) := by decide +kernel
theorem dL_givenAt_6 : decode cL_givenAt 6 = .ok (.goto 7, 3) := by decide +kernel
theorem dL_givenAt_9 : decode cL_givenAt 9 = .ok (.astore_n 3, 1) := by decide +kernel
theorem dL_givenAt_10 : decode cL_givenAt 10 = .ok (.bipush (-71), 2) := by decide +kernel
theorem dL_givenAt_12 : decode cL_givenAt 12 = .ok (.ireturn, 1) := by decide +kernel
theorem dL_givenAt_13 : decode cL_givenAt 13 = .ok (.iload_n 2, 1) := by decide +kernel
theorem dL_givenAt_14 : decode cL_givenAt 14 = .ok (.ireturn, 1) := by decide +kernel
theorem dL_number_0 : decode cL_number 0 = .ok (.iload_n 0, 1) := by decide +kernel
theorem dL_number_1 : decode cL_number 1 = .ok (.tableswitch 41 0 3 #[31, 33, 35, 38], 31) := by decide +kernel
theorem dL_number_32 : decode cL_number 32 = .ok (.iconst 1, 1) := by decide +kernel
theorem dL_number_33 : decode cL_number 33 = .ok (.ireturn, 1) := by decide +kernel
theorem dL_number_34 : decode cL_number 34 = .ok (.iconst 2, 1) := by decide +kernel
theorem dL_number_35 : decode cL_number 35 = .ok (.ireturn, 1) := by decide +kernel
theorem dL_number_36 : decode cL_number 36 = .ok (.ldc 67, 2) := by decide +kernel
theorem dL_number_38 : decode cL_number 38 = .ok (.ireturn, 1) := by decide +kernel
theorem dL_number_39 : decode cL_number 39 = .ok (.ldc 68, 2) := by decide +kernel
theorem dL_number_41 : decode cL_number 41 = .ok (.ireturn, 1) := by decide +kernel
theorem dL_number_42 : decode cL_number 42 = .ok (.iconst 0, 1) := by decide +kernel
theorem dL_number_43 : decode cL_number 43 = .ok (.ireturn, 1) := by decide +kernel
theorem dL_post_0 : decode cL_post 0 = .ok (.aload_n 0, 1) := by decide +kernel
theorem dL_post_1 : decode cL_post 1 = .ok (.aload_n 1, 1) := by decide +kernel
theorem dL_post_2 : decode cL_post 2 = .ok (.bipush 8, 2) := by decide +kernel
theorem dL_post_4 : decode cL_post 4 = .ok (.iload_n 2, 1) := by decide +kernel
theorem dL_post_5 : decode cL_post 5 = .ok (.imul, 1) := by decide +kernel
theorem dL_post_6 : decode cL_post 6 = .ok (.bipush 7, 2) := by decide +kernel
theorem dL_post_8 : decode cL_post 8 = .ok (.iadd, 1) := by decide +kernel
theorem dL_post_9 : decode cL_post 9 = .ok (.iaload, 1) := by decide +kernel
theorem dL_post_10 : decode cL_post 10 = .ok (.iload_n 3, 1) := by decide +kernel
theorem dL_post_11 : decode cL_post 11 = .ok (.i2l, 1) := by decide +kernel
theorem dL_post_12 : decode cL_post 12 = .ok (.ldc2_w 69, 3) := by decide +kernel
theorem dL_post_15 : decode cL_post 15 = .ok (.lload 5, 2) := by decide +kernel
theorem dL_post_17 : decode cL_post 17 = .ok (.lmul, 1) := by decide +kernel
theorem dL_post_18 : decode cL_post 18 = .ok (.ladd, 1) := by decide +kernel
theorem dL_post_19 : decode cL_post 19 = .ok (.aload_n 1, 1) := by decide +kernel
theorem dL_post_20 : decode cL_post 20 = .ok (.bipush 8, 2) := by decide +kernel
theorem dL_post_22 : decode cL_post 22 = .ok (.iload_n 2, 1) := by decide +kernel
theorem dL_post_23 : decode cL_post 23 = .ok (.imul, 1) := by decide +kernel
theorem dL_post_24 : decode cL_post 24 = .ok (.bipush 6, 2) := by decide +kernel
theorem dL_post_26 : decode cL_post 26 = .ok (.iadd, 1) := by decide +kernel
theorem dL_post_27 : decode cL_post 27 = .ok (.iaload, 1) := by decide +kernel
theorem dL_post_28 : decode cL_post 28 = .ok (.i2l, 1) := by decide +kernel
theorem dL_post_29 : decode cL_post 29 = .ok (.bipush 32, 2) := by decide +kernel
theorem dL_post_31 : decode cL_post 31 = .ok (.lshl, 1) := by decide +kernel
theorem dL_post_32 : decode cL_post 32 = .ok (.ladd, 1) := by decide +kernel
theorem dL_post_33 : decode cL_post 33 = .ok (.iload 4, 2) := by decide +kernel
theorem dL_post_35 : decode cL_post 35 = .ok (.i2l, 1) := by decide +kernel
theorem dL_post_36 : decode cL_post 36 = .ok (.bipush 36, 2) := by decide +kernel
theorem dL_post_38 : decode cL_post 38 = .ok (.lshl, 1) := by decide +kernel
theorem dL_post_39 : decode cL_post 39 = .ok (.ladd, 1) := by decide +kernel
theorem dL_post_40 : decode cL_post 40 = .ok (.lastore, 1) := by decide +kernel
theorem dL_post_41 : decode cL_post 41 = .ok (.aload_n 1, 1) := by decide +kernel
theorem dL_post_42 : decode cL_post 42 = .ok (.bipush 8, 2) := by decide +kernel
theorem dL_post_44 : decode cL_post 44 = .ok (.iload_n 2, 1) := by decide +kernel
theorem dL_post_45 : decode cL_post 45 = .ok (.imul, 1) := by decide +kernel
theorem dL_post_46 : decode cL_post 46 = .ok (.bipush 7, 2) := by decide +kernel
theorem dL_post_48 : decode cL_post 48 = .ok (.iadd, 1) := by decide +kernel
theorem dL_post_49 : decode cL_post 49 = .ok (.dup2, 1) := by decide +kernel
theorem dL_post_50 : decode cL_post 50 = .ok (.iaload, 1) := by decide +kernel
theorem dL_post_51 : decode cL_post 51 = .ok (.iconst 1, 1) := by decide +kernel
theorem dL_post_52 : decode cL_post 52 = .ok (.iadd, 1) := by decide +kernel
theorem dL_post_53 : decode cL_post 53 = .ok (.iastore, 1) := by decide +kernel
theorem dL_post_54 : decode cL_post 54 = .ok (.return_, 1) := by decide +kernel
theorem dL_pull_0 : decode cL_pull 0 = .ok (.aload_n 0, 1) := by decide +kernel
theorem dL_pull_1 : decode cL_pull 1 = .ok (.iconst 0, 1) := by decide +kernel
theorem dL_pull_2 : decode cL_pull 2 = .ok (.laload, 1) := by decide +kernel
theorem dL_pull_3 : decode cL_pull 3 = .ok (.lstore_n 3, 1) := by decide +kernel
theorem dL_pull_4 : decode cL_pull 4 = .ok (.aload_n 1, 1) := by decide +kernel
theorem dL_pull_5 : decode cL_pull 5 = .ok (.bipush 8, 2) := by decide +kernel
theorem dL_pull_7 : decode cL_pull 7 = .ok (.iload_n 2, 1) := by decide +kernel
theorem dL_pull_8 : decode cL_pull 8 = .ok (.imul, 1) := by decide +kernel
theorem dL_pull_9 : decode cL_pull 9 = .ok (.bipush 7, 2) := by decide +kernel
theorem dL_pull_11 : decode cL_pull 11 = .ok (.iadd, 1) := by decide +kernel
theorem dL_pull_12 : decode cL_pull 12 = .ok (.dup2, 1) := by decide +kernel
theorem dL_pull_13 : decode cL_pull 13 = .ok (.iaload, 1) := by decide +kernel
theorem dL_pull_14 : decode cL_pull 14 = .ok (.iconst 1, 1) := by decide +kernel
theorem dL_pull_15 : decode cL_pull 15 = .ok (.isub, 1) := by decide +kernel
theorem dL_pull_16 : decode cL_pull 16 = .ok (.iastore, 1) := by decide +kernel
theorem dL_pull_17 : decode cL_pull 17 = .ok (.iconst 0, 1) := by decide +kernel
theorem dL_pull_18 : decode cL_pull 18 = .ok (.istore 5, 2) := by decide +kernel
theorem dL_pull_20 : decode cL_pull 20 = .ok (.iload 5, 2) := by decide +kernel
theorem dL_pull_22 : decode cL_pull 22 = .ok (.aload_n 1, 1) := by decide +kernel
theorem dL_pull_23 : decode cL_pull 23 = .ok (.bipush 8, 2) := by decide +kernel
theorem dL_pull_25 : decode cL_pull 25 = .ok (.iload_n 2, 1) := by decide +kernel
theorem dL_pull_26 : decode cL_pull 26 = .ok (.imul, 1) := by decide +kernel
theorem dL_pull_27 : decode cL_pull 27 = .ok (.bipush 7, 2) := by decide +kernel
theorem dL_pull_29 : decode cL_pull 29 = .ok (.iadd, 1) := by decide +kernel
theorem dL_pull_30 : decode cL_pull 30 = .ok (.iaload, 1) := by decide +kernel
theorem dL_pull_31 : decode cL_pull 31 = .ok (.if_icmp .ge 19, 3) := by decide +kernel
theorem dL_pull_34 : decode cL_pull 34 = .ok (.aload_n 0, 1) := by decide +kernel
theorem dL_pull_35 : decode cL_pull 35 = .ok (.iload 5, 2) := by decide +kernel
theorem dL_pull_37 : decode cL_pull 37 = .ok (.aload_n 0, 1) := by decide +kernel
theorem dL_pull_38 : decode cL_pull 38 = .ok (.iload 5, 2) := by decide +kernel
theorem dL_pull_40 : decode cL_pull 40 = .ok (.iconst 1, 1) := by decide +kernel
theorem dL_pull_41 : decode cL_pull 41 = .ok (.iadd, 1) := by decide +kernel
theorem dL_pull_42 : decode cL_pull 42 = .ok (.laload, 1) := by decide +kernel
theorem dL_pull_43 : decode cL_pull 43 = .ok (.lastore, 1) := by decide +kernel
theorem dL_pull_44 : decode cL_pull 44 = .ok (.iinc 5 1, 3) := by decide +kernel
theorem dL_pull_47 : decode cL_pull 47 = .ok (.goto (-27), 3) := by decide +kernel
theorem dL_pull_50 : decode cL_pull 50 = .ok (.lload_n 3, 1) := by decide +kernel
theorem dL_pull_51 : decode cL_pull 51 = .ok (.lreturn, 1) := by decide +kernel
theorem dL_beg_0 : decode cL_beg 0 = .ok (.bipush 8, 2) := by decide +kernel
theorem dL_beg_2 : decode cL_beg 2 = .ok (.iload_n 3, 1) := by decide +kernel
theorem dL_beg_3 : decode cL_beg 3 = .ok (.imul, 1) := by decide +kernel
theorem dL_beg_4 : decode cL_beg 4 = .ok (.istore 4, 2) := by decide +kernel
theorem dL_beg_6 : decode cL_beg 6 = .ok (.aload_n 2, 1) := by decide +kernel
theorem dL_beg_7 : decode cL_beg 7 = .ok (.iload 4, 2) := by decide +kernel
theorem dL_beg_9 : decode cL_beg 9 = .ok (.iconst 2, 1) := by decide +kernel
theorem dL_beg_10 : decode cL_beg 10 = .ok (.iadd, 1) := by decide +kernel
theorem dL_beg_11 : decode cL_beg 11 = .ok (.iaload, 1) := by decide +kernel
theorem dL_beg_12 : decode cL_beg 12 = .ok (.bipush 10, 2) := by decide +kernel
theorem dL_beg_14 : decode cL_beg 14 = .ok (.if_icmp .ne 10, 3) := by decide +kernel
theorem dL_beg_17 : decode cL_beg 17 = .ok (.aload_n 2, 1) := by decide +kernel
theorem dL_beg_18 : decode cL_beg 18 = .ok (.iload 4, 2) := by decide +kernel
theorem dL_beg_20 : decode cL_beg 20 = .ok (.iconst 0, 1) := by decide +kernel
theorem dL_beg_21 : decode cL_beg 21 = .ok (.iastore, 1) := by decide +kernel
theorem dL_beg_22 : decode cL_beg 22 = .ok (.iconst 0, 1) := by decide +kernel
theorem dL_beg_23 : decode cL_beg 23 = .ok (.ireturn, 1) := by decide +kernel
theorem dL_beg_24 : decode cL_beg 24 = .ok (.aload_n 2, 1) := by decide +kernel
theorem dL_beg_25 : decode cL_beg 25 = .ok (.iload 4, 2) := by decide +kernel
theorem dL_beg_27 : decode cL_beg 27 = .ok (.iconst 1, 1) := by decide +kernel
theorem dL_beg_28 : decode cL_beg 28 = .ok (.iadd, 1) := by decide +kernel
theorem dL_beg_29 : decode cL_beg 29 = .ok (.dup2, 1) := by decide +kernel
theorem dL_beg_30 : decode cL_beg 30 = .ok (.iaload, 1) := by decide +kernel
theorem dL_beg_31 : decode cL_beg 31 = .ok (.iconst 1, 1) := by decide +kernel
theorem dL_beg_32 : decode cL_beg 32 = .ok (.iadd, 1) := by decide +kernel
theorem dL_beg_33 : decode cL_beg 33 = .ok (.iastore, 1) := by decide +kernel
theorem dL_beg_34 : decode cL_beg 34 = .ok (.aload_n 2, 1) := by decide +kernel
theorem dL_beg_35 : decode cL_beg 35 = .ok (.iload 4, 2) := by decide +kernel
theorem dL_beg_37 : decode cL_beg 37 = .ok (.iconst 2, 1) := by decide +kernel
theorem dL_beg_38 : decode cL_beg 38 = .ok (.iadd, 1) := by decide +kernel
theorem dL_beg_39 : decode cL_beg 39 = .ok (.dup2, 1) := by decide +kernel
theorem dL_beg_40 : decode cL_beg 40 = .ok (.iaload, 1) := by decide +kernel
theorem dL_beg_41 : decode cL_beg 41 = .ok (.iconst 1, 1) := by decide +kernel
theorem dL_beg_42 : decode cL_beg 42 = .ok (.iadd, 1) := by decide +kernel
theorem dL_beg_43 : decode cL_beg 43 = .ok (.iastore, 1) := by decide +kernel
theorem dL_beg_44 : decode cL_beg 44 = .ok (.aload_n 2, 1) := by decide +kernel
theorem dL_beg_45 : decode cL_beg 45 = .ok (.iload 4, 2) := by decide +kernel
theorem dL_beg_47 : decode cL_beg 47 = .ok (.iconst 3, 1) := by decide +kernel
theorem dL_beg_48 : decode cL_beg 48 = .ok (.iadd, 1) := by decide +kernel
theorem dL_beg_49 : decode cL_beg 49 = .ok (.iconst 3, 1) := by decide +kernel
theorem dL_beg_50 : decode cL_beg 50 = .ok (.iastore, 1) := by decide +kernel
theorem dL_beg_51 : decode cL_beg 51 = .ok (.lconst 0, 1) := by decide +kernel
theorem dL_beg_52 : decode cL_beg 52 = .ok (.lstore 5, 2) := by decide +kernel
theorem dL_beg_54 : decode cL_beg 54 = .ok (.iconst 5, 1) := by decide +kernel
theorem dL_beg_55 : decode cL_beg 55 = .ok (.istore 7, 2) := by decide +kernel
theorem dL_beg_57 : decode cL_beg 57 = .ok (.iload 7, 2) := by decide +kernel
theorem dL_beg_59 : decode cL_beg 59 = .ok (.ifCond .lt 30, 3) := by decide +kernel
theorem dL_beg_62 : decode cL_beg 62 = .ok (.ldc2_w 71, 3) := by decide +kernel
theorem dL_beg_65 : decode cL_beg 65 = .ok (.lload 5, 2) := by decide +kernel
theorem dL_beg_67 : decode cL_beg 67 = .ok (.lmul, 1) := by decide +kernel
theorem dL_beg_68 : decode cL_beg 68 = .ok (.aload_n 1, 1) := by decide +kernel
theorem dL_beg_69 : decode cL_beg 69 = .ok (.bipush 6, 2) := by decide +kernel
theorem dL_beg_71 : decode cL_beg 71 = .ok (.iload_n 3, 1) := by decide +kernel
theorem dL_beg_72 : decode cL_beg 72 = .ok (.imul, 1) := by decide +kernel
theorem dL_beg_73 : decode cL_beg 73 = .ok (.iload 7, 2) := by decide +kernel
theorem dL_beg_75 : decode cL_beg 75 = .ok (.iadd, 1) := by decide +kernel
theorem dL_beg_76 : decode cL_beg 76 = .ok (.iaload, 1) := by decide +kernel
theorem dL_beg_77 : decode cL_beg 77 = .ok (.i2l, 1) := by decide +kernel
theorem dL_beg_78 : decode cL_beg 78 = .ok (.ladd, 1) := by decide +kernel
theorem dL_beg_79 : decode cL_beg 79 = .ok (.lconst 1, 1) := by decide +kernel
theorem dL_beg_80 : decode cL_beg 80 = .ok (.ladd, 1) := by decide +kernel
theorem dL_beg_81 : decode cL_beg 81 = .ok (.lstore 5, 2) := by decide +kernel
theorem dL_beg_83 : decode cL_beg 83 = .ok (.iinc 7 (-1), 3) := by decide +kernel
theorem dL_beg_86 : decode cL_beg 86 = .ok (.goto (-29), 3) := by decide +kernel
theorem dL_beg_89 : decode cL_beg 89 = .ok (.aload_n 0, 1) := by decide +kernel
theorem dL_beg_90 : decode cL_beg 90 = .ok (.aload_n 2, 1) := by decide +kernel
theorem dL_beg_91 : decode cL_beg 91 = .ok (.iload_n 3, 1) := by decide +kernel
theorem dL_beg_92 : decode cL_beg 92 = .ok (.iconst 0, 1) := by decide +kernel
theorem dL_beg_93 : decode cL_beg 93 = .ok (.aload_n 2, 1) := by decide +kernel
theorem dL_beg_94 : decode cL_beg 94 = .ok (.iload 4, 2) := by decide +kernel
theorem dL_beg_96 : decode cL_beg 96 = .ok (.iconst 1, 1) := by decide +kernel
theorem dL_beg_97 : decode cL_beg 97 = .ok (.iadd, 1) := by decide +kernel
theorem dL_beg_98 : decode cL_beg 98 = .ok (.iaload, 1) := by decide +kernel
theorem dL_beg_99 : decode cL_beg 99 = .ok (.lload 5, 2) := by decide +kernel
theorem dL_beg_101 : decode cL_beg 101 = .ok (.invokestatic 73, 3) := by decide +kernel
theorem dL_beg_104 : decode cL_beg 104 = .ok (.iconst 1, 1) := by decide +kernel
theorem dL_beg_105 : decode cL_beg 105 = .ok (.ireturn, 1) := by decide +kernel
theorem dL_answer_0 : decode cL_answer 0 = .ok (.bipush 8, 2) := by decide +kernel
theorem dL_answer_2 : decode cL_answer 2 = .ok (.iload 5, 2) := by decide +kernel
theorem dL_answer_4 : decode cL_answer 4 = .ok (.imul, 1) := by decide +kernel
theorem dL_answer_5 : decode cL_answer 5 = .ok (.istore 6, 2) := by decide +kernel
theorem dL_answer_7 : decode cL_answer 7 = .ok (.lload_n 0, 1) := by decide +kernel
theorem dL_answer_8 : decode cL_answer 8 = .ok (.bipush 36, 2) := by decide +kernel
theorem dL_answer_10 : decode cL_answer 10 = .ok (.lshr, 1) := by decide +kernel
theorem dL_answer_11 : decode cL_answer 11 = .ok (.l2i, 1) := by decide +kernel
theorem dL_answer_12 : decode cL_answer 12 = .ok (.istore 7, 2) := by decide +kernel
theorem dL_answer_14 : decode cL_answer 14 = .ok (.lconst 0, 1) := by decide +kernel
theorem dL_answer_15 : decode cL_answer 15 = .ok (.lstore 8, 2) := by decide +kernel
theorem dL_answer_17 : decode cL_answer 17 = .ok (.lconst 0, 1) := by decide +kernel
theorem dL_answer_18 : decode cL_answer 18 = .ok (.lstore 10, 2) := by decide +kernel
theorem dL_answer_20 : decode cL_answer 20 = .ok (.iconst 0, 1) := by decide +kernel
theorem dL_answer_21 : decode cL_answer 21 = .ok (.istore 12, 2) := by decide +kernel
theorem dL_answer_23 : decode cL_answer 23 = .ok (.iload 12, 2) := by decide +kernel
theorem dL_answer_25 : decode cL_answer 25 = .ok (.bipush 6, 2) := by decide +kernel
theorem dL_answer_27 : decode cL_answer 27 = .ok (.if_icmp .ge 119, 3) := by decide +kernel
theorem dL_answer_30 : decode cL_answer 30 = .ok (.lload_n 0, 1) := by decide +kernel
theorem dL_answer_31 : decode cL_answer 31 = .ok (.iconst 3, 1) := by decide +kernel
theorem dL_answer_32 : decode cL_answer 32 = .ok (.iconst 4, 1) := by decide +kernel
theorem dL_answer_33 : decode cL_answer 33 = .ok (.iload 12, 2) := by decide +kernel
theorem dL_answer_35 : decode cL_answer 35 = .ok (.imul, 1) := by decide +kernel
theorem dL_answer_36 : decode cL_answer 36 = .ok (.iadd, 1) := by decide +kernel
theorem dL_answer_37 : decode cL_answer 37 = .ok (.lshr, 1) := by decide +kernel
theorem dL_answer_38 : decode cL_answer 38 = .ok (.ldc2_w 79, 3) := by decide +kernel
theorem dL_answer_41 : decode cL_answer 41 = .ok (.land, 1) := by decide +kernel
theorem dL_answer_42 : decode cL_answer 42 = .ok (.l2i, 1) := by decide +kernel
theorem dL_answer_43 : decode cL_answer 43 = .ok (.istore 13, 2) := by decide +kernel
theorem dL_answer_45 : decode cL_answer 45 = .ok (.aload_n 3, 1) := by decide +kernel
theorem dL_answer_46 : decode cL_answer 46 = .ok (.bipush 6, 2) := by decide +kernel
theorem dL_answer_48 : decode cL_answer 48 = .ok (.iload 5, 2) := by decide +kernel
theorem dL_answer_50 : decode cL_answer 50 = .ok (.imul, 1) := by decide +kernel
theorem dL_answer_51 : decode cL_answer 51 = .ok (.iload 12, 2) := by decide +kernel
theorem dL_answer_53 : decode cL_answer 53 = .ok (.iadd, 1) := by decide +kernel
theorem dL_answer_54 : decode cL_answer 54 = .ok (.iaload, 1) := by decide +kernel
theorem dL_answer_55 : decode cL_answer 55 = .ok (.istore 14, 2) := by decide +kernel
theorem dL_answer_57 : decode cL_answer 57 = .ok (.iload 13, 2) := by decide +kernel
theorem dL_answer_59 : decode cL_answer 59 = .ok (.ifCond .eq 81, 3) := by decide +kernel
theorem dL_answer_62 : decode cL_answer 62 = .ok (.iload 14, 2) := by decide +kernel
theorem dL_answer_64 : decode cL_answer 64 = .ok (.iload 13, 2) := by decide +kernel
theorem dL_answer_66 : decode cL_answer 66 = .ok (.iconst 1, 1) := by decide +kernel
theorem dL_answer_67 : decode cL_answer 67 = .ok (.isub, 1) := by decide +kernel
theorem dL_answer_68 : decode cL_answer 68 = .ok (.ishr, 1) := by decide +kernel
theorem dL_answer_69 : decode cL_answer 69 = .ok (.iconst 1, 1) := by decide +kernel
theorem dL_answer_70 : decode cL_answer 70 = .ok (.iand, 1) := by decide +kernel
theorem dL_answer_71 : decode cL_answer 71 = .ok (.iconst 1, 1) := by decide +kernel
theorem dL_answer_72 : decode cL_answer 72 = .ok (.if_icmp .ne 6, 3) := by decide +kernel
theorem dL_answer_75 : decode cL_answer 75 = .ok (.goto 65, 3) := by decide +kernel
theorem dL_answer_78 : decode cL_answer 78 = .ok (.iload 14, 2) := by decide +kernel
theorem dL_answer_80 : decode cL_answer 80 = .ok (.ifCond .ne 16, 3) := by decide +kernel
theorem dL_answer_83 : decode cL_answer 83 = .ok (.lload 8, 2) := by decide +kernel
theorem dL_answer_85 : decode cL_answer 85 = .ok (.iload 13, 2) := by decide +kernel
theorem dL_answer_87 : decode cL_answer 87 = .ok (.i2l, 1) := by decide +kernel
theorem dL_answer_88 : decode cL_answer 88 = .ok (.iconst 4, 1) := by decide +kernel
theorem dL_answer_89 : decode cL_answer 89 = .ok (.iload 12, 2) := by decide +kernel
theorem dL_answer_91 : decode cL_answer 91 = .ok (.imul, 1) := by decide +kernel
theorem dL_answer_92 : decode cL_answer 92 = .ok (.lshl, 1) := by decide +kernel
theorem dL_answer_93 : decode cL_answer 93 = .ok (.lor, 1) := by decide +kernel
theorem dL_answer_94 : decode cL_answer 94 = .ok (.lstore 8, 2) := by decide +kernel
theorem dL_answer_96 : decode cL_answer 96 = .ok (.iconst 0, 1) := by decide +kernel
theorem dL_answer_97 : decode cL_answer 97 = .ok (.istore 15, 2) := by decide +kernel
theorem dL_answer_99 : decode cL_answer 99 = .ok (.iload 14, 2) := by decide +kernel
theorem dL_answer_101 : decode cL_answer 101 = .ok (.ifCond .le 19, 3) := by decide +kernel
theorem dL_answer_104 : decode cL_answer 104 = .ok (.iload 14, 2) := by decide +kernel
theorem dL_answer_106 : decode cL_answer 106 = .ok (.iconst 1, 1) := by decide +kernel
theorem dL_answer_107 : decode cL_answer 107 = .ok (.iload 15, 2) := by decide +kernel
theorem dL_answer_109 : decode cL_answer 109 = .ok (.ishl, 1) := by decide +kernel
theorem dL_answer_110 : decode cL_answer 110 = .ok (.iand, 1) := by decide +kernel
theorem dL_answer_111 : decode cL_answer 111 = .ok (.ifCond .ne 9, 3) := by decide +kernel
theorem dL_answer_114 : decode cL_answer 114 = .ok (.iinc 15 1, 3) := by decide +kernel
theorem dL_answer_117 : decode cL_answer 117 = .ok (.goto (-18), 3) := by decide +kernel
theorem dL_answer_120 : decode cL_answer 120 = .ok (.iload 14, 2) := by decide +kernel
theorem dL_answer_122 : decode cL_answer 122 = .ok (.ifCond .le 18, 3) := by decide +kernel
theorem dL_answer_125 : decode cL_answer 125 = .ok (.lload 10, 2) := by decide +kernel
theorem dL_answer_127 : decode cL_answer 127 = .ok (.iload 15, 2) := by decide +kernel
theorem dL_answer_129 : decode cL_answer 129 = .ok (.i2l, 1) := by decide +kernel
theorem dL_answer_130 : decode cL_answer 130 = .ok (.lconst 1, 1) := by decide +kernel
theorem dL_answer_131 : decode cL_answer 131 = .ok (.ladd, 1) := by decide +kernel
theorem dL_answer_132 : decode cL_answer 132 = .ok (.iconst 4, 1) := by decide +kernel
theorem dL_answer_133 : decode cL_answer 133 = .ok (.iload 12, 2) := by decide +kernel
theorem dL_answer_135 : decode cL_answer 135 = .ok (.imul, 1) := by decide +kernel
theorem dL_answer_136 : decode cL_answer 136 = .ok (.lshl, 1) := by decide +kernel
theorem dL_answer_137 : decode cL_answer 137 = .ok (.lor, 1) := by decide +kernel
theorem dL_answer_138 : decode cL_answer 138 = .ok (.lstore 10, 2) := by decide +kernel
theorem dL_answer_140 : decode cL_answer 140 = .ok (.iinc 12 1, 3) := by decide +kernel
theorem dL_answer_143 : decode cL_answer 143 = .ok (.goto (-120), 3) := by decide +kernel
theorem dL_answer_146 : decode cL_answer 146 = .ok (.lload 8, 2) := by decide +kernel
theorem dL_answer_148 : decode cL_answer 148 = .ok (.lconst 0, 1) := by decide +kernel
theorem dL_answer_149 : decode cL_answer 149 = .ok (.lcmp, 1) := by decide +kernel
theorem dL_answer_150 : decode cL_answer 150 = .ok (.ifCond .gt 10, 3) := by decide +kernel
theorem dL_answer_153 : decode cL_answer 153 = .ok (.lload 10, 2) := by decide +kernel
theorem dL_answer_155 : decode cL_answer 155 = .ok (.lconst 0, 1) := by decide +kernel
theorem dL_answer_156 : decode cL_answer 156 = .ok (.lcmp, 1) := by decide +kernel
theorem dL_answer_157 : decode cL_answer 157 = .ok (.ifCond .le 55, 3) := by decide +kernel
