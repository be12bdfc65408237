theorem dX0_init_0 : decode cX0_init 0 = .ok (.aload_n 0, 1) := by decide +kernel
theorem dX0_init_1 : decode cX0_init 1 = .ok (.invokespecial 3, 3) := by decide +kernel
theorem dX0_init_4 : decode cX0_init 4 = .ok (.aload_n 0, 1) := by decide +kernel
theorem dX0_init_5 : decode cX0_init 5 = .ok (.bipush 61, 2) := by decide +kernel
theorem dX0_init_7 : decode cX0_init 7 = .ok (.newarray .int, 2) := by decide +kernel
theorem dX0_init_9 : decode cX0_init 9 = .ok (.putfield 9, 3) := by decide +kernel
theorem dX0_init_12 : decode cX0_init 12 = .ok (.aload_n 0, 1) := by decide +kernel
theorem dX0_init_13 : decode cX0_init 13 = .ok (.sipush 240, 3) := by decide +kernel
theorem dX0_init_16 : decode cX0_init 16 = .ok (.newarray .int, 2) := by decide +kernel
theorem dX0_init_18 : decode cX0_init 18 = .ok (.putfield 15, 3) := by decide +kernel
theorem dX0_init_21 : decode cX0_init 21 = .ok (.aload_n 0, 1) := by decide +kernel
theorem dX0_init_22 : decode cX0_init 22 = .ok (.sipush 240, 3) := by decide +kernel
theorem dX0_init_25 : decode cX0_init 25 = .ok (.newarray .boolean, 2) := by decide +kernel
theorem dX0_init_27 : decode cX0_init 27 = .ok (.putfield 18, 3) := by decide +kernel
theorem dX0_init_30 : decode cX0_init 30 = .ok (.aload_n 0, 1) := by decide +kernel
theorem dX0_init_31 : decode cX0_init 31 = .ok (.iconst 3, 1) := by decide +kernel
theorem dX0_init_32 : decode cX0_init 32 = .ok (.newarray .int, 2) := by decide +kernel
theorem dX0_init_34 : decode cX0_init 34 = .ok (.putfield 22, 3) := by decide +kernel
theorem dX0_init_37 : decode cX0_init 37 = .ok (.aload_n 0, 1) := by decide +kernel
theorem dX0_init_38 : decode cX0_init 38 = .ok (.iconst 3, 1) := by decide +kernel
theorem dX0_init_39 : decode cX0_init 39 = .ok (.newarray .int, 2) := by decide +kernel
theorem dX0_init_41 : decode cX0_init 41 = .ok (.putfield 25, 3) := by decide +kernel
theorem dX0_init_44 : decode cX0_init 44 = .ok (.aload_n 0, 1) := by decide +kernel
theorem dX0_init_45 : decode cX0_init 45 = .ok (.bipush 60, 2) := by decide +kernel
theorem dX0_init_47 : decode cX0_init 47 = .ok (.newarray .int, 2) := by decide +kernel
theorem dX0_init_49 : decode cX0_init 49 = .ok (.putfield 28, 3) := by decide +kernel
theorem dX0_init_52 : decode cX0_init 52 = .ok (.aload_n 0, 1) := by decide +kernel
theorem dX0_init_53 : decode cX0_init 53 = .ok (.iconst 0, 1) := by decide +kernel
theorem dX0_init_54 : decode cX0_init 54 = .ok (.putfield 31, 3) := by decide +kernel
theorem dX0_init_57 : decode cX0_init 57 = .ok (.aload_n 0, 1) := by decide +kernel
theorem dX0_init_58 : decode cX0_init 58 = .ok (.iconst 0, 1) := by decide +kernel
theorem dX0_init_59 : decode cX0_init 59 = .ok (.putfield 35, 3) := by decide +kernel
theorem dX0_init_62 : decode cX0_init 62 = .ok (.aload_n 0, 1) := by decide +kernel
theorem dX0_init_63 : decode cX0_init 63 = .ok (.iconst 0, 1) := by decide +kernel
theorem dX0_init_64 : decode cX0_init 64 = .ok (.putfield 38, 3) := by decide +kernel
theorem dX0_init_67 : decode cX0_init 67 = .ok (.iconst 0, 1) := by decide +kernel
theorem dX0_init_68 : decode cX0_init 68 = .ok (.istore_n 1, 1) := by decide +kernel
theorem dX0_init_69 : decode cX0_init 69 = .ok (.iload_n 1, 1) := by decide +kernel
theorem dX0_init_70 : decode cX0_init 70 = .ok (.iconst 3, 1) := by decide +kernel
theorem dX0_init_71 : decode cX0_init 71 = .ok (.if_icmp .ge 16, 3) := by decide +kernel
theorem dX0_init_74 : decode cX0_init 74 = .ok (.aload_n 0, 1) := by decide +kernel
theorem dX0_init_75 : decode cX0_init 75 = .ok (.getfield 22, 3) := by decide +kernel
theorem dX0_init_78 : decode cX0_init 78 = .ok (.iload_n 1, 1) := by decide +kernel
theorem dX0_init_79 : decode cX0_init 79 = .ok (.iload_n 1, 1) := by decide +kernel
theorem dX0_init_80 : decode cX0_init 80 = .ok (.iastore, 1) := by decide +kernel
theorem dX0_init_81 : decode cX0_init 81 = .ok (.iinc 1 1, 3) := by decide +kernel
theorem dX0_init_84 : decode cX0_init 84 = .ok (.goto (-15), 3) := by decide +kernel
theorem dX0_init_87 : decode cX0_init 87 = .ok (.aload_n 0, 1) := by decide +kernel
theorem dX0_init_88 : decode cX0_init 88 = .ok (.getfield 25, 3) := by decide +kernel
theorem dX0_init_91 : decode cX0_init 91 = .ok (.iconst (-1), 1) := by decide +kernel
theorem dX0_init_92 : decode cX0_init 92 = .ok (.invokestatic 41, 3) := by decide +kernel
theorem dX0_init_95 : decode cX0_init 95 = .ok (.return_, 1) := by decide +kernel
theorem dX0_addPacket_0 : decode cX0_addPacket 0 = .ok (.aload_n 0, 1) := by decide +kernel
theorem dX0_addPacket_1 : decode cX0_addPacket 1 = .ok (.getfield 9, 3) := by decide +kernel
theorem dX0_addPacket_4 : decode cX0_addPacket 4 = .ok (.aload_n 0, 1) := by decide +kernel
theorem dX0_addPacket_5 : decode cX0_addPacket 5 = .ok (.getfield 31, 3) := by decide +kernel
theorem dX0_addPacket_8 : decode cX0_addPacket 8 = .ok (.iaload, 1) := by decide +kernel
theorem dX0_addPacket_9 : decode cX0_addPacket 9 = .ok (.istore_n 2, 1) := by decide +kernel
theorem dX0_addPacket_10 : decode cX0_addPacket 10 = .ok (.iload_n 2, 1) := by decide +kernel
theorem dX0_addPacket_11 : decode cX0_addPacket 11 = .ok (.istore_n 3, 1) := by decide +kernel
theorem dX0_addPacket_12 : decode cX0_addPacket 12 = .ok (.iload_n 3, 1) := by decide +kernel
theorem dX0_addPacket_13 : decode cX0_addPacket 13 = .ok (.iload_n 2, 1) := by decide +kernel
theorem dX0_addPacket_14 : decode cX0_addPacket 14 = .ok (.iload_n 1, 1) := by decide +kernel
theorem dX0_addPacket_15 : decode cX0_addPacket 15 = .ok (.iadd, 1) := by decide +kernel
theorem dX0_addPacket_16 : decode cX0_addPacket 16 = .ok (.if_icmp .ge 19, 3) := by decide +kernel
theorem dX0_addPacket_19 : decode cX0_addPacket 19 = .ok (.aload_n 0, 1) := by decide +kernel
theorem dX0_addPacket_20 : decode cX0_addPacket 20 = .ok (.getfield 15, 3) := by decide +kernel
theorem dX0_addPacket_23 : decode cX0_addPacket 23 = .ok (.iload_n 3, 1) := by decide +kernel
theorem dX0_addPacket_24 : decode cX0_addPacket 24 = .ok (.aload_n 0, 1) := by decide +kernel
theorem dX0_addPacket_25 : decode cX0_addPacket 25 = .ok (.getfield 31, 3) := by decide +kernel
theorem dX0_addPacket_28 : decode cX0_addPacket 28 = .ok (.iastore, 1) := by decide +kernel
theorem dX0_addPacket_29 : decode cX0_addPacket 29 = .ok (.iinc 3 1, 3) := by decide +kernel
theorem dX0_addPacket_32 : decode cX0_addPacket 32 = .ok (.goto (-20), 3) := by decide +kernel
theorem dX0_addPacket_35 : decode cX0_addPacket 35 = .ok (.aload_n 0, 1) := by decide +kernel
theorem dX0_addPacket_36 : decode cX0_addPacket 36 = .ok (.dup, 1) := by decide +kernel
theorem dX0_addPacket_37 : decode cX0_addPacket 37 = .ok (.getfield 31, 3) := by decide +kernel
theorem dX0_addPacket_40 : decode cX0_addPacket 40 = .ok (.iconst 1, 1) := by decide +kernel
theorem dX0_addPacket_41 : decode cX0_addPacket 41 = .ok (.iadd, 1) := by decide +kernel
theorem dX0_addPacket_42 : decode cX0_addPacket 42 = .ok (.putfield 31, 3) := by decide +kernel
theorem dX0_addPacket_45 : decode cX0_addPacket 45 = .ok (.aload_n 0, 1) := by decide +kernel
theorem dX0_addPacket_46 : decode cX0_addPacket 46 = .ok (.getfield 9, 3) := by decide +kernel
theorem dX0_addPacket_49 : decode cX0_addPacket 49 = .ok (.aload_n 0, 1) := by decide +kernel
theorem dX0_addPacket_50 : decode cX0_addPacket 50 = .ok (.getfield 31, 3) := by decide +kernel
theorem dX0_addPacket_53 : decode cX0_addPacket 53 = .ok (.iload_n 2, 1) := by decide +kernel
theorem dX0_addPacket_54 : decode cX0_addPacket 54 = .ok (.iload_n 1, 1) := by decide +kernel
theorem dX0_addPacket_55 : decode cX0_addPacket 55 = .ok (.iadd, 1) := by decide +kernel
theorem dX0_addPacket_56 : decode cX0_addPacket 56 = .ok (.iastore, 1) := by decide +kernel
theorem dX0_addPacket_57 : decode cX0_addPacket 57 = .ok (.iload_n 2, 1) := by decide +kernel
theorem dX0_addPacket_58 : decode cX0_addPacket 58 = .ok (.ireturn, 1) := by decide +kernel
theorem dX0_hasPieceOn_0 : decode cX0_hasPieceOn 0 = .ok (.aload_n 0, 1) := by decide +kernel
theorem dX0_hasPieceOn_1 : decode cX0_hasPieceOn 1 = .ok (.getfield 22, 3) := by decide +kernel
theorem dX0_hasPieceOn_4 : decode cX0_hasPieceOn 4 = .ok (.iload_n 1, 1) := by decide +kernel
theorem dX0_hasPieceOn_5 : decode cX0_hasPieceOn 5 = .ok (.iaload, 1) := by decide +kernel
theorem dX0_hasPieceOn_6 : decode cX0_hasPieceOn 6 = .ok (.aload_n 0, 1) := by decide +kernel
theorem dX0_hasPieceOn_7 : decode cX0_hasPieceOn 7 = .ok (.getfield 9, 3) := by decide +kernel
theorem dX0_hasPieceOn_10 : decode cX0_hasPieceOn 10 = .ok (.aload_n 0, 1) := by decide +kernel
theorem dX0_hasPieceOn_11 : decode cX0_hasPieceOn 11 = .ok (.getfield 31, 3) := by decide +kernel
theorem dX0_hasPieceOn_14 : decode cX0_hasPieceOn 14 = .ok (.iaload, 1) := by decide +kernel
theorem dX0_hasPieceOn_15 : decode cX0_hasPieceOn 15 = .ok (.if_icmp .ge 7, 3) := by decide +kernel
theorem dX0_hasPieceOn_18 : decode cX0_hasPieceOn 18 = .ok (.iconst 1, 1) := by decide +kernel
theorem dX0_hasPieceOn_19 : decode cX0_hasPieceOn 19 = .ok (.goto 4, 3) := by decide +kernel
theorem dX0_hasPieceOn_22 : decode cX0_hasPieceOn 22 = .ok (.iconst 0, 1) := by decide +kernel
theorem dX0_hasPieceOn_23 : decode cX0_hasPieceOn 23 = .ok (.ireturn, 1) := by decide +kernel
theorem dX0_takePiece_0 : decode cX0_takePiece 0 = .ok (.aload_n 0, 1) := by decide +kernel
theorem dX0_takePiece_1 : decode cX0_takePiece 1 = .ok (.getfield 22, 3) := by decide +kernel
theorem dX0_takePiece_4 : decode cX0_takePiece 4 = .ok (.iload_n 1, 1) := by decide +kernel
theorem dX0_takePiece_5 : decode cX0_takePiece 5 = .ok (.iaload, 1) := by decide +kernel
theorem dX0_takePiece_6 : decode cX0_takePiece 6 = .ok (.istore_n 2, 1) := by decide +kernel
theorem dX0_takePiece_7 : decode cX0_takePiece 7 = .ok (.aload_n 0, 1) := by decide +kernel
theorem dX0_takePiece_8 : decode cX0_takePiece 8 = .ok (.getfield 22, 3) := by decide +kernel
theorem dX0_takePiece_11 : decode cX0_takePiece 11 = .ok (.iload_n 1, 1) := by decide +kernel
theorem dX0_takePiece_12 : decode cX0_takePiece 12 = .ok (.iload_n 2, 1) := by decide +kernel
theorem dX0_takePiece_13 : decode cX0_takePiece 13 = .ok (.iconst 3, 1) := by decide +kernel
theorem dX0_takePiece_14 : decode cX0_takePiece 14 = .ok (.iadd, 1) := by decide +kernel
theorem dX0_takePiece_15 : decode cX0_takePiece 15 = .ok (.iastore, 1) := by decide +kernel
theorem dX0_takePiece_16 : decode cX0_takePiece 16 = .ok (.iload_n 2, 1) := by decide +kernel
theorem dX0_takePiece_17 : decode cX0_takePiece 17 = .ok (.ireturn, 1) := by decide +kernel
theorem dX0_bring_0 : decode cX0_bring 0 = .ok (.aload_n 0, 1) := by decide +kernel
theorem dX0_bring_1 : decode cX0_bring 1 = .ok (.getfield 35, 3) := by decide +kernel
theorem dX0_bring_4 : decode cX0_bring 4 = .ok (.istore_n 2, 1) := by decide +kernel
theorem dX0_bring_5 : decode cX0_bring 5 = .ok (.aload_n 0, 1) := by decide +kernel
theorem dX0_bring_6 : decode cX0_bring 6 = .ok (.iload_n 1, 1) := by decide +kernel
theorem dX0_bring_7 : decode cX0_bring 7 = .ok (.invokevirtual 47, 3) := by decide +kernel
theorem dX0_bring_10 : decode cX0_bring 10 = .ok (.istore_n 3, 1) := by decide +kernel
theorem dX0_bring_11 : decode cX0_bring 11 = .ok (.aload_n 0, 1) := by decide +kernel
theorem dX0_bring_12 : decode cX0_bring 12 = .ok (.getfield 18, 3) := by decide +kernel
theorem dX0_bring_15 : decode cX0_bring 15 = .ok (.iload_n 3, 1) := by decide +kernel
theorem dX0_bring_16 : decode cX0_bring 16 = .ok (.iconst 1, 1) := by decide +kernel
theorem dX0_bring_17 : decode cX0_bring 17 = .ok (.bastore, 1) := by decide +kernel
theorem dX0_bring_18 : decode cX0_bring 18 = .ok (.aload_n 0, 1) := by decide +kernel
theorem dX0_bring_19 : decode cX0_bring 19 = .ok (.getfield 25, 3) := by decide +kernel
theorem dX0_bring_22 : decode cX0_bring 22 = .ok (.iload_n 1, 1) := by decide +kernel
theorem dX0_bring_23 : decode cX0_bring 23 = .ok (.iload_n 3, 1) := by decide +kernel
theorem dX0_bring_24 : decode cX0_bring 24 = .ok (.iastore, 1) := by decide +kernel
theorem dX0_bring_25 : decode cX0_bring 25 = .ok (.aload_n 0, 1) := by decide +kernel
theorem dX0_bring_26 : decode cX0_bring 26 = .ok (.getfield 18, 3) := by decide +kernel
theorem dX0_bring_29 : decode cX0_bring 29 = .ok (.arraylength, 1) := by decide +kernel
theorem dX0_bring_30 : decode cX0_bring 30 = .ok (.istore 4, 2) := by decide +kernel
theorem dX0_bring_32 : decode cX0_bring 32 = .ok (.iload 4, 2) := by decide +kernel
theorem dX0_bring_34 : decode cX0_bring 34 = .ok (.ifCond .le 16, 3) := by decide +kernel
theorem dX0_bring_37 : decode cX0_bring 37 = .ok (.aload_n 0, 1) := by decide +kernel
theorem dX0_bring_38 : decode cX0_bring 38 = .ok (.invokevirtual 51, 3) := by decide +kernel
theorem dX0_bring_41 : decode cX0_bring 41 = .ok (.ifCond .eq 9, 3) := by decide +kernel
theorem dX0_bring_44 : decode cX0_bring 44 = .ok (.iinc 4 (-1), 3) := by decide +kernel
theorem dX0_bring_47 : decode cX0_bring 47 = .ok (.goto (-15), 3) := by decide +kernel
theorem dX0_bring_50 : decode cX0_bring 50 = .ok (.aload_n 0, 1) := by decide +kernel
theorem dX0_bring_51 : decode cX0_bring 51 = .ok (.getfield 35, 3) := by decide +kernel
theorem dX0_bring_54 : decode cX0_bring 54 = .ok (.iload_n 2, 1) := by decide +kernel
theorem dX0_bring_55 : decode cX0_bring 55 = .ok (.isub, 1) := by decide +kernel
theorem dX0_bring_56 : decode cX0_bring 56 = .ok (.ireturn, 1) := by decide +kernel
theorem dX0_advance_0 : decode cX0_advance 0 = .ok (.aload_n 0, 1) := by decide +kernel
theorem dX0_advance_1 : decode cX0_advance 1 = .ok (.getfield 38, 3) := by decide +kernel
theorem dX0_advance_4 : decode cX0_advance 4 = .ok (.istore_n 1, 1) := by decide +kernel
theorem dX0_advance_5 : decode cX0_advance 5 = .ok (.iload_n 1, 1) := by decide +kernel
theorem dX0_advance_6 : decode cX0_advance 6 = .ok (.aload_n 0, 1) := by decide +kernel
theorem dX0_advance_7 : decode cX0_advance 7 = .ok (.getfield 9, 3) := by decide +kernel
theorem dX0_advance_10 : decode cX0_advance 10 = .ok (.aload_n 0, 1) := by decide +kernel
theorem dX0_advance_11 : decode cX0_advance 11 = .ok (.getfield 31, 3) := by decide +kernel
theorem dX0_advance_14 : decode cX0_advance 14 = .ok (.iaload, 1) := by decide +kernel
theorem dX0_advance_15 : decode cX0_advance 15 = .ok (.if_icmp .lt 5, 3) := by decide +kernel
theorem dX0_advance_18 : decode cX0_advance 18 = .ok (.iconst 0, 1) := by decide +kernel
theorem dX0_advance_19 : decode cX0_advance 19 = .ok (.ireturn, 1) := by decide +kernel
theorem dX0_advance_20 : decode cX0_advance 20 = .ok (.aload_n 0, 1) := by decide +kernel
theorem dX0_advance_21 : decode cX0_advance 21 = .ok (.getfield 15, 3) := by decide +kernel
theorem dX0_advance_24 : decode cX0_advance 24 = .ok (.iload_n 1, 1) := by decide +kernel
theorem dX0_advance_25 : decode cX0_advance 25 = .ok (.iaload, 1) := by decide +kernel
theorem dX0_advance_26 : decode cX0_advance 26 = .ok (.istore_n 2, 1) := by decide +kernel
theorem dX0_advance_27 : decode cX0_advance 27 = .ok (.aload_n 0, 1) := by decide +kernel
theorem dX0_advance_28 : decode cX0_advance 28 = .ok (.getfield 18, 3) := by decide +kernel
theorem dX0_advance_31 : decode cX0_advance 31 = .ok (.iload_n 1, 1) := by decide +kernel
theorem dX0_advance_32 : decode cX0_advance 32 = .ok (.baload, 1) := by decide +kernel
theorem dX0_advance_33 : decode cX0_advance 33 = .ok (.ifCond .eq 19, 3) := by decide +kernel
theorem dX0_advance_36 : decode cX0_advance 36 = .ok (.aload_n 0, 1) := by decide +kernel
theorem dX0_advance_37 : decode cX0_advance 37 = .ok (.getfield 9, 3) := by decide +kernel
theorem dX0_advance_40 : decode cX0_advance 40 = .ok (.iload_n 2, 1) := by decide +kernel
theorem dX0_advance_41 : decode cX0_advance 41 = .ok (.iaload, 1) := by decide +kernel
theorem dX0_advance_42 : decode cX0_advance 42 = .ok (.iload_n 1, 1) := by decide +kernel
theorem dX0_advance_43 : decode cX0_advance 43 = .ok (.if_icmp .ne 9, 3) := by decide +kernel
theorem dX0_advance_46 : decode cX0_advance 46 = .ok (.aload_n 0, 1) := by decide +kernel
theorem dX0_advance_47 : decode cX0_advance 47 = .ok (.iload_n 2, 1) := by decide +kernel
theorem dX0_advance_48 : decode cX0_advance 48 = .ok (.invokevirtual 55, 3) := by decide +kernel
theorem dX0_advance_51 : decode cX0_advance 51 = .ok (.ireturn, 1) := by decide +kernel
theorem dX0_advance_52 : decode cX0_advance 52 = .ok (.aload_n 0, 1) := by decide +kernel
theorem dX0_advance_53 : decode cX0_advance 53 = .ok (.getfield 18, 3) := by decide +kernel
theorem dX0_advance_56 : decode cX0_advance 56 = .ok (.iload_n 1, 1) := by decide +kernel
theorem dX0_advance_57 : decode cX0_advance 57 = .ok (.baload, 1) := by decide +kernel
theorem dX0_advance_58 : decode cX0_advance 58 = .ok (.ifCond .ne 13, 3) := by decide +kernel
theorem dX0_advance_61 : decode cX0_advance 61 = .ok (.iload_n 1, 1) := by decide +kernel
theorem dX0_advance_62 : decode cX0_advance 62 = .ok (.aload_n 0, 1) := by decide +kernel
theorem dX0_advance_63 : decode cX0_advance 63 = .ok (.invokevirtual 59, 3) := by decide +kernel
theorem dX0_advance_66 : decode cX0_advance 66 = .ok (.if_icmp .lt 5, 3) := by decide +kernel
theorem dX0_advance_69 : decode cX0_advance 69 = .ok (.iconst 0, 1) := by decide +kernel
theorem dX0_advance_70 : decode cX0_advance 70 = .ok (.ireturn, 1) := by decide +kernel
theorem dX0_advance_71 : decode cX0_advance 71 = .ok (.aload_n 0, 1) := by decide +kernel
theorem dX0_advance_72 : decode cX0_advance 72 = .ok (.iload_n 1, 1) := by decide +kernel
theorem dX0_advance_73 : decode cX0_advance 73 = .ok (.iconst 1, 1) := by decide +kernel
theorem dX0_advance_74 : decode cX0_advance 74 = .ok (.iadd, 1) := by decide +kernel
theorem dX0_advance_75 : decode cX0_advance 75 = .ok (.putfield 38, 3) := by decide +kernel
theorem dX0_advance_78 : decode cX0_advance 78 = .ok (.iconst 1, 1) := by decide +kernel
theorem dX0_advance_79 : decode cX0_advance 79 = .ok (.ireturn, 1) := by decide +kernel
theorem dX0_advanceFromFirst_0 : decode cX0_advanceFromFirst 0 = .ok (.aload_n 0, 1) := by decide +kernel
theorem dX0_advanceFromFirst_1 : decode cX0_advanceFromFirst 1 = .ok (.iload_n 1, 1) := by decide +kernel
theorem dX0_advanceFromFirst_2 : decode cX0_advanceFromFirst 2 = .ok (.invokevirtual 63, 3) := by decide +kernel
theorem dX0_advanceFromFirst_5 : decode cX0_advanceFromFirst 5 = .ok (.istore_n 2, 1) := by decide +kernel
theorem dX0_advanceFromFirst_6 : decode cX0_advanceFromFirst 6 = .ok (.iload_n 2, 1) := by decide +kernel
theorem dX0_advanceFromFirst_7 : decode cX0_advanceFromFirst 7 = .ok (.aload_n 0, 1) := by decide +kernel
theorem dX0_advanceFromFirst_8 : decode cX0_advanceFromFirst 8 = .ok (.getfield 9, 3) := by decide +kernel
theorem dX0_advanceFromFirst_11 : decode cX0_advanceFromFirst 11 = .ok (.iload_n 1, 1) := by decide +kernel
theorem dX0_advanceFromFirst_12 : decode cX0_advanceFromFirst 12 = .ok (.iconst 1, 1) := by decide +kernel
theorem dX0_advanceFromFirst_13 : decode cX0_advanceFromFirst 13 = .ok (.iadd, 1) := by decide +kernel
theorem dX0_advanceFromFirst_14 : decode cX0_advanceFromFirst 14 = .ok (.iaload, 1) := by decide +kernel
theorem dX0_advanceFromFirst_15 : decode cX0_advanceFromFirst 15 = .ok (.if_icmp .ne 15, 3) := by decide +kernel
theorem dX0_advanceFromFirst_18 : decode cX0_advanceFromFirst 18 = .ok (.aload_n 0, 1) := by decide +kernel
theorem dX0_advanceFromFirst_19 : decode cX0_advanceFromFirst 19 = .ok (.iload_n 1, 1) := by decide +kernel
theorem dX0_advanceFromFirst_20 : decode cX0_advanceFromFirst 20 = .ok (.invokevirtual 66, 3) := by decide +kernel
theorem dX0_advanceFromFirst_23 : decode cX0_advanceFromFirst 23 = .ok (.aload_n 0, 1) := by decide +kernel
theorem dX0_advanceFromFirst_24 : decode cX0_advanceFromFirst 24 = .ok (.iload_n 2, 1) := by decide +kernel
theorem dX0_advanceFromFirst_25 : decode cX0_advanceFromFirst 25 = .ok (.putfield 38, 3) := by decide +kernel
theorem dX0_advanceFromFirst_28 : decode cX0_advanceFromFirst 28 = .ok (.iconst 1, 1) := by decide +kernel
theorem dX0_advanceFromFirst_29 : decode cX0_advanceFromFirst 29 = .ok (.ireturn, 1) := by decide +kernel
theorem dX0_advanceFromFirst_30 : decode cX0_advanceFromFirst 30 = .ok (.iload_n 2, 1) := by decide +kernel
theorem dX0_advanceFromFirst_31 : decode cX0_advanceFromFirst 31 = .ok (.aload_n 0, 1) := by decide +kernel
theorem dX0_advanceFromFirst_32 : decode cX0_advanceFromFirst 32 = .ok (.invokevirtual 59, 3) := by decide +kernel
theorem dX0_advanceFromFirst_35 : decode cX0_advanceFromFirst 35 = .ok (.if_icmp .lt 5, 3) := by decide +kernel
theorem dX0_advanceFromFirst_38 : decode cX0_advanceFromFirst 38 = .ok (.iconst 0, 1) := by decide +kernel
theorem dX0_advanceFromFirst_39 : decode cX0_advanceFromFirst 39 = .ok (.ireturn, 1) := by decide +kernel
theorem dX0_advanceFromFirst_40 : decode cX0_advanceFromFirst 40 = .ok (.aload_n 0, 1) := by decide +kernel
theorem dX0_advanceFromFirst_41 : decode cX0_advanceFromFirst 41 = .ok (.iload_n 2, 1) := by decide +kernel
theorem dX0_advanceFromFirst_42 : decode cX0_advanceFromFirst 42 = .ok (.iconst 1, 1) := by decide +kernel
theorem dX0_advanceFromFirst_43 : decode cX0_advanceFromFirst 43 = .ok (.iadd, 1) := by decide +kernel
theorem dX0_advanceFromFirst_44 : decode cX0_advanceFromFirst 44 = .ok (.putfield 38, 3) := by decide +kernel
theorem dX0_advanceFromFirst_47 : decode cX0_advanceFromFirst 47 = .ok (.iconst 1, 1) := by decide +kernel
theorem dX0_advanceFromFirst_48 : decode cX0_advanceFromFirst 48 = .ok (.ireturn, 1) := by decide +kernel
theorem dX0_give_0 : decode cX0_give 0 = .ok (.aload_n 0, 1) := by decide +kernel
theorem dX0_give_1 : decode cX0_give 1 = .ok (.getfield 35, 3) := by decide +kernel
theorem dX0_give_4 : decode cX0_give 4 = .ok (.aload_n 0, 1) := by decide +kernel
theorem dX0_give_5 : decode cX0_give 5 = .ok (.getfield 28, 3) := by decide +kernel
theorem dX0_give_8 : decode cX0_give 8 = .ok (.arraylength, 1) := by decide +kernel
theorem dX0_give_9 : decode cX0_give 9 = .ok (.if_icmp .ge 23, 3) := by decide +kernel
theorem dX0_give_12 : decode cX0_give 12 = .ok (.aload_n 0, 1) := by decide +kernel
theorem dX0_give_13 : decode cX0_give 13 = .ok (.getfield 28, 3) := by decide +kernel
theorem dX0_give_16 : decode cX0_give 16 = .ok (.aload_n 0, 1) := by decide +kernel
theorem dX0_give_17 : decode cX0_give 17 = .ok (.getfield 35, 3) := by decide +kernel
theorem dX0_give_20 : decode cX0_give 20 = .ok (.iload_n 1, 1) := by decide +kernel
theorem dX0_give_21 : decode cX0_give 21 = .ok (.iastore, 1) := by decide +kernel
theorem dX0_give_22 : decode cX0_give 22 = .ok (.aload_n 0, 1) := by decide +kernel
theorem dX0_give_23 : decode cX0_give 23 = .ok (.dup, 1) := by decide +kernel
theorem dX0_give_24 : decode cX0_give 24 = .ok (.getfield 35, 3) := by decide +kernel
theorem dX0_give_27 : decode cX0_give 27 = .ok (.iconst 1, 1) := by decide +kernel
theorem dX0_give_28 : decode cX0_give 28 = .ok (.iadd, 1) := by decide +kernel
theorem dX0_give_29 : decode cX0_give 29 = .ok (.putfield 35, 3) := by decide +kernel
theorem dX0_give_32 : decode cX0_give 32 = .ok (.return_, 1) := by decide +kernel
theorem dX0_firstNotCome_0 : decode cX0_firstNotCome 0 = .ok (.aload_n 0, 1) := by decide +kernel
theorem dX0_firstNotCome_1 : decode cX0_firstNotCome 1 = .ok (.getfield 9, 3) := by decide +kernel
theorem dX0_firstNotCome_4 : decode cX0_firstNotCome 4 = .ok (.iload_n 1, 1) := by decide +kernel
theorem dX0_firstNotCome_5 : decode cX0_firstNotCome 5 = .ok (.iconst 1, 1) := by decide +kernel
theorem dX0_firstNotCome_6 : decode cX0_firstNotCome 6 = .ok (.iadd, 1) := by decide +kernel
theorem dX0_firstNotCome_7 : decode cX0_firstNotCome 7 = .ok (.iaload, 1) := by decide +kernel
theorem dX0_firstNotCome_8 : decode cX0_firstNotCome 8 = .ok (.istore_n 2, 1) := by decide +kernel
theorem dX0_firstNotCome_9 : decode cX0_firstNotCome 9 = .ok (.aload_n 0, 1) := by decide +kernel
theorem dX0_firstNotCome_10 : decode cX0_firstNotCome 10 = .ok (.getfield 9, 3) := by decide +kernel
theorem dX0_firstNotCome_13 : decode cX0_firstNotCome 13 = .ok (.iload_n 1, 1) := by decide +kernel
theorem dX0_firstNotCome_14 : decode cX0_firstNotCome 14 = .ok (.iaload, 1) := by decide +kernel
theorem dX0_firstNotCome_15 : decode cX0_firstNotCome 15 = .ok (.istore_n 3, 1) := by decide +kernel
theorem dX0_firstNotCome_16 : decode cX0_firstNotCome 16 = .ok (.iload_n 3, 1) := by decide +kernel
theorem dX0_firstNotCome_17 : decode cX0_firstNotCome 17 = .ok (.iload_n 2, 1) := by decide +kernel
theorem dX0_firstNotCome_18 : decode cX0_firstNotCome 18 = .ok (.if_icmp .ge 20, 3) := by decide +kernel
theorem dX0_firstNotCome_21 : decode cX0_firstNotCome 21 = .ok (.aload_n 0, 1) := by decide +kernel
theorem dX0_firstNotCome_22 : decode cX0_firstNotCome 22 = .ok (.getfield 18, 3) := by decide +kernel
theorem dX0_firstNotCome_25 : decode cX0_firstNotCome 25 = .ok (.iload_n 3, 1) := by decide +kernel
theorem dX0_firstNotCome_26 : decode cX0_firstNotCome 26 = .ok (.baload, 1) := by decide +kernel
theorem dX0_firstNotCome_27 : decode cX0_firstNotCome 27 = .ok (.ifCond .ne 5, 3) := by decide +kernel
theorem dX0_firstNotCome_30 : decode cX0_firstNotCome 30 = .ok (.iload_n 3, 1) := by decide +kernel
theorem dX0_firstNotCome_31 : decode cX0_firstNotCome 31 = .ok (.ireturn, 1) := by decide +kernel
theorem dX0_firstNotCome_32 : decode cX0_firstNotCome 32 = .ok (.iinc 3 1, 3) := by decide +kernel
theorem dX0_firstNotCome_35 : decode cX0_firstNotCome 35 = .ok (.goto (-19), 3) := by decide +kernel
theorem dX0_firstNotCome_38 : decode cX0_firstNotCome 38 = .ok (.iload_n 2, 1) := by decide +kernel
theorem dX0_firstNotCome_39 : decode cX0_firstNotCome 39 = .ok (.ireturn, 1) := by decide +kernel
theorem dX0_bound_0 : decode cX0_bound 0 = .ok (.aload_n 0, 1) := by decide +kernel
theorem dX0_bound_1 : decode cX0_bound 1 = .ok (.getfield 25, 3) := by decide +kernel
theorem dX0_bound_4 : decode cX0_bound 4 = .ok (.iconst 0, 1) := by decide +kernel
theorem dX0_bound_5 : decode cX0_bound 5 = .ok (.iaload, 1) := by decide +kernel
theorem dX0_bound_6 : decode cX0_bound 6 = .ok (.istore_n 1, 1) := by decide +kernel
theorem dX0_bound_7 : decode cX0_bound 7 = .ok (.iconst 1, 1) := by decide +kernel
theorem dX0_bound_8 : decode cX0_bound 8 = .ok (.istore_n 2, 1) := by decide +kernel
theorem dX0_bound_9 : decode cX0_bound 9 = .ok (.iload_n 2, 1) := by decide +kernel
theorem dX0_bound_10 : decode cX0_bound 10 = .ok (.iconst 3, 1) := by decide +kernel
theorem dX0_bound_11 : decode cX0_bound 11 = .ok (.if_icmp .ge 20, 3) := by decide +kernel
theorem dX0_bound_14 : decode cX0_bound 14 = .ok (.iload_n 1, 1) := by decide +kernel
theorem dX0_bound_15 : decode cX0_bound 15 = .ok (.aload_n 0, 1) := by decide +kernel
theorem dX0_bound_16 : decode cX0_bound 16 = .ok (.getfield 25, 3) := by decide +kernel
theorem dX0_bound_19 : decode cX0_bound 19 = .ok (.iload_n 2, 1) := by decide +kernel
theorem dX0_bound_20 : decode cX0_bound 20 = .ok (.iaload, 1) := by decide +kernel
theorem dX0_bound_21 : decode cX0_bound 21 = .ok (.invokestatic 70, 3) := by decide +kernel
theorem dX0_bound_24 : decode cX0_bound 24 = .ok (.istore_n 1, 1) := by decide +kernel
theorem dX0_bound_25 : decode cX0_bound 25 = .ok (.iinc 2 1, 3) := by decide +kernel
theorem dX0_bound_28 : decode cX0_bound 28 = .ok (.goto (-19), 3) := by decide +kernel
theorem dX0_bound_31 : decode cX0_bound 31 = .ok (.iload_n 1, 1) := by decide +kernel
theorem dX0_bound_32 : decode cX0_bound 32 = .ok (.ireturn, 1) := by decide +kernel
theorem dX1_init_0 : decode cX1_init 0 = .ok (.aload_n 0, 1) := by decide +kernel
theorem dX1_init_1 : decode cX1_init 1 = .ok (.invokespecial 3, 3) := by decide +kernel
theorem dX1_init_4 : decode cX1_init 4 = .ok (.aload_n 0, 1) := by decide +kernel
theorem dX1_init_5 : decode cX1_init 5 = .ok (.bipush 6, 2) := by decide +kernel
theorem dX1_init_7 : decode cX1_init 7 = .ok (.newarray .int, 2) := by decide +kernel
theorem dX1_init_9 : decode cX1_init 9 = .ok (.putfield 9, 3) := by decide +kernel
theorem dX1_init_12 : decode cX1_init 12 = .ok (.aload_n 0, 1) := by decide +kernel
theorem dX1_init_13 : decode cX1_init 13 = .ok (.bipush 6, 2) := by decide +kernel
theorem dX1_init_15 : decode cX1_init 15 = .ok (.newarray .int, 2) := by decide +kernel
theorem dX1_init_17 : decode cX1_init 17 = .ok (.putfield 15, 3) := by decide +kernel
theorem dX1_init_20 : decode cX1_init 20 = .ok (.aload_n 0, 1) := by decide +kernel
theorem dX1_init_21 : decode cX1_init 21 = .ok (.bipush 6, 2) := by decide +kernel
theorem dX1_init_23 : decode cX1_init 23 = .ok (.newarray .int, 2) := by decide +kernel
theorem dX1_init_25 : decode cX1_init 25 = .ok (.putfield 18, 3) := by decide +kernel
theorem dX1_init_28 : decode cX1_init 28 = .ok (.aload_n 0, 1) := by decide +kernel
theorem dX1_init_29 : decode cX1_init 29 = .ok (.new 21, 3) := by decide +kernel
theorem dX1_init_32 : decode cX1_init 32 = .ok (.dup, 1) := by decide +kernel
theorem dX1_init_33 : decode cX1_init 33 = .ok (.invokespecial 23, 3) := by decide +kernel
theorem dX1_init_36 : decode cX1_init 36 = .ok (.putfield 24, 3) := by decide +kernel
theorem dX1_init_39 : decode cX1_init 39 = .ok (.aload_n 0, 1) := by decide +kernel
theorem dX1_init_40 : decode cX1_init 40 = .ok (.iconst 0, 1) := by decide +kernel
theorem dX1_init_41 : decode cX1_init 41 = .ok (.putfield 28, 3) := by decide +kernel
theorem dX1_init_44 : decode cX1_init 44 = .ok (.aload_n 0, 1) := by decide +kernel
theorem dX1_init_45 : decode cX1_init 45 = .ok (.iconst 0, 1) := by decide +kernel
theorem dX1_init_46 : decode cX1_init 46 = .ok (.putfield 32, 3) := by decide +kernel
theorem dX1_init_49 : decode cX1_init 49 = .ok (.aload_n 0, 1) := by decide +kernel
theorem dX1_init_50 : decode cX1_init 50 = .ok (.iconst 0, 1) := by decide +kernel
theorem dX1_init_51 : decode cX1_init 51 = .ok (.putfield 35, 3) := by decide +kernel
theorem dX1_init_54 : decode cX1_init 54 = .ok (.aload_n 0, 1) := by decide +kernel
theorem dX1_init_55 : decode cX1_init 55 = .ok (.iconst (-1), 1) := by decide +kernel
theorem dX1_init_56 : decode cX1_init 56 = .ok (.putfield 38, 3) := by decide +kernel
theorem dX1_init_59 : decode cX1_init 59 = .ok (.aload_n 0, 1) := by decide +kernel
theorem dX1_init_60 : decode cX1_init 60 = .ok (.iconst 0, 1) := by decide +kernel
theorem dX1_init_61 : decode cX1_init 61 = .ok (.putfield 41, 3) := by decide +kernel
theorem dX1_init_64 : decode cX1_init 64 = .ok (.aload_n 0, 1) := by decide +kernel
theorem dX1_init_65 : decode cX1_init 65 = .ok (.iconst 0, 1) := by decide +kernel
theorem dX1_init_66 : decode cX1_init 66 = .ok (.putfield 45, 3) := by decide +kernel
theorem dX1_init_69 : decode cX1_init 69 = .ok (.aload_n 0, 1) := by decide +kernel
theorem dX1_init_70 : decode cX1_init 70 = .ok (.iload_n 1, 1) := by decide +kernel
theorem dX1_init_71 : decode cX1_init 71 = .ok (.putfield 48, 3) := by decide +kernel
theorem dX1_init_74 : decode cX1_init 74 = .ok (.aload_n 0, 1) := by decide +kernel
theorem dX1_init_75 : decode cX1_init 75 = .ok (.getfield 9, 3) := by decide +kernel
theorem dX1_init_78 : decode cX1_init 78 = .ok (.iconst (-1), 1) := by decide +kernel
theorem dX1_init_79 : decode cX1_init 79 = .ok (.invokestatic 51, 3) := by decide +kernel
theorem dX1_init_82 : decode cX1_init 82 = .ok (.aload_n 0, 1) := by decide +kernel
theorem dX1_init_83 : decode cX1_init 83 = .ok (.getfield 18, 3) := by decide +kernel
theorem dX1_init_86 : decode cX1_init 86 = .ok (.iconst (-1), 1) := by decide +kernel
theorem dX1_init_87 : decode cX1_init 87 = .ok (.invokestatic 51, 3) := by decide +kernel
theorem dX1_init_90 : decode cX1_init 90 = .ok (.return_, 1) := by decide +kernel
theorem dX1_changeWish_0 : decode cX1_changeWish 0 = .ok (.aload_n 0, 1) := by decide +kernel
theorem dX1_changeWish_1 : decode cX1_changeWish 1 = .ok (.getfield 9, 3) := by decide +kernel
theorem dX1_changeWish_4 : decode cX1_changeWish 4 = .ok (.iload_n 1, 1) := by decide +kernel
theorem dX1_changeWish_5 : decode cX1_changeWish 5 = .ok (.iaload, 1) := by decide +kernel
theorem dX1_changeWish_6 : decode cX1_changeWish 6 = .ok (.istore_n 3, 1) := by decide +kernel
theorem dX1_changeWish_7 : decode cX1_changeWish 7 = .ok (.aload_n 0, 1) := by decide +kernel
theorem dX1_changeWish_8 : decode cX1_changeWish 8 = .ok (.getfield 9, 3) := by decide +kernel
theorem dX1_changeWish_11 : decode cX1_changeWish 11 = .ok (.iload_n 1, 1) := by decide +kernel
theorem dX1_changeWish_12 : decode cX1_changeWish 12 = .ok (.iload_n 2, 1) := by decide +kernel
theorem dX1_changeWish_13 : decode cX1_changeWish 13 = .ok (.iastore, 1) := by decide +kernel
theorem dX1_changeWish_14 : decode cX1_changeWish 14 = .ok (.iload_n 3, 1) := by decide +kernel
theorem dX1_changeWish_15 : decode cX1_changeWish 15 = .ok (.ireturn, 1) := by decide +kernel
theorem dX1_changeAllowed_0 : decode cX1_changeAllowed 0 = .ok (.aload_n 0, 1) := by decide +kernel
theorem dX1_changeAllowed_1 : decode cX1_changeAllowed 1 = .ok (.getfield 15, 3) := by decide +kernel
theorem dX1_changeAllowed_4 : decode cX1_changeAllowed 4 = .ok (.iload_n 1, 1) := by decide +kernel
theorem dX1_changeAllowed_5 : decode cX1_changeAllowed 5 = .ok (.iaload, 1) := by decide +kernel
theorem dX1_changeAllowed_6 : decode cX1_changeAllowed 6 = .ok (.istore_n 3, 1) := by decide +kernel
theorem dX1_changeAllowed_7 : decode cX1_changeAllowed 7 = .ok (.aload_n 0, 1) := by decide +kernel
theorem dX1_changeAllowed_8 : decode cX1_changeAllowed 8 = .ok (.getfield 15, 3) := by decide +kernel
theorem dX1_changeAllowed_11 : decode cX1_changeAllowed 11 = .ok (.iload_n 1, 1) := by decide +kernel
theorem dX1_changeAllowed_12 : decode cX1_changeAllowed 12 = .ok (.iload_n 2, 1) := by decide +kernel
theorem dX1_changeAllowed_13 : decode cX1_changeAllowed 13 = .ok (.iastore, 1) := by decide +kernel
theorem dX1_changeAllowed_14 : decode cX1_changeAllowed 14 = .ok (.iload_n 3, 1) := by decide +kernel
theorem dX1_changeAllowed_15 : decode cX1_changeAllowed 15 = .ok (.ireturn, 1) := by decide +kernel
theorem dX1_changeMagic_0 : decode cX1_changeMagic 0 = .ok (.aload_n 0, 1) := by decide +kernel
theorem dX1_changeMagic_1 : decode cX1_changeMagic 1 = .ok (.getfield 48, 3) := by decide +kernel
theorem dX1_changeMagic_4 : decode cX1_changeMagic 4 = .ok (.istore_n 2, 1) := by decide +kernel
theorem dX1_changeMagic_5 : decode cX1_changeMagic 5 = .ok (.aload_n 0, 1) := by decide +kernel
theorem dX1_changeMagic_6 : decode cX1_changeMagic 6 = .ok (.iload_n 1, 1) := by decide +kernel
theorem dX1_changeMagic_7 : decode cX1_changeMagic 7 = .ok (.putfield 48, 3) := by decide +kernel
theorem dX1_changeMagic_10 : decode cX1_changeMagic 10 = .ok (.iload_n 2, 1) := by decide +kernel
theorem dX1_changeMagic_11 : decode cX1_changeMagic 11 = .ok (.ireturn, 1) := by decide +kernel
theorem dX1_begin_0 : decode cX1_begin 0 = .ok (.aload_n 0, 1) := by decide +kernel
theorem dX1_begin_1 : decode cX1_begin 1 = .ok (.getfield 9, 3) := by decide +kernel
theorem dX1_begin_4 : decode cX1_begin 4 = .ok (.iconst 0, 1) := by decide +kernel
theorem dX1_begin_5 : decode cX1_begin 5 = .ok (.aload_n 0, 1) := by decide +kernel
theorem dX1_begin_6 : decode cX1_begin 6 = .ok (.getfield 18, 3) := by decide +kernel
theorem dX1_begin_9 : decode cX1_begin 9 = .ok (.iconst 0, 1) := by decide +kernel
theorem dX1_begin_10 : decode cX1_begin 10 = .ok (.bipush 6, 2) := by decide +kernel
theorem dX1_begin_12 : decode cX1_begin 12 = .ok (.invokestatic 57, 3) := by decide +kernel
theorem dX1_begin_15 : decode cX1_begin 15 = .ok (.aload_n 0, 1) := by decide +kernel
theorem dX1_begin_16 : decode cX1_begin 16 = .ok (.iconst 0, 1) := by decide +kernel
theorem dX1_begin_17 : decode cX1_begin 17 = .ok (.putfield 35, 3) := by decide +kernel
theorem dX1_begin_20 : decode cX1_begin 20 = .ok (.aload_n 0, 1) := by decide +kernel
theorem dX1_begin_21 : decode cX1_begin 21 = .ok (.iconst 1, 1) := by decide +kernel
theorem dX1_begin_22 : decode cX1_begin 22 = .ok (.putfield 28, 3) := by decide +kernel
theorem dX1_begin_25 : decode cX1_begin 25 = .ok (.aload_n 0, 1) := by decide +kernel
theorem dX1_begin_26 : decode cX1_begin 26 = .ok (.invokevirtual 63, 3) := by decide +kernel
theorem dX1_begin_29 : decode cX1_begin 29 = .ok (.pop, 1) := by decide +kernel
theorem dX1_begin_30 : decode cX1_begin 30 = .ok (.aload_n 0, 1) := by decide +kernel
theorem dX1_begin_31 : decode cX1_begin 31 = .ok (.getfield 38, 3) := by decide +kernel
theorem dX1_begin_34 : decode cX1_begin 34 = .ok (.ireturn, 1) := by decide +kernel
theorem dX1_finish_0 : decode cX1_finish 0 = .ok (.aload_n 0, 1) := by decide +kernel
theorem dX1_finish_1 : decode cX1_finish 1 = .ok (.getfield 28, 3) := by decide +kernel
theorem dX1_finish_4 : decode cX1_finish 4 = .ok (.istore_n 1, 1) := by decide +kernel
theorem dX1_finish_5 : decode cX1_finish 5 = .ok (.aload_n 0, 1) := by decide +kernel
theorem dX1_finish_6 : decode cX1_finish 6 = .ok (.invokevirtual 67, 3) := by decide +kernel
theorem dX1_finish_9 : decode cX1_finish 9 = .ok (.aload_n 0, 1) := by decide +kernel
theorem dX1_finish_10 : decode cX1_finish 10 = .ok (.iconst 0, 1) := by decide +kernel
theorem dX1_finish_11 : decode cX1_finish 11 = .ok (.putfield 28, 3) := by decide +kernel
theorem dX1_finish_14 : decode cX1_finish 14 = .ok (.iload_n 1, 1) := by decide +kernel
theorem dX1_finish_15 : decode cX1_finish 15 = .ok (.ireturn, 1) := by decide +kernel
theorem dX1_tick_0 : decode cX1_tick 0 = .ok (.aload_n 0, 1) := by decide +kernel
theorem dX1_tick_1 : decode cX1_tick 1 = .ok (.getfield 28, 3) := by decide +kernel
theorem dX1_tick_4 : decode cX1_tick 4 = .ok (.ifCond .eq 11, 3) := by decide +kernel
theorem dX1_tick_7 : decode cX1_tick 7 = .ok (.aload_n 0, 1) := by decide +kernel
theorem dX1_tick_8 : decode cX1_tick 8 = .ok (.getfield 28, 3) := by decide +kernel
theorem dX1_tick_11 : decode cX1_tick 11 = .ok (.iconst 4, 1) := by decide +kernel
theorem dX1_tick_12 : decode cX1_tick 12 = .ok (.if_icmp .ne 5, 3) := by decide +kernel
theorem dX1_tick_15 : decode cX1_tick 15 = .ok (.iconst 0, 1) := by decide +kernel
theorem dX1_tick_16 : decode cX1_tick 16 = .ok (.ireturn, 1) := by decide +kernel
theorem dX1_tick_17 : decode cX1_tick 17 = .ok (.aload_n 0, 1) := by decide +kernel
theorem dX1_tick_18 : decode cX1_tick 18 = .ok (.dup, 1) := by decide +kernel
theorem dX1_tick_19 : decode cX1_tick 19 = .ok (.getfield 32, 3) := by decide +kernel
theorem dX1_tick_22 : decode cX1_tick 22 = .ok (.iconst 1, 1) := by decide +kernel
theorem dX1_tick_23 : decode cX1_tick 23 = .ok (.isub, 1) := by decide +kernel
theorem dX1_tick_24 : decode cX1_tick 24 = .ok (.putfield 32, 3) := by decide +kernel
theorem dX1_tick_27 : decode cX1_tick 27 = .ok (.aload_n 0, 1) := by decide +kernel
theorem dX1_tick_28 : decode cX1_tick 28 = .ok (.getfield 32, 3) := by decide +kernel
theorem dX1_tick_31 : decode cX1_tick 31 = .ok (.ifCond .le 5, 3) := by decide +kernel
theorem dX1_tick_34 : decode cX1_tick 34 = .ok (.iconst 0, 1) := by decide +kernel
theorem dX1_tick_35 : decode cX1_tick 35 = .ok (.ireturn, 1) := by decide +kernel
theorem dX1_tick_36 : decode cX1_tick 36 = .ok (.aload_n 0, 1) := by decide +kernel
theorem dX1_tick_37 : decode cX1_tick 37 = .ok (.getfield 28, 3) := by decide +kernel
theorem dX1_tick_40 : decode cX1_tick 40 = .ok (.iconst 2, 1) := by decide +kernel
theorem dX1_tick_41 : decode cX1_tick 41 = .ok (.if_icmp .ne 8, 3) := by decide +kernel
theorem dX1_tick_44 : decode cX1_tick 44 = .ok (.aload_n 0, 1) := by decide +kernel
theorem dX1_tick_45 : decode cX1_tick 45 = .ok (.iconst 1, 1) := by decide +kernel
theorem dX1_tick_46 : decode cX1_tick 46 = .ok (.putfield 28, 3) := by decide +kernel
theorem dX1_tick_49 : decode cX1_tick 49 = .ok (.aload_n 0, 1) := by decide +kernel
theorem dX1_tick_50 : decode cX1_tick 50 = .ok (.invokevirtual 63, 3) := by decide +kernel
theorem dX1_tick_53 : decode cX1_tick 53 = .ok (.ireturn, 1) := by decide +kernel
theorem dX1_hear_0 : decode cX1_hear 0 = .ok (.aload_n 1, 1) := by decide +kernel
theorem dX1_hear_1 : decode cX1_hear 1 = .ok (.getfield 70, 3) := by decide +kernel
theorem dX1_hear_4 : decode cX1_hear 4 = .ok (.lookupswitch 44 #[(0, 28), (4, 36)], 28) := by decide +kernel
theorem dX1_hear_32 : decode cX1_hear 32 = .ok (.aload_n 0, 1) := by decide +kernel
theorem dX1_hear_33 : decode cX1_hear 33 = .ok (.aload_n 1, 1) := by decide +kernel
theorem dX1_hear_34 : decode cX1_hear 34 = .ok (.invokevirtual 75, 3) := by decide +kernel
theorem dX1_hear_37 : decode cX1_hear 37 = .ok (.goto 16, 3) := by decide +kernel
theorem dX1_hear_40 : decode cX1_hear 40 = .ok (.aload_n 0, 1) := by decide +kernel
theorem dX1_hear_41 : decode cX1_hear 41 = .ok (.iconst 0, 1) := by decide +kernel
theorem dX1_hear_42 : decode cX1_hear 42 = .ok (.putfield 28, 3) := by decide +kernel
theorem dX1_hear_45 : decode cX1_hear 45 = .ok (.goto 8, 3) := by decide +kernel
theorem dX1_hear_48 : decode cX1_hear 48 = .ok (.aload_n 0, 1) := by decide +kernel
theorem dX1_hear_49 : decode cX1_hear 49 = .ok (.aload_n 1, 1) := by decide +kernel
theorem dX1_hear_50 : decode cX1_hear 50 = .ok (.invokevirtual 79, 3) := by decide +kernel
theorem dX1_hear_53 : decode cX1_hear 53 = .ok (.return_, 1) := by decide +kernel
theorem dX1_hearRequest_0 : decode cX1_hearRequest 0 = .ok (.aload_n 0, 1) := by decide +kernel
theorem dX1_hearRequest_1 : decode cX1_hearRequest 1 = .ok (.aload_n 1, 1) := by decide +kernel
theorem dX1_hearRequest_2 : decode cX1_hearRequest 2 = .ok (.getfield 82, 3) := by decide +kernel
theorem dX1_hearRequest_5 : decode cX1_hearRequest 5 = .ok (.aload_n 0, 1) := by decide +kernel
theorem dX1_hearRequest_6 : decode cX1_hearRequest 6 = .ok (.getfield 48, 3) := by decide +kernel
theorem dX1_hearRequest_9 : decode cX1_hearRequest 9 = .ok (.if_icmp .ne 7, 3) := by decide +kernel
theorem dX1_hearRequest_12 : decode cX1_hearRequest 12 = .ok (.iconst 1, 1) := by decide +kernel
theorem dX1_hearRequest_13 : decode cX1_hearRequest 13 = .ok (.goto 4, 3) := by decide +kernel
theorem dX1_hearRequest_16 : decode cX1_hearRequest 16 = .ok (.iconst 0, 1) := by decide +kernel
theorem dX1_hearRequest_17 : decode cX1_hearRequest 17 = .ok (.putfield 41, 3) := by decide +kernel
theorem dX1_hearRequest_20 : decode cX1_hearRequest 20 = .ok (.aload_n 0, 1) := by decide +kernel
theorem dX1_hearRequest_21 : decode cX1_hearRequest 21 = .ok (.getfield 41, 3) := by decide +kernel
theorem dX1_hearRequest_24 : decode cX1_hearRequest 24 = .ok (.ifCond .eq 4, 3) := by decide +kernel
theorem dX1_hearRequest_27 : decode cX1_hearRequest 27 = .ok (.return_, 1) := by decide +kernel
theorem dX1_hearRequest_28 : decode cX1_hearRequest 28 = .ok (.aload_n 0, 1) := by decide +kernel
theorem dX1_hearRequest_29 : decode cX1_hearRequest 29 = .ok (.getfield 28, 3) := by decide +kernel
theorem dX1_hearRequest_32 : decode cX1_hearRequest 32 = .ok (.ifCond .ne 8, 3) := by decide +kernel
theorem dX1_hearRequest_35 : decode cX1_hearRequest 35 = .ok (.aload_n 0, 1) := by decide +kernel
theorem dX1_hearRequest_36 : decode cX1_hearRequest 36 = .ok (.invokevirtual 67, 3) := by decide +kernel
theorem dX1_hearRequest_39 : decode cX1_hearRequest 39 = .ok (.return_, 1) := by decide +kernel
theorem dX1_hearRequest_40 : decode cX1_hearRequest 40 = .ok (.aload_n 0, 1) := by decide +kernel
theorem dX1_hearRequest_41 : decode cX1_hearRequest 41 = .ok (.getfield 28, 3) := by decide +kernel
theorem dX1_hearRequest_44 : decode cX1_hearRequest 44 = .ok (.iconst 4, 1) := by decide +kernel
theorem dX1_hearRequest_45 : decode cX1_hearRequest 45 = .ok (.if_icmp .ne 16, 3) := by decide +kernel
theorem dX1_hearRequest_48 : decode cX1_hearRequest 48 = .ok (.aload_n 0, 1) := by decide +kernel
theorem dX1_hearRequest_49 : decode cX1_hearRequest 49 = .ok (.invokevirtual 63, 3) := by decide +kernel
theorem dX1_hearRequest_52 : decode cX1_hearRequest 52 = .ok (.ifCond .ne 4, 3) := by decide +kernel
theorem dX1_hearRequest_55 : decode cX1_hearRequest 55 = .ok (.return_, 1) := by decide +kernel
theorem dX1_hearRequest_56 : decode cX1_hearRequest 56 = .ok (.aload_n 0, 1) := by decide +kernel
theorem dX1_hearRequest_57 : decode cX1_hearRequest 57 = .ok (.iconst 1, 1) := by decide +kernel
theorem dX1_hearRequest_58 : decode cX1_hearRequest 58 = .ok (.putfield 28, 3) := by decide +kernel
theorem dX1_hearRequest_61 : decode cX1_hearRequest 61 = .ok (.aload_n 0, 1) := by decide +kernel
theorem dX1_hearRequest_62 : decode cX1_hearRequest 62 = .ok (.aload_n 1, 1) := by decide +kernel
theorem dX1_hearRequest_63 : decode cX1_hearRequest 63 = .ok (.invokevirtual 83, 3) := by decide +kernel
theorem dX1_hearRequest_66 : decode cX1_hearRequest 66 = .ok (.return_, 1) := by decide +kernel
theorem dX1_hearAnswer_0 : decode cX1_hearAnswer 0 = .ok (.aload_n 0, 1) := by decide +kernel
theorem dX1_hearAnswer_1 : decode cX1_hearAnswer 1 = .ok (.getfield 28, 3) := by decide +kernel
theorem dX1_hearAnswer_4 : decode cX1_hearAnswer 4 = .ok (.iconst 1, 1) := by decide +kernel
theorem dX1_hearAnswer_5 : decode cX1_hearAnswer 5 = .ok (.if_icmp .eq 11, 3) := by decide +kernel
theorem dX1_hearAnswer_8 : decode cX1_hearAnswer 8 = .ok (.aload_n 0, 1) := by decide +kernel
theorem dX1_hearAnswer_9 : decode cX1_hearAnswer 9 = .ok (.getfield 28, 3) := by decide +kernel
theorem dX1_hearAnswer_12 : decode cX1_hearAnswer 12 = .ok (.iconst 3, 1) := by decide +kernel
theorem dX1_hearAnswer_13 : decode cX1_hearAnswer 13 = .ok (.if_icmp .ne 7, 3) := by decide +kernel
theorem dX1_hearAnswer_16 : decode cX1_hearAnswer 16 = .ok (.iconst 1, 1) := by decide +kernel
theorem dX1_hearAnswer_17 : decode cX1_hearAnswer 17 = .ok (.goto 4, 3) := by decide +kernel
theorem dX1_hearAnswer_20 : decode cX1_hearAnswer 20 = .ok (.iconst 0, 1) := by decide +kernel
theorem dX1_hearAnswer_21 : decode cX1_hearAnswer 21 = .ok (.istore_n 2, 1) := by decide +kernel
theorem dX1_hearAnswer_22 : decode cX1_hearAnswer 22 = .ok (.iload_n 2, 1) := by decide +kernel
theorem dX1_hearAnswer_23 : decode cX1_hearAnswer 23 = .ok (.ifCond .eq 14, 3) := by decide +kernel
theorem dX1_hearAnswer_26 : decode cX1_hearAnswer 26 = .ok (.aload_n 1, 1) := by decide +kernel
theorem dX1_hearAnswer_27 : decode cX1_hearAnswer 27 = .ok (.getfield 86, 3) := by decide +kernel
theorem dX1_hearAnswer_30 : decode cX1_hearAnswer 30 = .ok (.aload_n 0, 1) := by decide +kernel
theorem dX1_hearAnswer_31 : decode cX1_hearAnswer 31 = .ok (.getfield 38, 3) := by decide +kernel
theorem dX1_hearAnswer_34 : decode cX1_hearAnswer 34 = .ok (.if_icmp .eq 4, 3) := by decide +kernel
theorem dX1_hearAnswer_37 : decode cX1_hearAnswer 37 = .ok (.return_, 1) := by decide +kernel
theorem dX1_hearAnswer_38 : decode cX1_hearAnswer 38 = .ok (.aload_n 1, 1) := by decide +kernel
theorem dX1_hearAnswer_39 : decode cX1_hearAnswer 39 = .ok (.getfield 70, 3) := by decide +kernel
theorem dX1_hearAnswer_42 : decode cX1_hearAnswer 42 = .ok (.iconst 1, 1) := by decide +kernel
theorem dX1_hearAnswer_43 : decode cX1_hearAnswer 43 = .ok (.if_icmp .ne 21, 3) := by decide +kernel
theorem dX1_hearAnswer_46 : decode cX1_hearAnswer 46 = .ok (.aload_n 0, 1) := by decide +kernel
theorem dX1_hearAnswer_47 : decode cX1_hearAnswer 47 = .ok (.aload_n 0, 1) := by decide +kernel
theorem dX1_hearAnswer_48 : decode cX1_hearAnswer 48 = .ok (.getfield 28, 3) := by decide +kernel
theorem dX1_hearAnswer_51 : decode cX1_hearAnswer 51 = .ok (.iconst 1, 1) := by decide +kernel
theorem dX1_hearAnswer_52 : decode cX1_hearAnswer 52 = .ok (.if_icmp .ne 7, 3) := by decide +kernel
theorem dX1_hearAnswer_55 : decode cX1_hearAnswer 55 = .ok (.iconst 2, 1) := by decide +kernel
theorem dX1_hearAnswer_56 : decode cX1_hearAnswer 56 = .ok (.goto 4, 3) := by decide +kernel
theorem dX1_hearAnswer_59 : decode cX1_hearAnswer 59 = .ok (.iconst 4, 1) := by decide +kernel
theorem dX1_hearAnswer_60 : decode cX1_hearAnswer 60 = .ok (.putfield 28, 3) := by decide +kernel
theorem dX1_hearAnswer_63 : decode cX1_hearAnswer 63 = .ok (.return_, 1) := by decide +kernel
theorem dX1_hearAnswer_64 : decode cX1_hearAnswer 64 = .ok (.aload_n 0, 1) := by decide +kernel
theorem dX1_hearAnswer_65 : decode cX1_hearAnswer 65 = .ok (.aload_n 1, 1) := by decide +kernel
theorem dX1_hearAnswer_66 : decode cX1_hearAnswer 66 = .ok (.invokevirtual 89, 3) := by decide +kernel
theorem dX1_hearAnswer_69 : decode cX1_hearAnswer 69 = .ok (.aload_n 0, 1) := by decide +kernel
theorem dX1_hearAnswer_70 : decode cX1_hearAnswer 70 = .ok (.invokevirtual 63, 3) := by decide +kernel
theorem dX1_hearAnswer_73 : decode cX1_hearAnswer 73 = .ok (.pop, 1) := by decide +kernel
theorem dX1_hearAnswer_74 : decode cX1_hearAnswer 74 = .ok (.return_, 1) := by decide +kernel
theorem dX1_changeAskedFor_0 : decode cX1_changeAskedFor 0 = .ok (.iconst 0, 1) := by decide +kernel
theorem dX1_changeAskedFor_1 : decode cX1_changeAskedFor 1 = .ok (.istore_n 2, 1) := by decide +kernel
theorem dX1_changeAskedFor_2 : decode cX1_changeAskedFor 2 = .ok (.iload_n 2, 1) := by decide +kernel
theorem dX1_changeAskedFor_3 : decode cX1_changeAskedFor 3 = .ok (.bipush 6, 2) := by decide +kernel
theorem dX1_changeAskedFor_5 : decode cX1_changeAskedFor 5 = .ok (.if_icmp .ge 43, 3) := by decide +kernel
theorem dX1_changeAskedFor_8 : decode cX1_changeAskedFor 8 = .ok (.aload_n 1, 1) := by decide +kernel
theorem dX1_changeAskedFor_9 : decode cX1_changeAskedFor 9 = .ok (.getfield 92, 3) := by decide +kernel
theorem dX1_changeAskedFor_12 : decode cX1_changeAskedFor 12 = .ok (.iload_n 2, 1) := by decide +kernel
theorem dX1_changeAskedFor_13 : decode cX1_changeAskedFor 13 = .ok (.iaload, 1) := by decide +kernel
theorem dX1_changeAskedFor_14 : decode cX1_changeAskedFor 14 = .ok (.iconst (-1), 1) := by decide +kernel
theorem dX1_changeAskedFor_15 : decode cX1_changeAskedFor 15 = .ok (.if_icmp .eq 27, 3) := by decide +kernel
theorem dX1_changeAskedFor_18 : decode cX1_changeAskedFor 18 = .ok (.aload_n 0, 1) := by decide +kernel
theorem dX1_changeAskedFor_19 : decode cX1_changeAskedFor 19 = .ok (.getfield 18, 3) := by decide +kernel
theorem dX1_changeAskedFor_22 : decode cX1_changeAskedFor 22 = .ok (.iload_n 2, 1) := by decide +kernel
theorem dX1_changeAskedFor_23 : decode cX1_changeAskedFor 23 = .ok (.aload_n 1, 1) := by decide +kernel
theorem dX1_changeAskedFor_24 : decode cX1_changeAskedFor 24 = .ok (.getfield 70, 3) := by decide +kernel
theorem dX1_changeAskedFor_27 : decode cX1_changeAskedFor 27 = .ok (.iconst 2, 1) := by decide +kernel
theorem dX1_changeAskedFor_28 : decode cX1_changeAskedFor 28 = .ok (.if_icmp .ne 12, 3) := by decide +kernel
theorem dX1_changeAskedFor_31 : decode cX1_changeAskedFor 31 = .ok (.aload_n 1, 1) := by decide +kernel
theorem dX1_changeAskedFor_32 : decode cX1_changeAskedFor 32 = .ok (.getfield 92, 3) := by decide +kernel
theorem dX1_changeAskedFor_35 : decode cX1_changeAskedFor 35 = .ok (.iload_n 2, 1) := by decide +kernel
theorem dX1_changeAskedFor_36 : decode cX1_changeAskedFor 36 = .ok (.iaload, 1) := by decide +kernel
theorem dX1_changeAskedFor_37 : decode cX1_changeAskedFor 37 = .ok (.goto 4, 3) := by decide +kernel
theorem dX1_changeAskedFor_40 : decode cX1_changeAskedFor 40 = .ok (.iconst (-1), 1) := by decide +kernel
theorem dX1_changeAskedFor_41 : decode cX1_changeAskedFor 41 = .ok (.iastore, 1) := by decide +kernel
theorem dX1_changeAskedFor_42 : decode cX1_changeAskedFor 42 = .ok (.iinc 2 1, 3) := by decide +kernel
theorem dX1_changeAskedFor_45 : decode cX1_changeAskedFor 45 = .ok (.goto (-43), 3) := by decide +kernel
theorem dX1_changeAskedFor_48 : decode cX1_changeAskedFor 48 = .ok (.return_, 1) := by decide +kernel
theorem dX1_ask_0 : decode cX1_ask 0 = .ok (.aload_n 0, 1) := by decide +kernel
theorem dX1_ask_1 : decode cX1_ask 1 = .ok (.getfield 35, 3) := by decide +kernel
theorem dX1_ask_4 : decode cX1_ask 4 = .ok (.bipush 10, 2) := by decide +kernel
theorem dX1_ask_6 : decode cX1_ask 6 = .ok (.if_icmp .lt 10, 3) := by decide +kernel
theorem dX1_ask_9 : decode cX1_ask 9 = .ok (.aload_n 0, 1) := by decide +kernel
theorem dX1_ask_10 : decode cX1_ask 10 = .ok (.iconst 0, 1) := by decide +kernel
theorem dX1_ask_11 : decode cX1_ask 11 = .ok (.putfield 28, 3) := by decide +kernel
theorem dX1_ask_14 : decode cX1_ask 14 = .ok (.iconst 0, 1) := by decide +kernel
theorem dX1_ask_15 : decode cX1_ask 15 = .ok (.ireturn, 1) := by decide +kernel
theorem dX1_ask_16 : decode cX1_ask 16 = .ok (.aload_n 0, 1) := by decide +kernel
theorem dX1_ask_17 : decode cX1_ask 17 = .ok (.dup, 1) := by decide +kernel
theorem dX1_ask_18 : decode cX1_ask 18 = .ok (.getfield 35, 3) := by decide +kernel
theorem dX1_ask_21 : decode cX1_ask 21 = .ok (.iconst 1, 1) := by decide +kernel
theorem dX1_ask_22 : decode cX1_ask 22 = .ok (.iadd, 1) := by decide +kernel
theorem dX1_ask_23 : decode cX1_ask 23 = .ok (.putfield 35, 3) := by decide +kernel
theorem dX1_ask_26 : decode cX1_ask 26 = .ok (.aload_n 0, 1) := by decide +kernel
theorem dX1_ask_27 : decode cX1_ask 27 = .ok (.dup, 1) := by decide +kernel
theorem dX1_ask_28 : decode cX1_ask 28 = .ok (.getfield 38, 3) := by decide +kernel
theorem dX1_ask_31 : decode cX1_ask 31 = .ok (.iconst 1, 1) := by decide +kernel
theorem dX1_ask_32 : decode cX1_ask 32 = .ok (.iadd, 1) := by decide +kernel
theorem dX1_ask_33 : decode cX1_ask 33 = .ok (.putfield 38, 3) := by decide +kernel
theorem dX1_ask_36 : decode cX1_ask 36 = .ok (.aload_n 0, 1) := by decide +kernel
theorem dX1_ask_37 : decode cX1_ask 37 = .ok (.iconst 3, 1) := by decide +kernel
theorem dX1_ask_38 : decode cX1_ask 38 = .ok (.putfield 32, 3) := by decide +kernel
theorem dX1_ask_41 : decode cX1_ask 41 = .ok (.aload_n 0, 1) := by decide +kernel
theorem dX1_ask_42 : decode cX1_ask 42 = .ok (.getfield 24, 3) := by decide +kernel
theorem dX1_ask_45 : decode cX1_ask 45 = .ok (.new 71, 3) := by decide +kernel
theorem dX1_ask_48 : decode cX1_ask 48 = .ok (.dup, 1) := by decide +kernel
theorem dX1_ask_49 : decode cX1_ask 49 = .ok (.iconst 0, 1) := by decide +kernel
theorem dX1_ask_50 : decode cX1_ask 50 = .ok (.aload_n 0, 1) := by decide +kernel
theorem dX1_ask_51 : decode cX1_ask 51 = .ok (.getfield 38, 3) := by decide +kernel
theorem dX1_ask_54 : decode cX1_ask 54 = .ok (.aload_n 0, 1) := by decide +kernel
theorem dX1_ask_55 : decode cX1_ask 55 = .ok (.getfield 48, 3) := by decide +kernel
theorem dX1_ask_58 : decode cX1_ask 58 = .ok (.aload_n 0, 1) := by decide +kernel
theorem dX1_ask_59 : decode cX1_ask 59 = .ok (.getfield 18, 3) := by decide +kernel
theorem dX1_ask_62 : decode cX1_ask 62 = .ok (.bipush 6, 2) := by decide +kernel
theorem dX1_ask_64 : decode cX1_ask 64 = .ok (.invokestatic 95, 3) := by decide +kernel
theorem dX1_ask_67 : decode cX1_ask 67 = .ok (.invokespecial 99, 3) := by decide +kernel
theorem dX1_ask_70 : decode cX1_ask 70 = .ok (.invokevirtual 102, 3) := by decide +kernel
theorem dX1_ask_73 : decode cX1_ask 73 = .ok (.iconst 1, 1) := by decide +kernel
theorem dX1_ask_74 : decode cX1_ask 74 = .ok (.ireturn, 1) := by decide +kernel
theorem dX1_sendStop_0 : decode cX1_sendStop 0 = .ok (.aload_n 0, 1) := by decide +kernel
theorem dX1_sendStop_1 : decode cX1_sendStop 1 = .ok (.getfield 24, 3) := by decide +kernel
theorem dX1_sendStop_4 : decode cX1_sendStop 4 = .ok (.new 71, 3) := by decide +kernel
theorem dX1_sendStop_7 : decode cX1_sendStop 7 = .ok (.dup, 1) := by decide +kernel
theorem dX1_sendStop_8 : decode cX1_sendStop 8 = .ok (.iconst 4, 1) := by decide +kernel
theorem dX1_sendStop_9 : decode cX1_sendStop 9 = .ok (.iconst 0, 1) := by decide +kernel
theorem dX1_sendStop_10 : decode cX1_sendStop 10 = .ok (.iconst 0, 1) := by decide +kernel
theorem dX1_sendStop_11 : decode cX1_sendStop 11 = .ok (.invokestatic 105, 3) := by decide +kernel
theorem dX1_sendStop_14 : decode cX1_sendStop 14 = .ok (.invokespecial 99, 3) := by decide +kernel
theorem dX1_sendStop_17 : decode cX1_sendStop 17 = .ok (.invokevirtual 102, 3) := by decide +kernel
theorem dX1_sendStop_20 : decode cX1_sendStop 20 = .ok (.return_, 1) := by decide +kernel
theorem dX1_answer_0 : decode cX1_answer 0 = .ok (.aload_n 0, 1) := by decide +kernel
theorem dX1_answer_1 : decode cX1_answer 1 = .ok (.aload_n 1, 1) := by decide +kernel
theorem dX1_answer_2 : decode cX1_answer 2 = .ok (.getfield 92, 3) := by decide +kernel
theorem dX1_answer_5 : decode cX1_answer 5 = .ok (.invokevirtual 109, 3) := by decide +kernel
theorem dX1_answer_8 : decode cX1_answer 8 = .ok (.istore_n 2, 1) := by decide +kernel
theorem dX1_answer_9 : decode cX1_answer 9 = .ok (.aload_n 0, 1) := by decide +kernel
theorem dX1_answer_10 : decode cX1_answer 10 = .ok (.getfield 24, 3) := by decide +kernel
theorem dX1_answer_13 : decode cX1_answer 13 = .ok (.new 71, 3) := by decide +kernel
theorem dX1_answer_16 : decode cX1_answer 16 = .ok (.dup, 1) := by decide +kernel
theorem dX1_answer_17 : decode cX1_answer 17 = .ok (.iload_n 2, 1) := by decide +kernel
theorem dX1_answer_18 : decode cX1_answer 18 = .ok (.aload_n 1, 1) := by decide +kernel
theorem dX1_answer_19 : decode cX1_answer 19 = .ok (.getfield 86, 3) := by decide +kernel
theorem dX1_answer_22 : decode cX1_answer 22 = .ok (.iconst 0, 1) := by decide +kernel
theorem dX1_answer_23 : decode cX1_answer 23 = .ok (.aload_n 0, 1) := by decide +kernel
theorem dX1_answer_24 : decode cX1_answer 24 = .ok (.iload_n 2, 1) := by decide +kernel
theorem dX1_answer_25 : decode cX1_answer 25 = .ok (.aload_n 1, 1) := by decide +kernel
theorem dX1_answer_26 : decode cX1_answer 26 = .ok (.getfield 92, 3) := by decide +kernel
theorem dX1_answer_29 : decode cX1_answer 29 = .ok (.invokevirtual 113, 3) := by decide +kernel
theorem dX1_answer_32 : decode cX1_answer 32 = .ok (.invokespecial 99, 3) := by decide +kernel
theorem dX1_answer_35 : decode cX1_answer 35 = .ok (.invokevirtual 102, 3) := by decide +kernel
theorem dX1_answer_38 : decode cX1_answer 38 = .ok (.iload_n 2, 1) := by decide +kernel
theorem dX1_answer_39 : decode cX1_answer 39 = .ok (.iconst 1, 1) := by decide +kernel
theorem dX1_answer_40 : decode cX1_answer 40 = .ok (.if_icmp .eq 26, 3) := by decide +kernel
theorem dX1_answer_43 : decode cX1_answer 43 = .ok (.aload_n 0, 1) := by decide +kernel
theorem dX1_answer_44 : decode cX1_answer 44 = .ok (.aload_n 0, 1) := by decide +kernel
theorem dX1_answer_45 : decode cX1_answer 45 = .ok (.getfield 28, 3) := by decide +kernel
theorem dX1_answer_48 : decode cX1_answer 48 = .ok (.iconst 3, 1) := by decide +kernel
theorem dX1_answer_49 : decode cX1_answer 49 = .ok (.if_icmp .ne 7, 3) := by decide +kernel
theorem dX1_answer_52 : decode cX1_answer 52 = .ok (.iconst 1, 1) := by decide +kernel
theorem dX1_answer_53 : decode cX1_answer 53 = .ok (.goto 7, 3) := by decide +kernel
theorem dX1_answer_56 : decode cX1_answer 56 = .ok (.aload_n 0, 1) := by decide +kernel
theorem dX1_answer_57 : decode cX1_answer 57 = .ok (.getfield 28, 3) := by decide +kernel
theorem dX1_answer_60 : decode cX1_answer 60 = .ok (.putfield 28, 3) := by decide +kernel
theorem dX1_answer_63 : decode cX1_answer 63 = .ok (.goto 32, 3) := by decide +kernel
theorem dX1_answer_66 : decode cX1_answer 66 = .ok (.aload_n 0, 1) := by decide +kernel
theorem dX1_answer_67 : decode cX1_answer 67 = .ok (.getfield 28, 3) := by decide +kernel
theorem dX1_answer_70 : decode cX1_answer 70 = .ok (.iconst 1, 1) := by decide +kernel
theorem dX1_answer_71 : decode cX1_answer 71 = .ok (.if_icmp .ne 11, 3) := by decide +kernel
theorem dX1_answer_74 : decode cX1_answer 74 = .ok (.aload_n 0, 1) := by decide +kernel
theorem dX1_answer_75 : decode cX1_answer 75 = .ok (.iconst 3, 1) := by decide +kernel
theorem dX1_answer_76 : decode cX1_answer 76 = .ok (.putfield 28, 3) := by decide +kernel
theorem dX1_answer_79 : decode cX1_answer 79 = .ok (.goto 16, 3) := by decide +kernel
theorem dX1_answer_82 : decode cX1_answer 82 = .ok (.aload_n 0, 1) := by decide +kernel
theorem dX1_answer_83 : decode cX1_answer 83 = .ok (.getfield 28, 3) := by decide +kernel
theorem dX1_answer_86 : decode cX1_answer 86 = .ok (.iconst 2, 1) := by decide +kernel
theorem dX1_answer_87 : decode cX1_answer 87 = .ok (.if_icmp .ne 8, 3) := by decide +kernel
theorem dX1_answer_90 : decode cX1_answer 90 = .ok (.aload_n 0, 1) := by decide +kernel
theorem dX1_answer_91 : decode cX1_answer 91 = .ok (.iconst 4, 1) := by decide +kernel
theorem dX1_answer_92 : decode cX1_answer 92 = .ok (.putfield 28, 3) := by decide +kernel
theorem dX1_answer_95 : decode cX1_answer 95 = .ok (.return_, 1) := by decide +kernel
theorem dX1_kindOfAnswer_0 : decode cX1_kindOfAnswer 0 = .ok (.iconst 1, 1) := by decide +kernel
theorem dX1_kindOfAnswer_1 : decode cX1_kindOfAnswer 1 = .ok (.istore_n 2, 1) := by decide +kernel
theorem dX1_kindOfAnswer_2 : decode cX1_kindOfAnswer 2 = .ok (.iconst 0, 1) := by decide +kernel
theorem dX1_kindOfAnswer_3 : decode cX1_kindOfAnswer 3 = .ok (.istore_n 3, 1) := by decide +kernel
theorem dX1_kindOfAnswer_4 : decode cX1_kindOfAnswer 4 = .ok (.iload_n 3, 1) := by decide +kernel
theorem dX1_kindOfAnswer_5 : decode cX1_kindOfAnswer 5 = .ok (.bipush 6, 2) := by decide +kernel
theorem dX1_kindOfAnswer_7 : decode cX1_kindOfAnswer 7 = .ok (.if_icmp .ge 35, 3) := by decide +kernel
theorem dX1_kindOfAnswer_10 : decode cX1_kindOfAnswer 10 = .ok (.aload_n 0, 1) := by decide +kernel
theorem dX1_kindOfAnswer_11 : decode cX1_kindOfAnswer 11 = .ok (.iload_n 3, 1) := by decide +kernel
theorem dX1_kindOfAnswer_12 : decode cX1_kindOfAnswer 12 = .ok (.aload_n 1, 1) := by decide +kernel
theorem dX1_kindOfAnswer_13 : decode cX1_kindOfAnswer 13 = .ok (.iload_n 3, 1) := by decide +kernel
theorem dX1_kindOfAnswer_14 : decode cX1_kindOfAnswer 14 = .ok (.iaload, 1) := by decide +kernel
theorem dX1_kindOfAnswer_15 : decode cX1_kindOfAnswer 15 = .ok (.invokevirtual 117, 3) := by decide +kernel
theorem dX1_kindOfAnswer_18 : decode cX1_kindOfAnswer 18 = .ok (.ifCond .eq 5, 3) := by decide +kernel
theorem dX1_kindOfAnswer_21 : decode cX1_kindOfAnswer 21 = .ok (.iconst 3, 1) := by decide +kernel
theorem dX1_kindOfAnswer_22 : decode cX1_kindOfAnswer 22 = .ok (.ireturn, 1) := by decide +kernel
theorem dX1_kindOfAnswer_23 : decode cX1_kindOfAnswer 23 = .ok (.aload_n 0, 1) := by decide +kernel
theorem dX1_kindOfAnswer_24 : decode cX1_kindOfAnswer 24 = .ok (.iload_n 3, 1) := by decide +kernel
theorem dX1_kindOfAnswer_25 : decode cX1_kindOfAnswer 25 = .ok (.aload_n 1, 1) := by decide +kernel
theorem dX1_kindOfAnswer_26 : decode cX1_kindOfAnswer 26 = .ok (.iload_n 3, 1) := by decide +kernel
theorem dX1_kindOfAnswer_27 : decode cX1_kindOfAnswer 27 = .ok (.iaload, 1) := by decide +kernel
theorem dX1_kindOfAnswer_28 : decode cX1_kindOfAnswer 28 = .ok (.invokevirtual 121, 3) := by decide +kernel
theorem dX1_kindOfAnswer_31 : decode cX1_kindOfAnswer 31 = .ok (.ifCond .eq 5, 3) := by decide +kernel
theorem dX1_kindOfAnswer_34 : decode cX1_kindOfAnswer 34 = .ok (.iconst 2, 1) := by decide +kernel
theorem dX1_kindOfAnswer_35 : decode cX1_kindOfAnswer 35 = .ok (.istore_n 2, 1) := by decide +kernel
theorem dX1_kindOfAnswer_36 : decode cX1_kindOfAnswer 36 = .ok (.iinc 3 1, 3) := by decide +kernel
theorem dX1_kindOfAnswer_39 : decode cX1_kindOfAnswer 39 = .ok (.goto (-35), 3) := by decide +kernel
theorem dX1_kindOfAnswer_42 : decode cX1_kindOfAnswer 42 = .ok (.iload_n 2, 1) := by decide +kernel
theorem dX1_kindOfAnswer_43 : decode cX1_kindOfAnswer 43 = .ok (.ireturn, 1) := by decide +kernel
theorem dX1_toldOptions_0 : decode cX1_toldOptions 0 = .ok (.invokestatic 105, 3) := by decide +kernel
theorem dX1_toldOptions_3 : decode cX1_toldOptions 3 = .ok (.astore_n 3, 1) := by decide +kernel
theorem dX1_toldOptions_4 : decode cX1_toldOptions 4 = .ok (.iconst 0, 1) := by decide +kernel
theorem dX1_toldOptions_5 : decode cX1_toldOptions 5 = .ok (.istore 4, 2) := by decide +kernel
theorem dX1_toldOptions_7 : decode cX1_toldOptions 7 = .ok (.iload 4, 2) := by decide +kernel
theorem dX1_toldOptions_9 : decode cX1_toldOptions 9 = .ok (.bipush 6, 2) := by decide +kernel
theorem dX1_toldOptions_11 : decode cX1_toldOptions 11 = .ok (.if_icmp .ge 63, 3) := by decide +kernel
theorem dX1_toldOptions_14 : decode cX1_toldOptions 14 = .ok (.iload_n 1, 1) := by decide +kernel
theorem dX1_toldOptions_15 : decode cX1_toldOptions 15 = .ok (.iconst 3, 1) := by decide +kernel
theorem dX1_toldOptions_16 : decode cX1_toldOptions 16 = .ok (.if_icmp .ne 24, 3) := by decide +kernel
theorem dX1_toldOptions_19 : decode cX1_toldOptions 19 = .ok (.aload_n 0, 1) := by decide +kernel
theorem dX1_toldOptions_20 : decode cX1_toldOptions 20 = .ok (.iload 4, 2) := by decide +kernel
theorem dX1_toldOptions_22 : decode cX1_toldOptions 22 = .ok (.aload_n 2, 1) := by decide +kernel
theorem dX1_toldOptions_23 : decode cX1_toldOptions 23 = .ok (.iload 4, 2) := by decide +kernel
theorem dX1_toldOptions_25 : decode cX1_toldOptions 25 = .ok (.iaload, 1) := by decide +kernel
theorem dX1_toldOptions_26 : decode cX1_toldOptions 26 = .ok (.invokevirtual 117, 3) := by decide +kernel
theorem dX1_toldOptions_29 : decode cX1_toldOptions 29 = .ok (.ifCond .eq 11, 3) := by decide +kernel
theorem dX1_toldOptions_32 : decode cX1_toldOptions 32 = .ok (.aload_n 3, 1) := by decide +kernel
theorem dX1_toldOptions_33 : decode cX1_toldOptions 33 = .ok (.iload 4, 2) := by decide +kernel
theorem dX1_toldOptions_35 : decode cX1_toldOptions 35 = .ok (.aload_n 2, 1) := by decide +kernel
theorem dX1_toldOptions_36 : decode cX1_toldOptions 36 = .ok (.iload 4, 2) := by decide +kernel
theorem dX1_toldOptions_38 : decode cX1_toldOptions 38 = .ok (.iaload, 1) := by decide +kernel
theorem dX1_toldOptions_39 : decode cX1_toldOptions 39 = .ok (.iastore, 1) := by decide +kernel
theorem dX1_toldOptions_40 : decode cX1_toldOptions 40 = .ok (.iload_n 1, 1) := by decide +kernel
theorem dX1_toldOptions_41 : decode cX1_toldOptions 41 = .ok (.iconst 2, 1) := by decide +kernel
theorem dX1_toldOptions_42 : decode cX1_toldOptions 42 = .ok (.if_icmp .ne 26, 3) := by decide +kernel
theorem dX1_toldOptions_45 : decode cX1_toldOptions 45 = .ok (.aload_n 0, 1) := by decide +kernel
theorem dX1_toldOptions_46 : decode cX1_toldOptions 46 = .ok (.iload 4, 2) := by decide +kernel
theorem dX1_toldOptions_48 : decode cX1_toldOptions 48 = .ok (.aload_n 2, 1) := by decide +kernel
theorem dX1_toldOptions_49 : decode cX1_toldOptions 49 = .ok (.iload 4, 2) := by decide +kernel
theorem dX1_toldOptions_51 : decode cX1_toldOptions 51 = .ok (.iaload, 1) := by decide +kernel
theorem dX1_toldOptions_52 : decode cX1_toldOptions 52 = .ok (.invokevirtual 121, 3) := by decide +kernel
theorem dX1_toldOptions_55 : decode cX1_toldOptions 55 = .ok (.ifCond .eq 13, 3) := by decide +kernel
theorem dX1_toldOptions_58 : decode cX1_toldOptions 58 = .ok (.aload_n 3, 1) := by decide +kernel
theorem dX1_toldOptions_59 : decode cX1_toldOptions 59 = .ok (.iload 4, 2) := by decide +kernel
theorem dX1_toldOptions_61 : decode cX1_toldOptions 61 = .ok (.aload_n 0, 1) := by decide +kernel
theorem dX1_toldOptions_62 : decode cX1_toldOptions 62 = .ok (.iload 4, 2) := by decide +kernel
theorem dX1_toldOptions_64 : decode cX1_toldOptions 64 = .ok (.invokevirtual 124, 3) := by decide +kernel
theorem dX1_toldOptions_67 : decode cX1_toldOptions 67 = .ok (.iastore, 1) := by decide +kernel
theorem dX1_toldOptions_68 : decode cX1_toldOptions 68 = .ok (.iinc 4 1, 3) := by decide +kernel
theorem dX1_toldOptions_71 : decode cX1_toldOptions 71 = .ok (.goto (-64), 3) := by decide +kernel
theorem dX1_toldOptions_74 : decode cX1_toldOptions 74 = .ok (.aload_n 3, 1) := by decide +kernel
theorem dX1_toldOptions_75 : decode cX1_toldOptions 75 = .ok (.areturn, 1) := by decide +kernel
theorem dX1_isUnknown_0 : decode cX1_isUnknown 0 = .ok (.iload_n 2, 1) := by decide +kernel
theorem dX1_isUnknown_1 : decode cX1_isUnknown 1 = .ok (.iconst (-1), 1) := by decide +kernel
theorem dX1_isUnknown_2 : decode cX1_isUnknown 2 = .ok (.if_icmp .eq 16, 3) := by decide +kernel
theorem dX1_isUnknown_5 : decode cX1_isUnknown 5 = .ok (.aload_n 0, 1) := by decide +kernel
theorem dX1_isUnknown_6 : decode cX1_isUnknown 6 = .ok (.getfield 15, 3) := by decide +kernel
theorem dX1_isUnknown_9 : decode cX1_isUnknown 9 = .ok (.iload_n 1, 1) := by decide +kernel
theorem dX1_isUnknown_10 : decode cX1_isUnknown 10 = .ok (.iaload, 1) := by decide +kernel
theorem dX1_isUnknown_11 : decode cX1_isUnknown 11 = .ok (.ifCond .ne 7, 3) := by decide +kernel
theorem dX1_isUnknown_14 : decode cX1_isUnknown 14 = .ok (.iconst 1, 1) := by decide +kernel
theorem dX1_isUnknown_15 : decode cX1_isUnknown 15 = .ok (.goto 4, 3) := by decide +kernel
theorem dX1_isUnknown_18 : decode cX1_isUnknown 18 = .ok (.iconst 0, 1) := by decide +kernel
theorem dX1_isUnknown_19 : decode cX1_isUnknown 19 = .ok (.ireturn, 1) := by decide +kernel
theorem dX1_isRefused_0 : decode cX1_isRefused 0 = .ok (.iload_n 2, 1) := by decide +kernel
theorem dX1_isRefused_1 : decode cX1_isRefused 1 = .ok (.iconst (-1), 1) := by decide +kernel
theorem dX1_isRefused_2 : decode cX1_isRefused 2 = .ok (.if_icmp .eq 16, 3) := by decide +kernel
theorem dX1_isRefused_5 : decode cX1_isRefused 5 = .ok (.aload_n 0, 1) := by decide +kernel
theorem dX1_isRefused_6 : decode cX1_isRefused 6 = .ok (.iload_n 1, 1) := by decide +kernel
theorem dX1_isRefused_7 : decode cX1_isRefused 7 = .ok (.iload_n 2, 1) := by decide +kernel
theorem dX1_isRefused_8 : decode cX1_isRefused 8 = .ok (.invokevirtual 128, 3) := by decide +kernel
theorem dX1_isRefused_11 : decode cX1_isRefused 11 = .ok (.ifCond .ne 7, 3) := by decide +kernel
theorem dX1_isRefused_14 : decode cX1_isRefused 14 = .ok (.iconst 1, 1) := by decide +kernel
theorem dX1_isRefused_15 : decode cX1_isRefused 15 = .ok (.goto 4, 3) := by decide +kernel
theorem dX1_isRefused_18 : decode cX1_isRefused 18 = .ok (.iconst 0, 1) := by decide +kernel
theorem dX1_isRefused_19 : decode cX1_isRefused 19 = .ok (.ireturn, 1) := by decide +kernel
theorem dX1_allows_0 : decode cX1_allows 0 = .ok (.aload_n 0, 1) := by decide +kernel
theorem dX1_allows_1 : decode cX1_allows 1 = .ok (.getfield 15, 3) := by decide +kernel
theorem dX1_allows_4 : decode cX1_allows 4 = .ok (.iload_n 1, 1) := by decide +kernel
theorem dX1_allows_5 : decode cX1_allows 5 = .ok (.iaload, 1) := by decide +kernel
theorem dX1_allows_6 : decode cX1_allows 6 = .ok (.iload_n 2, 1) := by decide +kernel
theorem dX1_allows_7 : decode cX1_allows 7 = .ok (.ishr, 1) := by decide +kernel
theorem dX1_allows_8 : decode cX1_allows 8 = .ok (.iconst 1, 1) := by decide +kernel
theorem dX1_allows_9 : decode cX1_allows 9 = .ok (.iand, 1) := by decide +kernel
theorem dX1_allows_10 : decode cX1_allows 10 = .ok (.iconst 1, 1) := by decide +kernel
theorem dX1_allows_11 : decode cX1_allows 11 = .ok (.if_icmp .ne 7, 3) := by decide +kernel
theorem dX1_allows_14 : decode cX1_allows 14 = .ok (.iconst 1, 1) := by decide +kernel
theorem dX1_allows_15 : decode cX1_allows 15 = .ok (.goto 4, 3) := by decide +kernel
theorem dX1_allows_18 : decode cX1_allows 18 = .ok (.iconst 0, 1) := by decide +kernel
theorem dX1_allows_19 : decode cX1_allows 19 = .ok (.ireturn, 1) := by decide +kernel
theorem dX1_lowestAllowed_0 : decode cX1_lowestAllowed 0 = .ok (.iconst 0, 1) := by decide +kernel
theorem dX1_lowestAllowed_1 : decode cX1_lowestAllowed 1 = .ok (.istore_n 2, 1) := by decide +kernel
theorem dX1_lowestAllowed_2 : decode cX1_lowestAllowed 2 = .ok (.iload_n 2, 1) := by decide +kernel
theorem dX1_lowestAllowed_3 : decode cX1_lowestAllowed 3 = .ok (.bipush 9, 2) := by decide +kernel
theorem dX1_lowestAllowed_5 : decode cX1_lowestAllowed 5 = .ok (.if_icmp .gt 20, 3) := by decide +kernel
theorem dX1_lowestAllowed_8 : decode cX1_lowestAllowed 8 = .ok (.aload_n 0, 1) := by decide +kernel
theorem dX1_lowestAllowed_9 : decode cX1_lowestAllowed 9 = .ok (.iload_n 1, 1) := by decide +kernel
theorem dX1_lowestAllowed_10 : decode cX1_lowestAllowed 10 = .ok (.iload_n 2, 1) := by decide +kernel
theorem dX1_lowestAllowed_11 : decode cX1_lowestAllowed 11 = .ok (.invokevirtual 128, 3) := by decide +kernel
theorem dX1_lowestAllowed_14 : decode cX1_lowestAllowed 14 = .ok (.ifCond .eq 5, 3) := by decide +kernel
theorem dX1_lowestAllowed_17 : decode cX1_lowestAllowed 17 = .ok (.iload_n 2, 1) := by decide +kernel
theorem dX1_lowestAllowed_18 : decode cX1_lowestAllowed 18 = .ok (.ireturn, 1) := by decide +kernel
theorem dX1_lowestAllowed_19 : decode cX1_lowestAllowed 19 = .ok (.iinc 2 1, 3) := by decide +kernel
theorem dX1_lowestAllowed_22 : decode cX1_lowestAllowed 22 = .ok (.goto (-20), 3) := by decide +kernel
theorem dX1_lowestAllowed_25 : decode cX1_lowestAllowed 25 = .ok (.iconst (-1), 1) := by decide +kernel
theorem dX1_lowestAllowed_26 : decode cX1_lowestAllowed 26 = .ok (.ireturn, 1) := by decide +kernel
theorem dX1_tellNothing_0 : decode cX1_tellNothing 0 = .ok (.bipush 6, 2) := by decide +kernel
theorem dX1_tellNothing_2 : decode cX1_tellNothing 2 = .ok (.newarray .int, 2) := by decide +kernel
theorem dX1_tellNothing_4 : decode cX1_tellNothing 4 = .ok (.astore_n 0, 1) := by decide +kernel
theorem dX1_tellNothing_5 : decode cX1_tellNothing 5 = .ok (.aload_n 0, 1) := by decide +kernel
theorem dX1_tellNothing_6 : decode cX1_tellNothing 6 = .ok (.iconst (-1), 1) := by decide +kernel
theorem dX1_tellNothing_7 : decode cX1_tellNothing 7 = .ok (.invokestatic 51, 3) := by decide +kernel
theorem dX1_tellNothing_10 : decode cX1_tellNothing 10 = .ok (.aload_n 0, 1) := by decide +kernel
theorem dX1_tellNothing_11 : decode cX1_tellNothing 11 = .ok (.areturn, 1) := by decide +kernel
theorem dX2_init_0 : decode cX2_init 0 = .ok (.aload_n 0, 1) := by decide +kernel
theorem dX2_init_1 : decode cX2_init 1 = .ok (.invokespecial 1, 3) := by decide +kernel
theorem dX2_init_4 : decode cX2_init 4 = .ok (.aload_n 0, 1) := by decide +kernel
theorem dX2_init_5 : decode cX2_init 5 = .ok (.iload_n 1, 1) := by decide +kernel
theorem dX2_init_6 : decode cX2_init 6 = .ok (.putfield 7, 3) := by decide +kernel
theorem dX2_init_9 : decode cX2_init 9 = .ok (.aload_n 0, 1) := by decide +kernel
theorem dX2_init_10 : decode cX2_init 10 = .ok (.iload_n 2, 1) := by decide +kernel
theorem dX2_init_11 : decode cX2_init 11 = .ok (.putfield 13, 3) := by decide +kernel
theorem dX2_init_14 : decode cX2_init 14 = .ok (.aload_n 0, 1) := by decide +kernel
theorem dX2_init_15 : decode cX2_init 15 = .ok (.iload_n 3, 1) := by decide +kernel
theorem dX2_init_16 : decode cX2_init 16 = .ok (.putfield 16, 3) := by decide +kernel
theorem dX2_init_19 : decode cX2_init 19 = .ok (.aload_n 0, 1) := by decide +kernel
theorem dX2_init_20 : decode cX2_init 20 = .ok (.aload 4, 2) := by decide +kernel
theorem dX2_init_22 : decode cX2_init 22 = .ok (.putfield 19, 3) := by decide +kernel
theorem dX2_init_25 : decode cX2_init 25 = .ok (.return_, 1) := by decide +kernel
theorem dX3_init_0 : decode cX3_init 0 = .ok (.aload_n 0, 1) := by decide +kernel
theorem dX3_init_1 : decode cX3_init 1 = .ok (.invokespecial 3, 3) := by decide +kernel
theorem dX3_init_4 : decode cX3_init 4 = .ok (.return_, 1) := by decide +kernel
theorem dX3_put_0 : decode cX3_put 0 = .ok (.aload_n 0, 1) := by decide +kernel
theorem dX3_put_1 : decode cX3_put 1 = .ok (.getfield 9, 3) := by decide +kernel
theorem dX3_put_4 : decode cX3_put 4 = .ok (.sipush 4096, 3) := by decide +kernel
theorem dX3_put_7 : decode cX3_put 7 = .ok (.if_icmp .lt 4, 3) := by decide +kernel
theorem dX3_put_10 : decode cX3_put 10 = .ok (.return_, 1) := by decide +kernel
theorem dX3_put_11 : decode cX3_put 11 = .ok (.aload_n 0, 1) := by decide +kernel
theorem dX3_put_12 : decode cX3_put 12 = .ok (.getfield 15, 3) := by decide +kernel
theorem dX3_put_15 : decode cX3_put 15 = .ok (.ifnonnull 11, 3) := by decide +kernel
theorem dX3_put_18 : decode cX3_put 18 = .ok (.aload_n 0, 1) := by decide +kernel
theorem dX3_put_19 : decode cX3_put 19 = .ok (.aload_n 1, 1) := by decide +kernel
theorem dX3_put_20 : decode cX3_put 20 = .ok (.putfield 19, 3) := by decide +kernel
theorem dX3_put_23 : decode cX3_put 23 = .ok (.goto 11, 3) := by decide +kernel
theorem dX3_put_26 : decode cX3_put 26 = .ok (.aload_n 0, 1) := by decide +kernel
theorem dX3_put_27 : decode cX3_put 27 = .ok (.getfield 15, 3) := by decide +kernel
theorem dX3_put_30 : decode cX3_put 30 = .ok (.aload_n 1, 1) := by decide +kernel
theorem dX3_put_31 : decode cX3_put 31 = .ok (.putfield 22, 3) := by decide +kernel
theorem dX3_put_34 : decode cX3_put 34 = .ok (.aload_n 0, 1) := by decide +kernel
theorem dX3_put_35 : decode cX3_put 35 = .ok (.aload_n 1, 1) := by decide +kernel
theorem dX3_put_36 : decode cX3_put 36 = .ok (.putfield 15, 3) := by decide +kernel
theorem dX3_put_39 : decode cX3_put 39 = .ok (.aload_n 0, 1) := by decide +kernel
theorem dX3_put_40 : decode cX3_put 40 = .ok (.dup, 1) := by decide +kernel
theorem dX3_put_41 : decode cX3_put 41 = .ok (.getfield 9, 3) := by decide +kernel
theorem dX3_put_44 : decode cX3_put 44 = .ok (.iconst 1, 1) := by decide +kernel
theorem dX3_put_45 : decode cX3_put 45 = .ok (.iadd, 1) := by decide +kernel
theorem dX3_put_46 : decode cX3_put 46 = .ok (.putfield 9, 3) := by decide +kernel
theorem dX3_put_49 : decode cX3_put 49 = .ok (.return_, 1) := by decide +kernel
theorem dX3_takeFirst_0 : decode cX3_takeFirst 0 = .ok (.aload_n 0, 1) := by decide +kernel
theorem dX3_takeFirst_1 : decode cX3_takeFirst 1 = .ok (.getfield 19, 3) := by decide +kernel
theorem dX3_takeFirst_4 : decode cX3_takeFirst 4 = .ok (.astore_n 1, 1) := by decide +kernel
theorem dX3_takeFirst_5 : decode cX3_takeFirst 5 = .ok (.aload_n 1, 1) := by decide +kernel
theorem dX3_takeFirst_6 : decode cX3_takeFirst 6 = .ok (.ifnonnull 5, 3) := by decide +kernel
theorem dX3_takeFirst_9 : decode cX3_takeFirst 9 = .ok (.aconst_null, 1) := by decide +kernel
theorem dX3_takeFirst_10 : decode cX3_takeFirst 10 = .ok (.areturn, 1) := by decide +kernel
theorem dX3_takeFirst_11 : decode cX3_takeFirst 11 = .ok (.aload_n 0, 1) := by decide +kernel
theorem dX3_takeFirst_12 : decode cX3_takeFirst 12 = .ok (.aload_n 1, 1) := by decide +kernel
theorem dX3_takeFirst_13 : decode cX3_takeFirst 13 = .ok (.getfield 22, 3) := by decide +kernel
theorem dX3_takeFirst_16 : decode cX3_takeFirst 16 = .ok (.putfield 19, 3) := by decide +kernel
theorem dX3_takeFirst_19 : decode cX3_takeFirst 19 = .ok (.aload_n 0, 1) := by decide +kernel
theorem dX3_takeFirst_20 : decode cX3_takeFirst 20 = .ok (.getfield 19, 3) := by decide +kernel
theorem dX3_takeFirst_23 : decode cX3_takeFirst 23 = .ok (.ifnonnull 8, 3) := by decide +kernel
theorem dX3_takeFirst_26 : decode cX3_takeFirst 26 = .ok (.aload_n 0, 1) := by decide +kernel
theorem dX3_takeFirst_27 : decode cX3_takeFirst 27 = .ok (.aconst_null, 1) := by decide +kernel
theorem dX3_takeFirst_28 : decode cX3_takeFirst 28 = .ok (.putfield 15, 3) := by decide +kernel
theorem dX3_takeFirst_31 : decode cX3_takeFirst 31 = .ok (.aload_n 0, 1) := by decide +kernel
theorem dX3_takeFirst_32 : decode cX3_takeFirst 32 = .ok (.dup, 1) := by decide +kernel
theorem dX3_takeFirst_33 : decode cX3_takeFirst 33 = .ok (.getfield 9, 3) := by decide +kernel
theorem dX3_takeFirst_36 : decode cX3_takeFirst 36 = .ok (.iconst 1, 1) := by decide +kernel
theorem dX3_takeFirst_37 : decode cX3_takeFirst 37 = .ok (.isub, 1) := by decide +kernel
theorem dX3_takeFirst_38 : decode cX3_takeFirst 38 = .ok (.putfield 9, 3) := by decide +kernel
theorem dX3_takeFirst_41 : decode cX3_takeFirst 41 = .ok (.aload_n 1, 1) := by decide +kernel
theorem dX3_takeFirst_42 : decode cX3_takeFirst 42 = .ok (.areturn, 1) := by decide +kernel
theorem dX4_init_0 : decode cX4_init 0 = .ok (.aload_n 0, 1) := by decide +kernel
theorem dX4_init_1 : decode cX4_init 1 = .ok (.invokespecial 1, 3) := by decide +kernel
theorem dX4_init_4 : decode cX4_init 4 = .ok (.aload_n 0, 1) := by decide +kernel
theorem dX4_init_5 : decode cX4_init 5 = .ok (.new 7, 3) := by decide +kernel
theorem dX4_init_8 : decode cX4_init 8 = .ok (.dup, 1) := by decide +kernel
theorem dX4_init_9 : decode cX4_init 9 = .ok (.iconst 1, 1) := by decide +kernel
theorem dX4_init_10 : decode cX4_init 10 = .ok (.invokespecial 9, 3) := by decide +kernel
theorem dX4_init_13 : decode cX4_init 13 = .ok (.putfield 12, 3) := by decide +kernel
theorem dX4_init_16 : decode cX4_init 16 = .ok (.aload_n 0, 1) := by decide +kernel
theorem dX4_init_17 : decode cX4_init 17 = .ok (.new 7, 3) := by decide +kernel
theorem dX4_init_20 : decode cX4_init 20 = .ok (.dup, 1) := by decide +kernel
theorem dX4_init_21 : decode cX4_init 21 = .ok (.iconst 2, 1) := by decide +kernel
theorem dX4_init_22 : decode cX4_init 22 = .ok (.invokespecial 9, 3) := by decide +kernel
theorem dX4_init_25 : decode cX4_init 25 = .ok (.putfield 18, 3) := by decide +kernel
theorem dX4_init_28 : decode cX4_init 28 = .ok (.aload_n 0, 1) := by decide +kernel
theorem dX4_init_29 : decode cX4_init 29 = .ok (.new 21, 3) := by decide +kernel
theorem dX4_init_32 : decode cX4_init 32 = .ok (.dup, 1) := by decide +kernel
theorem dX4_init_33 : decode cX4_init 33 = .ok (.invokespecial 23, 3) := by decide +kernel
theorem dX4_init_36 : decode cX4_init 36 = .ok (.putfield 24, 3) := by decide +kernel
theorem dX4_init_39 : decode cX4_init 39 = .ok (.return_, 1) := by decide +kernel
theorem dX4_wish_0 : decode cX4_wish 0 = .ok (.aload_n 0, 1) := by decide +kernel
theorem dX4_wish_1 : decode cX4_wish 1 = .ok (.iload_n 1, 1) := by decide +kernel
theorem dX4_wish_2 : decode cX4_wish 2 = .ok (.invokevirtual 28, 3) := by decide +kernel
theorem dX4_wish_5 : decode cX4_wish 5 = .ok (.astore 4, 2) := by decide +kernel
theorem dX4_wish_7 : decode cX4_wish 7 = .ok (.iload_n 2, 1) := by decide +kernel
theorem dX4_wish_8 : decode cX4_wish 8 = .ok (.invokestatic 32, 3) := by decide +kernel
theorem dX4_wish_11 : decode cX4_wish 11 = .ok (.iload_n 3, 1) := by decide +kernel
theorem dX4_wish_12 : decode cX4_wish 12 = .ok (.iconst (-1), 1) := by decide +kernel
theorem dX4_wish_13 : decode cX4_wish 13 = .ok (.if_icmp .lt 9, 3) := by decide +kernel
theorem dX4_wish_16 : decode cX4_wish 16 = .ok (.iload_n 3, 1) := by decide +kernel
theorem dX4_wish_17 : decode cX4_wish 17 = .ok (.bipush 9, 2) := by decide +kernel
theorem dX4_wish_19 : decode cX4_wish 19 = .ok (.if_icmp .le 13, 3) := by decide +kernel
theorem dX4_wish_22 : decode cX4_wish 22 = .ok (.new 35, 3) := by decide +kernel
theorem dX4_wish_25 : decode cX4_wish 25 = .ok (.dup, 1) := by decide +kernel
theorem dX4_wish_26 : decode cX4_wish 26 = .ok (.ldc 37, 2) := by decide +kernel
theorem dX4_wish_28 : decode cX4_wish 28 = .ok (.invokespecial 39, 3) := by decide +kernel
theorem dX4_wish_31 : decode cX4_wish 31 = .ok (.athrow, 1) := by decide +kernel
theorem dX4_wish_32 : decode cX4_wish 32 = .ok (.aload 4, 2) := by decide +kernel
theorem dX4_wish_34 : decode cX4_wish 34 = .ok (.iload_n 2, 1) := by decide +kernel
theorem dX4_wish_35 : decode cX4_wish 35 = .ok (.iload_n 3, 1) := by decide +kernel
theorem dX4_wish_36 : decode cX4_wish 36 = .ok (.invokevirtual 42, 3) := by decide +kernel
theorem dX4_wish_39 : decode cX4_wish 39 = .ok (.ireturn, 1) := by decide +kernel
theorem dX4_allow_0 : decode cX4_allow 0 = .ok (.aload_n 0, 1) := by decide +kernel
theorem dX4_allow_1 : decode cX4_allow 1 = .ok (.iload_n 1, 1) := by decide +kernel
theorem dX4_allow_2 : decode cX4_allow 2 = .ok (.invokevirtual 28, 3) := by decide +kernel
theorem dX4_allow_5 : decode cX4_allow 5 = .ok (.astore 4, 2) := by decide +kernel
theorem dX4_allow_7 : decode cX4_allow 7 = .ok (.iload_n 2, 1) := by decide +kernel
theorem dX4_allow_8 : decode cX4_allow 8 = .ok (.invokestatic 32, 3) := by decide +kernel
theorem dX4_allow_11 : decode cX4_allow 11 = .ok (.iload_n 3, 1) := by decide +kernel
theorem dX4_allow_12 : decode cX4_allow 12 = .ok (.ifCond .lt 10, 3) := by decide +kernel
theorem dX4_allow_15 : decode cX4_allow 15 = .ok (.iload_n 3, 1) := by decide +kernel
theorem dX4_allow_16 : decode cX4_allow 16 = .ok (.sipush 1023, 3) := by decide +kernel
theorem dX4_allow_19 : decode cX4_allow 19 = .ok (.if_icmp .le 13, 3) := by decide +kernel
theorem dX4_allow_22 : decode cX4_allow 22 = .ok (.new 35, 3) := by decide +kernel
theorem dX4_allow_25 : decode cX4_allow 25 = .ok (.dup, 1) := by decide +kernel
theorem dX4_allow_26 : decode cX4_allow 26 = .ok (.ldc 46, 2) := by decide +kernel
theorem dX4_allow_28 : decode cX4_allow 28 = .ok (.invokespecial 39, 3) := by decide +kernel
theorem dX4_allow_31 : decode cX4_allow 31 = .ok (.athrow, 1) := by decide +kernel
theorem dX4_allow_32 : decode cX4_allow 32 = .ok (.aload 4, 2) := by decide +kernel
theorem dX4_allow_34 : decode cX4_allow 34 = .ok (.iload_n 2, 1) := by decide +kernel
theorem dX4_allow_35 : decode cX4_allow 35 = .ok (.iload_n 3, 1) := by decide +kernel
theorem dX4_allow_36 : decode cX4_allow 36 = .ok (.invokevirtual 48, 3) := by decide +kernel
theorem dX4_allow_39 : decode cX4_allow 39 = .ok (.ireturn, 1) := by decide +kernel
theorem dX4_setMagic_0 : decode cX4_setMagic 0 = .ok (.aload_n 0, 1) := by decide +kernel
theorem dX4_setMagic_1 : decode cX4_setMagic 1 = .ok (.iload_n 1, 1) := by decide +kernel
theorem dX4_setMagic_2 : decode cX4_setMagic 2 = .ok (.invokevirtual 28, 3) := by decide +kernel
theorem dX4_setMagic_5 : decode cX4_setMagic 5 = .ok (.iload_n 2, 1) := by decide +kernel
theorem dX4_setMagic_6 : decode cX4_setMagic 6 = .ok (.invokevirtual 51, 3) := by decide +kernel
theorem dX4_setMagic_9 : decode cX4_setMagic 9 = .ok (.ireturn, 1) := by decide +kernel
theorem dX4_open_0 : decode cX4_open 0 = .ok (.aload_n 0, 1) := by decide +kernel
theorem dX4_open_1 : decode cX4_open 1 = .ok (.iload_n 1, 1) := by decide +kernel
theorem dX4_open_2 : decode cX4_open 2 = .ok (.invokevirtual 28, 3) := by decide +kernel
theorem dX4_open_5 : decode cX4_open 5 = .ok (.astore_n 2, 1) := by decide +kernel
theorem dX4_open_6 : decode cX4_open 6 = .ok (.aload_n 2, 1) := by decide +kernel
theorem dX4_open_7 : decode cX4_open 7 = .ok (.getfield 55, 3) := by decide +kernel
theorem dX4_open_10 : decode cX4_open 10 = .ok (.ifCond .eq 13, 3) := by decide +kernel
theorem dX4_open_13 : decode cX4_open 13 = .ok (.new 59, 3) := by decide +kernel
theorem dX4_open_16 : decode cX4_open 16 = .ok (.dup, 1) := by decide +kernel
theorem dX4_open_17 : decode cX4_open 17 = .ok (.ldc 61, 2) := by decide +kernel
theorem dX4_open_19 : decode cX4_open 19 = .ok (.invokespecial 63, 3) := by decide +kernel
theorem dX4_open_22 : decode cX4_open 22 = .ok (.athrow, 1) := by decide +kernel
theorem dX4_open_23 : decode cX4_open 23 = .ok (.aload_n 2, 1) := by decide +kernel
theorem dX4_open_24 : decode cX4_open 24 = .ok (.invokevirtual 64, 3) := by decide +kernel
theorem dX4_open_27 : decode cX4_open 27 = .ok (.ireturn, 1) := by decide +kernel
theorem dX4_close_0 : decode cX4_close 0 = .ok (.aload_n 0, 1) := by decide +kernel
theorem dX4_close_1 : decode cX4_close 1 = .ok (.iload_n 1, 1) := by decide +kernel
theorem dX4_close_2 : decode cX4_close 2 = .ok (.invokevirtual 28, 3) := by decide +kernel
theorem dX4_close_5 : decode cX4_close 5 = .ok (.astore_n 2, 1) := by decide +kernel
theorem dX4_close_6 : decode cX4_close 6 = .ok (.aload_n 2, 1) := by decide +kernel
theorem dX4_close_7 : decode cX4_close 7 = .ok (.getfield 55, 3) := by decide +kernel
theorem dX4_close_10 : decode cX4_close 10 = .ok (.ifCond .ne 13, 3) := by decide +kernel
theorem dX4_close_13 : decode cX4_close 13 = .ok (.new 59, 3) := by decide +kernel
theorem dX4_close_16 : decode cX4_close 16 = .ok (.dup, 1) := by decide +kernel
theorem dX4_close_17 : decode cX4_close 17 = .ok (.ldc 68, 2) := by decide +kernel
theorem dX4_close_19 : decode cX4_close 19 = .ok (.invokespecial 63, 3) := by decide +kernel
theorem dX4_close_22 : decode cX4_close 22 = .ok (.athrow, 1) := by decide +kernel
theorem dX4_close_23 : decode cX4_close 23 = .ok (.aload_n 2, 1) := by decide +kernel
theorem dX4_close_24 : decode cX4_close 24 = .ok (.invokevirtual 70, 3) := by decide +kernel
theorem dX4_close_27 : decode cX4_close 27 = .ok (.ireturn, 1) := by decide +kernel
theorem dX4_deliver_0 : decode cX4_deliver 0 = .ok (.aload_n 0, 1) := by decide +kernel
theorem dX4_deliver_1 : decode cX4_deliver 1 = .ok (.iload_n 1, 1) := by decide +kernel
theorem dX4_deliver_2 : decode cX4_deliver 2 = .ok (.invokevirtual 28, 3) := by decide +kernel
theorem dX4_deliver_5 : decode cX4_deliver 5 = .ok (.invokestatic 73, 3) := by decide +kernel
theorem dX4_deliver_8 : decode cX4_deliver 8 = .ok (.astore_n 2, 1) := by decide +kernel
theorem dX4_deliver_9 : decode cX4_deliver 9 = .ok (.aload_n 0, 1) := by decide +kernel
theorem dX4_deliver_10 : decode cX4_deliver 10 = .ok (.iconst 1, 1) := by decide +kernel
theorem dX4_deliver_11 : decode cX4_deliver 11 = .ok (.iload_n 1, 1) := by decide +kernel
theorem dX4_deliver_12 : decode cX4_deliver 12 = .ok (.isub, 1) := by decide +kernel
theorem dX4_deliver_13 : decode cX4_deliver 13 = .ok (.invokevirtual 28, 3) := by decide +kernel
theorem dX4_deliver_16 : decode cX4_deliver 16 = .ok (.aload_n 2, 1) := by decide +kernel
theorem dX4_deliver_17 : decode cX4_deliver 17 = .ok (.invokevirtual 77, 3) := by decide +kernel
theorem dX4_deliver_20 : decode cX4_deliver 20 = .ok (.aload_n 2, 1) := by decide +kernel
theorem dX4_deliver_21 : decode cX4_deliver 21 = .ok (.getfield 81, 3) := by decide +kernel
theorem dX4_deliver_24 : decode cX4_deliver 24 = .ok (.ireturn, 1) := by decide +kernel
theorem dX4_lose_0 : decode cX4_lose 0 = .ok (.aload_n 0, 1) := by decide +kernel
theorem dX4_lose_1 : decode cX4_lose 1 = .ok (.iload_n 1, 1) := by decide +kernel
theorem dX4_lose_2 : decode cX4_lose 2 = .ok (.invokevirtual 28, 3) := by decide +kernel
theorem dX4_lose_5 : decode cX4_lose 5 = .ok (.astore_n 2, 1) := by decide +kernel
theorem dX4_lose_6 : decode cX4_lose 6 = .ok (.aload_n 2, 1) := by decide +kernel
theorem dX4_lose_7 : decode cX4_lose 7 = .ok (.invokestatic 73, 3) := by decide +kernel
theorem dX4_lose_10 : decode cX4_lose 10 = .ok (.astore_n 3, 1) := by decide +kernel
theorem dX4_lose_11 : decode cX4_lose 11 = .ok (.aload_n 2, 1) := by decide +kernel
theorem dX4_lose_12 : decode cX4_lose 12 = .ok (.dup, 1) := by decide +kernel
theorem dX4_lose_13 : decode cX4_lose 13 = .ok (.getfield 86, 3) := by decide +kernel
theorem dX4_lose_16 : decode cX4_lose 16 = .ok (.iconst 1, 1) := by decide +kernel
theorem dX4_lose_17 : decode cX4_lose 17 = .ok (.iadd, 1) := by decide +kernel
theorem dX4_lose_18 : decode cX4_lose 18 = .ok (.putfield 86, 3) := by decide +kernel
theorem dX4_lose_21 : decode cX4_lose 21 = .ok (.aload_n 3, 1) := by decide +kernel
theorem dX4_lose_22 : decode cX4_lose 22 = .ok (.getfield 81, 3) := by decide +kernel
theorem dX4_lose_25 : decode cX4_lose 25 = .ok (.ireturn, 1) := by decide +kernel
theorem dX4_loop_0 : decode cX4_loop 0 = .ok (.aload_n 0, 1) := by decide +kernel
theorem dX4_loop_1 : decode cX4_loop 1 = .ok (.iload_n 1, 1) := by decide +kernel
theorem dX4_loop_2 : decode cX4_loop 2 = .ok (.invokevirtual 28, 3) := by decide +kernel
theorem dX4_loop_5 : decode cX4_loop 5 = .ok (.astore_n 2, 1) := by decide +kernel
theorem dX4_loop_6 : decode cX4_loop 6 = .ok (.aload_n 2, 1) := by decide +kernel
theorem dX4_loop_7 : decode cX4_loop 7 = .ok (.invokestatic 73, 3) := by decide +kernel
theorem dX4_loop_10 : decode cX4_loop 10 = .ok (.astore_n 3, 1) := by decide +kernel
theorem dX4_loop_11 : decode cX4_loop 11 = .ok (.aload_n 2, 1) := by decide +kernel
theorem dX4_loop_12 : decode cX4_loop 12 = .ok (.dup, 1) := by decide +kernel
theorem dX4_loop_13 : decode cX4_loop 13 = .ok (.getfield 86, 3) := by decide +kernel
theorem dX4_loop_16 : decode cX4_loop 16 = .ok (.iconst 1, 1) := by decide +kernel
theorem dX4_loop_17 : decode cX4_loop 17 = .ok (.iadd, 1) := by decide +kernel
theorem dX4_loop_18 : decode cX4_loop 18 = .ok (.putfield 86, 3) := by decide +kernel
theorem dX4_loop_21 : decode cX4_loop 21 = .ok (.aload_n 2, 1) := by decide +kernel
theorem dX4_loop_22 : decode cX4_loop 22 = .ok (.aload_n 3, 1) := by decide +kernel
theorem dX4_loop_23 : decode cX4_loop 23 = .ok (.invokevirtual 77, 3) := by decide +kernel
theorem dX4_loop_26 : decode cX4_loop 26 = .ok (.aload_n 3, 1) := by decide +kernel
theorem dX4_loop_27 : decode cX4_loop 27 = .ok (.getfield 81, 3) := by decide +kernel
theorem dX4_loop_30 : decode cX4_loop 30 = .ok (.ireturn, 1) := by decide +kernel
theorem dX4_pass_0 : decode cX4_pass 0 = .ok (.iload_n 1, 1) := by decide +kernel
theorem dX4_pass_1 : decode cX4_pass 1 = .ok (.iconst 1, 1) := by decide +kernel
theorem dX4_pass_2 : decode cX4_pass 2 = .ok (.if_icmp .lt 9, 3) := by decide +kernel
theorem dX4_pass_5 : decode cX4_pass 5 = .ok (.iload_n 1, 1) := by decide +kernel
theorem dX4_pass_6 : decode cX4_pass 6 = .ok (.bipush 50, 2) := by decide +kernel
theorem dX4_pass_8 : decode cX4_pass 8 = .ok (.if_icmp .le 13, 3) := by decide +kernel
theorem dX4_pass_11 : decode cX4_pass 11 = .ok (.new 35, 3) := by decide +kernel
theorem dX4_pass_14 : decode cX4_pass 14 = .ok (.dup, 1) := by decide +kernel
theorem dX4_pass_15 : decode cX4_pass 15 = .ok (.ldc 89, 2) := by decide +kernel
theorem dX4_pass_17 : decode cX4_pass 17 = .ok (.invokespecial 39, 3) := by decide +kernel
theorem dX4_pass_20 : decode cX4_pass 20 = .ok (.athrow, 1) := by decide +kernel
theorem dX4_pass_21 : decode cX4_pass 21 = .ok (.iconst 0, 1) := by decide +kernel
theorem dX4_pass_22 : decode cX4_pass 22 = .ok (.istore_n 2, 1) := by decide +kernel
theorem dX4_pass_23 : decode cX4_pass 23 = .ok (.iconst 0, 1) := by decide +kernel
theorem dX4_pass_24 : decode cX4_pass 24 = .ok (.istore_n 3, 1) := by decide +kernel
theorem dX4_pass_25 : decode cX4_pass 25 = .ok (.iload_n 3, 1) := by decide +kernel
theorem dX4_pass_26 : decode cX4_pass 26 = .ok (.iload_n 1, 1) := by decide +kernel
theorem dX4_pass_27 : decode cX4_pass 27 = .ok (.if_icmp .ge 45, 3) := by decide +kernel
theorem dX4_pass_30 : decode cX4_pass 30 = .ok (.iload_n 2, 1) := by decide +kernel
theorem dX4_pass_31 : decode cX4_pass 31 = .ok (.aload_n 0, 1) := by decide +kernel
theorem dX4_pass_32 : decode cX4_pass 32 = .ok (.getfield 12, 3) := by decide +kernel
theorem dX4_pass_35 : decode cX4_pass 35 = .ok (.invokevirtual 91, 3) := by decide +kernel
theorem dX4_pass_38 : decode cX4_pass 38 = .ok (.ifCond .eq 7, 3) := by decide +kernel
theorem dX4_pass_41 : decode cX4_pass 41 = .ok (.iconst 1, 1) := by decide +kernel
theorem dX4_pass_42 : decode cX4_pass 42 = .ok (.goto 4, 3) := by decide +kernel
theorem dX4_pass_45 : decode cX4_pass 45 = .ok (.iconst 0, 1) := by decide +kernel
theorem dX4_pass_46 : decode cX4_pass 46 = .ok (.iadd, 1) := by decide +kernel
theorem dX4_pass_47 : decode cX4_pass 47 = .ok (.istore_n 2, 1) := by decide +kernel
theorem dX4_pass_48 : decode cX4_pass 48 = .ok (.iload_n 2, 1) := by decide +kernel
theorem dX4_pass_49 : decode cX4_pass 49 = .ok (.aload_n 0, 1) := by decide +kernel
theorem dX4_pass_50 : decode cX4_pass 50 = .ok (.getfield 18, 3) := by decide +kernel
theorem dX4_pass_53 : decode cX4_pass 53 = .ok (.invokevirtual 91, 3) := by decide +kernel
theorem dX4_pass_56 : decode cX4_pass 56 = .ok (.ifCond .eq 7, 3) := by decide +kernel
theorem dX4_pass_59 : decode cX4_pass 59 = .ok (.iconst 1, 1) := by decide +kernel
theorem dX4_pass_60 : decode cX4_pass 60 = .ok (.goto 4, 3) := by decide +kernel
theorem dX4_pass_63 : decode cX4_pass 63 = .ok (.iconst 0, 1) := by decide +kernel
theorem dX4_pass_64 : decode cX4_pass 64 = .ok (.iadd, 1) := by decide +kernel
theorem dX4_pass_65 : decode cX4_pass 65 = .ok (.istore_n 2, 1) := by decide +kernel
theorem dX4_pass_66 : decode cX4_pass 66 = .ok (.iinc 3 1, 3) := by decide +kernel
theorem dX4_pass_69 : decode cX4_pass 69 = .ok (.goto (-44), 3) := by decide +kernel
theorem dX4_pass_72 : decode cX4_pass 72 = .ok (.iload_n 2, 1) := by decide +kernel
theorem dX4_pass_73 : decode cX4_pass 73 = .ok (.ireturn, 1) := by decide +kernel
theorem dX4_stateOf_0 : decode cX4_stateOf 0 = .ok (.aload_n 0, 1) := by decide +kernel
theorem dX4_stateOf_1 : decode cX4_stateOf 1 = .ok (.iload_n 1, 1) := by decide +kernel
theorem dX4_stateOf_2 : decode cX4_stateOf 2 = .ok (.invokevirtual 28, 3) := by decide +kernel
theorem dX4_stateOf_5 : decode cX4_stateOf 5 = .ok (.getfield 55, 3) := by decide +kernel
theorem dX4_stateOf_8 : decode cX4_stateOf 8 = .ok (.ireturn, 1) := by decide +kernel
theorem dX4_asked_0 : decode cX4_asked 0 = .ok (.aload_n 0, 1) := by decide +kernel
theorem dX4_asked_1 : decode cX4_asked 1 = .ok (.iload_n 1, 1) := by decide +kernel
theorem dX4_asked_2 : decode cX4_asked 2 = .ok (.invokevirtual 28, 3) := by decide +kernel
theorem dX4_asked_5 : decode cX4_asked 5 = .ok (.astore_n 3, 1) := by decide +kernel
theorem dX4_asked_6 : decode cX4_asked 6 = .ok (.iload_n 2, 1) := by decide +kernel
theorem dX4_asked_7 : decode cX4_asked 7 = .ok (.invokestatic 32, 3) := by decide +kernel
theorem dX4_asked_10 : decode cX4_asked 10 = .ok (.aload_n 3, 1) := by decide +kernel
theorem dX4_asked_11 : decode cX4_asked 11 = .ok (.getfield 95, 3) := by decide +kernel
theorem dX4_asked_14 : decode cX4_asked 14 = .ok (.iload_n 2, 1) := by decide +kernel
theorem dX4_asked_15 : decode cX4_asked 15 = .ok (.iaload, 1) := by decide +kernel
theorem dX4_asked_16 : decode cX4_asked 16 = .ok (.ireturn, 1) := by decide +kernel
theorem dX4_requests_0 : decode cX4_requests 0 = .ok (.aload_n 0, 1) := by decide +kernel
theorem dX4_requests_1 : decode cX4_requests 1 = .ok (.iload_n 1, 1) := by decide +kernel
theorem dX4_requests_2 : decode cX4_requests 2 = .ok (.invokevirtual 28, 3) := by decide +kernel
theorem dX4_requests_5 : decode cX4_requests 5 = .ok (.getfield 99, 3) := by decide +kernel
theorem dX4_requests_8 : decode cX4_requests 8 = .ok (.ireturn, 1) := by decide +kernel
theorem dX4_isLooped_0 : decode cX4_isLooped 0 = .ok (.aload_n 0, 1) := by decide +kernel
theorem dX4_isLooped_1 : decode cX4_isLooped 1 = .ok (.iload_n 1, 1) := by decide +kernel
theorem dX4_isLooped_2 : decode cX4_isLooped 2 = .ok (.invokevirtual 28, 3) := by decide +kernel
theorem dX4_isLooped_5 : decode cX4_isLooped 5 = .ok (.getfield 102, 3) := by decide +kernel
theorem dX4_isLooped_8 : decode cX4_isLooped 8 = .ok (.ireturn, 1) := by decide +kernel
theorem dX4_underWay_0 : decode cX4_underWay 0 = .ok (.aload_n 0, 1) := by decide +kernel
theorem dX4_underWay_1 : decode cX4_underWay 1 = .ok (.iload_n 1, 1) := by decide +kernel
theorem dX4_underWay_2 : decode cX4_underWay 2 = .ok (.invokevirtual 28, 3) := by decide +kernel
theorem dX4_underWay_5 : decode cX4_underWay 5 = .ok (.getfield 106, 3) := by decide +kernel
theorem dX4_underWay_8 : decode cX4_underWay 8 = .ok (.getfield 110, 3) := by decide +kernel
theorem dX4_underWay_11 : decode cX4_underWay 11 = .ok (.ireturn, 1) := by decide +kernel
theorem dX4_missed_0 : decode cX4_missed 0 = .ok (.aload_n 0, 1) := by decide +kernel
theorem dX4_missed_1 : decode cX4_missed 1 = .ok (.iload_n 1, 1) := by decide +kernel
theorem dX4_missed_2 : decode cX4_missed 2 = .ok (.invokevirtual 28, 3) := by decide +kernel
theorem dX4_missed_5 : decode cX4_missed 5 = .ok (.getfield 86, 3) := by decide +kernel
theorem dX4_missed_8 : decode cX4_missed 8 = .ok (.ireturn, 1) := by decide +kernel
theorem dX4_send_0 : decode cX4_send 0 = .ok (.iload_n 1, 1) := by decide +kernel
theorem dX4_send_1 : decode cX4_send 1 = .ok (.iconst 1, 1) := by decide +kernel
theorem dX4_send_2 : decode cX4_send 2 = .ok (.if_icmp .lt 8, 3) := by decide +kernel
theorem dX4_send_5 : decode cX4_send 5 = .ok (.iload_n 1, 1) := by decide +kernel
theorem dX4_send_6 : decode cX4_send 6 = .ok (.iconst 4, 1) := by decide +kernel
theorem dX4_send_7 : decode cX4_send 7 = .ok (.if_icmp .le 13, 3) := by decide +kernel
theorem dX4_send_10 : decode cX4_send 10 = .ok (.new 35, 3) := by decide +kernel
theorem dX4_send_13 : decode cX4_send 13 = .ok (.dup, 1) := by decide +kernel
theorem dX4_send_14 : decode cX4_send 14 = .ok (.ldc 115, 2) := by decide +kernel
theorem dX4_send_16 : decode cX4_send 16 = .ok (.invokespecial 39, 3) := by decide +kernel
theorem dX4_send_19 : decode cX4_send 19 = .ok (.athrow, 1) := by decide +kernel
theorem dX4_send_20 : decode cX4_send 20 = .ok (.aload_n 0, 1) := by decide +kernel
theorem dX4_send_21 : decode cX4_send 21 = .ok (.getfield 24, 3) := by decide +kernel
theorem dX4_send_24 : decode cX4_send 24 = .ok (.getfield 117, 3) := by decide +kernel
theorem dX4_send_27 : decode cX4_send 27 = .ok (.bipush 60, 2) := by decide +kernel
theorem dX4_send_29 : decode cX4_send 29 = .ok (.if_icmp .lt 13, 3) := by decide +kernel
theorem dX4_send_32 : decode cX4_send 32 = .ok (.new 59, 3) := by decide +kernel
theorem dX4_send_35 : decode cX4_send 35 = .ok (.dup, 1) := by decide +kernel
theorem dX4_send_36 : decode cX4_send 36 = .ok (.ldc 120, 2) := by decide +kernel
theorem dX4_send_38 : decode cX4_send 38 = .ok (.invokespecial 63, 3) := by decide +kernel
theorem dX4_send_41 : decode cX4_send 41 = .ok (.athrow, 1) := by decide +kernel
theorem dX4_send_42 : decode cX4_send 42 = .ok (.aload_n 0, 1) := by decide +kernel
theorem dX4_send_43 : decode cX4_send 43 = .ok (.getfield 24, 3) := by decide +kernel
theorem dX4_send_46 : decode cX4_send 46 = .ok (.iload_n 1, 1) := by decide +kernel
theorem dX4_send_47 : decode cX4_send 47 = .ok (.invokevirtual 122, 3) := by decide +kernel
theorem dX4_send_50 : decode cX4_send 50 = .ok (.ireturn, 1) := by decide +kernel
theorem dX4_come_0 : decode cX4_come 0 = .ok (.aload_n 0, 1) := by decide +kernel
theorem dX4_come_1 : decode cX4_come 1 = .ok (.iload_n 1, 1) := by decide +kernel
theorem dX4_come_2 : decode cX4_come 2 = .ok (.invokevirtual 125, 3) := by decide +kernel
theorem dX4_come_5 : decode cX4_come 5 = .ok (.aload_n 0, 1) := by decide +kernel
theorem dX4_come_6 : decode cX4_come 6 = .ok (.getfield 24, 3) := by decide +kernel
theorem dX4_come_9 : decode cX4_come 9 = .ok (.iload_n 1, 1) := by decide +kernel
theorem dX4_come_10 : decode cX4_come 10 = .ok (.invokevirtual 128, 3) := by decide +kernel
theorem dX4_come_13 : decode cX4_come 13 = .ok (.ireturn, 1) := by decide +kernel
theorem dX4_drop_0 : decode cX4_drop 0 = .ok (.aload_n 0, 1) := by decide +kernel
theorem dX4_drop_1 : decode cX4_drop 1 = .ok (.iload_n 1, 1) := by decide +kernel
theorem dX4_drop_2 : decode cX4_drop 2 = .ok (.invokevirtual 125, 3) := by decide +kernel
theorem dX4_drop_5 : decode cX4_drop 5 = .ok (.aload_n 0, 1) := by decide +kernel
theorem dX4_drop_6 : decode cX4_drop 6 = .ok (.getfield 24, 3) := by decide +kernel
theorem dX4_drop_9 : decode cX4_drop 9 = .ok (.iload_n 1, 1) := by decide +kernel
theorem dX4_drop_10 : decode cX4_drop 10 = .ok (.invokevirtual 131, 3) := by decide +kernel
theorem dX4_drop_13 : decode cX4_drop 13 = .ok (.ireturn, 1) := by decide +kernel
theorem dX4_given_0 : decode cX4_given 0 = .ok (.aload_n 0, 1) := by decide +kernel
theorem dX4_given_1 : decode cX4_given 1 = .ok (.getfield 24, 3) := by decide +kernel
theorem dX4_given_4 : decode cX4_given 4 = .ok (.getfield 134, 3) := by decide +kernel
theorem dX4_given_7 : decode cX4_given 7 = .ok (.ireturn, 1) := by decide +kernel
theorem dX4_givenAt_0 : decode cX4_givenAt 0 = .ok (.iload_n 1, 1) := by decide +kernel
theorem dX4_givenAt_1 : decode cX4_givenAt 1 = .ok (.ifCond .lt 14, 3) := by decide +kernel
theorem dX4_givenAt_4 : decode cX4_givenAt 4 = .ok (.iload_n 1, 1) := by decide +kernel
theorem dX4_givenAt_5 : decode cX4_givenAt 5 = .ok (.aload_n 0, 1) := by decide +kernel
theorem dX4_givenAt_6 : decode cX4_givenAt 6 = .ok (.getfield 24, 3) := by decide +kernel
theorem dX4_givenAt_9 : decode cX4_givenAt 9 = .ok (.getfield 134, 3) := by decide +kernel
theorem dX4_givenAt_12 : decode cX4_givenAt 12 = .ok (.if_icmp .lt 13, 3) := by decide +kernel
theorem dX4_givenAt_15 : decode cX4_givenAt 15 = .ok (.new 137, 3) := by decide +kernel
theorem dX4_givenAt_18 : decode cX4_givenAt 18 = .ok (.dup, 1) := by decide +kernel
theorem dX4_givenAt_19 : decode cX4_givenAt 19 = .ok (.ldc 139, 2) := by decide +kernel
theorem dX4_givenAt_21 : decode cX4_givenAt 21 = .ok (.invokespecial 141, 3) := by decide +kernel
theorem dX4_givenAt_24 : decode cX4_givenAt 24 = .ok (.athrow, 1) := by decide +kernel
theorem dX4_givenAt_25 : decode cX4_givenAt 25 = .ok (.aload_n 0, 1) := by decide +kernel
theorem dX4_givenAt_26 : decode cX4_givenAt 26 = .ok (.getfield 24, 3) := by decide +kernel
theorem dX4_givenAt_29 : decode cX4_givenAt 29 = .ok (.getfield 142, 3) := by decide +kernel
theorem dX4_givenAt_32 : decode cX4_givenAt 32 = .ok (.iload_n 1, 1) := by decide +kernel
theorem dX4_givenAt_33 : decode cX4_givenAt 33 = .ok (.iaload, 1) := by decide +kernel
theorem dX4_givenAt_34 : decode cX4_givenAt 34 = .ok (.ireturn, 1) := by decide +kernel
theorem dX4_next_0 : decode cX4_next 0 = .ok (.aload_n 0, 1) := by decide +kernel
theorem dX4_next_1 : decode cX4_next 1 = .ok (.getfield 24, 3) := by decide +kernel
theorem dX4_next_4 : decode cX4_next 4 = .ok (.getfield 145, 3) := by decide +kernel
theorem dX4_next_7 : decode cX4_next 7 = .ok (.ireturn, 1) := by decide +kernel
theorem dX4_endAt_0 : decode cX4_endAt 0 = .ok (.iload_n 1, 1) := by decide +kernel
theorem dX4_endAt_1 : decode cX4_endAt 1 = .ok (.ifCond .ne 8, 3) := by decide +kernel
theorem dX4_endAt_4 : decode cX4_endAt 4 = .ok (.aload_n 0, 1) := by decide +kernel
theorem dX4_endAt_5 : decode cX4_endAt 5 = .ok (.getfield 12, 3) := by decide +kernel
theorem dX4_endAt_8 : decode cX4_endAt 8 = .ok (.areturn, 1) := by decide +kernel
theorem dX4_endAt_9 : decode cX4_endAt 9 = .ok (.iload_n 1, 1) := by decide +kernel
theorem dX4_endAt_10 : decode cX4_endAt 10 = .ok (.iconst 1, 1) := by decide +kernel
theorem dX4_endAt_11 : decode cX4_endAt 11 = .ok (.if_icmp .ne 8, 3) := by decide +kernel
theorem dX4_endAt_14 : decode cX4_endAt 14 = .ok (.aload_n 0, 1) := by decide +kernel
theorem dX4_endAt_15 : decode cX4_endAt 15 = .ok (.getfield 18, 3) := by decide +kernel
theorem dX4_endAt_18 : decode cX4_endAt 18 = .ok (.areturn, 1) := by decide +kernel
theorem dX4_endAt_19 : decode cX4_endAt 19 = .ok (.new 137, 3) := by decide +kernel
theorem dX4_endAt_22 : decode cX4_endAt 22 = .ok (.dup, 1) := by decide +kernel
theorem dX4_endAt_23 : decode cX4_endAt 23 = .ok (.ldc 148, 2) := by decide +kernel
theorem dX4_endAt_25 : decode cX4_endAt 25 = .ok (.invokespecial 141, 3) := by decide +kernel
theorem dX4_endAt_28 : decode cX4_endAt 28 = .ok (.athrow, 1) := by decide +kernel
theorem dX4_refuseNoOption_0 : decode cX4_refuseNoOption 0 = .ok (.iload_n 0, 1) := by decide +kernel
theorem dX4_refuseNoOption_1 : decode cX4_refuseNoOption 1 = .ok (.ifCond .lt 9, 3) := by decide +kernel
theorem dX4_refuseNoOption_4 : decode cX4_refuseNoOption 4 = .ok (.iload_n 0, 1) := by decide +kernel
theorem dX4_refuseNoOption_5 : decode cX4_refuseNoOption 5 = .ok (.bipush 6, 2) := by decide +kernel
theorem dX4_refuseNoOption_7 : decode cX4_refuseNoOption 7 = .ok (.if_icmp .lt 13, 3) := by decide +kernel
theorem dX4_refuseNoOption_10 : decode cX4_refuseNoOption 10 = .ok (.new 137, 3) := by decide +kernel
theorem dX4_refuseNoOption_13 : decode cX4_refuseNoOption 13 = .ok (.dup, 1) := by decide +kernel
theorem dX4_refuseNoOption_14 : decode cX4_refuseNoOption 14 = .ok (.ldc 150, 2) := by decide +kernel
theorem dX4_refuseNoOption_16 : decode cX4_refuseNoOption 16 = .ok (.invokespecial 141, 3) := by decide +kernel
theorem dX4_refuseNoOption_19 : decode cX4_refuseNoOption 19 = .ok (.athrow, 1) := by decide +kernel
theorem dX4_refuseNoOption_20 : decode cX4_refuseNoOption 20 = .ok (.return_, 1) := by decide +kernel
theorem dX4_takeFrame_0 : decode cX4_takeFrame 0 = .ok (.aload_n 0, 1) := by decide +kernel
theorem dX4_takeFrame_1 : decode cX4_takeFrame 1 = .ok (.getfield 106, 3) := by decide +kernel
theorem dX4_takeFrame_4 : decode cX4_takeFrame 4 = .ok (.invokevirtual 152, 3) := by decide +kernel
theorem dX4_takeFrame_7 : decode cX4_takeFrame 7 = .ok (.astore_n 1, 1) := by decide +kernel
theorem dX4_takeFrame_8 : decode cX4_takeFrame 8 = .ok (.aload_n 1, 1) := by decide +kernel
theorem dX4_takeFrame_9 : decode cX4_takeFrame 9 = .ok (.ifnonnull 13, 3) := by decide +kernel
theorem dX4_takeFrame_12 : decode cX4_takeFrame 12 = .ok (.new 59, 3) := by decide +kernel
theorem dX4_takeFrame_15 : decode cX4_takeFrame 15 = .ok (.dup, 1) := by decide +kernel
theorem dX4_takeFrame_16 : decode cX4_takeFrame 16 = .ok (.ldc 156, 2) := by decide +kernel
theorem dX4_takeFrame_18 : decode cX4_takeFrame 18 = .ok (.invokespecial 63, 3) := by decide +kernel
theorem dX4_takeFrame_21 : decode cX4_takeFrame 21 = .ok (.athrow, 1) := by decide +kernel
theorem dX4_takeFrame_22 : decode cX4_takeFrame 22 = .ok (.aload_n 1, 1) := by decide +kernel
theorem dX4_takeFrame_23 : decode cX4_takeFrame 23 = .ok (.areturn, 1) := by decide +kernel
theorem dX4_refuseEmptyLine_0 : decode cX4_refuseEmptyLine 0 = .ok (.iload_n 1, 1) := by decide +kernel
theorem dX4_refuseEmptyLine_1 : decode cX4_refuseEmptyLine 1 = .ok (.ifCond .lt 8, 3) := by decide +kernel
theorem dX4_refuseEmptyLine_4 : decode cX4_refuseEmptyLine 4 = .ok (.iload_n 1, 1) := by decide +kernel
theorem dX4_refuseEmptyLine_5 : decode cX4_refuseEmptyLine 5 = .ok (.iconst 3, 1) := by decide +kernel
theorem dX4_refuseEmptyLine_6 : decode cX4_refuseEmptyLine 6 = .ok (.if_icmp .lt 13, 3) := by decide +kernel
theorem dX4_refuseEmptyLine_9 : decode cX4_refuseEmptyLine 9 = .ok (.new 137, 3) := by decide +kernel
theorem dX4_refuseEmptyLine_12 : decode cX4_refuseEmptyLine 12 = .ok (.dup, 1) := by decide +kernel
theorem dX4_refuseEmptyLine_13 : decode cX4_refuseEmptyLine 13 = .ok (.ldc 158, 2) := by decide +kernel
theorem dX4_refuseEmptyLine_15 : decode cX4_refuseEmptyLine 15 = .ok (.invokespecial 141, 3) := by decide +kernel
theorem dX4_refuseEmptyLine_18 : decode cX4_refuseEmptyLine 18 = .ok (.athrow, 1) := by decide +kernel
theorem dX4_refuseEmptyLine_19 : decode cX4_refuseEmptyLine 19 = .ok (.aload_n 0, 1) := by decide +kernel
theorem dX4_refuseEmptyLine_20 : decode cX4_refuseEmptyLine 20 = .ok (.getfield 24, 3) := by decide +kernel
theorem dX4_refuseEmptyLine_23 : decode cX4_refuseEmptyLine 23 = .ok (.iload_n 1, 1) := by decide +kernel
theorem dX4_refuseEmptyLine_24 : decode cX4_refuseEmptyLine 24 = .ok (.invokevirtual 160, 3) := by decide +kernel
theorem dX4_refuseEmptyLine_27 : decode cX4_refuseEmptyLine 27 = .ok (.ifCond .ne 13, 3) := by decide +kernel
theorem dX4_refuseEmptyLine_30 : decode cX4_refuseEmptyLine 30 = .ok (.new 59, 3) := by decide +kernel
theorem dX4_refuseEmptyLine_33 : decode cX4_refuseEmptyLine 33 = .ok (.dup, 1) := by decide +kernel
theorem dX4_refuseEmptyLine_34 : decode cX4_refuseEmptyLine 34 = .ok (.ldc 164, 2) := by decide +kernel
theorem dX4_refuseEmptyLine_36 : decode cX4_refuseEmptyLine 36 = .ok (.invokespecial 63, 3) := by decide +kernel
theorem dX4_refuseEmptyLine_39 : decode cX4_refuseEmptyLine 39 = .ok (.athrow, 1) := by decide +kernel
theorem dX4_refuseEmptyLine_40 : decode cX4_refuseEmptyLine 40 = .ok (.return_, 1) := by decide +kernel
theorem dJ9_min_7cf53_0 : decode cJ9_min_7cf53 0 = .ok (.iload_n 0, 1) := by decide +kernel
theorem dJ9_min_7cf53_1 : decode cJ9_min_7cf53 1 = .ok (.iload_n 1, 1) := by decide +kernel
theorem dJ9_min_7cf53_2 : decode cJ9_min_7cf53 2 = .ok (.if_icmp .gt 7, 3) := by decide +kernel
theorem dJ9_min_7cf53_5 : decode cJ9_min_7cf53 5 = .ok (.iload_n 0, 1) := by decide +kernel
theorem dJ9_min_7cf53_6 : decode cJ9_min_7cf53 6 = .ok (.goto 4, 3) := by decide +kernel
theorem dJ9_min_7cf53_9 : decode cJ9_min_7cf53 9 = .ok (.iload_n 1, 1) := by decide +kernel
theorem dJ9_min_7cf53_10 : decode cJ9_min_7cf53 10 = .ok (.ireturn, 1) := by decide +kernel
theorem dJ7_fill_53178_0 : decode cJ7_fill_53178 0 = .ok (.iconst 0, 1) := by decide +kernel
theorem dJ7_fill_53178_1 : decode cJ7_fill_53178 1 = .ok (.istore_n 2, 1) := by decide +kernel
theorem dJ7_fill_53178_2 : decode cJ7_fill_53178 2 = .ok (.aload_n 0, 1) := by decide +kernel
theorem dJ7_fill_53178_3 : decode cJ7_fill_53178 3 = .ok (.arraylength, 1) := by decide +kernel
theorem dJ7_fill_53178_4 : decode cJ7_fill_53178 4 = .ok (.istore_n 3, 1) := by decide +kernel
theorem dJ7_fill_53178_5 : decode cJ7_fill_53178 5 = .ok (.iload_n 2, 1) := by decide +kernel
theorem dJ7_fill_53178_6 : decode cJ7_fill_53178 6 = .ok (.iload_n 3, 1) := by decide +kernel
theorem dJ7_fill_53178_7 : decode cJ7_fill_53178 7 = .ok (.if_icmp .ge 13, 3) := by decide +kernel
theorem dJ7_fill_53178_10 : decode cJ7_fill_53178 10 = .ok (.aload_n 0, 1) := by decide +kernel
theorem dJ7_fill_53178_11 : decode cJ7_fill_53178 11 = .ok (.iload_n 2, 1) := by decide +kernel
theorem dJ7_fill_53178_12 : decode cJ7_fill_53178 12 = .ok (.iload_n 1, 1) := by decide +kernel
theorem dJ7_fill_53178_13 : decode cJ7_fill_53178 13 = .ok (.iastore, 1) := by decide +kernel
theorem dJ7_fill_53178_14 : decode cJ7_fill_53178 14 = .ok (.iinc 2 1, 3) := by decide +kernel
theorem dJ7_fill_53178_17 : decode cJ7_fill_53178 17 = .ok (.goto (-12), 3) := by decide +kernel
theorem dJ7_fill_53178_20 : decode cJ7_fill_53178 20 = .ok (.return_, 1) := by decide +kernel
theorem dJ7_copyOf_59c91_0 : decode cJ7_copyOf_59c91 0 = .ok (.iload_n 1, 1) := by decide +kernel
theorem dJ7_copyOf_59c91_1 : decode cJ7_copyOf_59c91 1 = .ok (.aload_n 0, 1) := by decide +kernel
theorem dJ7_copyOf_59c91_2 : decode cJ7_copyOf_59c91 2 = .ok (.arraylength, 1) := by decide +kernel
theorem dJ7_copyOf_59c91_3 : decode cJ7_copyOf_59c91 3 = .ok (.if_icmp .ne 11, 3) := by decide +kernel
theorem dJ7_copyOf_59c91_6 : decode cJ7_copyOf_59c91 6 = .ok (.aload_n 0, 1) := by decide +kernel
theorem dJ7_copyOf_59c91_7 : decode cJ7_copyOf_59c91 7 = .ok (.invokevirtual 316, 3) := by decide +kernel
theorem dJ7_copyOf_59c91_10 : decode cJ7_copyOf_59c91 10 = .ok (.checkcast 317, 3) := by decide +kernel
theorem dJ7_copyOf_59c91_13 : decode cJ7_copyOf_59c91 13 = .ok (.areturn, 1) := by decide +kernel
theorem dJ7_copyOf_59c91_14 : decode cJ7_copyOf_59c91 14 = .ok (.iload_n 1, 1) := by decide +kernel
theorem dJ7_copyOf_59c91_15 : decode cJ7_copyOf_59c91 15 = .ok (.newarray .int, 2) := by decide +kernel
theorem dJ7_copyOf_59c91_17 : decode cJ7_copyOf_59c91 17 = .ok (.astore_n 2, 1) := by decide +kernel
theorem dJ7_copyOf_59c91_18 : decode cJ7_copyOf_59c91 18 = .ok (.aload_n 0, 1) := by decide +kernel
theorem dJ7_copyOf_59c91_19 : decode cJ7_copyOf_59c91 19 = .ok (.iconst 0, 1) := by decide +kernel
theorem dJ7_copyOf_59c91_20 : decode cJ7_copyOf_59c91 20 = .ok (.aload_n 2, 1) := by decide +kernel
theorem dJ7_copyOf_59c91_21 : decode cJ7_copyOf_59c91 21 = .ok (.iconst 0, 1) := by decide +kernel
theorem dJ7_copyOf_59c91_22 : decode cJ7_copyOf_59c91 22 = .ok (.aload_n 0, 1) := by decide +kernel
theorem dJ7_copyOf_59c91_23 : decode cJ7_copyOf_59c91 23 = .ok (.arraylength, 1) := by decide +kernel
theorem dJ7_copyOf_59c91_24 : decode cJ7_copyOf_59c91 24 = .ok (.iload_n 1, 1) := by decide +kernel
theorem dJ7_copyOf_59c91_25 : decode cJ7_copyOf_59c91 25 = .ok (.invokestatic 304, 3) := by decide +kernel
theorem dJ7_copyOf_59c91_28 : decode cJ7_copyOf_59c91 28 = .ok (.invokestatic 150, 3) := by decide +kernel
theorem dJ7_copyOf_59c91_31 : decode cJ7_copyOf_59c91 31 = .ok (.aload_n 2, 1) := by decide +kernel
theorem dJ7_copyOf_59c91_32 : decode cJ7_copyOf_59c91 32 = .ok (.areturn, 1) := by decide +kernel
