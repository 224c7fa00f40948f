theorem dX4_readBearing_73 : decode cX4_readBearing 73 = .ok (.iload_n 1, 1) := by decide +kernel
theorem dX4_readBearing_74 : decode cX4_readBearing 74 = .ok (.iload 5, 2) := by decide +kernel
theorem dX4_readBearing_76 : decode cX4_readBearing 76 = .ok (.imul, 1) := by decide +kernel
theorem dX4_readBearing_77 : decode cX4_readBearing 77 = .ok (.invokevirtual 101, 3) := by decide +kernel
theorem dX4_readBearing_80 : decode cX4_readBearing 80 = .ok (.return_, 1) := by decide +kernel
theorem dX4_faultAt_0 : decode cX4_faultAt 0 = .ok (.aload_n 0, 1) := by decide +kernel
theorem dX4_faultAt_1 : decode cX4_faultAt 1 = .ok (.getfield 22, 3) := by decide +kernel
theorem dX4_faultAt_4 : decode cX4_faultAt 4 = .ok (.iconst (-1), 1) := by decide +kernel
theorem dX4_faultAt_5 : decode cX4_faultAt 5 = .ok (.if_icmp .ne 8, 3) := by decide +kernel
theorem dX4_faultAt_8 : decode cX4_faultAt 8 = .ok (.aload_n 0, 1) := by decide +kernel
theorem dX4_faultAt_9 : decode cX4_faultAt 9 = .ok (.iload_n 1, 1) := by decide +kernel
theorem dX4_faultAt_10 : decode cX4_faultAt 10 = .ok (.putfield 22, 3) := by decide +kernel
theorem dX4_faultAt_13 : decode cX4_faultAt 13 = .ok (.return_, 1) := by decide +kernel
theorem dX4_letterHere_0 : decode cX4_letterHere 0 = .ok (.aload_n 0, 1) := by decide +kernel
theorem dX4_letterHere_1 : decode cX4_letterHere 1 = .ok (.getfield 33, 3) := by decide +kernel
theorem dX4_letterHere_4 : decode cX4_letterHere 4 = .ok (.ifCond .lt 26, 3) := by decide +kernel
theorem dX4_letterHere_7 : decode cX4_letterHere 7 = .ok (.aload_n 0, 1) := by decide +kernel
theorem dX4_letterHere_8 : decode cX4_letterHere 8 = .ok (.getfield 33, 3) := by decide +kernel
theorem dX4_letterHere_11 : decode cX4_letterHere 11 = .ok (.aload_n 0, 1) := by decide +kernel
theorem dX4_letterHere_12 : decode cX4_letterHere 12 = .ok (.getfield 30, 3) := by decide +kernel
theorem dX4_letterHere_15 : decode cX4_letterHere 15 = .ok (.if_icmp .ge 15, 3) := by decide +kernel
theorem dX4_letterHere_18 : decode cX4_letterHere 18 = .ok (.aload_n 0, 1) := by decide +kernel
theorem dX4_letterHere_19 : decode cX4_letterHere 19 = .ok (.getfield 9, 3) := by decide +kernel
theorem dX4_letterHere_22 : decode cX4_letterHere 22 = .ok (.aload_n 0, 1) := by decide +kernel
theorem dX4_letterHere_23 : decode cX4_letterHere 23 = .ok (.getfield 33, 3) := by decide +kernel
theorem dX4_letterHere_26 : decode cX4_letterHere 26 = .ok (.iaload, 1) := by decide +kernel
theorem dX4_letterHere_27 : decode cX4_letterHere 27 = .ok (.goto 4, 3) := by decide +kernel
theorem dX4_letterHere_30 : decode cX4_letterHere 30 = .ok (.iconst (-1), 1) := by decide +kernel
theorem dX4_letterHere_31 : decode cX4_letterHere 31 = .ok (.ireturn, 1) := by decide +kernel
theorem dX4_readLetter_0 : decode cX4_readLetter 0 = .ok (.aload_n 0, 1) := by decide +kernel
theorem dX4_readLetter_1 : decode cX4_readLetter 1 = .ok (.invokevirtual 43, 3) := by decide +kernel
theorem dX4_readLetter_4 : decode cX4_readLetter 4 = .ok (.iload_n 1, 1) := by decide +kernel
theorem dX4_readLetter_5 : decode cX4_readLetter 5 = .ok (.if_icmp .eq 11, 3) := by decide +kernel
theorem dX4_readLetter_8 : decode cX4_readLetter 8 = .ok (.aload_n 0, 1) := by decide +kernel
theorem dX4_readLetter_9 : decode cX4_readLetter 9 = .ok (.aload_n 0, 1) := by decide +kernel
theorem dX4_readLetter_10 : decode cX4_readLetter 10 = .ok (.getfield 33, 3) := by decide +kernel
theorem dX4_readLetter_13 : decode cX4_readLetter 13 = .ok (.invokevirtual 77, 3) := by decide +kernel
theorem dX4_readLetter_16 : decode cX4_readLetter 16 = .ok (.aload_n 0, 1) := by decide +kernel
theorem dX4_readLetter_17 : decode cX4_readLetter 17 = .ok (.getfield 22, 3) := by decide +kernel
theorem dX4_readLetter_20 : decode cX4_readLetter 20 = .ok (.iconst (-1), 1) := by decide +kernel
theorem dX4_readLetter_21 : decode cX4_readLetter 21 = .ok (.if_icmp .ne 13, 3) := by decide +kernel
theorem dX4_readLetter_24 : decode cX4_readLetter 24 = .ok (.aload_n 0, 1) := by decide +kernel
theorem dX4_readLetter_25 : decode cX4_readLetter 25 = .ok (.dup, 1) := by decide +kernel
theorem dX4_readLetter_26 : decode cX4_readLetter 26 = .ok (.getfield 33, 3) := by decide +kernel
theorem dX4_readLetter_29 : decode cX4_readLetter 29 = .ok (.iconst 1, 1) := by decide +kernel
theorem dX4_readLetter_30 : decode cX4_readLetter 30 = .ok (.iadd, 1) := by decide +kernel
theorem dX4_readLetter_31 : decode cX4_readLetter 31 = .ok (.putfield 33, 3) := by decide +kernel
theorem dX4_readLetter_34 : decode cX4_readLetter 34 = .ok (.return_, 1) := by decide +kernel
theorem dX4_readWord_0 : decode cX4_readWord 0 = .ok (.iconst 0, 1) := by decide +kernel
theorem dX4_readWord_1 : decode cX4_readWord 1 = .ok (.istore_n 2, 1) := by decide +kernel
theorem dX4_readWord_2 : decode cX4_readWord 2 = .ok (.iload_n 2, 1) := by decide +kernel
theorem dX4_readWord_3 : decode cX4_readWord 3 = .ok (.aload_n 1, 1) := by decide +kernel
theorem dX4_readWord_4 : decode cX4_readWord 4 = .ok (.invokevirtual 105, 3) := by decide +kernel
theorem dX4_readWord_7 : decode cX4_readWord 7 = .ok (.if_icmp .ge 18, 3) := by decide +kernel
theorem dX4_readWord_10 : decode cX4_readWord 10 = .ok (.aload_n 0, 1) := by decide +kernel
theorem dX4_readWord_11 : decode cX4_readWord 11 = .ok (.aload_n 1, 1) := by decide +kernel
theorem dX4_readWord_12 : decode cX4_readWord 12 = .ok (.iload_n 2, 1) := by decide +kernel
theorem dX4_readWord_13 : decode cX4_readWord 13 = .ok (.invokevirtual 110, 3) := by decide +kernel
theorem dX4_readWord_16 : decode cX4_readWord 16 = .ok (.invokevirtual 39, 3) := by decide +kernel
theorem dX4_readWord_19 : decode cX4_readWord 19 = .ok (.iinc 2 1, 3) := by decide +kernel
theorem dX4_readWord_22 : decode cX4_readWord 22 = .ok (.goto (-20), 3) := by decide +kernel
theorem dX4_readWord_25 : decode cX4_readWord 25 = .ok (.return_, 1) := by decide +kernel
theorem dX4_readNumber_0 : decode cX4_readNumber 0 = .ok (.aload_n 0, 1) := by decide +kernel
theorem dX4_readNumber_1 : decode cX4_readNumber 1 = .ok (.bipush 32, 2) := by decide +kernel
theorem dX4_readNumber_3 : decode cX4_readNumber 3 = .ok (.invokevirtual 39, 3) := by decide +kernel
theorem dX4_readNumber_6 : decode cX4_readNumber 6 = .ok (.aload_n 0, 1) := by decide +kernel
theorem dX4_readNumber_7 : decode cX4_readNumber 7 = .ok (.getfield 33, 3) := by decide +kernel
theorem dX4_readNumber_10 : decode cX4_readNumber 10 = .ok (.istore_n 3, 1) := by decide +kernel
theorem dX4_readNumber_11 : decode cX4_readNumber 11 = .ok (.iconst 0, 1) := by decide +kernel
theorem dX4_readNumber_12 : decode cX4_readNumber 12 = .ok (.istore 4, 2) := by decide +kernel
theorem dX4_readNumber_14 : decode cX4_readNumber 14 = .ok (.iconst 0, 1) := by decide +kernel
theorem dX4_readNumber_15 : decode cX4_readNumber 15 = .ok (.istore 5, 2) := by decide +kernel
theorem dX4_readNumber_17 : decode cX4_readNumber 17 = .ok (.iload 5, 2) := by decide +kernel
theorem dX4_readNumber_19 : decode cX4_readNumber 19 = .ok (.iconst 3, 1) := by decide +kernel
theorem dX4_readNumber_20 : decode cX4_readNumber 20 = .ok (.if_icmp .ge 56, 3) := by decide +kernel
theorem dX4_readNumber_23 : decode cX4_readNumber 23 = .ok (.aload_n 0, 1) := by decide +kernel
theorem dX4_readNumber_24 : decode cX4_readNumber 24 = .ok (.getfield 22, 3) := by decide +kernel
theorem dX4_readNumber_27 : decode cX4_readNumber 27 = .ok (.iconst (-1), 1) := by decide +kernel
theorem dX4_readNumber_28 : decode cX4_readNumber 28 = .ok (.if_icmp .ne 48, 3) := by decide +kernel
theorem dX4_readNumber_31 : decode cX4_readNumber 31 = .ok (.aload_n 0, 1) := by decide +kernel
theorem dX4_readNumber_32 : decode cX4_readNumber 32 = .ok (.invokevirtual 43, 3) := by decide +kernel
theorem dX4_readNumber_35 : decode cX4_readNumber 35 = .ok (.bipush 48, 2) := by decide +kernel
theorem dX4_readNumber_37 : decode cX4_readNumber 37 = .ok (.bipush 57, 2) := by decide +kernel
theorem dX4_readNumber_39 : decode cX4_readNumber 39 = .ok (.invokestatic 114, 3) := by decide +kernel
theorem dX4_readNumber_42 : decode cX4_readNumber 42 = .ok (.ifCond .eq 34, 3) := by decide +kernel
theorem dX4_readNumber_45 : decode cX4_readNumber 45 = .ok (.bipush 10, 2) := by decide +kernel
theorem dX4_readNumber_47 : decode cX4_readNumber 47 = .ok (.iload 4, 2) := by decide +kernel
theorem dX4_readNumber_49 : decode cX4_readNumber 49 = .ok (.imul, 1) := by decide +kernel
theorem dX4_readNumber_50 : decode cX4_readNumber 50 = .ok (.aload_n 0, 1) := by decide +kernel
theorem dX4_readNumber_51 : decode cX4_readNumber 51 = .ok (.invokevirtual 43, 3) := by decide +kernel
theorem dX4_readNumber_54 : decode cX4_readNumber 54 = .ok (.iadd, 1) := by decide +kernel
theorem dX4_readNumber_55 : decode cX4_readNumber 55 = .ok (.bipush 48, 2) := by decide +kernel
theorem dX4_readNumber_57 : decode cX4_readNumber 57 = .ok (.isub, 1) := by decide +kernel
theorem dX4_readNumber_58 : decode cX4_readNumber 58 = .ok (.istore 4, 2) := by decide +kernel
theorem dX4_readNumber_60 : decode cX4_readNumber 60 = .ok (.aload_n 0, 1) := by decide +kernel
theorem dX4_readNumber_61 : decode cX4_readNumber 61 = .ok (.dup, 1) := by decide +kernel
theorem dX4_readNumber_62 : decode cX4_readNumber 62 = .ok (.getfield 33, 3) := by decide +kernel
theorem dX4_readNumber_65 : decode cX4_readNumber 65 = .ok (.iconst 1, 1) := by decide +kernel
theorem dX4_readNumber_66 : decode cX4_readNumber 66 = .ok (.iadd, 1) := by decide +kernel
theorem dX4_readNumber_67 : decode cX4_readNumber 67 = .ok (.putfield 33, 3) := by decide +kernel
theorem dX4_readNumber_70 : decode cX4_readNumber 70 = .ok (.iinc 5 1, 3) := by decide +kernel
theorem dX4_readNumber_73 : decode cX4_readNumber 73 = .ok (.goto (-56), 3) := by decide +kernel
theorem dX4_readNumber_76 : decode cX4_readNumber 76 = .ok (.aload_n 0, 1) := by decide +kernel
theorem dX4_readNumber_77 : decode cX4_readNumber 77 = .ok (.getfield 33, 3) := by decide +kernel
theorem dX4_readNumber_80 : decode cX4_readNumber 80 = .ok (.iload_n 3, 1) := by decide +kernel
theorem dX4_readNumber_81 : decode cX4_readNumber 81 = .ok (.if_icmp .ne 11, 3) := by decide +kernel
theorem dX4_readNumber_84 : decode cX4_readNumber 84 = .ok (.aload_n 0, 1) := by decide +kernel
theorem dX4_readNumber_85 : decode cX4_readNumber 85 = .ok (.aload_n 0, 1) := by decide +kernel
theorem dX4_readNumber_86 : decode cX4_readNumber 86 = .ok (.getfield 33, 3) := by decide +kernel
theorem dX4_readNumber_89 : decode cX4_readNumber 89 = .ok (.invokevirtual 77, 3) := by decide +kernel
theorem dX4_readNumber_92 : decode cX4_readNumber 92 = .ok (.iload 4, 2) := by decide +kernel
theorem dX4_readNumber_94 : decode cX4_readNumber 94 = .ok (.iload_n 1, 1) := by decide +kernel
theorem dX4_readNumber_95 : decode cX4_readNumber 95 = .ok (.iload_n 2, 1) := by decide +kernel
theorem dX4_readNumber_96 : decode cX4_readNumber 96 = .ok (.invokestatic 114, 3) := by decide +kernel
theorem dX4_readNumber_99 : decode cX4_readNumber 99 = .ok (.ifCond .ne 8, 3) := by decide +kernel
theorem dX4_readNumber_102 : decode cX4_readNumber 102 = .ok (.aload_n 0, 1) := by decide +kernel
theorem dX4_readNumber_103 : decode cX4_readNumber 103 = .ok (.iload_n 3, 1) := by decide +kernel
theorem dX4_readNumber_104 : decode cX4_readNumber 104 = .ok (.invokevirtual 77, 3) := by decide +kernel
theorem dX4_readNumber_107 : decode cX4_readNumber 107 = .ok (.iload 4, 2) := by decide +kernel
theorem dX4_readNumber_109 : decode cX4_readNumber 109 = .ok (.ireturn, 1) := by decide +kernel
theorem dX5_leftOf_0 : decode cX5_leftOf 0 = .ok (.aload_n 0, 1) := by decide +kernel
theorem dX5_leftOf_1 : decode cX5_leftOf 1 = .ok (.iload_n 1, 1) := by decide +kernel
theorem dX5_leftOf_2 : decode cX5_leftOf 2 = .ok (.invokevirtual 9, 3) := by decide +kernel
theorem dX5_leftOf_5 : decode cX5_leftOf 5 = .ok (.istore_n 3, 1) := by decide +kernel
theorem dX5_leftOf_6 : decode cX5_leftOf 6 = .ok (.iconst 0, 1) := by decide +kernel
theorem dX5_leftOf_7 : decode cX5_leftOf 7 = .ok (.istore 4, 2) := by decide +kernel
theorem dX5_leftOf_9 : decode cX5_leftOf 9 = .ok (.iload 4, 2) := by decide +kernel
theorem dX5_leftOf_11 : decode cX5_leftOf 11 = .ok (.iload_n 2, 1) := by decide +kernel
theorem dX5_leftOf_12 : decode cX5_leftOf 12 = .ok (.if_icmp .ge 22, 3) := by decide +kernel
theorem dX5_leftOf_15 : decode cX5_leftOf 15 = .ok (.iload_n 3, 1) := by decide +kernel
theorem dX5_leftOf_16 : decode cX5_leftOf 16 = .ok (.iload_n 3, 1) := by decide +kernel
theorem dX5_leftOf_17 : decode cX5_leftOf 17 = .ok (.aload_n 0, 1) := by decide +kernel
theorem dX5_leftOf_18 : decode cX5_leftOf 18 = .ok (.iload_n 1, 1) := by decide +kernel
theorem dX5_leftOf_19 : decode cX5_leftOf 19 = .ok (.invokevirtual 15, 3) := by decide +kernel
theorem dX5_leftOf_22 : decode cX5_leftOf 22 = .ok (.imul, 1) := by decide +kernel
theorem dX5_leftOf_23 : decode cX5_leftOf 23 = .ok (.bipush 10, 2) := by decide +kernel
theorem dX5_leftOf_25 : decode cX5_leftOf 25 = .ok (.idiv, 1) := by decide +kernel
theorem dX5_leftOf_26 : decode cX5_leftOf 26 = .ok (.isub, 1) := by decide +kernel
theorem dX5_leftOf_27 : decode cX5_leftOf 27 = .ok (.istore_n 3, 1) := by decide +kernel
theorem dX5_leftOf_28 : decode cX5_leftOf 28 = .ok (.iinc 4 1, 3) := by decide +kernel
theorem dX5_leftOf_31 : decode cX5_leftOf 31 = .ok (.goto (-22), 3) := by decide +kernel
theorem dX5_leftOf_34 : decode cX5_leftOf 34 = .ok (.iload_n 3, 1) := by decide +kernel
theorem dX5_leftOf_35 : decode cX5_leftOf 35 = .ok (.ireturn, 1) := by decide +kernel
theorem dX5_answersOf_0 : decode cX5_answersOf 0 = .ok (.aload_n 0, 1) := by decide +kernel
theorem dX5_answersOf_1 : decode cX5_answersOf 1 = .ok (.iload_n 1, 1) := by decide +kernel
theorem dX5_answersOf_2 : decode cX5_answersOf 2 = .ok (.invokevirtual 9, 3) := by decide +kernel
theorem dX5_answersOf_5 : decode cX5_answersOf 5 = .ok (.istore_n 3, 1) := by decide +kernel
theorem dX5_answersOf_6 : decode cX5_answersOf 6 = .ok (.iconst 0, 1) := by decide +kernel
theorem dX5_answersOf_7 : decode cX5_answersOf 7 = .ok (.istore 4, 2) := by decide +kernel
theorem dX5_answersOf_9 : decode cX5_answersOf 9 = .ok (.iconst 0, 1) := by decide +kernel
theorem dX5_answersOf_10 : decode cX5_answersOf 10 = .ok (.istore 5, 2) := by decide +kernel
theorem dX5_answersOf_12 : decode cX5_answersOf 12 = .ok (.iload 5, 2) := by decide +kernel
theorem dX5_answersOf_14 : decode cX5_answersOf 14 = .ok (.iload_n 2, 1) := by decide +kernel
theorem dX5_answersOf_15 : decode cX5_answersOf 15 = .ok (.if_icmp .ge 42, 3) := by decide +kernel
theorem dX5_answersOf_18 : decode cX5_answersOf 18 = .ok (.iload_n 3, 1) := by decide +kernel
theorem dX5_answersOf_19 : decode cX5_answersOf 19 = .ok (.aload_n 0, 1) := by decide +kernel
theorem dX5_answersOf_20 : decode cX5_answersOf 20 = .ok (.iload_n 1, 1) := by decide +kernel
theorem dX5_answersOf_21 : decode cX5_answersOf 21 = .ok (.invokevirtual 15, 3) := by decide +kernel
theorem dX5_answersOf_24 : decode cX5_answersOf 24 = .ok (.imul, 1) := by decide +kernel
theorem dX5_answersOf_25 : decode cX5_answersOf 25 = .ok (.bipush 10, 2) := by decide +kernel
theorem dX5_answersOf_27 : decode cX5_answersOf 27 = .ok (.idiv, 1) := by decide +kernel
theorem dX5_answersOf_28 : decode cX5_answersOf 28 = .ok (.istore 6, 2) := by decide +kernel
theorem dX5_answersOf_30 : decode cX5_answersOf 30 = .ok (.iload_n 3, 1) := by decide +kernel
theorem dX5_answersOf_31 : decode cX5_answersOf 31 = .ok (.iload 6, 2) := by decide +kernel
theorem dX5_answersOf_33 : decode cX5_answersOf 33 = .ok (.isub, 1) := by decide +kernel
theorem dX5_answersOf_34 : decode cX5_answersOf 34 = .ok (.istore_n 3, 1) := by decide +kernel
theorem dX5_answersOf_35 : decode cX5_answersOf 35 = .ok (.iload 4, 2) := by decide +kernel
theorem dX5_answersOf_37 : decode cX5_answersOf 37 = .ok (.iload 6, 2) := by decide +kernel
theorem dX5_answersOf_39 : decode cX5_answersOf 39 = .ok (.aload_n 0, 1) := by decide +kernel
theorem dX5_answersOf_40 : decode cX5_answersOf 40 = .ok (.iload_n 1, 1) := by decide +kernel
theorem dX5_answersOf_41 : decode cX5_answersOf 41 = .ok (.invokevirtual 18, 3) := by decide +kernel
theorem dX5_answersOf_44 : decode cX5_answersOf 44 = .ok (.imul, 1) := by decide +kernel
theorem dX5_answersOf_45 : decode cX5_answersOf 45 = .ok (.bipush 10, 2) := by decide +kernel
theorem dX5_answersOf_47 : decode cX5_answersOf 47 = .ok (.idiv, 1) := by decide +kernel
theorem dX5_answersOf_48 : decode cX5_answersOf 48 = .ok (.iadd, 1) := by decide +kernel
theorem dX5_answersOf_49 : decode cX5_answersOf 49 = .ok (.istore 4, 2) := by decide +kernel
theorem dX5_answersOf_51 : decode cX5_answersOf 51 = .ok (.iinc 5 1, 3) := by decide +kernel
theorem dX5_answersOf_54 : decode cX5_answersOf 54 = .ok (.goto (-42), 3) := by decide +kernel
theorem dX5_answersOf_57 : decode cX5_answersOf 57 = .ok (.iload 4, 2) := by decide +kernel
theorem dX5_answersOf_59 : decode cX5_answersOf 59 = .ok (.ireturn, 1) := by decide +kernel
theorem dX5_leftBy_0 : decode cX5_leftBy 0 = .ok (.iconst 0, 1) := by decide +kernel
theorem dX5_leftBy_1 : decode cX5_leftBy 1 = .ok (.istore_n 2, 1) := by decide +kernel
theorem dX5_leftBy_2 : decode cX5_leftBy 2 = .ok (.iconst 0, 1) := by decide +kernel
theorem dX5_leftBy_3 : decode cX5_leftBy 3 = .ok (.istore_n 3, 1) := by decide +kernel
theorem dX5_leftBy_4 : decode cX5_leftBy 4 = .ok (.iload_n 3, 1) := by decide +kernel
theorem dX5_leftBy_5 : decode cX5_leftBy 5 = .ok (.aload_n 0, 1) := by decide +kernel
theorem dX5_leftBy_6 : decode cX5_leftBy 6 = .ok (.getfield 21, 3) := by decide +kernel
theorem dX5_leftBy_9 : decode cX5_leftBy 9 = .ok (.if_icmp .ge 18, 3) := by decide +kernel
theorem dX5_leftBy_12 : decode cX5_leftBy 12 = .ok (.iload_n 2, 1) := by decide +kernel
theorem dX5_leftBy_13 : decode cX5_leftBy 13 = .ok (.aload_n 0, 1) := by decide +kernel
theorem dX5_leftBy_14 : decode cX5_leftBy 14 = .ok (.iload_n 3, 1) := by decide +kernel
theorem dX5_leftBy_15 : decode cX5_leftBy 15 = .ok (.iload_n 1, 1) := by decide +kernel
theorem dX5_leftBy_16 : decode cX5_leftBy 16 = .ok (.invokestatic 25, 3) := by decide +kernel
theorem dX5_leftBy_19 : decode cX5_leftBy 19 = .ok (.iadd, 1) := by decide +kernel
theorem dX5_leftBy_20 : decode cX5_leftBy 20 = .ok (.istore_n 2, 1) := by decide +kernel
theorem dX5_leftBy_21 : decode cX5_leftBy 21 = .ok (.iinc 3 1, 3) := by decide +kernel
theorem dX5_leftBy_24 : decode cX5_leftBy 24 = .ok (.goto (-20), 3) := by decide +kernel
theorem dX5_leftBy_27 : decode cX5_leftBy 27 = .ok (.iload_n 2, 1) := by decide +kernel
theorem dX5_leftBy_28 : decode cX5_leftBy 28 = .ok (.ireturn, 1) := by decide +kernel
theorem dX5_answersBetween_0 : decode cX5_answersBetween 0 = .ok (.iconst 0, 1) := by decide +kernel
theorem dX5_answersBetween_1 : decode cX5_answersBetween 1 = .ok (.istore_n 3, 1) := by decide +kernel
theorem dX5_answersBetween_2 : decode cX5_answersBetween 2 = .ok (.iconst 0, 1) := by decide +kernel
theorem dX5_answersBetween_3 : decode cX5_answersBetween 3 = .ok (.istore 4, 2) := by decide +kernel
theorem dX5_answersBetween_5 : decode cX5_answersBetween 5 = .ok (.iload 4, 2) := by decide +kernel
theorem dX5_answersBetween_7 : decode cX5_answersBetween 7 = .ok (.aload_n 0, 1) := by decide +kernel
theorem dX5_answersBetween_8 : decode cX5_answersBetween 8 = .ok (.getfield 21, 3) := by decide +kernel
theorem dX5_answersBetween_11 : decode cX5_answersBetween 11 = .ok (.if_icmp .ge 27, 3) := by decide +kernel
theorem dX5_answersBetween_14 : decode cX5_answersBetween 14 = .ok (.iload_n 3, 1) := by decide +kernel
theorem dX5_answersBetween_15 : decode cX5_answersBetween 15 = .ok (.aload_n 0, 1) := by decide +kernel
theorem dX5_answersBetween_16 : decode cX5_answersBetween 16 = .ok (.iload 4, 2) := by decide +kernel
theorem dX5_answersBetween_18 : decode cX5_answersBetween 18 = .ok (.iload_n 2, 1) := by decide +kernel
theorem dX5_answersBetween_19 : decode cX5_answersBetween 19 = .ok (.invokestatic 31, 3) := by decide +kernel
theorem dX5_answersBetween_22 : decode cX5_answersBetween 22 = .ok (.aload_n 0, 1) := by decide +kernel
theorem dX5_answersBetween_23 : decode cX5_answersBetween 23 = .ok (.iload 4, 2) := by decide +kernel
theorem dX5_answersBetween_25 : decode cX5_answersBetween 25 = .ok (.iload_n 1, 1) := by decide +kernel
theorem dX5_answersBetween_26 : decode cX5_answersBetween 26 = .ok (.invokestatic 31, 3) := by decide +kernel
theorem dX5_answersBetween_29 : decode cX5_answersBetween 29 = .ok (.isub, 1) := by decide +kernel
theorem dX5_answersBetween_30 : decode cX5_answersBetween 30 = .ok (.iadd, 1) := by decide +kernel
theorem dX5_answersBetween_31 : decode cX5_answersBetween 31 = .ok (.istore_n 3, 1) := by decide +kernel
theorem dX5_answersBetween_32 : decode cX5_answersBetween 32 = .ok (.iinc 4 1, 3) := by decide +kernel
theorem dX5_answersBetween_35 : decode cX5_answersBetween 35 = .ok (.goto (-30), 3) := by decide +kernel
theorem dX5_answersBetween_38 : decode cX5_answersBetween 38 = .ok (.iload_n 3, 1) := by decide +kernel
theorem dX5_answersBetween_39 : decode cX5_answersBetween 39 = .ok (.ireturn, 1) := by decide +kernel
theorem dX5_shareBetween_0 : decode cX5_shareBetween 0 = .ok (.iconst 0, 1) := by decide +kernel
theorem dX5_shareBetween_1 : decode cX5_shareBetween 1 = .ok (.istore 4, 2) := by decide +kernel
theorem dX5_shareBetween_3 : decode cX5_shareBetween 3 = .ok (.iconst 0, 1) := by decide +kernel
theorem dX5_shareBetween_4 : decode cX5_shareBetween 4 = .ok (.istore 5, 2) := by decide +kernel
theorem dX5_shareBetween_6 : decode cX5_shareBetween 6 = .ok (.iload 5, 2) := by decide +kernel
theorem dX5_shareBetween_8 : decode cX5_shareBetween 8 = .ok (.aload_n 0, 1) := by decide +kernel
theorem dX5_shareBetween_9 : decode cX5_shareBetween 9 = .ok (.getfield 21, 3) := by decide +kernel
theorem dX5_shareBetween_12 : decode cX5_shareBetween 12 = .ok (.if_icmp .ge 36, 3) := by decide +kernel
theorem dX5_shareBetween_15 : decode cX5_shareBetween 15 = .ok (.iload 4, 2) := by decide +kernel
theorem dX5_shareBetween_17 : decode cX5_shareBetween 17 = .ok (.aload_n 0, 1) := by decide +kernel
theorem dX5_shareBetween_18 : decode cX5_shareBetween 18 = .ok (.iload_n 1, 1) := by decide +kernel
theorem dX5_shareBetween_19 : decode cX5_shareBetween 19 = .ok (.iload 5, 2) := by decide +kernel
theorem dX5_shareBetween_21 : decode cX5_shareBetween 21 = .ok (.aload_n 0, 1) := by decide +kernel
theorem dX5_shareBetween_22 : decode cX5_shareBetween 22 = .ok (.iload 5, 2) := by decide +kernel
theorem dX5_shareBetween_24 : decode cX5_shareBetween 24 = .ok (.iload_n 3, 1) := by decide +kernel
theorem dX5_shareBetween_25 : decode cX5_shareBetween 25 = .ok (.invokestatic 31, 3) := by decide +kernel
theorem dX5_shareBetween_28 : decode cX5_shareBetween 28 = .ok (.aload_n 0, 1) := by decide +kernel
theorem dX5_shareBetween_29 : decode cX5_shareBetween 29 = .ok (.iload 5, 2) := by decide +kernel
theorem dX5_shareBetween_31 : decode cX5_shareBetween 31 = .ok (.iload_n 2, 1) := by decide +kernel
theorem dX5_shareBetween_32 : decode cX5_shareBetween 32 = .ok (.invokestatic 31, 3) := by decide +kernel
theorem dX5_shareBetween_35 : decode cX5_shareBetween 35 = .ok (.isub, 1) := by decide +kernel
theorem dX5_shareBetween_36 : decode cX5_shareBetween 36 = .ok (.invokevirtual 34, 3) := by decide +kernel
theorem dX5_shareBetween_39 : decode cX5_shareBetween 39 = .ok (.iadd, 1) := by decide +kernel
theorem dX5_shareBetween_40 : decode cX5_shareBetween 40 = .ok (.istore 4, 2) := by decide +kernel
theorem dX5_shareBetween_42 : decode cX5_shareBetween 42 = .ok (.iinc 5 1, 3) := by decide +kernel
theorem dX5_shareBetween_45 : decode cX5_shareBetween 45 = .ok (.goto (-39), 3) := by decide +kernel
theorem dX5_shareBetween_48 : decode cX5_shareBetween 48 = .ok (.iload 4, 2) := by decide +kernel
theorem dX5_shareBetween_50 : decode cX5_shareBetween 50 = .ok (.aload_n 0, 1) := by decide +kernel
theorem dX5_shareBetween_51 : decode cX5_shareBetween 51 = .ok (.iload_n 2, 1) := by decide +kernel
theorem dX5_shareBetween_52 : decode cX5_shareBetween 52 = .ok (.iload_n 3, 1) := by decide +kernel
theorem dX5_shareBetween_53 : decode cX5_shareBetween 53 = .ok (.invokestatic 38, 3) := by decide +kernel
theorem dX5_shareBetween_56 : decode cX5_shareBetween 56 = .ok (.invokestatic 41, 3) := by decide +kernel
theorem dX5_shareBetween_59 : decode cX5_shareBetween 59 = .ok (.ireturn, 1) := by decide +kernel
theorem dX5_offBy_0 : decode cX5_offBy 0 = .ok (.aload_n 0, 1) := by decide +kernel
theorem dX5_offBy_1 : decode cX5_offBy 1 = .ok (.iload_n 1, 1) := by decide +kernel
theorem dX5_offBy_2 : decode cX5_offBy 2 = .ok (.iconst 0, 1) := by decide +kernel
theorem dX5_offBy_3 : decode cX5_offBy 3 = .ok (.iload_n 2, 1) := by decide +kernel
theorem dX5_offBy_4 : decode cX5_offBy 4 = .ok (.invokestatic 45, 3) := by decide +kernel
theorem dX5_offBy_7 : decode cX5_offBy 7 = .ok (.aload_n 0, 1) := by decide +kernel
theorem dX5_offBy_8 : decode cX5_offBy 8 = .ok (.iload_n 1, 1) := by decide +kernel
theorem dX5_offBy_9 : decode cX5_offBy 9 = .ok (.sipush 1023, 3) := by decide +kernel
theorem dX5_offBy_12 : decode cX5_offBy 12 = .ok (.invokevirtual 49, 3) := by decide +kernel
theorem dX5_offBy_15 : decode cX5_offBy 15 = .ok (.isub, 1) := by decide +kernel
theorem dX5_offBy_16 : decode cX5_offBy 16 = .ok (.ireturn, 1) := by decide +kernel
theorem dX5_costOf_0 : decode cX5_costOf 0 = .ok (.iconst 0, 1) := by decide +kernel
theorem dX5_costOf_1 : decode cX5_costOf 1 = .ok (.istore_n 2, 1) := by decide +kernel
theorem dX5_costOf_2 : decode cX5_costOf 2 = .ok (.iconst 0, 1) := by decide +kernel
theorem dX5_costOf_3 : decode cX5_costOf 3 = .ok (.istore_n 3, 1) := by decide +kernel
theorem dX5_costOf_4 : decode cX5_costOf 4 = .ok (.iload_n 3, 1) := by decide +kernel
theorem dX5_costOf_5 : decode cX5_costOf 5 = .ok (.iload_n 1, 1) := by decide +kernel
theorem dX5_costOf_6 : decode cX5_costOf 6 = .ok (.if_icmp .ge 17, 3) := by decide +kernel
theorem dX5_costOf_9 : decode cX5_costOf 9 = .ok (.iload_n 2, 1) := by decide +kernel
theorem dX5_costOf_10 : decode cX5_costOf 10 = .ok (.aload_n 0, 1) := by decide +kernel
theorem dX5_costOf_11 : decode cX5_costOf 11 = .ok (.iload_n 3, 1) := by decide +kernel
theorem dX5_costOf_12 : decode cX5_costOf 12 = .ok (.invokestatic 52, 3) := by decide +kernel
theorem dX5_costOf_15 : decode cX5_costOf 15 = .ok (.iadd, 1) := by decide +kernel
theorem dX5_costOf_16 : decode cX5_costOf 16 = .ok (.istore_n 2, 1) := by decide +kernel
theorem dX5_costOf_17 : decode cX5_costOf 17 = .ok (.iinc 3 1, 3) := by decide +kernel
theorem dX5_costOf_20 : decode cX5_costOf 20 = .ok (.goto (-16), 3) := by decide +kernel
theorem dX5_costOf_23 : decode cX5_costOf 23 = .ok (.aload_n 0, 1) := by decide +kernel
theorem dX5_costOf_24 : decode cX5_costOf 24 = .ok (.getfield 56, 3) := by decide +kernel
theorem dX5_costOf_27 : decode cX5_costOf 27 = .ok (.iload_n 2, 1) := by decide +kernel
theorem dX5_costOf_28 : decode cX5_costOf 28 = .ok (.imul, 1) := by decide +kernel
theorem dX5_costOf_29 : decode cX5_costOf 29 = .ok (.ireturn, 1) := by decide +kernel
theorem dX5_enoughFor_0 : decode cX5_enoughFor 0 = .ok (.iconst 0, 1) := by decide +kernel
theorem dX5_enoughFor_1 : decode cX5_enoughFor 1 = .ok (.istore_n 3, 1) := by decide +kernel
theorem dX5_enoughFor_2 : decode cX5_enoughFor 2 = .ok (.iload_n 3, 1) := by decide +kernel
theorem dX5_enoughFor_3 : decode cX5_enoughFor 3 = .ok (.bipush 9, 2) := by decide +kernel
theorem dX5_enoughFor_5 : decode cX5_enoughFor 5 = .ok (.if_icmp .gt 24, 3) := by decide +kernel
theorem dX5_enoughFor_8 : decode cX5_enoughFor 8 = .ok (.aload_n 0, 1) := by decide +kernel
theorem dX5_enoughFor_9 : decode cX5_enoughFor 9 = .ok (.iload_n 1, 1) := by decide +kernel
theorem dX5_enoughFor_10 : decode cX5_enoughFor 10 = .ok (.iload_n 3, 1) := by decide +kernel
theorem dX5_enoughFor_11 : decode cX5_enoughFor 11 = .ok (.invokestatic 59, 3) := by decide +kernel
theorem dX5_enoughFor_14 : decode cX5_enoughFor 14 = .ok (.invokestatic 62, 3) := by decide +kernel
theorem dX5_enoughFor_17 : decode cX5_enoughFor 17 = .ok (.iload_n 2, 1) := by decide +kernel
theorem dX5_enoughFor_18 : decode cX5_enoughFor 18 = .ok (.if_icmp .gt 5, 3) := by decide +kernel
theorem dX5_enoughFor_21 : decode cX5_enoughFor 21 = .ok (.iload_n 3, 1) := by decide +kernel
theorem dX5_enoughFor_22 : decode cX5_enoughFor 22 = .ok (.ireturn, 1) := by decide +kernel
theorem dX5_enoughFor_23 : decode cX5_enoughFor 23 = .ok (.iinc 3 1, 3) := by decide +kernel
theorem dX5_enoughFor_26 : decode cX5_enoughFor 26 = .ok (.goto (-24), 3) := by decide +kernel
theorem dX5_enoughFor_29 : decode cX5_enoughFor 29 = .ok (.iconst (-1), 1) := by decide +kernel
theorem dX5_enoughFor_30 : decode cX5_enoughFor 30 = .ok (.ireturn, 1) := by decide +kernel
theorem dX5_finest_0 : decode cX5_finest 0 = .ok (.ldc 67, 2) := by decide +kernel
theorem dX5_finest_2 : decode cX5_finest 2 = .ok (.istore_n 3, 1) := by decide +kernel
theorem dX5_finest_3 : decode cX5_finest 3 = .ok (.iconst 0, 1) := by decide +kernel
theorem dX5_finest_4 : decode cX5_finest 4 = .ok (.istore 4, 2) := by decide +kernel
theorem dX5_finest_6 : decode cX5_finest 6 = .ok (.iconst 0, 1) := by decide +kernel
theorem dX5_finest_7 : decode cX5_finest 7 = .ok (.istore 5, 2) := by decide +kernel
theorem dX5_finest_9 : decode cX5_finest 9 = .ok (.iload 5, 2) := by decide +kernel
theorem dX5_finest_11 : decode cX5_finest 11 = .ok (.bipush 9, 2) := by decide +kernel
theorem dX5_finest_13 : decode cX5_finest 13 = .ok (.if_icmp .gt 44, 3) := by decide +kernel
theorem dX5_finest_16 : decode cX5_finest 16 = .ok (.aload_n 0, 1) := by decide +kernel
theorem dX5_finest_17 : decode cX5_finest 17 = .ok (.iload_n 1, 1) := by decide +kernel
theorem dX5_finest_18 : decode cX5_finest 18 = .ok (.iload 5, 2) := by decide +kernel
theorem dX5_finest_20 : decode cX5_finest 20 = .ok (.invokestatic 59, 3) := by decide +kernel
theorem dX5_finest_23 : decode cX5_finest 23 = .ok (.invokestatic 62, 3) := by decide +kernel
theorem dX5_finest_26 : decode cX5_finest 26 = .ok (.istore 6, 2) := by decide +kernel
theorem dX5_finest_28 : decode cX5_finest 28 = .ok (.aload_n 0, 1) := by decide +kernel
theorem dX5_finest_29 : decode cX5_finest 29 = .ok (.iload 5, 2) := by decide +kernel
theorem dX5_finest_31 : decode cX5_finest 31 = .ok (.invokestatic 68, 3) := by decide +kernel
theorem dX5_finest_34 : decode cX5_finest 34 = .ok (.iload_n 2, 1) := by decide +kernel
theorem dX5_finest_35 : decode cX5_finest 35 = .ok (.if_icmp .gt 16, 3) := by decide +kernel
theorem dX5_finest_38 : decode cX5_finest 38 = .ok (.iload 6, 2) := by decide +kernel
theorem dX5_finest_40 : decode cX5_finest 40 = .ok (.iload_n 3, 1) := by decide +kernel
theorem dX5_finest_41 : decode cX5_finest 41 = .ok (.if_icmp .ge 10, 3) := by decide +kernel
theorem dX5_finest_44 : decode cX5_finest 44 = .ok (.iload 6, 2) := by decide +kernel
theorem dX5_finest_46 : decode cX5_finest 46 = .ok (.istore_n 3, 1) := by decide +kernel
theorem dX5_finest_47 : decode cX5_finest 47 = .ok (.iload 5, 2) := by decide +kernel
theorem dX5_finest_49 : decode cX5_finest 49 = .ok (.istore 4, 2) := by decide +kernel
theorem dX5_finest_51 : decode cX5_finest 51 = .ok (.iinc 5 1, 3) := by decide +kernel
theorem dX5_finest_54 : decode cX5_finest 54 = .ok (.goto (-45), 3) := by decide +kernel
theorem dX5_finest_57 : decode cX5_finest 57 = .ok (.iload 4, 2) := by decide +kernel
theorem dX5_finest_59 : decode cX5_finest 59 = .ok (.ireturn, 1) := by decide +kernel
theorem dX5_groupsThatNeverAnswer_0 : decode cX5_groupsThatNeverAnswer 0 = .ok (.iconst 0, 1) := by decide +kernel
theorem dX5_groupsThatNeverAnswer_1 : decode cX5_groupsThatNeverAnswer 1 = .ok (.istore_n 1, 1) := by decide +kernel
theorem dX5_groupsThatNeverAnswer_2 : decode cX5_groupsThatNeverAnswer 2 = .ok (.iconst 0, 1) := by decide +kernel
theorem dX5_groupsThatNeverAnswer_3 : decode cX5_groupsThatNeverAnswer 3 = .ok (.istore_n 2, 1) := by decide +kernel
theorem dX5_groupsThatNeverAnswer_4 : decode cX5_groupsThatNeverAnswer 4 = .ok (.iload_n 2, 1) := by decide +kernel
theorem dX5_groupsThatNeverAnswer_5 : decode cX5_groupsThatNeverAnswer 5 = .ok (.aload_n 0, 1) := by decide +kernel
theorem dX5_groupsThatNeverAnswer_6 : decode cX5_groupsThatNeverAnswer 6 = .ok (.getfield 21, 3) := by decide +kernel
theorem dX5_groupsThatNeverAnswer_9 : decode cX5_groupsThatNeverAnswer 9 = .ok (.if_icmp .ge 25, 3) := by decide +kernel
theorem dX5_groupsThatNeverAnswer_12 : decode cX5_groupsThatNeverAnswer 12 = .ok (.aload_n 0, 1) := by decide +kernel
theorem dX5_groupsThatNeverAnswer_13 : decode cX5_groupsThatNeverAnswer 13 = .ok (.iload_n 2, 1) := by decide +kernel
theorem dX5_groupsThatNeverAnswer_14 : decode cX5_groupsThatNeverAnswer 14 = .ok (.bipush 9, 2) := by decide +kernel
theorem dX5_groupsThatNeverAnswer_16 : decode cX5_groupsThatNeverAnswer 16 = .ok (.invokestatic 31, 3) := by decide +kernel
theorem dX5_groupsThatNeverAnswer_19 : decode cX5_groupsThatNeverAnswer 19 = .ok (.ifCond .ne 9, 3) := by decide +kernel
theorem dX5_groupsThatNeverAnswer_22 : decode cX5_groupsThatNeverAnswer 22 = .ok (.iload_n 1, 1) := by decide +kernel
theorem dX5_groupsThatNeverAnswer_23 : decode cX5_groupsThatNeverAnswer 23 = .ok (.iconst 1, 1) := by decide +kernel
theorem dX5_groupsThatNeverAnswer_24 : decode cX5_groupsThatNeverAnswer 24 = .ok (.iload_n 2, 1) := by decide +kernel
theorem dX5_groupsThatNeverAnswer_25 : decode cX5_groupsThatNeverAnswer 25 = .ok (.ishl, 1) := by decide +kernel
theorem dX5_groupsThatNeverAnswer_26 : decode cX5_groupsThatNeverAnswer 26 = .ok (.ior, 1) := by decide +kernel
theorem dX5_groupsThatNeverAnswer_27 : decode cX5_groupsThatNeverAnswer 27 = .ok (.istore_n 1, 1) := by decide +kernel
theorem dX5_groupsThatNeverAnswer_28 : decode cX5_groupsThatNeverAnswer 28 = .ok (.iinc 2 1, 3) := by decide +kernel
theorem dX5_groupsThatNeverAnswer_31 : decode cX5_groupsThatNeverAnswer 31 = .ok (.goto (-27), 3) := by decide +kernel
theorem dX5_groupsThatNeverAnswer_34 : decode cX5_groupsThatNeverAnswer 34 = .ok (.iload_n 1, 1) := by decide +kernel
theorem dX5_groupsThatNeverAnswer_35 : decode cX5_groupsThatNeverAnswer 35 = .ok (.ireturn, 1) := by decide +kernel
theorem dX6_init_0 : decode cX6_init 0 = .ok (.aload_n 0, 1) := by decide +kernel
theorem dX6_init_1 : decode cX6_init 1 = .ok (.invokespecial 1, 3) := by decide +kernel
theorem dX6_init_4 : decode cX6_init 4 = .ok (.aload_n 0, 1) := by decide +kernel
theorem dX6_init_5 : decode cX6_init 5 = .ok (.new 7, 3) := by decide +kernel
theorem dX6_init_8 : decode cX6_init 8 = .ok (.dup, 1) := by decide +kernel
theorem dX6_init_9 : decode cX6_init 9 = .ok (.invokespecial 9, 3) := by decide +kernel
theorem dX6_init_12 : decode cX6_init 12 = .ok (.putfield 10, 3) := by decide +kernel
theorem dX6_init_15 : decode cX6_init 15 = .ok (.aload_n 0, 1) := by decide +kernel
theorem dX6_init_16 : decode cX6_init 16 = .ok (.new 7, 3) := by decide +kernel
theorem dX6_init_19 : decode cX6_init 19 = .ok (.dup, 1) := by decide +kernel
theorem dX6_init_20 : decode cX6_init 20 = .ok (.invokespecial 9, 3) := by decide +kernel
theorem dX6_init_23 : decode cX6_init 23 = .ok (.putfield 16, 3) := by decide +kernel
theorem dX6_init_26 : decode cX6_init 26 = .ok (.aload_n 0, 1) := by decide +kernel
theorem dX6_init_27 : decode cX6_init 27 = .ok (.new 19, 3) := by decide +kernel
theorem dX6_init_30 : decode cX6_init 30 = .ok (.dup, 1) := by decide +kernel
theorem dX6_init_31 : decode cX6_init 31 = .ok (.invokespecial 21, 3) := by decide +kernel
theorem dX6_init_34 : decode cX6_init 34 = .ok (.putfield 22, 3) := by decide +kernel
theorem dX6_init_37 : decode cX6_init 37 = .ok (.aload_n 0, 1) := by decide +kernel
theorem dX6_init_38 : decode cX6_init 38 = .ok (.new 26, 3) := by decide +kernel
theorem dX6_init_41 : decode cX6_init 41 = .ok (.dup, 1) := by decide +kernel
theorem dX6_init_42 : decode cX6_init 42 = .ok (.invokespecial 28, 3) := by decide +kernel
theorem dX6_init_45 : decode cX6_init 45 = .ok (.putfield 29, 3) := by decide +kernel
theorem dX6_init_48 : decode cX6_init 48 = .ok (.aload_n 0, 1) := by decide +kernel
theorem dX6_init_49 : decode cX6_init 49 = .ok (.new 33, 3) := by decide +kernel
theorem dX6_init_52 : decode cX6_init 52 = .ok (.dup, 1) := by decide +kernel
theorem dX6_init_53 : decode cX6_init 53 = .ok (.invokespecial 35, 3) := by decide +kernel
theorem dX6_init_56 : decode cX6_init 56 = .ok (.putfield 36, 3) := by decide +kernel
theorem dX6_init_59 : decode cX6_init 59 = .ok (.aload_n 0, 1) := by decide +kernel
theorem dX6_init_60 : decode cX6_init 60 = .ok (.new 40, 3) := by decide +kernel
theorem dX6_init_63 : decode cX6_init 63 = .ok (.dup, 1) := by decide +kernel
theorem dX6_init_64 : decode cX6_init 64 = .ok (.invokespecial 42, 3) := by decide +kernel
theorem dX6_init_67 : decode cX6_init 67 = .ok (.putfield 43, 3) := by decide +kernel
theorem dX6_init_70 : decode cX6_init 70 = .ok (.aload_n 0, 1) := by decide +kernel
theorem dX6_init_71 : decode cX6_init 71 = .ok (.bipush 8, 2) := by decide +kernel
theorem dX6_init_73 : decode cX6_init 73 = .ok (.newarray .int, 2) := by decide +kernel
theorem dX6_init_75 : decode cX6_init 75 = .ok (.putfield 47, 3) := by decide +kernel
theorem dX6_init_78 : decode cX6_init 78 = .ok (.aload_n 0, 1) := by decide +kernel
theorem dX6_init_79 : decode cX6_init 79 = .ok (.iconst (-1), 1) := by decide +kernel
theorem dX6_init_80 : decode cX6_init 80 = .ok (.putfield 51, 3) := by decide +kernel
theorem dX6_init_83 : decode cX6_init 83 = .ok (.return_, 1) := by decide +kernel
theorem dX6_row_0 : decode cX6_row 0 = .ok (.iload_n 1, 1) := by decide +kernel
theorem dX6_row_1 : decode cX6_row 1 = .ok (.invokestatic 55, 3) := by decide +kernel
theorem dX6_row_4 : decode cX6_row 4 = .ok (.ifCond .ne 9, 3) := by decide +kernel
theorem dX6_row_7 : decode cX6_row 7 = .ok (.aload_n 0, 1) := by decide +kernel
theorem dX6_row_8 : decode cX6_row 8 = .ok (.iconst (-1), 1) := by decide +kernel
theorem dX6_row_9 : decode cX6_row 9 = .ok (.invokevirtual 59, 3) := by decide +kernel
theorem dX6_row_12 : decode cX6_row 12 = .ok (.ireturn, 1) := by decide +kernel
theorem dX6_row_13 : decode cX6_row 13 = .ok (.iload_n 3, 1) := by decide +kernel
theorem dX6_row_14 : decode cX6_row 14 = .ok (.ifCond .ge 10, 3) := by decide +kernel
theorem dX6_row_17 : decode cX6_row 17 = .ok (.aload_n 0, 1) := by decide +kernel
theorem dX6_row_18 : decode cX6_row 18 = .ok (.bipush (-4), 2) := by decide +kernel
theorem dX6_row_20 : decode cX6_row 20 = .ok (.invokevirtual 59, 3) := by decide +kernel
theorem dX6_row_23 : decode cX6_row 23 = .ok (.ireturn, 1) := by decide +kernel
theorem dX6_row_24 : decode cX6_row 24 = .ok (.iload_n 2, 1) := by decide +kernel
theorem dX6_row_25 : decode cX6_row 25 = .ok (.iconst 0, 1) := by decide +kernel
theorem dX6_row_26 : decode cX6_row 26 = .ok (.iconst 3, 1) := by decide +kernel
theorem dX6_row_27 : decode cX6_row 27 = .ok (.invokestatic 63, 3) := by decide +kernel
theorem dX6_row_30 : decode cX6_row 30 = .ok (.ifCond .ne 10, 3) := by decide +kernel
theorem dX6_row_33 : decode cX6_row 33 = .ok (.aload_n 0, 1) := by decide +kernel
theorem dX6_row_34 : decode cX6_row 34 = .ok (.bipush (-6), 2) := by decide +kernel
theorem dX6_row_36 : decode cX6_row 36 = .ok (.invokevirtual 59, 3) := by decide +kernel
theorem dX6_row_39 : decode cX6_row 39 = .ok (.ireturn, 1) := by decide +kernel
theorem dX6_row_40 : decode cX6_row 40 = .ok (.iload_n 3, 1) := by decide +kernel
theorem dX6_row_41 : decode cX6_row 41 = .ok (.sipush 160, 3) := by decide +kernel
theorem dX6_row_44 : decode cX6_row 44 = .ok (.if_icmp .le 10, 3) := by decide +kernel
theorem dX6_row_47 : decode cX6_row 47 = .ok (.aload_n 0, 1) := by decide +kernel
theorem dX6_row_48 : decode cX6_row 48 = .ok (.bipush (-7), 2) := by decide +kernel
theorem dX6_row_50 : decode cX6_row 50 = .ok (.invokevirtual 59, 3) := by decide +kernel
theorem dX6_row_53 : decode cX6_row 53 = .ok (.ireturn, 1) := by decide +kernel
theorem dX6_row_54 : decode cX6_row 54 = .ok (.aload_n 0, 1) := by decide +kernel
theorem dX6_row_55 : decode cX6_row 55 = .ok (.getfield 29, 3) := by decide +kernel
theorem dX6_row_58 : decode cX6_row 58 = .ok (.iload_n 1, 1) := by decide +kernel
theorem dX6_row_59 : decode cX6_row 59 = .ok (.iload_n 2, 1) := by decide +kernel
theorem dX6_row_60 : decode cX6_row 60 = .ok (.iload_n 3, 1) := by decide +kernel
theorem dX6_row_61 : decode cX6_row 61 = .ok (.invokevirtual 67, 3) := by decide +kernel
theorem dX6_row_64 : decode cX6_row 64 = .ok (.iconst 1, 1) := by decide +kernel
theorem dX6_row_65 : decode cX6_row 65 = .ok (.ireturn, 1) := by decide +kernel
theorem dX6_set_0 : decode cX6_set 0 = .ok (.aload_n 0, 1) := by decide +kernel
theorem dX6_set_1 : decode cX6_set 1 = .ok (.getfield 29, 3) := by decide +kernel
theorem dX6_set_4 : decode cX6_set 4 = .ok (.iload_n 1, 1) := by decide +kernel
theorem dX6_set_5 : decode cX6_set 5 = .ok (.invokevirtual 71, 3) := by decide +kernel
theorem dX6_set_8 : decode cX6_set 8 = .ok (.istore 5, 2) := by decide +kernel
theorem dX6_set_10 : decode cX6_set 10 = .ok (.iload 5, 2) := by decide +kernel
theorem dX6_set_12 : decode cX6_set 12 = .ok (.ifCond .eq 10, 3) := by decide +kernel
theorem dX6_set_15 : decode cX6_set 15 = .ok (.aload_n 0, 1) := by decide +kernel
theorem dX6_set_16 : decode cX6_set 16 = .ok (.iload 5, 2) := by decide +kernel
theorem dX6_set_18 : decode cX6_set 18 = .ok (.invokevirtual 59, 3) := by decide +kernel
theorem dX6_set_21 : decode cX6_set 21 = .ok (.ireturn, 1) := by decide +kernel
theorem dX6_set_22 : decode cX6_set 22 = .ok (.aload_n 0, 1) := by decide +kernel
theorem dX6_set_23 : decode cX6_set 23 = .ok (.getfield 29, 3) := by decide +kernel
theorem dX6_set_26 : decode cX6_set 26 = .ok (.iload_n 1, 1) := by decide +kernel
theorem dX6_set_27 : decode cX6_set 27 = .ok (.iload_n 2, 1) := by decide +kernel
theorem dX6_set_28 : decode cX6_set 28 = .ok (.iconst 1, 1) := by decide +kernel
theorem dX6_set_29 : decode cX6_set 29 = .ok (.invokevirtual 74, 3) := by decide +kernel
theorem dX6_set_32 : decode cX6_set 32 = .ok (.ifCond .ne 10, 3) := by decide +kernel
theorem dX6_set_35 : decode cX6_set 35 = .ok (.aload_n 0, 1) := by decide +kernel
theorem dX6_set_36 : decode cX6_set 36 = .ok (.bipush (-5), 2) := by decide +kernel
theorem dX6_set_38 : decode cX6_set 38 = .ok (.invokevirtual 59, 3) := by decide +kernel
theorem dX6_set_41 : decode cX6_set 41 = .ok (.ireturn, 1) := by decide +kernel
theorem dX6_set_42 : decode cX6_set 42 = .ok (.aload_n 0, 1) := by decide +kernel
theorem dX6_set_43 : decode cX6_set 43 = .ok (.getfield 29, 3) := by decide +kernel
theorem dX6_set_46 : decode cX6_set 46 = .ok (.iload_n 1, 1) := by decide +kernel
theorem dX6_set_47 : decode cX6_set 47 = .ok (.iload_n 2, 1) := by decide +kernel
theorem dX6_set_48 : decode cX6_set 48 = .ok (.lload_n 3, 1) := by decide +kernel
theorem dX6_set_49 : decode cX6_set 49 = .ok (.invokevirtual 77, 3) := by decide +kernel
theorem dX6_set_52 : decode cX6_set 52 = .ok (.iconst 1, 1) := by decide +kernel
theorem dX6_set_53 : decode cX6_set 53 = .ok (.ireturn, 1) := by decide +kernel
theorem dX6_copy_0 : decode cX6_copy 0 = .ok (.aload_n 0, 1) := by decide +kernel
theorem dX6_copy_1 : decode cX6_copy 1 = .ok (.getfield 29, 3) := by decide +kernel
theorem dX6_copy_4 : decode cX6_copy 4 = .ok (.iload_n 1, 1) := by decide +kernel
theorem dX6_copy_5 : decode cX6_copy 5 = .ok (.iload_n 2, 1) := by decide +kernel
theorem dX6_copy_6 : decode cX6_copy 6 = .ok (.invokevirtual 81, 3) := by decide +kernel
theorem dX6_copy_9 : decode cX6_copy 9 = .ok (.istore 6, 2) := by decide +kernel
theorem dX6_copy_11 : decode cX6_copy 11 = .ok (.iload 6, 2) := by decide +kernel
theorem dX6_copy_13 : decode cX6_copy 13 = .ok (.ifCond .eq 10, 3) := by decide +kernel
theorem dX6_copy_16 : decode cX6_copy 16 = .ok (.aload_n 0, 1) := by decide +kernel
theorem dX6_copy_17 : decode cX6_copy 17 = .ok (.iload 6, 2) := by decide +kernel
theorem dX6_copy_19 : decode cX6_copy 19 = .ok (.invokevirtual 59, 3) := by decide +kernel
theorem dX6_copy_22 : decode cX6_copy 22 = .ok (.ireturn, 1) := by decide +kernel
theorem dX6_copy_23 : decode cX6_copy 23 = .ok (.iload 5, 2) := by decide +kernel
theorem dX6_copy_25 : decode cX6_copy 25 = .ok (.ifCond .ge 10, 3) := by decide +kernel
theorem dX6_copy_28 : decode cX6_copy 28 = .ok (.aload_n 0, 1) := by decide +kernel
theorem dX6_copy_29 : decode cX6_copy 29 = .ok (.bipush (-4), 2) := by decide +kernel
theorem dX6_copy_31 : decode cX6_copy 31 = .ok (.invokevirtual 59, 3) := by decide +kernel
theorem dX6_copy_34 : decode cX6_copy 34 = .ok (.ireturn, 1) := by decide +kernel
theorem dX6_copy_35 : decode cX6_copy 35 = .ok (.aload_n 0, 1) := by decide +kernel
theorem dX6_copy_36 : decode cX6_copy 36 = .ok (.getfield 29, 3) := by decide +kernel
theorem dX6_copy_39 : decode cX6_copy 39 = .ok (.iload_n 1, 1) := by decide +kernel
theorem dX6_copy_40 : decode cX6_copy 40 = .ok (.iload_n 3, 1) := by decide +kernel
theorem dX6_copy_41 : decode cX6_copy 41 = .ok (.iload 5, 2) := by decide +kernel
theorem dX6_copy_43 : decode cX6_copy 43 = .ok (.invokevirtual 74, 3) := by decide +kernel
theorem dX6_copy_46 : decode cX6_copy 46 = .ok (.ifCond .eq 18, 3) := by decide +kernel
theorem dX6_copy_49 : decode cX6_copy 49 = .ok (.aload_n 0, 1) := by decide +kernel
theorem dX6_copy_50 : decode cX6_copy 50 = .ok (.getfield 29, 3) := by decide +kernel
theorem dX6_copy_53 : decode cX6_copy 53 = .ok (.iload_n 2, 1) := by decide +kernel
theorem dX6_copy_54 : decode cX6_copy 54 = .ok (.iload 4, 2) := by decide +kernel
theorem dX6_copy_56 : decode cX6_copy 56 = .ok (.iload 5, 2) := by decide +kernel
theorem dX6_copy_58 : decode cX6_copy 58 = .ok (.invokevirtual 74, 3) := by decide +kernel
theorem dX6_copy_61 : decode cX6_copy 61 = .ok (.ifCond .ne 10, 3) := by decide +kernel
theorem dX6_copy_64 : decode cX6_copy 64 = .ok (.aload_n 0, 1) := by decide +kernel
theorem dX6_copy_65 : decode cX6_copy 65 = .ok (.bipush (-5), 2) := by decide +kernel
theorem dX6_copy_67 : decode cX6_copy 67 = .ok (.invokevirtual 59, 3) := by decide +kernel
theorem dX6_copy_70 : decode cX6_copy 70 = .ok (.ireturn, 1) := by decide +kernel
theorem dX6_copy_71 : decode cX6_copy 71 = .ok (.aload_n 0, 1) := by decide +kernel
theorem dX6_copy_72 : decode cX6_copy 72 = .ok (.getfield 29, 3) := by decide +kernel
theorem dX6_copy_75 : decode cX6_copy 75 = .ok (.iload_n 1, 1) := by decide +kernel
theorem dX6_copy_76 : decode cX6_copy 76 = .ok (.iload_n 2, 1) := by decide +kernel
theorem dX6_copy_77 : decode cX6_copy 77 = .ok (.iload_n 3, 1) := by decide +kernel
theorem dX6_copy_78 : decode cX6_copy 78 = .ok (.iload 4, 2) := by decide +kernel
theorem dX6_copy_80 : decode cX6_copy 80 = .ok (.iload 5, 2) := by decide +kernel
theorem dX6_copy_82 : decode cX6_copy 82 = .ok (.invokevirtual 85, 3) := by decide +kernel
theorem dX6_copy_85 : decode cX6_copy 85 = .ok (.iconst 1, 1) := by decide +kernel
theorem dX6_copy_86 : decode cX6_copy 86 = .ok (.ireturn, 1) := by decide +kernel
theorem dX6_element_0 : decode cX6_element 0 = .ok (.aload_n 0, 1) := by decide +kernel
theorem dX6_element_1 : decode cX6_element 1 = .ok (.getfield 29, 3) := by decide +kernel
theorem dX6_element_4 : decode cX6_element 4 = .ok (.iload_n 1, 1) := by decide +kernel
theorem dX6_element_5 : decode cX6_element 5 = .ok (.invokevirtual 71, 3) := by decide +kernel
theorem dX6_element_8 : decode cX6_element 8 = .ok (.ifCond .ne 16, 3) := by decide +kernel
theorem dX6_element_11 : decode cX6_element 11 = .ok (.aload_n 0, 1) := by decide +kernel
theorem dX6_element_12 : decode cX6_element 12 = .ok (.getfield 29, 3) := by decide +kernel
theorem dX6_element_15 : decode cX6_element 15 = .ok (.iload_n 1, 1) := by decide +kernel
theorem dX6_element_16 : decode cX6_element 16 = .ok (.iload_n 2, 1) := by decide +kernel
theorem dX6_element_17 : decode cX6_element 17 = .ok (.iconst 1, 1) := by decide +kernel
theorem dX6_element_18 : decode cX6_element 18 = .ok (.invokevirtual 74, 3) := by decide +kernel
theorem dX6_element_21 : decode cX6_element 21 = .ok (.ifCond .ne 5, 3) := by decide +kernel
theorem dX6_element_24 : decode cX6_element 24 = .ok (.lconst 0, 1) := by decide +kernel
theorem dX6_element_25 : decode cX6_element 25 = .ok (.lreturn, 1) := by decide +kernel
theorem dX6_element_26 : decode cX6_element 26 = .ok (.aload_n 0, 1) := by decide +kernel
theorem dX6_element_27 : decode cX6_element 27 = .ok (.getfield 29, 3) := by decide +kernel
theorem dX6_element_30 : decode cX6_element 30 = .ok (.iload_n 1, 1) := by decide +kernel
theorem dX6_element_31 : decode cX6_element 31 = .ok (.iload_n 2, 1) := by decide +kernel
theorem dX6_element_32 : decode cX6_element 32 = .ok (.invokevirtual 89, 3) := by decide +kernel
theorem dX6_element_35 : decode cX6_element 35 = .ok (.lreturn, 1) := by decide +kernel
theorem dX6_show_0 : decode cX6_show 0 = .ok (.iload_n 1, 1) := by decide +kernel
theorem dX6_show_1 : decode cX6_show 1 = .ok (.invokestatic 55, 3) := by decide +kernel
theorem dX6_show_4 : decode cX6_show 4 = .ok (.ifCond .ne 9, 3) := by decide +kernel
theorem dX6_show_7 : decode cX6_show 7 = .ok (.aload_n 0, 1) := by decide +kernel
theorem dX6_show_8 : decode cX6_show 8 = .ok (.iconst (-1), 1) := by decide +kernel
theorem dX6_show_9 : decode cX6_show 9 = .ok (.invokevirtual 59, 3) := by decide +kernel
theorem dX6_show_12 : decode cX6_show 12 = .ok (.ireturn, 1) := by decide +kernel
theorem dX6_show_13 : decode cX6_show 13 = .ok (.iload_n 2, 1) := by decide +kernel
theorem dX6_show_14 : decode cX6_show 14 = .ok (.iconst (-1), 1) := by decide +kernel
theorem dX6_show_15 : decode cX6_show 15 = .ok (.if_icmp .eq 20, 3) := by decide +kernel
theorem dX6_show_18 : decode cX6_show 18 = .ok (.aload_n 0, 1) := by decide +kernel
theorem dX6_show_19 : decode cX6_show 19 = .ok (.getfield 10, 3) := by decide +kernel
theorem dX6_show_22 : decode cX6_show 22 = .ok (.iload_n 2, 1) := by decide +kernel
theorem dX6_show_23 : decode cX6_show 23 = .ok (.invokevirtual 93, 3) := by decide +kernel
theorem dX6_show_26 : decode cX6_show 26 = .ok (.ifCond .ne 9, 3) := by decide +kernel
theorem dX6_show_29 : decode cX6_show 29 = .ok (.aload_n 0, 1) := by decide +kernel
theorem dX6_show_30 : decode cX6_show 30 = .ok (.iconst (-1), 1) := by decide +kernel
theorem dX6_show_31 : decode cX6_show 31 = .ok (.invokevirtual 59, 3) := by decide +kernel
theorem dX6_show_34 : decode cX6_show 34 = .ok (.ireturn, 1) := by decide +kernel
theorem dX6_show_35 : decode cX6_show 35 = .ok (.aload_n 0, 1) := by decide +kernel
theorem dX6_show_36 : decode cX6_show 36 = .ok (.getfield 29, 3) := by decide +kernel
theorem dX6_show_39 : decode cX6_show 39 = .ok (.iload_n 1, 1) := by decide +kernel
theorem dX6_show_40 : decode cX6_show 40 = .ok (.iload_n 2, 1) := by decide +kernel
theorem dX6_show_41 : decode cX6_show 41 = .ok (.invokevirtual 96, 3) := by decide +kernel
theorem dX6_show_44 : decode cX6_show 44 = .ok (.iload_n 2, 1) := by decide +kernel
theorem dX6_show_45 : decode cX6_show 45 = .ok (.iconst (-1), 1) := by decide +kernel
theorem dX6_show_46 : decode cX6_show 46 = .ok (.if_icmp .ne 7, 3) := by decide +kernel
theorem dX6_show_49 : decode cX6_show 49 = .ok (.iconst 0, 1) := by decide +kernel
theorem dX6_show_50 : decode cX6_show 50 = .ok (.goto 4, 3) := by decide +kernel
theorem dX6_show_53 : decode cX6_show 53 = .ok (.iconst 1, 1) := by decide +kernel
theorem dX6_show_54 : decode cX6_show 54 = .ok (.ireturn, 1) := by decide +kernel
theorem dX6_holds_0 : decode cX6_holds 0 = .ok (.iload_n 1, 1) := by decide +kernel
theorem dX6_holds_1 : decode cX6_holds 1 = .ok (.invokestatic 55, 3) := by decide +kernel
theorem dX6_holds_4 : decode cX6_holds 4 = .ok (.ifCond .eq 14, 3) := by decide +kernel
theorem dX6_holds_7 : decode cX6_holds 7 = .ok (.aload_n 0, 1) := by decide +kernel
theorem dX6_holds_8 : decode cX6_holds 8 = .ok (.getfield 29, 3) := by decide +kernel
theorem dX6_holds_11 : decode cX6_holds 11 = .ok (.iload_n 1, 1) := by decide +kernel
theorem dX6_holds_12 : decode cX6_holds 12 = .ok (.invokevirtual 100, 3) := by decide +kernel
theorem dX6_holds_15 : decode cX6_holds 15 = .ok (.goto 4, 3) := by decide +kernel
theorem dX6_holds_18 : decode cX6_holds 18 = .ok (.iconst (-1), 1) := by decide +kernel
theorem dX6_holds_19 : decode cX6_holds 19 = .ok (.ireturn, 1) := by decide +kernel
theorem dX6_says_0 : decode cX6_says 0 = .ok (.iload_n 1, 1) := by decide +kernel
theorem dX6_says_1 : decode cX6_says 1 = .ok (.invokestatic 55, 3) := by decide +kernel
theorem dX6_says_4 : decode cX6_says 4 = .ok (.ifCond .eq 10, 3) := by decide +kernel
theorem dX6_says_7 : decode cX6_says 7 = .ok (.iload_n 2, 1) := by decide +kernel
theorem dX6_says_8 : decode cX6_says 8 = .ok (.invokestatic 103, 3) := by decide +kernel
theorem dX6_says_11 : decode cX6_says 11 = .ok (.ifCond .ne 9, 3) := by decide +kernel
theorem dX6_says_14 : decode cX6_says 14 = .ok (.aload_n 0, 1) := by decide +kernel
theorem dX6_says_15 : decode cX6_says 15 = .ok (.iconst (-1), 1) := by decide +kernel
theorem dX6_says_16 : decode cX6_says 16 = .ok (.invokevirtual 59, 3) := by decide +kernel
theorem dX6_says_19 : decode cX6_says 19 = .ok (.ireturn, 1) := by decide +kernel
theorem dX6_says_20 : decode cX6_says 20 = .ok (.aload_n 0, 1) := by decide +kernel
theorem dX6_says_21 : decode cX6_says 21 = .ok (.getfield 29, 3) := by decide +kernel
theorem dX6_says_24 : decode cX6_says 24 = .ok (.iload_n 1, 1) := by decide +kernel
theorem dX6_says_25 : decode cX6_says 25 = .ok (.invokevirtual 100, 3) := by decide +kernel
theorem dX6_says_28 : decode cX6_says 28 = .ok (.istore_n 3, 1) := by decide +kernel
theorem dX6_says_29 : decode cX6_says 29 = .ok (.iload_n 3, 1) := by decide +kernel
theorem dX6_says_30 : decode cX6_says 30 = .ok (.iconst (-1), 1) := by decide +kernel
theorem dX6_says_31 : decode cX6_says 31 = .ok (.if_icmp .ne 10, 3) := by decide +kernel
theorem dX6_says_34 : decode cX6_says 34 = .ok (.aload_n 0, 1) := by decide +kernel
theorem dX6_says_35 : decode cX6_says 35 = .ok (.bipush (-3), 2) := by decide +kernel
theorem dX6_says_37 : decode cX6_says 37 = .ok (.invokevirtual 59, 3) := by decide +kernel
theorem dX6_says_40 : decode cX6_says 40 = .ok (.ireturn, 1) := by decide +kernel
theorem dX6_says_41 : decode cX6_says 41 = .ok (.aload_n 0, 1) := by decide +kernel
theorem dX6_says_42 : decode cX6_says 42 = .ok (.getfield 10, 3) := by decide +kernel
theorem dX6_says_45 : decode cX6_says 45 = .ok (.iload_n 3, 1) := by decide +kernel
theorem dX6_says_46 : decode cX6_says 46 = .ok (.invokevirtual 93, 3) := by decide +kernel
theorem dX6_says_49 : decode cX6_says 49 = .ok (.ifCond .eq 18, 3) := by decide +kernel
theorem dX6_says_52 : decode cX6_says 52 = .ok (.aload_n 0, 1) := by decide +kernel
theorem dX6_says_53 : decode cX6_says 53 = .ok (.getfield 10, 3) := by decide +kernel
theorem dX6_says_56 : decode cX6_says 56 = .ok (.iload_n 3, 1) := by decide +kernel
theorem dX6_says_57 : decode cX6_says 57 = .ok (.invokevirtual 106, 3) := by decide +kernel
theorem dX6_says_60 : decode cX6_says 60 = .ok (.iload_n 2, 1) := by decide +kernel
theorem dX6_says_61 : decode cX6_says 61 = .ok (.invokestatic 109, 3) := by decide +kernel
theorem dX6_says_64 : decode cX6_says 64 = .ok (.ifCond .ne 10, 3) := by decide +kernel
theorem dX6_says_67 : decode cX6_says 67 = .ok (.aload_n 0, 1) := by decide +kernel
theorem dX6_says_68 : decode cX6_says 68 = .ok (.bipush (-2), 2) := by decide +kernel
theorem dX6_says_70 : decode cX6_says 70 = .ok (.invokevirtual 59, 3) := by decide +kernel
theorem dX6_says_73 : decode cX6_says 73 = .ok (.ireturn, 1) := by decide +kernel
theorem dX6_says_74 : decode cX6_says 74 = .ok (.iload_n 2, 1) := by decide +kernel
theorem dX6_says_75 : decode cX6_says 75 = .ok (.lookupswitch 58 #[(0, 33), (4, 45), (6, 45)], 33) := by decide +kernel
theorem dX6_says_108 : decode cX6_says 108 = .ok (.aload_n 0, 1) := by decide +kernel
theorem dX6_says_109 : decode cX6_says 109 = .ok (.getfield 10, 3) := by decide +kernel
theorem dX6_says_112 : decode cX6_says 112 = .ok (.iload_n 3, 1) := by decide +kernel
theorem dX6_says_113 : decode cX6_says 113 = .ok (.sipush 1023, 3) := by decide +kernel
theorem dX6_says_116 : decode cX6_says 116 = .ok (.invokevirtual 113, 3) := by decide +kernel
theorem dX6_says_119 : decode cX6_says 119 = .ok (.ireturn, 1) := by decide +kernel
theorem dX6_says_120 : decode cX6_says 120 = .ok (.aload_n 0, 1) := by decide +kernel
theorem dX6_says_121 : decode cX6_says 121 = .ok (.getfield 10, 3) := by decide +kernel
theorem dX6_says_124 : decode cX6_says 124 = .ok (.iload_n 3, 1) := by decide +kernel
theorem dX6_says_125 : decode cX6_says 125 = .ok (.iconst 0, 1) := by decide +kernel
theorem dX6_says_126 : decode cX6_says 126 = .ok (.iconst 0, 1) := by decide +kernel
theorem dX6_says_127 : decode cX6_says 127 = .ok (.bipush 100, 2) := by decide +kernel
theorem dX6_says_129 : decode cX6_says 129 = .ok (.invokevirtual 116, 3) := by decide +kernel
theorem dX6_says_132 : decode cX6_says 132 = .ok (.ireturn, 1) := by decide +kernel
theorem dX6_says_133 : decode cX6_says 133 = .ok (.aload_n 0, 1) := by decide +kernel
theorem dX6_says_134 : decode cX6_says 134 = .ok (.getfield 10, 3) := by decide +kernel
theorem dX6_says_137 : decode cX6_says 137 = .ok (.iload_n 3, 1) := by decide +kernel
theorem dX6_says_138 : decode cX6_says 138 = .ok (.iconst 1, 1) := by decide +kernel
theorem dX6_says_139 : decode cX6_says 139 = .ok (.iconst 5, 1) := by decide +kernel
theorem dX6_says_140 : decode cX6_says 140 = .ok (.bipush 100, 2) := by decide +kernel
theorem dX6_says_142 : decode cX6_says 142 = .ok (.invokevirtual 116, 3) := by decide +kernel
theorem dX6_says_145 : decode cX6_says 145 = .ok (.ireturn, 1) := by decide +kernel
theorem dX6_question_0 : decode cX6_question 0 = .ok (.iload_n 1, 1) := by decide +kernel
theorem dX6_question_1 : decode cX6_question 1 = .ok (.invokestatic 103, 3) := by decide +kernel
theorem dX6_question_4 : decode cX6_question 4 = .ok (.ifCond .ne 9, 3) := by decide +kernel
theorem dX6_question_7 : decode cX6_question 7 = .ok (.aload_n 0, 1) := by decide +kernel
theorem dX6_question_8 : decode cX6_question 8 = .ok (.iconst (-1), 1) := by decide +kernel
theorem dX6_question_9 : decode cX6_question 9 = .ok (.invokevirtual 59, 3) := by decide +kernel
theorem dX6_question_12 : decode cX6_question 12 = .ok (.ireturn, 1) := by decide +kernel
theorem dX6_question_13 : decode cX6_question 13 = .ok (.iload_n 2, 1) := by decide +kernel
theorem dX6_question_14 : decode cX6_question 14 = .ok (.iconst 0, 1) := by decide +kernel
theorem dX6_question_15 : decode cX6_question 15 = .ok (.bipush 9, 2) := by decide +kernel
theorem dX6_question_17 : decode cX6_question 17 = .ok (.invokestatic 63, 3) := by decide +kernel
theorem dX6_question_20 : decode cX6_question 20 = .ok (.ifCond .ne 10, 3) := by decide +kernel
theorem dX6_question_23 : decode cX6_question 23 = .ok (.aload_n 0, 1) := by decide +kernel
theorem dX6_question_24 : decode cX6_question 24 = .ok (.bipush (-6), 2) := by decide +kernel
theorem dX6_question_26 : decode cX6_question 26 = .ok (.invokevirtual 59, 3) := by decide +kernel
theorem dX6_question_29 : decode cX6_question 29 = .ok (.ireturn, 1) := by decide +kernel
theorem dX6_question_30 : decode cX6_question 30 = .ok (.aload_n 0, 1) := by decide +kernel
theorem dX6_question_31 : decode cX6_question 31 = .ok (.getfield 10, 3) := by decide +kernel
theorem dX6_question_34 : decode cX6_question 34 = .ok (.invokevirtual 120, 3) := by decide +kernel
theorem dX6_question_37 : decode cX6_question 37 = .ok (.ifCond .ne 10, 3) := by decide +kernel
theorem dX6_question_40 : decode cX6_question 40 = .ok (.aload_n 0, 1) := by decide +kernel
theorem dX6_question_41 : decode cX6_question 41 = .ok (.bipush (-7), 2) := by decide +kernel
theorem dX6_question_43 : decode cX6_question 43 = .ok (.invokevirtual 59, 3) := by decide +kernel
theorem dX6_question_46 : decode cX6_question 46 = .ok (.ireturn, 1) := by decide +kernel
theorem dX6_question_47 : decode cX6_question 47 = .ok (.aload_n 0, 1) := by decide +kernel
theorem dX6_question_48 : decode cX6_question 48 = .ok (.getfield 10, 3) := by decide +kernel
theorem dX6_question_51 : decode cX6_question 51 = .ok (.iload_n 1, 1) := by decide +kernel
theorem dX6_question_52 : decode cX6_question 52 = .ok (.iload_n 2, 1) := by decide +kernel
theorem dX6_question_53 : decode cX6_question 53 = .ok (.invokevirtual 124, 3) := by decide +kernel
theorem dX6_question_56 : decode cX6_question 56 = .ok (.ireturn, 1) := by decide +kernel
theorem dX6_group_0 : decode cX6_group 0 = .ok (.iload_n 1, 1) := by decide +kernel
theorem dX6_group_1 : decode cX6_group 1 = .ok (.iconst 1, 1) := by decide +kernel
theorem dX6_group_2 : decode cX6_group 2 = .ok (.sipush 999, 3) := by decide +kernel
theorem dX6_group_5 : decode cX6_group 5 = .ok (.invokestatic 63, 3) := by decide +kernel
theorem dX6_group_8 : decode cX6_group 8 = .ok (.ifCond .eq 48, 3) := by decide +kernel
theorem dX6_group_11 : decode cX6_group 11 = .ok (.iload_n 2, 1) := by decide +kernel
theorem dX6_group_12 : decode cX6_group 12 = .ok (.iconst 0, 1) := by decide +kernel
theorem dX6_group_13 : decode cX6_group 13 = .ok (.iconst 2, 1) := by decide +kernel
theorem dX6_group_14 : decode cX6_group 14 = .ok (.invokestatic 63, 3) := by decide +kernel
theorem dX6_group_17 : decode cX6_group 17 = .ok (.ifCond .eq 39, 3) := by decide +kernel
theorem dX6_group_20 : decode cX6_group 20 = .ok (.iload_n 3, 1) := by decide +kernel
theorem dX6_group_21 : decode cX6_group 21 = .ok (.iconst 0, 1) := by decide +kernel
theorem dX6_group_22 : decode cX6_group 22 = .ok (.bipush 10, 2) := by decide +kernel
theorem dX6_group_24 : decode cX6_group 24 = .ok (.invokestatic 63, 3) := by decide +kernel
theorem dX6_group_27 : decode cX6_group 27 = .ok (.ifCond .eq 29, 3) := by decide +kernel
theorem dX6_group_30 : decode cX6_group 30 = .ok (.iload 4, 2) := by decide +kernel
theorem dX6_group_32 : decode cX6_group 32 = .ok (.iconst 0, 1) := by decide +kernel
theorem dX6_group_33 : decode cX6_group 33 = .ok (.bipush 10, 2) := by decide +kernel
theorem dX6_group_35 : decode cX6_group 35 = .ok (.invokestatic 63, 3) := by decide +kernel
theorem dX6_group_38 : decode cX6_group 38 = .ok (.ifCond .eq 18, 3) := by decide +kernel
theorem dX6_group_41 : decode cX6_group 41 = .ok (.iload 5, 2) := by decide +kernel
theorem dX6_group_43 : decode cX6_group 43 = .ok (.iconst 0, 1) := by decide +kernel
theorem dX6_group_44 : decode cX6_group 44 = .ok (.bipush 10, 2) := by decide +kernel
theorem dX6_group_46 : decode cX6_group 46 = .ok (.invokestatic 63, 3) := by decide +kernel
theorem dX6_group_49 : decode cX6_group 49 = .ok (.ifCond .eq 7, 3) := by decide +kernel
theorem dX6_group_52 : decode cX6_group 52 = .ok (.iconst 1, 1) := by decide +kernel
theorem dX6_group_53 : decode cX6_group 53 = .ok (.goto 4, 3) := by decide +kernel
theorem dX6_group_56 : decode cX6_group 56 = .ok (.iconst 0, 1) := by decide +kernel
theorem dX6_group_57 : decode cX6_group 57 = .ok (.istore 6, 2) := by decide +kernel
theorem dX6_group_59 : decode cX6_group 59 = .ok (.iload 6, 2) := by decide +kernel
theorem dX6_group_61 : decode cX6_group 61 = .ok (.ifCond .ne 10, 3) := by decide +kernel
theorem dX6_group_64 : decode cX6_group 64 = .ok (.aload_n 0, 1) := by decide +kernel
theorem dX6_group_65 : decode cX6_group 65 = .ok (.bipush (-6), 2) := by decide +kernel
theorem dX6_group_67 : decode cX6_group 67 = .ok (.invokevirtual 59, 3) := by decide +kernel
theorem dX6_group_70 : decode cX6_group 70 = .ok (.ireturn, 1) := by decide +kernel
theorem dX6_group_71 : decode cX6_group 71 = .ok (.aload_n 0, 1) := by decide +kernel
theorem dX6_group_72 : decode cX6_group 72 = .ok (.getfield 10, 3) := by decide +kernel
theorem dX6_group_75 : decode cX6_group 75 = .ok (.invokevirtual 127, 3) := by decide +kernel
theorem dX6_group_78 : decode cX6_group 78 = .ok (.ifCond .ne 10, 3) := by decide +kernel
theorem dX6_group_81 : decode cX6_group 81 = .ok (.aload_n 0, 1) := by decide +kernel
theorem dX6_group_82 : decode cX6_group 82 = .ok (.bipush (-7), 2) := by decide +kernel
theorem dX6_group_84 : decode cX6_group 84 = .ok (.invokevirtual 59, 3) := by decide +kernel
theorem dX6_group_87 : decode cX6_group 87 = .ok (.ireturn, 1) := by decide +kernel
theorem dX6_group_88 : decode cX6_group 88 = .ok (.aload_n 0, 1) := by decide +kernel
theorem dX6_group_89 : decode cX6_group 89 = .ok (.getfield 10, 3) := by decide +kernel
theorem dX6_group_92 : decode cX6_group 92 = .ok (.iload_n 1, 1) := by decide +kernel
theorem dX6_group_93 : decode cX6_group 93 = .ok (.iload_n 2, 1) := by decide +kernel
theorem dX6_group_94 : decode cX6_group 94 = .ok (.iload_n 3, 1) := by decide +kernel
theorem dX6_group_95 : decode cX6_group 95 = .ok (.iload 4, 2) := by decide +kernel
theorem dX6_group_97 : decode cX6_group 97 = .ok (.iload 5, 2) := by decide +kernel
theorem dX6_group_99 : decode cX6_group 99 = .ok (.invokevirtual 130, 3) := by decide +kernel
theorem dX6_group_102 : decode cX6_group 102 = .ok (.ireturn, 1) := by decide +kernel
theorem dX6_questionOf_0 : decode cX6_questionOf 0 = .ok (.aload_n 0, 1) := by decide +kernel
theorem dX6_questionOf_1 : decode cX6_questionOf 1 = .ok (.getfield 10, 3) := by decide +kernel
theorem dX6_questionOf_4 : decode cX6_questionOf 4 = .ok (.iload_n 1, 1) := by decide +kernel
theorem dX6_questionOf_5 : decode cX6_questionOf 5 = .ok (.invokevirtual 93, 3) := by decide +kernel
theorem dX6_questionOf_8 : decode cX6_questionOf 8 = .ok (.ifCond .ne 10, 3) := by decide +kernel
theorem dX6_questionOf_11 : decode cX6_questionOf 11 = .ok (.aload_n 0, 1) := by decide +kernel
theorem dX6_questionOf_12 : decode cX6_questionOf 12 = .ok (.bipush (-5), 2) := by decide +kernel
theorem dX6_questionOf_14 : decode cX6_questionOf 14 = .ok (.invokevirtual 134, 3) := by decide +kernel
theorem dX6_questionOf_17 : decode cX6_questionOf 17 = .ok (.ireturn, 1) := by decide +kernel
theorem dX6_questionOf_18 : decode cX6_questionOf 18 = .ok (.iload_n 2, 1) := by decide +kernel
theorem dX6_questionOf_19 : decode cX6_questionOf 19 = .ok (.tableswitch 84 0 4 #[33, 42, 51, 63, 75], 33) := by decide +kernel
theorem dX6_questionOf_52 : decode cX6_questionOf 52 = .ok (.aload_n 0, 1) := by decide +kernel
theorem dX6_questionOf_53 : decode cX6_questionOf 53 = .ok (.getfield 10, 3) := by decide +kernel
theorem dX6_questionOf_56 : decode cX6_questionOf 56 = .ok (.iload_n 1, 1) := by decide +kernel
theorem dX6_questionOf_57 : decode cX6_questionOf 57 = .ok (.invokevirtual 106, 3) := by decide +kernel
theorem dX6_questionOf_60 : decode cX6_questionOf 60 = .ok (.ireturn, 1) := by decide +kernel
theorem dX6_questionOf_61 : decode cX6_questionOf 61 = .ok (.aload_n 0, 1) := by decide +kernel
theorem dX6_questionOf_62 : decode cX6_questionOf 62 = .ok (.getfield 10, 3) := by decide +kernel
theorem dX6_questionOf_65 : decode cX6_questionOf 65 = .ok (.iload_n 1, 1) := by decide +kernel
theorem dX6_questionOf_66 : decode cX6_questionOf 66 = .ok (.invokevirtual 137, 3) := by decide +kernel
theorem dX6_questionOf_69 : decode cX6_questionOf 69 = .ok (.ireturn, 1) := by decide +kernel
theorem dX6_questionOf_70 : decode cX6_questionOf 70 = .ok (.aload_n 0, 1) := by decide +kernel
theorem dX6_questionOf_71 : decode cX6_questionOf 71 = .ok (.getfield 10, 3) := by decide +kernel
theorem dX6_questionOf_74 : decode cX6_questionOf 74 = .ok (.iload_n 1, 1) := by decide +kernel
theorem dX6_questionOf_75 : decode cX6_questionOf 75 = .ok (.sipush 1023, 3) := by decide +kernel
theorem dX6_questionOf_78 : decode cX6_questionOf 78 = .ok (.invokevirtual 140, 3) := by decide +kernel
theorem dX6_questionOf_81 : decode cX6_questionOf 81 = .ok (.ireturn, 1) := by decide +kernel
theorem dX6_questionOf_82 : decode cX6_questionOf 82 = .ok (.aload_n 0, 1) := by decide +kernel
theorem dX6_questionOf_83 : decode cX6_questionOf 83 = .ok (.getfield 10, 3) := by decide +kernel
theorem dX6_questionOf_86 : decode cX6_questionOf 86 = .ok (.iload_n 1, 1) := by decide +kernel
theorem dX6_questionOf_87 : decode cX6_questionOf 87 = .ok (.sipush 1023, 3) := by decide +kernel
theorem dX6_questionOf_90 : decode cX6_questionOf 90 = .ok (.invokevirtual 113, 3) := by decide +kernel
theorem dX6_questionOf_93 : decode cX6_questionOf 93 = .ok (.ireturn, 1) := by decide +kernel
theorem dX6_questionOf_94 : decode cX6_questionOf 94 = .ok (.aload_n 0, 1) := by decide +kernel
theorem dX6_questionOf_95 : decode cX6_questionOf 95 = .ok (.getfield 10, 3) := by decide +kernel
theorem dX6_questionOf_98 : decode cX6_questionOf 98 = .ok (.iload_n 1, 1) := by decide +kernel
theorem dX6_questionOf_99 : decode cX6_questionOf 99 = .ok (.invokevirtual 143, 3) := by decide +kernel
theorem dX6_questionOf_102 : decode cX6_questionOf 102 = .ok (.ireturn, 1) := by decide +kernel
theorem dX6_questionOf_103 : decode cX6_questionOf 103 = .ok (.aload_n 0, 1) := by decide +kernel
theorem dX6_questionOf_104 : decode cX6_questionOf 104 = .ok (.bipush (-5), 2) := by decide +kernel
theorem dX6_questionOf_106 : decode cX6_questionOf 106 = .ok (.invokevirtual 134, 3) := by decide +kernel
theorem dX6_questionOf_109 : decode cX6_questionOf 109 = .ok (.ireturn, 1) := by decide +kernel
theorem dX6_groupOf_0 : decode cX6_groupOf 0 = .ok (.aload_n 0, 1) := by decide +kernel
theorem dX6_groupOf_1 : decode cX6_groupOf 1 = .ok (.getfield 10, 3) := by decide +kernel
theorem dX6_groupOf_4 : decode cX6_groupOf 4 = .ok (.iload_n 1, 1) := by decide +kernel
theorem dX6_groupOf_5 : decode cX6_groupOf 5 = .ok (.invokevirtual 146, 3) := by decide +kernel
theorem dX6_groupOf_8 : decode cX6_groupOf 8 = .ok (.ifCond .ne 10, 3) := by decide +kernel
theorem dX6_groupOf_11 : decode cX6_groupOf 11 = .ok (.aload_n 0, 1) := by decide +kernel
theorem dX6_groupOf_12 : decode cX6_groupOf 12 = .ok (.bipush (-5), 2) := by decide +kernel
theorem dX6_groupOf_14 : decode cX6_groupOf 14 = .ok (.invokevirtual 59, 3) := by decide +kernel
theorem dX6_groupOf_17 : decode cX6_groupOf 17 = .ok (.ireturn, 1) := by decide +kernel
theorem dX6_groupOf_18 : decode cX6_groupOf 18 = .ok (.iload_n 2, 1) := by decide +kernel
theorem dX6_groupOf_19 : decode cX6_groupOf 19 = .ok (.tableswitch 78 0 4 #[33, 42, 51, 60, 69], 33) := by decide +kernel
theorem dX6_groupOf_52 : decode cX6_groupOf 52 = .ok (.aload_n 0, 1) := by decide +kernel
theorem dX6_groupOf_53 : decode cX6_groupOf 53 = .ok (.getfield 10, 3) := by decide +kernel
theorem dX6_groupOf_56 : decode cX6_groupOf 56 = .ok (.iload_n 1, 1) := by decide +kernel
theorem dX6_groupOf_57 : decode cX6_groupOf 57 = .ok (.invokevirtual 149, 3) := by decide +kernel
theorem dX6_groupOf_60 : decode cX6_groupOf 60 = .ok (.ireturn, 1) := by decide +kernel
theorem dX6_groupOf_61 : decode cX6_groupOf 61 = .ok (.aload_n 0, 1) := by decide +kernel
theorem dX6_groupOf_62 : decode cX6_groupOf 62 = .ok (.getfield 10, 3) := by decide +kernel
theorem dX6_groupOf_65 : decode cX6_groupOf 65 = .ok (.iload_n 1, 1) := by decide +kernel
theorem dX6_groupOf_66 : decode cX6_groupOf 66 = .ok (.invokevirtual 152, 3) := by decide +kernel
theorem dX6_groupOf_69 : decode cX6_groupOf 69 = .ok (.ireturn, 1) := by decide +kernel
theorem dX6_groupOf_70 : decode cX6_groupOf 70 = .ok (.aload_n 0, 1) := by decide +kernel
theorem dX6_groupOf_71 : decode cX6_groupOf 71 = .ok (.getfield 10, 3) := by decide +kernel
theorem dX6_groupOf_74 : decode cX6_groupOf 74 = .ok (.iload_n 1, 1) := by decide +kernel
theorem dX6_groupOf_75 : decode cX6_groupOf 75 = .ok (.invokevirtual 155, 3) := by decide +kernel
theorem dX6_groupOf_78 : decode cX6_groupOf 78 = .ok (.ireturn, 1) := by decide +kernel
theorem dX6_groupOf_79 : decode cX6_groupOf 79 = .ok (.aload_n 0, 1) := by decide +kernel
theorem dX6_groupOf_80 : decode cX6_groupOf 80 = .ok (.getfield 10, 3) := by decide +kernel
theorem dX6_groupOf_83 : decode cX6_groupOf 83 = .ok (.iload_n 1, 1) := by decide +kernel
theorem dX6_groupOf_84 : decode cX6_groupOf 84 = .ok (.invokevirtual 158, 3) := by decide +kernel
theorem dX6_groupOf_87 : decode cX6_groupOf 87 = .ok (.ireturn, 1) := by decide +kernel
theorem dX6_groupOf_88 : decode cX6_groupOf 88 = .ok (.aload_n 0, 1) := by decide +kernel
theorem dX6_groupOf_89 : decode cX6_groupOf 89 = .ok (.getfield 10, 3) := by decide +kernel
theorem dX6_groupOf_92 : decode cX6_groupOf 92 = .ok (.iload_n 1, 1) := by decide +kernel
theorem dX6_groupOf_93 : decode cX6_groupOf 93 = .ok (.invokevirtual 161, 3) := by decide +kernel
theorem dX6_groupOf_96 : decode cX6_groupOf 96 = .ok (.ireturn, 1) := by decide +kernel
theorem dX6_groupOf_97 : decode cX6_groupOf 97 = .ok (.aload_n 0, 1) := by decide +kernel
theorem dX6_groupOf_98 : decode cX6_groupOf 98 = .ok (.bipush (-5), 2) := by decide +kernel
theorem dX6_groupOf_100 : decode cX6_groupOf 100 = .ok (.invokevirtual 59, 3) := by decide +kernel
theorem dX6_groupOf_103 : decode cX6_groupOf 103 = .ok (.ireturn, 1) := by decide +kernel
theorem dX6_bears_0 : decode cX6_bears 0 = .ok (.aload_n 0, 1) := by decide +kernel
theorem dX6_bears_1 : decode cX6_bears 1 = .ok (.getfield 10, 3) := by decide +kernel
theorem dX6_bears_4 : decode cX6_bears 4 = .ok (.iload_n 1, 1) := by decide +kernel
theorem dX6_bears_5 : decode cX6_bears 5 = .ok (.invokevirtual 93, 3) := by decide +kernel
theorem dX6_bears_8 : decode cX6_bears 8 = .ok (.ifCond .eq 14, 3) := by decide +kernel
theorem dX6_bears_11 : decode cX6_bears 11 = .ok (.aload_n 0, 1) := by decide +kernel
theorem dX6_bears_12 : decode cX6_bears 12 = .ok (.getfield 10, 3) := by decide +kernel
theorem dX6_bears_15 : decode cX6_bears 15 = .ok (.iload_n 2, 1) := by decide +kernel
theorem dX6_bears_16 : decode cX6_bears 16 = .ok (.invokevirtual 93, 3) := by decide +kernel
theorem dX6_bears_19 : decode cX6_bears 19 = .ok (.ifCond .ne 9, 3) := by decide +kernel
theorem dX6_bears_22 : decode cX6_bears 22 = .ok (.aload_n 0, 1) := by decide +kernel
theorem dX6_bears_23 : decode cX6_bears 23 = .ok (.iconst (-1), 1) := by decide +kernel
theorem dX6_bears_24 : decode cX6_bears 24 = .ok (.invokevirtual 134, 3) := by decide +kernel
theorem dX6_bears_27 : decode cX6_bears 27 = .ok (.ireturn, 1) := by decide +kernel
theorem dX6_bears_28 : decode cX6_bears 28 = .ok (.iload_n 1, 1) := by decide +kernel
theorem dX6_bears_29 : decode cX6_bears 29 = .ok (.iload_n 2, 1) := by decide +kernel
theorem dX6_bears_30 : decode cX6_bears 30 = .ok (.if_icmp .eq 14, 3) := by decide +kernel
theorem dX6_bears_33 : decode cX6_bears 33 = .ok (.iload_n 3, 1) := by decide +kernel
theorem dX6_bears_34 : decode cX6_bears 34 = .ok (.bipush (-9), 2) := by decide +kernel
theorem dX6_bears_36 : decode cX6_bears 36 = .ok (.bipush 9, 2) := by decide +kernel
theorem dX6_bears_38 : decode cX6_bears 38 = .ok (.invokestatic 63, 3) := by decide +kernel
theorem dX6_bears_41 : decode cX6_bears 41 = .ok (.ifCond .ne 10, 3) := by decide +kernel
theorem dX6_bears_44 : decode cX6_bears 44 = .ok (.aload_n 0, 1) := by decide +kernel
theorem dX6_bears_45 : decode cX6_bears 45 = .ok (.bipush (-6), 2) := by decide +kernel
theorem dX6_bears_47 : decode cX6_bears 47 = .ok (.invokevirtual 134, 3) := by decide +kernel
theorem dX6_bears_50 : decode cX6_bears 50 = .ok (.ireturn, 1) := by decide +kernel
theorem dX6_bears_51 : decode cX6_bears 51 = .ok (.aload_n 0, 1) := by decide +kernel
theorem dX6_bears_52 : decode cX6_bears 52 = .ok (.getfield 10, 3) := by decide +kernel
theorem dX6_bears_55 : decode cX6_bears 55 = .ok (.iload_n 1, 1) := by decide +kernel
theorem dX6_bears_56 : decode cX6_bears 56 = .ok (.iload_n 2, 1) := by decide +kernel
theorem dX6_bears_57 : decode cX6_bears 57 = .ok (.invokevirtual 164, 3) := by decide +kernel
theorem dX6_bears_60 : decode cX6_bears 60 = .ok (.istore 4, 2) := by decide +kernel
theorem dX6_bears_62 : decode cX6_bears 62 = .ok (.aload_n 0, 1) := by decide +kernel
theorem dX6_bears_63 : decode cX6_bears 63 = .ok (.getfield 10, 3) := by decide +kernel
theorem dX6_bears_66 : decode cX6_bears 66 = .ok (.iload_n 1, 1) := by decide +kernel
theorem dX6_bears_67 : decode cX6_bears 67 = .ok (.iload_n 2, 1) := by decide +kernel
theorem dX6_bears_68 : decode cX6_bears 68 = .ok (.iload_n 3, 1) := by decide +kernel
theorem dX6_bears_69 : decode cX6_bears 69 = .ok (.invokevirtual 167, 3) := by decide +kernel
theorem dX6_bears_72 : decode cX6_bears 72 = .ok (.iload 4, 2) := by decide +kernel
theorem dX6_bears_74 : decode cX6_bears 74 = .ok (.ireturn, 1) := by decide +kernel
theorem dX6_ask_0 : decode cX6_ask 0 = .ok (.iload_n 1, 1) := by decide +kernel
theorem dX6_ask_1 : decode cX6_ask 1 = .ok (.ifCond .ne 32, 3) := by decide +kernel
theorem dX6_ask_4 : decode cX6_ask 4 = .ok (.iload_n 2, 1) := by decide +kernel
theorem dX6_ask_5 : decode cX6_ask 5 = .ok (.iconst 0, 1) := by decide +kernel
theorem dX6_ask_6 : decode cX6_ask 6 = .ok (.bipush 99, 2) := by decide +kernel
theorem dX6_ask_8 : decode cX6_ask 8 = .ok (.invokestatic 63, 3) := by decide +kernel
theorem dX6_ask_11 : decode cX6_ask 11 = .ok (.ifCond .eq 22, 3) := by decide +kernel
theorem dX6_ask_14 : decode cX6_ask 14 = .ok (.aload_n 0, 1) := by decide +kernel
theorem dX6_ask_15 : decode cX6_ask 15 = .ok (.getfield 10, 3) := by decide +kernel
theorem dX6_ask_18 : decode cX6_ask 18 = .ok (.getfield 170, 3) := by decide +kernel
theorem dX6_ask_21 : decode cX6_ask 21 = .ok (.istore_n 3, 1) := by decide +kernel
theorem dX6_ask_22 : decode cX6_ask 22 = .ok (.aload_n 0, 1) := by decide +kernel
theorem dX6_ask_23 : decode cX6_ask 23 = .ok (.getfield 10, 3) := by decide +kernel
theorem dX6_ask_26 : decode cX6_ask 26 = .ok (.iload_n 2, 1) := by decide +kernel
theorem dX6_ask_27 : decode cX6_ask 27 = .ok (.putfield 170, 3) := by decide +kernel
theorem dX6_ask_30 : decode cX6_ask 30 = .ok (.goto 44, 3) := by decide +kernel
theorem dX6_ask_33 : decode cX6_ask 33 = .ok (.iload_n 1, 1) := by decide +kernel
theorem dX6_ask_34 : decode cX6_ask 34 = .ok (.iconst 1, 1) := by decide +kernel
theorem dX6_ask_35 : decode cX6_ask 35 = .ok (.if_icmp .ne 32, 3) := by decide +kernel
theorem dX6_ask_38 : decode cX6_ask 38 = .ok (.iload_n 2, 1) := by decide +kernel
theorem dX6_ask_39 : decode cX6_ask 39 = .ok (.iconst 0, 1) := by decide +kernel
theorem dX6_ask_40 : decode cX6_ask 40 = .ok (.bipush 7, 2) := by decide +kernel
theorem dX6_ask_42 : decode cX6_ask 42 = .ok (.invokestatic 63, 3) := by decide +kernel
theorem dX6_ask_45 : decode cX6_ask 45 = .ok (.ifCond .eq 22, 3) := by decide +kernel
theorem dX6_ask_48 : decode cX6_ask 48 = .ok (.aload_n 0, 1) := by decide +kernel
theorem dX6_ask_49 : decode cX6_ask 49 = .ok (.getfield 10, 3) := by decide +kernel
theorem dX6_ask_52 : decode cX6_ask 52 = .ok (.getfield 173, 3) := by decide +kernel
theorem dX6_ask_55 : decode cX6_ask 55 = .ok (.istore_n 3, 1) := by decide +kernel
theorem dX6_ask_56 : decode cX6_ask 56 = .ok (.aload_n 0, 1) := by decide +kernel
theorem dX6_ask_57 : decode cX6_ask 57 = .ok (.getfield 10, 3) := by decide +kernel
theorem dX6_ask_60 : decode cX6_ask 60 = .ok (.iload_n 2, 1) := by decide +kernel
theorem dX6_ask_61 : decode cX6_ask 61 = .ok (.putfield 173, 3) := by decide +kernel
theorem dX6_ask_64 : decode cX6_ask 64 = .ok (.goto 10, 3) := by decide +kernel
theorem dX6_ask_67 : decode cX6_ask 67 = .ok (.aload_n 0, 1) := by decide +kernel
theorem dX6_ask_68 : decode cX6_ask 68 = .ok (.bipush (-6), 2) := by decide +kernel
theorem dX6_ask_70 : decode cX6_ask 70 = .ok (.invokevirtual 59, 3) := by decide +kernel
theorem dX6_ask_73 : decode cX6_ask 73 = .ok (.istore_n 3, 1) := by decide +kernel
theorem dX6_ask_74 : decode cX6_ask 74 = .ok (.iload_n 3, 1) := by decide +kernel
theorem dX6_ask_75 : decode cX6_ask 75 = .ok (.ireturn, 1) := by decide +kernel
theorem dX6_town_0 : decode cX6_town 0 = .ok (.aload_n 0, 1) := by decide +kernel
theorem dX6_town_1 : decode cX6_town 1 = .ok (.getfield 29, 3) := by decide +kernel
theorem dX6_town_4 : decode cX6_town 4 = .ok (.iload_n 1, 1) := by decide +kernel
theorem dX6_town_5 : decode cX6_town 5 = .ok (.invokevirtual 71, 3) := by decide +kernel
theorem dX6_town_8 : decode cX6_town 8 = .ok (.istore_n 2, 1) := by decide +kernel
theorem dX6_town_9 : decode cX6_town 9 = .ok (.iload_n 2, 1) := by decide +kernel
theorem dX6_town_10 : decode cX6_town 10 = .ok (.ifCond .eq 9, 3) := by decide +kernel
theorem dX6_town_13 : decode cX6_town 13 = .ok (.aload_n 0, 1) := by decide +kernel
theorem dX6_town_14 : decode cX6_town 14 = .ok (.iload_n 2, 1) := by decide +kernel
theorem dX6_town_15 : decode cX6_town 15 = .ok (.invokevirtual 59, 3) := by decide +kernel
theorem dX6_town_18 : decode cX6_town 18 = .ok (.ireturn, 1) := by decide +kernel
theorem dX6_town_19 : decode cX6_town 19 = .ok (.aload_n 0, 1) := by decide +kernel
theorem dX6_town_20 : decode cX6_town 20 = .ok (.getfield 29, 3) := by decide +kernel
theorem dX6_town_23 : decode cX6_town 23 = .ok (.iload_n 1, 1) := by decide +kernel
theorem dX6_town_24 : decode cX6_town 24 = .ok (.aload_n 0, 1) := by decide +kernel
theorem dX6_town_25 : decode cX6_town 25 = .ok (.getfield 36, 3) := by decide +kernel
theorem dX6_town_28 : decode cX6_town 28 = .ok (.getfield 176, 3) := by decide +kernel
theorem dX6_town_31 : decode cX6_town 31 = .ok (.invokevirtual 179, 3) := by decide +kernel
theorem dX6_town_34 : decode cX6_town 34 = .ok (.aload_n 0, 1) := by decide +kernel
theorem dX6_town_35 : decode cX6_town 35 = .ok (.getfield 36, 3) := by decide +kernel
theorem dX6_town_38 : decode cX6_town 38 = .ok (.aload_n 0, 1) := by decide +kernel
theorem dX6_town_39 : decode cX6_town 39 = .ok (.getfield 29, 3) := by decide +kernel
theorem dX6_town_42 : decode cX6_town 42 = .ok (.iload_n 1, 1) := by decide +kernel
theorem dX6_town_43 : decode cX6_town 43 = .ok (.invokevirtual 183, 3) := by decide +kernel
theorem dX6_town_46 : decode cX6_town 46 = .ok (.aload_n 0, 1) := by decide +kernel
theorem dX6_town_47 : decode cX6_town 47 = .ok (.getfield 10, 3) := by decide +kernel
theorem dX6_town_50 : decode cX6_town 50 = .ok (.invokevirtual 186, 3) := by decide +kernel
theorem dX6_town_53 : decode cX6_town 53 = .ok (.istore_n 3, 1) := by decide +kernel
theorem dX6_town_54 : decode cX6_town 54 = .ok (.aload_n 0, 1) := by decide +kernel
theorem dX6_town_55 : decode cX6_town 55 = .ok (.aload_n 0, 1) := by decide +kernel
theorem dX6_town_56 : decode cX6_town 56 = .ok (.getfield 36, 3) := by decide +kernel
theorem dX6_town_59 : decode cX6_town 59 = .ok (.getfield 190, 3) := by decide +kernel
theorem dX6_town_62 : decode cX6_town 62 = .ok (.putfield 51, 3) := by decide +kernel
theorem dX6_town_65 : decode cX6_town 65 = .ok (.aload_n 0, 1) := by decide +kernel
theorem dX6_town_66 : decode cX6_town 66 = .ok (.getfield 51, 3) := by decide +kernel
theorem dX6_town_69 : decode cX6_town 69 = .ok (.iconst (-1), 1) := by decide +kernel
theorem dX6_town_70 : decode cX6_town 70 = .ok (.if_icmp .eq 10, 3) := by decide +kernel
theorem dX6_town_73 : decode cX6_town 73 = .ok (.aload_n 0, 1) := by decide +kernel
theorem dX6_town_74 : decode cX6_town 74 = .ok (.bipush (-6), 2) := by decide +kernel
theorem dX6_town_76 : decode cX6_town 76 = .ok (.invokevirtual 59, 3) := by decide +kernel
theorem dX6_town_79 : decode cX6_town 79 = .ok (.ireturn, 1) := by decide +kernel
theorem dX6_town_80 : decode cX6_town 80 = .ok (.aload_n 0, 1) := by decide +kernel
theorem dX6_town_81 : decode cX6_town 81 = .ok (.getfield 10, 3) := by decide +kernel
theorem dX6_town_84 : decode cX6_town 84 = .ok (.aload_n 0, 1) := by decide +kernel
theorem dX6_town_85 : decode cX6_town 85 = .ok (.getfield 36, 3) := by decide +kernel
theorem dX6_town_88 : decode cX6_town 88 = .ok (.getfield 193, 3) := by decide +kernel
theorem dX6_town_91 : decode cX6_town 91 = .ok (.invokevirtual 196, 3) := by decide +kernel
theorem dX6_town_94 : decode cX6_town 94 = .ok (.iload_n 3, 1) := by decide +kernel
theorem dX6_town_95 : decode cX6_town 95 = .ok (.ireturn, 1) := by decide +kernel
theorem dX6_fault_0 : decode cX6_fault 0 = .ok (.aload_n 0, 1) := by decide +kernel
theorem dX6_fault_1 : decode cX6_fault 1 = .ok (.getfield 51, 3) := by decide +kernel
theorem dX6_fault_4 : decode cX6_fault 4 = .ok (.ireturn, 1) := by decide +kernel
theorem dX6_yes_0 : decode cX6_yes 0 = .ok (.aload_n 0, 1) := by decide +kernel
theorem dX6_yes_1 : decode cX6_yes 1 = .ok (.getfield 10, 3) := by decide +kernel
theorem dX6_yes_4 : decode cX6_yes 4 = .ok (.iload_n 1, 1) := by decide +kernel
theorem dX6_yes_5 : decode cX6_yes 5 = .ok (.invokevirtual 93, 3) := by decide +kernel
theorem dX6_yes_8 : decode cX6_yes 8 = .ok (.ifCond .eq 14, 3) := by decide +kernel
theorem dX6_yes_11 : decode cX6_yes 11 = .ok (.aload_n 0, 1) := by decide +kernel
theorem dX6_yes_12 : decode cX6_yes 12 = .ok (.getfield 10, 3) := by decide +kernel
theorem dX6_yes_15 : decode cX6_yes 15 = .ok (.iload_n 2, 1) := by decide +kernel
theorem dX6_yes_16 : decode cX6_yes 16 = .ok (.invokevirtual 146, 3) := by decide +kernel
theorem dX6_yes_19 : decode cX6_yes 19 = .ok (.ifCond .ne 9, 3) := by decide +kernel
theorem dX6_yes_22 : decode cX6_yes 22 = .ok (.aload_n 0, 1) := by decide +kernel
theorem dX6_yes_23 : decode cX6_yes 23 = .ok (.iconst (-1), 1) := by decide +kernel
theorem dX6_yes_24 : decode cX6_yes 24 = .ok (.invokevirtual 59, 3) := by decide +kernel
theorem dX6_yes_27 : decode cX6_yes 27 = .ok (.ireturn, 1) := by decide +kernel
theorem dX6_yes_28 : decode cX6_yes 28 = .ok (.iload_n 3, 1) := by decide +kernel
theorem dX6_yes_29 : decode cX6_yes 29 = .ok (.iconst 0, 1) := by decide +kernel
theorem dX6_yes_30 : decode cX6_yes 30 = .ok (.sipush 999, 3) := by decide +kernel
theorem dX6_yes_33 : decode cX6_yes 33 = .ok (.invokestatic 63, 3) := by decide +kernel
theorem dX6_yes_36 : decode cX6_yes 36 = .ok (.ifCond .ne 10, 3) := by decide +kernel
theorem dX6_yes_39 : decode cX6_yes 39 = .ok (.aload_n 0, 1) := by decide +kernel
theorem dX6_yes_40 : decode cX6_yes 40 = .ok (.bipush (-6), 2) := by decide +kernel
theorem dX6_yes_42 : decode cX6_yes 42 = .ok (.invokevirtual 59, 3) := by decide +kernel
theorem dX6_yes_45 : decode cX6_yes 45 = .ok (.ireturn, 1) := by decide +kernel
theorem dX6_yes_46 : decode cX6_yes 46 = .ok (.aload_n 0, 1) := by decide +kernel
theorem dX6_yes_47 : decode cX6_yes 47 = .ok (.getfield 10, 3) := by decide +kernel
theorem dX6_yes_50 : decode cX6_yes 50 = .ok (.iload_n 1, 1) := by decide +kernel
theorem dX6_yes_51 : decode cX6_yes 51 = .ok (.iload_n 2, 1) := by decide +kernel
theorem dX6_yes_52 : decode cX6_yes 52 = .ok (.iload_n 3, 1) := by decide +kernel
theorem dX6_yes_53 : decode cX6_yes 53 = .ok (.invokevirtual 200, 3) := by decide +kernel
theorem dX6_yes_56 : decode cX6_yes 56 = .ok (.ireturn, 1) := by decide +kernel
theorem dX6_answers_0 : decode cX6_answers 0 = .ok (.iload_n 2, 1) := by decide +kernel
theorem dX6_answers_1 : decode cX6_answers 1 = .ok (.iconst 0, 1) := by decide +kernel
theorem dX6_answers_2 : decode cX6_answers 2 = .ok (.iconst 1, 1) := by decide +kernel
theorem dX6_answers_3 : decode cX6_answers 3 = .ok (.invokestatic 63, 3) := by decide +kernel
theorem dX6_answers_6 : decode cX6_answers 6 = .ok (.ifCond .ne 10, 3) := by decide +kernel
theorem dX6_answers_9 : decode cX6_answers 9 = .ok (.aload_n 0, 1) := by decide +kernel
theorem dX6_answers_10 : decode cX6_answers 10 = .ok (.bipush (-5), 2) := by decide +kernel
theorem dX6_answers_12 : decode cX6_answers 12 = .ok (.invokevirtual 59, 3) := by decide +kernel
theorem dX6_answers_15 : decode cX6_answers 15 = .ok (.ireturn, 1) := by decide +kernel
theorem dX6_answers_16 : decode cX6_answers 16 = .ok (.iload_n 1, 1) := by decide +kernel
theorem dX6_answers_17 : decode cX6_answers 17 = .ok (.iconst 0, 1) := by decide +kernel
theorem dX6_answers_18 : decode cX6_answers 18 = .ok (.bipush 9, 2) := by decide +kernel
theorem dX6_answers_20 : decode cX6_answers 20 = .ok (.invokestatic 63, 3) := by decide +kernel
theorem dX6_answers_23 : decode cX6_answers 23 = .ok (.ifCond .ne 10, 3) := by decide +kernel
theorem dX6_answers_26 : decode cX6_answers 26 = .ok (.aload_n 0, 1) := by decide +kernel
theorem dX6_answers_27 : decode cX6_answers 27 = .ok (.bipush (-6), 2) := by decide +kernel
theorem dX6_answers_29 : decode cX6_answers 29 = .ok (.invokevirtual 59, 3) := by decide +kernel
theorem dX6_answers_32 : decode cX6_answers 32 = .ok (.ireturn, 1) := by decide +kernel
theorem dX6_answers_33 : decode cX6_answers 33 = .ok (.iload_n 2, 1) := by decide +kernel
theorem dX6_answers_34 : decode cX6_answers 34 = .ok (.ifCond .ne 15, 3) := by decide +kernel
theorem dX6_answers_37 : decode cX6_answers 37 = .ok (.aload_n 0, 1) := by decide +kernel
theorem dX6_answers_38 : decode cX6_answers 38 = .ok (.getfield 10, 3) := by decide +kernel
theorem dX6_answers_41 : decode cX6_answers 41 = .ok (.iconst 0, 1) := by decide +kernel
theorem dX6_answers_42 : decode cX6_answers 42 = .ok (.iload_n 1, 1) := by decide +kernel
theorem dX6_answers_43 : decode cX6_answers 43 = .ok (.invokestatic 204, 3) := by decide +kernel
theorem dX6_answers_46 : decode cX6_answers 46 = .ok (.goto 11, 3) := by decide +kernel
theorem dX6_answers_49 : decode cX6_answers 49 = .ok (.aload_n 0, 1) := by decide +kernel
theorem dX6_answers_50 : decode cX6_answers 50 = .ok (.getfield 10, 3) := by decide +kernel
theorem dX6_answers_53 : decode cX6_answers 53 = .ok (.iload_n 1, 1) := by decide +kernel
theorem dX6_answers_54 : decode cX6_answers 54 = .ok (.invokestatic 210, 3) := by decide +kernel
theorem dX6_answers_57 : decode cX6_answers 57 = .ok (.ireturn, 1) := by decide +kernel
theorem dX6_by_0 : decode cX6_by 0 = .ok (.aload_n 0, 1) := by decide +kernel
theorem dX6_by_1 : decode cX6_by 1 = .ok (.getfield 10, 3) := by decide +kernel
theorem dX6_by_4 : decode cX6_by 4 = .ok (.iload_n 1, 1) := by decide +kernel
theorem dX6_by_5 : decode cX6_by 5 = .ok (.invokevirtual 93, 3) := by decide +kernel
theorem dX6_by_8 : decode cX6_by 8 = .ok (.ifCond .ne 9, 3) := by decide +kernel
theorem dX6_by_11 : decode cX6_by 11 = .ok (.aload_n 0, 1) := by decide +kernel
theorem dX6_by_12 : decode cX6_by 12 = .ok (.iconst (-1), 1) := by decide +kernel
theorem dX6_by_13 : decode cX6_by 13 = .ok (.invokevirtual 134, 3) := by decide +kernel
theorem dX6_by_16 : decode cX6_by 16 = .ok (.ireturn, 1) := by decide +kernel
theorem dX6_by_17 : decode cX6_by 17 = .ok (.iload_n 3, 1) := by decide +kernel
theorem dX6_by_18 : decode cX6_by 18 = .ok (.iconst 0, 1) := by decide +kernel
theorem dX6_by_19 : decode cX6_by 19 = .ok (.iconst 1, 1) := by decide +kernel
theorem dX6_by_20 : decode cX6_by 20 = .ok (.invokestatic 63, 3) := by decide +kernel
theorem dX6_by_23 : decode cX6_by 23 = .ok (.ifCond .ne 10, 3) := by decide +kernel
theorem dX6_by_26 : decode cX6_by 26 = .ok (.aload_n 0, 1) := by decide +kernel
theorem dX6_by_27 : decode cX6_by 27 = .ok (.bipush (-5), 2) := by decide +kernel
theorem dX6_by_29 : decode cX6_by 29 = .ok (.invokevirtual 134, 3) := by decide +kernel
theorem dX6_by_32 : decode cX6_by 32 = .ok (.ireturn, 1) := by decide +kernel
theorem dX6_by_33 : decode cX6_by 33 = .ok (.iload_n 2, 1) := by decide +kernel
theorem dX6_by_34 : decode cX6_by 34 = .ok (.iconst 0, 1) := by decide +kernel
theorem dX6_by_35 : decode cX6_by 35 = .ok (.bipush 9, 2) := by decide +kernel
theorem dX6_by_37 : decode cX6_by 37 = .ok (.invokestatic 63, 3) := by decide +kernel
theorem dX6_by_40 : decode cX6_by 40 = .ok (.ifCond .ne 10, 3) := by decide +kernel
theorem dX6_by_43 : decode cX6_by 43 = .ok (.aload_n 0, 1) := by decide +kernel
theorem dX6_by_44 : decode cX6_by 44 = .ok (.bipush (-6), 2) := by decide +kernel
theorem dX6_by_46 : decode cX6_by 46 = .ok (.invokevirtual 134, 3) := by decide +kernel
theorem dX6_by_49 : decode cX6_by 49 = .ok (.ireturn, 1) := by decide +kernel
theorem dX6_by_50 : decode cX6_by 50 = .ok (.iload_n 3, 1) := by decide +kernel
theorem dX6_by_51 : decode cX6_by 51 = .ok (.ifCond .ne 16, 3) := by decide +kernel
theorem dX6_by_54 : decode cX6_by 54 = .ok (.aload_n 0, 1) := by decide +kernel
theorem dX6_by_55 : decode cX6_by 55 = .ok (.getfield 10, 3) := by decide +kernel
theorem dX6_by_58 : decode cX6_by 58 = .ok (.iload_n 1, 1) := by decide +kernel
theorem dX6_by_59 : decode cX6_by 59 = .ok (.iconst 0, 1) := by decide +kernel
theorem dX6_by_60 : decode cX6_by 60 = .ok (.iload_n 2, 1) := by decide +kernel
theorem dX6_by_61 : decode cX6_by 61 = .ok (.invokestatic 214, 3) := by decide +kernel
theorem dX6_by_64 : decode cX6_by 64 = .ok (.goto 12, 3) := by decide +kernel
theorem dX6_by_67 : decode cX6_by 67 = .ok (.aload_n 0, 1) := by decide +kernel
theorem dX6_by_68 : decode cX6_by 68 = .ok (.getfield 10, 3) := by decide +kernel
theorem dX6_by_71 : decode cX6_by 71 = .ok (.iload_n 1, 1) := by decide +kernel
theorem dX6_by_72 : decode cX6_by 72 = .ok (.iload_n 2, 1) := by decide +kernel
theorem dX6_by_73 : decode cX6_by 73 = .ok (.invokestatic 218, 3) := by decide +kernel
theorem dX6_by_76 : decode cX6_by 76 = .ok (.ireturn, 1) := by decide +kernel
theorem dX6_hold_0 : decode cX6_hold 0 = .ok (.aload_n 0, 1) := by decide +kernel
theorem dX6_hold_1 : decode cX6_hold 1 = .ok (.getfield 10, 3) := by decide +kernel
theorem dX6_hold_4 : decode cX6_hold 4 = .ok (.invokevirtual 221, 3) := by decide +kernel
theorem dX6_hold_7 : decode cX6_hold 7 = .ok (.ireturn, 1) := by decide +kernel
theorem dX6_order_0 : decode cX6_order 0 = .ok (.iload_n 1, 1) := by decide +kernel
theorem dX6_order_1 : decode cX6_order 1 = .ok (.invokestatic 225, 3) := by decide +kernel
theorem dX6_order_4 : decode cX6_order 4 = .ok (.istore_n 3, 1) := by decide +kernel
theorem dX6_order_5 : decode cX6_order 5 = .ok (.iload_n 2, 1) := by decide +kernel
theorem dX6_order_6 : decode cX6_order 6 = .ok (.iconst (-1), 1) := by decide +kernel
theorem dX6_order_7 : decode cX6_order 7 = .ok (.iload_n 3, 1) := by decide +kernel
theorem dX6_order_8 : decode cX6_order 8 = .ok (.iconst 1, 1) := by decide +kernel
theorem dX6_order_9 : decode cX6_order 9 = .ok (.isub, 1) := by decide +kernel
theorem dX6_order_10 : decode cX6_order 10 = .ok (.invokestatic 63, 3) := by decide +kernel
theorem dX6_order_13 : decode cX6_order 13 = .ok (.ifCond .ne 10, 3) := by decide +kernel
theorem dX6_order_16 : decode cX6_order 16 = .ok (.aload_n 0, 1) := by decide +kernel
theorem dX6_order_17 : decode cX6_order 17 = .ok (.bipush (-5), 2) := by decide +kernel
theorem dX6_order_19 : decode cX6_order 19 = .ok (.invokevirtual 59, 3) := by decide +kernel
theorem dX6_order_22 : decode cX6_order 22 = .ok (.ireturn, 1) := by decide +kernel
theorem dX6_order_23 : decode cX6_order 23 = .ok (.iload_n 3, 1) := by decide +kernel
theorem dX6_order_24 : decode cX6_order 24 = .ok (.bipush 6, 2) := by decide +kernel
theorem dX6_order_26 : decode cX6_order 26 = .ok (.if_icmp .gt 14, 3) := by decide +kernel
theorem dX6_order_29 : decode cX6_order 29 = .ok (.aload_n 0, 1) := by decide +kernel
theorem dX6_order_30 : decode cX6_order 30 = .ok (.getfield 10, 3) := by decide +kernel
theorem dX6_order_33 : decode cX6_order 33 = .ok (.iload_n 1, 1) := by decide +kernel
theorem dX6_order_34 : decode cX6_order 34 = .ok (.invokevirtual 230, 3) := by decide +kernel
theorem dX6_order_37 : decode cX6_order 37 = .ok (.ifCond .ne 10, 3) := by decide +kernel
theorem dX6_order_40 : decode cX6_order 40 = .ok (.aload_n 0, 1) := by decide +kernel
theorem dX6_order_41 : decode cX6_order 41 = .ok (.bipush (-6), 2) := by decide +kernel
theorem dX6_order_43 : decode cX6_order 43 = .ok (.invokevirtual 59, 3) := by decide +kernel
theorem dX6_order_46 : decode cX6_order 46 = .ok (.ireturn, 1) := by decide +kernel
theorem dX6_order_47 : decode cX6_order 47 = .ok (.aload_n 0, 1) := by decide +kernel
theorem dX6_order_48 : decode cX6_order 48 = .ok (.getfield 22, 3) := by decide +kernel
theorem dX6_order_51 : decode cX6_order 51 = .ok (.aload_n 0, 1) := by decide +kernel
theorem dX6_order_52 : decode cX6_order 52 = .ok (.getfield 10, 3) := by decide +kernel
theorem dX6_order_55 : decode cX6_order 55 = .ok (.iload_n 1, 1) := by decide +kernel
theorem dX6_order_56 : decode cX6_order 56 = .ok (.invokevirtual 233, 3) := by decide +kernel
theorem dX6_order_59 : decode cX6_order 59 = .ok (.istore 4, 2) := by decide +kernel
theorem dX6_order_61 : decode cX6_order 61 = .ok (.iload_n 2, 1) := by decide +kernel
theorem dX6_order_62 : decode cX6_order 62 = .ok (.iconst (-1), 1) := by decide +kernel
theorem dX6_order_63 : decode cX6_order 63 = .ok (.if_icmp .ne 8, 3) := by decide +kernel
theorem dX6_order_66 : decode cX6_order 66 = .ok (.iload 4, 2) := by decide +kernel
theorem dX6_order_68 : decode cX6_order 68 = .ok (.goto 16, 3) := by decide +kernel
theorem dX6_order_71 : decode cX6_order 71 = .ok (.aload_n 0, 1) := by decide +kernel
theorem dX6_order_72 : decode cX6_order 72 = .ok (.getfield 22, 3) := by decide +kernel
theorem dX6_order_75 : decode cX6_order 75 = .ok (.aload_n 0, 1) := by decide +kernel
theorem dX6_order_76 : decode cX6_order 76 = .ok (.getfield 10, 3) := by decide +kernel
theorem dX6_order_79 : decode cX6_order 79 = .ok (.iload_n 1, 1) := by decide +kernel
theorem dX6_order_80 : decode cX6_order 80 = .ok (.iload_n 2, 1) := by decide +kernel
theorem dX6_order_81 : decode cX6_order 81 = .ok (.invokevirtual 236, 3) := by decide +kernel
theorem dX6_order_84 : decode cX6_order 84 = .ok (.ireturn, 1) := by decide +kernel
theorem dX6_blame_0 : decode cX6_blame 0 = .ok (.iconst 0, 1) := by decide +kernel
theorem dX6_blame_1 : decode cX6_blame 1 = .ok (.istore_n 1, 1) := by decide +kernel
theorem dX6_blame_2 : decode cX6_blame 2 = .ok (.iconst (-1), 1) := by decide +kernel
theorem dX6_blame_3 : decode cX6_blame 3 = .ok (.istore_n 2, 1) := by decide +kernel
theorem dX6_blame_4 : decode cX6_blame 4 = .ok (.iconst 0, 1) := by decide +kernel
theorem dX6_blame_5 : decode cX6_blame 5 = .ok (.istore_n 3, 1) := by decide +kernel
theorem dX6_blame_6 : decode cX6_blame 6 = .ok (.iload_n 3, 1) := by decide +kernel
theorem dX6_blame_7 : decode cX6_blame 7 = .ok (.aload_n 0, 1) := by decide +kernel
theorem dX6_blame_8 : decode cX6_blame 8 = .ok (.getfield 10, 3) := by decide +kernel
theorem dX6_blame_11 : decode cX6_blame 11 = .ok (.getfield 239, 3) := by decide +kernel
theorem dX6_blame_14 : decode cX6_blame 14 = .ok (.if_icmp .ge 62, 3) := by decide +kernel
theorem dX6_blame_17 : decode cX6_blame 17 = .ok (.iconst 0, 1) := by decide +kernel
theorem dX6_blame_18 : decode cX6_blame 18 = .ok (.istore 4, 2) := by decide +kernel
theorem dX6_blame_20 : decode cX6_blame 20 = .ok (.iload 4, 2) := by decide +kernel
theorem dX6_blame_22 : decode cX6_blame 22 = .ok (.aload_n 0, 1) := by decide +kernel
theorem dX6_blame_23 : decode cX6_blame 23 = .ok (.getfield 10, 3) := by decide +kernel
theorem dX6_blame_26 : decode cX6_blame 26 = .ok (.getfield 239, 3) := by decide +kernel
theorem dX6_blame_29 : decode cX6_blame 29 = .ok (.if_icmp .ge 41, 3) := by decide +kernel
theorem dX6_blame_32 : decode cX6_blame 32 = .ok (.aload_n 0, 1) := by decide +kernel
theorem dX6_blame_33 : decode cX6_blame 33 = .ok (.getfield 10, 3) := by decide +kernel
theorem dX6_blame_36 : decode cX6_blame 36 = .ok (.iload_n 3, 1) := by decide +kernel
theorem dX6_blame_37 : decode cX6_blame 37 = .ok (.iload 4, 2) := by decide +kernel
theorem dX6_blame_39 : decode cX6_blame 39 = .ok (.invokevirtual 164, 3) := by decide +kernel
theorem dX6_blame_42 : decode cX6_blame 42 = .ok (.invokestatic 242, 3) := by decide +kernel
theorem dX6_blame_45 : decode cX6_blame 45 = .ok (.istore 5, 2) := by decide +kernel
theorem dX6_blame_47 : decode cX6_blame 47 = .ok (.iload 5, 2) := by decide +kernel
theorem dX6_blame_49 : decode cX6_blame 49 = .ok (.iload_n 1, 1) := by decide +kernel
theorem dX6_blame_50 : decode cX6_blame 50 = .ok (.if_icmp .le 14, 3) := by decide +kernel
theorem dX6_blame_53 : decode cX6_blame 53 = .ok (.iload 5, 2) := by decide +kernel
theorem dX6_blame_55 : decode cX6_blame 55 = .ok (.istore_n 1, 1) := by decide +kernel
theorem dX6_blame_56 : decode cX6_blame 56 = .ok (.bipush 100, 2) := by decide +kernel
theorem dX6_blame_58 : decode cX6_blame 58 = .ok (.iload_n 3, 1) := by decide +kernel
theorem dX6_blame_59 : decode cX6_blame 59 = .ok (.imul, 1) := by decide +kernel
theorem dX6_blame_60 : decode cX6_blame 60 = .ok (.iload 4, 2) := by decide +kernel
theorem dX6_blame_62 : decode cX6_blame 62 = .ok (.iadd, 1) := by decide +kernel
theorem dX6_blame_63 : decode cX6_blame 63 = .ok (.istore_n 2, 1) := by decide +kernel
theorem dX6_blame_64 : decode cX6_blame 64 = .ok (.iinc 4 1, 3) := by decide +kernel
theorem dX6_blame_67 : decode cX6_blame 67 = .ok (.goto (-47), 3) := by decide +kernel
theorem dX6_blame_70 : decode cX6_blame 70 = .ok (.iinc 3 1, 3) := by decide +kernel
theorem dX6_blame_73 : decode cX6_blame 73 = .ok (.goto (-67), 3) := by decide +kernel
theorem dX6_blame_76 : decode cX6_blame 76 = .ok (.iload_n 2, 1) := by decide +kernel
theorem dX6_blame_77 : decode cX6_blame 77 = .ok (.ireturn, 1) := by decide +kernel
theorem dX6_nothing_0 : decode cX6_nothing 0 = .ok (.aload_n 0, 1) := by decide +kernel
theorem dX6_nothing_1 : decode cX6_nothing 1 = .ok (.getfield 10, 3) := by decide +kernel
theorem dX6_nothing_4 : decode cX6_nothing 4 = .ok (.iload_n 1, 1) := by decide +kernel
theorem dX6_nothing_5 : decode cX6_nothing 5 = .ok (.invokevirtual 93, 3) := by decide +kernel
theorem dX6_nothing_8 : decode cX6_nothing 8 = .ok (.ifCond .eq 14, 3) := by decide +kernel
theorem dX6_nothing_11 : decode cX6_nothing 11 = .ok (.aload_n 0, 1) := by decide +kernel
theorem dX6_nothing_12 : decode cX6_nothing 12 = .ok (.getfield 10, 3) := by decide +kernel
theorem dX6_nothing_15 : decode cX6_nothing 15 = .ok (.iload_n 2, 1) := by decide +kernel
theorem dX6_nothing_16 : decode cX6_nothing 16 = .ok (.invokevirtual 93, 3) := by decide +kernel
theorem dX6_nothing_19 : decode cX6_nothing 19 = .ok (.ifCond .ne 9, 3) := by decide +kernel
theorem dX6_nothing_22 : decode cX6_nothing 22 = .ok (.aload_n 0, 1) := by decide +kernel
theorem dX6_nothing_23 : decode cX6_nothing 23 = .ok (.iconst (-1), 1) := by decide +kernel
theorem dX6_nothing_24 : decode cX6_nothing 24 = .ok (.invokevirtual 134, 3) := by decide +kernel
theorem dX6_nothing_27 : decode cX6_nothing 27 = .ok (.ireturn, 1) := by decide +kernel
theorem dX6_nothing_28 : decode cX6_nothing 28 = .ok (.sipush 1000, 3) := by decide +kernel
theorem dX6_nothing_31 : decode cX6_nothing 31 = .ok (.aload_n 0, 1) := by decide +kernel
theorem dX6_nothing_32 : decode cX6_nothing 32 = .ok (.getfield 10, 3) := by decide +kernel
theorem dX6_nothing_35 : decode cX6_nothing 35 = .ok (.iload_n 1, 1) := by decide +kernel
theorem dX6_nothing_36 : decode cX6_nothing 36 = .ok (.sipush 1023, 3) := by decide +kernel
theorem dX6_nothing_39 : decode cX6_nothing 39 = .ok (.invokevirtual 113, 3) := by decide +kernel
theorem dX6_nothing_42 : decode cX6_nothing 42 = .ok (.isub, 1) := by decide +kernel
theorem dX6_nothing_43 : decode cX6_nothing 43 = .ok (.aload_n 0, 1) := by decide +kernel
theorem dX6_nothing_44 : decode cX6_nothing 44 = .ok (.getfield 10, 3) := by decide +kernel
theorem dX6_nothing_47 : decode cX6_nothing 47 = .ok (.iload_n 2, 1) := by decide +kernel
theorem dX6_nothing_48 : decode cX6_nothing 48 = .ok (.sipush 1023, 3) := by decide +kernel
theorem dX6_nothing_51 : decode cX6_nothing 51 = .ok (.invokevirtual 113, 3) := by decide +kernel
theorem dX6_nothing_54 : decode cX6_nothing 54 = .ok (.isub, 1) := by decide +kernel
theorem dX6_nothing_55 : decode cX6_nothing 55 = .ok (.ireturn, 1) := by decide +kernel
theorem dX6_enough_0 : decode cX6_enough 0 = .ok (.aload_n 0, 1) := by decide +kernel
theorem dX6_enough_1 : decode cX6_enough 1 = .ok (.getfield 10, 3) := by decide +kernel
theorem dX6_enough_4 : decode cX6_enough 4 = .ok (.iload_n 1, 1) := by decide +kernel
theorem dX6_enough_5 : decode cX6_enough 5 = .ok (.invokevirtual 93, 3) := by decide +kernel
theorem dX6_enough_8 : decode cX6_enough 8 = .ok (.ifCond .ne 9, 3) := by decide +kernel
theorem dX6_enough_11 : decode cX6_enough 11 = .ok (.aload_n 0, 1) := by decide +kernel
theorem dX6_enough_12 : decode cX6_enough 12 = .ok (.iconst (-1), 1) := by decide +kernel
theorem dX6_enough_13 : decode cX6_enough 13 = .ok (.invokevirtual 247, 3) := by decide +kernel
theorem dX6_enough_16 : decode cX6_enough 16 = .ok (.ireturn, 1) := by decide +kernel
theorem dX6_enough_17 : decode cX6_enough 17 = .ok (.iload_n 2, 1) := by decide +kernel
theorem dX6_enough_18 : decode cX6_enough 18 = .ok (.iconst 0, 1) := by decide +kernel
theorem dX6_enough_19 : decode cX6_enough 19 = .ok (.sipush 1000, 3) := by decide +kernel
theorem dX6_enough_22 : decode cX6_enough 22 = .ok (.invokestatic 63, 3) := by decide +kernel
theorem dX6_enough_25 : decode cX6_enough 25 = .ok (.ifCond .ne 10, 3) := by decide +kernel
theorem dX6_enough_28 : decode cX6_enough 28 = .ok (.aload_n 0, 1) := by decide +kernel
theorem dX6_enough_29 : decode cX6_enough 29 = .ok (.bipush (-6), 2) := by decide +kernel
theorem dX6_enough_31 : decode cX6_enough 31 = .ok (.invokevirtual 247, 3) := by decide +kernel
theorem dX6_enough_34 : decode cX6_enough 34 = .ok (.ireturn, 1) := by decide +kernel
theorem dX6_enough_35 : decode cX6_enough 35 = .ok (.aload_n 0, 1) := by decide +kernel
theorem dX6_enough_36 : decode cX6_enough 36 = .ok (.getfield 10, 3) := by decide +kernel
theorem dX6_enough_39 : decode cX6_enough 39 = .ok (.iload_n 1, 1) := by decide +kernel
theorem dX6_enough_40 : decode cX6_enough 40 = .ok (.iload_n 2, 1) := by decide +kernel
theorem dX6_enough_41 : decode cX6_enough 41 = .ok (.invokestatic 250, 3) := by decide +kernel
theorem dX6_enough_44 : decode cX6_enough 44 = .ok (.ireturn, 1) := by decide +kernel
theorem dX6_cost_0 : decode cX6_cost 0 = .ok (.iload_n 1, 1) := by decide +kernel
theorem dX6_cost_1 : decode cX6_cost 1 = .ok (.iconst 0, 1) := by decide +kernel
theorem dX6_cost_2 : decode cX6_cost 2 = .ok (.bipush 9, 2) := by decide +kernel
theorem dX6_cost_4 : decode cX6_cost 4 = .ok (.invokestatic 63, 3) := by decide +kernel
theorem dX6_cost_7 : decode cX6_cost 7 = .ok (.ifCond .ne 10, 3) := by decide +kernel
theorem dX6_cost_10 : decode cX6_cost 10 = .ok (.aload_n 0, 1) := by decide +kernel
theorem dX6_cost_11 : decode cX6_cost 11 = .ok (.bipush (-6), 2) := by decide +kernel
theorem dX6_cost_13 : decode cX6_cost 13 = .ok (.invokevirtual 59, 3) := by decide +kernel
theorem dX6_cost_16 : decode cX6_cost 16 = .ok (.ireturn, 1) := by decide +kernel
theorem dX6_cost_17 : decode cX6_cost 17 = .ok (.aload_n 0, 1) := by decide +kernel
theorem dX6_cost_18 : decode cX6_cost 18 = .ok (.getfield 10, 3) := by decide +kernel
theorem dX6_cost_21 : decode cX6_cost 21 = .ok (.iload_n 1, 1) := by decide +kernel
theorem dX6_cost_22 : decode cX6_cost 22 = .ok (.invokestatic 253, 3) := by decide +kernel
theorem dX6_cost_25 : decode cX6_cost 25 = .ok (.ireturn, 1) := by decide +kernel
theorem dX6_fine_0 : decode cX6_fine 0 = .ok (.aload_n 0, 1) := by decide +kernel
theorem dX6_fine_1 : decode cX6_fine 1 = .ok (.getfield 10, 3) := by decide +kernel
theorem dX6_fine_4 : decode cX6_fine 4 = .ok (.iload_n 1, 1) := by decide +kernel
theorem dX6_fine_5 : decode cX6_fine 5 = .ok (.invokevirtual 93, 3) := by decide +kernel
theorem dX6_fine_8 : decode cX6_fine 8 = .ok (.ifCond .ne 9, 3) := by decide +kernel
theorem dX6_fine_11 : decode cX6_fine 11 = .ok (.aload_n 0, 1) := by decide +kernel
theorem dX6_fine_12 : decode cX6_fine 12 = .ok (.iconst (-1), 1) := by decide +kernel
theorem dX6_fine_13 : decode cX6_fine 13 = .ok (.invokevirtual 59, 3) := by decide +kernel
theorem dX6_fine_16 : decode cX6_fine 16 = .ok (.ireturn, 1) := by decide +kernel
theorem dX6_fine_17 : decode cX6_fine 17 = .ok (.iload_n 2, 1) := by decide +kernel
theorem dX6_fine_18 : decode cX6_fine 18 = .ok (.ifCond .ge 10, 3) := by decide +kernel
theorem dX6_fine_21 : decode cX6_fine 21 = .ok (.aload_n 0, 1) := by decide +kernel
theorem dX6_fine_22 : decode cX6_fine 22 = .ok (.bipush (-6), 2) := by decide +kernel
theorem dX6_fine_24 : decode cX6_fine 24 = .ok (.invokevirtual 59, 3) := by decide +kernel
theorem dX6_fine_27 : decode cX6_fine 27 = .ok (.ireturn, 1) := by decide +kernel
theorem dX6_fine_28 : decode cX6_fine 28 = .ok (.aload_n 0, 1) := by decide +kernel
theorem dX6_fine_29 : decode cX6_fine 29 = .ok (.getfield 10, 3) := by decide +kernel
theorem dX6_fine_32 : decode cX6_fine 32 = .ok (.iload_n 1, 1) := by decide +kernel
theorem dX6_fine_33 : decode cX6_fine 33 = .ok (.iload_n 2, 1) := by decide +kernel
theorem dX6_fine_34 : decode cX6_fine 34 = .ok (.invokestatic 256, 3) := by decide +kernel
theorem dX6_fine_37 : decode cX6_fine 37 = .ok (.ireturn, 1) := by decide +kernel
theorem dX6_never_0 : decode cX6_never 0 = .ok (.aload_n 0, 1) := by decide +kernel
theorem dX6_never_1 : decode cX6_never 1 = .ok (.getfield 10, 3) := by decide +kernel
theorem dX6_never_4 : decode cX6_never 4 = .ok (.invokestatic 259, 3) := by decide +kernel
theorem dX6_never_7 : decode cX6_never 7 = .ok (.ireturn, 1) := by decide +kernel
theorem dX6_late_0 : decode cX6_late 0 = .ok (.iload_n 1, 1) := by decide +kernel
theorem dX6_late_1 : decode cX6_late 1 = .ok (.iconst (-1), 1) := by decide +kernel
theorem dX6_late_2 : decode cX6_late 2 = .ok (.if_icmp .eq 20, 3) := by decide +kernel
theorem dX6_late_5 : decode cX6_late 5 = .ok (.aload_n 0, 1) := by decide +kernel
theorem dX6_late_6 : decode cX6_late 6 = .ok (.getfield 10, 3) := by decide +kernel
theorem dX6_late_9 : decode cX6_late 9 = .ok (.iload_n 1, 1) := by decide +kernel
theorem dX6_late_10 : decode cX6_late 10 = .ok (.invokevirtual 93, 3) := by decide +kernel
theorem dX6_late_13 : decode cX6_late 13 = .ok (.ifCond .ne 9, 3) := by decide +kernel
theorem dX6_late_16 : decode cX6_late 16 = .ok (.aload_n 0, 1) := by decide +kernel
theorem dX6_late_17 : decode cX6_late 17 = .ok (.iconst (-1), 1) := by decide +kernel
theorem dX6_late_18 : decode cX6_late 18 = .ok (.invokevirtual 59, 3) := by decide +kernel
theorem dX6_late_21 : decode cX6_late 21 = .ok (.ireturn, 1) := by decide +kernel
theorem dX6_late_22 : decode cX6_late 22 = .ok (.iload_n 2, 1) := by decide +kernel
theorem dX6_late_23 : decode cX6_late 23 = .ok (.iconst 1, 1) := by decide +kernel
theorem dX6_late_24 : decode cX6_late 24 = .ok (.bipush 9, 2) := by decide +kernel
theorem dX6_late_26 : decode cX6_late 26 = .ok (.invokestatic 63, 3) := by decide +kernel
theorem dX6_late_29 : decode cX6_late 29 = .ok (.ifCond .ne 10, 3) := by decide +kernel
theorem dX6_late_32 : decode cX6_late 32 = .ok (.aload_n 0, 1) := by decide +kernel
theorem dX6_late_33 : decode cX6_late 33 = .ok (.bipush (-6), 2) := by decide +kernel
theorem dX6_late_35 : decode cX6_late 35 = .ok (.invokevirtual 59, 3) := by decide +kernel
theorem dX6_late_38 : decode cX6_late 38 = .ok (.ireturn, 1) := by decide +kernel
theorem dX6_late_39 : decode cX6_late 39 = .ok (.iload_n 1, 1) := by decide +kernel
theorem dX6_late_40 : decode cX6_late 40 = .ok (.iconst (-1), 1) := by decide +kernel
theorem dX6_late_41 : decode cX6_late 41 = .ok (.if_icmp .ne 15, 3) := by decide +kernel
theorem dX6_late_44 : decode cX6_late 44 = .ok (.aload_n 0, 1) := by decide +kernel
theorem dX6_late_45 : decode cX6_late 45 = .ok (.getfield 10, 3) := by decide +kernel
theorem dX6_late_48 : decode cX6_late 48 = .ok (.iload_n 2, 1) := by decide +kernel
theorem dX6_late_49 : decode cX6_late 49 = .ok (.iconst 1, 1) := by decide +kernel
theorem dX6_late_50 : decode cX6_late 50 = .ok (.isub, 1) := by decide +kernel
theorem dX6_late_51 : decode cX6_late 51 = .ok (.iload_n 2, 1) := by decide +kernel
theorem dX6_late_52 : decode cX6_late 52 = .ok (.invokestatic 204, 3) := by decide +kernel
theorem dX6_late_55 : decode cX6_late 55 = .ok (.ireturn, 1) := by decide +kernel
theorem dX6_late_56 : decode cX6_late 56 = .ok (.aload_n 0, 1) := by decide +kernel
theorem dX6_late_57 : decode cX6_late 57 = .ok (.getfield 10, 3) := by decide +kernel
theorem dX6_late_60 : decode cX6_late 60 = .ok (.iload_n 1, 1) := by decide +kernel
theorem dX6_late_61 : decode cX6_late 61 = .ok (.iload_n 2, 1) := by decide +kernel
theorem dX6_late_62 : decode cX6_late 62 = .ok (.iconst 1, 1) := by decide +kernel
theorem dX6_late_63 : decode cX6_late 63 = .ok (.isub, 1) := by decide +kernel
theorem dX6_late_64 : decode cX6_late 64 = .ok (.iload_n 2, 1) := by decide +kernel
theorem dX6_late_65 : decode cX6_late 65 = .ok (.invokestatic 214, 3) := by decide +kernel
theorem dX6_late_68 : decode cX6_late 68 = .ok (.ireturn, 1) := by decide +kernel
theorem dX6_fits_0 : decode cX6_fits 0 = .ok (.iload_n 1, 1) := by decide +kernel
theorem dX6_fits_1 : decode cX6_fits 1 = .ok (.iconst 0, 1) := by decide +kernel
theorem dX6_fits_2 : decode cX6_fits 2 = .ok (.sipush 1000, 3) := by decide +kernel
theorem dX6_fits_5 : decode cX6_fits 5 = .ok (.invokestatic 63, 3) := by decide +kernel
theorem dX6_fits_8 : decode cX6_fits 8 = .ok (.ifCond .eq 14, 3) := by decide +kernel
theorem dX6_fits_11 : decode cX6_fits 11 = .ok (.iload_n 2, 1) := by decide +kernel
theorem dX6_fits_12 : decode cX6_fits 12 = .ok (.iconst 0, 1) := by decide +kernel
theorem dX6_fits_13 : decode cX6_fits 13 = .ok (.sipush 1000, 3) := by decide +kernel
theorem dX6_fits_16 : decode cX6_fits 16 = .ok (.invokestatic 63, 3) := by decide +kernel
theorem dX6_fits_19 : decode cX6_fits 19 = .ok (.ifCond .ne 10, 3) := by decide +kernel
theorem dX6_fits_22 : decode cX6_fits 22 = .ok (.aload_n 0, 1) := by decide +kernel
theorem dX6_fits_23 : decode cX6_fits 23 = .ok (.bipush (-6), 2) := by decide +kernel
theorem dX6_fits_25 : decode cX6_fits 25 = .ok (.invokevirtual 59, 3) := by decide +kernel
theorem dX6_fits_28 : decode cX6_fits 28 = .ok (.ireturn, 1) := by decide +kernel
theorem dX6_fits_29 : decode cX6_fits 29 = .ok (.iconst 0, 1) := by decide +kernel
theorem dX6_fits_30 : decode cX6_fits 30 = .ok (.istore_n 3, 1) := by decide +kernel
theorem dX6_fits_31 : decode cX6_fits 31 = .ok (.iconst 0, 1) := by decide +kernel
theorem dX6_fits_32 : decode cX6_fits 32 = .ok (.istore 4, 2) := by decide +kernel
theorem dX6_fits_34 : decode cX6_fits 34 = .ok (.iload 4, 2) := by decide +kernel
theorem dX6_fits_36 : decode cX6_fits 36 = .ok (.aload_n 0, 1) := by decide +kernel
theorem dX6_fits_37 : decode cX6_fits 37 = .ok (.getfield 10, 3) := by decide +kernel
theorem dX6_fits_40 : decode cX6_fits 40 = .ok (.getfield 239, 3) := by decide +kernel
theorem dX6_fits_43 : decode cX6_fits 43 = .ok (.if_icmp .ge 37, 3) := by decide +kernel
theorem dX6_fits_46 : decode cX6_fits 46 = .ok (.aload_n 0, 1) := by decide +kernel
theorem dX6_fits_47 : decode cX6_fits 47 = .ok (.getfield 10, 3) := by decide +kernel
theorem dX6_fits_50 : decode cX6_fits 50 = .ok (.iload 4, 2) := by decide +kernel
theorem dX6_fits_52 : decode cX6_fits 52 = .ok (.sipush 1023, 3) := by decide +kernel
theorem dX6_fits_55 : decode cX6_fits 55 = .ok (.invokevirtual 113, 3) := by decide +kernel
theorem dX6_fits_58 : decode cX6_fits 58 = .ok (.iload_n 1, 1) := by decide +kernel
theorem dX6_fits_59 : decode cX6_fits 59 = .ok (.isub, 1) := by decide +kernel
theorem dX6_fits_60 : decode cX6_fits 60 = .ok (.invokestatic 242, 3) := by decide +kernel
theorem dX6_fits_63 : decode cX6_fits 63 = .ok (.iload_n 2, 1) := by decide +kernel
theorem dX6_fits_64 : decode cX6_fits 64 = .ok (.if_icmp .gt 10, 3) := by decide +kernel
theorem dX6_fits_67 : decode cX6_fits 67 = .ok (.iload_n 3, 1) := by decide +kernel
theorem dX6_fits_68 : decode cX6_fits 68 = .ok (.iconst 1, 1) := by decide +kernel
theorem dX6_fits_69 : decode cX6_fits 69 = .ok (.iload 4, 2) := by decide +kernel
theorem dX6_fits_71 : decode cX6_fits 71 = .ok (.ishl, 1) := by decide +kernel
theorem dX6_fits_72 : decode cX6_fits 72 = .ok (.ior, 1) := by decide +kernel
theorem dX6_fits_73 : decode cX6_fits 73 = .ok (.istore_n 3, 1) := by decide +kernel
theorem dX6_fits_74 : decode cX6_fits 74 = .ok (.iinc 4 1, 3) := by decide +kernel
theorem dX6_fits_77 : decode cX6_fits 77 = .ok (.goto (-43), 3) := by decide +kernel
theorem dX6_fits_80 : decode cX6_fits 80 = .ok (.iload_n 3, 1) := by decide +kernel
theorem dX6_fits_81 : decode cX6_fits 81 = .ok (.ireturn, 1) := by decide +kernel
theorem dX6_halves_0 : decode cX6_halves 0 = .ok (.aload_n 0, 1) := by decide +kernel
theorem dX6_halves_1 : decode cX6_halves 1 = .ok (.getfield 10, 3) := by decide +kernel
theorem dX6_halves_4 : decode cX6_halves 4 = .ok (.iload_n 1, 1) := by decide +kernel
theorem dX6_halves_5 : decode cX6_halves 5 = .ok (.invokevirtual 93, 3) := by decide +kernel
theorem dX6_halves_8 : decode cX6_halves 8 = .ok (.ifCond .eq 20, 3) := by decide +kernel
theorem dX6_halves_11 : decode cX6_halves 11 = .ok (.aload_n 0, 1) := by decide +kernel
theorem dX6_halves_12 : decode cX6_halves 12 = .ok (.getfield 10, 3) := by decide +kernel
theorem dX6_halves_15 : decode cX6_halves 15 = .ok (.aload_n 0, 1) := by decide +kernel
theorem dX6_halves_16 : decode cX6_halves 16 = .ok (.getfield 10, 3) := by decide +kernel
theorem dX6_halves_19 : decode cX6_halves 19 = .ok (.getfield 173, 3) := by decide +kernel
theorem dX6_halves_22 : decode cX6_halves 22 = .ok (.invokevirtual 93, 3) := by decide +kernel
theorem dX6_halves_25 : decode cX6_halves 25 = .ok (.ifCond .ne 9, 3) := by decide +kernel
theorem dX6_halves_28 : decode cX6_halves 28 = .ok (.aload_n 0, 1) := by decide +kernel
theorem dX6_halves_29 : decode cX6_halves 29 = .ok (.iconst (-1), 1) := by decide +kernel
theorem dX6_halves_30 : decode cX6_halves 30 = .ok (.invokevirtual 134, 3) := by decide +kernel
theorem dX6_halves_33 : decode cX6_halves 33 = .ok (.ireturn, 1) := by decide +kernel
theorem dX6_halves_34 : decode cX6_halves 34 = .ok (.aload_n 0, 1) := by decide +kernel
theorem dX6_halves_35 : decode cX6_halves 35 = .ok (.getfield 10, 3) := by decide +kernel
theorem dX6_halves_38 : decode cX6_halves 38 = .ok (.iload_n 1, 1) := by decide +kernel
theorem dX6_halves_39 : decode cX6_halves 39 = .ok (.sipush 341, 3) := by decide +kernel
theorem dX6_halves_42 : decode cX6_halves 42 = .ok (.invokevirtual 113, 3) := by decide +kernel
theorem dX6_halves_45 : decode cX6_halves 45 = .ok (.aload_n 0, 1) := by decide +kernel
theorem dX6_halves_46 : decode cX6_halves 46 = .ok (.getfield 10, 3) := by decide +kernel
theorem dX6_halves_49 : decode cX6_halves 49 = .ok (.aload_n 0, 1) := by decide +kernel
theorem dX6_halves_50 : decode cX6_halves 50 = .ok (.getfield 10, 3) := by decide +kernel
theorem dX6_halves_53 : decode cX6_halves 53 = .ok (.getfield 173, 3) := by decide +kernel
theorem dX6_halves_56 : decode cX6_halves 56 = .ok (.sipush 682, 3) := by decide +kernel
theorem dX6_halves_59 : decode cX6_halves 59 = .ok (.invokevirtual 113, 3) := by decide +kernel
theorem dX6_halves_62 : decode cX6_halves 62 = .ok (.isub, 1) := by decide +kernel
theorem dX6_halves_63 : decode cX6_halves 63 = .ok (.ireturn, 1) := by decide +kernel
theorem dX6_twin_0 : decode cX6_twin 0 = .ok (.aload_n 0, 1) := by decide +kernel
theorem dX6_twin_1 : decode cX6_twin 1 = .ok (.getfield 10, 3) := by decide +kernel
theorem dX6_twin_4 : decode cX6_twin 4 = .ok (.iload_n 1, 1) := by decide +kernel
theorem dX6_twin_5 : decode cX6_twin 5 = .ok (.invokevirtual 93, 3) := by decide +kernel
theorem dX6_twin_8 : decode cX6_twin 8 = .ok (.ifCond .ne 9, 3) := by decide +kernel
theorem dX6_twin_11 : decode cX6_twin 11 = .ok (.aload_n 0, 1) := by decide +kernel
theorem dX6_twin_12 : decode cX6_twin 12 = .ok (.iconst (-1), 1) := by decide +kernel
theorem dX6_twin_13 : decode cX6_twin 13 = .ok (.invokevirtual 247, 3) := by decide +kernel
theorem dX6_twin_16 : decode cX6_twin 16 = .ok (.ireturn, 1) := by decide +kernel
theorem dX6_twin_17 : decode cX6_twin 17 = .ok (.aload_n 0, 1) := by decide +kernel
theorem dX6_twin_18 : decode cX6_twin 18 = .ok (.getfield 10, 3) := by decide +kernel
theorem dX6_twin_21 : decode cX6_twin 21 = .ok (.iload_n 1, 1) := by decide +kernel
theorem dX6_twin_22 : decode cX6_twin 22 = .ok (.sipush 1023, 3) := by decide +kernel
theorem dX6_twin_25 : decode cX6_twin 25 = .ok (.invokevirtual 113, 3) := by decide +kernel
theorem dX6_twin_28 : decode cX6_twin 28 = .ok (.istore_n 2, 1) := by decide +kernel
theorem dX6_twin_29 : decode cX6_twin 29 = .ok (.ldc_w 263, 3) := by decide +kernel
theorem dX6_twin_32 : decode cX6_twin 32 = .ok (.istore_n 3, 1) := by decide +kernel
theorem dX6_twin_33 : decode cX6_twin 33 = .ok (.iconst (-1), 1) := by decide +kernel
theorem dX6_twin_34 : decode cX6_twin 34 = .ok (.istore 4, 2) := by decide +kernel
theorem dX6_twin_36 : decode cX6_twin 36 = .ok (.iconst 0, 1) := by decide +kernel
theorem dX6_twin_37 : decode cX6_twin 37 = .ok (.istore 5, 2) := by decide +kernel
theorem dX6_twin_39 : decode cX6_twin 39 = .ok (.iload 5, 2) := by decide +kernel
theorem dX6_twin_41 : decode cX6_twin 41 = .ok (.aload_n 0, 1) := by decide +kernel
theorem dX6_twin_42 : decode cX6_twin 42 = .ok (.getfield 10, 3) := by decide +kernel
theorem dX6_twin_45 : decode cX6_twin 45 = .ok (.getfield 239, 3) := by decide +kernel
theorem dX6_twin_48 : decode cX6_twin 48 = .ok (.if_icmp .ge 51, 3) := by decide +kernel
theorem dX6_twin_51 : decode cX6_twin 51 = .ok (.iload_n 2, 1) := by decide +kernel
theorem dX6_twin_52 : decode cX6_twin 52 = .ok (.aload_n 0, 1) := by decide +kernel
theorem dX6_twin_53 : decode cX6_twin 53 = .ok (.getfield 10, 3) := by decide +kernel
theorem dX6_twin_56 : decode cX6_twin 56 = .ok (.iload 5, 2) := by decide +kernel
theorem dX6_twin_58 : decode cX6_twin 58 = .ok (.sipush 1023, 3) := by decide +kernel
theorem dX6_twin_61 : decode cX6_twin 61 = .ok (.invokevirtual 113, 3) := by decide +kernel
theorem dX6_twin_64 : decode cX6_twin 64 = .ok (.iadd, 1) := by decide +kernel
theorem dX6_twin_65 : decode cX6_twin 65 = .ok (.sipush 1000, 3) := by decide +kernel
theorem dX6_twin_68 : decode cX6_twin 68 = .ok (.isub, 1) := by decide +kernel
theorem dX6_twin_69 : decode cX6_twin 69 = .ok (.invokestatic 242, 3) := by decide +kernel
theorem dX6_twin_72 : decode cX6_twin 72 = .ok (.istore 6, 2) := by decide +kernel
theorem dX6_twin_74 : decode cX6_twin 74 = .ok (.iload 5, 2) := by decide +kernel
theorem dX6_twin_76 : decode cX6_twin 76 = .ok (.iload_n 1, 1) := by decide +kernel
theorem dX6_twin_77 : decode cX6_twin 77 = .ok (.if_icmp .eq 16, 3) := by decide +kernel
theorem dX6_twin_80 : decode cX6_twin 80 = .ok (.iload 6, 2) := by decide +kernel
theorem dX6_twin_82 : decode cX6_twin 82 = .ok (.iload_n 3, 1) := by decide +kernel
theorem dX6_twin_83 : decode cX6_twin 83 = .ok (.if_icmp .ge 10, 3) := by decide +kernel
theorem dX6_twin_86 : decode cX6_twin 86 = .ok (.iload 6, 2) := by decide +kernel
theorem dX6_twin_88 : decode cX6_twin 88 = .ok (.istore_n 3, 1) := by decide +kernel
theorem dX6_twin_89 : decode cX6_twin 89 = .ok (.iload 5, 2) := by decide +kernel
theorem dX6_twin_91 : decode cX6_twin 91 = .ok (.istore 4, 2) := by decide +kernel
theorem dX6_twin_93 : decode cX6_twin 93 = .ok (.iinc 5 1, 3) := by decide +kernel
theorem dX6_twin_96 : decode cX6_twin 96 = .ok (.goto (-57), 3) := by decide +kernel
theorem dX6_twin_99 : decode cX6_twin 99 = .ok (.iload 4, 2) := by decide +kernel
theorem dX6_twin_101 : decode cX6_twin 101 = .ok (.ireturn, 1) := by decide +kernel
theorem dX6_nearest_0 : decode cX6_nearest 0 = .ok (.aload_n 0, 1) := by decide +kernel
theorem dX6_nearest_1 : decode cX6_nearest 1 = .ok (.getfield 10, 3) := by decide +kernel
theorem dX6_nearest_4 : decode cX6_nearest 4 = .ok (.getfield 239, 3) := by decide +kernel
theorem dX6_nearest_7 : decode cX6_nearest 7 = .ok (.ifCond .ne 10, 3) := by decide +kernel
theorem dX6_nearest_10 : decode cX6_nearest 10 = .ok (.aload_n 0, 1) := by decide +kernel
theorem dX6_nearest_11 : decode cX6_nearest 11 = .ok (.bipush (-5), 2) := by decide +kernel
theorem dX6_nearest_13 : decode cX6_nearest 13 = .ok (.invokevirtual 59, 3) := by decide +kernel
theorem dX6_nearest_16 : decode cX6_nearest 16 = .ok (.ireturn, 1) := by decide +kernel
theorem dX6_nearest_17 : decode cX6_nearest 17 = .ok (.ldc_w 263, 3) := by decide +kernel
theorem dX6_nearest_20 : decode cX6_nearest 20 = .ok (.istore_n 1, 1) := by decide +kernel
theorem dX6_nearest_21 : decode cX6_nearest 21 = .ok (.iconst (-1), 1) := by decide +kernel
theorem dX6_nearest_22 : decode cX6_nearest 22 = .ok (.istore_n 2, 1) := by decide +kernel
theorem dX6_nearest_23 : decode cX6_nearest 23 = .ok (.iconst 0, 1) := by decide +kernel
theorem dX6_nearest_24 : decode cX6_nearest 24 = .ok (.istore_n 3, 1) := by decide +kernel
theorem dX6_nearest_25 : decode cX6_nearest 25 = .ok (.iload_n 3, 1) := by decide +kernel
theorem dX6_nearest_26 : decode cX6_nearest 26 = .ok (.aload_n 0, 1) := by decide +kernel
theorem dX6_nearest_27 : decode cX6_nearest 27 = .ok (.getfield 10, 3) := by decide +kernel
theorem dX6_nearest_30 : decode cX6_nearest 30 = .ok (.getfield 239, 3) := by decide +kernel
theorem dX6_nearest_33 : decode cX6_nearest 33 = .ok (.if_icmp .ge 33, 3) := by decide +kernel
theorem dX6_nearest_36 : decode cX6_nearest 36 = .ok (.aload_n 0, 1) := by decide +kernel
theorem dX6_nearest_37 : decode cX6_nearest 37 = .ok (.getfield 10, 3) := by decide +kernel
theorem dX6_nearest_40 : decode cX6_nearest 40 = .ok (.iload_n 3, 1) := by decide +kernel
theorem dX6_nearest_41 : decode cX6_nearest 41 = .ok (.invokevirtual 143, 3) := by decide +kernel
theorem dX6_nearest_44 : decode cX6_nearest 44 = .ok (.invokestatic 242, 3) := by decide +kernel
theorem dX6_nearest_47 : decode cX6_nearest 47 = .ok (.istore 4, 2) := by decide +kernel
theorem dX6_nearest_49 : decode cX6_nearest 49 = .ok (.iload 4, 2) := by decide +kernel
theorem dX6_nearest_51 : decode cX6_nearest 51 = .ok (.iload_n 1, 1) := by decide +kernel
theorem dX6_nearest_52 : decode cX6_nearest 52 = .ok (.if_icmp .ge 8, 3) := by decide +kernel
theorem dX6_nearest_55 : decode cX6_nearest 55 = .ok (.iload 4, 2) := by decide +kernel
theorem dX6_nearest_57 : decode cX6_nearest 57 = .ok (.istore_n 1, 1) := by decide +kernel
theorem dX6_nearest_58 : decode cX6_nearest 58 = .ok (.iload_n 3, 1) := by decide +kernel
theorem dX6_nearest_59 : decode cX6_nearest 59 = .ok (.istore_n 2, 1) := by decide +kernel
theorem dX6_nearest_60 : decode cX6_nearest 60 = .ok (.iinc 3 1, 3) := by decide +kernel
theorem dX6_nearest_63 : decode cX6_nearest 63 = .ok (.goto (-38), 3) := by decide +kernel
theorem dX6_nearest_66 : decode cX6_nearest 66 = .ok (.iload_n 2, 1) := by decide +kernel
theorem dX6_nearest_67 : decode cX6_nearest 67 = .ok (.ireturn, 1) := by decide +kernel
theorem dX6_move_0 : decode cX6_move 0 = .ok (.aload_n 0, 1) := by decide +kernel
theorem dX6_move_1 : decode cX6_move 1 = .ok (.getfield 10, 3) := by decide +kernel
theorem dX6_move_4 : decode cX6_move 4 = .ok (.iload_n 1, 1) := by decide +kernel
theorem dX6_move_5 : decode cX6_move 5 = .ok (.invokevirtual 93, 3) := by decide +kernel
theorem dX6_move_8 : decode cX6_move 8 = .ok (.ifCond .ne 9, 3) := by decide +kernel
theorem dX6_move_11 : decode cX6_move 11 = .ok (.aload_n 0, 1) := by decide +kernel
theorem dX6_move_12 : decode cX6_move 12 = .ok (.iconst (-1), 1) := by decide +kernel
theorem dX6_move_13 : decode cX6_move 13 = .ok (.invokevirtual 247, 3) := by decide +kernel
theorem dX6_move_16 : decode cX6_move 16 = .ok (.ireturn, 1) := by decide +kernel
theorem dX6_move_17 : decode cX6_move 17 = .ok (.iload_n 2, 1) := by decide +kernel
theorem dX6_move_18 : decode cX6_move 18 = .ok (.iconst 0, 1) := by decide +kernel
theorem dX6_move_19 : decode cX6_move 19 = .ok (.sipush 1000, 3) := by decide +kernel
theorem dX6_move_22 : decode cX6_move 22 = .ok (.invokestatic 63, 3) := by decide +kernel
theorem dX6_move_25 : decode cX6_move 25 = .ok (.ifCond .ne 10, 3) := by decide +kernel
theorem dX6_move_28 : decode cX6_move 28 = .ok (.aload_n 0, 1) := by decide +kernel
theorem dX6_move_29 : decode cX6_move 29 = .ok (.bipush (-6), 2) := by decide +kernel
theorem dX6_move_31 : decode cX6_move 31 = .ok (.invokevirtual 247, 3) := by decide +kernel
theorem dX6_move_34 : decode cX6_move 34 = .ok (.ireturn, 1) := by decide +kernel
theorem dX6_move_35 : decode cX6_move 35 = .ok (.aload_n 0, 1) := by decide +kernel
theorem dX6_move_36 : decode cX6_move 36 = .ok (.getfield 10, 3) := by decide +kernel
theorem dX6_move_39 : decode cX6_move 39 = .ok (.iload_n 1, 1) := by decide +kernel
theorem dX6_move_40 : decode cX6_move 40 = .ok (.iload_n 2, 1) := by decide +kernel
theorem dX6_move_41 : decode cX6_move 41 = .ok (.invokevirtual 264, 3) := by decide +kernel
theorem dX6_move_44 : decode cX6_move 44 = .ok (.ireturn, 1) := by decide +kernel
theorem dX6_judge_0 : decode cX6_judge 0 = .ok (.aload_n 0, 1) := by decide +kernel
theorem dX6_judge_1 : decode cX6_judge 1 = .ok (.iload_n 1, 1) := by decide +kernel
theorem dX6_judge_2 : decode cX6_judge 2 = .ok (.iload_n 2, 1) := by decide +kernel
theorem dX6_judge_3 : decode cX6_judge 3 = .ok (.iconst (-1), 1) := by decide +kernel
theorem dX6_judge_4 : decode cX6_judge 4 = .ok (.invokevirtual 267, 3) := by decide +kernel
theorem dX6_judge_7 : decode cX6_judge 7 = .ok (.istore_n 3, 1) := by decide +kernel
theorem dX6_judge_8 : decode cX6_judge 8 = .ok (.iload_n 3, 1) := by decide +kernel
theorem dX6_judge_9 : decode cX6_judge 9 = .ok (.ifCond .eq 9, 3) := by decide +kernel
theorem dX6_judge_12 : decode cX6_judge 12 = .ok (.aload_n 0, 1) := by decide +kernel
theorem dX6_judge_13 : decode cX6_judge 13 = .ok (.iload_n 3, 1) := by decide +kernel
theorem dX6_judge_14 : decode cX6_judge 14 = .ok (.invokevirtual 247, 3) := by decide +kernel
theorem dX6_judge_17 : decode cX6_judge 17 = .ok (.ireturn, 1) := by decide +kernel
theorem dX6_judge_18 : decode cX6_judge 18 = .ok (.aload_n 0, 1) := by decide +kernel
theorem dX6_judge_19 : decode cX6_judge 19 = .ok (.iload_n 1, 1) := by decide +kernel
theorem dX6_judge_20 : decode cX6_judge 20 = .ok (.iload_n 2, 1) := by decide +kernel
theorem dX6_judge_21 : decode cX6_judge 21 = .ok (.invokevirtual 270, 3) := by decide +kernel
theorem dX6_judge_24 : decode cX6_judge 24 = .ok (.ireturn, 1) := by decide +kernel
theorem dX6_round_0 : decode cX6_round 0 = .ok (.aload_n 0, 1) := by decide +kernel
theorem dX6_round_1 : decode cX6_round 1 = .ok (.iload_n 1, 1) := by decide +kernel
theorem dX6_round_2 : decode cX6_round 2 = .ok (.iload_n 2, 1) := by decide +kernel
theorem dX6_round_3 : decode cX6_round 3 = .ok (.iload_n 3, 1) := by decide +kernel
theorem dX6_round_4 : decode cX6_round 4 = .ok (.invokevirtual 267, 3) := by decide +kernel
theorem dX6_round_7 : decode cX6_round 7 = .ok (.istore 4, 2) := by decide +kernel
theorem dX6_round_9 : decode cX6_round 9 = .ok (.iload 4, 2) := by decide +kernel
theorem dX6_round_11 : decode cX6_round 11 = .ok (.ifCond .eq 10, 3) := by decide +kernel
theorem dX6_round_14 : decode cX6_round 14 = .ok (.aload_n 0, 1) := by decide +kernel
theorem dX6_round_15 : decode cX6_round 15 = .ok (.iload 4, 2) := by decide +kernel
theorem dX6_round_17 : decode cX6_round 17 = .ok (.invokevirtual 59, 3) := by decide +kernel
theorem dX6_round_20 : decode cX6_round 20 = .ok (.ireturn, 1) := by decide +kernel
theorem dX6_round_21 : decode cX6_round 21 = .ok (.aload_n 0, 1) := by decide +kernel
theorem dX6_round_22 : decode cX6_round 22 = .ok (.iload_n 1, 1) := by decide +kernel
theorem dX6_round_23 : decode cX6_round 23 = .ok (.iload_n 2, 1) := by decide +kernel
theorem dX6_round_24 : decode cX6_round 24 = .ok (.invokevirtual 270, 3) := by decide +kernel
theorem dX6_round_27 : decode cX6_round 27 = .ok (.iconst (-1), 1) := by decide +kernel
theorem dX6_round_28 : decode cX6_round 28 = .ok (.if_icmp .eq 10, 3) := by decide +kernel
theorem dX6_round_31 : decode cX6_round 31 = .ok (.aload_n 0, 1) := by decide +kernel
theorem dX6_round_32 : decode cX6_round 32 = .ok (.bipush (-6), 2) := by decide +kernel
theorem dX6_round_34 : decode cX6_round 34 = .ok (.invokevirtual 59, 3) := by decide +kernel
theorem dX6_round_37 : decode cX6_round 37 = .ok (.ireturn, 1) := by decide +kernel
theorem dX6_round_38 : decode cX6_round 38 = .ok (.iload_n 3, 1) := by decide +kernel
theorem dX6_round_39 : decode cX6_round 39 = .ok (.iconst (-1), 1) := by decide +kernel
theorem dX6_round_40 : decode cX6_round 40 = .ok (.if_icmp .ne 12, 3) := by decide +kernel
theorem dX6_round_43 : decode cX6_round 43 = .ok (.aload_n 0, 1) := by decide +kernel
theorem dX6_round_44 : decode cX6_round 44 = .ok (.iload_n 1, 1) := by decide +kernel
theorem dX6_round_45 : decode cX6_round 45 = .ok (.iload_n 2, 1) := by decide +kernel
theorem dX6_round_46 : decode cX6_round 46 = .ok (.invokevirtual 273, 3) := by decide +kernel
theorem dX6_round_49 : decode cX6_round 49 = .ok (.goto 9, 3) := by decide +kernel
theorem dX6_round_52 : decode cX6_round 52 = .ok (.aload_n 0, 1) := by decide +kernel
theorem dX6_round_53 : decode cX6_round 53 = .ok (.iload_n 1, 1) := by decide +kernel
theorem dX6_round_54 : decode cX6_round 54 = .ok (.iload_n 3, 1) := by decide +kernel
theorem dX6_round_55 : decode cX6_round 55 = .ok (.invokevirtual 276, 3) := by decide +kernel
theorem dX6_round_58 : decode cX6_round 58 = .ok (.ireturn, 1) := by decide +kernel
theorem dX6_change_0 : decode cX6_change 0 = .ok (.aload_n 0, 1) := by decide +kernel
theorem dX6_change_1 : decode cX6_change 1 = .ok (.getfield 10, 3) := by decide +kernel
theorem dX6_change_4 : decode cX6_change 4 = .ok (.iload_n 1, 1) := by decide +kernel
theorem dX6_change_5 : decode cX6_change 5 = .ok (.invokevirtual 146, 3) := by decide +kernel
theorem dX6_change_8 : decode cX6_change 8 = .ok (.ifCond .ne 9, 3) := by decide +kernel
theorem dX6_change_11 : decode cX6_change 11 = .ok (.aload_n 0, 1) := by decide +kernel
theorem dX6_change_12 : decode cX6_change 12 = .ok (.iconst (-1), 1) := by decide +kernel
