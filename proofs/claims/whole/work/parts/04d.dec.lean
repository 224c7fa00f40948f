theorem dX7_ask_6 : decode cX7_ask 6 = .ok (.ifCond .eq 22, 3) := by decide +kernel
theorem dX7_ask_9 : decode cX7_ask 9 = .ok (.iload_n 2, 1) := by decide +kernel
theorem dX7_ask_10 : decode cX7_ask 10 = .ok (.iconst 0, 1) := by decide +kernel
theorem dX7_ask_11 : decode cX7_ask 11 = .ok (.iload_n 1, 1) := by decide +kernel
theorem dX7_ask_12 : decode cX7_ask 12 = .ok (.ifCond .ne 8, 3) := by decide +kernel
theorem dX7_ask_15 : decode cX7_ask 15 = .ok (.bipush 99, 2) := by decide +kernel
theorem dX7_ask_17 : decode cX7_ask 17 = .ok (.goto 5, 3) := by decide +kernel
theorem dX7_ask_20 : decode cX7_ask 20 = .ok (.bipush 7, 2) := by decide +kernel
theorem dX7_ask_22 : decode cX7_ask 22 = .ok (.invokestatic 88, 3) := by decide +kernel
theorem dX7_ask_25 : decode cX7_ask 25 = .ok (.ifCond .ne 10, 3) := by decide +kernel
theorem dX7_ask_28 : decode cX7_ask 28 = .ok (.aload_n 0, 1) := by decide +kernel
theorem dX7_ask_29 : decode cX7_ask 29 = .ok (.bipush (-6), 2) := by decide +kernel
theorem dX7_ask_31 : decode cX7_ask 31 = .ok (.invokevirtual 81, 3) := by decide +kernel
theorem dX7_ask_34 : decode cX7_ask 34 = .ok (.ireturn, 1) := by decide +kernel
theorem dX7_ask_35 : decode cX7_ask 35 = .ok (.iload_n 1, 1) := by decide +kernel
theorem dX7_ask_36 : decode cX7_ask 36 = .ok (.ifCond .ne 10, 3) := by decide +kernel
theorem dX7_ask_39 : decode cX7_ask 39 = .ok (.aload_n 0, 1) := by decide +kernel
theorem dX7_ask_40 : decode cX7_ask 40 = .ok (.getfield 71, 3) := by decide +kernel
theorem dX7_ask_43 : decode cX7_ask 43 = .ok (.goto 7, 3) := by decide +kernel
theorem dX7_ask_46 : decode cX7_ask 46 = .ok (.aload_n 0, 1) := by decide +kernel
theorem dX7_ask_47 : decode cX7_ask 47 = .ok (.getfield 139, 3) := by decide +kernel
theorem dX7_ask_50 : decode cX7_ask 50 = .ok (.istore_n 3, 1) := by decide +kernel
theorem dX7_ask_51 : decode cX7_ask 51 = .ok (.iload_n 1, 1) := by decide +kernel
theorem dX7_ask_52 : decode cX7_ask 52 = .ok (.ifCond .ne 11, 3) := by decide +kernel
theorem dX7_ask_55 : decode cX7_ask 55 = .ok (.aload_n 0, 1) := by decide +kernel
theorem dX7_ask_56 : decode cX7_ask 56 = .ok (.iload_n 2, 1) := by decide +kernel
theorem dX7_ask_57 : decode cX7_ask 57 = .ok (.putfield 71, 3) := by decide +kernel
theorem dX7_ask_60 : decode cX7_ask 60 = .ok (.goto 8, 3) := by decide +kernel
theorem dX7_ask_63 : decode cX7_ask 63 = .ok (.aload_n 0, 1) := by decide +kernel
theorem dX7_ask_64 : decode cX7_ask 64 = .ok (.iload_n 2, 1) := by decide +kernel
theorem dX7_ask_65 : decode cX7_ask 65 = .ok (.putfield 139, 3) := by decide +kernel
theorem dX7_ask_68 : decode cX7_ask 68 = .ok (.iload_n 3, 1) := by decide +kernel
theorem dX7_ask_69 : decode cX7_ask 69 = .ok (.ireturn, 1) := by decide +kernel
theorem dX7_sign_0 : decode cX7_sign 0 = .ok (.aload_n 0, 1) := by decide +kernel
theorem dX7_sign_1 : decode cX7_sign 1 = .ok (.getfield 142, 3) := by decide +kernel
theorem dX7_sign_4 : decode cX7_sign 4 = .ok (.aload_n 0, 1) := by decide +kernel
theorem dX7_sign_5 : decode cX7_sign 5 = .ok (.getfield 13, 3) := by decide +kernel
theorem dX7_sign_8 : decode cX7_sign 8 = .ok (.aload_n 0, 1) := by decide +kernel
theorem dX7_sign_9 : decode cX7_sign 9 = .ok (.getfield 145, 3) := by decide +kernel
theorem dX7_sign_12 : decode cX7_sign 12 = .ok (.iaload, 1) := by decide +kernel
theorem dX7_sign_13 : decode cX7_sign 13 = .ok (.if_icmp .ge 25, 3) := by decide +kernel
theorem dX7_sign_16 : decode cX7_sign 16 = .ok (.aload_n 0, 1) := by decide +kernel
theorem dX7_sign_17 : decode cX7_sign 17 = .ok (.getfield 16, 3) := by decide +kernel
theorem dX7_sign_20 : decode cX7_sign 20 = .ok (.sipush 160, 3) := by decide +kernel
theorem dX7_sign_23 : decode cX7_sign 23 = .ok (.aload_n 0, 1) := by decide +kernel
theorem dX7_sign_24 : decode cX7_sign 24 = .ok (.getfield 145, 3) := by decide +kernel
theorem dX7_sign_27 : decode cX7_sign 27 = .ok (.imul, 1) := by decide +kernel
theorem dX7_sign_28 : decode cX7_sign 28 = .ok (.aload_n 0, 1) := by decide +kernel
theorem dX7_sign_29 : decode cX7_sign 29 = .ok (.getfield 142, 3) := by decide +kernel
theorem dX7_sign_32 : decode cX7_sign 32 = .ok (.iadd, 1) := by decide +kernel
theorem dX7_sign_33 : decode cX7_sign 33 = .ok (.laload, 1) := by decide +kernel
theorem dX7_sign_34 : decode cX7_sign 34 = .ok (.l2i, 1) := by decide +kernel
theorem dX7_sign_35 : decode cX7_sign 35 = .ok (.goto 4, 3) := by decide +kernel
theorem dX7_sign_38 : decode cX7_sign 38 = .ok (.iconst (-1), 1) := by decide +kernel
theorem dX7_sign_39 : decode cX7_sign 39 = .ok (.ireturn, 1) := by decide +kernel
theorem dX7_is_0 : decode cX7_is 0 = .ok (.aload_n 0, 1) := by decide +kernel
theorem dX7_is_1 : decode cX7_is 1 = .ok (.invokevirtual 148, 3) := by decide +kernel
theorem dX7_is_4 : decode cX7_is 4 = .ok (.iload_n 1, 1) := by decide +kernel
theorem dX7_is_5 : decode cX7_is 5 = .ok (.if_icmp .eq 5, 3) := by decide +kernel
theorem dX7_is_8 : decode cX7_is 8 = .ok (.iconst 0, 1) := by decide +kernel
theorem dX7_is_9 : decode cX7_is 9 = .ok (.ireturn, 1) := by decide +kernel
theorem dX7_is_10 : decode cX7_is 10 = .ok (.aload_n 0, 1) := by decide +kernel
theorem dX7_is_11 : decode cX7_is 11 = .ok (.dup, 1) := by decide +kernel
theorem dX7_is_12 : decode cX7_is 12 = .ok (.getfield 142, 3) := by decide +kernel
theorem dX7_is_15 : decode cX7_is 15 = .ok (.iconst 1, 1) := by decide +kernel
theorem dX7_is_16 : decode cX7_is 16 = .ok (.iadd, 1) := by decide +kernel
theorem dX7_is_17 : decode cX7_is 17 = .ok (.putfield 142, 3) := by decide +kernel
theorem dX7_is_20 : decode cX7_is 20 = .ok (.iconst 1, 1) := by decide +kernel
theorem dX7_is_21 : decode cX7_is 21 = .ok (.ireturn, 1) := by decide +kernel
theorem dX7_word_0 : decode cX7_word 0 = .ok (.iconst 0, 1) := by decide +kernel
theorem dX7_word_1 : decode cX7_word 1 = .ok (.istore_n 2, 1) := by decide +kernel
theorem dX7_word_2 : decode cX7_word 2 = .ok (.iload_n 2, 1) := by decide +kernel
theorem dX7_word_3 : decode cX7_word 3 = .ok (.aload_n 1, 1) := by decide +kernel
theorem dX7_word_4 : decode cX7_word 4 = .ok (.invokevirtual 152, 3) := by decide +kernel
theorem dX7_word_7 : decode cX7_word 7 = .ok (.if_icmp .ge 23, 3) := by decide +kernel
theorem dX7_word_10 : decode cX7_word 10 = .ok (.aload_n 0, 1) := by decide +kernel
theorem dX7_word_11 : decode cX7_word 11 = .ok (.aload_n 1, 1) := by decide +kernel
theorem dX7_word_12 : decode cX7_word 12 = .ok (.iload_n 2, 1) := by decide +kernel
theorem dX7_word_13 : decode cX7_word 13 = .ok (.invokevirtual 157, 3) := by decide +kernel
theorem dX7_word_16 : decode cX7_word 16 = .ok (.invokevirtual 161, 3) := by decide +kernel
theorem dX7_word_19 : decode cX7_word 19 = .ok (.ifCond .ne 5, 3) := by decide +kernel
theorem dX7_word_22 : decode cX7_word 22 = .ok (.iconst 0, 1) := by decide +kernel
theorem dX7_word_23 : decode cX7_word 23 = .ok (.ireturn, 1) := by decide +kernel
theorem dX7_word_24 : decode cX7_word 24 = .ok (.iinc 2 1, 3) := by decide +kernel
theorem dX7_word_27 : decode cX7_word 27 = .ok (.goto (-25), 3) := by decide +kernel
theorem dX7_word_30 : decode cX7_word 30 = .ok (.iconst 1, 1) := by decide +kernel
theorem dX7_word_31 : decode cX7_word 31 = .ok (.ireturn, 1) := by decide +kernel
theorem dX7_word__0 : decode cX7_word_ 0 = .ok (.aload_n 0, 1) := by decide +kernel
theorem dX7_word__1 : decode cX7_word_ 1 = .ok (.getfield 142, 3) := by decide +kernel
theorem dX7_word__4 : decode cX7_word_ 4 = .ok (.istore_n 3, 1) := by decide +kernel
theorem dX7_word__5 : decode cX7_word_ 5 = .ok (.aload_n 0, 1) := by decide +kernel
theorem dX7_word__6 : decode cX7_word_ 6 = .ok (.aload_n 1, 1) := by decide +kernel
theorem dX7_word__7 : decode cX7_word_ 7 = .ok (.invokevirtual 165, 3) := by decide +kernel
theorem dX7_word__10 : decode cX7_word_ 10 = .ok (.istore 4, 2) := by decide +kernel
theorem dX7_word__12 : decode cX7_word_ 12 = .ok (.iload 4, 2) := by decide +kernel
theorem dX7_word__14 : decode cX7_word_ 14 = .ok (.ifCond .eq 12, 3) := by decide +kernel
theorem dX7_word__17 : decode cX7_word_ 17 = .ok (.iload_n 2, 1) := by decide +kernel
theorem dX7_word__18 : decode cX7_word_ 18 = .ok (.ifCond .ne 8, 3) := by decide +kernel
theorem dX7_word__21 : decode cX7_word_ 21 = .ok (.aload_n 0, 1) := by decide +kernel
theorem dX7_word__22 : decode cX7_word_ 22 = .ok (.iload_n 3, 1) := by decide +kernel
theorem dX7_word__23 : decode cX7_word_ 23 = .ok (.putfield 142, 3) := by decide +kernel
theorem dX7_word__26 : decode cX7_word_ 26 = .ok (.iload 4, 2) := by decide +kernel
theorem dX7_word__28 : decode cX7_word_ 28 = .ok (.ifCond .eq 11, 3) := by decide +kernel
theorem dX7_word__31 : decode cX7_word_ 31 = .ok (.iload_n 2, 1) := by decide +kernel
theorem dX7_word__32 : decode cX7_word_ 32 = .ok (.ifCond .eq 7, 3) := by decide +kernel
theorem dX7_word__35 : decode cX7_word_ 35 = .ok (.iconst 1, 1) := by decide +kernel
theorem dX7_word__36 : decode cX7_word_ 36 = .ok (.goto 4, 3) := by decide +kernel
theorem dX7_word__39 : decode cX7_word_ 39 = .ok (.iconst 0, 1) := by decide +kernel
theorem dX7_word__40 : decode cX7_word_ 40 = .ok (.ireturn, 1) := by decide +kernel
theorem dX7_number_0 : decode cX7_number 0 = .ok (.aload_n 0, 1) := by decide +kernel
theorem dX7_number_1 : decode cX7_number 1 = .ok (.bipush 32, 2) := by decide +kernel
theorem dX7_number_3 : decode cX7_number 3 = .ok (.invokevirtual 161, 3) := by decide +kernel
theorem dX7_number_6 : decode cX7_number 6 = .ok (.ifCond .ne 5, 3) := by decide +kernel
theorem dX7_number_9 : decode cX7_number 9 = .ok (.iconst 0, 1) := by decide +kernel
theorem dX7_number_10 : decode cX7_number 10 = .ok (.ireturn, 1) := by decide +kernel
theorem dX7_number_11 : decode cX7_number 11 = .ok (.aload_n 0, 1) := by decide +kernel
theorem dX7_number_12 : decode cX7_number 12 = .ok (.getfield 142, 3) := by decide +kernel
theorem dX7_number_15 : decode cX7_number 15 = .ok (.istore 4, 2) := by decide +kernel
theorem dX7_number_17 : decode cX7_number 17 = .ok (.iconst 0, 1) := by decide +kernel
theorem dX7_number_18 : decode cX7_number 18 = .ok (.istore 5, 2) := by decide +kernel
theorem dX7_number_20 : decode cX7_number 20 = .ok (.aload_n 0, 1) := by decide +kernel
theorem dX7_number_21 : decode cX7_number 21 = .ok (.getfield 142, 3) := by decide +kernel
theorem dX7_number_24 : decode cX7_number 24 = .ok (.iload 4, 2) := by decide +kernel
theorem dX7_number_26 : decode cX7_number 26 = .ok (.isub, 1) := by decide +kernel
theorem dX7_number_27 : decode cX7_number 27 = .ok (.iconst 3, 1) := by decide +kernel
theorem dX7_number_28 : decode cX7_number 28 = .ok (.if_icmp .ge 49, 3) := by decide +kernel
theorem dX7_number_31 : decode cX7_number 31 = .ok (.aload_n 0, 1) := by decide +kernel
theorem dX7_number_32 : decode cX7_number 32 = .ok (.invokevirtual 148, 3) := by decide +kernel
theorem dX7_number_35 : decode cX7_number 35 = .ok (.bipush 48, 2) := by decide +kernel
theorem dX7_number_37 : decode cX7_number 37 = .ok (.if_icmp .lt 40, 3) := by decide +kernel
theorem dX7_number_40 : decode cX7_number 40 = .ok (.aload_n 0, 1) := by decide +kernel
theorem dX7_number_41 : decode cX7_number 41 = .ok (.invokevirtual 148, 3) := by decide +kernel
theorem dX7_number_44 : decode cX7_number 44 = .ok (.bipush 57, 2) := by decide +kernel
theorem dX7_number_46 : decode cX7_number 46 = .ok (.if_icmp .gt 31, 3) := by decide +kernel
theorem dX7_number_49 : decode cX7_number 49 = .ok (.bipush 10, 2) := by decide +kernel
theorem dX7_number_51 : decode cX7_number 51 = .ok (.iload 5, 2) := by decide +kernel
theorem dX7_number_53 : decode cX7_number 53 = .ok (.imul, 1) := by decide +kernel
theorem dX7_number_54 : decode cX7_number 54 = .ok (.aload_n 0, 1) := by decide +kernel
theorem dX7_number_55 : decode cX7_number 55 = .ok (.invokevirtual 148, 3) := by decide +kernel
theorem dX7_number_58 : decode cX7_number 58 = .ok (.iadd, 1) := by decide +kernel
theorem dX7_number_59 : decode cX7_number 59 = .ok (.bipush 48, 2) := by decide +kernel
theorem dX7_number_61 : decode cX7_number 61 = .ok (.isub, 1) := by decide +kernel
theorem dX7_number_62 : decode cX7_number 62 = .ok (.istore 5, 2) := by decide +kernel
theorem dX7_number_64 : decode cX7_number 64 = .ok (.aload_n 0, 1) := by decide +kernel
theorem dX7_number_65 : decode cX7_number 65 = .ok (.dup, 1) := by decide +kernel
theorem dX7_number_66 : decode cX7_number 66 = .ok (.getfield 142, 3) := by decide +kernel
theorem dX7_number_69 : decode cX7_number 69 = .ok (.iconst 1, 1) := by decide +kernel
theorem dX7_number_70 : decode cX7_number 70 = .ok (.iadd, 1) := by decide +kernel
theorem dX7_number_71 : decode cX7_number 71 = .ok (.putfield 142, 3) := by decide +kernel
theorem dX7_number_74 : decode cX7_number 74 = .ok (.goto (-54), 3) := by decide +kernel
theorem dX7_number_77 : decode cX7_number 77 = .ok (.aload_n 0, 1) := by decide +kernel
theorem dX7_number_78 : decode cX7_number 78 = .ok (.getfield 142, 3) := by decide +kernel
theorem dX7_number_81 : decode cX7_number 81 = .ok (.iload 4, 2) := by decide +kernel
theorem dX7_number_83 : decode cX7_number 83 = .ok (.if_icmp .ne 5, 3) := by decide +kernel
theorem dX7_number_86 : decode cX7_number 86 = .ok (.iconst 0, 1) := by decide +kernel
theorem dX7_number_87 : decode cX7_number 87 = .ok (.ireturn, 1) := by decide +kernel
theorem dX7_number_88 : decode cX7_number 88 = .ok (.aload_n 0, 1) := by decide +kernel
theorem dX7_number_89 : decode cX7_number 89 = .ok (.getfield 56, 3) := by decide +kernel
theorem dX7_number_92 : decode cX7_number 92 = .ok (.iload_n 1, 1) := by decide +kernel
theorem dX7_number_93 : decode cX7_number 93 = .ok (.iload 5, 2) := by decide +kernel
theorem dX7_number_95 : decode cX7_number 95 = .ok (.iastore, 1) := by decide +kernel
theorem dX7_number_96 : decode cX7_number 96 = .ok (.iload 5, 2) := by decide +kernel
theorem dX7_number_98 : decode cX7_number 98 = .ok (.iload_n 2, 1) := by decide +kernel
theorem dX7_number_99 : decode cX7_number 99 = .ok (.iload_n 3, 1) := by decide +kernel
theorem dX7_number_100 : decode cX7_number 100 = .ok (.invokestatic 88, 3) := by decide +kernel
theorem dX7_number_103 : decode cX7_number 103 = .ok (.istore 6, 2) := by decide +kernel
theorem dX7_number_105 : decode cX7_number 105 = .ok (.iload 6, 2) := by decide +kernel
theorem dX7_number_107 : decode cX7_number 107 = .ok (.ifCond .ne 9, 3) := by decide +kernel
theorem dX7_number_110 : decode cX7_number 110 = .ok (.aload_n 0, 1) := by decide +kernel
theorem dX7_number_111 : decode cX7_number 111 = .ok (.iload 4, 2) := by decide +kernel
theorem dX7_number_113 : decode cX7_number 113 = .ok (.putfield 142, 3) := by decide +kernel
theorem dX7_number_116 : decode cX7_number 116 = .ok (.iload 6, 2) := by decide +kernel
theorem dX7_number_118 : decode cX7_number 118 = .ok (.ireturn, 1) := by decide +kernel
theorem dX7_stands_0 : decode cX7_stands 0 = .ok (.iload_n 2, 1) := by decide +kernel
theorem dX7_stands_1 : decode cX7_stands 1 = .ok (.ifCond .ne 8, 3) := by decide +kernel
theorem dX7_stands_4 : decode cX7_stands 4 = .ok (.aload_n 0, 1) := by decide +kernel
theorem dX7_stands_5 : decode cX7_stands 5 = .ok (.iload_n 1, 1) := by decide +kernel
theorem dX7_stands_6 : decode cX7_stands 6 = .ok (.putfield 142, 3) := by decide +kernel
theorem dX7_stands_9 : decode cX7_stands 9 = .ok (.iload_n 2, 1) := by decide +kernel
theorem dX7_stands_10 : decode cX7_stands 10 = .ok (.ireturn, 1) := by decide +kernel
theorem dX7_two_0 : decode cX7_two 0 = .ok (.aload_n 0, 1) := by decide +kernel
theorem dX7_two_1 : decode cX7_two 1 = .ok (.iconst 0, 1) := by decide +kernel
theorem dX7_two_2 : decode cX7_two 2 = .ok (.iconst 0, 1) := by decide +kernel
theorem dX7_two_3 : decode cX7_two 3 = .ok (.aload_n 0, 1) := by decide +kernel
theorem dX7_two_4 : decode cX7_two 4 = .ok (.getfield 85, 3) := by decide +kernel
theorem dX7_two_7 : decode cX7_two 7 = .ok (.iconst 1, 1) := by decide +kernel
theorem dX7_two_8 : decode cX7_two 8 = .ok (.isub, 1) := by decide +kernel
theorem dX7_two_9 : decode cX7_two 9 = .ok (.invokevirtual 169, 3) := by decide +kernel
theorem dX7_two_12 : decode cX7_two 12 = .ok (.ifCond .ne 5, 3) := by decide +kernel
theorem dX7_two_15 : decode cX7_two 15 = .ok (.iconst 0, 1) := by decide +kernel
theorem dX7_two_16 : decode cX7_two 16 = .ok (.ireturn, 1) := by decide +kernel
theorem dX7_two_17 : decode cX7_two 17 = .ok (.aload_n 0, 1) := by decide +kernel
theorem dX7_two_18 : decode cX7_two 18 = .ok (.getfield 142, 3) := by decide +kernel
theorem dX7_two_21 : decode cX7_two 21 = .ok (.iconst 1, 1) := by decide +kernel
theorem dX7_two_22 : decode cX7_two 22 = .ok (.iadd, 1) := by decide +kernel
theorem dX7_two_23 : decode cX7_two 23 = .ok (.istore_n 1, 1) := by decide +kernel
theorem dX7_two_24 : decode cX7_two 24 = .ok (.aload_n 0, 1) := by decide +kernel
theorem dX7_two_25 : decode cX7_two 25 = .ok (.iconst 1, 1) := by decide +kernel
theorem dX7_two_26 : decode cX7_two 26 = .ok (.iconst 0, 1) := by decide +kernel
theorem dX7_two_27 : decode cX7_two 27 = .ok (.aload_n 0, 1) := by decide +kernel
theorem dX7_two_28 : decode cX7_two 28 = .ok (.getfield 85, 3) := by decide +kernel
theorem dX7_two_31 : decode cX7_two 31 = .ok (.iconst 1, 1) := by decide +kernel
theorem dX7_two_32 : decode cX7_two 32 = .ok (.isub, 1) := by decide +kernel
theorem dX7_two_33 : decode cX7_two 33 = .ok (.invokevirtual 169, 3) := by decide +kernel
theorem dX7_two_36 : decode cX7_two 36 = .ok (.ifCond .eq 46, 3) := by decide +kernel
theorem dX7_two_39 : decode cX7_two 39 = .ok (.aload_n 0, 1) := by decide +kernel
theorem dX7_two_40 : decode cX7_two 40 = .ok (.iload_n 1, 1) := by decide +kernel
theorem dX7_two_41 : decode cX7_two 41 = .ok (.aload_n 0, 1) := by decide +kernel
theorem dX7_two_42 : decode cX7_two 42 = .ok (.getfield 56, 3) := by decide +kernel
theorem dX7_two_45 : decode cX7_two 45 = .ok (.iconst 0, 1) := by decide +kernel
theorem dX7_two_46 : decode cX7_two 46 = .ok (.iaload, 1) := by decide +kernel
theorem dX7_two_47 : decode cX7_two 47 = .ok (.aload_n 0, 1) := by decide +kernel
theorem dX7_two_48 : decode cX7_two 48 = .ok (.getfield 56, 3) := by decide +kernel
theorem dX7_two_51 : decode cX7_two 51 = .ok (.iconst 1, 1) := by decide +kernel
theorem dX7_two_52 : decode cX7_two 52 = .ok (.iaload, 1) := by decide +kernel
theorem dX7_two_53 : decode cX7_two 53 = .ok (.if_icmp .eq 7, 3) := by decide +kernel
theorem dX7_two_56 : decode cX7_two 56 = .ok (.iconst 1, 1) := by decide +kernel
theorem dX7_two_57 : decode cX7_two 57 = .ok (.goto 4, 3) := by decide +kernel
theorem dX7_two_60 : decode cX7_two 60 = .ok (.iconst 0, 1) := by decide +kernel
theorem dX7_two_61 : decode cX7_two 61 = .ok (.invokevirtual 172, 3) := by decide +kernel
theorem dX7_two_64 : decode cX7_two 64 = .ok (.ifCond .eq 18, 3) := by decide +kernel
theorem dX7_two_67 : decode cX7_two 67 = .ok (.aload_n 0, 1) := by decide +kernel
theorem dX7_two_68 : decode cX7_two 68 = .ok (.iconst 2, 1) := by decide +kernel
theorem dX7_two_69 : decode cX7_two 69 = .ok (.iconst 0, 1) := by decide +kernel
theorem dX7_two_70 : decode cX7_two 70 = .ok (.bipush 9, 2) := by decide +kernel
theorem dX7_two_72 : decode cX7_two 72 = .ok (.invokevirtual 169, 3) := by decide +kernel
theorem dX7_two_75 : decode cX7_two 75 = .ok (.ifCond .eq 7, 3) := by decide +kernel
theorem dX7_two_78 : decode cX7_two 78 = .ok (.iconst 1, 1) := by decide +kernel
theorem dX7_two_79 : decode cX7_two 79 = .ok (.goto 4, 3) := by decide +kernel
theorem dX7_two_82 : decode cX7_two 82 = .ok (.iconst 0, 1) := by decide +kernel
theorem dX7_two_83 : decode cX7_two 83 = .ok (.ireturn, 1) := by decide +kernel
theorem dX7_item_0 : decode cX7_item 0 = .ok (.aload_n 0, 1) := by decide +kernel
theorem dX7_item_1 : decode cX7_item 1 = .ok (.invokevirtual 148, 3) := by decide +kernel
theorem dX7_item_4 : decode cX7_item 4 = .ok (.tableswitch 430 97 113 #[314, 267, 430, 430, 430, 430, 84, 396, 430, 430, 430, 430, 430, 430, 430, 362, 201], 84) := by decide +kernel
theorem dX7_item_88 : decode cX7_item 88 = .ok (.aload_n 0, 1) := by decide +kernel
theorem dX7_item_89 : decode cX7_item 89 = .ok (.ldc 176, 2) := by decide +kernel
theorem dX7_item_91 : decode cX7_item 91 = .ok (.aload_n 0, 1) := by decide +kernel
theorem dX7_item_92 : decode cX7_item 92 = .ok (.getfield 92, 3) := by decide +kernel
theorem dX7_item_95 : decode cX7_item 95 = .ok (.bipush 10, 2) := by decide +kernel
theorem dX7_item_97 : decode cX7_item 97 = .ok (.if_icmp .ge 7, 3) := by decide +kernel
theorem dX7_item_100 : decode cX7_item 100 = .ok (.iconst 1, 1) := by decide +kernel
theorem dX7_item_101 : decode cX7_item 101 = .ok (.goto 4, 3) := by decide +kernel
theorem dX7_item_104 : decode cX7_item 104 = .ok (.iconst 0, 1) := by decide +kernel
theorem dX7_item_105 : decode cX7_item 105 = .ok (.invokevirtual 178, 3) := by decide +kernel
theorem dX7_item_108 : decode cX7_item 108 = .ok (.ifCond .eq 58, 3) := by decide +kernel
theorem dX7_item_111 : decode cX7_item 111 = .ok (.aload_n 0, 1) := by decide +kernel
theorem dX7_item_112 : decode cX7_item 112 = .ok (.iconst 0, 1) := by decide +kernel
theorem dX7_item_113 : decode cX7_item 113 = .ok (.iconst 1, 1) := by decide +kernel
theorem dX7_item_114 : decode cX7_item 114 = .ok (.sipush 999, 3) := by decide +kernel
theorem dX7_item_117 : decode cX7_item 117 = .ok (.invokevirtual 169, 3) := by decide +kernel
theorem dX7_item_120 : decode cX7_item 120 = .ok (.ifCond .eq 46, 3) := by decide +kernel
theorem dX7_item_123 : decode cX7_item 123 = .ok (.aload_n 0, 1) := by decide +kernel
theorem dX7_item_124 : decode cX7_item 124 = .ok (.iconst 1, 1) := by decide +kernel
theorem dX7_item_125 : decode cX7_item 125 = .ok (.iconst 0, 1) := by decide +kernel
theorem dX7_item_126 : decode cX7_item 126 = .ok (.iconst 2, 1) := by decide +kernel
theorem dX7_item_127 : decode cX7_item 127 = .ok (.invokevirtual 169, 3) := by decide +kernel
theorem dX7_item_130 : decode cX7_item 130 = .ok (.ifCond .eq 36, 3) := by decide +kernel
theorem dX7_item_133 : decode cX7_item 133 = .ok (.aload_n 0, 1) := by decide +kernel
theorem dX7_item_134 : decode cX7_item 134 = .ok (.iconst 2, 1) := by decide +kernel
theorem dX7_item_135 : decode cX7_item 135 = .ok (.iconst 0, 1) := by decide +kernel
theorem dX7_item_136 : decode cX7_item 136 = .ok (.bipush 10, 2) := by decide +kernel
theorem dX7_item_138 : decode cX7_item 138 = .ok (.invokevirtual 169, 3) := by decide +kernel
theorem dX7_item_141 : decode cX7_item 141 = .ok (.ifCond .eq 25, 3) := by decide +kernel
theorem dX7_item_144 : decode cX7_item 144 = .ok (.aload_n 0, 1) := by decide +kernel
theorem dX7_item_145 : decode cX7_item 145 = .ok (.iconst 3, 1) := by decide +kernel
theorem dX7_item_146 : decode cX7_item 146 = .ok (.iconst 0, 1) := by decide +kernel
theorem dX7_item_147 : decode cX7_item 147 = .ok (.bipush 10, 2) := by decide +kernel
theorem dX7_item_149 : decode cX7_item 149 = .ok (.invokevirtual 169, 3) := by decide +kernel
theorem dX7_item_152 : decode cX7_item 152 = .ok (.ifCond .eq 14, 3) := by decide +kernel
theorem dX7_item_155 : decode cX7_item 155 = .ok (.aload_n 0, 1) := by decide +kernel
theorem dX7_item_156 : decode cX7_item 156 = .ok (.iconst 4, 1) := by decide +kernel
theorem dX7_item_157 : decode cX7_item 157 = .ok (.iconst 0, 1) := by decide +kernel
theorem dX7_item_158 : decode cX7_item 158 = .ok (.bipush 10, 2) := by decide +kernel
theorem dX7_item_160 : decode cX7_item 160 = .ok (.invokevirtual 169, 3) := by decide +kernel
theorem dX7_item_163 : decode cX7_item 163 = .ok (.ifCond .ne 5, 3) := by decide +kernel
theorem dX7_item_166 : decode cX7_item 166 = .ok (.iconst 0, 1) := by decide +kernel
theorem dX7_item_167 : decode cX7_item 167 = .ok (.ireturn, 1) := by decide +kernel
theorem dX7_item_168 : decode cX7_item 168 = .ok (.aload_n 0, 1) := by decide +kernel
theorem dX7_item_169 : decode cX7_item 169 = .ok (.aload_n 0, 1) := by decide +kernel
theorem dX7_item_170 : decode cX7_item 170 = .ok (.getfield 56, 3) := by decide +kernel
theorem dX7_item_173 : decode cX7_item 173 = .ok (.iconst 0, 1) := by decide +kernel
theorem dX7_item_174 : decode cX7_item 174 = .ok (.iaload, 1) := by decide +kernel
theorem dX7_item_175 : decode cX7_item 175 = .ok (.aload_n 0, 1) := by decide +kernel
theorem dX7_item_176 : decode cX7_item 176 = .ok (.getfield 56, 3) := by decide +kernel
theorem dX7_item_179 : decode cX7_item 179 = .ok (.iconst 1, 1) := by decide +kernel
theorem dX7_item_180 : decode cX7_item 180 = .ok (.iaload, 1) := by decide +kernel
theorem dX7_item_181 : decode cX7_item 181 = .ok (.aload_n 0, 1) := by decide +kernel
theorem dX7_item_182 : decode cX7_item 182 = .ok (.getfield 56, 3) := by decide +kernel
theorem dX7_item_185 : decode cX7_item 185 = .ok (.iconst 2, 1) := by decide +kernel
theorem dX7_item_186 : decode cX7_item 186 = .ok (.iaload, 1) := by decide +kernel
theorem dX7_item_187 : decode cX7_item 187 = .ok (.aload_n 0, 1) := by decide +kernel
theorem dX7_item_188 : decode cX7_item 188 = .ok (.getfield 56, 3) := by decide +kernel
theorem dX7_item_191 : decode cX7_item 191 = .ok (.iconst 3, 1) := by decide +kernel
theorem dX7_item_192 : decode cX7_item 192 = .ok (.iaload, 1) := by decide +kernel
theorem dX7_item_193 : decode cX7_item 193 = .ok (.aload_n 0, 1) := by decide +kernel
theorem dX7_item_194 : decode cX7_item 194 = .ok (.getfield 56, 3) := by decide +kernel
theorem dX7_item_197 : decode cX7_item 197 = .ok (.iconst 4, 1) := by decide +kernel
theorem dX7_item_198 : decode cX7_item 198 = .ok (.iaload, 1) := by decide +kernel
theorem dX7_item_199 : decode cX7_item 199 = .ok (.invokevirtual 123, 3) := by decide +kernel
theorem dX7_item_202 : decode cX7_item 202 = .ok (.pop, 1) := by decide +kernel
theorem dX7_item_203 : decode cX7_item 203 = .ok (.iconst 1, 1) := by decide +kernel
theorem dX7_item_204 : decode cX7_item 204 = .ok (.ireturn, 1) := by decide +kernel
theorem dX7_item_205 : decode cX7_item 205 = .ok (.aload_n 0, 1) := by decide +kernel
theorem dX7_item_206 : decode cX7_item 206 = .ok (.ldc 181, 2) := by decide +kernel
theorem dX7_item_208 : decode cX7_item 208 = .ok (.aload_n 0, 1) := by decide +kernel
theorem dX7_item_209 : decode cX7_item 209 = .ok (.getfield 85, 3) := by decide +kernel
theorem dX7_item_212 : decode cX7_item 212 = .ok (.bipush 8, 2) := by decide +kernel
theorem dX7_item_214 : decode cX7_item 214 = .ok (.if_icmp .ge 7, 3) := by decide +kernel
theorem dX7_item_217 : decode cX7_item 217 = .ok (.iconst 1, 1) := by decide +kernel
theorem dX7_item_218 : decode cX7_item 218 = .ok (.goto 4, 3) := by decide +kernel
theorem dX7_item_221 : decode cX7_item 221 = .ok (.iconst 0, 1) := by decide +kernel
theorem dX7_item_222 : decode cX7_item 222 = .ok (.invokevirtual 178, 3) := by decide +kernel
theorem dX7_item_225 : decode cX7_item 225 = .ok (.ifCond .eq 25, 3) := by decide +kernel
theorem dX7_item_228 : decode cX7_item 228 = .ok (.aload_n 0, 1) := by decide +kernel
theorem dX7_item_229 : decode cX7_item 229 = .ok (.iconst 0, 1) := by decide +kernel
theorem dX7_item_230 : decode cX7_item 230 = .ok (.iconst 0, 1) := by decide +kernel
theorem dX7_item_231 : decode cX7_item 231 = .ok (.bipush 6, 2) := by decide +kernel
theorem dX7_item_233 : decode cX7_item 233 = .ok (.invokevirtual 169, 3) := by decide +kernel
theorem dX7_item_236 : decode cX7_item 236 = .ok (.ifCond .eq 14, 3) := by decide +kernel
theorem dX7_item_239 : decode cX7_item 239 = .ok (.aload_n 0, 1) := by decide +kernel
theorem dX7_item_240 : decode cX7_item 240 = .ok (.iconst 1, 1) := by decide +kernel
theorem dX7_item_241 : decode cX7_item 241 = .ok (.iconst 0, 1) := by decide +kernel
theorem dX7_item_242 : decode cX7_item 242 = .ok (.bipush 9, 2) := by decide +kernel
theorem dX7_item_244 : decode cX7_item 244 = .ok (.invokevirtual 169, 3) := by decide +kernel
theorem dX7_item_247 : decode cX7_item 247 = .ok (.ifCond .ne 5, 3) := by decide +kernel
theorem dX7_item_250 : decode cX7_item 250 = .ok (.iconst 0, 1) := by decide +kernel
theorem dX7_item_251 : decode cX7_item 251 = .ok (.ireturn, 1) := by decide +kernel
theorem dX7_item_252 : decode cX7_item 252 = .ok (.aload_n 0, 1) := by decide +kernel
theorem dX7_item_253 : decode cX7_item 253 = .ok (.aload_n 0, 1) := by decide +kernel
theorem dX7_item_254 : decode cX7_item 254 = .ok (.getfield 56, 3) := by decide +kernel
theorem dX7_item_257 : decode cX7_item 257 = .ok (.iconst 0, 1) := by decide +kernel
theorem dX7_item_258 : decode cX7_item 258 = .ok (.iaload, 1) := by decide +kernel
theorem dX7_item_259 : decode cX7_item 259 = .ok (.aload_n 0, 1) := by decide +kernel
theorem dX7_item_260 : decode cX7_item 260 = .ok (.getfield 56, 3) := by decide +kernel
theorem dX7_item_263 : decode cX7_item 263 = .ok (.iconst 1, 1) := by decide +kernel
theorem dX7_item_264 : decode cX7_item 264 = .ok (.iaload, 1) := by decide +kernel
theorem dX7_item_265 : decode cX7_item 265 = .ok (.invokevirtual 119, 3) := by decide +kernel
theorem dX7_item_268 : decode cX7_item 268 = .ok (.pop, 1) := by decide +kernel
theorem dX7_item_269 : decode cX7_item 269 = .ok (.iconst 1, 1) := by decide +kernel
theorem dX7_item_270 : decode cX7_item 270 = .ok (.ireturn, 1) := by decide +kernel
theorem dX7_item_271 : decode cX7_item 271 = .ok (.aload_n 0, 1) := by decide +kernel
theorem dX7_item_272 : decode cX7_item 272 = .ok (.ldc 183, 2) := by decide +kernel
theorem dX7_item_274 : decode cX7_item 274 = .ok (.invokevirtual 165, 3) := by decide +kernel
theorem dX7_item_277 : decode cX7_item 277 = .ok (.ifCond .eq 10, 3) := by decide +kernel
theorem dX7_item_280 : decode cX7_item 280 = .ok (.aload_n 0, 1) := by decide +kernel
theorem dX7_item_281 : decode cX7_item 281 = .ok (.invokevirtual 184, 3) := by decide +kernel
theorem dX7_item_284 : decode cX7_item 284 = .ok (.ifCond .ne 5, 3) := by decide +kernel
theorem dX7_item_287 : decode cX7_item 287 = .ok (.iconst 0, 1) := by decide +kernel
theorem dX7_item_288 : decode cX7_item 288 = .ok (.ireturn, 1) := by decide +kernel
theorem dX7_item_289 : decode cX7_item 289 = .ok (.aload_n 0, 1) := by decide +kernel
theorem dX7_item_290 : decode cX7_item 290 = .ok (.getfield 26, 3) := by decide +kernel
theorem dX7_item_293 : decode cX7_item 293 = .ok (.bipush 8, 2) := by decide +kernel
theorem dX7_item_295 : decode cX7_item 295 = .ok (.aload_n 0, 1) := by decide +kernel
theorem dX7_item_296 : decode cX7_item 296 = .ok (.getfield 56, 3) := by decide +kernel
theorem dX7_item_299 : decode cX7_item 299 = .ok (.iconst 0, 1) := by decide +kernel
theorem dX7_item_300 : decode cX7_item 300 = .ok (.iaload, 1) := by decide +kernel
theorem dX7_item_301 : decode cX7_item 301 = .ok (.imul, 1) := by decide +kernel
theorem dX7_item_302 : decode cX7_item 302 = .ok (.aload_n 0, 1) := by decide +kernel
theorem dX7_item_303 : decode cX7_item 303 = .ok (.getfield 56, 3) := by decide +kernel
theorem dX7_item_306 : decode cX7_item 306 = .ok (.iconst 1, 1) := by decide +kernel
theorem dX7_item_307 : decode cX7_item 307 = .ok (.iaload, 1) := by decide +kernel
theorem dX7_item_308 : decode cX7_item 308 = .ok (.iadd, 1) := by decide +kernel
theorem dX7_item_309 : decode cX7_item 309 = .ok (.aload_n 0, 1) := by decide +kernel
theorem dX7_item_310 : decode cX7_item 310 = .ok (.getfield 56, 3) := by decide +kernel
theorem dX7_item_313 : decode cX7_item 313 = .ok (.iconst 2, 1) := by decide +kernel
theorem dX7_item_314 : decode cX7_item 314 = .ok (.iaload, 1) := by decide +kernel
theorem dX7_item_315 : decode cX7_item 315 = .ok (.iastore, 1) := by decide +kernel
theorem dX7_item_316 : decode cX7_item 316 = .ok (.iconst 1, 1) := by decide +kernel
theorem dX7_item_317 : decode cX7_item 317 = .ok (.ireturn, 1) := by decide +kernel
theorem dX7_item_318 : decode cX7_item 318 = .ok (.aload_n 0, 1) := by decide +kernel
theorem dX7_item_319 : decode cX7_item 319 = .ok (.ldc 188, 2) := by decide +kernel
theorem dX7_item_321 : decode cX7_item 321 = .ok (.invokevirtual 165, 3) := by decide +kernel
theorem dX7_item_324 : decode cX7_item 324 = .ok (.ifCond .eq 10, 3) := by decide +kernel
theorem dX7_item_327 : decode cX7_item 327 = .ok (.aload_n 0, 1) := by decide +kernel
theorem dX7_item_328 : decode cX7_item 328 = .ok (.invokevirtual 184, 3) := by decide +kernel
theorem dX7_item_331 : decode cX7_item 331 = .ok (.ifCond .ne 5, 3) := by decide +kernel
theorem dX7_item_334 : decode cX7_item 334 = .ok (.iconst 0, 1) := by decide +kernel
theorem dX7_item_335 : decode cX7_item 335 = .ok (.ireturn, 1) := by decide +kernel
theorem dX7_item_336 : decode cX7_item 336 = .ok (.aload_n 0, 1) := by decide +kernel
theorem dX7_item_337 : decode cX7_item 337 = .ok (.getfield 26, 3) := by decide +kernel
theorem dX7_item_340 : decode cX7_item 340 = .ok (.bipush 8, 2) := by decide +kernel
theorem dX7_item_342 : decode cX7_item 342 = .ok (.aload_n 0, 1) := by decide +kernel
theorem dX7_item_343 : decode cX7_item 343 = .ok (.getfield 56, 3) := by decide +kernel
theorem dX7_item_346 : decode cX7_item 346 = .ok (.iconst 0, 1) := by decide +kernel
theorem dX7_item_347 : decode cX7_item 347 = .ok (.iaload, 1) := by decide +kernel
theorem dX7_item_348 : decode cX7_item 348 = .ok (.imul, 1) := by decide +kernel
theorem dX7_item_349 : decode cX7_item 349 = .ok (.aload_n 0, 1) := by decide +kernel
theorem dX7_item_350 : decode cX7_item 350 = .ok (.getfield 56, 3) := by decide +kernel
theorem dX7_item_353 : decode cX7_item 353 = .ok (.iconst 1, 1) := by decide +kernel
theorem dX7_item_354 : decode cX7_item 354 = .ok (.iaload, 1) := by decide +kernel
theorem dX7_item_355 : decode cX7_item 355 = .ok (.iadd, 1) := by decide +kernel
theorem dX7_item_356 : decode cX7_item 356 = .ok (.aload_n 0, 1) := by decide +kernel
theorem dX7_item_357 : decode cX7_item 357 = .ok (.getfield 56, 3) := by decide +kernel
theorem dX7_item_360 : decode cX7_item 360 = .ok (.iconst 2, 1) := by decide +kernel
theorem dX7_item_361 : decode cX7_item 361 = .ok (.iaload, 1) := by decide +kernel
theorem dX7_item_362 : decode cX7_item 362 = .ok (.ineg, 1) := by decide +kernel
theorem dX7_item_363 : decode cX7_item 363 = .ok (.iastore, 1) := by decide +kernel
theorem dX7_item_364 : decode cX7_item 364 = .ok (.iconst 1, 1) := by decide +kernel
theorem dX7_item_365 : decode cX7_item 365 = .ok (.ireturn, 1) := by decide +kernel
theorem dX7_item_366 : decode cX7_item 366 = .ok (.aload_n 0, 1) := by decide +kernel
theorem dX7_item_367 : decode cX7_item 367 = .ok (.ldc 190, 2) := by decide +kernel
theorem dX7_item_369 : decode cX7_item 369 = .ok (.invokevirtual 165, 3) := by decide +kernel
theorem dX7_item_372 : decode cX7_item 372 = .ok (.ifCond .eq 14, 3) := by decide +kernel
theorem dX7_item_375 : decode cX7_item 375 = .ok (.aload_n 0, 1) := by decide +kernel
theorem dX7_item_376 : decode cX7_item 376 = .ok (.iconst 0, 1) := by decide +kernel
theorem dX7_item_377 : decode cX7_item 377 = .ok (.iconst 0, 1) := by decide +kernel
theorem dX7_item_378 : decode cX7_item 378 = .ok (.bipush 99, 2) := by decide +kernel
theorem dX7_item_380 : decode cX7_item 380 = .ok (.invokevirtual 169, 3) := by decide +kernel
theorem dX7_item_383 : decode cX7_item 383 = .ok (.ifCond .ne 5, 3) := by decide +kernel
theorem dX7_item_386 : decode cX7_item 386 = .ok (.iconst 0, 1) := by decide +kernel
theorem dX7_item_387 : decode cX7_item 387 = .ok (.ireturn, 1) := by decide +kernel
theorem dX7_item_388 : decode cX7_item 388 = .ok (.aload_n 0, 1) := by decide +kernel
theorem dX7_item_389 : decode cX7_item 389 = .ok (.aload_n 0, 1) := by decide +kernel
theorem dX7_item_390 : decode cX7_item 390 = .ok (.getfield 56, 3) := by decide +kernel
theorem dX7_item_393 : decode cX7_item 393 = .ok (.iconst 0, 1) := by decide +kernel
theorem dX7_item_394 : decode cX7_item 394 = .ok (.iaload, 1) := by decide +kernel
theorem dX7_item_395 : decode cX7_item 395 = .ok (.putfield 71, 3) := by decide +kernel
theorem dX7_item_398 : decode cX7_item 398 = .ok (.iconst 1, 1) := by decide +kernel
theorem dX7_item_399 : decode cX7_item 399 = .ok (.ireturn, 1) := by decide +kernel
theorem dX7_item_400 : decode cX7_item 400 = .ok (.aload_n 0, 1) := by decide +kernel
theorem dX7_item_401 : decode cX7_item 401 = .ok (.ldc 191, 2) := by decide +kernel
theorem dX7_item_403 : decode cX7_item 403 = .ok (.invokevirtual 165, 3) := by decide +kernel
theorem dX7_item_406 : decode cX7_item 406 = .ok (.ifCond .eq 14, 3) := by decide +kernel
theorem dX7_item_409 : decode cX7_item 409 = .ok (.aload_n 0, 1) := by decide +kernel
theorem dX7_item_410 : decode cX7_item 410 = .ok (.iconst 0, 1) := by decide +kernel
theorem dX7_item_411 : decode cX7_item 411 = .ok (.iconst 0, 1) := by decide +kernel
theorem dX7_item_412 : decode cX7_item 412 = .ok (.bipush 7, 2) := by decide +kernel
theorem dX7_item_414 : decode cX7_item 414 = .ok (.invokevirtual 169, 3) := by decide +kernel
theorem dX7_item_417 : decode cX7_item 417 = .ok (.ifCond .ne 5, 3) := by decide +kernel
theorem dX7_item_420 : decode cX7_item 420 = .ok (.iconst 0, 1) := by decide +kernel
theorem dX7_item_421 : decode cX7_item 421 = .ok (.ireturn, 1) := by decide +kernel
theorem dX7_item_422 : decode cX7_item 422 = .ok (.aload_n 0, 1) := by decide +kernel
theorem dX7_item_423 : decode cX7_item 423 = .ok (.aload_n 0, 1) := by decide +kernel
theorem dX7_item_424 : decode cX7_item 424 = .ok (.getfield 56, 3) := by decide +kernel
theorem dX7_item_427 : decode cX7_item 427 = .ok (.iconst 0, 1) := by decide +kernel
theorem dX7_item_428 : decode cX7_item 428 = .ok (.iaload, 1) := by decide +kernel
theorem dX7_item_429 : decode cX7_item 429 = .ok (.putfield 139, 3) := by decide +kernel
theorem dX7_item_432 : decode cX7_item 432 = .ok (.iconst 1, 1) := by decide +kernel
theorem dX7_item_433 : decode cX7_item 433 = .ok (.ireturn, 1) := by decide +kernel
theorem dX7_item_434 : decode cX7_item 434 = .ok (.iconst 0, 1) := by decide +kernel
theorem dX7_item_435 : decode cX7_item 435 = .ok (.ireturn, 1) := by decide +kernel
theorem dX7_town_0 : decode cX7_town 0 = .ok (.aload_n 0, 1) := by decide +kernel
theorem dX7_town_1 : decode cX7_town 1 = .ok (.iload_n 1, 1) := by decide +kernel
theorem dX7_town_2 : decode cX7_town 2 = .ok (.invokevirtual 99, 3) := by decide +kernel
theorem dX7_town_5 : decode cX7_town 5 = .ok (.istore_n 2, 1) := by decide +kernel
theorem dX7_town_6 : decode cX7_town 6 = .ok (.iload_n 2, 1) := by decide +kernel
theorem dX7_town_7 : decode cX7_town 7 = .ok (.ifCond .ge 9, 3) := by decide +kernel
theorem dX7_town_10 : decode cX7_town 10 = .ok (.aload_n 0, 1) := by decide +kernel
theorem dX7_town_11 : decode cX7_town 11 = .ok (.iload_n 2, 1) := by decide +kernel
theorem dX7_town_12 : decode cX7_town 12 = .ok (.invokevirtual 81, 3) := by decide +kernel
theorem dX7_town_15 : decode cX7_town 15 = .ok (.ireturn, 1) := by decide +kernel
theorem dX7_town_16 : decode cX7_town 16 = .ok (.aload_n 0, 1) := by decide +kernel
theorem dX7_town_17 : decode cX7_town 17 = .ok (.aload_n 0, 1) := by decide +kernel
theorem dX7_town_18 : decode cX7_town 18 = .ok (.getfield 53, 3) := by decide +kernel
theorem dX7_town_21 : decode cX7_town 21 = .ok (.invokevirtual 192, 3) := by decide +kernel
theorem dX7_town_24 : decode cX7_town 24 = .ok (.aload_n 0, 1) := by decide +kernel
theorem dX7_town_25 : decode cX7_town 25 = .ok (.iload_n 1, 1) := by decide +kernel
theorem dX7_town_26 : decode cX7_town 26 = .ok (.putfield 145, 3) := by decide +kernel
theorem dX7_town_29 : decode cX7_town 29 = .ok (.aload_n 0, 1) := by decide +kernel
theorem dX7_town_30 : decode cX7_town 30 = .ok (.iconst 0, 1) := by decide +kernel
theorem dX7_town_31 : decode cX7_town 31 = .ok (.putfield 142, 3) := by decide +kernel
theorem dX7_town_34 : decode cX7_town 34 = .ok (.iconst 0, 1) := by decide +kernel
theorem dX7_town_35 : decode cX7_town 35 = .ok (.istore_n 3, 1) := by decide +kernel
theorem dX7_town_36 : decode cX7_town 36 = .ok (.iconst 1, 1) := by decide +kernel
theorem dX7_town_37 : decode cX7_town 37 = .ok (.istore 4, 2) := by decide +kernel
theorem dX7_town_39 : decode cX7_town 39 = .ok (.iload 4, 2) := by decide +kernel
theorem dX7_town_41 : decode cX7_town 41 = .ok (.ifCond .eq 58, 3) := by decide +kernel
theorem dX7_town_44 : decode cX7_town 44 = .ok (.aload_n 0, 1) := by decide +kernel
theorem dX7_town_45 : decode cX7_town 45 = .ok (.invokevirtual 196, 3) := by decide +kernel
theorem dX7_town_48 : decode cX7_town 48 = .ok (.istore 4, 2) := by decide +kernel
theorem dX7_town_50 : decode cX7_town 50 = .ok (.iload 4, 2) := by decide +kernel
theorem dX7_town_52 : decode cX7_town 52 = .ok (.ifCond .eq 6, 3) := by decide +kernel
theorem dX7_town_55 : decode cX7_town 55 = .ok (.iinc 3 1, 3) := by decide +kernel
theorem dX7_town_58 : decode cX7_town 58 = .ok (.iload 4, 2) := by decide +kernel
theorem dX7_town_60 : decode cX7_town 60 = .ok (.ifCond .eq 23, 3) := by decide +kernel
theorem dX7_town_63 : decode cX7_town 63 = .ok (.aload_n 0, 1) := by decide +kernel
theorem dX7_town_64 : decode cX7_town 64 = .ok (.getfield 142, 3) := by decide +kernel
theorem dX7_town_67 : decode cX7_town 67 = .ok (.aload_n 0, 1) := by decide +kernel
theorem dX7_town_68 : decode cX7_town 68 = .ok (.getfield 13, 3) := by decide +kernel
theorem dX7_town_71 : decode cX7_town 71 = .ok (.iload_n 1, 1) := by decide +kernel
theorem dX7_town_72 : decode cX7_town 72 = .ok (.iaload, 1) := by decide +kernel
theorem dX7_town_73 : decode cX7_town 73 = .ok (.if_icmp .ne 10, 3) := by decide +kernel
theorem dX7_town_76 : decode cX7_town 76 = .ok (.aload_n 0, 1) := by decide +kernel
theorem dX7_town_77 : decode cX7_town 77 = .ok (.iconst (-1), 1) := by decide +kernel
theorem dX7_town_78 : decode cX7_town 78 = .ok (.putfield 78, 3) := by decide +kernel
theorem dX7_town_81 : decode cX7_town 81 = .ok (.iload_n 3, 1) := by decide +kernel
theorem dX7_town_82 : decode cX7_town 82 = .ok (.ireturn, 1) := by decide +kernel
theorem dX7_town_83 : decode cX7_town 83 = .ok (.iload 4, 2) := by decide +kernel
theorem dX7_town_85 : decode cX7_town 85 = .ok (.ifCond .eq (-46), 3) := by decide +kernel
theorem dX7_town_88 : decode cX7_town 88 = .ok (.aload_n 0, 1) := by decide +kernel
theorem dX7_town_89 : decode cX7_town 89 = .ok (.bipush 59, 2) := by decide +kernel
theorem dX7_town_91 : decode cX7_town 91 = .ok (.invokevirtual 161, 3) := by decide +kernel
theorem dX7_town_94 : decode cX7_town 94 = .ok (.istore 4, 2) := by decide +kernel
theorem dX7_town_96 : decode cX7_town 96 = .ok (.goto (-57), 3) := by decide +kernel
theorem dX7_town_99 : decode cX7_town 99 = .ok (.aload_n 0, 1) := by decide +kernel
theorem dX7_town_100 : decode cX7_town 100 = .ok (.aload_n 0, 1) := by decide +kernel
theorem dX7_town_101 : decode cX7_town 101 = .ok (.getfield 142, 3) := by decide +kernel
theorem dX7_town_104 : decode cX7_town 104 = .ok (.putfield 78, 3) := by decide +kernel
theorem dX7_town_107 : decode cX7_town 107 = .ok (.aload_n 0, 1) := by decide +kernel
theorem dX7_town_108 : decode cX7_town 108 = .ok (.aload_n 0, 1) := by decide +kernel
theorem dX7_town_109 : decode cX7_town 109 = .ok (.getfield 53, 3) := by decide +kernel
theorem dX7_town_112 : decode cX7_town 112 = .ok (.invokevirtual 199, 3) := by decide +kernel
theorem dX7_town_115 : decode cX7_town 115 = .ok (.aload_n 0, 1) := by decide +kernel
theorem dX7_town_116 : decode cX7_town 116 = .ok (.bipush (-6), 2) := by decide +kernel
theorem dX7_town_118 : decode cX7_town 118 = .ok (.invokevirtual 81, 3) := by decide +kernel
theorem dX7_town_121 : decode cX7_town 121 = .ok (.ireturn, 1) := by decide +kernel
theorem dX7_fault_0 : decode cX7_fault 0 = .ok (.aload_n 0, 1) := by decide +kernel
theorem dX7_fault_1 : decode cX7_fault 1 = .ok (.getfield 78, 3) := by decide +kernel
theorem dX7_fault_4 : decode cX7_fault 4 = .ok (.ireturn, 1) := by decide +kernel
theorem dX7_yesOf_0 : decode cX7_yesOf 0 = .ok (.aload_n 0, 1) := by decide +kernel
theorem dX7_yesOf_1 : decode cX7_yesOf 1 = .ok (.getfield 20, 3) := by decide +kernel
theorem dX7_yesOf_4 : decode cX7_yesOf 4 = .ok (.iload_n 1, 1) := by decide +kernel
theorem dX7_yesOf_5 : decode cX7_yesOf 5 = .ok (.iaload, 1) := by decide +kernel
theorem dX7_yesOf_6 : decode cX7_yesOf 6 = .ok (.istore 5, 2) := by decide +kernel
theorem dX7_yesOf_8 : decode cX7_yesOf 8 = .ok (.iload_n 2, 1) := by decide +kernel
theorem dX7_yesOf_9 : decode cX7_yesOf 9 = .ok (.ifCond .ne 8, 3) := by decide +kernel
theorem dX7_yesOf_12 : decode cX7_yesOf 12 = .ok (.iload 4, 2) := by decide +kernel
theorem dX7_yesOf_14 : decode cX7_yesOf 14 = .ok (.goto 16, 3) := by decide +kernel
theorem dX7_yesOf_17 : decode cX7_yesOf 17 = .ok (.iload_n 2, 1) := by decide +kernel
theorem dX7_yesOf_18 : decode cX7_yesOf 18 = .ok (.iconst 1, 1) := by decide +kernel
theorem dX7_yesOf_19 : decode cX7_yesOf 19 = .ok (.if_icmp .ne 7, 3) := by decide +kernel
theorem dX7_yesOf_22 : decode cX7_yesOf 22 = .ok (.iconst 0, 1) := by decide +kernel
theorem dX7_yesOf_23 : decode cX7_yesOf 23 = .ok (.goto 7, 3) := by decide +kernel
theorem dX7_yesOf_26 : decode cX7_yesOf 26 = .ok (.iload 4, 2) := by decide +kernel
theorem dX7_yesOf_28 : decode cX7_yesOf 28 = .ok (.iconst 2, 1) := by decide +kernel
theorem dX7_yesOf_29 : decode cX7_yesOf 29 = .ok (.idiv, 1) := by decide +kernel
theorem dX7_yesOf_30 : decode cX7_yesOf 30 = .ok (.istore 6, 2) := by decide +kernel
theorem dX7_yesOf_32 : decode cX7_yesOf 32 = .ok (.iload_n 2, 1) := by decide +kernel
theorem dX7_yesOf_33 : decode cX7_yesOf 33 = .ok (.iconst 1, 1) := by decide +kernel
theorem dX7_yesOf_34 : decode cX7_yesOf 34 = .ok (.if_icmp .ne 8, 3) := by decide +kernel
theorem dX7_yesOf_37 : decode cX7_yesOf 37 = .ok (.iload 4, 2) := by decide +kernel
theorem dX7_yesOf_39 : decode cX7_yesOf 39 = .ok (.goto 15, 3) := by decide +kernel
theorem dX7_yesOf_42 : decode cX7_yesOf 42 = .ok (.iload_n 2, 1) := by decide +kernel
theorem dX7_yesOf_43 : decode cX7_yesOf 43 = .ok (.ifCond .ne 7, 3) := by decide +kernel
theorem dX7_yesOf_46 : decode cX7_yesOf 46 = .ok (.iconst 0, 1) := by decide +kernel
theorem dX7_yesOf_47 : decode cX7_yesOf 47 = .ok (.goto 7, 3) := by decide +kernel
theorem dX7_yesOf_50 : decode cX7_yesOf 50 = .ok (.iload 4, 2) := by decide +kernel
theorem dX7_yesOf_52 : decode cX7_yesOf 52 = .ok (.iconst 2, 1) := by decide +kernel
theorem dX7_yesOf_53 : decode cX7_yesOf 53 = .ok (.idiv, 1) := by decide +kernel
theorem dX7_yesOf_54 : decode cX7_yesOf 54 = .ok (.istore 7, 2) := by decide +kernel
theorem dX7_yesOf_56 : decode cX7_yesOf 56 = .ok (.iload 5, 2) := by decide +kernel
theorem dX7_yesOf_58 : decode cX7_yesOf 58 = .ok (.tableswitch 131 1 6 #[38, 52, 55, 81, 97, 113], 38) := by decide +kernel
theorem dX7_yesOf_96 : decode cX7_yesOf 96 = .ok (.iload 6, 2) := by decide +kernel
theorem dX7_yesOf_98 : decode cX7_yesOf 98 = .ok (.iload 4, 2) := by decide +kernel
theorem dX7_yesOf_100 : decode cX7_yesOf 100 = .ok (.iload 6, 2) := by decide +kernel
theorem dX7_yesOf_102 : decode cX7_yesOf 102 = .ok (.isub, 1) := by decide +kernel
theorem dX7_yesOf_103 : decode cX7_yesOf 103 = .ok (.iload_n 3, 1) := by decide +kernel
theorem dX7_yesOf_104 : decode cX7_yesOf 104 = .ok (.imul, 1) := by decide +kernel
theorem dX7_yesOf_105 : decode cX7_yesOf 105 = .ok (.bipush 10, 2) := by decide +kernel
theorem dX7_yesOf_107 : decode cX7_yesOf 107 = .ok (.idiv, 1) := by decide +kernel
theorem dX7_yesOf_108 : decode cX7_yesOf 108 = .ok (.iadd, 1) := by decide +kernel
theorem dX7_yesOf_109 : decode cX7_yesOf 109 = .ok (.ireturn, 1) := by decide +kernel
theorem dX7_yesOf_110 : decode cX7_yesOf 110 = .ok (.iload 7, 2) := by decide +kernel
theorem dX7_yesOf_112 : decode cX7_yesOf 112 = .ok (.ireturn, 1) := by decide +kernel
theorem dX7_yesOf_113 : decode cX7_yesOf 113 = .ok (.iload 6, 2) := by decide +kernel
theorem dX7_yesOf_115 : decode cX7_yesOf 115 = .ok (.iload 4, 2) := by decide +kernel
theorem dX7_yesOf_117 : decode cX7_yesOf 117 = .ok (.iload 6, 2) := by decide +kernel
theorem dX7_yesOf_119 : decode cX7_yesOf 119 = .ok (.isub, 1) := by decide +kernel
theorem dX7_yesOf_120 : decode cX7_yesOf 120 = .ok (.bipush 10, 2) := by decide +kernel
theorem dX7_yesOf_122 : decode cX7_yesOf 122 = .ok (.iload_n 3, 1) := by decide +kernel
theorem dX7_yesOf_123 : decode cX7_yesOf 123 = .ok (.aload_n 0, 1) := by decide +kernel
theorem dX7_yesOf_124 : decode cX7_yesOf 124 = .ok (.getfield 23, 3) := by decide +kernel
theorem dX7_yesOf_127 : decode cX7_yesOf 127 = .ok (.iload_n 1, 1) := by decide +kernel
theorem dX7_yesOf_128 : decode cX7_yesOf 128 = .ok (.iaload, 1) := by decide +kernel
theorem dX7_yesOf_129 : decode cX7_yesOf 129 = .ok (.iadd, 1) := by decide +kernel
theorem dX7_yesOf_130 : decode cX7_yesOf 130 = .ok (.invokestatic 202, 3) := by decide +kernel
theorem dX7_yesOf_133 : decode cX7_yesOf 133 = .ok (.imul, 1) := by decide +kernel
theorem dX7_yesOf_134 : decode cX7_yesOf 134 = .ok (.bipush 10, 2) := by decide +kernel
theorem dX7_yesOf_136 : decode cX7_yesOf 136 = .ok (.idiv, 1) := by decide +kernel
theorem dX7_yesOf_137 : decode cX7_yesOf 137 = .ok (.iadd, 1) := by decide +kernel
theorem dX7_yesOf_138 : decode cX7_yesOf 138 = .ok (.ireturn, 1) := by decide +kernel
theorem dX7_yesOf_139 : decode cX7_yesOf 139 = .ok (.iload 6, 2) := by decide +kernel
theorem dX7_yesOf_141 : decode cX7_yesOf 141 = .ok (.bipush 10, 2) := by decide +kernel
theorem dX7_yesOf_143 : decode cX7_yesOf 143 = .ok (.aload_n 0, 1) := by decide +kernel
theorem dX7_yesOf_144 : decode cX7_yesOf 144 = .ok (.getfield 23, 3) := by decide +kernel
theorem dX7_yesOf_147 : decode cX7_yesOf 147 = .ok (.iload_n 1, 1) := by decide +kernel
theorem dX7_yesOf_148 : decode cX7_yesOf 148 = .ok (.iaload, 1) := by decide +kernel
theorem dX7_yesOf_149 : decode cX7_yesOf 149 = .ok (.isub, 1) := by decide +kernel
theorem dX7_yesOf_150 : decode cX7_yesOf 150 = .ok (.imul, 1) := by decide +kernel
theorem dX7_yesOf_151 : decode cX7_yesOf 151 = .ok (.bipush 10, 2) := by decide +kernel
theorem dX7_yesOf_153 : decode cX7_yesOf 153 = .ok (.idiv, 1) := by decide +kernel
theorem dX7_yesOf_154 : decode cX7_yesOf 154 = .ok (.ireturn, 1) := by decide +kernel
theorem dX7_yesOf_155 : decode cX7_yesOf 155 = .ok (.iload 7, 2) := by decide +kernel
theorem dX7_yesOf_157 : decode cX7_yesOf 157 = .ok (.bipush 10, 2) := by decide +kernel
theorem dX7_yesOf_159 : decode cX7_yesOf 159 = .ok (.aload_n 0, 1) := by decide +kernel
theorem dX7_yesOf_160 : decode cX7_yesOf 160 = .ok (.getfield 23, 3) := by decide +kernel
theorem dX7_yesOf_163 : decode cX7_yesOf 163 = .ok (.iload_n 1, 1) := by decide +kernel
theorem dX7_yesOf_164 : decode cX7_yesOf 164 = .ok (.iaload, 1) := by decide +kernel
theorem dX7_yesOf_165 : decode cX7_yesOf 165 = .ok (.isub, 1) := by decide +kernel
theorem dX7_yesOf_166 : decode cX7_yesOf 166 = .ok (.imul, 1) := by decide +kernel
theorem dX7_yesOf_167 : decode cX7_yesOf 167 = .ok (.bipush 10, 2) := by decide +kernel
theorem dX7_yesOf_169 : decode cX7_yesOf 169 = .ok (.idiv, 1) := by decide +kernel
theorem dX7_yesOf_170 : decode cX7_yesOf 170 = .ok (.ireturn, 1) := by decide +kernel
theorem dX7_yesOf_171 : decode cX7_yesOf 171 = .ok (.iload 4, 2) := by decide +kernel
theorem dX7_yesOf_173 : decode cX7_yesOf 173 = .ok (.iconst 2, 1) := by decide +kernel
theorem dX7_yesOf_174 : decode cX7_yesOf 174 = .ok (.idiv, 1) := by decide +kernel
theorem dX7_yesOf_175 : decode cX7_yesOf 175 = .ok (.bipush 10, 2) := by decide +kernel
theorem dX7_yesOf_177 : decode cX7_yesOf 177 = .ok (.aload_n 0, 1) := by decide +kernel
theorem dX7_yesOf_178 : decode cX7_yesOf 178 = .ok (.getfield 23, 3) := by decide +kernel
theorem dX7_yesOf_181 : decode cX7_yesOf 181 = .ok (.iload_n 1, 1) := by decide +kernel
theorem dX7_yesOf_182 : decode cX7_yesOf 182 = .ok (.iaload, 1) := by decide +kernel
theorem dX7_yesOf_183 : decode cX7_yesOf 183 = .ok (.isub, 1) := by decide +kernel
theorem dX7_yesOf_184 : decode cX7_yesOf 184 = .ok (.imul, 1) := by decide +kernel
theorem dX7_yesOf_185 : decode cX7_yesOf 185 = .ok (.bipush 10, 2) := by decide +kernel
theorem dX7_yesOf_187 : decode cX7_yesOf 187 = .ok (.idiv, 1) := by decide +kernel
theorem dX7_yesOf_188 : decode cX7_yesOf 188 = .ok (.ireturn, 1) := by decide +kernel
theorem dX7_yesOf_189 : decode cX7_yesOf 189 = .ok (.iload 6, 2) := by decide +kernel
theorem dX7_yesOf_191 : decode cX7_yesOf 191 = .ok (.ireturn, 1) := by decide +kernel
theorem dX7_yesBy_0 : decode cX7_yesBy 0 = .ok (.aload_n 0, 1) := by decide +kernel
theorem dX7_yesBy_1 : decode cX7_yesBy 1 = .ok (.iload_n 1, 1) := by decide +kernel
theorem dX7_yesBy_2 : decode cX7_yesBy 2 = .ok (.aload_n 0, 1) := by decide +kernel
theorem dX7_yesBy_3 : decode cX7_yesBy 3 = .ok (.getfield 32, 3) := by decide +kernel
theorem dX7_yesBy_6 : decode cX7_yesBy 6 = .ok (.iload_n 2, 1) := by decide +kernel
theorem dX7_yesBy_7 : decode cX7_yesBy 7 = .ok (.iaload, 1) := by decide +kernel
theorem dX7_yesBy_8 : decode cX7_yesBy 8 = .ok (.aload_n 0, 1) := by decide +kernel
theorem dX7_yesBy_9 : decode cX7_yesBy 9 = .ok (.getfield 35, 3) := by decide +kernel
theorem dX7_yesBy_12 : decode cX7_yesBy 12 = .ok (.iload_n 2, 1) := by decide +kernel
theorem dX7_yesBy_13 : decode cX7_yesBy 13 = .ok (.iaload, 1) := by decide +kernel
theorem dX7_yesBy_14 : decode cX7_yesBy 14 = .ok (.iload_n 3, 1) := by decide +kernel
theorem dX7_yesBy_15 : decode cX7_yesBy 15 = .ok (.invokevirtual 115, 3) := by decide +kernel
theorem dX7_yesBy_18 : decode cX7_yesBy 18 = .ok (.ireturn, 1) := by decide +kernel
theorem dX7_yes_0 : decode cX7_yes 0 = .ok (.aload_n 0, 1) := by decide +kernel
theorem dX7_yes_1 : decode cX7_yes 1 = .ok (.iload_n 1, 1) := by decide +kernel
theorem dX7_yes_2 : decode cX7_yes 2 = .ok (.invokevirtual 102, 3) := by decide +kernel
theorem dX7_yes_5 : decode cX7_yes 5 = .ok (.ifCond .eq 11, 3) := by decide +kernel
theorem dX7_yes_8 : decode cX7_yes 8 = .ok (.aload_n 0, 1) := by decide +kernel
theorem dX7_yes_9 : decode cX7_yes 9 = .ok (.iload_n 2, 1) := by decide +kernel
theorem dX7_yes_10 : decode cX7_yes 10 = .ok (.invokevirtual 136, 3) := by decide +kernel
theorem dX7_yes_13 : decode cX7_yes 13 = .ok (.ifCond .ne 9, 3) := by decide +kernel
theorem dX7_yes_16 : decode cX7_yes 16 = .ok (.aload_n 0, 1) := by decide +kernel
theorem dX7_yes_17 : decode cX7_yes 17 = .ok (.iconst (-1), 1) := by decide +kernel
theorem dX7_yes_18 : decode cX7_yes 18 = .ok (.invokevirtual 81, 3) := by decide +kernel
theorem dX7_yes_21 : decode cX7_yes 21 = .ok (.ireturn, 1) := by decide +kernel
theorem dX7_yes_22 : decode cX7_yes 22 = .ok (.iload_n 3, 1) := by decide +kernel
theorem dX7_yes_23 : decode cX7_yes 23 = .ok (.iconst 0, 1) := by decide +kernel
theorem dX7_yes_24 : decode cX7_yes 24 = .ok (.sipush 999, 3) := by decide +kernel
theorem dX7_yes_27 : decode cX7_yes 27 = .ok (.invokestatic 88, 3) := by decide +kernel
theorem dX7_yes_30 : decode cX7_yes 30 = .ok (.ifCond .eq 13, 3) := by decide +kernel
theorem dX7_yes_33 : decode cX7_yes 33 = .ok (.aload_n 0, 1) := by decide +kernel
theorem dX7_yes_34 : decode cX7_yes 34 = .ok (.iload_n 1, 1) := by decide +kernel
theorem dX7_yes_35 : decode cX7_yes 35 = .ok (.iload_n 2, 1) := by decide +kernel
theorem dX7_yes_36 : decode cX7_yes 36 = .ok (.iload_n 3, 1) := by decide +kernel
theorem dX7_yes_37 : decode cX7_yes 37 = .ok (.invokevirtual 207, 3) := by decide +kernel
theorem dX7_yes_40 : decode cX7_yes 40 = .ok (.goto 9, 3) := by decide +kernel
theorem dX7_yes_43 : decode cX7_yes 43 = .ok (.aload_n 0, 1) := by decide +kernel
theorem dX7_yes_44 : decode cX7_yes 44 = .ok (.bipush (-6), 2) := by decide +kernel
theorem dX7_yes_46 : decode cX7_yes 46 = .ok (.invokevirtual 81, 3) := by decide +kernel
theorem dX7_yes_49 : decode cX7_yes 49 = .ok (.ireturn, 1) := by decide +kernel
theorem dX7_all_0 : decode cX7_all 0 = .ok (.iconst 0, 1) := by decide +kernel
theorem dX7_all_1 : decode cX7_all 1 = .ok (.istore_n 2, 1) := by decide +kernel
theorem dX7_all_2 : decode cX7_all 2 = .ok (.iconst 0, 1) := by decide +kernel
theorem dX7_all_3 : decode cX7_all 3 = .ok (.istore_n 3, 1) := by decide +kernel
theorem dX7_all_4 : decode cX7_all 4 = .ok (.iload_n 3, 1) := by decide +kernel
theorem dX7_all_5 : decode cX7_all 5 = .ok (.aload_n 0, 1) := by decide +kernel
theorem dX7_all_6 : decode cX7_all 6 = .ok (.getfield 92, 3) := by decide +kernel
theorem dX7_all_9 : decode cX7_all 9 = .ok (.if_icmp .ge 24, 3) := by decide +kernel
theorem dX7_all_12 : decode cX7_all 12 = .ok (.iload_n 2, 1) := by decide +kernel
theorem dX7_all_13 : decode cX7_all 13 = .ok (.aload_n 0, 1) := by decide +kernel
theorem dX7_all_14 : decode cX7_all 14 = .ok (.iload_n 1, 1) := by decide +kernel
theorem dX7_all_15 : decode cX7_all 15 = .ok (.iload_n 3, 1) := by decide +kernel
theorem dX7_all_16 : decode cX7_all 16 = .ok (.aload_n 0, 1) := by decide +kernel
theorem dX7_all_17 : decode cX7_all 17 = .ok (.getfield 29, 3) := by decide +kernel
theorem dX7_all_20 : decode cX7_all 20 = .ok (.iload_n 3, 1) := by decide +kernel
theorem dX7_all_21 : decode cX7_all 21 = .ok (.iaload, 1) := by decide +kernel
theorem dX7_all_22 : decode cX7_all 22 = .ok (.invokevirtual 207, 3) := by decide +kernel
theorem dX7_all_25 : decode cX7_all 25 = .ok (.iadd, 1) := by decide +kernel
theorem dX7_all_26 : decode cX7_all 26 = .ok (.istore_n 2, 1) := by decide +kernel
theorem dX7_all_27 : decode cX7_all 27 = .ok (.iinc 3 1, 3) := by decide +kernel
theorem dX7_all_30 : decode cX7_all 30 = .ok (.goto (-26), 3) := by decide +kernel
theorem dX7_all_33 : decode cX7_all 33 = .ok (.iload_n 2, 1) := by decide +kernel
theorem dX7_all_34 : decode cX7_all 34 = .ok (.ireturn, 1) := by decide +kernel
theorem dX7_people_0 : decode cX7_people 0 = .ok (.iconst 0, 1) := by decide +kernel
theorem dX7_people_1 : decode cX7_people 1 = .ok (.istore_n 1, 1) := by decide +kernel
theorem dX7_people_2 : decode cX7_people 2 = .ok (.iconst 0, 1) := by decide +kernel
theorem dX7_people_3 : decode cX7_people 3 = .ok (.istore_n 2, 1) := by decide +kernel
theorem dX7_people_4 : decode cX7_people 4 = .ok (.iload_n 2, 1) := by decide +kernel
theorem dX7_people_5 : decode cX7_people 5 = .ok (.aload_n 0, 1) := by decide +kernel
theorem dX7_people_6 : decode cX7_people 6 = .ok (.getfield 92, 3) := by decide +kernel
theorem dX7_people_9 : decode cX7_people 9 = .ok (.if_icmp .ge 18, 3) := by decide +kernel
theorem dX7_people_12 : decode cX7_people 12 = .ok (.iload_n 1, 1) := by decide +kernel
theorem dX7_people_13 : decode cX7_people 13 = .ok (.aload_n 0, 1) := by decide +kernel
theorem dX7_people_14 : decode cX7_people 14 = .ok (.getfield 29, 3) := by decide +kernel
theorem dX7_people_17 : decode cX7_people 17 = .ok (.iload_n 2, 1) := by decide +kernel
theorem dX7_people_18 : decode cX7_people 18 = .ok (.iaload, 1) := by decide +kernel
theorem dX7_people_19 : decode cX7_people 19 = .ok (.iadd, 1) := by decide +kernel
theorem dX7_people_20 : decode cX7_people 20 = .ok (.istore_n 1, 1) := by decide +kernel
theorem dX7_people_21 : decode cX7_people 21 = .ok (.iinc 2 1, 3) := by decide +kernel
theorem dX7_people_24 : decode cX7_people 24 = .ok (.goto (-20), 3) := by decide +kernel
theorem dX7_people_27 : decode cX7_people 27 = .ok (.iload_n 1, 1) := by decide +kernel
theorem dX7_people_28 : decode cX7_people 28 = .ok (.ireturn, 1) := by decide +kernel
theorem dX7_thousandths_0 : decode cX7_thousandths 0 = .ok (.iload_n 1, 1) := by decide +kernel
theorem dX7_thousandths_1 : decode cX7_thousandths 1 = .ok (.ifCond .ne 7, 3) := by decide +kernel
theorem dX7_thousandths_4 : decode cX7_thousandths 4 = .ok (.iconst 0, 1) := by decide +kernel
theorem dX7_thousandths_5 : decode cX7_thousandths 5 = .ok (.goto 10, 3) := by decide +kernel
theorem dX7_thousandths_8 : decode cX7_thousandths 8 = .ok (.sipush 1000, 3) := by decide +kernel
theorem dX7_thousandths_11 : decode cX7_thousandths 11 = .ok (.iload_n 0, 1) := by decide +kernel
theorem dX7_thousandths_12 : decode cX7_thousandths 12 = .ok (.imul, 1) := by decide +kernel
theorem dX7_thousandths_13 : decode cX7_thousandths 13 = .ok (.iload_n 1, 1) := by decide +kernel
theorem dX7_thousandths_14 : decode cX7_thousandths 14 = .ok (.idiv, 1) := by decide +kernel
theorem dX7_thousandths_15 : decode cX7_thousandths 15 = .ok (.ireturn, 1) := by decide +kernel
theorem dX7_shareOf_0 : decode cX7_shareOf 0 = .ok (.aload_n 0, 1) := by decide +kernel
theorem dX7_shareOf_1 : decode cX7_shareOf 1 = .ok (.iload_n 1, 1) := by decide +kernel
theorem dX7_shareOf_2 : decode cX7_shareOf 2 = .ok (.invokevirtual 130, 3) := by decide +kernel
theorem dX7_shareOf_5 : decode cX7_shareOf 5 = .ok (.aload_n 0, 1) := by decide +kernel
theorem dX7_shareOf_6 : decode cX7_shareOf 6 = .ok (.invokevirtual 211, 3) := by decide +kernel
theorem dX7_shareOf_9 : decode cX7_shareOf 9 = .ok (.invokestatic 214, 3) := by decide +kernel
theorem dX7_shareOf_12 : decode cX7_shareOf 12 = .ok (.ireturn, 1) := by decide +kernel
theorem dX7_tries_0 : decode cX7_tries 0 = .ok (.aload_n 0, 1) := by decide +kernel
theorem dX7_tries_1 : decode cX7_tries 1 = .ok (.getfield 62, 3) := by decide +kernel
theorem dX7_tries_4 : decode cX7_tries 4 = .ok (.iload_n 1, 1) := by decide +kernel
theorem dX7_tries_5 : decode cX7_tries 5 = .ok (.iaload, 1) := by decide +kernel
theorem dX7_tries_6 : decode cX7_tries 6 = .ok (.aload_n 0, 1) := by decide +kernel
theorem dX7_tries_7 : decode cX7_tries 7 = .ok (.getfield 38, 3) := by decide +kernel
theorem dX7_tries_10 : decode cX7_tries 10 = .ok (.iload_n 1, 1) := by decide +kernel
theorem dX7_tries_11 : decode cX7_tries 11 = .ok (.iaload, 1) := by decide +kernel
theorem dX7_tries_12 : decode cX7_tries 12 = .ok (.imul, 1) := by decide +kernel
theorem dX7_tries_13 : decode cX7_tries 13 = .ok (.bipush 10, 2) := by decide +kernel
theorem dX7_tries_15 : decode cX7_tries 15 = .ok (.idiv, 1) := by decide +kernel
theorem dX7_tries_16 : decode cX7_tries 16 = .ok (.istore_n 2, 1) := by decide +kernel
theorem dX7_tries_17 : decode cX7_tries 17 = .ok (.aload_n 0, 1) := by decide +kernel
theorem dX7_tries_18 : decode cX7_tries 18 = .ok (.getfield 62, 3) := by decide +kernel
theorem dX7_tries_21 : decode cX7_tries 21 = .ok (.iload_n 1, 1) := by decide +kernel
theorem dX7_tries_22 : decode cX7_tries 22 = .ok (.dup2, 1) := by decide +kernel
theorem dX7_tries_23 : decode cX7_tries 23 = .ok (.iaload, 1) := by decide +kernel
theorem dX7_tries_24 : decode cX7_tries 24 = .ok (.iload_n 2, 1) := by decide +kernel
theorem dX7_tries_25 : decode cX7_tries 25 = .ok (.isub, 1) := by decide +kernel
theorem dX7_tries_26 : decode cX7_tries 26 = .ok (.iastore, 1) := by decide +kernel
theorem dX7_tries_27 : decode cX7_tries 27 = .ok (.iload_n 2, 1) := by decide +kernel
theorem dX7_tries_28 : decode cX7_tries 28 = .ok (.aload_n 0, 1) := by decide +kernel
theorem dX7_tries_29 : decode cX7_tries 29 = .ok (.getfield 41, 3) := by decide +kernel
theorem dX7_tries_32 : decode cX7_tries 32 = .ok (.iload_n 1, 1) := by decide +kernel
theorem dX7_tries_33 : decode cX7_tries 33 = .ok (.iaload, 1) := by decide +kernel
theorem dX7_tries_34 : decode cX7_tries 34 = .ok (.imul, 1) := by decide +kernel
theorem dX7_tries_35 : decode cX7_tries 35 = .ok (.bipush 10, 2) := by decide +kernel
theorem dX7_tries_37 : decode cX7_tries 37 = .ok (.idiv, 1) := by decide +kernel
theorem dX7_tries_38 : decode cX7_tries 38 = .ok (.ireturn, 1) := by decide +kernel
theorem dX7_answered_0 : decode cX7_answered 0 = .ok (.iconst 0, 1) := by decide +kernel
theorem dX7_answered_1 : decode cX7_answered 1 = .ok (.istore_n 2, 1) := by decide +kernel
theorem dX7_answered_2 : decode cX7_answered 2 = .ok (.iconst 0, 1) := by decide +kernel
theorem dX7_answered_3 : decode cX7_answered 3 = .ok (.istore_n 3, 1) := by decide +kernel
theorem dX7_answered_4 : decode cX7_answered 4 = .ok (.iload_n 3, 1) := by decide +kernel
theorem dX7_answered_5 : decode cX7_answered 5 = .ok (.aload_n 0, 1) := by decide +kernel
theorem dX7_answered_6 : decode cX7_answered 6 = .ok (.getfield 92, 3) := by decide +kernel
theorem dX7_answered_9 : decode cX7_answered 9 = .ok (.if_icmp .ge 66, 3) := by decide +kernel
theorem dX7_answered_12 : decode cX7_answered 12 = .ok (.aload_n 0, 1) := by decide +kernel
theorem dX7_answered_13 : decode cX7_answered 13 = .ok (.getfield 62, 3) := by decide +kernel
theorem dX7_answered_16 : decode cX7_answered 16 = .ok (.iload_n 3, 1) := by decide +kernel
theorem dX7_answered_17 : decode cX7_answered 17 = .ok (.aload_n 0, 1) := by decide +kernel
theorem dX7_answered_18 : decode cX7_answered 18 = .ok (.getfield 29, 3) := by decide +kernel
theorem dX7_answered_21 : decode cX7_answered 21 = .ok (.iload_n 3, 1) := by decide +kernel
theorem dX7_answered_22 : decode cX7_answered 22 = .ok (.iaload, 1) := by decide +kernel
theorem dX7_answered_23 : decode cX7_answered 23 = .ok (.iastore, 1) := by decide +kernel
theorem dX7_answered_24 : decode cX7_answered 24 = .ok (.aload_n 0, 1) := by decide +kernel
theorem dX7_answered_25 : decode cX7_answered 25 = .ok (.getfield 59, 3) := by decide +kernel
theorem dX7_answered_28 : decode cX7_answered 28 = .ok (.iload_n 3, 1) := by decide +kernel
theorem dX7_answered_29 : decode cX7_answered 29 = .ok (.iconst 0, 1) := by decide +kernel
theorem dX7_answered_30 : decode cX7_answered 30 = .ok (.iastore, 1) := by decide +kernel
theorem dX7_answered_31 : decode cX7_answered 31 = .ok (.iconst 0, 1) := by decide +kernel
theorem dX7_answered_32 : decode cX7_answered 32 = .ok (.istore 4, 2) := by decide +kernel
theorem dX7_answered_34 : decode cX7_answered 34 = .ok (.iload 4, 2) := by decide +kernel
theorem dX7_answered_36 : decode cX7_answered 36 = .ok (.iload_n 1, 1) := by decide +kernel
theorem dX7_answered_37 : decode cX7_answered 37 = .ok (.if_icmp .ge 23, 3) := by decide +kernel
theorem dX7_answered_40 : decode cX7_answered 40 = .ok (.aload_n 0, 1) := by decide +kernel
theorem dX7_answered_41 : decode cX7_answered 41 = .ok (.getfield 59, 3) := by decide +kernel
theorem dX7_answered_44 : decode cX7_answered 44 = .ok (.iload_n 3, 1) := by decide +kernel
theorem dX7_answered_45 : decode cX7_answered 45 = .ok (.dup2, 1) := by decide +kernel
theorem dX7_answered_46 : decode cX7_answered 46 = .ok (.iaload, 1) := by decide +kernel
theorem dX7_answered_47 : decode cX7_answered 47 = .ok (.aload_n 0, 1) := by decide +kernel
theorem dX7_answered_48 : decode cX7_answered 48 = .ok (.iload_n 3, 1) := by decide +kernel
theorem dX7_answered_49 : decode cX7_answered 49 = .ok (.invokevirtual 217, 3) := by decide +kernel
theorem dX7_answered_52 : decode cX7_answered 52 = .ok (.iadd, 1) := by decide +kernel
theorem dX7_answered_53 : decode cX7_answered 53 = .ok (.iastore, 1) := by decide +kernel
theorem dX7_answered_54 : decode cX7_answered 54 = .ok (.iinc 4 1, 3) := by decide +kernel
theorem dX7_answered_57 : decode cX7_answered 57 = .ok (.goto (-23), 3) := by decide +kernel
theorem dX7_answered_60 : decode cX7_answered 60 = .ok (.iload_n 2, 1) := by decide +kernel
theorem dX7_answered_61 : decode cX7_answered 61 = .ok (.aload_n 0, 1) := by decide +kernel
theorem dX7_answered_62 : decode cX7_answered 62 = .ok (.getfield 59, 3) := by decide +kernel
theorem dX7_answered_65 : decode cX7_answered 65 = .ok (.iload_n 3, 1) := by decide +kernel
theorem dX7_answered_66 : decode cX7_answered 66 = .ok (.iaload, 1) := by decide +kernel
theorem dX7_answered_67 : decode cX7_answered 67 = .ok (.iadd, 1) := by decide +kernel
theorem dX7_answered_68 : decode cX7_answered 68 = .ok (.istore_n 2, 1) := by decide +kernel
theorem dX7_answered_69 : decode cX7_answered 69 = .ok (.iinc 3 1, 3) := by decide +kernel
theorem dX7_answered_72 : decode cX7_answered 72 = .ok (.goto (-68), 3) := by decide +kernel
theorem dX7_answered_75 : decode cX7_answered 75 = .ok (.iload_n 2, 1) := by decide +kernel
theorem dX7_answered_76 : decode cX7_answered 76 = .ok (.ireturn, 1) := by decide +kernel
theorem dX7_answeredLate_0 : decode cX7_answeredLate 0 = .ok (.iconst 0, 1) := by decide +kernel
theorem dX7_answeredLate_1 : decode cX7_answeredLate 1 = .ok (.istore_n 2, 1) := by decide +kernel
theorem dX7_answeredLate_2 : decode cX7_answeredLate 2 = .ok (.aload_n 0, 1) := by decide +kernel
theorem dX7_answeredLate_3 : decode cX7_answeredLate 3 = .ok (.iload_n 1, 1) := by decide +kernel
theorem dX7_answeredLate_4 : decode cX7_answeredLate 4 = .ok (.iconst 1, 1) := by decide +kernel
theorem dX7_answeredLate_5 : decode cX7_answeredLate 5 = .ok (.isub, 1) := by decide +kernel
theorem dX7_answeredLate_6 : decode cX7_answeredLate 6 = .ok (.invokevirtual 220, 3) := by decide +kernel
theorem dX7_answeredLate_9 : decode cX7_answeredLate 9 = .ok (.pop, 1) := by decide +kernel
theorem dX7_answeredLate_10 : decode cX7_answeredLate 10 = .ok (.iconst 0, 1) := by decide +kernel
theorem dX7_answeredLate_11 : decode cX7_answeredLate 11 = .ok (.istore_n 3, 1) := by decide +kernel
theorem dX7_answeredLate_12 : decode cX7_answeredLate 12 = .ok (.iload_n 3, 1) := by decide +kernel
theorem dX7_answeredLate_13 : decode cX7_answeredLate 13 = .ok (.aload_n 0, 1) := by decide +kernel
theorem dX7_answeredLate_14 : decode cX7_answeredLate 14 = .ok (.getfield 92, 3) := by decide +kernel
theorem dX7_answeredLate_17 : decode cX7_answeredLate 17 = .ok (.if_icmp .ge 29, 3) := by decide +kernel
theorem dX7_answeredLate_20 : decode cX7_answeredLate 20 = .ok (.aload_n 0, 1) := by decide +kernel
theorem dX7_answeredLate_21 : decode cX7_answeredLate 21 = .ok (.getfield 59, 3) := by decide +kernel
theorem dX7_answeredLate_24 : decode cX7_answeredLate 24 = .ok (.iload_n 3, 1) := by decide +kernel
theorem dX7_answeredLate_25 : decode cX7_answeredLate 25 = .ok (.aload_n 0, 1) := by decide +kernel
theorem dX7_answeredLate_26 : decode cX7_answeredLate 26 = .ok (.iload_n 3, 1) := by decide +kernel
theorem dX7_answeredLate_27 : decode cX7_answeredLate 27 = .ok (.invokevirtual 217, 3) := by decide +kernel
theorem dX7_answeredLate_30 : decode cX7_answeredLate 30 = .ok (.iastore, 1) := by decide +kernel
theorem dX7_answeredLate_31 : decode cX7_answeredLate 31 = .ok (.iload_n 2, 1) := by decide +kernel
theorem dX7_answeredLate_32 : decode cX7_answeredLate 32 = .ok (.aload_n 0, 1) := by decide +kernel
theorem dX7_answeredLate_33 : decode cX7_answeredLate 33 = .ok (.getfield 59, 3) := by decide +kernel
theorem dX7_answeredLate_36 : decode cX7_answeredLate 36 = .ok (.iload_n 3, 1) := by decide +kernel
theorem dX7_answeredLate_37 : decode cX7_answeredLate 37 = .ok (.iaload, 1) := by decide +kernel
theorem dX7_answeredLate_38 : decode cX7_answeredLate 38 = .ok (.iadd, 1) := by decide +kernel
theorem dX7_answeredLate_39 : decode cX7_answeredLate 39 = .ok (.istore_n 2, 1) := by decide +kernel
theorem dX7_answeredLate_40 : decode cX7_answeredLate 40 = .ok (.iinc 3 1, 3) := by decide +kernel
theorem dX7_answeredLate_43 : decode cX7_answeredLate 43 = .ok (.goto (-31), 3) := by decide +kernel
theorem dX7_answeredLate_46 : decode cX7_answeredLate 46 = .ok (.iload_n 2, 1) := by decide +kernel
theorem dX7_answeredLate_47 : decode cX7_answeredLate 47 = .ok (.ireturn, 1) := by decide +kernel
theorem dX7_shareOfAnswers_0 : decode cX7_shareOfAnswers 0 = .ok (.iconst 0, 1) := by decide +kernel
theorem dX7_shareOfAnswers_1 : decode cX7_shareOfAnswers 1 = .ok (.istore_n 3, 1) := by decide +kernel
theorem dX7_shareOfAnswers_2 : decode cX7_shareOfAnswers 2 = .ok (.iconst 0, 1) := by decide +kernel
theorem dX7_shareOfAnswers_3 : decode cX7_shareOfAnswers 3 = .ok (.istore 4, 2) := by decide +kernel
theorem dX7_shareOfAnswers_5 : decode cX7_shareOfAnswers 5 = .ok (.iload 4, 2) := by decide +kernel
theorem dX7_shareOfAnswers_7 : decode cX7_shareOfAnswers 7 = .ok (.aload_n 0, 1) := by decide +kernel
theorem dX7_shareOfAnswers_8 : decode cX7_shareOfAnswers 8 = .ok (.getfield 92, 3) := by decide +kernel
theorem dX7_shareOfAnswers_11 : decode cX7_shareOfAnswers 11 = .ok (.if_icmp .ge 26, 3) := by decide +kernel
theorem dX7_shareOfAnswers_14 : decode cX7_shareOfAnswers 14 = .ok (.iload_n 3, 1) := by decide +kernel
theorem dX7_shareOfAnswers_15 : decode cX7_shareOfAnswers 15 = .ok (.aload_n 0, 1) := by decide +kernel
theorem dX7_shareOfAnswers_16 : decode cX7_shareOfAnswers 16 = .ok (.iload_n 1, 1) := by decide +kernel
theorem dX7_shareOfAnswers_17 : decode cX7_shareOfAnswers 17 = .ok (.iload 4, 2) := by decide +kernel
theorem dX7_shareOfAnswers_19 : decode cX7_shareOfAnswers 19 = .ok (.aload_n 0, 1) := by decide +kernel
theorem dX7_shareOfAnswers_20 : decode cX7_shareOfAnswers 20 = .ok (.getfield 59, 3) := by decide +kernel
theorem dX7_shareOfAnswers_23 : decode cX7_shareOfAnswers 23 = .ok (.iload 4, 2) := by decide +kernel
theorem dX7_shareOfAnswers_25 : decode cX7_shareOfAnswers 25 = .ok (.iaload, 1) := by decide +kernel
theorem dX7_shareOfAnswers_26 : decode cX7_shareOfAnswers 26 = .ok (.invokevirtual 207, 3) := by decide +kernel
theorem dX7_shareOfAnswers_29 : decode cX7_shareOfAnswers 29 = .ok (.iadd, 1) := by decide +kernel
theorem dX7_shareOfAnswers_30 : decode cX7_shareOfAnswers 30 = .ok (.istore_n 3, 1) := by decide +kernel
theorem dX7_shareOfAnswers_31 : decode cX7_shareOfAnswers 31 = .ok (.iinc 4 1, 3) := by decide +kernel
theorem dX7_shareOfAnswers_34 : decode cX7_shareOfAnswers 34 = .ok (.goto (-29), 3) := by decide +kernel
theorem dX7_shareOfAnswers_37 : decode cX7_shareOfAnswers 37 = .ok (.iload_n 3, 1) := by decide +kernel
theorem dX7_shareOfAnswers_38 : decode cX7_shareOfAnswers 38 = .ok (.iload_n 2, 1) := by decide +kernel
theorem dX7_shareOfAnswers_39 : decode cX7_shareOfAnswers 39 = .ok (.invokestatic 214, 3) := by decide +kernel
theorem dX7_shareOfAnswers_42 : decode cX7_shareOfAnswers 42 = .ok (.ireturn, 1) := by decide +kernel
theorem dX7_isTries_0 : decode cX7_isTries 0 = .ok (.iload_n 0, 1) := by decide +kernel
theorem dX7_isTries_1 : decode cX7_isTries 1 = .ok (.iconst 0, 1) := by decide +kernel
theorem dX7_isTries_2 : decode cX7_isTries 2 = .ok (.bipush 9, 2) := by decide +kernel
theorem dX7_isTries_4 : decode cX7_isTries 4 = .ok (.invokestatic 88, 3) := by decide +kernel
theorem dX7_isTries_7 : decode cX7_isTries 7 = .ok (.ireturn, 1) := by decide +kernel
theorem dX7_answers_0 : decode cX7_answers 0 = .ok (.iload_n 2, 1) := by decide +kernel
theorem dX7_answers_1 : decode cX7_answers 1 = .ok (.iconst 0, 1) := by decide +kernel
theorem dX7_answers_2 : decode cX7_answers 2 = .ok (.iconst 1, 1) := by decide +kernel
theorem dX7_answers_3 : decode cX7_answers 3 = .ok (.invokestatic 88, 3) := by decide +kernel
theorem dX7_answers_6 : decode cX7_answers 6 = .ok (.ifCond .ne 10, 3) := by decide +kernel
theorem dX7_answers_9 : decode cX7_answers 9 = .ok (.aload_n 0, 1) := by decide +kernel
theorem dX7_answers_10 : decode cX7_answers 10 = .ok (.bipush (-5), 2) := by decide +kernel
theorem dX7_answers_12 : decode cX7_answers 12 = .ok (.invokevirtual 81, 3) := by decide +kernel
theorem dX7_answers_15 : decode cX7_answers 15 = .ok (.ireturn, 1) := by decide +kernel
theorem dX7_answers_16 : decode cX7_answers 16 = .ok (.iload_n 1, 1) := by decide +kernel
theorem dX7_answers_17 : decode cX7_answers 17 = .ok (.invokestatic 223, 3) := by decide +kernel
theorem dX7_answers_20 : decode cX7_answers 20 = .ok (.ifCond .ne 10, 3) := by decide +kernel
theorem dX7_answers_23 : decode cX7_answers 23 = .ok (.aload_n 0, 1) := by decide +kernel
theorem dX7_answers_24 : decode cX7_answers 24 = .ok (.bipush (-6), 2) := by decide +kernel
theorem dX7_answers_26 : decode cX7_answers 26 = .ok (.invokevirtual 81, 3) := by decide +kernel
theorem dX7_answers_29 : decode cX7_answers 29 = .ok (.ireturn, 1) := by decide +kernel
theorem dX7_answers_30 : decode cX7_answers 30 = .ok (.aload_n 0, 1) := by decide +kernel
theorem dX7_answers_31 : decode cX7_answers 31 = .ok (.iload_n 1, 1) := by decide +kernel
theorem dX7_answers_32 : decode cX7_answers 32 = .ok (.invokevirtual 220, 3) := by decide +kernel
theorem dX7_answers_35 : decode cX7_answers 35 = .ok (.istore_n 3, 1) := by decide +kernel
theorem dX7_answers_36 : decode cX7_answers 36 = .ok (.iload_n 2, 1) := by decide +kernel
theorem dX7_answers_37 : decode cX7_answers 37 = .ok (.ifCond .ne 5, 3) := by decide +kernel
theorem dX7_answers_40 : decode cX7_answers 40 = .ok (.iload_n 3, 1) := by decide +kernel
theorem dX7_answers_41 : decode cX7_answers 41 = .ok (.ireturn, 1) := by decide +kernel
theorem dX7_answers_42 : decode cX7_answers 42 = .ok (.iconst 0, 1) := by decide +kernel
theorem dX7_answers_43 : decode cX7_answers 43 = .ok (.istore 4, 2) := by decide +kernel
theorem dX7_answers_45 : decode cX7_answers 45 = .ok (.iconst 0, 1) := by decide +kernel
theorem dX7_answers_46 : decode cX7_answers 46 = .ok (.istore 5, 2) := by decide +kernel
theorem dX7_answers_48 : decode cX7_answers 48 = .ok (.iload 5, 2) := by decide +kernel
theorem dX7_answers_50 : decode cX7_answers 50 = .ok (.aload_n 0, 1) := by decide +kernel
theorem dX7_answers_51 : decode cX7_answers 51 = .ok (.getfield 92, 3) := by decide +kernel
theorem dX7_answers_54 : decode cX7_answers 54 = .ok (.if_icmp .ge 21, 3) := by decide +kernel
theorem dX7_answers_57 : decode cX7_answers 57 = .ok (.iload 4, 2) := by decide +kernel
theorem dX7_answers_59 : decode cX7_answers 59 = .ok (.aload_n 0, 1) := by decide +kernel
theorem dX7_answers_60 : decode cX7_answers 60 = .ok (.getfield 62, 3) := by decide +kernel
theorem dX7_answers_63 : decode cX7_answers 63 = .ok (.iload 5, 2) := by decide +kernel
theorem dX7_answers_65 : decode cX7_answers 65 = .ok (.iaload, 1) := by decide +kernel
theorem dX7_answers_66 : decode cX7_answers 66 = .ok (.iadd, 1) := by decide +kernel
theorem dX7_answers_67 : decode cX7_answers 67 = .ok (.istore 4, 2) := by decide +kernel
theorem dX7_answers_69 : decode cX7_answers 69 = .ok (.iinc 5 1, 3) := by decide +kernel
theorem dX7_answers_72 : decode cX7_answers 72 = .ok (.goto (-24), 3) := by decide +kernel
theorem dX7_answers_75 : decode cX7_answers 75 = .ok (.iload 4, 2) := by decide +kernel
theorem dX7_answers_77 : decode cX7_answers 77 = .ok (.ireturn, 1) := by decide +kernel
theorem dX7_offBy_0 : decode cX7_offBy 0 = .ok (.aload_n 0, 1) := by decide +kernel
theorem dX7_offBy_1 : decode cX7_offBy 1 = .ok (.iload_n 1, 1) := by decide +kernel
theorem dX7_offBy_2 : decode cX7_offBy 2 = .ok (.aload_n 0, 1) := by decide +kernel
theorem dX7_offBy_3 : decode cX7_offBy 3 = .ok (.iload_n 2, 1) := by decide +kernel
theorem dX7_offBy_4 : decode cX7_offBy 4 = .ok (.invokevirtual 220, 3) := by decide +kernel
theorem dX7_offBy_7 : decode cX7_offBy 7 = .ok (.invokevirtual 226, 3) := by decide +kernel
theorem dX7_offBy_10 : decode cX7_offBy 10 = .ok (.aload_n 0, 1) := by decide +kernel
theorem dX7_offBy_11 : decode cX7_offBy 11 = .ok (.iload_n 1, 1) := by decide +kernel
theorem dX7_offBy_12 : decode cX7_offBy 12 = .ok (.invokevirtual 112, 3) := by decide +kernel
theorem dX7_offBy_15 : decode cX7_offBy 15 = .ok (.isub, 1) := by decide +kernel
theorem dX7_offBy_16 : decode cX7_offBy 16 = .ok (.ireturn, 1) := by decide +kernel
theorem dX7_by_0 : decode cX7_by 0 = .ok (.aload_n 0, 1) := by decide +kernel
theorem dX7_by_1 : decode cX7_by 1 = .ok (.iload_n 1, 1) := by decide +kernel
theorem dX7_by_2 : decode cX7_by 2 = .ok (.invokevirtual 102, 3) := by decide +kernel
theorem dX7_by_5 : decode cX7_by 5 = .ok (.ifCond .ne 9, 3) := by decide +kernel
theorem dX7_by_8 : decode cX7_by 8 = .ok (.aload_n 0, 1) := by decide +kernel
theorem dX7_by_9 : decode cX7_by 9 = .ok (.iconst (-1), 1) := by decide +kernel
theorem dX7_by_10 : decode cX7_by 10 = .ok (.invokevirtual 127, 3) := by decide +kernel
theorem dX7_by_13 : decode cX7_by 13 = .ok (.ireturn, 1) := by decide +kernel
theorem dX7_by_14 : decode cX7_by 14 = .ok (.iload_n 3, 1) := by decide +kernel
theorem dX7_by_15 : decode cX7_by 15 = .ok (.iconst 0, 1) := by decide +kernel
theorem dX7_by_16 : decode cX7_by 16 = .ok (.iconst 1, 1) := by decide +kernel
theorem dX7_by_17 : decode cX7_by 17 = .ok (.invokestatic 88, 3) := by decide +kernel
theorem dX7_by_20 : decode cX7_by 20 = .ok (.ifCond .ne 10, 3) := by decide +kernel
theorem dX7_by_23 : decode cX7_by 23 = .ok (.aload_n 0, 1) := by decide +kernel
theorem dX7_by_24 : decode cX7_by 24 = .ok (.bipush (-5), 2) := by decide +kernel
theorem dX7_by_26 : decode cX7_by 26 = .ok (.invokevirtual 127, 3) := by decide +kernel
theorem dX7_by_29 : decode cX7_by 29 = .ok (.ireturn, 1) := by decide +kernel
theorem dX7_by_30 : decode cX7_by 30 = .ok (.iload_n 2, 1) := by decide +kernel
theorem dX7_by_31 : decode cX7_by 31 = .ok (.invokestatic 223, 3) := by decide +kernel
theorem dX7_by_34 : decode cX7_by 34 = .ok (.ifCond .ne 10, 3) := by decide +kernel
theorem dX7_by_37 : decode cX7_by 37 = .ok (.aload_n 0, 1) := by decide +kernel
theorem dX7_by_38 : decode cX7_by 38 = .ok (.bipush (-6), 2) := by decide +kernel
theorem dX7_by_40 : decode cX7_by 40 = .ok (.invokevirtual 127, 3) := by decide +kernel
theorem dX7_by_43 : decode cX7_by 43 = .ok (.ireturn, 1) := by decide +kernel
theorem dX7_by_44 : decode cX7_by 44 = .ok (.iload_n 3, 1) := by decide +kernel
theorem dX7_by_45 : decode cX7_by 45 = .ok (.ifCond .ne 16, 3) := by decide +kernel
theorem dX7_by_48 : decode cX7_by 48 = .ok (.aload_n 0, 1) := by decide +kernel
theorem dX7_by_49 : decode cX7_by 49 = .ok (.iload_n 1, 1) := by decide +kernel
theorem dX7_by_50 : decode cX7_by 50 = .ok (.aload_n 0, 1) := by decide +kernel
theorem dX7_by_51 : decode cX7_by 51 = .ok (.iload_n 2, 1) := by decide +kernel
theorem dX7_by_52 : decode cX7_by 52 = .ok (.invokevirtual 220, 3) := by decide +kernel
theorem dX7_by_55 : decode cX7_by 55 = .ok (.invokevirtual 226, 3) := by decide +kernel
theorem dX7_by_58 : decode cX7_by 58 = .ok (.goto 9, 3) := by decide +kernel
theorem dX7_by_61 : decode cX7_by 61 = .ok (.aload_n 0, 1) := by decide +kernel
theorem dX7_by_62 : decode cX7_by 62 = .ok (.iload_n 1, 1) := by decide +kernel
theorem dX7_by_63 : decode cX7_by 63 = .ok (.iload_n 2, 1) := by decide +kernel
theorem dX7_by_64 : decode cX7_by 64 = .ok (.invokevirtual 229, 3) := by decide +kernel
theorem dX7_by_67 : decode cX7_by 67 = .ok (.ireturn, 1) := by decide +kernel
theorem dX7_hold_0 : decode cX7_hold 0 = .ok (.iconst 0, 1) := by decide +kernel
theorem dX7_hold_1 : decode cX7_hold 1 = .ok (.istore_n 1, 1) := by decide +kernel
theorem dX7_hold_2 : decode cX7_hold 2 = .ok (.iconst 0, 1) := by decide +kernel
theorem dX7_hold_3 : decode cX7_hold 3 = .ok (.istore_n 2, 1) := by decide +kernel
theorem dX7_hold_4 : decode cX7_hold 4 = .ok (.iload_n 2, 1) := by decide +kernel
theorem dX7_hold_5 : decode cX7_hold 5 = .ok (.aload_n 0, 1) := by decide +kernel
theorem dX7_hold_6 : decode cX7_hold 6 = .ok (.getfield 92, 3) := by decide +kernel
theorem dX7_hold_9 : decode cX7_hold 9 = .ok (.if_icmp .ge 27, 3) := by decide +kernel
theorem dX7_hold_12 : decode cX7_hold 12 = .ok (.aload_n 0, 1) := by decide +kernel
theorem dX7_hold_13 : decode cX7_hold 13 = .ok (.getfield 32, 3) := by decide +kernel
theorem dX7_hold_16 : decode cX7_hold 16 = .ok (.iload_n 2, 1) := by decide +kernel
theorem dX7_hold_17 : decode cX7_hold 17 = .ok (.iaload, 1) := by decide +kernel
theorem dX7_hold_18 : decode cX7_hold 18 = .ok (.ifCond .ne 12, 3) := by decide +kernel
theorem dX7_hold_21 : decode cX7_hold 21 = .ok (.iload_n 1, 1) := by decide +kernel
theorem dX7_hold_22 : decode cX7_hold 22 = .ok (.aload_n 0, 1) := by decide +kernel
theorem dX7_hold_23 : decode cX7_hold 23 = .ok (.getfield 29, 3) := by decide +kernel
theorem dX7_hold_26 : decode cX7_hold 26 = .ok (.iload_n 2, 1) := by decide +kernel
theorem dX7_hold_27 : decode cX7_hold 27 = .ok (.iaload, 1) := by decide +kernel
theorem dX7_hold_28 : decode cX7_hold 28 = .ok (.iadd, 1) := by decide +kernel
theorem dX7_hold_29 : decode cX7_hold 29 = .ok (.istore_n 1, 1) := by decide +kernel
theorem dX7_hold_30 : decode cX7_hold 30 = .ok (.iinc 2 1, 3) := by decide +kernel
theorem dX7_hold_33 : decode cX7_hold 33 = .ok (.goto (-29), 3) := by decide +kernel
theorem dX7_hold_36 : decode cX7_hold 36 = .ok (.iload_n 1, 1) := by decide +kernel
theorem dX7_hold_37 : decode cX7_hold 37 = .ok (.aload_n 0, 1) := by decide +kernel
theorem dX7_hold_38 : decode cX7_hold 38 = .ok (.invokevirtual 211, 3) := by decide +kernel
theorem dX7_hold_41 : decode cX7_hold 41 = .ok (.invokestatic 214, 3) := by decide +kernel
theorem dX7_hold_44 : decode cX7_hold 44 = .ok (.ireturn, 1) := by decide +kernel
theorem dX7_wrongOf_0 : decode cX7_wrongOf 0 = .ok (.aload_n 0, 1) := by decide +kernel
theorem dX7_wrongOf_1 : decode cX7_wrongOf 1 = .ok (.getfield 20, 3) := by decide +kernel
theorem dX7_wrongOf_4 : decode cX7_wrongOf 4 = .ok (.iload_n 1, 1) := by decide +kernel
theorem dX7_wrongOf_5 : decode cX7_wrongOf 5 = .ok (.iaload, 1) := by decide +kernel
theorem dX7_wrongOf_6 : decode cX7_wrongOf 6 = .ok (.iconst 2, 1) := by decide +kernel
theorem dX7_wrongOf_7 : decode cX7_wrongOf 7 = .ok (.invokestatic 108, 3) := by decide +kernel
theorem dX7_wrongOf_10 : decode cX7_wrongOf 10 = .ok (.ifCond .eq 15, 3) := by decide +kernel
theorem dX7_wrongOf_13 : decode cX7_wrongOf 13 = .ok (.sipush 1000, 3) := by decide +kernel
theorem dX7_wrongOf_16 : decode cX7_wrongOf 16 = .ok (.aload_n 0, 1) := by decide +kernel
theorem dX7_wrongOf_17 : decode cX7_wrongOf 17 = .ok (.iload_n 1, 1) := by decide +kernel
theorem dX7_wrongOf_18 : decode cX7_wrongOf 18 = .ok (.invokevirtual 112, 3) := by decide +kernel
theorem dX7_wrongOf_21 : decode cX7_wrongOf 21 = .ok (.isub, 1) := by decide +kernel
theorem dX7_wrongOf_22 : decode cX7_wrongOf 22 = .ok (.goto 8, 3) := by decide +kernel
theorem dX7_wrongOf_25 : decode cX7_wrongOf 25 = .ok (.aload_n 0, 1) := by decide +kernel
theorem dX7_wrongOf_26 : decode cX7_wrongOf 26 = .ok (.iload_n 1, 1) := by decide +kernel
theorem dX7_wrongOf_27 : decode cX7_wrongOf 27 = .ok (.invokevirtual 112, 3) := by decide +kernel
theorem dX7_wrongOf_30 : decode cX7_wrongOf 30 = .ok (.istore_n 2, 1) := by decide +kernel
theorem dX7_wrongOf_31 : decode cX7_wrongOf 31 = .ok (.iload_n 2, 1) := by decide +kernel
theorem dX7_wrongOf_32 : decode cX7_wrongOf 32 = .ok (.aload_n 0, 1) := by decide +kernel
theorem dX7_wrongOf_33 : decode cX7_wrongOf 33 = .ok (.invokevirtual 232, 3) := by decide +kernel
theorem dX7_wrongOf_36 : decode cX7_wrongOf 36 = .ok (.isub, 1) := by decide +kernel
theorem dX7_wrongOf_37 : decode cX7_wrongOf 37 = .ok (.ireturn, 1) := by decide +kernel
theorem dX7_shareIn_0 : decode cX7_shareIn 0 = .ok (.iconst 0, 1) := by decide +kernel
theorem dX7_shareIn_1 : decode cX7_shareIn 1 = .ok (.istore_n 3, 1) := by decide +kernel
theorem dX7_shareIn_2 : decode cX7_shareIn 2 = .ok (.iconst 0, 1) := by decide +kernel
theorem dX7_shareIn_3 : decode cX7_shareIn 3 = .ok (.istore 4, 2) := by decide +kernel
theorem dX7_shareIn_5 : decode cX7_shareIn 5 = .ok (.iload 4, 2) := by decide +kernel
theorem dX7_shareIn_7 : decode cX7_shareIn 7 = .ok (.iload_n 2, 1) := by decide +kernel
theorem dX7_shareIn_8 : decode cX7_shareIn 8 = .ok (.if_icmp .ge 28, 3) := by decide +kernel
theorem dX7_shareIn_11 : decode cX7_shareIn 11 = .ok (.iload_n 3, 1) := by decide +kernel
theorem dX7_shareIn_12 : decode cX7_shareIn 12 = .ok (.aload_n 0, 1) := by decide +kernel
theorem dX7_shareIn_13 : decode cX7_shareIn 13 = .ok (.getfield 26, 3) := by decide +kernel
theorem dX7_shareIn_16 : decode cX7_shareIn 16 = .ok (.bipush 8, 2) := by decide +kernel
theorem dX7_shareIn_18 : decode cX7_shareIn 18 = .ok (.aload_n 1, 1) := by decide +kernel
theorem dX7_shareIn_19 : decode cX7_shareIn 19 = .ok (.iload 4, 2) := by decide +kernel
theorem dX7_shareIn_21 : decode cX7_shareIn 21 = .ok (.iaload, 1) := by decide +kernel
theorem dX7_shareIn_22 : decode cX7_shareIn 22 = .ok (.imul, 1) := by decide +kernel
theorem dX7_shareIn_23 : decode cX7_shareIn 23 = .ok (.aload_n 1, 1) := by decide +kernel
theorem dX7_shareIn_24 : decode cX7_shareIn 24 = .ok (.iload_n 2, 1) := by decide +kernel
theorem dX7_shareIn_25 : decode cX7_shareIn 25 = .ok (.iaload, 1) := by decide +kernel
theorem dX7_shareIn_26 : decode cX7_shareIn 26 = .ok (.iadd, 1) := by decide +kernel
theorem dX7_shareIn_27 : decode cX7_shareIn 27 = .ok (.iaload, 1) := by decide +kernel
theorem dX7_shareIn_28 : decode cX7_shareIn 28 = .ok (.iadd, 1) := by decide +kernel
theorem dX7_shareIn_29 : decode cX7_shareIn 29 = .ok (.istore_n 3, 1) := by decide +kernel
theorem dX7_shareIn_30 : decode cX7_shareIn 30 = .ok (.iinc 4 1, 3) := by decide +kernel
theorem dX7_shareIn_33 : decode cX7_shareIn 33 = .ok (.goto (-28), 3) := by decide +kernel
theorem dX7_shareIn_36 : decode cX7_shareIn 36 = .ok (.iconst 0, 1) := by decide +kernel
theorem dX7_shareIn_37 : decode cX7_shareIn 37 = .ok (.sipush 1000, 3) := by decide +kernel
theorem dX7_shareIn_40 : decode cX7_shareIn 40 = .ok (.aload_n 0, 1) := by decide +kernel
theorem dX7_shareIn_41 : decode cX7_shareIn 41 = .ok (.aload_n 1, 1) := by decide +kernel
theorem dX7_shareIn_42 : decode cX7_shareIn 42 = .ok (.iload_n 2, 1) := by decide +kernel
theorem dX7_shareIn_43 : decode cX7_shareIn 43 = .ok (.iaload, 1) := by decide +kernel
theorem dX7_shareIn_44 : decode cX7_shareIn 44 = .ok (.invokevirtual 112, 3) := by decide +kernel
theorem dX7_shareIn_47 : decode cX7_shareIn 47 = .ok (.bipush 10, 2) := by decide +kernel
theorem dX7_shareIn_49 : decode cX7_shareIn 49 = .ok (.iload_n 3, 1) := by decide +kernel
theorem dX7_shareIn_50 : decode cX7_shareIn 50 = .ok (.imul, 1) := by decide +kernel
theorem dX7_shareIn_51 : decode cX7_shareIn 51 = .ok (.iadd, 1) := by decide +kernel
theorem dX7_shareIn_52 : decode cX7_shareIn 52 = .ok (.invokestatic 202, 3) := by decide +kernel
theorem dX7_shareIn_55 : decode cX7_shareIn 55 = .ok (.invokestatic 235, 3) := by decide +kernel
theorem dX7_shareIn_58 : decode cX7_shareIn 58 = .ok (.ireturn, 1) := by decide +kernel
theorem dX7_leansOf_0 : decode cX7_leansOf 0 = .ok (.iconst 0, 1) := by decide +kernel
theorem dX7_leansOf_1 : decode cX7_leansOf 1 = .ok (.istore_n 3, 1) := by decide +kernel
theorem dX7_leansOf_2 : decode cX7_leansOf 2 = .ok (.iconst 0, 1) := by decide +kernel
theorem dX7_leansOf_3 : decode cX7_leansOf 3 = .ok (.istore 4, 2) := by decide +kernel
theorem dX7_leansOf_5 : decode cX7_leansOf 5 = .ok (.iload 4, 2) := by decide +kernel
theorem dX7_leansOf_7 : decode cX7_leansOf 7 = .ok (.iload_n 2, 1) := by decide +kernel
theorem dX7_leansOf_8 : decode cX7_leansOf 8 = .ok (.if_icmp .ge 31, 3) := by decide +kernel
theorem dX7_leansOf_11 : decode cX7_leansOf 11 = .ok (.iload_n 3, 1) := by decide +kernel
theorem dX7_leansOf_12 : decode cX7_leansOf 12 = .ok (.aload_n 0, 1) := by decide +kernel
theorem dX7_leansOf_13 : decode cX7_leansOf 13 = .ok (.aload_n 1, 1) := by decide +kernel
theorem dX7_leansOf_14 : decode cX7_leansOf 14 = .ok (.iload 4, 2) := by decide +kernel
theorem dX7_leansOf_16 : decode cX7_leansOf 16 = .ok (.invokevirtual 238, 3) := by decide +kernel
theorem dX7_leansOf_19 : decode cX7_leansOf 19 = .ok (.aload_n 0, 1) := by decide +kernel
theorem dX7_leansOf_20 : decode cX7_leansOf 20 = .ok (.aload_n 1, 1) := by decide +kernel
theorem dX7_leansOf_21 : decode cX7_leansOf 21 = .ok (.iload 4, 2) := by decide +kernel
theorem dX7_leansOf_23 : decode cX7_leansOf 23 = .ok (.iaload, 1) := by decide +kernel
theorem dX7_leansOf_24 : decode cX7_leansOf 24 = .ok (.invokevirtual 112, 3) := by decide +kernel
theorem dX7_leansOf_27 : decode cX7_leansOf 27 = .ok (.isub, 1) := by decide +kernel
theorem dX7_leansOf_28 : decode cX7_leansOf 28 = .ok (.invokestatic 242, 3) := by decide +kernel
theorem dX7_leansOf_31 : decode cX7_leansOf 31 = .ok (.iadd, 1) := by decide +kernel
theorem dX7_leansOf_32 : decode cX7_leansOf 32 = .ok (.istore_n 3, 1) := by decide +kernel
theorem dX7_leansOf_33 : decode cX7_leansOf 33 = .ok (.iinc 4 1, 3) := by decide +kernel
theorem dX7_leansOf_36 : decode cX7_leansOf 36 = .ok (.goto (-31), 3) := by decide +kernel
theorem dX7_leansOf_39 : decode cX7_leansOf 39 = .ok (.iload_n 3, 1) := by decide +kernel
theorem dX7_leansOf_40 : decode cX7_leansOf 40 = .ok (.ireturn, 1) := by decide +kernel
theorem dX7_next_0 : decode cX7_next 0 = .ok (.aload_n 0, 1) := by decide +kernel
theorem dX7_next_1 : decode cX7_next 1 = .ok (.getfield 245, 3) := by decide +kernel
theorem dX7_next_4 : decode cX7_next 4 = .ok (.iconst 2, 1) := by decide +kernel
theorem dX7_next_5 : decode cX7_next 5 = .ok (.isub, 1) := by decide +kernel
theorem dX7_next_6 : decode cX7_next 6 = .ok (.istore_n 1, 1) := by decide +kernel
theorem dX7_next_7 : decode cX7_next 7 = .ok (.iload_n 1, 1) := by decide +kernel
theorem dX7_next_8 : decode cX7_next 8 = .ok (.ifCond .lt 26, 3) := by decide +kernel
theorem dX7_next_11 : decode cX7_next 11 = .ok (.aload_n 0, 1) := by decide +kernel
theorem dX7_next_12 : decode cX7_next 12 = .ok (.getfield 65, 3) := by decide +kernel
theorem dX7_next_15 : decode cX7_next 15 = .ok (.iload_n 1, 1) := by decide +kernel
theorem dX7_next_16 : decode cX7_next 16 = .ok (.iaload, 1) := by decide +kernel
theorem dX7_next_17 : decode cX7_next 17 = .ok (.aload_n 0, 1) := by decide +kernel
theorem dX7_next_18 : decode cX7_next 18 = .ok (.getfield 65, 3) := by decide +kernel
theorem dX7_next_21 : decode cX7_next 21 = .ok (.iload_n 1, 1) := by decide +kernel
theorem dX7_next_22 : decode cX7_next 22 = .ok (.iconst 1, 1) := by decide +kernel
theorem dX7_next_23 : decode cX7_next 23 = .ok (.iadd, 1) := by decide +kernel
theorem dX7_next_24 : decode cX7_next 24 = .ok (.iaload, 1) := by decide +kernel
theorem dX7_next_25 : decode cX7_next 25 = .ok (.if_icmp .le 9, 3) := by decide +kernel
theorem dX7_next_28 : decode cX7_next 28 = .ok (.iinc 1 (-1), 3) := by decide +kernel
theorem dX7_next_31 : decode cX7_next 31 = .ok (.goto (-24), 3) := by decide +kernel
theorem dX7_next_34 : decode cX7_next 34 = .ok (.iload_n 1, 1) := by decide +kernel
theorem dX7_next_35 : decode cX7_next 35 = .ok (.ifCond .ge 5, 3) := by decide +kernel
theorem dX7_next_38 : decode cX7_next 38 = .ok (.iconst 0, 1) := by decide +kernel
theorem dX7_next_39 : decode cX7_next 39 = .ok (.ireturn, 1) := by decide +kernel
theorem dX7_next_40 : decode cX7_next 40 = .ok (.aload_n 0, 1) := by decide +kernel
theorem dX7_next_41 : decode cX7_next 41 = .ok (.getfield 245, 3) := by decide +kernel
theorem dX7_next_44 : decode cX7_next 44 = .ok (.iconst 1, 1) := by decide +kernel
theorem dX7_next_45 : decode cX7_next 45 = .ok (.isub, 1) := by decide +kernel
theorem dX7_next_46 : decode cX7_next 46 = .ok (.istore_n 2, 1) := by decide +kernel
theorem dX7_next_47 : decode cX7_next 47 = .ok (.aload_n 0, 1) := by decide +kernel
theorem dX7_next_48 : decode cX7_next 48 = .ok (.getfield 65, 3) := by decide +kernel
theorem dX7_next_51 : decode cX7_next 51 = .ok (.iload_n 2, 1) := by decide +kernel
theorem dX7_next_52 : decode cX7_next 52 = .ok (.iaload, 1) := by decide +kernel
theorem dX7_next_53 : decode cX7_next 53 = .ok (.aload_n 0, 1) := by decide +kernel
theorem dX7_next_54 : decode cX7_next 54 = .ok (.getfield 65, 3) := by decide +kernel
theorem dX7_next_57 : decode cX7_next 57 = .ok (.iload_n 1, 1) := by decide +kernel
theorem dX7_next_58 : decode cX7_next 58 = .ok (.iaload, 1) := by decide +kernel
theorem dX7_next_59 : decode cX7_next 59 = .ok (.if_icmp .ge 9, 3) := by decide +kernel
theorem dX7_next_62 : decode cX7_next 62 = .ok (.iinc 2 (-1), 3) := by decide +kernel
theorem dX7_next_65 : decode cX7_next 65 = .ok (.goto (-18), 3) := by decide +kernel
theorem dX7_next_68 : decode cX7_next 68 = .ok (.aload_n 0, 1) := by decide +kernel
theorem dX7_next_69 : decode cX7_next 69 = .ok (.iload_n 1, 1) := by decide +kernel
theorem dX7_next_70 : decode cX7_next 70 = .ok (.iload_n 2, 1) := by decide +kernel
theorem dX7_next_71 : decode cX7_next 71 = .ok (.invokevirtual 248, 3) := by decide +kernel
theorem dX7_next_74 : decode cX7_next 74 = .ok (.iload_n 1, 1) := by decide +kernel
theorem dX7_next_75 : decode cX7_next 75 = .ok (.iconst 1, 1) := by decide +kernel
theorem dX7_next_76 : decode cX7_next 76 = .ok (.iadd, 1) := by decide +kernel
theorem dX7_next_77 : decode cX7_next 77 = .ok (.istore_n 3, 1) := by decide +kernel
theorem dX7_next_78 : decode cX7_next 78 = .ok (.aload_n 0, 1) := by decide +kernel
theorem dX7_next_79 : decode cX7_next 79 = .ok (.getfield 245, 3) := by decide +kernel
theorem dX7_next_82 : decode cX7_next 82 = .ok (.iconst 1, 1) := by decide +kernel
theorem dX7_next_83 : decode cX7_next 83 = .ok (.isub, 1) := by decide +kernel
theorem dX7_next_84 : decode cX7_next 84 = .ok (.istore 4, 2) := by decide +kernel
theorem dX7_next_86 : decode cX7_next 86 = .ok (.iload_n 3, 1) := by decide +kernel
theorem dX7_next_87 : decode cX7_next 87 = .ok (.iload 4, 2) := by decide +kernel
theorem dX7_next_89 : decode cX7_next 89 = .ok (.if_icmp .ge 19, 3) := by decide +kernel
theorem dX7_next_92 : decode cX7_next 92 = .ok (.aload_n 0, 1) := by decide +kernel
theorem dX7_next_93 : decode cX7_next 93 = .ok (.iload_n 3, 1) := by decide +kernel
theorem dX7_next_94 : decode cX7_next 94 = .ok (.iload 4, 2) := by decide +kernel
theorem dX7_next_96 : decode cX7_next 96 = .ok (.invokevirtual 248, 3) := by decide +kernel
theorem dX7_next_99 : decode cX7_next 99 = .ok (.iinc 3 1, 3) := by decide +kernel
theorem dX7_next_102 : decode cX7_next 102 = .ok (.iinc 4 (-1), 3) := by decide +kernel
theorem dX7_next_105 : decode cX7_next 105 = .ok (.goto (-19), 3) := by decide +kernel
theorem dX7_next_108 : decode cX7_next 108 = .ok (.iconst 1, 1) := by decide +kernel
theorem dX7_next_109 : decode cX7_next 109 = .ok (.ireturn, 1) := by decide +kernel
theorem dX7_swap_0 : decode cX7_swap 0 = .ok (.aload_n 0, 1) := by decide +kernel
theorem dX7_swap_1 : decode cX7_swap 1 = .ok (.getfield 65, 3) := by decide +kernel
theorem dX7_swap_4 : decode cX7_swap 4 = .ok (.iload_n 1, 1) := by decide +kernel
theorem dX7_swap_5 : decode cX7_swap 5 = .ok (.iaload, 1) := by decide +kernel
theorem dX7_swap_6 : decode cX7_swap 6 = .ok (.istore_n 3, 1) := by decide +kernel
theorem dX7_swap_7 : decode cX7_swap 7 = .ok (.aload_n 0, 1) := by decide +kernel
theorem dX7_swap_8 : decode cX7_swap 8 = .ok (.getfield 65, 3) := by decide +kernel
theorem dX7_swap_11 : decode cX7_swap 11 = .ok (.iload_n 1, 1) := by decide +kernel
theorem dX7_swap_12 : decode cX7_swap 12 = .ok (.aload_n 0, 1) := by decide +kernel
theorem dX7_swap_13 : decode cX7_swap 13 = .ok (.getfield 65, 3) := by decide +kernel
theorem dX7_swap_16 : decode cX7_swap 16 = .ok (.iload_n 2, 1) := by decide +kernel
theorem dX7_swap_17 : decode cX7_swap 17 = .ok (.iaload, 1) := by decide +kernel
theorem dX7_swap_18 : decode cX7_swap 18 = .ok (.iastore, 1) := by decide +kernel
theorem dX7_swap_19 : decode cX7_swap 19 = .ok (.aload_n 0, 1) := by decide +kernel
theorem dX7_swap_20 : decode cX7_swap 20 = .ok (.getfield 65, 3) := by decide +kernel
theorem dX7_swap_23 : decode cX7_swap 23 = .ok (.iload_n 2, 1) := by decide +kernel
theorem dX7_swap_24 : decode cX7_swap 24 = .ok (.iload_n 3, 1) := by decide +kernel
theorem dX7_swap_25 : decode cX7_swap 25 = .ok (.iastore, 1) := by decide +kernel
theorem dX7_swap_26 : decode cX7_swap 26 = .ok (.return_, 1) := by decide +kernel
theorem dX7_order_0 : decode cX7_order 0 = .ok (.iload_n 2, 1) := by decide +kernel
theorem dX7_order_1 : decode cX7_order 1 = .ok (.iconst (-1), 1) := by decide +kernel
theorem dX7_order_2 : decode cX7_order 2 = .ok (.iload_n 1, 1) := by decide +kernel
theorem dX7_order_3 : decode cX7_order 3 = .ok (.invokestatic 252, 3) := by decide +kernel
theorem dX7_order_6 : decode cX7_order 6 = .ok (.iconst 1, 1) := by decide +kernel
theorem dX7_order_7 : decode cX7_order 7 = .ok (.isub, 1) := by decide +kernel
theorem dX7_order_8 : decode cX7_order 8 = .ok (.invokestatic 88, 3) := by decide +kernel
theorem dX7_order_11 : decode cX7_order 11 = .ok (.ifCond .ne 10, 3) := by decide +kernel
theorem dX7_order_14 : decode cX7_order 14 = .ok (.aload_n 0, 1) := by decide +kernel
theorem dX7_order_15 : decode cX7_order 15 = .ok (.bipush (-5), 2) := by decide +kernel
theorem dX7_order_17 : decode cX7_order 17 = .ok (.invokevirtual 81, 3) := by decide +kernel
theorem dX7_order_20 : decode cX7_order 20 = .ok (.ireturn, 1) := by decide +kernel
theorem dX7_order_21 : decode cX7_order 21 = .ok (.iload_n 1, 1) := by decide +kernel
theorem dX7_order_22 : decode cX7_order 22 = .ok (.ifCond .lt 22, 3) := by decide +kernel
theorem dX7_order_25 : decode cX7_order 25 = .ok (.iload_n 1, 1) := by decide +kernel
theorem dX7_order_26 : decode cX7_order 26 = .ok (.iconst 1, 1) := by decide +kernel
theorem dX7_order_27 : decode cX7_order 27 = .ok (.aload_n 0, 1) := by decide +kernel
theorem dX7_order_28 : decode cX7_order 28 = .ok (.getfield 85, 3) := by decide +kernel
theorem dX7_order_31 : decode cX7_order 31 = .ok (.ishl, 1) := by decide +kernel
theorem dX7_order_32 : decode cX7_order 32 = .ok (.if_icmp .ge 12, 3) := by decide +kernel
theorem dX7_order_35 : decode cX7_order 35 = .ok (.iload_n 1, 1) := by decide +kernel
theorem dX7_order_36 : decode cX7_order 36 = .ok (.invokestatic 252, 3) := by decide +kernel
theorem dX7_order_39 : decode cX7_order 39 = .ok (.bipush 6, 2) := by decide +kernel
theorem dX7_order_41 : decode cX7_order 41 = .ok (.if_icmp .le 10, 3) := by decide +kernel
theorem dX7_order_44 : decode cX7_order 44 = .ok (.aload_n 0, 1) := by decide +kernel
theorem dX7_order_45 : decode cX7_order 45 = .ok (.bipush (-6), 2) := by decide +kernel
theorem dX7_order_47 : decode cX7_order 47 = .ok (.invokevirtual 81, 3) := by decide +kernel
theorem dX7_order_50 : decode cX7_order 50 = .ok (.ireturn, 1) := by decide +kernel
theorem dX7_order_51 : decode cX7_order 51 = .ok (.aload_n 0, 1) := by decide +kernel
theorem dX7_order_52 : decode cX7_order 52 = .ok (.iconst 0, 1) := by decide +kernel
theorem dX7_order_53 : decode cX7_order 53 = .ok (.putfield 245, 3) := by decide +kernel
theorem dX7_order_56 : decode cX7_order 56 = .ok (.iconst 0, 1) := by decide +kernel
theorem dX7_order_57 : decode cX7_order 57 = .ok (.istore_n 3, 1) := by decide +kernel
theorem dX7_order_58 : decode cX7_order 58 = .ok (.iload_n 3, 1) := by decide +kernel
theorem dX7_order_59 : decode cX7_order 59 = .ok (.aload_n 0, 1) := by decide +kernel
theorem dX7_order_60 : decode cX7_order 60 = .ok (.getfield 85, 3) := by decide +kernel
theorem dX7_order_63 : decode cX7_order 63 = .ok (.if_icmp .ge 34, 3) := by decide +kernel
theorem dX7_order_66 : decode cX7_order 66 = .ok (.iload_n 1, 1) := by decide +kernel
theorem dX7_order_67 : decode cX7_order 67 = .ok (.iload_n 3, 1) := by decide +kernel
theorem dX7_order_68 : decode cX7_order 68 = .ok (.invokestatic 257, 3) := by decide +kernel
theorem dX7_order_71 : decode cX7_order 71 = .ok (.ifCond .eq 20, 3) := by decide +kernel
theorem dX7_order_74 : decode cX7_order 74 = .ok (.aload_n 0, 1) := by decide +kernel
theorem dX7_order_75 : decode cX7_order 75 = .ok (.getfield 65, 3) := by decide +kernel
theorem dX7_order_78 : decode cX7_order 78 = .ok (.aload_n 0, 1) := by decide +kernel
theorem dX7_order_79 : decode cX7_order 79 = .ok (.dup, 1) := by decide +kernel
theorem dX7_order_80 : decode cX7_order 80 = .ok (.getfield 245, 3) := by decide +kernel
theorem dX7_order_83 : decode cX7_order 83 = .ok (.dup_x1, 1) := by decide +kernel
theorem dX7_order_84 : decode cX7_order 84 = .ok (.iconst 1, 1) := by decide +kernel
theorem dX7_order_85 : decode cX7_order 85 = .ok (.iadd, 1) := by decide +kernel
theorem dX7_order_86 : decode cX7_order 86 = .ok (.putfield 245, 3) := by decide +kernel
theorem dX7_order_89 : decode cX7_order 89 = .ok (.iload_n 3, 1) := by decide +kernel
theorem dX7_order_90 : decode cX7_order 90 = .ok (.iastore, 1) := by decide +kernel
theorem dX7_order_91 : decode cX7_order 91 = .ok (.iinc 3 1, 3) := by decide +kernel
theorem dX7_order_94 : decode cX7_order 94 = .ok (.goto (-36), 3) := by decide +kernel
theorem dX7_order_97 : decode cX7_order 97 = .ok (.iconst (-1), 1) := by decide +kernel
theorem dX7_order_98 : decode cX7_order 98 = .ok (.istore_n 3, 1) := by decide +kernel
theorem dX7_order_99 : decode cX7_order 99 = .ok (.iconst 1, 1) := by decide +kernel
theorem dX7_order_100 : decode cX7_order 100 = .ok (.istore 4, 2) := by decide +kernel
theorem dX7_order_102 : decode cX7_order 102 = .ok (.iload 4, 2) := by decide +kernel
theorem dX7_order_104 : decode cX7_order 104 = .ok (.ifCond .eq 72, 3) := by decide +kernel
theorem dX7_order_107 : decode cX7_order 107 = .ok (.aload_n 0, 1) := by decide +kernel
theorem dX7_order_108 : decode cX7_order 108 = .ok (.aload_n 0, 1) := by decide +kernel
theorem dX7_order_109 : decode cX7_order 109 = .ok (.getfield 65, 3) := by decide +kernel
theorem dX7_order_112 : decode cX7_order 112 = .ok (.aload_n 0, 1) := by decide +kernel
theorem dX7_order_113 : decode cX7_order 113 = .ok (.getfield 245, 3) := by decide +kernel
theorem dX7_order_116 : decode cX7_order 116 = .ok (.invokevirtual 260, 3) := by decide +kernel
theorem dX7_order_119 : decode cX7_order 119 = .ok (.istore 5, 2) := by decide +kernel
theorem dX7_order_121 : decode cX7_order 121 = .ok (.iload_n 3, 1) := by decide +kernel
theorem dX7_order_122 : decode cX7_order 122 = .ok (.iconst (-1), 1) := by decide +kernel
theorem dX7_order_123 : decode cX7_order 123 = .ok (.if_icmp .eq 9, 3) := by decide +kernel
theorem dX7_order_126 : decode cX7_order 126 = .ok (.iload 5, 2) := by decide +kernel
theorem dX7_order_128 : decode cX7_order 128 = .ok (.iload_n 3, 1) := by decide +kernel
theorem dX7_order_129 : decode cX7_order 129 = .ok (.if_icmp .ge 38, 3) := by decide +kernel
theorem dX7_order_132 : decode cX7_order 132 = .ok (.iload 5, 2) := by decide +kernel
theorem dX7_order_134 : decode cX7_order 134 = .ok (.istore_n 3, 1) := by decide +kernel
theorem dX7_order_135 : decode cX7_order 135 = .ok (.iconst 0, 1) := by decide +kernel
theorem dX7_order_136 : decode cX7_order 136 = .ok (.istore 6, 2) := by decide +kernel
theorem dX7_order_138 : decode cX7_order 138 = .ok (.iload 6, 2) := by decide +kernel
theorem dX7_order_140 : decode cX7_order 140 = .ok (.aload_n 0, 1) := by decide +kernel
theorem dX7_order_141 : decode cX7_order 141 = .ok (.getfield 245, 3) := by decide +kernel
theorem dX7_order_144 : decode cX7_order 144 = .ok (.if_icmp .ge 23, 3) := by decide +kernel
theorem dX7_order_147 : decode cX7_order 147 = .ok (.aload_n 0, 1) := by decide +kernel
theorem dX7_order_148 : decode cX7_order 148 = .ok (.getfield 68, 3) := by decide +kernel
theorem dX7_order_151 : decode cX7_order 151 = .ok (.iload 6, 2) := by decide +kernel
theorem dX7_order_153 : decode cX7_order 153 = .ok (.aload_n 0, 1) := by decide +kernel
theorem dX7_order_154 : decode cX7_order 154 = .ok (.getfield 65, 3) := by decide +kernel
theorem dX7_order_157 : decode cX7_order 157 = .ok (.iload 6, 2) := by decide +kernel
theorem dX7_order_159 : decode cX7_order 159 = .ok (.iaload, 1) := by decide +kernel
theorem dX7_order_160 : decode cX7_order 160 = .ok (.iastore, 1) := by decide +kernel
theorem dX7_order_161 : decode cX7_order 161 = .ok (.iinc 6 1, 3) := by decide +kernel
theorem dX7_order_164 : decode cX7_order 164 = .ok (.goto (-26), 3) := by decide +kernel
theorem dX7_order_167 : decode cX7_order 167 = .ok (.aload_n 0, 1) := by decide +kernel
theorem dX7_order_168 : decode cX7_order 168 = .ok (.invokevirtual 263, 3) := by decide +kernel
theorem dX7_order_171 : decode cX7_order 171 = .ok (.istore 4, 2) := by decide +kernel
theorem dX7_order_173 : decode cX7_order 173 = .ok (.goto (-71), 3) := by decide +kernel
theorem dX7_order_176 : decode cX7_order 176 = .ok (.iload_n 2, 1) := by decide +kernel
theorem dX7_order_177 : decode cX7_order 177 = .ok (.iconst (-1), 1) := by decide +kernel
theorem dX7_order_178 : decode cX7_order 178 = .ok (.if_icmp .ne 7, 3) := by decide +kernel
theorem dX7_order_181 : decode cX7_order 181 = .ok (.iload_n 3, 1) := by decide +kernel
theorem dX7_order_182 : decode cX7_order 182 = .ok (.goto 9, 3) := by decide +kernel
theorem dX7_order_185 : decode cX7_order 185 = .ok (.aload_n 0, 1) := by decide +kernel
theorem dX7_order_186 : decode cX7_order 186 = .ok (.getfield 68, 3) := by decide +kernel
theorem dX7_order_189 : decode cX7_order 189 = .ok (.iload_n 2, 1) := by decide +kernel
theorem dX7_order_190 : decode cX7_order 190 = .ok (.iaload, 1) := by decide +kernel
theorem dX7_order_191 : decode cX7_order 191 = .ok (.ireturn, 1) := by decide +kernel
theorem dX7_blame_0 : decode cX7_blame 0 = .ok (.iconst (-1), 1) := by decide +kernel
theorem dX7_blame_1 : decode cX7_blame 1 = .ok (.istore_n 1, 1) := by decide +kernel
theorem dX7_blame_2 : decode cX7_blame 2 = .ok (.iconst 0, 1) := by decide +kernel
theorem dX7_blame_3 : decode cX7_blame 3 = .ok (.istore_n 2, 1) := by decide +kernel
theorem dX7_blame_4 : decode cX7_blame 4 = .ok (.iconst 0, 1) := by decide +kernel
theorem dX7_blame_5 : decode cX7_blame 5 = .ok (.istore_n 3, 1) := by decide +kernel
theorem dX7_blame_6 : decode cX7_blame 6 = .ok (.iload_n 3, 1) := by decide +kernel
theorem dX7_blame_7 : decode cX7_blame 7 = .ok (.aload_n 0, 1) := by decide +kernel
theorem dX7_blame_8 : decode cX7_blame 8 = .ok (.getfield 85, 3) := by decide +kernel
theorem dX7_blame_11 : decode cX7_blame 11 = .ok (.if_icmp .ge 64, 3) := by decide +kernel
theorem dX7_blame_14 : decode cX7_blame 14 = .ok (.iconst 0, 1) := by decide +kernel
theorem dX7_blame_15 : decode cX7_blame 15 = .ok (.istore 4, 2) := by decide +kernel
theorem dX7_blame_17 : decode cX7_blame 17 = .ok (.iload 4, 2) := by decide +kernel
theorem dX7_blame_19 : decode cX7_blame 19 = .ok (.aload_n 0, 1) := by decide +kernel
theorem dX7_blame_20 : decode cX7_blame 20 = .ok (.getfield 85, 3) := by decide +kernel
theorem dX7_blame_23 : decode cX7_blame 23 = .ok (.if_icmp .ge 46, 3) := by decide +kernel
theorem dX7_blame_26 : decode cX7_blame 26 = .ok (.aload_n 0, 1) := by decide +kernel
theorem dX7_blame_27 : decode cX7_blame 27 = .ok (.getfield 26, 3) := by decide +kernel
theorem dX7_blame_30 : decode cX7_blame 30 = .ok (.bipush 8, 2) := by decide +kernel
theorem dX7_blame_32 : decode cX7_blame 32 = .ok (.iload_n 3, 1) := by decide +kernel
theorem dX7_blame_33 : decode cX7_blame 33 = .ok (.imul, 1) := by decide +kernel
theorem dX7_blame_34 : decode cX7_blame 34 = .ok (.iload 4, 2) := by decide +kernel
theorem dX7_blame_36 : decode cX7_blame 36 = .ok (.iadd, 1) := by decide +kernel
theorem dX7_blame_37 : decode cX7_blame 37 = .ok (.iaload, 1) := by decide +kernel
theorem dX7_blame_38 : decode cX7_blame 38 = .ok (.invokestatic 242, 3) := by decide +kernel
theorem dX7_blame_41 : decode cX7_blame 41 = .ok (.istore 5, 2) := by decide +kernel
theorem dX7_blame_43 : decode cX7_blame 43 = .ok (.iload 5, 2) := by decide +kernel
theorem dX7_blame_45 : decode cX7_blame 45 = .ok (.iload_n 2, 1) := by decide +kernel
theorem dX7_blame_46 : decode cX7_blame 46 = .ok (.if_icmp .gt 6, 3) := by decide +kernel
theorem dX7_blame_49 : decode cX7_blame 49 = .ok (.goto 14, 3) := by decide +kernel
theorem dX7_blame_52 : decode cX7_blame 52 = .ok (.iload 5, 2) := by decide +kernel
theorem dX7_blame_54 : decode cX7_blame 54 = .ok (.istore_n 2, 1) := by decide +kernel
theorem dX7_blame_55 : decode cX7_blame 55 = .ok (.bipush 100, 2) := by decide +kernel
theorem dX7_blame_57 : decode cX7_blame 57 = .ok (.iload_n 3, 1) := by decide +kernel
theorem dX7_blame_58 : decode cX7_blame 58 = .ok (.imul, 1) := by decide +kernel
theorem dX7_blame_59 : decode cX7_blame 59 = .ok (.iload 4, 2) := by decide +kernel
theorem dX7_blame_61 : decode cX7_blame 61 = .ok (.iadd, 1) := by decide +kernel
theorem dX7_blame_62 : decode cX7_blame 62 = .ok (.istore_n 1, 1) := by decide +kernel
theorem dX7_blame_63 : decode cX7_blame 63 = .ok (.iinc 4 1, 3) := by decide +kernel
theorem dX7_blame_66 : decode cX7_blame 66 = .ok (.goto (-49), 3) := by decide +kernel
theorem dX7_blame_69 : decode cX7_blame 69 = .ok (.iinc 3 1, 3) := by decide +kernel
theorem dX7_blame_72 : decode cX7_blame 72 = .ok (.goto (-66), 3) := by decide +kernel
theorem dX7_blame_75 : decode cX7_blame 75 = .ok (.iload_n 1, 1) := by decide +kernel
theorem dX7_blame_76 : decode cX7_blame 76 = .ok (.ireturn, 1) := by decide +kernel
theorem dX7_nothing_0 : decode cX7_nothing 0 = .ok (.aload_n 0, 1) := by decide +kernel
theorem dX7_nothing_1 : decode cX7_nothing 1 = .ok (.iload_n 1, 1) := by decide +kernel
theorem dX7_nothing_2 : decode cX7_nothing 2 = .ok (.invokevirtual 102, 3) := by decide +kernel
theorem dX7_nothing_5 : decode cX7_nothing 5 = .ok (.ifCond .eq 11, 3) := by decide +kernel
theorem dX7_nothing_8 : decode cX7_nothing 8 = .ok (.aload_n 0, 1) := by decide +kernel
theorem dX7_nothing_9 : decode cX7_nothing 9 = .ok (.iload_n 2, 1) := by decide +kernel
theorem dX7_nothing_10 : decode cX7_nothing 10 = .ok (.invokevirtual 102, 3) := by decide +kernel
theorem dX7_nothing_13 : decode cX7_nothing 13 = .ok (.ifCond .ne 9, 3) := by decide +kernel
theorem dX7_nothing_16 : decode cX7_nothing 16 = .ok (.aload_n 0, 1) := by decide +kernel
theorem dX7_nothing_17 : decode cX7_nothing 17 = .ok (.iconst (-1), 1) := by decide +kernel
theorem dX7_nothing_18 : decode cX7_nothing 18 = .ok (.invokevirtual 127, 3) := by decide +kernel
theorem dX7_nothing_21 : decode cX7_nothing 21 = .ok (.ireturn, 1) := by decide +kernel
theorem dX7_nothing_22 : decode cX7_nothing 22 = .ok (.sipush 1000, 3) := by decide +kernel
theorem dX7_nothing_25 : decode cX7_nothing 25 = .ok (.aload_n 0, 1) := by decide +kernel
theorem dX7_nothing_26 : decode cX7_nothing 26 = .ok (.iload_n 1, 1) := by decide +kernel
theorem dX7_nothing_27 : decode cX7_nothing 27 = .ok (.invokevirtual 112, 3) := by decide +kernel
theorem dX7_nothing_30 : decode cX7_nothing 30 = .ok (.isub, 1) := by decide +kernel
theorem dX7_nothing_31 : decode cX7_nothing 31 = .ok (.aload_n 0, 1) := by decide +kernel
theorem dX7_nothing_32 : decode cX7_nothing 32 = .ok (.iload_n 2, 1) := by decide +kernel
theorem dX7_nothing_33 : decode cX7_nothing 33 = .ok (.invokevirtual 112, 3) := by decide +kernel
theorem dX7_nothing_36 : decode cX7_nothing 36 = .ok (.isub, 1) := by decide +kernel
theorem dX7_nothing_37 : decode cX7_nothing 37 = .ok (.ireturn, 1) := by decide +kernel
theorem dX7_enough_0 : decode cX7_enough 0 = .ok (.aload_n 0, 1) := by decide +kernel
theorem dX7_enough_1 : decode cX7_enough 1 = .ok (.iload_n 1, 1) := by decide +kernel
theorem dX7_enough_2 : decode cX7_enough 2 = .ok (.invokevirtual 102, 3) := by decide +kernel
theorem dX7_enough_5 : decode cX7_enough 5 = .ok (.ifCond .ne 9, 3) := by decide +kernel
theorem dX7_enough_8 : decode cX7_enough 8 = .ok (.aload_n 0, 1) := by decide +kernel
theorem dX7_enough_9 : decode cX7_enough 9 = .ok (.iconst (-1), 1) := by decide +kernel
theorem dX7_enough_10 : decode cX7_enough 10 = .ok (.invokevirtual 266, 3) := by decide +kernel
theorem dX7_enough_13 : decode cX7_enough 13 = .ok (.ireturn, 1) := by decide +kernel
theorem dX7_enough_14 : decode cX7_enough 14 = .ok (.iload_n 2, 1) := by decide +kernel
theorem dX7_enough_15 : decode cX7_enough 15 = .ok (.iconst 0, 1) := by decide +kernel
theorem dX7_enough_16 : decode cX7_enough 16 = .ok (.sipush 1000, 3) := by decide +kernel
theorem dX7_enough_19 : decode cX7_enough 19 = .ok (.invokestatic 88, 3) := by decide +kernel
theorem dX7_enough_22 : decode cX7_enough 22 = .ok (.ifCond .ne 10, 3) := by decide +kernel
theorem dX7_enough_25 : decode cX7_enough 25 = .ok (.aload_n 0, 1) := by decide +kernel
theorem dX7_enough_26 : decode cX7_enough 26 = .ok (.bipush (-6), 2) := by decide +kernel
theorem dX7_enough_28 : decode cX7_enough 28 = .ok (.invokevirtual 266, 3) := by decide +kernel
theorem dX7_enough_31 : decode cX7_enough 31 = .ok (.ireturn, 1) := by decide +kernel
theorem dX7_enough_32 : decode cX7_enough 32 = .ok (.iconst 0, 1) := by decide +kernel
theorem dX7_enough_33 : decode cX7_enough 33 = .ok (.istore_n 3, 1) := by decide +kernel
theorem dX7_enough_34 : decode cX7_enough 34 = .ok (.iload_n 3, 1) := by decide +kernel
theorem dX7_enough_35 : decode cX7_enough 35 = .ok (.bipush 10, 2) := by decide +kernel
theorem dX7_enough_37 : decode cX7_enough 37 = .ok (.if_icmp .ge 24, 3) := by decide +kernel
theorem dX7_enough_40 : decode cX7_enough 40 = .ok (.aload_n 0, 1) := by decide +kernel
theorem dX7_enough_41 : decode cX7_enough 41 = .ok (.iload_n 1, 1) := by decide +kernel
theorem dX7_enough_42 : decode cX7_enough 42 = .ok (.iload_n 3, 1) := by decide +kernel
theorem dX7_enough_43 : decode cX7_enough 43 = .ok (.invokevirtual 229, 3) := by decide +kernel
theorem dX7_enough_46 : decode cX7_enough 46 = .ok (.invokestatic 242, 3) := by decide +kernel
theorem dX7_enough_49 : decode cX7_enough 49 = .ok (.iload_n 2, 1) := by decide +kernel
theorem dX7_enough_50 : decode cX7_enough 50 = .ok (.if_icmp .gt 5, 3) := by decide +kernel
theorem dX7_enough_53 : decode cX7_enough 53 = .ok (.iload_n 3, 1) := by decide +kernel
theorem dX7_enough_54 : decode cX7_enough 54 = .ok (.ireturn, 1) := by decide +kernel
theorem dX7_enough_55 : decode cX7_enough 55 = .ok (.iinc 3 1, 3) := by decide +kernel
theorem dX7_enough_58 : decode cX7_enough 58 = .ok (.goto (-24), 3) := by decide +kernel
theorem dX7_enough_61 : decode cX7_enough 61 = .ok (.iconst (-1), 1) := by decide +kernel
theorem dX7_enough_62 : decode cX7_enough 62 = .ok (.ireturn, 1) := by decide +kernel
theorem dX7_costOf_0 : decode cX7_costOf 0 = .ok (.iconst 0, 1) := by decide +kernel
theorem dX7_costOf_1 : decode cX7_costOf 1 = .ok (.istore_n 2, 1) := by decide +kernel
theorem dX7_costOf_2 : decode cX7_costOf 2 = .ok (.iconst 0, 1) := by decide +kernel
theorem dX7_costOf_3 : decode cX7_costOf 3 = .ok (.istore_n 3, 1) := by decide +kernel
theorem dX7_costOf_4 : decode cX7_costOf 4 = .ok (.iload_n 3, 1) := by decide +kernel
theorem dX7_costOf_5 : decode cX7_costOf 5 = .ok (.iload_n 1, 1) := by decide +kernel
theorem dX7_costOf_6 : decode cX7_costOf 6 = .ok (.if_icmp .ge 48, 3) := by decide +kernel
theorem dX7_costOf_9 : decode cX7_costOf 9 = .ok (.aload_n 0, 1) := by decide +kernel
theorem dX7_costOf_10 : decode cX7_costOf 10 = .ok (.iload_n 3, 1) := by decide +kernel
theorem dX7_costOf_11 : decode cX7_costOf 11 = .ok (.invokevirtual 220, 3) := by decide +kernel
theorem dX7_costOf_14 : decode cX7_costOf 14 = .ok (.pop, 1) := by decide +kernel
theorem dX7_costOf_15 : decode cX7_costOf 15 = .ok (.iconst 0, 1) := by decide +kernel
theorem dX7_costOf_16 : decode cX7_costOf 16 = .ok (.istore 4, 2) := by decide +kernel
theorem dX7_costOf_18 : decode cX7_costOf 18 = .ok (.iload 4, 2) := by decide +kernel
theorem dX7_costOf_20 : decode cX7_costOf 20 = .ok (.aload_n 0, 1) := by decide +kernel
theorem dX7_costOf_21 : decode cX7_costOf 21 = .ok (.getfield 92, 3) := by decide +kernel
theorem dX7_costOf_24 : decode cX7_costOf 24 = .ok (.if_icmp .ge 24, 3) := by decide +kernel
theorem dX7_costOf_27 : decode cX7_costOf 27 = .ok (.iload_n 2, 1) := by decide +kernel
theorem dX7_costOf_28 : decode cX7_costOf 28 = .ok (.aload_n 0, 1) := by decide +kernel
theorem dX7_costOf_29 : decode cX7_costOf 29 = .ok (.getfield 71, 3) := by decide +kernel
theorem dX7_costOf_32 : decode cX7_costOf 32 = .ok (.aload_n 0, 1) := by decide +kernel
theorem dX7_costOf_33 : decode cX7_costOf 33 = .ok (.getfield 62, 3) := by decide +kernel
theorem dX7_costOf_36 : decode cX7_costOf 36 = .ok (.iload 4, 2) := by decide +kernel
theorem dX7_costOf_38 : decode cX7_costOf 38 = .ok (.iaload, 1) := by decide +kernel
theorem dX7_costOf_39 : decode cX7_costOf 39 = .ok (.imul, 1) := by decide +kernel
theorem dX7_costOf_40 : decode cX7_costOf 40 = .ok (.iadd, 1) := by decide +kernel
theorem dX7_costOf_41 : decode cX7_costOf 41 = .ok (.istore_n 2, 1) := by decide +kernel
theorem dX7_costOf_42 : decode cX7_costOf 42 = .ok (.iinc 4 1, 3) := by decide +kernel
theorem dX7_costOf_45 : decode cX7_costOf 45 = .ok (.goto (-27), 3) := by decide +kernel
theorem dX7_costOf_48 : decode cX7_costOf 48 = .ok (.iinc 3 1, 3) := by decide +kernel
theorem dX7_costOf_51 : decode cX7_costOf 51 = .ok (.goto (-47), 3) := by decide +kernel
theorem dX7_costOf_54 : decode cX7_costOf 54 = .ok (.iload_n 2, 1) := by decide +kernel
theorem dX7_costOf_55 : decode cX7_costOf 55 = .ok (.ireturn, 1) := by decide +kernel
theorem dX7_cost_0 : decode cX7_cost 0 = .ok (.iload_n 1, 1) := by decide +kernel
theorem dX7_cost_1 : decode cX7_cost 1 = .ok (.invokestatic 223, 3) := by decide +kernel
theorem dX7_cost_4 : decode cX7_cost 4 = .ok (.ifCond .eq 11, 3) := by decide +kernel
theorem dX7_cost_7 : decode cX7_cost 7 = .ok (.aload_n 0, 1) := by decide +kernel
theorem dX7_cost_8 : decode cX7_cost 8 = .ok (.iload_n 1, 1) := by decide +kernel
theorem dX7_cost_9 : decode cX7_cost 9 = .ok (.invokevirtual 269, 3) := by decide +kernel
theorem dX7_cost_12 : decode cX7_cost 12 = .ok (.goto 9, 3) := by decide +kernel
theorem dX7_cost_15 : decode cX7_cost 15 = .ok (.aload_n 0, 1) := by decide +kernel
theorem dX7_cost_16 : decode cX7_cost 16 = .ok (.bipush (-6), 2) := by decide +kernel
theorem dX7_cost_18 : decode cX7_cost 18 = .ok (.invokevirtual 81, 3) := by decide +kernel
theorem dX7_cost_21 : decode cX7_cost 21 = .ok (.ireturn, 1) := by decide +kernel
theorem dX7_fine_0 : decode cX7_fine 0 = .ok (.aload_n 0, 1) := by decide +kernel
theorem dX7_fine_1 : decode cX7_fine 1 = .ok (.iload_n 1, 1) := by decide +kernel
theorem dX7_fine_2 : decode cX7_fine 2 = .ok (.invokevirtual 102, 3) := by decide +kernel
theorem dX7_fine_5 : decode cX7_fine 5 = .ok (.ifCond .ne 9, 3) := by decide +kernel
theorem dX7_fine_8 : decode cX7_fine 8 = .ok (.aload_n 0, 1) := by decide +kernel
theorem dX7_fine_9 : decode cX7_fine 9 = .ok (.iconst (-1), 1) := by decide +kernel
theorem dX7_fine_10 : decode cX7_fine 10 = .ok (.invokevirtual 81, 3) := by decide +kernel
theorem dX7_fine_13 : decode cX7_fine 13 = .ok (.ireturn, 1) := by decide +kernel
theorem dX7_fine_14 : decode cX7_fine 14 = .ok (.iload_n 2, 1) := by decide +kernel
theorem dX7_fine_15 : decode cX7_fine 15 = .ok (.ifCond .ge 10, 3) := by decide +kernel
theorem dX7_fine_18 : decode cX7_fine 18 = .ok (.aload_n 0, 1) := by decide +kernel
theorem dX7_fine_19 : decode cX7_fine 19 = .ok (.bipush (-6), 2) := by decide +kernel
theorem dX7_fine_21 : decode cX7_fine 21 = .ok (.invokevirtual 81, 3) := by decide +kernel
theorem dX7_fine_24 : decode cX7_fine 24 = .ok (.ireturn, 1) := by decide +kernel
theorem dX7_fine_25 : decode cX7_fine 25 = .ok (.iconst 0, 1) := by decide +kernel
theorem dX7_fine_26 : decode cX7_fine 26 = .ok (.istore_n 3, 1) := by decide +kernel
theorem dX7_fine_27 : decode cX7_fine 27 = .ok (.iconst 1, 1) := by decide +kernel
theorem dX7_fine_28 : decode cX7_fine 28 = .ok (.istore 4, 2) := by decide +kernel
theorem dX7_fine_30 : decode cX7_fine 30 = .ok (.iload 4, 2) := by decide +kernel
theorem dX7_fine_32 : decode cX7_fine 32 = .ok (.bipush 10, 2) := by decide +kernel
theorem dX7_fine_34 : decode cX7_fine 34 = .ok (.if_icmp .ge 44, 3) := by decide +kernel
theorem dX7_fine_37 : decode cX7_fine 37 = .ok (.aload_n 0, 1) := by decide +kernel
theorem dX7_fine_38 : decode cX7_fine 38 = .ok (.iload 4, 2) := by decide +kernel
theorem dX7_fine_40 : decode cX7_fine 40 = .ok (.invokevirtual 269, 3) := by decide +kernel
theorem dX7_fine_43 : decode cX7_fine 43 = .ok (.iload_n 2, 1) := by decide +kernel
theorem dX7_fine_44 : decode cX7_fine 44 = .ok (.if_icmp .gt 28, 3) := by decide +kernel
theorem dX7_fine_47 : decode cX7_fine 47 = .ok (.aload_n 0, 1) := by decide +kernel
theorem dX7_fine_48 : decode cX7_fine 48 = .ok (.iload_n 1, 1) := by decide +kernel
theorem dX7_fine_49 : decode cX7_fine 49 = .ok (.iload 4, 2) := by decide +kernel
theorem dX7_fine_51 : decode cX7_fine 51 = .ok (.invokevirtual 229, 3) := by decide +kernel
theorem dX7_fine_54 : decode cX7_fine 54 = .ok (.invokestatic 242, 3) := by decide +kernel
theorem dX7_fine_57 : decode cX7_fine 57 = .ok (.aload_n 0, 1) := by decide +kernel
theorem dX7_fine_58 : decode cX7_fine 58 = .ok (.iload_n 1, 1) := by decide +kernel
theorem dX7_fine_59 : decode cX7_fine 59 = .ok (.iload_n 3, 1) := by decide +kernel
theorem dX7_fine_60 : decode cX7_fine 60 = .ok (.invokevirtual 229, 3) := by decide +kernel
theorem dX7_fine_63 : decode cX7_fine 63 = .ok (.invokestatic 242, 3) := by decide +kernel
theorem dX7_fine_66 : decode cX7_fine 66 = .ok (.if_icmp .ge 6, 3) := by decide +kernel
theorem dX7_fine_69 : decode cX7_fine 69 = .ok (.iload 4, 2) := by decide +kernel
theorem dX7_fine_71 : decode cX7_fine 71 = .ok (.istore_n 3, 1) := by decide +kernel
theorem dX7_fine_72 : decode cX7_fine 72 = .ok (.iinc 4 1, 3) := by decide +kernel
theorem dX7_fine_75 : decode cX7_fine 75 = .ok (.goto (-45), 3) := by decide +kernel
theorem dX7_fine_78 : decode cX7_fine 78 = .ok (.iload_n 3, 1) := by decide +kernel
theorem dX7_fine_79 : decode cX7_fine 79 = .ok (.ireturn, 1) := by decide +kernel
theorem dX7_never_0 : decode cX7_never 0 = .ok (.aload_n 0, 1) := by decide +kernel
theorem dX7_never_1 : decode cX7_never 1 = .ok (.bipush 9, 2) := by decide +kernel
theorem dX7_never_3 : decode cX7_never 3 = .ok (.invokevirtual 220, 3) := by decide +kernel
theorem dX7_never_6 : decode cX7_never 6 = .ok (.pop, 1) := by decide +kernel
theorem dX7_never_7 : decode cX7_never 7 = .ok (.iconst 0, 1) := by decide +kernel
theorem dX7_never_8 : decode cX7_never 8 = .ok (.istore_n 1, 1) := by decide +kernel
theorem dX7_never_9 : decode cX7_never 9 = .ok (.iconst 0, 1) := by decide +kernel
theorem dX7_never_10 : decode cX7_never 10 = .ok (.istore_n 2, 1) := by decide +kernel
theorem dX7_never_11 : decode cX7_never 11 = .ok (.iload_n 2, 1) := by decide +kernel
theorem dX7_never_12 : decode cX7_never 12 = .ok (.aload_n 0, 1) := by decide +kernel
theorem dX7_never_13 : decode cX7_never 13 = .ok (.getfield 92, 3) := by decide +kernel
theorem dX7_never_16 : decode cX7_never 16 = .ok (.if_icmp .ge 24, 3) := by decide +kernel
theorem dX7_never_19 : decode cX7_never 19 = .ok (.aload_n 0, 1) := by decide +kernel
theorem dX7_never_20 : decode cX7_never 20 = .ok (.getfield 59, 3) := by decide +kernel
theorem dX7_never_23 : decode cX7_never 23 = .ok (.iload_n 2, 1) := by decide +kernel
theorem dX7_never_24 : decode cX7_never 24 = .ok (.iaload, 1) := by decide +kernel
theorem dX7_never_25 : decode cX7_never 25 = .ok (.ifCond .ne 9, 3) := by decide +kernel
theorem dX7_never_28 : decode cX7_never 28 = .ok (.iload_n 1, 1) := by decide +kernel
theorem dX7_never_29 : decode cX7_never 29 = .ok (.iconst 1, 1) := by decide +kernel
theorem dX7_never_30 : decode cX7_never 30 = .ok (.iload_n 2, 1) := by decide +kernel
theorem dX7_never_31 : decode cX7_never 31 = .ok (.ishl, 1) := by decide +kernel
theorem dX7_never_32 : decode cX7_never 32 = .ok (.ior, 1) := by decide +kernel
theorem dX7_never_33 : decode cX7_never 33 = .ok (.istore_n 1, 1) := by decide +kernel
theorem dX7_never_34 : decode cX7_never 34 = .ok (.iinc 2 1, 3) := by decide +kernel
theorem dX7_never_37 : decode cX7_never 37 = .ok (.goto (-26), 3) := by decide +kernel
theorem dX7_never_40 : decode cX7_never 40 = .ok (.iload_n 1, 1) := by decide +kernel
theorem dX7_never_41 : decode cX7_never 41 = .ok (.ireturn, 1) := by decide +kernel
theorem dX7_late_0 : decode cX7_late 0 = .ok (.iload_n 1, 1) := by decide +kernel
theorem dX7_late_1 : decode cX7_late 1 = .ok (.iconst (-1), 1) := by decide +kernel
theorem dX7_late_2 : decode cX7_late 2 = .ok (.if_icmp .eq 17, 3) := by decide +kernel
theorem dX7_late_5 : decode cX7_late 5 = .ok (.aload_n 0, 1) := by decide +kernel
theorem dX7_late_6 : decode cX7_late 6 = .ok (.iload_n 1, 1) := by decide +kernel
theorem dX7_late_7 : decode cX7_late 7 = .ok (.invokevirtual 102, 3) := by decide +kernel
theorem dX7_late_10 : decode cX7_late 10 = .ok (.ifCond .ne 9, 3) := by decide +kernel
theorem dX7_late_13 : decode cX7_late 13 = .ok (.aload_n 0, 1) := by decide +kernel
theorem dX7_late_14 : decode cX7_late 14 = .ok (.iconst (-1), 1) := by decide +kernel
theorem dX7_late_15 : decode cX7_late 15 = .ok (.invokevirtual 81, 3) := by decide +kernel
theorem dX7_late_18 : decode cX7_late 18 = .ok (.ireturn, 1) := by decide +kernel
theorem dX7_late_19 : decode cX7_late 19 = .ok (.iload_n 2, 1) := by decide +kernel
theorem dX7_late_20 : decode cX7_late 20 = .ok (.iconst 1, 1) := by decide +kernel
theorem dX7_late_21 : decode cX7_late 21 = .ok (.bipush 9, 2) := by decide +kernel
theorem dX7_late_23 : decode cX7_late 23 = .ok (.invokestatic 88, 3) := by decide +kernel
theorem dX7_late_26 : decode cX7_late 26 = .ok (.ifCond .ne 10, 3) := by decide +kernel
theorem dX7_late_29 : decode cX7_late 29 = .ok (.aload_n 0, 1) := by decide +kernel
theorem dX7_late_30 : decode cX7_late 30 = .ok (.bipush (-6), 2) := by decide +kernel
theorem dX7_late_32 : decode cX7_late 32 = .ok (.invokevirtual 81, 3) := by decide +kernel
theorem dX7_late_35 : decode cX7_late 35 = .ok (.ireturn, 1) := by decide +kernel
theorem dX7_late_36 : decode cX7_late 36 = .ok (.aload_n 0, 1) := by decide +kernel
theorem dX7_late_37 : decode cX7_late 37 = .ok (.iload_n 2, 1) := by decide +kernel
theorem dX7_late_38 : decode cX7_late 38 = .ok (.invokevirtual 272, 3) := by decide +kernel
theorem dX7_late_41 : decode cX7_late 41 = .ok (.istore_n 3, 1) := by decide +kernel
theorem dX7_late_42 : decode cX7_late 42 = .ok (.iload_n 1, 1) := by decide +kernel
theorem dX7_late_43 : decode cX7_late 43 = .ok (.iconst (-1), 1) := by decide +kernel
theorem dX7_late_44 : decode cX7_late 44 = .ok (.if_icmp .ne 7, 3) := by decide +kernel
theorem dX7_late_47 : decode cX7_late 47 = .ok (.iload_n 3, 1) := by decide +kernel
theorem dX7_late_48 : decode cX7_late 48 = .ok (.goto 9, 3) := by decide +kernel
theorem dX7_late_51 : decode cX7_late 51 = .ok (.aload_n 0, 1) := by decide +kernel
theorem dX7_late_52 : decode cX7_late 52 = .ok (.iload_n 1, 1) := by decide +kernel
theorem dX7_late_53 : decode cX7_late 53 = .ok (.iload_n 3, 1) := by decide +kernel
theorem dX7_late_54 : decode cX7_late 54 = .ok (.invokevirtual 226, 3) := by decide +kernel
theorem dX7_late_57 : decode cX7_late 57 = .ok (.ireturn, 1) := by decide +kernel
theorem dX7_fits_0 : decode cX7_fits 0 = .ok (.iload_n 1, 1) := by decide +kernel
theorem dX7_fits_1 : decode cX7_fits 1 = .ok (.iconst 0, 1) := by decide +kernel
theorem dX7_fits_2 : decode cX7_fits 2 = .ok (.sipush 1000, 3) := by decide +kernel
theorem dX7_fits_5 : decode cX7_fits 5 = .ok (.invokestatic 88, 3) := by decide +kernel
theorem dX7_fits_8 : decode cX7_fits 8 = .ok (.ifCond .eq 14, 3) := by decide +kernel
theorem dX7_fits_11 : decode cX7_fits 11 = .ok (.iload_n 2, 1) := by decide +kernel
theorem dX7_fits_12 : decode cX7_fits 12 = .ok (.iconst 0, 1) := by decide +kernel
theorem dX7_fits_13 : decode cX7_fits 13 = .ok (.sipush 1000, 3) := by decide +kernel
theorem dX7_fits_16 : decode cX7_fits 16 = .ok (.invokestatic 88, 3) := by decide +kernel
theorem dX7_fits_19 : decode cX7_fits 19 = .ok (.ifCond .ne 10, 3) := by decide +kernel
theorem dX7_fits_22 : decode cX7_fits 22 = .ok (.aload_n 0, 1) := by decide +kernel
