theorem dX6_change_13 : decode cX6_change 13 = .ok (.invokevirtual 59, 3) := by decide +kernel
theorem dX6_change_16 : decode cX6_change 16 = .ok (.ireturn, 1) := by decide +kernel
theorem dX6_change_17 : decode cX6_change 17 = .ok (.iload_n 2, 1) := by decide +kernel
theorem dX6_change_18 : decode cX6_change 18 = .ok (.iconst 0, 1) := by decide +kernel
theorem dX6_change_19 : decode cX6_change 19 = .ok (.iconst 2, 1) := by decide +kernel
theorem dX6_change_20 : decode cX6_change 20 = .ok (.invokestatic 63, 3) := by decide +kernel
theorem dX6_change_23 : decode cX6_change 23 = .ok (.ifCond .eq 35, 3) := by decide +kernel
theorem dX6_change_26 : decode cX6_change 26 = .ok (.iload_n 2, 1) := by decide +kernel
theorem dX6_change_27 : decode cX6_change 27 = .ok (.aload_n 0, 1) := by decide +kernel
theorem dX6_change_28 : decode cX6_change 28 = .ok (.getfield 10, 3) := by decide +kernel
theorem dX6_change_31 : decode cX6_change 31 = .ok (.iload_n 1, 1) := by decide +kernel
theorem dX6_change_32 : decode cX6_change 32 = .ok (.invokevirtual 152, 3) := by decide +kernel
theorem dX6_change_35 : decode cX6_change 35 = .ok (.if_icmp .eq 23, 3) := by decide +kernel
theorem dX6_change_38 : decode cX6_change 38 = .ok (.iload_n 3, 1) := by decide +kernel
theorem dX6_change_39 : decode cX6_change 39 = .ok (.iconst 1, 1) := by decide +kernel
theorem dX6_change_40 : decode cX6_change 40 = .ok (.aload_n 0, 1) := by decide +kernel
theorem dX6_change_41 : decode cX6_change 41 = .ok (.getfield 10, 3) := by decide +kernel
theorem dX6_change_44 : decode cX6_change 44 = .ok (.iload_n 1, 1) := by decide +kernel
theorem dX6_change_45 : decode cX6_change 45 = .ok (.invokevirtual 149, 3) := by decide +kernel
theorem dX6_change_48 : decode cX6_change 48 = .ok (.invokestatic 63, 3) := by decide +kernel
theorem dX6_change_51 : decode cX6_change 51 = .ok (.ifCond .eq 7, 3) := by decide +kernel
theorem dX6_change_54 : decode cX6_change 54 = .ok (.iconst 1, 1) := by decide +kernel
theorem dX6_change_55 : decode cX6_change 55 = .ok (.goto 4, 3) := by decide +kernel
theorem dX6_change_58 : decode cX6_change 58 = .ok (.iconst 0, 1) := by decide +kernel
theorem dX6_change_59 : decode cX6_change 59 = .ok (.istore 4, 2) := by decide +kernel
theorem dX6_change_61 : decode cX6_change 61 = .ok (.iload 4, 2) := by decide +kernel
theorem dX6_change_63 : decode cX6_change 63 = .ok (.ifCond .ne 10, 3) := by decide +kernel
theorem dX6_change_66 : decode cX6_change 66 = .ok (.aload_n 0, 1) := by decide +kernel
theorem dX6_change_67 : decode cX6_change 67 = .ok (.bipush (-6), 2) := by decide +kernel
theorem dX6_change_69 : decode cX6_change 69 = .ok (.invokevirtual 59, 3) := by decide +kernel
theorem dX6_change_72 : decode cX6_change 72 = .ok (.ireturn, 1) := by decide +kernel
theorem dX6_change_73 : decode cX6_change 73 = .ok (.iload_n 3, 1) := by decide +kernel
theorem dX6_change_74 : decode cX6_change 74 = .ok (.aload_n 0, 1) := by decide +kernel
theorem dX6_change_75 : decode cX6_change 75 = .ok (.getfield 10, 3) := by decide +kernel
theorem dX6_change_78 : decode cX6_change 78 = .ok (.iload_n 1, 1) := by decide +kernel
theorem dX6_change_79 : decode cX6_change 79 = .ok (.invokevirtual 149, 3) := by decide +kernel
theorem dX6_change_82 : decode cX6_change 82 = .ok (.if_icmp .ne 14, 3) := by decide +kernel
theorem dX6_change_85 : decode cX6_change 85 = .ok (.aload_n 0, 1) := by decide +kernel
theorem dX6_change_86 : decode cX6_change 86 = .ok (.getfield 10, 3) := by decide +kernel
theorem dX6_change_89 : decode cX6_change 89 = .ok (.iload_n 1, 1) := by decide +kernel
theorem dX6_change_90 : decode cX6_change 90 = .ok (.iload_n 2, 1) := by decide +kernel
theorem dX6_change_91 : decode cX6_change 91 = .ok (.invokevirtual 279, 3) := by decide +kernel
theorem dX6_change_94 : decode cX6_change 94 = .ok (.iload_n 1, 1) := by decide +kernel
theorem dX6_change_95 : decode cX6_change 95 = .ok (.ireturn, 1) := by decide +kernel
theorem dX6_change_96 : decode cX6_change 96 = .ok (.aload_n 0, 1) := by decide +kernel
theorem dX6_change_97 : decode cX6_change 97 = .ok (.getfield 10, 3) := by decide +kernel
theorem dX6_change_100 : decode cX6_change 100 = .ok (.invokevirtual 127, 3) := by decide +kernel
theorem dX6_change_103 : decode cX6_change 103 = .ok (.ifCond .ne 10, 3) := by decide +kernel
theorem dX6_change_106 : decode cX6_change 106 = .ok (.aload_n 0, 1) := by decide +kernel
theorem dX6_change_107 : decode cX6_change 107 = .ok (.bipush (-7), 2) := by decide +kernel
theorem dX6_change_109 : decode cX6_change 109 = .ok (.invokevirtual 59, 3) := by decide +kernel
theorem dX6_change_112 : decode cX6_change 112 = .ok (.ireturn, 1) := by decide +kernel
theorem dX6_change_113 : decode cX6_change 113 = .ok (.aload_n 0, 1) := by decide +kernel
theorem dX6_change_114 : decode cX6_change 114 = .ok (.getfield 10, 3) := by decide +kernel
theorem dX6_change_117 : decode cX6_change 117 = .ok (.iload_n 1, 1) := by decide +kernel
theorem dX6_change_118 : decode cX6_change 118 = .ok (.iload_n 2, 1) := by decide +kernel
theorem dX6_change_119 : decode cX6_change 119 = .ok (.iload_n 3, 1) := by decide +kernel
theorem dX6_change_120 : decode cX6_change 120 = .ok (.invokevirtual 282, 3) := by decide +kernel
theorem dX6_change_123 : decode cX6_change 123 = .ok (.ireturn, 1) := by decide +kernel
theorem dX6_doors_0 : decode cX6_doors 0 = .ok (.aload_n 0, 1) := by decide +kernel
theorem dX6_doors_1 : decode cX6_doors 1 = .ok (.getfield 10, 3) := by decide +kernel
theorem dX6_doors_4 : decode cX6_doors 4 = .ok (.getfield 285, 3) := by decide +kernel
theorem dX6_doors_7 : decode cX6_doors 7 = .ok (.ifCond .eq 13, 3) := by decide +kernel
theorem dX6_doors_10 : decode cX6_doors 10 = .ok (.aload_n 0, 1) := by decide +kernel
theorem dX6_doors_11 : decode cX6_doors 11 = .ok (.getfield 10, 3) := by decide +kernel
theorem dX6_doors_14 : decode cX6_doors 14 = .ok (.getfield 239, 3) := by decide +kernel
theorem dX6_doors_17 : decode cX6_doors 17 = .ok (.ifCond .ne 10, 3) := by decide +kernel
theorem dX6_doors_20 : decode cX6_doors 20 = .ok (.aload_n 0, 1) := by decide +kernel
theorem dX6_doors_21 : decode cX6_doors 21 = .ok (.bipush (-5), 2) := by decide +kernel
theorem dX6_doors_23 : decode cX6_doors 23 = .ok (.invokevirtual 59, 3) := by decide +kernel
theorem dX6_doors_26 : decode cX6_doors 26 = .ok (.ireturn, 1) := by decide +kernel
theorem dX6_doors_27 : decode cX6_doors 27 = .ok (.iload_n 1, 1) := by decide +kernel
theorem dX6_doors_28 : decode cX6_doors 28 = .ok (.iconst 1, 1) := by decide +kernel
theorem dX6_doors_29 : decode cX6_doors 29 = .ok (.sipush 200, 3) := by decide +kernel
theorem dX6_doors_32 : decode cX6_doors 32 = .ok (.invokestatic 63, 3) := by decide +kernel
theorem dX6_doors_35 : decode cX6_doors 35 = .ok (.ifCond .ne 10, 3) := by decide +kernel
theorem dX6_doors_38 : decode cX6_doors 38 = .ok (.aload_n 0, 1) := by decide +kernel
theorem dX6_doors_39 : decode cX6_doors 39 = .ok (.bipush (-6), 2) := by decide +kernel
theorem dX6_doors_41 : decode cX6_doors 41 = .ok (.invokevirtual 59, 3) := by decide +kernel
theorem dX6_doors_44 : decode cX6_doors 44 = .ok (.ireturn, 1) := by decide +kernel
theorem dX6_doors_45 : decode cX6_doors 45 = .ok (.aload_n 0, 1) := by decide +kernel
theorem dX6_doors_46 : decode cX6_doors 46 = .ok (.getfield 10, 3) := by decide +kernel
theorem dX6_doors_49 : decode cX6_doors 49 = .ok (.getfield 288, 3) := by decide +kernel
theorem dX6_doors_52 : decode cX6_doors 52 = .ok (.istore_n 2, 1) := by decide +kernel
theorem dX6_doors_53 : decode cX6_doors 53 = .ok (.iconst 0, 1) := by decide +kernel
theorem dX6_doors_54 : decode cX6_doors 54 = .ok (.istore_n 3, 1) := by decide +kernel
theorem dX6_doors_55 : decode cX6_doors 55 = .ok (.iload_n 3, 1) := by decide +kernel
theorem dX6_doors_56 : decode cX6_doors 56 = .ok (.iload_n 1, 1) := by decide +kernel
theorem dX6_doors_57 : decode cX6_doors 57 = .ok (.if_icmp .ge 16, 3) := by decide +kernel
theorem dX6_doors_60 : decode cX6_doors 60 = .ok (.aload_n 0, 1) := by decide +kernel
theorem dX6_doors_61 : decode cX6_doors 61 = .ok (.getfield 10, 3) := by decide +kernel
theorem dX6_doors_64 : decode cX6_doors 64 = .ok (.invokevirtual 291, 3) := by decide +kernel
theorem dX6_doors_67 : decode cX6_doors 67 = .ok (.iinc 3 1, 3) := by decide +kernel
theorem dX6_doors_70 : decode cX6_doors 70 = .ok (.goto (-15), 3) := by decide +kernel
theorem dX6_doors_73 : decode cX6_doors 73 = .ok (.aload_n 0, 1) := by decide +kernel
theorem dX6_doors_74 : decode cX6_doors 74 = .ok (.getfield 10, 3) := by decide +kernel
theorem dX6_doors_77 : decode cX6_doors 77 = .ok (.getfield 288, 3) := by decide +kernel
theorem dX6_doors_80 : decode cX6_doors 80 = .ok (.iload_n 2, 1) := by decide +kernel
theorem dX6_doors_81 : decode cX6_doors 81 = .ok (.isub, 1) := by decide +kernel
theorem dX6_doors_82 : decode cX6_doors 82 = .ok (.ireturn, 1) := by decide +kernel
theorem dX6_seed_0 : decode cX6_seed 0 = .ok (.aload_n 0, 1) := by decide +kernel
theorem dX6_seed_1 : decode cX6_seed 1 = .ok (.getfield 10, 3) := by decide +kernel
theorem dX6_seed_4 : decode cX6_seed 4 = .ok (.getfield 294, 3) := by decide +kernel
theorem dX6_seed_7 : decode cX6_seed 7 = .ok (.istore_n 2, 1) := by decide +kernel
theorem dX6_seed_8 : decode cX6_seed 8 = .ok (.aload_n 0, 1) := by decide +kernel
theorem dX6_seed_9 : decode cX6_seed 9 = .ok (.getfield 10, 3) := by decide +kernel
theorem dX6_seed_12 : decode cX6_seed 12 = .ok (.iload_n 1, 1) := by decide +kernel
theorem dX6_seed_13 : decode cX6_seed 13 = .ok (.putfield 294, 3) := by decide +kernel
theorem dX6_seed_16 : decode cX6_seed 16 = .ok (.iload_n 2, 1) := by decide +kernel
theorem dX6_seed_17 : decode cX6_seed 17 = .ok (.ireturn, 1) := by decide +kernel
theorem dX6_act_0 : decode cX6_act 0 = .ok (.aload_n 0, 1) := by decide +kernel
theorem dX6_act_1 : decode cX6_act 1 = .ok (.getfield 43, 3) := by decide +kernel
theorem dX6_act_4 : decode cX6_act 4 = .ok (.invokevirtual 297, 3) := by decide +kernel
theorem dX6_act_7 : decode cX6_act 7 = .ok (.aload_n 0, 1) := by decide +kernel
theorem dX6_act_8 : decode cX6_act 8 = .ok (.getfield 10, 3) := by decide +kernel
theorem dX6_act_11 : decode cX6_act 11 = .ok (.iload_n 1, 1) := by decide +kernel
theorem dX6_act_12 : decode cX6_act 12 = .ok (.invokevirtual 93, 3) := by decide +kernel
theorem dX6_act_15 : decode cX6_act 15 = .ok (.ifCond .ne 5, 3) := by decide +kernel
theorem dX6_act_18 : decode cX6_act 18 = .ok (.iconst 0, 1) := by decide +kernel
theorem dX6_act_19 : decode cX6_act 19 = .ok (.ireturn, 1) := by decide +kernel
theorem dX6_act_20 : decode cX6_act 20 = .ok (.aload_n 0, 1) := by decide +kernel
theorem dX6_act_21 : decode cX6_act 21 = .ok (.getfield 43, 3) := by decide +kernel
theorem dX6_act_24 : decode cX6_act 24 = .ok (.iload_n 1, 1) := by decide +kernel
theorem dX6_act_25 : decode cX6_act 25 = .ok (.aload_n 0, 1) := by decide +kernel
theorem dX6_act_26 : decode cX6_act 26 = .ok (.getfield 10, 3) := by decide +kernel
theorem dX6_act_29 : decode cX6_act 29 = .ok (.iload_n 1, 1) := by decide +kernel
theorem dX6_act_30 : decode cX6_act 30 = .ok (.invokevirtual 106, 3) := by decide +kernel
theorem dX6_act_33 : decode cX6_act 33 = .ok (.aload_n 0, 1) := by decide +kernel
theorem dX6_act_34 : decode cX6_act 34 = .ok (.getfield 10, 3) := by decide +kernel
theorem dX6_act_37 : decode cX6_act 37 = .ok (.iload_n 1, 1) := by decide +kernel
theorem dX6_act_38 : decode cX6_act 38 = .ok (.invokevirtual 137, 3) := by decide +kernel
theorem dX6_act_41 : decode cX6_act 41 = .ok (.iload_n 2, 1) := by decide +kernel
theorem dX6_act_42 : decode cX6_act 42 = .ok (.iload_n 3, 1) := by decide +kernel
theorem dX6_act_43 : decode cX6_act 43 = .ok (.invokevirtual 300, 3) := by decide +kernel
theorem dX6_act_46 : decode cX6_act 46 = .ok (.ireturn, 1) := by decide +kernel
theorem dX6_trace_0 : decode cX6_trace 0 = .ok (.aload_n 0, 1) := by decide +kernel
theorem dX6_trace_1 : decode cX6_trace 1 = .ok (.getfield 43, 3) := by decide +kernel
theorem dX6_trace_4 : decode cX6_trace 4 = .ok (.iload_n 1, 1) := by decide +kernel
theorem dX6_trace_5 : decode cX6_trace 5 = .ok (.invokevirtual 303, 3) := by decide +kernel
theorem dX6_trace_8 : decode cX6_trace 8 = .ok (.ireturn, 1) := by decide +kernel
theorem dX6_image_0 : decode cX6_image 0 = .ok (.aload_n 0, 1) := by decide +kernel
theorem dX6_image_1 : decode cX6_image 1 = .ok (.getfield 16, 3) := by decide +kernel
theorem dX6_image_4 : decode cX6_image 4 = .ok (.aload_n 0, 1) := by decide +kernel
theorem dX6_image_5 : decode cX6_image 5 = .ok (.getfield 10, 3) := by decide +kernel
theorem dX6_image_8 : decode cX6_image 8 = .ok (.invokevirtual 196, 3) := by decide +kernel
theorem dX6_image_11 : decode cX6_image 11 = .ok (.aload_n 0, 1) := by decide +kernel
theorem dX6_image_12 : decode cX6_image 12 = .ok (.iconst 1, 1) := by decide +kernel
theorem dX6_image_13 : decode cX6_image 13 = .ok (.putfield 306, 3) := by decide +kernel
theorem dX6_image_16 : decode cX6_image 16 = .ok (.aload_n 0, 1) := by decide +kernel
theorem dX6_image_17 : decode cX6_image 17 = .ok (.getfield 10, 3) := by decide +kernel
theorem dX6_image_20 : decode cX6_image 20 = .ok (.getfield 239, 3) := by decide +kernel
theorem dX6_image_23 : decode cX6_image 23 = .ok (.ireturn, 1) := by decide +kernel
theorem dX6_restore_0 : decode cX6_restore 0 = .ok (.aload_n 0, 1) := by decide +kernel
theorem dX6_restore_1 : decode cX6_restore 1 = .ok (.getfield 306, 3) := by decide +kernel
theorem dX6_restore_4 : decode cX6_restore 4 = .ok (.ifCond .ne 10, 3) := by decide +kernel
theorem dX6_restore_7 : decode cX6_restore 7 = .ok (.aload_n 0, 1) := by decide +kernel
theorem dX6_restore_8 : decode cX6_restore 8 = .ok (.bipush (-6), 2) := by decide +kernel
theorem dX6_restore_10 : decode cX6_restore 10 = .ok (.invokevirtual 59, 3) := by decide +kernel
theorem dX6_restore_13 : decode cX6_restore 13 = .ok (.ireturn, 1) := by decide +kernel
theorem dX6_restore_14 : decode cX6_restore 14 = .ok (.aload_n 0, 1) := by decide +kernel
theorem dX6_restore_15 : decode cX6_restore 15 = .ok (.getfield 10, 3) := by decide +kernel
theorem dX6_restore_18 : decode cX6_restore 18 = .ok (.aload_n 0, 1) := by decide +kernel
theorem dX6_restore_19 : decode cX6_restore 19 = .ok (.getfield 16, 3) := by decide +kernel
theorem dX6_restore_22 : decode cX6_restore 22 = .ok (.invokevirtual 196, 3) := by decide +kernel
theorem dX6_restore_25 : decode cX6_restore 25 = .ok (.aload_n 0, 1) := by decide +kernel
theorem dX6_restore_26 : decode cX6_restore 26 = .ok (.getfield 29, 3) := by decide +kernel
theorem dX6_restore_29 : decode cX6_restore 29 = .ok (.aload_n 0, 1) := by decide +kernel
theorem dX6_restore_30 : decode cX6_restore 30 = .ok (.getfield 10, 3) := by decide +kernel
theorem dX6_restore_33 : decode cX6_restore 33 = .ok (.getfield 239, 3) := by decide +kernel
theorem dX6_restore_36 : decode cX6_restore 36 = .ok (.invokevirtual 310, 3) := by decide +kernel
theorem dX6_restore_39 : decode cX6_restore 39 = .ok (.aload_n 0, 1) := by decide +kernel
theorem dX6_restore_40 : decode cX6_restore 40 = .ok (.getfield 10, 3) := by decide +kernel
theorem dX6_restore_43 : decode cX6_restore 43 = .ok (.getfield 239, 3) := by decide +kernel
theorem dX6_restore_46 : decode cX6_restore 46 = .ok (.ireturn, 1) := by decide +kernel
theorem dX6_status_0 : decode cX6_status 0 = .ok (.iload_n 1, 1) := by decide +kernel
theorem dX6_status_1 : decode cX6_status 1 = .ok (.tableswitch 126 0 8 #[51, 59, 67, 78, 86, 94, 102, 110, 118], 51) := by decide +kernel
theorem dX6_status_52 : decode cX6_status 52 = .ok (.aload_n 0, 1) := by decide +kernel
theorem dX6_status_53 : decode cX6_status 53 = .ok (.getfield 10, 3) := by decide +kernel
theorem dX6_status_56 : decode cX6_status 56 = .ok (.getfield 239, 3) := by decide +kernel
theorem dX6_status_59 : decode cX6_status 59 = .ok (.ireturn, 1) := by decide +kernel
theorem dX6_status_60 : decode cX6_status 60 = .ok (.aload_n 0, 1) := by decide +kernel
theorem dX6_status_61 : decode cX6_status 61 = .ok (.getfield 10, 3) := by decide +kernel
theorem dX6_status_64 : decode cX6_status 64 = .ok (.getfield 285, 3) := by decide +kernel
theorem dX6_status_67 : decode cX6_status 67 = .ok (.ireturn, 1) := by decide +kernel
theorem dX6_status_68 : decode cX6_status 68 = .ok (.aload_n 0, 1) := by decide +kernel
theorem dX6_status_69 : decode cX6_status 69 = .ok (.getfield 10, 3) := by decide +kernel
theorem dX6_status_72 : decode cX6_status 72 = .ok (.sipush 1023, 3) := by decide +kernel
theorem dX6_status_75 : decode cX6_status 75 = .ok (.invokevirtual 314, 3) := by decide +kernel
theorem dX6_status_78 : decode cX6_status 78 = .ok (.ireturn, 1) := by decide +kernel
theorem dX6_status_79 : decode cX6_status 79 = .ok (.aload_n 0, 1) := by decide +kernel
theorem dX6_status_80 : decode cX6_status 80 = .ok (.getfield 10, 3) := by decide +kernel
theorem dX6_status_83 : decode cX6_status 83 = .ok (.getfield 170, 3) := by decide +kernel
theorem dX6_status_86 : decode cX6_status 86 = .ok (.ireturn, 1) := by decide +kernel
theorem dX6_status_87 : decode cX6_status 87 = .ok (.aload_n 0, 1) := by decide +kernel
theorem dX6_status_88 : decode cX6_status 88 = .ok (.getfield 10, 3) := by decide +kernel
theorem dX6_status_91 : decode cX6_status 91 = .ok (.getfield 173, 3) := by decide +kernel
theorem dX6_status_94 : decode cX6_status 94 = .ok (.ireturn, 1) := by decide +kernel
theorem dX6_status_95 : decode cX6_status 95 = .ok (.aload_n 0, 1) := by decide +kernel
theorem dX6_status_96 : decode cX6_status 96 = .ok (.getfield 10, 3) := by decide +kernel
theorem dX6_status_99 : decode cX6_status 99 = .ok (.getfield 317, 3) := by decide +kernel
theorem dX6_status_102 : decode cX6_status 102 = .ok (.ireturn, 1) := by decide +kernel
theorem dX6_status_103 : decode cX6_status 103 = .ok (.aload_n 0, 1) := by decide +kernel
theorem dX6_status_104 : decode cX6_status 104 = .ok (.getfield 10, 3) := by decide +kernel
theorem dX6_status_107 : decode cX6_status 107 = .ok (.getfield 288, 3) := by decide +kernel
theorem dX6_status_110 : decode cX6_status 110 = .ok (.ireturn, 1) := by decide +kernel
theorem dX6_status_111 : decode cX6_status 111 = .ok (.aload_n 0, 1) := by decide +kernel
theorem dX6_status_112 : decode cX6_status 112 = .ok (.getfield 10, 3) := by decide +kernel
theorem dX6_status_115 : decode cX6_status 115 = .ok (.getfield 294, 3) := by decide +kernel
theorem dX6_status_118 : decode cX6_status 118 = .ok (.ireturn, 1) := by decide +kernel
theorem dX6_status_119 : decode cX6_status 119 = .ok (.aload_n 0, 1) := by decide +kernel
theorem dX6_status_120 : decode cX6_status 120 = .ok (.getfield 43, 3) := by decide +kernel
theorem dX6_status_123 : decode cX6_status 123 = .ok (.getfield 320, 3) := by decide +kernel
theorem dX6_status_126 : decode cX6_status 126 = .ok (.ireturn, 1) := by decide +kernel
theorem dX6_status_127 : decode cX6_status 127 = .ok (.iload_n 1, 1) := by decide +kernel
theorem dX6_status_128 : decode cX6_status 128 = .ok (.bipush 11, 2) := by decide +kernel
theorem dX6_status_130 : decode cX6_status 130 = .ok (.bipush 17, 2) := by decide +kernel
theorem dX6_status_132 : decode cX6_status 132 = .ok (.invokestatic 63, 3) := by decide +kernel
theorem dX6_status_135 : decode cX6_status 135 = .ok (.ifCond .eq 15, 3) := by decide +kernel
theorem dX6_status_138 : decode cX6_status 138 = .ok (.aload_n 0, 1) := by decide +kernel
theorem dX6_status_139 : decode cX6_status 139 = .ok (.getfield 47, 3) := by decide +kernel
theorem dX6_status_142 : decode cX6_status 142 = .ok (.iload_n 1, 1) := by decide +kernel
theorem dX6_status_143 : decode cX6_status 143 = .ok (.bipush 10, 2) := by decide +kernel
theorem dX6_status_145 : decode cX6_status 145 = .ok (.isub, 1) := by decide +kernel
theorem dX6_status_146 : decode cX6_status 146 = .ok (.iaload, 1) := by decide +kernel
theorem dX6_status_147 : decode cX6_status 147 = .ok (.goto 4, 3) := by decide +kernel
theorem dX6_status_150 : decode cX6_status 150 = .ok (.iconst (-1), 1) := by decide +kernel
theorem dX6_status_151 : decode cX6_status 151 = .ok (.ireturn, 1) := by decide +kernel
theorem dX6_refuse_0 : decode cX6_refuse 0 = .ok (.iload_n 1, 1) := by decide +kernel
theorem dX6_refuse_1 : decode cX6_refuse 1 = .ok (.bipush (-7), 2) := by decide +kernel
theorem dX6_refuse_3 : decode cX6_refuse 3 = .ok (.iconst (-1), 1) := by decide +kernel
theorem dX6_refuse_4 : decode cX6_refuse 4 = .ok (.invokestatic 63, 3) := by decide +kernel
theorem dX6_refuse_7 : decode cX6_refuse 7 = .ok (.ifCond .eq 14, 3) := by decide +kernel
theorem dX6_refuse_10 : decode cX6_refuse 10 = .ok (.aload_n 0, 1) := by decide +kernel
theorem dX6_refuse_11 : decode cX6_refuse 11 = .ok (.getfield 47, 3) := by decide +kernel
theorem dX6_refuse_14 : decode cX6_refuse 14 = .ok (.iload_n 1, 1) := by decide +kernel
theorem dX6_refuse_15 : decode cX6_refuse 15 = .ok (.ineg, 1) := by decide +kernel
theorem dX6_refuse_16 : decode cX6_refuse 16 = .ok (.dup2, 1) := by decide +kernel
theorem dX6_refuse_17 : decode cX6_refuse 17 = .ok (.iaload, 1) := by decide +kernel
theorem dX6_refuse_18 : decode cX6_refuse 18 = .ok (.iconst 1, 1) := by decide +kernel
theorem dX6_refuse_19 : decode cX6_refuse 19 = .ok (.iadd, 1) := by decide +kernel
theorem dX6_refuse_20 : decode cX6_refuse 20 = .ok (.iastore, 1) := by decide +kernel
theorem dX6_refuse_21 : decode cX6_refuse 21 = .ok (.iload_n 1, 1) := by decide +kernel
theorem dX6_refuse_22 : decode cX6_refuse 22 = .ok (.ireturn, 1) := by decide +kernel
theorem dX6_refuseFarBelow_0 : decode cX6_refuseFarBelow 0 = .ok (.sipush (-10000), 3) := by decide +kernel
theorem dX6_refuseFarBelow_3 : decode cX6_refuseFarBelow 3 = .ok (.aload_n 0, 1) := by decide +kernel
theorem dX6_refuseFarBelow_4 : decode cX6_refuseFarBelow 4 = .ok (.iload_n 1, 1) := by decide +kernel
theorem dX6_refuseFarBelow_5 : decode cX6_refuseFarBelow 5 = .ok (.invokevirtual 59, 3) := by decide +kernel
theorem dX6_refuseFarBelow_8 : decode cX6_refuseFarBelow 8 = .ok (.iadd, 1) := by decide +kernel
theorem dX6_refuseFarBelow_9 : decode cX6_refuseFarBelow 9 = .ok (.ireturn, 1) := by decide +kernel
theorem dX6_refuseBelowNone_0 : decode cX6_refuseBelowNone 0 = .ok (.bipush (-10), 2) := by decide +kernel
theorem dX6_refuseBelowNone_2 : decode cX6_refuseBelowNone 2 = .ok (.aload_n 0, 1) := by decide +kernel
theorem dX6_refuseBelowNone_3 : decode cX6_refuseBelowNone 3 = .ok (.iload_n 1, 1) := by decide +kernel
theorem dX6_refuseBelowNone_4 : decode cX6_refuseBelowNone 4 = .ok (.invokevirtual 59, 3) := by decide +kernel
theorem dX6_refuseBelowNone_7 : decode cX6_refuseBelowNone 7 = .ok (.iadd, 1) := by decide +kernel
theorem dX6_refuseBelowNone_8 : decode cX6_refuseBelowNone 8 = .ok (.ireturn, 1) := by decide +kernel
theorem dX6_refusalOfRound_0 : decode cX6_refusalOfRound 0 = .ok (.aload_n 0, 1) := by decide +kernel
theorem dX6_refusalOfRound_1 : decode cX6_refusalOfRound 1 = .ok (.getfield 29, 3) := by decide +kernel
theorem dX6_refusalOfRound_4 : decode cX6_refusalOfRound 4 = .ok (.iload_n 1, 1) := by decide +kernel
theorem dX6_refusalOfRound_5 : decode cX6_refusalOfRound 5 = .ok (.invokevirtual 71, 3) := by decide +kernel
theorem dX6_refusalOfRound_8 : decode cX6_refusalOfRound 8 = .ok (.istore 4, 2) := by decide +kernel
theorem dX6_refusalOfRound_10 : decode cX6_refusalOfRound 10 = .ok (.iload 4, 2) := by decide +kernel
theorem dX6_refusalOfRound_12 : decode cX6_refusalOfRound 12 = .ok (.ifCond .eq 6, 3) := by decide +kernel
theorem dX6_refusalOfRound_15 : decode cX6_refusalOfRound 15 = .ok (.iload 4, 2) := by decide +kernel
theorem dX6_refusalOfRound_17 : decode cX6_refusalOfRound 17 = .ok (.ireturn, 1) := by decide +kernel
theorem dX6_refusalOfRound_18 : decode cX6_refusalOfRound 18 = .ok (.iload_n 2, 1) := by decide +kernel
theorem dX6_refusalOfRound_19 : decode cX6_refusalOfRound 19 = .ok (.ifCond .ge 6, 3) := by decide +kernel
theorem dX6_refusalOfRound_22 : decode cX6_refusalOfRound 22 = .ok (.bipush (-4), 2) := by decide +kernel
theorem dX6_refusalOfRound_24 : decode cX6_refusalOfRound 24 = .ok (.ireturn, 1) := by decide +kernel
theorem dX6_refusalOfRound_25 : decode cX6_refusalOfRound 25 = .ok (.iload_n 2, 1) := by decide +kernel
theorem dX6_refusalOfRound_26 : decode cX6_refusalOfRound 26 = .ok (.aload_n 0, 1) := by decide +kernel
theorem dX6_refusalOfRound_27 : decode cX6_refusalOfRound 27 = .ok (.getfield 29, 3) := by decide +kernel
theorem dX6_refusalOfRound_30 : decode cX6_refusalOfRound 30 = .ok (.iload_n 1, 1) := by decide +kernel
theorem dX6_refusalOfRound_31 : decode cX6_refusalOfRound 31 = .ok (.invokevirtual 183, 3) := by decide +kernel
theorem dX6_refusalOfRound_34 : decode cX6_refusalOfRound 34 = .ok (.if_icmp .gt 14, 3) := by decide +kernel
theorem dX6_refusalOfRound_37 : decode cX6_refusalOfRound 37 = .ok (.iload_n 3, 1) := by decide +kernel
theorem dX6_refusalOfRound_38 : decode cX6_refusalOfRound 38 = .ok (.iconst (-1), 1) := by decide +kernel
theorem dX6_refusalOfRound_39 : decode cX6_refusalOfRound 39 = .ok (.iload_n 2, 1) := by decide +kernel
theorem dX6_refusalOfRound_40 : decode cX6_refusalOfRound 40 = .ok (.iconst 1, 1) := by decide +kernel
theorem dX6_refusalOfRound_41 : decode cX6_refusalOfRound 41 = .ok (.isub, 1) := by decide +kernel
theorem dX6_refusalOfRound_42 : decode cX6_refusalOfRound 42 = .ok (.invokestatic 63, 3) := by decide +kernel
theorem dX6_refusalOfRound_45 : decode cX6_refusalOfRound 45 = .ok (.ifCond .ne 6, 3) := by decide +kernel
theorem dX6_refusalOfRound_48 : decode cX6_refusalOfRound 48 = .ok (.bipush (-5), 2) := by decide +kernel
theorem dX6_refusalOfRound_50 : decode cX6_refusalOfRound 50 = .ok (.ireturn, 1) := by decide +kernel
theorem dX6_refusalOfRound_51 : decode cX6_refusalOfRound 51 = .ok (.iload_n 2, 1) := by decide +kernel
theorem dX6_refusalOfRound_52 : decode cX6_refusalOfRound 52 = .ok (.bipush 20, 2) := by decide +kernel
theorem dX6_refusalOfRound_54 : decode cX6_refusalOfRound 54 = .ok (.if_icmp .le 8, 3) := by decide +kernel
theorem dX6_refusalOfRound_57 : decode cX6_refusalOfRound 57 = .ok (.bipush (-6), 2) := by decide +kernel
theorem dX6_refusalOfRound_59 : decode cX6_refusalOfRound 59 = .ok (.goto 4, 3) := by decide +kernel
theorem dX6_refusalOfRound_62 : decode cX6_refusalOfRound 62 = .ok (.iconst 0, 1) := by decide +kernel
theorem dX6_refusalOfRound_63 : decode cX6_refusalOfRound 63 = .ok (.ireturn, 1) := by decide +kernel
theorem dX6_wrongOfRound_0 : decode cX6_wrongOfRound 0 = .ok (.iconst 0, 1) := by decide +kernel
theorem dX6_wrongOfRound_1 : decode cX6_wrongOfRound 1 = .ok (.istore_n 3, 1) := by decide +kernel
theorem dX6_wrongOfRound_2 : decode cX6_wrongOfRound 2 = .ok (.iconst 0, 1) := by decide +kernel
theorem dX6_wrongOfRound_3 : decode cX6_wrongOfRound 3 = .ok (.istore 4, 2) := by decide +kernel
theorem dX6_wrongOfRound_5 : decode cX6_wrongOfRound 5 = .ok (.iload 4, 2) := by decide +kernel
theorem dX6_wrongOfRound_7 : decode cX6_wrongOfRound 7 = .ok (.iload_n 2, 1) := by decide +kernel
theorem dX6_wrongOfRound_8 : decode cX6_wrongOfRound 8 = .ok (.if_icmp .ge 52, 3) := by decide +kernel
theorem dX6_wrongOfRound_11 : decode cX6_wrongOfRound 11 = .ok (.aload_n 0, 1) := by decide +kernel
theorem dX6_wrongOfRound_12 : decode cX6_wrongOfRound 12 = .ok (.getfield 29, 3) := by decide +kernel
theorem dX6_wrongOfRound_15 : decode cX6_wrongOfRound 15 = .ok (.iload_n 1, 1) := by decide +kernel
theorem dX6_wrongOfRound_16 : decode cX6_wrongOfRound 16 = .ok (.iload 4, 2) := by decide +kernel
theorem dX6_wrongOfRound_18 : decode cX6_wrongOfRound 18 = .ok (.invokevirtual 323, 3) := by decide +kernel
theorem dX6_wrongOfRound_21 : decode cX6_wrongOfRound 21 = .ok (.istore 5, 2) := by decide +kernel
theorem dX6_wrongOfRound_23 : decode cX6_wrongOfRound 23 = .ok (.aload_n 0, 1) := by decide +kernel
theorem dX6_wrongOfRound_24 : decode cX6_wrongOfRound 24 = .ok (.getfield 10, 3) := by decide +kernel
theorem dX6_wrongOfRound_27 : decode cX6_wrongOfRound 27 = .ok (.iload 5, 2) := by decide +kernel
theorem dX6_wrongOfRound_29 : decode cX6_wrongOfRound 29 = .ok (.invokevirtual 93, 3) := by decide +kernel
theorem dX6_wrongOfRound_32 : decode cX6_wrongOfRound 32 = .ok (.ifCond .eq 12, 3) := by decide +kernel
theorem dX6_wrongOfRound_35 : decode cX6_wrongOfRound 35 = .ok (.iload_n 3, 1) := by decide +kernel
theorem dX6_wrongOfRound_36 : decode cX6_wrongOfRound 36 = .ok (.iload 5, 2) := by decide +kernel
theorem dX6_wrongOfRound_38 : decode cX6_wrongOfRound 38 = .ok (.invokestatic 326, 3) := by decide +kernel
theorem dX6_wrongOfRound_41 : decode cX6_wrongOfRound 41 = .ok (.ifCond .eq 6, 3) := by decide +kernel
theorem dX6_wrongOfRound_44 : decode cX6_wrongOfRound 44 = .ok (.iload 4, 2) := by decide +kernel
theorem dX6_wrongOfRound_46 : decode cX6_wrongOfRound 46 = .ok (.ireturn, 1) := by decide +kernel
theorem dX6_wrongOfRound_47 : decode cX6_wrongOfRound 47 = .ok (.iload_n 3, 1) := by decide +kernel
theorem dX6_wrongOfRound_48 : decode cX6_wrongOfRound 48 = .ok (.iconst 1, 1) := by decide +kernel
theorem dX6_wrongOfRound_49 : decode cX6_wrongOfRound 49 = .ok (.iload 5, 2) := by decide +kernel
theorem dX6_wrongOfRound_51 : decode cX6_wrongOfRound 51 = .ok (.ishl, 1) := by decide +kernel
theorem dX6_wrongOfRound_52 : decode cX6_wrongOfRound 52 = .ok (.ior, 1) := by decide +kernel
theorem dX6_wrongOfRound_53 : decode cX6_wrongOfRound 53 = .ok (.istore_n 3, 1) := by decide +kernel
theorem dX6_wrongOfRound_54 : decode cX6_wrongOfRound 54 = .ok (.iinc 4 1, 3) := by decide +kernel
theorem dX6_wrongOfRound_57 : decode cX6_wrongOfRound 57 = .ok (.goto (-52), 3) := by decide +kernel
theorem dX6_wrongOfRound_60 : decode cX6_wrongOfRound 60 = .ok (.iconst (-1), 1) := by decide +kernel
theorem dX6_wrongOfRound_61 : decode cX6_wrongOfRound 61 = .ok (.ireturn, 1) := by decide +kernel
theorem dX6_leansOfRound_0 : decode cX6_leansOfRound 0 = .ok (.iconst 0, 1) := by decide +kernel
theorem dX6_leansOfRound_1 : decode cX6_leansOfRound 1 = .ok (.istore_n 3, 1) := by decide +kernel
theorem dX6_leansOfRound_2 : decode cX6_leansOfRound 2 = .ok (.iconst 0, 1) := by decide +kernel
theorem dX6_leansOfRound_3 : decode cX6_leansOfRound 3 = .ok (.istore 4, 2) := by decide +kernel
theorem dX6_leansOfRound_5 : decode cX6_leansOfRound 5 = .ok (.iconst 0, 1) := by decide +kernel
theorem dX6_leansOfRound_6 : decode cX6_leansOfRound 6 = .ok (.istore 5, 2) := by decide +kernel
theorem dX6_leansOfRound_8 : decode cX6_leansOfRound 8 = .ok (.iload 5, 2) := by decide +kernel
theorem dX6_leansOfRound_10 : decode cX6_leansOfRound 10 = .ok (.iload_n 2, 1) := by decide +kernel
theorem dX6_leansOfRound_11 : decode cX6_leansOfRound 11 = .ok (.if_icmp .ge 66, 3) := by decide +kernel
theorem dX6_leansOfRound_14 : decode cX6_leansOfRound 14 = .ok (.aload_n 0, 1) := by decide +kernel
theorem dX6_leansOfRound_15 : decode cX6_leansOfRound 15 = .ok (.getfield 29, 3) := by decide +kernel
theorem dX6_leansOfRound_18 : decode cX6_leansOfRound 18 = .ok (.iload_n 1, 1) := by decide +kernel
theorem dX6_leansOfRound_19 : decode cX6_leansOfRound 19 = .ok (.iload 5, 2) := by decide +kernel
theorem dX6_leansOfRound_21 : decode cX6_leansOfRound 21 = .ok (.invokevirtual 323, 3) := by decide +kernel
theorem dX6_leansOfRound_24 : decode cX6_leansOfRound 24 = .ok (.istore 6, 2) := by decide +kernel
theorem dX6_leansOfRound_26 : decode cX6_leansOfRound 26 = .ok (.aload_n 0, 1) := by decide +kernel
theorem dX6_leansOfRound_27 : decode cX6_leansOfRound 27 = .ok (.getfield 10, 3) := by decide +kernel
theorem dX6_leansOfRound_30 : decode cX6_leansOfRound 30 = .ok (.iload 6, 2) := by decide +kernel
theorem dX6_leansOfRound_32 : decode cX6_leansOfRound 32 = .ok (.sipush 1023, 3) := by decide +kernel
theorem dX6_leansOfRound_35 : decode cX6_leansOfRound 35 = .ok (.invokevirtual 113, 3) := by decide +kernel
theorem dX6_leansOfRound_38 : decode cX6_leansOfRound 38 = .ok (.istore 7, 2) := by decide +kernel
theorem dX6_leansOfRound_40 : decode cX6_leansOfRound 40 = .ok (.iload_n 3, 1) := by decide +kernel
theorem dX6_leansOfRound_41 : decode cX6_leansOfRound 41 = .ok (.aload_n 0, 1) := by decide +kernel
theorem dX6_leansOfRound_42 : decode cX6_leansOfRound 42 = .ok (.getfield 10, 3) := by decide +kernel
theorem dX6_leansOfRound_45 : decode cX6_leansOfRound 45 = .ok (.iload 6, 2) := by decide +kernel
theorem dX6_leansOfRound_47 : decode cX6_leansOfRound 47 = .ok (.iload 7, 2) := by decide +kernel
theorem dX6_leansOfRound_49 : decode cX6_leansOfRound 49 = .ok (.iload 4, 2) := by decide +kernel
theorem dX6_leansOfRound_51 : decode cX6_leansOfRound 51 = .ok (.invokevirtual 329, 3) := by decide +kernel
theorem dX6_leansOfRound_54 : decode cX6_leansOfRound 54 = .ok (.iload 7, 2) := by decide +kernel
theorem dX6_leansOfRound_56 : decode cX6_leansOfRound 56 = .ok (.isub, 1) := by decide +kernel
theorem dX6_leansOfRound_57 : decode cX6_leansOfRound 57 = .ok (.invokestatic 242, 3) := by decide +kernel
theorem dX6_leansOfRound_60 : decode cX6_leansOfRound 60 = .ok (.iadd, 1) := by decide +kernel
theorem dX6_leansOfRound_61 : decode cX6_leansOfRound 61 = .ok (.istore_n 3, 1) := by decide +kernel
theorem dX6_leansOfRound_62 : decode cX6_leansOfRound 62 = .ok (.iload 4, 2) := by decide +kernel
theorem dX6_leansOfRound_64 : decode cX6_leansOfRound 64 = .ok (.iconst 1, 1) := by decide +kernel
theorem dX6_leansOfRound_65 : decode cX6_leansOfRound 65 = .ok (.iload 6, 2) := by decide +kernel
theorem dX6_leansOfRound_67 : decode cX6_leansOfRound 67 = .ok (.ishl, 1) := by decide +kernel
theorem dX6_leansOfRound_68 : decode cX6_leansOfRound 68 = .ok (.ior, 1) := by decide +kernel
theorem dX6_leansOfRound_69 : decode cX6_leansOfRound 69 = .ok (.istore 4, 2) := by decide +kernel
theorem dX6_leansOfRound_71 : decode cX6_leansOfRound 71 = .ok (.iinc 5 1, 3) := by decide +kernel
theorem dX6_leansOfRound_74 : decode cX6_leansOfRound 74 = .ok (.goto (-66), 3) := by decide +kernel
theorem dX6_leansOfRound_77 : decode cX6_leansOfRound 77 = .ok (.iload_n 3, 1) := by decide +kernel
theorem dX6_leansOfRound_78 : decode cX6_leansOfRound 78 = .ok (.ireturn, 1) := by decide +kernel
theorem dX6_shareInRound_0 : decode cX6_shareInRound 0 = .ok (.iconst 0, 1) := by decide +kernel
theorem dX6_shareInRound_1 : decode cX6_shareInRound 1 = .ok (.istore_n 3, 1) := by decide +kernel
theorem dX6_shareInRound_2 : decode cX6_shareInRound 2 = .ok (.iconst 0, 1) := by decide +kernel
theorem dX6_shareInRound_3 : decode cX6_shareInRound 3 = .ok (.istore 4, 2) := by decide +kernel
theorem dX6_shareInRound_5 : decode cX6_shareInRound 5 = .ok (.iload 4, 2) := by decide +kernel
theorem dX6_shareInRound_7 : decode cX6_shareInRound 7 = .ok (.iload_n 2, 1) := by decide +kernel
theorem dX6_shareInRound_8 : decode cX6_shareInRound 8 = .ok (.if_icmp .ge 24, 3) := by decide +kernel
theorem dX6_shareInRound_11 : decode cX6_shareInRound 11 = .ok (.iload_n 3, 1) := by decide +kernel
theorem dX6_shareInRound_12 : decode cX6_shareInRound 12 = .ok (.iconst 1, 1) := by decide +kernel
theorem dX6_shareInRound_13 : decode cX6_shareInRound 13 = .ok (.aload_n 0, 1) := by decide +kernel
theorem dX6_shareInRound_14 : decode cX6_shareInRound 14 = .ok (.getfield 29, 3) := by decide +kernel
theorem dX6_shareInRound_17 : decode cX6_shareInRound 17 = .ok (.iload_n 1, 1) := by decide +kernel
theorem dX6_shareInRound_18 : decode cX6_shareInRound 18 = .ok (.iload 4, 2) := by decide +kernel
theorem dX6_shareInRound_20 : decode cX6_shareInRound 20 = .ok (.invokevirtual 323, 3) := by decide +kernel
theorem dX6_shareInRound_23 : decode cX6_shareInRound 23 = .ok (.ishl, 1) := by decide +kernel
theorem dX6_shareInRound_24 : decode cX6_shareInRound 24 = .ok (.ior, 1) := by decide +kernel
theorem dX6_shareInRound_25 : decode cX6_shareInRound 25 = .ok (.istore_n 3, 1) := by decide +kernel
theorem dX6_shareInRound_26 : decode cX6_shareInRound 26 = .ok (.iinc 4 1, 3) := by decide +kernel
theorem dX6_shareInRound_29 : decode cX6_shareInRound 29 = .ok (.goto (-24), 3) := by decide +kernel
theorem dX6_shareInRound_32 : decode cX6_shareInRound 32 = .ok (.aload_n 0, 1) := by decide +kernel
theorem dX6_shareInRound_33 : decode cX6_shareInRound 33 = .ok (.getfield 29, 3) := by decide +kernel
theorem dX6_shareInRound_36 : decode cX6_shareInRound 36 = .ok (.iload_n 1, 1) := by decide +kernel
theorem dX6_shareInRound_37 : decode cX6_shareInRound 37 = .ok (.iload_n 2, 1) := by decide +kernel
theorem dX6_shareInRound_38 : decode cX6_shareInRound 38 = .ok (.invokevirtual 323, 3) := by decide +kernel
theorem dX6_shareInRound_41 : decode cX6_shareInRound 41 = .ok (.istore 4, 2) := by decide +kernel
theorem dX6_shareInRound_43 : decode cX6_shareInRound 43 = .ok (.aload_n 0, 1) := by decide +kernel
theorem dX6_shareInRound_44 : decode cX6_shareInRound 44 = .ok (.getfield 10, 3) := by decide +kernel
theorem dX6_shareInRound_47 : decode cX6_shareInRound 47 = .ok (.iload 4, 2) := by decide +kernel
theorem dX6_shareInRound_49 : decode cX6_shareInRound 49 = .ok (.aload_n 0, 1) := by decide +kernel
theorem dX6_shareInRound_50 : decode cX6_shareInRound 50 = .ok (.getfield 10, 3) := by decide +kernel
theorem dX6_shareInRound_53 : decode cX6_shareInRound 53 = .ok (.iload 4, 2) := by decide +kernel
theorem dX6_shareInRound_55 : decode cX6_shareInRound 55 = .ok (.sipush 1023, 3) := by decide +kernel
theorem dX6_shareInRound_58 : decode cX6_shareInRound 58 = .ok (.invokevirtual 113, 3) := by decide +kernel
theorem dX6_shareInRound_61 : decode cX6_shareInRound 61 = .ok (.iload_n 3, 1) := by decide +kernel
theorem dX6_shareInRound_62 : decode cX6_shareInRound 62 = .ok (.invokevirtual 329, 3) := by decide +kernel
theorem dX6_shareInRound_65 : decode cX6_shareInRound 65 = .ok (.ireturn, 1) := by decide +kernel
theorem dX6_isWithin_0 : decode cX6_isWithin 0 = .ok (.iload_n 0, 1) := by decide +kernel
theorem dX6_isWithin_1 : decode cX6_isWithin 1 = .ok (.iload_n 1, 1) := by decide +kernel
theorem dX6_isWithin_2 : decode cX6_isWithin 2 = .ok (.if_icmp .lt 12, 3) := by decide +kernel
theorem dX6_isWithin_5 : decode cX6_isWithin 5 = .ok (.iload_n 0, 1) := by decide +kernel
theorem dX6_isWithin_6 : decode cX6_isWithin 6 = .ok (.iload_n 2, 1) := by decide +kernel
theorem dX6_isWithin_7 : decode cX6_isWithin 7 = .ok (.if_icmp .gt 7, 3) := by decide +kernel
theorem dX6_isWithin_10 : decode cX6_isWithin 10 = .ok (.iconst 1, 1) := by decide +kernel
theorem dX6_isWithin_11 : decode cX6_isWithin 11 = .ok (.goto 4, 3) := by decide +kernel
theorem dX6_isWithin_14 : decode cX6_isWithin 14 = .ok (.iconst 0, 1) := by decide +kernel
theorem dX6_isWithin_15 : decode cX6_isWithin 15 = .ok (.ireturn, 1) := by decide +kernel
theorem dX6_isShelf_0 : decode cX6_isShelf 0 = .ok (.iload_n 0, 1) := by decide +kernel
theorem dX6_isShelf_1 : decode cX6_isShelf 1 = .ok (.iconst 0, 1) := by decide +kernel
theorem dX6_isShelf_2 : decode cX6_isShelf 2 = .ok (.bipush 7, 2) := by decide +kernel
theorem dX6_isShelf_4 : decode cX6_isShelf 4 = .ok (.invokestatic 63, 3) := by decide +kernel
theorem dX6_isShelf_7 : decode cX6_isShelf 7 = .ok (.ireturn, 1) := by decide +kernel
theorem dX6_isKind_0 : decode cX6_isKind 0 = .ok (.iload_n 0, 1) := by decide +kernel
theorem dX6_isKind_1 : decode cX6_isKind 1 = .ok (.iconst 0, 1) := by decide +kernel
theorem dX6_isKind_2 : decode cX6_isKind 2 = .ok (.bipush 6, 2) := by decide +kernel
theorem dX6_isKind_4 : decode cX6_isKind 4 = .ok (.invokestatic 63, 3) := by decide +kernel
theorem dX6_isKind_7 : decode cX6_isKind 7 = .ok (.ireturn, 1) := by decide +kernel
theorem dX6_contains_0 : decode cX6_contains 0 = .ok (.iload_n 0, 1) := by decide +kernel
theorem dX6_contains_1 : decode cX6_contains 1 = .ok (.iconst 1, 1) := by decide +kernel
theorem dX6_contains_2 : decode cX6_contains 2 = .ok (.iload_n 1, 1) := by decide +kernel
theorem dX6_contains_3 : decode cX6_contains 3 = .ok (.ishl, 1) := by decide +kernel
theorem dX6_contains_4 : decode cX6_contains 4 = .ok (.iand, 1) := by decide +kernel
theorem dX6_contains_5 : decode cX6_contains 5 = .ok (.ifCond .eq 7, 3) := by decide +kernel
theorem dX6_contains_8 : decode cX6_contains 8 = .ok (.iconst 1, 1) := by decide +kernel
theorem dX6_contains_9 : decode cX6_contains 9 = .ok (.goto 4, 3) := by decide +kernel
theorem dX6_contains_12 : decode cX6_contains 12 = .ok (.iconst 0, 1) := by decide +kernel
theorem dX6_contains_13 : decode cX6_contains 13 = .ok (.ireturn, 1) := by decide +kernel
theorem dX6_isOrUnder_0 : decode cX6_isOrUnder 0 = .ok (.iload_n 0, 1) := by decide +kernel
theorem dX6_isOrUnder_1 : decode cX6_isOrUnder 1 = .ok (.istore_n 2, 1) := by decide +kernel
theorem dX6_isOrUnder_2 : decode cX6_isOrUnder 2 = .ok (.iconst 0, 1) := by decide +kernel
theorem dX6_isOrUnder_3 : decode cX6_isOrUnder 3 = .ok (.istore_n 3, 1) := by decide +kernel
theorem dX6_isOrUnder_4 : decode cX6_isOrUnder 4 = .ok (.iload_n 3, 1) := by decide +kernel
theorem dX6_isOrUnder_5 : decode cX6_isOrUnder 5 = .ok (.getstatic 332, 3) := by decide +kernel
theorem dX6_isOrUnder_8 : decode cX6_isOrUnder 8 = .ok (.arraylength, 1) := by decide +kernel
theorem dX6_isOrUnder_9 : decode cX6_isOrUnder 9 = .ok (.if_icmp .ge 29, 3) := by decide +kernel
theorem dX6_isOrUnder_12 : decode cX6_isOrUnder 12 = .ok (.iload_n 2, 1) := by decide +kernel
theorem dX6_isOrUnder_13 : decode cX6_isOrUnder 13 = .ok (.invokestatic 103, 3) := by decide +kernel
theorem dX6_isOrUnder_16 : decode cX6_isOrUnder 16 = .ok (.ifCond .eq 22, 3) := by decide +kernel
theorem dX6_isOrUnder_19 : decode cX6_isOrUnder 19 = .ok (.iload_n 2, 1) := by decide +kernel
theorem dX6_isOrUnder_20 : decode cX6_isOrUnder 20 = .ok (.iload_n 1, 1) := by decide +kernel
theorem dX6_isOrUnder_21 : decode cX6_isOrUnder 21 = .ok (.if_icmp .ne 5, 3) := by decide +kernel
theorem dX6_isOrUnder_24 : decode cX6_isOrUnder 24 = .ok (.iconst 1, 1) := by decide +kernel
theorem dX6_isOrUnder_25 : decode cX6_isOrUnder 25 = .ok (.ireturn, 1) := by decide +kernel
theorem dX6_isOrUnder_26 : decode cX6_isOrUnder 26 = .ok (.getstatic 332, 3) := by decide +kernel
theorem dX6_isOrUnder_29 : decode cX6_isOrUnder 29 = .ok (.iload_n 2, 1) := by decide +kernel
theorem dX6_isOrUnder_30 : decode cX6_isOrUnder 30 = .ok (.iaload, 1) := by decide +kernel
theorem dX6_isOrUnder_31 : decode cX6_isOrUnder 31 = .ok (.istore_n 2, 1) := by decide +kernel
theorem dX6_isOrUnder_32 : decode cX6_isOrUnder 32 = .ok (.iinc 3 1, 3) := by decide +kernel
theorem dX6_isOrUnder_35 : decode cX6_isOrUnder 35 = .ok (.goto (-31), 3) := by decide +kernel
theorem dX6_isOrUnder_38 : decode cX6_isOrUnder 38 = .ok (.iconst 0, 1) := by decide +kernel
theorem dX6_isOrUnder_39 : decode cX6_isOrUnder 39 = .ok (.ireturn, 1) := by decide +kernel
theorem dX6_thousandths_0 : decode cX6_thousandths 0 = .ok (.iload_n 1, 1) := by decide +kernel
theorem dX6_thousandths_1 : decode cX6_thousandths 1 = .ok (.ifCond .ne 7, 3) := by decide +kernel
theorem dX6_thousandths_4 : decode cX6_thousandths 4 = .ok (.iconst 0, 1) := by decide +kernel
theorem dX6_thousandths_5 : decode cX6_thousandths 5 = .ok (.goto 10, 3) := by decide +kernel
theorem dX6_thousandths_8 : decode cX6_thousandths 8 = .ok (.sipush 1000, 3) := by decide +kernel
theorem dX6_thousandths_11 : decode cX6_thousandths 11 = .ok (.iload_n 0, 1) := by decide +kernel
theorem dX6_thousandths_12 : decode cX6_thousandths 12 = .ok (.imul, 1) := by decide +kernel
theorem dX6_thousandths_13 : decode cX6_thousandths 13 = .ok (.iload_n 1, 1) := by decide +kernel
theorem dX6_thousandths_14 : decode cX6_thousandths 14 = .ok (.idiv, 1) := by decide +kernel
theorem dX6_thousandths_15 : decode cX6_thousandths 15 = .ok (.ireturn, 1) := by decide +kernel
theorem dX6_yesBy_0 : decode cX6_yesBy 0 = .ok (.iload 4, 2) := by decide +kernel
theorem dX6_yesBy_2 : decode cX6_yesBy 2 = .ok (.iconst 2, 1) := by decide +kernel
theorem dX6_yesBy_3 : decode cX6_yesBy 3 = .ok (.idiv, 1) := by decide +kernel
theorem dX6_yesBy_4 : decode cX6_yesBy 4 = .ok (.istore 5, 2) := by decide +kernel
theorem dX6_yesBy_6 : decode cX6_yesBy 6 = .ok (.iload_n 2, 1) := by decide +kernel
theorem dX6_yesBy_7 : decode cX6_yesBy 7 = .ok (.ifCond .ne 8, 3) := by decide +kernel
theorem dX6_yesBy_10 : decode cX6_yesBy 10 = .ok (.iload 4, 2) := by decide +kernel
theorem dX6_yesBy_12 : decode cX6_yesBy 12 = .ok (.goto 14, 3) := by decide +kernel
theorem dX6_yesBy_15 : decode cX6_yesBy 15 = .ok (.iload_n 2, 1) := by decide +kernel
theorem dX6_yesBy_16 : decode cX6_yesBy 16 = .ok (.iconst 1, 1) := by decide +kernel
theorem dX6_yesBy_17 : decode cX6_yesBy 17 = .ok (.if_icmp .ne 7, 3) := by decide +kernel
theorem dX6_yesBy_20 : decode cX6_yesBy 20 = .ok (.iconst 0, 1) := by decide +kernel
theorem dX6_yesBy_21 : decode cX6_yesBy 21 = .ok (.goto 5, 3) := by decide +kernel
theorem dX6_yesBy_24 : decode cX6_yesBy 24 = .ok (.iload 5, 2) := by decide +kernel
theorem dX6_yesBy_26 : decode cX6_yesBy 26 = .ok (.istore 6, 2) := by decide +kernel
theorem dX6_yesBy_28 : decode cX6_yesBy 28 = .ok (.iload_n 2, 1) := by decide +kernel
theorem dX6_yesBy_29 : decode cX6_yesBy 29 = .ok (.iconst 1, 1) := by decide +kernel
theorem dX6_yesBy_30 : decode cX6_yesBy 30 = .ok (.if_icmp .ne 8, 3) := by decide +kernel
theorem dX6_yesBy_33 : decode cX6_yesBy 33 = .ok (.iload 4, 2) := by decide +kernel
theorem dX6_yesBy_35 : decode cX6_yesBy 35 = .ok (.goto 13, 3) := by decide +kernel
theorem dX6_yesBy_38 : decode cX6_yesBy 38 = .ok (.iload_n 2, 1) := by decide +kernel
theorem dX6_yesBy_39 : decode cX6_yesBy 39 = .ok (.ifCond .ne 7, 3) := by decide +kernel
theorem dX6_yesBy_42 : decode cX6_yesBy 42 = .ok (.iconst 0, 1) := by decide +kernel
theorem dX6_yesBy_43 : decode cX6_yesBy 43 = .ok (.goto 5, 3) := by decide +kernel
theorem dX6_yesBy_46 : decode cX6_yesBy 46 = .ok (.iload 5, 2) := by decide +kernel
theorem dX6_yesBy_48 : decode cX6_yesBy 48 = .ok (.istore 7, 2) := by decide +kernel
theorem dX6_yesBy_50 : decode cX6_yesBy 50 = .ok (.iload_n 3, 1) := by decide +kernel
theorem dX6_yesBy_51 : decode cX6_yesBy 51 = .ok (.iload_n 1, 1) := by decide +kernel
theorem dX6_yesBy_52 : decode cX6_yesBy 52 = .ok (.iadd, 1) := by decide +kernel
theorem dX6_yesBy_53 : decode cX6_yesBy 53 = .ok (.bipush 10, 2) := by decide +kernel
theorem dX6_yesBy_55 : decode cX6_yesBy 55 = .ok (.if_icmp .le 8, 3) := by decide +kernel
theorem dX6_yesBy_58 : decode cX6_yesBy 58 = .ok (.bipush 10, 2) := by decide +kernel
theorem dX6_yesBy_60 : decode cX6_yesBy 60 = .ok (.goto 6, 3) := by decide +kernel
theorem dX6_yesBy_63 : decode cX6_yesBy 63 = .ok (.iload_n 3, 1) := by decide +kernel
theorem dX6_yesBy_64 : decode cX6_yesBy 64 = .ok (.iload_n 1, 1) := by decide +kernel
theorem dX6_yesBy_65 : decode cX6_yesBy 65 = .ok (.iadd, 1) := by decide +kernel
theorem dX6_yesBy_66 : decode cX6_yesBy 66 = .ok (.istore 8, 2) := by decide +kernel
theorem dX6_yesBy_68 : decode cX6_yesBy 68 = .ok (.iload_n 0, 1) := by decide +kernel
theorem dX6_yesBy_69 : decode cX6_yesBy 69 = .ok (.tableswitch 104 1 6 #[39, 53, 56, 71, 82, 93], 39) := by decide +kernel
theorem dX6_yesBy_108 : decode cX6_yesBy 108 = .ok (.iload 6, 2) := by decide +kernel
theorem dX6_yesBy_110 : decode cX6_yesBy 110 = .ok (.iload 4, 2) := by decide +kernel
theorem dX6_yesBy_112 : decode cX6_yesBy 112 = .ok (.iload 6, 2) := by decide +kernel
theorem dX6_yesBy_114 : decode cX6_yesBy 114 = .ok (.isub, 1) := by decide +kernel
theorem dX6_yesBy_115 : decode cX6_yesBy 115 = .ok (.iload_n 3, 1) := by decide +kernel
theorem dX6_yesBy_116 : decode cX6_yesBy 116 = .ok (.imul, 1) := by decide +kernel
theorem dX6_yesBy_117 : decode cX6_yesBy 117 = .ok (.bipush 10, 2) := by decide +kernel
theorem dX6_yesBy_119 : decode cX6_yesBy 119 = .ok (.idiv, 1) := by decide +kernel
theorem dX6_yesBy_120 : decode cX6_yesBy 120 = .ok (.iadd, 1) := by decide +kernel
theorem dX6_yesBy_121 : decode cX6_yesBy 121 = .ok (.ireturn, 1) := by decide +kernel
theorem dX6_yesBy_122 : decode cX6_yesBy 122 = .ok (.iload 7, 2) := by decide +kernel
theorem dX6_yesBy_124 : decode cX6_yesBy 124 = .ok (.ireturn, 1) := by decide +kernel
theorem dX6_yesBy_125 : decode cX6_yesBy 125 = .ok (.iload 6, 2) := by decide +kernel
theorem dX6_yesBy_127 : decode cX6_yesBy 127 = .ok (.iload 4, 2) := by decide +kernel
theorem dX6_yesBy_129 : decode cX6_yesBy 129 = .ok (.iload 6, 2) := by decide +kernel
theorem dX6_yesBy_131 : decode cX6_yesBy 131 = .ok (.isub, 1) := by decide +kernel
theorem dX6_yesBy_132 : decode cX6_yesBy 132 = .ok (.iload 8, 2) := by decide +kernel
theorem dX6_yesBy_134 : decode cX6_yesBy 134 = .ok (.imul, 1) := by decide +kernel
theorem dX6_yesBy_135 : decode cX6_yesBy 135 = .ok (.bipush 10, 2) := by decide +kernel
theorem dX6_yesBy_137 : decode cX6_yesBy 137 = .ok (.idiv, 1) := by decide +kernel
theorem dX6_yesBy_138 : decode cX6_yesBy 138 = .ok (.iadd, 1) := by decide +kernel
theorem dX6_yesBy_139 : decode cX6_yesBy 139 = .ok (.ireturn, 1) := by decide +kernel
theorem dX6_yesBy_140 : decode cX6_yesBy 140 = .ok (.iload 6, 2) := by decide +kernel
theorem dX6_yesBy_142 : decode cX6_yesBy 142 = .ok (.bipush 10, 2) := by decide +kernel
theorem dX6_yesBy_144 : decode cX6_yesBy 144 = .ok (.iload_n 1, 1) := by decide +kernel
theorem dX6_yesBy_145 : decode cX6_yesBy 145 = .ok (.isub, 1) := by decide +kernel
theorem dX6_yesBy_146 : decode cX6_yesBy 146 = .ok (.imul, 1) := by decide +kernel
theorem dX6_yesBy_147 : decode cX6_yesBy 147 = .ok (.bipush 10, 2) := by decide +kernel
theorem dX6_yesBy_149 : decode cX6_yesBy 149 = .ok (.idiv, 1) := by decide +kernel
theorem dX6_yesBy_150 : decode cX6_yesBy 150 = .ok (.ireturn, 1) := by decide +kernel
theorem dX6_yesBy_151 : decode cX6_yesBy 151 = .ok (.iload 7, 2) := by decide +kernel
theorem dX6_yesBy_153 : decode cX6_yesBy 153 = .ok (.bipush 10, 2) := by decide +kernel
theorem dX6_yesBy_155 : decode cX6_yesBy 155 = .ok (.iload_n 1, 1) := by decide +kernel
theorem dX6_yesBy_156 : decode cX6_yesBy 156 = .ok (.isub, 1) := by decide +kernel
theorem dX6_yesBy_157 : decode cX6_yesBy 157 = .ok (.imul, 1) := by decide +kernel
theorem dX6_yesBy_158 : decode cX6_yesBy 158 = .ok (.bipush 10, 2) := by decide +kernel
theorem dX6_yesBy_160 : decode cX6_yesBy 160 = .ok (.idiv, 1) := by decide +kernel
theorem dX6_yesBy_161 : decode cX6_yesBy 161 = .ok (.ireturn, 1) := by decide +kernel
theorem dX6_yesBy_162 : decode cX6_yesBy 162 = .ok (.iload 5, 2) := by decide +kernel
theorem dX6_yesBy_164 : decode cX6_yesBy 164 = .ok (.bipush 10, 2) := by decide +kernel
theorem dX6_yesBy_166 : decode cX6_yesBy 166 = .ok (.iload_n 1, 1) := by decide +kernel
theorem dX6_yesBy_167 : decode cX6_yesBy 167 = .ok (.isub, 1) := by decide +kernel
theorem dX6_yesBy_168 : decode cX6_yesBy 168 = .ok (.imul, 1) := by decide +kernel
theorem dX6_yesBy_169 : decode cX6_yesBy 169 = .ok (.bipush 10, 2) := by decide +kernel
theorem dX6_yesBy_171 : decode cX6_yesBy 171 = .ok (.idiv, 1) := by decide +kernel
theorem dX6_yesBy_172 : decode cX6_yesBy 172 = .ok (.ireturn, 1) := by decide +kernel
theorem dX6_yesBy_173 : decode cX6_yesBy 173 = .ok (.iload 6, 2) := by decide +kernel
theorem dX6_yesBy_175 : decode cX6_yesBy 175 = .ok (.ireturn, 1) := by decide +kernel
theorem dX7_init_0 : decode cX7_init 0 = .ok (.aload_n 0, 1) := by decide +kernel
theorem dX7_init_1 : decode cX7_init 1 = .ok (.invokespecial 1, 3) := by decide +kernel
theorem dX7_init_4 : decode cX7_init 4 = .ok (.aload_n 0, 1) := by decide +kernel
theorem dX7_init_5 : decode cX7_init 5 = .ok (.bipush 8, 2) := by decide +kernel
theorem dX7_init_7 : decode cX7_init 7 = .ok (.newarray .int, 2) := by decide +kernel
theorem dX7_init_9 : decode cX7_init 9 = .ok (.putfield 7, 3) := by decide +kernel
theorem dX7_init_12 : decode cX7_init 12 = .ok (.aload_n 0, 1) := by decide +kernel
theorem dX7_init_13 : decode cX7_init 13 = .ok (.bipush 8, 2) := by decide +kernel
theorem dX7_init_15 : decode cX7_init 15 = .ok (.newarray .int, 2) := by decide +kernel
theorem dX7_init_17 : decode cX7_init 17 = .ok (.putfield 13, 3) := by decide +kernel
theorem dX7_init_20 : decode cX7_init 20 = .ok (.aload_n 0, 1) := by decide +kernel
theorem dX7_init_21 : decode cX7_init 21 = .ok (.sipush 1280, 3) := by decide +kernel
theorem dX7_init_24 : decode cX7_init 24 = .ok (.newarray .long, 2) := by decide +kernel
theorem dX7_init_26 : decode cX7_init 26 = .ok (.putfield 16, 3) := by decide +kernel
theorem dX7_init_29 : decode cX7_init 29 = .ok (.aload_n 0, 1) := by decide +kernel
theorem dX7_init_30 : decode cX7_init 30 = .ok (.bipush 8, 2) := by decide +kernel
theorem dX7_init_32 : decode cX7_init 32 = .ok (.newarray .int, 2) := by decide +kernel
theorem dX7_init_34 : decode cX7_init 34 = .ok (.putfield 20, 3) := by decide +kernel
theorem dX7_init_37 : decode cX7_init 37 = .ok (.aload_n 0, 1) := by decide +kernel
theorem dX7_init_38 : decode cX7_init 38 = .ok (.bipush 8, 2) := by decide +kernel
theorem dX7_init_40 : decode cX7_init 40 = .ok (.newarray .int, 2) := by decide +kernel
theorem dX7_init_42 : decode cX7_init 42 = .ok (.putfield 23, 3) := by decide +kernel
theorem dX7_init_45 : decode cX7_init 45 = .ok (.aload_n 0, 1) := by decide +kernel
theorem dX7_init_46 : decode cX7_init 46 = .ok (.bipush 64, 2) := by decide +kernel
theorem dX7_init_48 : decode cX7_init 48 = .ok (.newarray .int, 2) := by decide +kernel
theorem dX7_init_50 : decode cX7_init 50 = .ok (.putfield 26, 3) := by decide +kernel
theorem dX7_init_53 : decode cX7_init 53 = .ok (.aload_n 0, 1) := by decide +kernel
theorem dX7_init_54 : decode cX7_init 54 = .ok (.bipush 10, 2) := by decide +kernel
theorem dX7_init_56 : decode cX7_init 56 = .ok (.newarray .int, 2) := by decide +kernel
theorem dX7_init_58 : decode cX7_init 58 = .ok (.putfield 29, 3) := by decide +kernel
theorem dX7_init_61 : decode cX7_init 61 = .ok (.aload_n 0, 1) := by decide +kernel
theorem dX7_init_62 : decode cX7_init 62 = .ok (.bipush 10, 2) := by decide +kernel
theorem dX7_init_64 : decode cX7_init 64 = .ok (.newarray .int, 2) := by decide +kernel
theorem dX7_init_66 : decode cX7_init 66 = .ok (.putfield 32, 3) := by decide +kernel
theorem dX7_init_69 : decode cX7_init 69 = .ok (.aload_n 0, 1) := by decide +kernel
theorem dX7_init_70 : decode cX7_init 70 = .ok (.bipush 10, 2) := by decide +kernel
theorem dX7_init_72 : decode cX7_init 72 = .ok (.newarray .int, 2) := by decide +kernel
theorem dX7_init_74 : decode cX7_init 74 = .ok (.putfield 35, 3) := by decide +kernel
theorem dX7_init_77 : decode cX7_init 77 = .ok (.aload_n 0, 1) := by decide +kernel
theorem dX7_init_78 : decode cX7_init 78 = .ok (.bipush 10, 2) := by decide +kernel
theorem dX7_init_80 : decode cX7_init 80 = .ok (.newarray .int, 2) := by decide +kernel
theorem dX7_init_82 : decode cX7_init 82 = .ok (.putfield 38, 3) := by decide +kernel
theorem dX7_init_85 : decode cX7_init 85 = .ok (.aload_n 0, 1) := by decide +kernel
theorem dX7_init_86 : decode cX7_init 86 = .ok (.bipush 10, 2) := by decide +kernel
theorem dX7_init_88 : decode cX7_init 88 = .ok (.newarray .int, 2) := by decide +kernel
theorem dX7_init_90 : decode cX7_init 90 = .ok (.putfield 41, 3) := by decide +kernel
theorem dX7_init_93 : decode cX7_init 93 = .ok (.aload_n 0, 1) := by decide +kernel
theorem dX7_init_94 : decode cX7_init 94 = .ok (.bipush 8, 2) := by decide +kernel
theorem dX7_init_96 : decode cX7_init 96 = .ok (.newarray .int, 2) := by decide +kernel
theorem dX7_init_98 : decode cX7_init 98 = .ok (.putfield 44, 3) := by decide +kernel
theorem dX7_init_101 : decode cX7_init 101 = .ok (.aload_n 0, 1) := by decide +kernel
theorem dX7_init_102 : decode cX7_init 102 = .ok (.bipush 20, 2) := by decide +kernel
theorem dX7_init_104 : decode cX7_init 104 = .ok (.newarray .int, 2) := by decide +kernel
theorem dX7_init_106 : decode cX7_init 106 = .ok (.putfield 47, 3) := by decide +kernel
theorem dX7_init_109 : decode cX7_init 109 = .ok (.aload_n 0, 1) := by decide +kernel
theorem dX7_init_110 : decode cX7_init 110 = .ok (.sipush 137, 3) := by decide +kernel
theorem dX7_init_113 : decode cX7_init 113 = .ok (.newarray .int, 2) := by decide +kernel
theorem dX7_init_115 : decode cX7_init 115 = .ok (.putfield 50, 3) := by decide +kernel
theorem dX7_init_118 : decode cX7_init 118 = .ok (.aload_n 0, 1) := by decide +kernel
theorem dX7_init_119 : decode cX7_init 119 = .ok (.sipush 137, 3) := by decide +kernel
theorem dX7_init_122 : decode cX7_init 122 = .ok (.newarray .int, 2) := by decide +kernel
theorem dX7_init_124 : decode cX7_init 124 = .ok (.putfield 53, 3) := by decide +kernel
theorem dX7_init_127 : decode cX7_init 127 = .ok (.aload_n 0, 1) := by decide +kernel
theorem dX7_init_128 : decode cX7_init 128 = .ok (.iconst 5, 1) := by decide +kernel
theorem dX7_init_129 : decode cX7_init 129 = .ok (.newarray .int, 2) := by decide +kernel
theorem dX7_init_131 : decode cX7_init 131 = .ok (.putfield 56, 3) := by decide +kernel
theorem dX7_init_134 : decode cX7_init 134 = .ok (.aload_n 0, 1) := by decide +kernel
theorem dX7_init_135 : decode cX7_init 135 = .ok (.bipush 10, 2) := by decide +kernel
theorem dX7_init_137 : decode cX7_init 137 = .ok (.newarray .int, 2) := by decide +kernel
theorem dX7_init_139 : decode cX7_init 139 = .ok (.putfield 59, 3) := by decide +kernel
theorem dX7_init_142 : decode cX7_init 142 = .ok (.aload_n 0, 1) := by decide +kernel
theorem dX7_init_143 : decode cX7_init 143 = .ok (.bipush 10, 2) := by decide +kernel
theorem dX7_init_145 : decode cX7_init 145 = .ok (.newarray .int, 2) := by decide +kernel
theorem dX7_init_147 : decode cX7_init 147 = .ok (.putfield 62, 3) := by decide +kernel
theorem dX7_init_150 : decode cX7_init 150 = .ok (.aload_n 0, 1) := by decide +kernel
theorem dX7_init_151 : decode cX7_init 151 = .ok (.bipush 6, 2) := by decide +kernel
theorem dX7_init_153 : decode cX7_init 153 = .ok (.newarray .int, 2) := by decide +kernel
theorem dX7_init_155 : decode cX7_init 155 = .ok (.putfield 65, 3) := by decide +kernel
theorem dX7_init_158 : decode cX7_init 158 = .ok (.aload_n 0, 1) := by decide +kernel
theorem dX7_init_159 : decode cX7_init 159 = .ok (.bipush 6, 2) := by decide +kernel
theorem dX7_init_161 : decode cX7_init 161 = .ok (.newarray .int, 2) := by decide +kernel
theorem dX7_init_163 : decode cX7_init 163 = .ok (.putfield 68, 3) := by decide +kernel
theorem dX7_init_166 : decode cX7_init 166 = .ok (.iconst 0, 1) := by decide +kernel
theorem dX7_init_167 : decode cX7_init 167 = .ok (.istore_n 1, 1) := by decide +kernel
theorem dX7_init_168 : decode cX7_init 168 = .ok (.iload_n 1, 1) := by decide +kernel
theorem dX7_init_169 : decode cX7_init 169 = .ok (.bipush 8, 2) := by decide +kernel
theorem dX7_init_171 : decode cX7_init 171 = .ok (.if_icmp .ge 16, 3) := by decide +kernel
theorem dX7_init_174 : decode cX7_init 174 = .ok (.aload_n 0, 1) := by decide +kernel
theorem dX7_init_175 : decode cX7_init 175 = .ok (.getfield 7, 3) := by decide +kernel
theorem dX7_init_178 : decode cX7_init 178 = .ok (.iload_n 1, 1) := by decide +kernel
theorem dX7_init_179 : decode cX7_init 179 = .ok (.iconst (-1), 1) := by decide +kernel
theorem dX7_init_180 : decode cX7_init 180 = .ok (.iastore, 1) := by decide +kernel
theorem dX7_init_181 : decode cX7_init 181 = .ok (.iinc 1 1, 3) := by decide +kernel
theorem dX7_init_184 : decode cX7_init 184 = .ok (.goto (-16), 3) := by decide +kernel
theorem dX7_init_187 : decode cX7_init 187 = .ok (.aload_n 0, 1) := by decide +kernel
theorem dX7_init_188 : decode cX7_init 188 = .ok (.iconst 5, 1) := by decide +kernel
theorem dX7_init_189 : decode cX7_init 189 = .ok (.putfield 71, 3) := by decide +kernel
theorem dX7_init_192 : decode cX7_init 192 = .ok (.aload_n 0, 1) := by decide +kernel
theorem dX7_init_193 : decode cX7_init 193 = .ok (.iconst 1, 1) := by decide +kernel
theorem dX7_init_194 : decode cX7_init 194 = .ok (.putfield 75, 3) := by decide +kernel
theorem dX7_init_197 : decode cX7_init 197 = .ok (.aload_n 0, 1) := by decide +kernel
theorem dX7_init_198 : decode cX7_init 198 = .ok (.iconst (-1), 1) := by decide +kernel
theorem dX7_init_199 : decode cX7_init 199 = .ok (.putfield 78, 3) := by decide +kernel
theorem dX7_init_202 : decode cX7_init 202 = .ok (.return_, 1) := by decide +kernel
theorem dX7_no_0 : decode cX7_no 0 = .ok (.aload_n 0, 1) := by decide +kernel
theorem dX7_no_1 : decode cX7_no 1 = .ok (.getfield 44, 3) := by decide +kernel
theorem dX7_no_4 : decode cX7_no 4 = .ok (.iload_n 1, 1) := by decide +kernel
theorem dX7_no_5 : decode cX7_no 5 = .ok (.ineg, 1) := by decide +kernel
theorem dX7_no_6 : decode cX7_no 6 = .ok (.dup2, 1) := by decide +kernel
theorem dX7_no_7 : decode cX7_no 7 = .ok (.iaload, 1) := by decide +kernel
theorem dX7_no_8 : decode cX7_no 8 = .ok (.iconst 1, 1) := by decide +kernel
theorem dX7_no_9 : decode cX7_no 9 = .ok (.iadd, 1) := by decide +kernel
theorem dX7_no_10 : decode cX7_no 10 = .ok (.iastore, 1) := by decide +kernel
theorem dX7_no_11 : decode cX7_no 11 = .ok (.iload_n 1, 1) := by decide +kernel
theorem dX7_no_12 : decode cX7_no 12 = .ok (.ireturn, 1) := by decide +kernel
theorem dX7_no10_0 : decode cX7_no10 0 = .ok (.aload_n 0, 1) := by decide +kernel
theorem dX7_no10_1 : decode cX7_no10 1 = .ok (.iload_n 1, 1) := by decide +kernel
theorem dX7_no10_2 : decode cX7_no10 2 = .ok (.invokevirtual 81, 3) := by decide +kernel
theorem dX7_no10_5 : decode cX7_no10 5 = .ok (.bipush 10, 2) := by decide +kernel
theorem dX7_no10_7 : decode cX7_no10 7 = .ok (.isub, 1) := by decide +kernel
theorem dX7_no10_8 : decode cX7_no10 8 = .ok (.ireturn, 1) := by decide +kernel
theorem dX7_noMuch_0 : decode cX7_noMuch 0 = .ok (.aload_n 0, 1) := by decide +kernel
theorem dX7_noMuch_1 : decode cX7_noMuch 1 = .ok (.iload_n 1, 1) := by decide +kernel
theorem dX7_noMuch_2 : decode cX7_noMuch 2 = .ok (.invokevirtual 81, 3) := by decide +kernel
theorem dX7_noMuch_5 : decode cX7_noMuch 5 = .ok (.sipush 10000, 3) := by decide +kernel
theorem dX7_noMuch_8 : decode cX7_noMuch 8 = .ok (.isub, 1) := by decide +kernel
theorem dX7_noMuch_9 : decode cX7_noMuch 9 = .ok (.ireturn, 1) := by decide +kernel
theorem dX7_within_0 : decode cX7_within 0 = .ok (.iload_n 0, 1) := by decide +kernel
theorem dX7_within_1 : decode cX7_within 1 = .ok (.iload_n 1, 1) := by decide +kernel
theorem dX7_within_2 : decode cX7_within 2 = .ok (.if_icmp .lt 12, 3) := by decide +kernel
theorem dX7_within_5 : decode cX7_within 5 = .ok (.iload_n 0, 1) := by decide +kernel
theorem dX7_within_6 : decode cX7_within 6 = .ok (.iload_n 2, 1) := by decide +kernel
theorem dX7_within_7 : decode cX7_within 7 = .ok (.if_icmp .gt 7, 3) := by decide +kernel
theorem dX7_within_10 : decode cX7_within 10 = .ok (.iconst 1, 1) := by decide +kernel
theorem dX7_within_11 : decode cX7_within 11 = .ok (.goto 4, 3) := by decide +kernel
theorem dX7_within_14 : decode cX7_within 14 = .ok (.iconst 0, 1) := by decide +kernel
theorem dX7_within_15 : decode cX7_within 15 = .ok (.ireturn, 1) := by decide +kernel
theorem dX7_has_0 : decode cX7_has 0 = .ok (.iload_n 0, 1) := by decide +kernel
theorem dX7_has_1 : decode cX7_has 1 = .ok (.iload_n 1, 1) := by decide +kernel
theorem dX7_has_2 : decode cX7_has 2 = .ok (.ishr, 1) := by decide +kernel
theorem dX7_has_3 : decode cX7_has 3 = .ok (.iconst 1, 1) := by decide +kernel
theorem dX7_has_4 : decode cX7_has 4 = .ok (.iand, 1) := by decide +kernel
theorem dX7_has_5 : decode cX7_has 5 = .ok (.iconst 1, 1) := by decide +kernel
theorem dX7_has_6 : decode cX7_has 6 = .ok (.if_icmp .ne 7, 3) := by decide +kernel
theorem dX7_has_9 : decode cX7_has 9 = .ok (.iconst 1, 1) := by decide +kernel
theorem dX7_has_10 : decode cX7_has 10 = .ok (.goto 4, 3) := by decide +kernel
theorem dX7_has_13 : decode cX7_has 13 = .ok (.iconst 0, 1) := by decide +kernel
theorem dX7_has_14 : decode cX7_has 14 = .ok (.ireturn, 1) := by decide +kernel
theorem dX7_isQuestion_0 : decode cX7_isQuestion 0 = .ok (.iload_n 1, 1) := by decide +kernel
theorem dX7_isQuestion_1 : decode cX7_isQuestion 1 = .ok (.iconst 0, 1) := by decide +kernel
theorem dX7_isQuestion_2 : decode cX7_isQuestion 2 = .ok (.aload_n 0, 1) := by decide +kernel
theorem dX7_isQuestion_3 : decode cX7_isQuestion 3 = .ok (.getfield 85, 3) := by decide +kernel
theorem dX7_isQuestion_6 : decode cX7_isQuestion 6 = .ok (.iconst 1, 1) := by decide +kernel
theorem dX7_isQuestion_7 : decode cX7_isQuestion 7 = .ok (.isub, 1) := by decide +kernel
theorem dX7_isQuestion_8 : decode cX7_isQuestion 8 = .ok (.invokestatic 88, 3) := by decide +kernel
theorem dX7_isQuestion_11 : decode cX7_isQuestion 11 = .ok (.ireturn, 1) := by decide +kernel
theorem dX7_isGroup_0 : decode cX7_isGroup 0 = .ok (.iload_n 1, 1) := by decide +kernel
theorem dX7_isGroup_1 : decode cX7_isGroup 1 = .ok (.iconst 0, 1) := by decide +kernel
theorem dX7_isGroup_2 : decode cX7_isGroup 2 = .ok (.aload_n 0, 1) := by decide +kernel
theorem dX7_isGroup_3 : decode cX7_isGroup 3 = .ok (.getfield 92, 3) := by decide +kernel
theorem dX7_isGroup_6 : decode cX7_isGroup 6 = .ok (.iconst 1, 1) := by decide +kernel
theorem dX7_isGroup_7 : decode cX7_isGroup 7 = .ok (.isub, 1) := by decide +kernel
theorem dX7_isGroup_8 : decode cX7_isGroup 8 = .ok (.invokestatic 88, 3) := by decide +kernel
theorem dX7_isGroup_11 : decode cX7_isGroup 11 = .ok (.ireturn, 1) := by decide +kernel
theorem dX7_isRow_0 : decode cX7_isRow 0 = .ok (.aload_n 0, 1) := by decide +kernel
theorem dX7_isRow_1 : decode cX7_isRow 1 = .ok (.getfield 7, 3) := by decide +kernel
theorem dX7_isRow_4 : decode cX7_isRow 4 = .ok (.iload_n 1, 1) := by decide +kernel
theorem dX7_isRow_5 : decode cX7_isRow 5 = .ok (.iaload, 1) := by decide +kernel
theorem dX7_isRow_6 : decode cX7_isRow 6 = .ok (.bipush 100, 2) := by decide +kernel
theorem dX7_isRow_8 : decode cX7_isRow 8 = .ok (.if_icmp .lt 7, 3) := by decide +kernel
theorem dX7_isRow_11 : decode cX7_isRow 11 = .ok (.iconst 1, 1) := by decide +kernel
theorem dX7_isRow_12 : decode cX7_isRow 12 = .ok (.goto 4, 3) := by decide +kernel
theorem dX7_isRow_15 : decode cX7_isRow 15 = .ok (.iconst 0, 1) := by decide +kernel
theorem dX7_isRow_16 : decode cX7_isRow 16 = .ok (.ireturn, 1) := by decide +kernel
theorem dX7_row_0 : decode cX7_row 0 = .ok (.iload_n 1, 1) := by decide +kernel
theorem dX7_row_1 : decode cX7_row 1 = .ok (.iconst 0, 1) := by decide +kernel
theorem dX7_row_2 : decode cX7_row 2 = .ok (.bipush 7, 2) := by decide +kernel
theorem dX7_row_4 : decode cX7_row 4 = .ok (.invokestatic 88, 3) := by decide +kernel
theorem dX7_row_7 : decode cX7_row 7 = .ok (.ifCond .ne 9, 3) := by decide +kernel
theorem dX7_row_10 : decode cX7_row 10 = .ok (.aload_n 0, 1) := by decide +kernel
theorem dX7_row_11 : decode cX7_row 11 = .ok (.iconst (-1), 1) := by decide +kernel
theorem dX7_row_12 : decode cX7_row 12 = .ok (.invokevirtual 81, 3) := by decide +kernel
theorem dX7_row_15 : decode cX7_row 15 = .ok (.ireturn, 1) := by decide +kernel
theorem dX7_row_16 : decode cX7_row 16 = .ok (.iload_n 3, 1) := by decide +kernel
theorem dX7_row_17 : decode cX7_row 17 = .ok (.ifCond .ge 10, 3) := by decide +kernel
theorem dX7_row_20 : decode cX7_row 20 = .ok (.aload_n 0, 1) := by decide +kernel
theorem dX7_row_21 : decode cX7_row 21 = .ok (.bipush (-4), 2) := by decide +kernel
theorem dX7_row_23 : decode cX7_row 23 = .ok (.invokevirtual 81, 3) := by decide +kernel
theorem dX7_row_26 : decode cX7_row 26 = .ok (.ireturn, 1) := by decide +kernel
theorem dX7_row_27 : decode cX7_row 27 = .ok (.iload_n 2, 1) := by decide +kernel
theorem dX7_row_28 : decode cX7_row 28 = .ok (.iconst 0, 1) := by decide +kernel
theorem dX7_row_29 : decode cX7_row 29 = .ok (.iconst 3, 1) := by decide +kernel
theorem dX7_row_30 : decode cX7_row 30 = .ok (.invokestatic 88, 3) := by decide +kernel
theorem dX7_row_33 : decode cX7_row 33 = .ok (.ifCond .ne 10, 3) := by decide +kernel
theorem dX7_row_36 : decode cX7_row 36 = .ok (.aload_n 0, 1) := by decide +kernel
theorem dX7_row_37 : decode cX7_row 37 = .ok (.bipush (-6), 2) := by decide +kernel
theorem dX7_row_39 : decode cX7_row 39 = .ok (.invokevirtual 81, 3) := by decide +kernel
theorem dX7_row_42 : decode cX7_row 42 = .ok (.ireturn, 1) := by decide +kernel
theorem dX7_row_43 : decode cX7_row 43 = .ok (.iload_n 3, 1) := by decide +kernel
theorem dX7_row_44 : decode cX7_row 44 = .ok (.sipush 160, 3) := by decide +kernel
theorem dX7_row_47 : decode cX7_row 47 = .ok (.if_icmp .le 10, 3) := by decide +kernel
theorem dX7_row_50 : decode cX7_row 50 = .ok (.aload_n 0, 1) := by decide +kernel
theorem dX7_row_51 : decode cX7_row 51 = .ok (.bipush (-7), 2) := by decide +kernel
theorem dX7_row_53 : decode cX7_row 53 = .ok (.invokevirtual 81, 3) := by decide +kernel
theorem dX7_row_56 : decode cX7_row 56 = .ok (.ireturn, 1) := by decide +kernel
theorem dX7_row_57 : decode cX7_row 57 = .ok (.aload_n 0, 1) := by decide +kernel
theorem dX7_row_58 : decode cX7_row 58 = .ok (.getfield 7, 3) := by decide +kernel
theorem dX7_row_61 : decode cX7_row 61 = .ok (.iload_n 1, 1) := by decide +kernel
theorem dX7_row_62 : decode cX7_row 62 = .ok (.bipush 100, 2) := by decide +kernel
theorem dX7_row_64 : decode cX7_row 64 = .ok (.iload_n 2, 1) := by decide +kernel
theorem dX7_row_65 : decode cX7_row 65 = .ok (.iadd, 1) := by decide +kernel
theorem dX7_row_66 : decode cX7_row 66 = .ok (.iastore, 1) := by decide +kernel
theorem dX7_row_67 : decode cX7_row 67 = .ok (.aload_n 0, 1) := by decide +kernel
theorem dX7_row_68 : decode cX7_row 68 = .ok (.getfield 13, 3) := by decide +kernel
theorem dX7_row_71 : decode cX7_row 71 = .ok (.iload_n 1, 1) := by decide +kernel
theorem dX7_row_72 : decode cX7_row 72 = .ok (.iload_n 3, 1) := by decide +kernel
theorem dX7_row_73 : decode cX7_row 73 = .ok (.iastore, 1) := by decide +kernel
theorem dX7_row_74 : decode cX7_row 74 = .ok (.iconst 0, 1) := by decide +kernel
theorem dX7_row_75 : decode cX7_row 75 = .ok (.istore 4, 2) := by decide +kernel
theorem dX7_row_77 : decode cX7_row 77 = .ok (.iload 4, 2) := by decide +kernel
theorem dX7_row_79 : decode cX7_row 79 = .ok (.sipush 160, 3) := by decide +kernel
theorem dX7_row_82 : decode cX7_row 82 = .ok (.if_icmp .ge 23, 3) := by decide +kernel
theorem dX7_row_85 : decode cX7_row 85 = .ok (.aload_n 0, 1) := by decide +kernel
theorem dX7_row_86 : decode cX7_row 86 = .ok (.getfield 16, 3) := by decide +kernel
theorem dX7_row_89 : decode cX7_row 89 = .ok (.sipush 160, 3) := by decide +kernel
theorem dX7_row_92 : decode cX7_row 92 = .ok (.iload_n 1, 1) := by decide +kernel
theorem dX7_row_93 : decode cX7_row 93 = .ok (.imul, 1) := by decide +kernel
theorem dX7_row_94 : decode cX7_row 94 = .ok (.iload 4, 2) := by decide +kernel
theorem dX7_row_96 : decode cX7_row 96 = .ok (.iadd, 1) := by decide +kernel
theorem dX7_row_97 : decode cX7_row 97 = .ok (.lconst 0, 1) := by decide +kernel
theorem dX7_row_98 : decode cX7_row 98 = .ok (.lastore, 1) := by decide +kernel
theorem dX7_row_99 : decode cX7_row 99 = .ok (.iinc 4 1, 3) := by decide +kernel
theorem dX7_row_102 : decode cX7_row 102 = .ok (.goto (-25), 3) := by decide +kernel
theorem dX7_row_105 : decode cX7_row 105 = .ok (.iconst 1, 1) := by decide +kernel
theorem dX7_row_106 : decode cX7_row 106 = .ok (.ireturn, 1) := by decide +kernel
theorem dX7_noRow_0 : decode cX7_noRow 0 = .ok (.iload_n 1, 1) := by decide +kernel
theorem dX7_noRow_1 : decode cX7_noRow 1 = .ok (.iconst 0, 1) := by decide +kernel
theorem dX7_noRow_2 : decode cX7_noRow 2 = .ok (.bipush 7, 2) := by decide +kernel
theorem dX7_noRow_4 : decode cX7_noRow 4 = .ok (.invokestatic 88, 3) := by decide +kernel
theorem dX7_noRow_7 : decode cX7_noRow 7 = .ok (.ifCond .ne 5, 3) := by decide +kernel
theorem dX7_noRow_10 : decode cX7_noRow 10 = .ok (.iconst (-1), 1) := by decide +kernel
theorem dX7_noRow_11 : decode cX7_noRow 11 = .ok (.ireturn, 1) := by decide +kernel
theorem dX7_noRow_12 : decode cX7_noRow 12 = .ok (.aload_n 0, 1) := by decide +kernel
theorem dX7_noRow_13 : decode cX7_noRow 13 = .ok (.getfield 7, 3) := by decide +kernel
theorem dX7_noRow_16 : decode cX7_noRow 16 = .ok (.iload_n 1, 1) := by decide +kernel
theorem dX7_noRow_17 : decode cX7_noRow 17 = .ok (.iaload, 1) := by decide +kernel
theorem dX7_noRow_18 : decode cX7_noRow 18 = .ok (.ifCond .lt 14, 3) := by decide +kernel
theorem dX7_noRow_21 : decode cX7_noRow 21 = .ok (.aload_n 0, 1) := by decide +kernel
theorem dX7_noRow_22 : decode cX7_noRow 22 = .ok (.iload_n 1, 1) := by decide +kernel
theorem dX7_noRow_23 : decode cX7_noRow 23 = .ok (.invokevirtual 95, 3) := by decide +kernel
theorem dX7_noRow_26 : decode cX7_noRow 26 = .ok (.ifCond .ne 6, 3) := by decide +kernel
theorem dX7_noRow_29 : decode cX7_noRow 29 = .ok (.bipush (-2), 2) := by decide +kernel
theorem dX7_noRow_31 : decode cX7_noRow 31 = .ok (.ireturn, 1) := by decide +kernel
theorem dX7_noRow_32 : decode cX7_noRow 32 = .ok (.aload_n 0, 1) := by decide +kernel
theorem dX7_noRow_33 : decode cX7_noRow 33 = .ok (.getfield 7, 3) := by decide +kernel
theorem dX7_noRow_36 : decode cX7_noRow 36 = .ok (.iload_n 1, 1) := by decide +kernel
theorem dX7_noRow_37 : decode cX7_noRow 37 = .ok (.iaload, 1) := by decide +kernel
theorem dX7_noRow_38 : decode cX7_noRow 38 = .ok (.ifCond .ge 8, 3) := by decide +kernel
theorem dX7_noRow_41 : decode cX7_noRow 41 = .ok (.bipush (-3), 2) := by decide +kernel
theorem dX7_noRow_43 : decode cX7_noRow 43 = .ok (.goto 4, 3) := by decide +kernel
theorem dX7_noRow_46 : decode cX7_noRow 46 = .ok (.iconst 0, 1) := by decide +kernel
theorem dX7_noRow_47 : decode cX7_noRow 47 = .ok (.ireturn, 1) := by decide +kernel
theorem dX7_set_0 : decode cX7_set 0 = .ok (.aload_n 0, 1) := by decide +kernel
theorem dX7_set_1 : decode cX7_set 1 = .ok (.iload_n 1, 1) := by decide +kernel
theorem dX7_set_2 : decode cX7_set 2 = .ok (.invokevirtual 99, 3) := by decide +kernel
theorem dX7_set_5 : decode cX7_set 5 = .ok (.istore 5, 2) := by decide +kernel
theorem dX7_set_7 : decode cX7_set 7 = .ok (.iload 5, 2) := by decide +kernel
theorem dX7_set_9 : decode cX7_set 9 = .ok (.ifCond .ge 10, 3) := by decide +kernel
theorem dX7_set_12 : decode cX7_set 12 = .ok (.aload_n 0, 1) := by decide +kernel
theorem dX7_set_13 : decode cX7_set 13 = .ok (.iload 5, 2) := by decide +kernel
theorem dX7_set_15 : decode cX7_set 15 = .ok (.invokevirtual 81, 3) := by decide +kernel
theorem dX7_set_18 : decode cX7_set 18 = .ok (.ireturn, 1) := by decide +kernel
theorem dX7_set_19 : decode cX7_set 19 = .ok (.iload_n 2, 1) := by decide +kernel
theorem dX7_set_20 : decode cX7_set 20 = .ok (.iconst 0, 1) := by decide +kernel
theorem dX7_set_21 : decode cX7_set 21 = .ok (.aload_n 0, 1) := by decide +kernel
theorem dX7_set_22 : decode cX7_set 22 = .ok (.getfield 13, 3) := by decide +kernel
theorem dX7_set_25 : decode cX7_set 25 = .ok (.iload_n 1, 1) := by decide +kernel
theorem dX7_set_26 : decode cX7_set 26 = .ok (.iaload, 1) := by decide +kernel
theorem dX7_set_27 : decode cX7_set 27 = .ok (.iconst 1, 1) := by decide +kernel
theorem dX7_set_28 : decode cX7_set 28 = .ok (.isub, 1) := by decide +kernel
theorem dX7_set_29 : decode cX7_set 29 = .ok (.invokestatic 88, 3) := by decide +kernel
theorem dX7_set_32 : decode cX7_set 32 = .ok (.ifCond .ne 10, 3) := by decide +kernel
theorem dX7_set_35 : decode cX7_set 35 = .ok (.aload_n 0, 1) := by decide +kernel
theorem dX7_set_36 : decode cX7_set 36 = .ok (.bipush (-5), 2) := by decide +kernel
theorem dX7_set_38 : decode cX7_set 38 = .ok (.invokevirtual 81, 3) := by decide +kernel
theorem dX7_set_41 : decode cX7_set 41 = .ok (.ireturn, 1) := by decide +kernel
theorem dX7_set_42 : decode cX7_set 42 = .ok (.aload_n 0, 1) := by decide +kernel
theorem dX7_set_43 : decode cX7_set 43 = .ok (.getfield 7, 3) := by decide +kernel
theorem dX7_set_46 : decode cX7_set 46 = .ok (.iload_n 1, 1) := by decide +kernel
theorem dX7_set_47 : decode cX7_set 47 = .ok (.iaload, 1) := by decide +kernel
theorem dX7_set_48 : decode cX7_set 48 = .ok (.bipush 100, 2) := by decide +kernel
theorem dX7_set_50 : decode cX7_set 50 = .ok (.isub, 1) := by decide +kernel
theorem dX7_set_51 : decode cX7_set 51 = .ok (.istore 6, 2) := by decide +kernel
theorem dX7_set_53 : decode cX7_set 53 = .ok (.aload_n 0, 1) := by decide +kernel
theorem dX7_set_54 : decode cX7_set 54 = .ok (.getfield 16, 3) := by decide +kernel
theorem dX7_set_57 : decode cX7_set 57 = .ok (.sipush 160, 3) := by decide +kernel
theorem dX7_set_60 : decode cX7_set 60 = .ok (.iload_n 1, 1) := by decide +kernel
theorem dX7_set_61 : decode cX7_set 61 = .ok (.imul, 1) := by decide +kernel
theorem dX7_set_62 : decode cX7_set 62 = .ok (.iload_n 2, 1) := by decide +kernel
theorem dX7_set_63 : decode cX7_set 63 = .ok (.iadd, 1) := by decide +kernel
theorem dX7_set_64 : decode cX7_set 64 = .ok (.iload 6, 2) := by decide +kernel
theorem dX7_set_66 : decode cX7_set 66 = .ok (.ifCond .ne 10, 3) := by decide +kernel
theorem dX7_set_69 : decode cX7_set 69 = .ok (.lload_n 3, 1) := by decide +kernel
theorem dX7_set_70 : decode cX7_set 70 = .ok (.l2i, 1) := by decide +kernel
theorem dX7_set_71 : decode cX7_set 71 = .ok (.i2b, 1) := by decide +kernel
theorem dX7_set_72 : decode cX7_set 72 = .ok (.i2l, 1) := by decide +kernel
theorem dX7_set_73 : decode cX7_set 73 = .ok (.goto 29, 3) := by decide +kernel
theorem dX7_set_76 : decode cX7_set 76 = .ok (.iload 6, 2) := by decide +kernel
theorem dX7_set_78 : decode cX7_set 78 = .ok (.iconst 1, 1) := by decide +kernel
theorem dX7_set_79 : decode cX7_set 79 = .ok (.if_icmp .ne 10, 3) := by decide +kernel
theorem dX7_set_82 : decode cX7_set 82 = .ok (.lload_n 3, 1) := by decide +kernel
theorem dX7_set_83 : decode cX7_set 83 = .ok (.l2i, 1) := by decide +kernel
theorem dX7_set_84 : decode cX7_set 84 = .ok (.i2s, 1) := by decide +kernel
theorem dX7_set_85 : decode cX7_set 85 = .ok (.i2l, 1) := by decide +kernel
theorem dX7_set_86 : decode cX7_set 86 = .ok (.goto 16, 3) := by decide +kernel
theorem dX7_set_89 : decode cX7_set 89 = .ok (.iload 6, 2) := by decide +kernel
theorem dX7_set_91 : decode cX7_set 91 = .ok (.iconst 2, 1) := by decide +kernel
theorem dX7_set_92 : decode cX7_set 92 = .ok (.if_icmp .ne 9, 3) := by decide +kernel
theorem dX7_set_95 : decode cX7_set 95 = .ok (.lload_n 3, 1) := by decide +kernel
theorem dX7_set_96 : decode cX7_set 96 = .ok (.l2i, 1) := by decide +kernel
theorem dX7_set_97 : decode cX7_set 97 = .ok (.i2l, 1) := by decide +kernel
theorem dX7_set_98 : decode cX7_set 98 = .ok (.goto 4, 3) := by decide +kernel
theorem dX7_set_101 : decode cX7_set 101 = .ok (.lload_n 3, 1) := by decide +kernel
theorem dX7_set_102 : decode cX7_set 102 = .ok (.lastore, 1) := by decide +kernel
theorem dX7_set_103 : decode cX7_set 103 = .ok (.iconst 1, 1) := by decide +kernel
theorem dX7_set_104 : decode cX7_set 104 = .ok (.ireturn, 1) := by decide +kernel
theorem dX7_copy_0 : decode cX7_copy 0 = .ok (.iload_n 1, 1) := by decide +kernel
theorem dX7_copy_1 : decode cX7_copy 1 = .ok (.iconst 0, 1) := by decide +kernel
theorem dX7_copy_2 : decode cX7_copy 2 = .ok (.bipush 7, 2) := by decide +kernel
theorem dX7_copy_4 : decode cX7_copy 4 = .ok (.invokestatic 88, 3) := by decide +kernel
theorem dX7_copy_7 : decode cX7_copy 7 = .ok (.ifCond .eq 13, 3) := by decide +kernel
theorem dX7_copy_10 : decode cX7_copy 10 = .ok (.iload_n 2, 1) := by decide +kernel
theorem dX7_copy_11 : decode cX7_copy 11 = .ok (.iconst 0, 1) := by decide +kernel
theorem dX7_copy_12 : decode cX7_copy 12 = .ok (.bipush 7, 2) := by decide +kernel
theorem dX7_copy_14 : decode cX7_copy 14 = .ok (.invokestatic 88, 3) := by decide +kernel
theorem dX7_copy_17 : decode cX7_copy 17 = .ok (.ifCond .ne 9, 3) := by decide +kernel
theorem dX7_copy_20 : decode cX7_copy 20 = .ok (.aload_n 0, 1) := by decide +kernel
theorem dX7_copy_21 : decode cX7_copy 21 = .ok (.iconst (-1), 1) := by decide +kernel
theorem dX7_copy_22 : decode cX7_copy 22 = .ok (.invokevirtual 81, 3) := by decide +kernel
theorem dX7_copy_25 : decode cX7_copy 25 = .ok (.ireturn, 1) := by decide +kernel
theorem dX7_copy_26 : decode cX7_copy 26 = .ok (.aload_n 0, 1) := by decide +kernel
theorem dX7_copy_27 : decode cX7_copy 27 = .ok (.getfield 7, 3) := by decide +kernel
theorem dX7_copy_30 : decode cX7_copy 30 = .ok (.iload_n 1, 1) := by decide +kernel
theorem dX7_copy_31 : decode cX7_copy 31 = .ok (.iaload, 1) := by decide +kernel
theorem dX7_copy_32 : decode cX7_copy 32 = .ok (.ifCond .lt 11, 3) := by decide +kernel
theorem dX7_copy_35 : decode cX7_copy 35 = .ok (.aload_n 0, 1) := by decide +kernel
theorem dX7_copy_36 : decode cX7_copy 36 = .ok (.iload_n 1, 1) := by decide +kernel
theorem dX7_copy_37 : decode cX7_copy 37 = .ok (.invokevirtual 95, 3) := by decide +kernel
theorem dX7_copy_40 : decode cX7_copy 40 = .ok (.ifCond .eq 51, 3) := by decide +kernel
theorem dX7_copy_43 : decode cX7_copy 43 = .ok (.aload_n 0, 1) := by decide +kernel
theorem dX7_copy_44 : decode cX7_copy 44 = .ok (.getfield 7, 3) := by decide +kernel
theorem dX7_copy_47 : decode cX7_copy 47 = .ok (.iload_n 2, 1) := by decide +kernel
theorem dX7_copy_48 : decode cX7_copy 48 = .ok (.iaload, 1) := by decide +kernel
theorem dX7_copy_49 : decode cX7_copy 49 = .ok (.ifCond .lt 11, 3) := by decide +kernel
theorem dX7_copy_52 : decode cX7_copy 52 = .ok (.aload_n 0, 1) := by decide +kernel
theorem dX7_copy_53 : decode cX7_copy 53 = .ok (.iload_n 2, 1) := by decide +kernel
theorem dX7_copy_54 : decode cX7_copy 54 = .ok (.invokevirtual 95, 3) := by decide +kernel
theorem dX7_copy_57 : decode cX7_copy 57 = .ok (.ifCond .eq 34, 3) := by decide +kernel
theorem dX7_copy_60 : decode cX7_copy 60 = .ok (.aload_n 0, 1) := by decide +kernel
theorem dX7_copy_61 : decode cX7_copy 61 = .ok (.iload_n 1, 1) := by decide +kernel
theorem dX7_copy_62 : decode cX7_copy 62 = .ok (.invokevirtual 95, 3) := by decide +kernel
theorem dX7_copy_65 : decode cX7_copy 65 = .ok (.ifCond .eq 33, 3) := by decide +kernel
theorem dX7_copy_68 : decode cX7_copy 68 = .ok (.aload_n 0, 1) := by decide +kernel
theorem dX7_copy_69 : decode cX7_copy 69 = .ok (.iload_n 2, 1) := by decide +kernel
theorem dX7_copy_70 : decode cX7_copy 70 = .ok (.invokevirtual 95, 3) := by decide +kernel
theorem dX7_copy_73 : decode cX7_copy 73 = .ok (.ifCond .eq 25, 3) := by decide +kernel
theorem dX7_copy_76 : decode cX7_copy 76 = .ok (.aload_n 0, 1) := by decide +kernel
theorem dX7_copy_77 : decode cX7_copy 77 = .ok (.getfield 7, 3) := by decide +kernel
theorem dX7_copy_80 : decode cX7_copy 80 = .ok (.iload_n 1, 1) := by decide +kernel
theorem dX7_copy_81 : decode cX7_copy 81 = .ok (.iaload, 1) := by decide +kernel
theorem dX7_copy_82 : decode cX7_copy 82 = .ok (.aload_n 0, 1) := by decide +kernel
theorem dX7_copy_83 : decode cX7_copy 83 = .ok (.getfield 7, 3) := by decide +kernel
theorem dX7_copy_86 : decode cX7_copy 86 = .ok (.iload_n 2, 1) := by decide +kernel
theorem dX7_copy_87 : decode cX7_copy 87 = .ok (.iaload, 1) := by decide +kernel
theorem dX7_copy_88 : decode cX7_copy 88 = .ok (.if_icmp .eq 10, 3) := by decide +kernel
theorem dX7_copy_91 : decode cX7_copy 91 = .ok (.aload_n 0, 1) := by decide +kernel
theorem dX7_copy_92 : decode cX7_copy 92 = .ok (.bipush (-2), 2) := by decide +kernel
theorem dX7_copy_94 : decode cX7_copy 94 = .ok (.invokevirtual 81, 3) := by decide +kernel
theorem dX7_copy_97 : decode cX7_copy 97 = .ok (.ireturn, 1) := by decide +kernel
theorem dX7_copy_98 : decode cX7_copy 98 = .ok (.aload_n 0, 1) := by decide +kernel
theorem dX7_copy_99 : decode cX7_copy 99 = .ok (.getfield 7, 3) := by decide +kernel
theorem dX7_copy_102 : decode cX7_copy 102 = .ok (.iload_n 1, 1) := by decide +kernel
theorem dX7_copy_103 : decode cX7_copy 103 = .ok (.iaload, 1) := by decide +kernel
theorem dX7_copy_104 : decode cX7_copy 104 = .ok (.ifCond .lt 12, 3) := by decide +kernel
theorem dX7_copy_107 : decode cX7_copy 107 = .ok (.aload_n 0, 1) := by decide +kernel
theorem dX7_copy_108 : decode cX7_copy 108 = .ok (.getfield 7, 3) := by decide +kernel
theorem dX7_copy_111 : decode cX7_copy 111 = .ok (.iload_n 2, 1) := by decide +kernel
theorem dX7_copy_112 : decode cX7_copy 112 = .ok (.iaload, 1) := by decide +kernel
theorem dX7_copy_113 : decode cX7_copy 113 = .ok (.ifCond .ge 10, 3) := by decide +kernel
theorem dX7_copy_116 : decode cX7_copy 116 = .ok (.aload_n 0, 1) := by decide +kernel
theorem dX7_copy_117 : decode cX7_copy 117 = .ok (.bipush (-3), 2) := by decide +kernel
theorem dX7_copy_119 : decode cX7_copy 119 = .ok (.invokevirtual 81, 3) := by decide +kernel
theorem dX7_copy_122 : decode cX7_copy 122 = .ok (.ireturn, 1) := by decide +kernel
theorem dX7_copy_123 : decode cX7_copy 123 = .ok (.iload 5, 2) := by decide +kernel
theorem dX7_copy_125 : decode cX7_copy 125 = .ok (.ifCond .ge 10, 3) := by decide +kernel
theorem dX7_copy_128 : decode cX7_copy 128 = .ok (.aload_n 0, 1) := by decide +kernel
theorem dX7_copy_129 : decode cX7_copy 129 = .ok (.bipush (-4), 2) := by decide +kernel
theorem dX7_copy_131 : decode cX7_copy 131 = .ok (.invokevirtual 81, 3) := by decide +kernel
theorem dX7_copy_134 : decode cX7_copy 134 = .ok (.ireturn, 1) := by decide +kernel
theorem dX7_copy_135 : decode cX7_copy 135 = .ok (.iload_n 3, 1) := by decide +kernel
theorem dX7_copy_136 : decode cX7_copy 136 = .ok (.ifCond .lt 43, 3) := by decide +kernel
theorem dX7_copy_139 : decode cX7_copy 139 = .ok (.iload 4, 2) := by decide +kernel
theorem dX7_copy_141 : decode cX7_copy 141 = .ok (.ifCond .lt 38, 3) := by decide +kernel
theorem dX7_copy_144 : decode cX7_copy 144 = .ok (.iload_n 3, 1) := by decide +kernel
theorem dX7_copy_145 : decode cX7_copy 145 = .ok (.i2l, 1) := by decide +kernel
theorem dX7_copy_146 : decode cX7_copy 146 = .ok (.iload 5, 2) := by decide +kernel
theorem dX7_copy_148 : decode cX7_copy 148 = .ok (.i2l, 1) := by decide +kernel
theorem dX7_copy_149 : decode cX7_copy 149 = .ok (.ladd, 1) := by decide +kernel
theorem dX7_copy_150 : decode cX7_copy 150 = .ok (.aload_n 0, 1) := by decide +kernel
theorem dX7_copy_151 : decode cX7_copy 151 = .ok (.getfield 13, 3) := by decide +kernel
theorem dX7_copy_154 : decode cX7_copy 154 = .ok (.iload_n 1, 1) := by decide +kernel
theorem dX7_copy_155 : decode cX7_copy 155 = .ok (.iaload, 1) := by decide +kernel
theorem dX7_copy_156 : decode cX7_copy 156 = .ok (.i2l, 1) := by decide +kernel
theorem dX7_copy_157 : decode cX7_copy 157 = .ok (.lcmp, 1) := by decide +kernel
theorem dX7_copy_158 : decode cX7_copy 158 = .ok (.ifCond .gt 21, 3) := by decide +kernel
theorem dX7_copy_161 : decode cX7_copy 161 = .ok (.iload 4, 2) := by decide +kernel
theorem dX7_copy_163 : decode cX7_copy 163 = .ok (.i2l, 1) := by decide +kernel
theorem dX7_copy_164 : decode cX7_copy 164 = .ok (.iload 5, 2) := by decide +kernel
theorem dX7_copy_166 : decode cX7_copy 166 = .ok (.i2l, 1) := by decide +kernel
theorem dX7_copy_167 : decode cX7_copy 167 = .ok (.ladd, 1) := by decide +kernel
theorem dX7_copy_168 : decode cX7_copy 168 = .ok (.aload_n 0, 1) := by decide +kernel
theorem dX7_copy_169 : decode cX7_copy 169 = .ok (.getfield 13, 3) := by decide +kernel
theorem dX7_copy_172 : decode cX7_copy 172 = .ok (.iload_n 2, 1) := by decide +kernel
theorem dX7_copy_173 : decode cX7_copy 173 = .ok (.iaload, 1) := by decide +kernel
theorem dX7_copy_174 : decode cX7_copy 174 = .ok (.i2l, 1) := by decide +kernel
theorem dX7_copy_175 : decode cX7_copy 175 = .ok (.lcmp, 1) := by decide +kernel
theorem dX7_copy_176 : decode cX7_copy 176 = .ok (.ifCond .le 10, 3) := by decide +kernel
theorem dX7_copy_179 : decode cX7_copy 179 = .ok (.aload_n 0, 1) := by decide +kernel
theorem dX7_copy_180 : decode cX7_copy 180 = .ok (.bipush (-5), 2) := by decide +kernel
theorem dX7_copy_182 : decode cX7_copy 182 = .ok (.invokevirtual 81, 3) := by decide +kernel
theorem dX7_copy_185 : decode cX7_copy 185 = .ok (.ireturn, 1) := by decide +kernel
theorem dX7_copy_186 : decode cX7_copy 186 = .ok (.iload_n 1, 1) := by decide +kernel
theorem dX7_copy_187 : decode cX7_copy 187 = .ok (.iload_n 2, 1) := by decide +kernel
theorem dX7_copy_188 : decode cX7_copy 188 = .ok (.if_icmp .ne 60, 3) := by decide +kernel
theorem dX7_copy_191 : decode cX7_copy 191 = .ok (.iload_n 3, 1) := by decide +kernel
theorem dX7_copy_192 : decode cX7_copy 192 = .ok (.iload 4, 2) := by decide +kernel
theorem dX7_copy_194 : decode cX7_copy 194 = .ok (.if_icmp .ge 54, 3) := by decide +kernel
theorem dX7_copy_197 : decode cX7_copy 197 = .ok (.iload 5, 2) := by decide +kernel
theorem dX7_copy_199 : decode cX7_copy 199 = .ok (.iconst 1, 1) := by decide +kernel
theorem dX7_copy_200 : decode cX7_copy 200 = .ok (.isub, 1) := by decide +kernel
theorem dX7_copy_201 : decode cX7_copy 201 = .ok (.istore 6, 2) := by decide +kernel
theorem dX7_copy_203 : decode cX7_copy 203 = .ok (.iload 6, 2) := by decide +kernel
theorem dX7_copy_205 : decode cX7_copy 205 = .ok (.ifCond .lt 40, 3) := by decide +kernel
theorem dX7_copy_208 : decode cX7_copy 208 = .ok (.aload_n 0, 1) := by decide +kernel
theorem dX7_copy_209 : decode cX7_copy 209 = .ok (.getfield 16, 3) := by decide +kernel
theorem dX7_copy_212 : decode cX7_copy 212 = .ok (.sipush 160, 3) := by decide +kernel
theorem dX7_copy_215 : decode cX7_copy 215 = .ok (.iload_n 2, 1) := by decide +kernel
theorem dX7_copy_216 : decode cX7_copy 216 = .ok (.imul, 1) := by decide +kernel
theorem dX7_copy_217 : decode cX7_copy 217 = .ok (.iload 4, 2) := by decide +kernel
theorem dX7_copy_219 : decode cX7_copy 219 = .ok (.iadd, 1) := by decide +kernel
theorem dX7_copy_220 : decode cX7_copy 220 = .ok (.iload 6, 2) := by decide +kernel
theorem dX7_copy_222 : decode cX7_copy 222 = .ok (.iadd, 1) := by decide +kernel
theorem dX7_copy_223 : decode cX7_copy 223 = .ok (.aload_n 0, 1) := by decide +kernel
theorem dX7_copy_224 : decode cX7_copy 224 = .ok (.getfield 16, 3) := by decide +kernel
theorem dX7_copy_227 : decode cX7_copy 227 = .ok (.sipush 160, 3) := by decide +kernel
theorem dX7_copy_230 : decode cX7_copy 230 = .ok (.iload_n 1, 1) := by decide +kernel
theorem dX7_copy_231 : decode cX7_copy 231 = .ok (.imul, 1) := by decide +kernel
theorem dX7_copy_232 : decode cX7_copy 232 = .ok (.iload_n 3, 1) := by decide +kernel
theorem dX7_copy_233 : decode cX7_copy 233 = .ok (.iadd, 1) := by decide +kernel
theorem dX7_copy_234 : decode cX7_copy 234 = .ok (.iload 6, 2) := by decide +kernel
theorem dX7_copy_236 : decode cX7_copy 236 = .ok (.iadd, 1) := by decide +kernel
theorem dX7_copy_237 : decode cX7_copy 237 = .ok (.laload, 1) := by decide +kernel
theorem dX7_copy_238 : decode cX7_copy 238 = .ok (.lastore, 1) := by decide +kernel
theorem dX7_copy_239 : decode cX7_copy 239 = .ok (.iinc 6 (-1), 3) := by decide +kernel
theorem dX7_copy_242 : decode cX7_copy 242 = .ok (.goto (-39), 3) := by decide +kernel
theorem dX7_copy_245 : decode cX7_copy 245 = .ok (.goto 50, 3) := by decide +kernel
theorem dX7_copy_248 : decode cX7_copy 248 = .ok (.iconst 0, 1) := by decide +kernel
theorem dX7_copy_249 : decode cX7_copy 249 = .ok (.istore 6, 2) := by decide +kernel
theorem dX7_copy_251 : decode cX7_copy 251 = .ok (.iload 6, 2) := by decide +kernel
theorem dX7_copy_253 : decode cX7_copy 253 = .ok (.iload 5, 2) := by decide +kernel
theorem dX7_copy_255 : decode cX7_copy 255 = .ok (.if_icmp .ge 40, 3) := by decide +kernel
theorem dX7_copy_258 : decode cX7_copy 258 = .ok (.aload_n 0, 1) := by decide +kernel
theorem dX7_copy_259 : decode cX7_copy 259 = .ok (.getfield 16, 3) := by decide +kernel
theorem dX7_copy_262 : decode cX7_copy 262 = .ok (.sipush 160, 3) := by decide +kernel
theorem dX7_copy_265 : decode cX7_copy 265 = .ok (.iload_n 2, 1) := by decide +kernel
theorem dX7_copy_266 : decode cX7_copy 266 = .ok (.imul, 1) := by decide +kernel
theorem dX7_copy_267 : decode cX7_copy 267 = .ok (.iload 4, 2) := by decide +kernel
theorem dX7_copy_269 : decode cX7_copy 269 = .ok (.iadd, 1) := by decide +kernel
theorem dX7_copy_270 : decode cX7_copy 270 = .ok (.iload 6, 2) := by decide +kernel
theorem dX7_copy_272 : decode cX7_copy 272 = .ok (.iadd, 1) := by decide +kernel
theorem dX7_copy_273 : decode cX7_copy 273 = .ok (.aload_n 0, 1) := by decide +kernel
theorem dX7_copy_274 : decode cX7_copy 274 = .ok (.getfield 16, 3) := by decide +kernel
theorem dX7_copy_277 : decode cX7_copy 277 = .ok (.sipush 160, 3) := by decide +kernel
theorem dX7_copy_280 : decode cX7_copy 280 = .ok (.iload_n 1, 1) := by decide +kernel
theorem dX7_copy_281 : decode cX7_copy 281 = .ok (.imul, 1) := by decide +kernel
theorem dX7_copy_282 : decode cX7_copy 282 = .ok (.iload_n 3, 1) := by decide +kernel
theorem dX7_copy_283 : decode cX7_copy 283 = .ok (.iadd, 1) := by decide +kernel
theorem dX7_copy_284 : decode cX7_copy 284 = .ok (.iload 6, 2) := by decide +kernel
theorem dX7_copy_286 : decode cX7_copy 286 = .ok (.iadd, 1) := by decide +kernel
theorem dX7_copy_287 : decode cX7_copy 287 = .ok (.laload, 1) := by decide +kernel
theorem dX7_copy_288 : decode cX7_copy 288 = .ok (.lastore, 1) := by decide +kernel
theorem dX7_copy_289 : decode cX7_copy 289 = .ok (.iinc 6 1, 3) := by decide +kernel
theorem dX7_copy_292 : decode cX7_copy 292 = .ok (.goto (-41), 3) := by decide +kernel
theorem dX7_copy_295 : decode cX7_copy 295 = .ok (.iconst 1, 1) := by decide +kernel
theorem dX7_copy_296 : decode cX7_copy 296 = .ok (.ireturn, 1) := by decide +kernel
theorem dX7_element_0 : decode cX7_element 0 = .ok (.iload_n 1, 1) := by decide +kernel
theorem dX7_element_1 : decode cX7_element 1 = .ok (.iconst 0, 1) := by decide +kernel
theorem dX7_element_2 : decode cX7_element 2 = .ok (.bipush 7, 2) := by decide +kernel
theorem dX7_element_4 : decode cX7_element 4 = .ok (.invokestatic 88, 3) := by decide +kernel
theorem dX7_element_7 : decode cX7_element 7 = .ok (.ifCond .eq 42, 3) := by decide +kernel
theorem dX7_element_10 : decode cX7_element 10 = .ok (.aload_n 0, 1) := by decide +kernel
theorem dX7_element_11 : decode cX7_element 11 = .ok (.iload_n 1, 1) := by decide +kernel
theorem dX7_element_12 : decode cX7_element 12 = .ok (.invokevirtual 95, 3) := by decide +kernel
theorem dX7_element_15 : decode cX7_element 15 = .ok (.ifCond .eq 34, 3) := by decide +kernel
theorem dX7_element_18 : decode cX7_element 18 = .ok (.iload_n 2, 1) := by decide +kernel
theorem dX7_element_19 : decode cX7_element 19 = .ok (.iconst 0, 1) := by decide +kernel
theorem dX7_element_20 : decode cX7_element 20 = .ok (.aload_n 0, 1) := by decide +kernel
theorem dX7_element_21 : decode cX7_element 21 = .ok (.getfield 13, 3) := by decide +kernel
theorem dX7_element_24 : decode cX7_element 24 = .ok (.iload_n 1, 1) := by decide +kernel
theorem dX7_element_25 : decode cX7_element 25 = .ok (.iaload, 1) := by decide +kernel
theorem dX7_element_26 : decode cX7_element 26 = .ok (.iconst 1, 1) := by decide +kernel
theorem dX7_element_27 : decode cX7_element 27 = .ok (.isub, 1) := by decide +kernel
theorem dX7_element_28 : decode cX7_element 28 = .ok (.invokestatic 88, 3) := by decide +kernel
theorem dX7_element_31 : decode cX7_element 31 = .ok (.ifCond .eq 18, 3) := by decide +kernel
theorem dX7_element_34 : decode cX7_element 34 = .ok (.aload_n 0, 1) := by decide +kernel
theorem dX7_element_35 : decode cX7_element 35 = .ok (.getfield 16, 3) := by decide +kernel
theorem dX7_element_38 : decode cX7_element 38 = .ok (.sipush 160, 3) := by decide +kernel
theorem dX7_element_41 : decode cX7_element 41 = .ok (.iload_n 1, 1) := by decide +kernel
theorem dX7_element_42 : decode cX7_element 42 = .ok (.imul, 1) := by decide +kernel
theorem dX7_element_43 : decode cX7_element 43 = .ok (.iload_n 2, 1) := by decide +kernel
theorem dX7_element_44 : decode cX7_element 44 = .ok (.iadd, 1) := by decide +kernel
theorem dX7_element_45 : decode cX7_element 45 = .ok (.laload, 1) := by decide +kernel
theorem dX7_element_46 : decode cX7_element 46 = .ok (.goto 4, 3) := by decide +kernel
theorem dX7_element_49 : decode cX7_element 49 = .ok (.lconst 0, 1) := by decide +kernel
theorem dX7_element_50 : decode cX7_element 50 = .ok (.lreturn, 1) := by decide +kernel
theorem dX7_show_0 : decode cX7_show 0 = .ok (.iload_n 1, 1) := by decide +kernel
theorem dX7_show_1 : decode cX7_show 1 = .ok (.iconst 0, 1) := by decide +kernel
theorem dX7_show_2 : decode cX7_show 2 = .ok (.bipush 7, 2) := by decide +kernel
theorem dX7_show_4 : decode cX7_show 4 = .ok (.invokestatic 88, 3) := by decide +kernel
theorem dX7_show_7 : decode cX7_show 7 = .ok (.ifCond .eq 16, 3) := by decide +kernel
theorem dX7_show_10 : decode cX7_show 10 = .ok (.iload_n 2, 1) := by decide +kernel
theorem dX7_show_11 : decode cX7_show 11 = .ok (.iconst (-1), 1) := by decide +kernel
theorem dX7_show_12 : decode cX7_show 12 = .ok (.if_icmp .eq 17, 3) := by decide +kernel
theorem dX7_show_15 : decode cX7_show 15 = .ok (.aload_n 0, 1) := by decide +kernel
theorem dX7_show_16 : decode cX7_show 16 = .ok (.iload_n 2, 1) := by decide +kernel
theorem dX7_show_17 : decode cX7_show 17 = .ok (.invokevirtual 102, 3) := by decide +kernel
theorem dX7_show_20 : decode cX7_show 20 = .ok (.ifCond .ne 9, 3) := by decide +kernel
theorem dX7_show_23 : decode cX7_show 23 = .ok (.aload_n 0, 1) := by decide +kernel
theorem dX7_show_24 : decode cX7_show 24 = .ok (.iconst (-1), 1) := by decide +kernel
theorem dX7_show_25 : decode cX7_show 25 = .ok (.invokevirtual 81, 3) := by decide +kernel
theorem dX7_show_28 : decode cX7_show 28 = .ok (.ireturn, 1) := by decide +kernel
theorem dX7_show_29 : decode cX7_show 29 = .ok (.aload_n 0, 1) := by decide +kernel
theorem dX7_show_30 : decode cX7_show 30 = .ok (.getfield 7, 3) := by decide +kernel
theorem dX7_show_33 : decode cX7_show 33 = .ok (.iload_n 1, 1) := by decide +kernel
theorem dX7_show_34 : decode cX7_show 34 = .ok (.iload_n 2, 1) := by decide +kernel
theorem dX7_show_35 : decode cX7_show 35 = .ok (.iastore, 1) := by decide +kernel
theorem dX7_show_36 : decode cX7_show 36 = .ok (.iload_n 2, 1) := by decide +kernel
theorem dX7_show_37 : decode cX7_show 37 = .ok (.iconst (-1), 1) := by decide +kernel
theorem dX7_show_38 : decode cX7_show 38 = .ok (.if_icmp .ne 7, 3) := by decide +kernel
theorem dX7_show_41 : decode cX7_show 41 = .ok (.iconst 0, 1) := by decide +kernel
theorem dX7_show_42 : decode cX7_show 42 = .ok (.goto 4, 3) := by decide +kernel
theorem dX7_show_45 : decode cX7_show 45 = .ok (.iconst 1, 1) := by decide +kernel
theorem dX7_show_46 : decode cX7_show 46 = .ok (.ireturn, 1) := by decide +kernel
theorem dX7_holds_0 : decode cX7_holds 0 = .ok (.iload_n 1, 1) := by decide +kernel
theorem dX7_holds_1 : decode cX7_holds 1 = .ok (.iconst 0, 1) := by decide +kernel
theorem dX7_holds_2 : decode cX7_holds 2 = .ok (.bipush 7, 2) := by decide +kernel
theorem dX7_holds_4 : decode cX7_holds 4 = .ok (.invokestatic 88, 3) := by decide +kernel
theorem dX7_holds_7 : decode cX7_holds 7 = .ok (.ifCond .eq 12, 3) := by decide +kernel
theorem dX7_holds_10 : decode cX7_holds 10 = .ok (.aload_n 0, 1) := by decide +kernel
theorem dX7_holds_11 : decode cX7_holds 11 = .ok (.getfield 7, 3) := by decide +kernel
theorem dX7_holds_14 : decode cX7_holds 14 = .ok (.iload_n 1, 1) := by decide +kernel
theorem dX7_holds_15 : decode cX7_holds 15 = .ok (.iaload, 1) := by decide +kernel
theorem dX7_holds_16 : decode cX7_holds 16 = .ok (.goto 4, 3) := by decide +kernel
theorem dX7_holds_19 : decode cX7_holds 19 = .ok (.iconst (-1), 1) := by decide +kernel
theorem dX7_holds_20 : decode cX7_holds 20 = .ok (.ireturn, 1) := by decide +kernel
theorem dX7_above_0 : decode cX7_above 0 = .ok (.iload_n 0, 1) := by decide +kernel
theorem dX7_above_1 : decode cX7_above 1 = .ok (.iconst 3, 1) := by decide +kernel
theorem dX7_above_2 : decode cX7_above 2 = .ok (.if_icmp .ne 7, 3) := by decide +kernel
theorem dX7_above_5 : decode cX7_above 5 = .ok (.iconst 1, 1) := by decide +kernel
theorem dX7_above_6 : decode cX7_above 6 = .ok (.goto 23, 3) := by decide +kernel
theorem dX7_above_9 : decode cX7_above 9 = .ok (.iload_n 0, 1) := by decide +kernel
theorem dX7_above_10 : decode cX7_above 10 = .ok (.iconst 5, 1) := by decide +kernel
theorem dX7_above_11 : decode cX7_above 11 = .ok (.if_icmp .ne 7, 3) := by decide +kernel
theorem dX7_above_14 : decode cX7_above 14 = .ok (.iconst 2, 1) := by decide +kernel
theorem dX7_above_15 : decode cX7_above 15 = .ok (.goto 14, 3) := by decide +kernel
theorem dX7_above_18 : decode cX7_above 18 = .ok (.iload_n 0, 1) := by decide +kernel
theorem dX7_above_19 : decode cX7_above 19 = .ok (.bipush 6, 2) := by decide +kernel
theorem dX7_above_21 : decode cX7_above 21 = .ok (.if_icmp .ne 7, 3) := by decide +kernel
theorem dX7_above_24 : decode cX7_above 24 = .ok (.iconst 4, 1) := by decide +kernel
theorem dX7_above_25 : decode cX7_above 25 = .ok (.goto 4, 3) := by decide +kernel
theorem dX7_above_28 : decode cX7_above 28 = .ok (.iconst 0, 1) := by decide +kernel
theorem dX7_above_29 : decode cX7_above 29 = .ok (.ireturn, 1) := by decide +kernel
theorem dX7_isUnder_0 : decode cX7_isUnder 0 = .ok (.iload_n 0, 1) := by decide +kernel
theorem dX7_isUnder_1 : decode cX7_isUnder 1 = .ok (.istore_n 2, 1) := by decide +kernel
theorem dX7_isUnder_2 : decode cX7_isUnder 2 = .ok (.iload_n 2, 1) := by decide +kernel
theorem dX7_isUnder_3 : decode cX7_isUnder 3 = .ok (.iload_n 1, 1) := by decide +kernel
theorem dX7_isUnder_4 : decode cX7_isUnder 4 = .ok (.if_icmp .eq 15, 3) := by decide +kernel
theorem dX7_isUnder_7 : decode cX7_isUnder 7 = .ok (.iload_n 2, 1) := by decide +kernel
theorem dX7_isUnder_8 : decode cX7_isUnder 8 = .ok (.ifCond .le 11, 3) := by decide +kernel
theorem dX7_isUnder_11 : decode cX7_isUnder 11 = .ok (.iload_n 2, 1) := by decide +kernel
theorem dX7_isUnder_12 : decode cX7_isUnder 12 = .ok (.invokestatic 105, 3) := by decide +kernel
theorem dX7_isUnder_15 : decode cX7_isUnder 15 = .ok (.istore_n 2, 1) := by decide +kernel
theorem dX7_isUnder_16 : decode cX7_isUnder 16 = .ok (.goto (-14), 3) := by decide +kernel
theorem dX7_isUnder_19 : decode cX7_isUnder 19 = .ok (.iload_n 2, 1) := by decide +kernel
theorem dX7_isUnder_20 : decode cX7_isUnder 20 = .ok (.iload_n 1, 1) := by decide +kernel
theorem dX7_isUnder_21 : decode cX7_isUnder 21 = .ok (.if_icmp .ne 7, 3) := by decide +kernel
theorem dX7_isUnder_24 : decode cX7_isUnder 24 = .ok (.iconst 1, 1) := by decide +kernel
theorem dX7_isUnder_25 : decode cX7_isUnder 25 = .ok (.goto 4, 3) := by decide +kernel
theorem dX7_isUnder_28 : decode cX7_isUnder 28 = .ok (.iconst 0, 1) := by decide +kernel
theorem dX7_isUnder_29 : decode cX7_isUnder 29 = .ok (.ireturn, 1) := by decide +kernel
theorem dX7_says_0 : decode cX7_says 0 = .ok (.iload_n 1, 1) := by decide +kernel
theorem dX7_says_1 : decode cX7_says 1 = .ok (.iconst 0, 1) := by decide +kernel
theorem dX7_says_2 : decode cX7_says 2 = .ok (.bipush 7, 2) := by decide +kernel
theorem dX7_says_4 : decode cX7_says 4 = .ok (.invokestatic 88, 3) := by decide +kernel
theorem dX7_says_7 : decode cX7_says 7 = .ok (.ifCond .eq 13, 3) := by decide +kernel
theorem dX7_says_10 : decode cX7_says 10 = .ok (.iload_n 2, 1) := by decide +kernel
theorem dX7_says_11 : decode cX7_says 11 = .ok (.iconst 0, 1) := by decide +kernel
theorem dX7_says_12 : decode cX7_says 12 = .ok (.bipush 6, 2) := by decide +kernel
theorem dX7_says_14 : decode cX7_says 14 = .ok (.invokestatic 88, 3) := by decide +kernel
theorem dX7_says_17 : decode cX7_says 17 = .ok (.ifCond .ne 9, 3) := by decide +kernel
theorem dX7_says_20 : decode cX7_says 20 = .ok (.aload_n 0, 1) := by decide +kernel
theorem dX7_says_21 : decode cX7_says 21 = .ok (.iconst (-1), 1) := by decide +kernel
theorem dX7_says_22 : decode cX7_says 22 = .ok (.invokevirtual 81, 3) := by decide +kernel
theorem dX7_says_25 : decode cX7_says 25 = .ok (.ireturn, 1) := by decide +kernel
theorem dX7_says_26 : decode cX7_says 26 = .ok (.aload_n 0, 1) := by decide +kernel
theorem dX7_says_27 : decode cX7_says 27 = .ok (.getfield 7, 3) := by decide +kernel
theorem dX7_says_30 : decode cX7_says 30 = .ok (.iload_n 1, 1) := by decide +kernel
theorem dX7_says_31 : decode cX7_says 31 = .ok (.iaload, 1) := by decide +kernel
theorem dX7_says_32 : decode cX7_says 32 = .ok (.istore_n 3, 1) := by decide +kernel
theorem dX7_says_33 : decode cX7_says 33 = .ok (.iload_n 3, 1) := by decide +kernel
theorem dX7_says_34 : decode cX7_says 34 = .ok (.ifCond .lt 31, 3) := by decide +kernel
theorem dX7_says_37 : decode cX7_says 37 = .ok (.aload_n 0, 1) := by decide +kernel
theorem dX7_says_38 : decode cX7_says 38 = .ok (.iload_n 1, 1) := by decide +kernel
theorem dX7_says_39 : decode cX7_says 39 = .ok (.invokevirtual 95, 3) := by decide +kernel
theorem dX7_says_42 : decode cX7_says 42 = .ok (.ifCond .ne 16, 3) := by decide +kernel
theorem dX7_says_45 : decode cX7_says 45 = .ok (.aload_n 0, 1) := by decide +kernel
theorem dX7_says_46 : decode cX7_says 46 = .ok (.getfield 20, 3) := by decide +kernel
theorem dX7_says_49 : decode cX7_says 49 = .ok (.iload_n 3, 1) := by decide +kernel
theorem dX7_says_50 : decode cX7_says 50 = .ok (.iaload, 1) := by decide +kernel
theorem dX7_says_51 : decode cX7_says 51 = .ok (.iload_n 2, 1) := by decide +kernel
theorem dX7_says_52 : decode cX7_says 52 = .ok (.invokestatic 108, 3) := by decide +kernel
theorem dX7_says_55 : decode cX7_says 55 = .ok (.ifCond .ne 10, 3) := by decide +kernel
theorem dX7_says_58 : decode cX7_says 58 = .ok (.aload_n 0, 1) := by decide +kernel
theorem dX7_says_59 : decode cX7_says 59 = .ok (.bipush (-2), 2) := by decide +kernel
theorem dX7_says_61 : decode cX7_says 61 = .ok (.invokevirtual 81, 3) := by decide +kernel
theorem dX7_says_64 : decode cX7_says 64 = .ok (.ireturn, 1) := by decide +kernel
theorem dX7_says_65 : decode cX7_says 65 = .ok (.iload_n 3, 1) := by decide +kernel
theorem dX7_says_66 : decode cX7_says 66 = .ok (.ifCond .ge 10, 3) := by decide +kernel
theorem dX7_says_69 : decode cX7_says 69 = .ok (.aload_n 0, 1) := by decide +kernel
theorem dX7_says_70 : decode cX7_says 70 = .ok (.bipush (-3), 2) := by decide +kernel
theorem dX7_says_72 : decode cX7_says 72 = .ok (.invokevirtual 81, 3) := by decide +kernel
theorem dX7_says_75 : decode cX7_says 75 = .ok (.ireturn, 1) := by decide +kernel
theorem dX7_says_76 : decode cX7_says 76 = .ok (.iload_n 2, 1) := by decide +kernel
theorem dX7_says_77 : decode cX7_says 77 = .ok (.lookupswitch 51 #[(0, 35), (4, 41), (6, 41)], 35) := by decide +kernel
theorem dX7_says_112 : decode cX7_says 112 = .ok (.aload_n 0, 1) := by decide +kernel
theorem dX7_says_113 : decode cX7_says 113 = .ok (.iload_n 3, 1) := by decide +kernel
theorem dX7_says_114 : decode cX7_says 114 = .ok (.invokevirtual 112, 3) := by decide +kernel
theorem dX7_says_117 : decode cX7_says 117 = .ok (.ireturn, 1) := by decide +kernel
theorem dX7_says_118 : decode cX7_says 118 = .ok (.aload_n 0, 1) := by decide +kernel
theorem dX7_says_119 : decode cX7_says 119 = .ok (.iload_n 3, 1) := by decide +kernel
theorem dX7_says_120 : decode cX7_says 120 = .ok (.iconst 0, 1) := by decide +kernel
theorem dX7_says_121 : decode cX7_says 121 = .ok (.iconst 5, 1) := by decide +kernel
theorem dX7_says_122 : decode cX7_says 122 = .ok (.bipush 100, 2) := by decide +kernel
theorem dX7_says_124 : decode cX7_says 124 = .ok (.invokevirtual 115, 3) := by decide +kernel
theorem dX7_says_127 : decode cX7_says 127 = .ok (.ireturn, 1) := by decide +kernel
theorem dX7_says_128 : decode cX7_says 128 = .ok (.aload_n 0, 1) := by decide +kernel
theorem dX7_says_129 : decode cX7_says 129 = .ok (.iload_n 3, 1) := by decide +kernel
theorem dX7_says_130 : decode cX7_says 130 = .ok (.iconst 1, 1) := by decide +kernel
theorem dX7_says_131 : decode cX7_says 131 = .ok (.iconst 5, 1) := by decide +kernel
theorem dX7_says_132 : decode cX7_says 132 = .ok (.bipush 100, 2) := by decide +kernel
theorem dX7_says_134 : decode cX7_says 134 = .ok (.invokevirtual 115, 3) := by decide +kernel
theorem dX7_says_137 : decode cX7_says 137 = .ok (.ireturn, 1) := by decide +kernel
theorem dX7_newQuestion_0 : decode cX7_newQuestion 0 = .ok (.aload_n 0, 1) := by decide +kernel
theorem dX7_newQuestion_1 : decode cX7_newQuestion 1 = .ok (.getfield 20, 3) := by decide +kernel
theorem dX7_newQuestion_4 : decode cX7_newQuestion 4 = .ok (.aload_n 0, 1) := by decide +kernel
theorem dX7_newQuestion_5 : decode cX7_newQuestion 5 = .ok (.getfield 85, 3) := by decide +kernel
theorem dX7_newQuestion_8 : decode cX7_newQuestion 8 = .ok (.iload_n 1, 1) := by decide +kernel
theorem dX7_newQuestion_9 : decode cX7_newQuestion 9 = .ok (.iastore, 1) := by decide +kernel
theorem dX7_newQuestion_10 : decode cX7_newQuestion 10 = .ok (.aload_n 0, 1) := by decide +kernel
theorem dX7_newQuestion_11 : decode cX7_newQuestion 11 = .ok (.getfield 23, 3) := by decide +kernel
theorem dX7_newQuestion_14 : decode cX7_newQuestion 14 = .ok (.aload_n 0, 1) := by decide +kernel
theorem dX7_newQuestion_15 : decode cX7_newQuestion 15 = .ok (.getfield 85, 3) := by decide +kernel
theorem dX7_newQuestion_18 : decode cX7_newQuestion 18 = .ok (.iload_n 2, 1) := by decide +kernel
theorem dX7_newQuestion_19 : decode cX7_newQuestion 19 = .ok (.iastore, 1) := by decide +kernel
theorem dX7_newQuestion_20 : decode cX7_newQuestion 20 = .ok (.iconst 0, 1) := by decide +kernel
theorem dX7_newQuestion_21 : decode cX7_newQuestion 21 = .ok (.istore_n 3, 1) := by decide +kernel
theorem dX7_newQuestion_22 : decode cX7_newQuestion 22 = .ok (.iload_n 3, 1) := by decide +kernel
theorem dX7_newQuestion_23 : decode cX7_newQuestion 23 = .ok (.bipush 8, 2) := by decide +kernel
theorem dX7_newQuestion_25 : decode cX7_newQuestion 25 = .ok (.if_icmp .ge 39, 3) := by decide +kernel
theorem dX7_newQuestion_28 : decode cX7_newQuestion 28 = .ok (.aload_n 0, 1) := by decide +kernel
theorem dX7_newQuestion_29 : decode cX7_newQuestion 29 = .ok (.getfield 26, 3) := by decide +kernel
theorem dX7_newQuestion_32 : decode cX7_newQuestion 32 = .ok (.bipush 8, 2) := by decide +kernel
theorem dX7_newQuestion_34 : decode cX7_newQuestion 34 = .ok (.aload_n 0, 1) := by decide +kernel
theorem dX7_newQuestion_35 : decode cX7_newQuestion 35 = .ok (.getfield 85, 3) := by decide +kernel
theorem dX7_newQuestion_38 : decode cX7_newQuestion 38 = .ok (.imul, 1) := by decide +kernel
theorem dX7_newQuestion_39 : decode cX7_newQuestion 39 = .ok (.iload_n 3, 1) := by decide +kernel
theorem dX7_newQuestion_40 : decode cX7_newQuestion 40 = .ok (.iadd, 1) := by decide +kernel
theorem dX7_newQuestion_41 : decode cX7_newQuestion 41 = .ok (.iconst 0, 1) := by decide +kernel
theorem dX7_newQuestion_42 : decode cX7_newQuestion 42 = .ok (.iastore, 1) := by decide +kernel
theorem dX7_newQuestion_43 : decode cX7_newQuestion 43 = .ok (.aload_n 0, 1) := by decide +kernel
theorem dX7_newQuestion_44 : decode cX7_newQuestion 44 = .ok (.getfield 26, 3) := by decide +kernel
theorem dX7_newQuestion_47 : decode cX7_newQuestion 47 = .ok (.bipush 8, 2) := by decide +kernel
theorem dX7_newQuestion_49 : decode cX7_newQuestion 49 = .ok (.iload_n 3, 1) := by decide +kernel
theorem dX7_newQuestion_50 : decode cX7_newQuestion 50 = .ok (.imul, 1) := by decide +kernel
theorem dX7_newQuestion_51 : decode cX7_newQuestion 51 = .ok (.aload_n 0, 1) := by decide +kernel
theorem dX7_newQuestion_52 : decode cX7_newQuestion 52 = .ok (.getfield 85, 3) := by decide +kernel
theorem dX7_newQuestion_55 : decode cX7_newQuestion 55 = .ok (.iadd, 1) := by decide +kernel
theorem dX7_newQuestion_56 : decode cX7_newQuestion 56 = .ok (.iconst 0, 1) := by decide +kernel
theorem dX7_newQuestion_57 : decode cX7_newQuestion 57 = .ok (.iastore, 1) := by decide +kernel
theorem dX7_newQuestion_58 : decode cX7_newQuestion 58 = .ok (.iinc 3 1, 3) := by decide +kernel
theorem dX7_newQuestion_61 : decode cX7_newQuestion 61 = .ok (.goto (-39), 3) := by decide +kernel
theorem dX7_newQuestion_64 : decode cX7_newQuestion 64 = .ok (.aload_n 0, 1) := by decide +kernel
theorem dX7_newQuestion_65 : decode cX7_newQuestion 65 = .ok (.dup, 1) := by decide +kernel
theorem dX7_newQuestion_66 : decode cX7_newQuestion 66 = .ok (.getfield 85, 3) := by decide +kernel
theorem dX7_newQuestion_69 : decode cX7_newQuestion 69 = .ok (.dup_x1, 1) := by decide +kernel
theorem dX7_newQuestion_70 : decode cX7_newQuestion 70 = .ok (.iconst 1, 1) := by decide +kernel
theorem dX7_newQuestion_71 : decode cX7_newQuestion 71 = .ok (.iadd, 1) := by decide +kernel
theorem dX7_newQuestion_72 : decode cX7_newQuestion 72 = .ok (.putfield 85, 3) := by decide +kernel
theorem dX7_newQuestion_75 : decode cX7_newQuestion 75 = .ok (.ireturn, 1) := by decide +kernel
theorem dX7_question_0 : decode cX7_question 0 = .ok (.iload_n 1, 1) := by decide +kernel
theorem dX7_question_1 : decode cX7_question 1 = .ok (.iconst 0, 1) := by decide +kernel
theorem dX7_question_2 : decode cX7_question 2 = .ok (.bipush 6, 2) := by decide +kernel
theorem dX7_question_4 : decode cX7_question 4 = .ok (.invokestatic 88, 3) := by decide +kernel
theorem dX7_question_7 : decode cX7_question 7 = .ok (.ifCond .ne 9, 3) := by decide +kernel
theorem dX7_question_10 : decode cX7_question 10 = .ok (.aload_n 0, 1) := by decide +kernel
theorem dX7_question_11 : decode cX7_question 11 = .ok (.iconst (-1), 1) := by decide +kernel
theorem dX7_question_12 : decode cX7_question 12 = .ok (.invokevirtual 81, 3) := by decide +kernel
theorem dX7_question_15 : decode cX7_question 15 = .ok (.ireturn, 1) := by decide +kernel
theorem dX7_question_16 : decode cX7_question 16 = .ok (.iload_n 2, 1) := by decide +kernel
theorem dX7_question_17 : decode cX7_question 17 = .ok (.iconst 0, 1) := by decide +kernel
theorem dX7_question_18 : decode cX7_question 18 = .ok (.bipush 9, 2) := by decide +kernel
theorem dX7_question_20 : decode cX7_question 20 = .ok (.invokestatic 88, 3) := by decide +kernel
theorem dX7_question_23 : decode cX7_question 23 = .ok (.ifCond .ne 10, 3) := by decide +kernel
theorem dX7_question_26 : decode cX7_question 26 = .ok (.aload_n 0, 1) := by decide +kernel
theorem dX7_question_27 : decode cX7_question 27 = .ok (.bipush (-6), 2) := by decide +kernel
theorem dX7_question_29 : decode cX7_question 29 = .ok (.invokevirtual 81, 3) := by decide +kernel
theorem dX7_question_32 : decode cX7_question 32 = .ok (.ireturn, 1) := by decide +kernel
theorem dX7_question_33 : decode cX7_question 33 = .ok (.aload_n 0, 1) := by decide +kernel
theorem dX7_question_34 : decode cX7_question 34 = .ok (.getfield 85, 3) := by decide +kernel
theorem dX7_question_37 : decode cX7_question 37 = .ok (.bipush 8, 2) := by decide +kernel
theorem dX7_question_39 : decode cX7_question 39 = .ok (.if_icmp .ne 12, 3) := by decide +kernel
theorem dX7_question_42 : decode cX7_question 42 = .ok (.aload_n 0, 1) := by decide +kernel
theorem dX7_question_43 : decode cX7_question 43 = .ok (.bipush (-7), 2) := by decide +kernel
theorem dX7_question_45 : decode cX7_question 45 = .ok (.invokevirtual 81, 3) := by decide +kernel
theorem dX7_question_48 : decode cX7_question 48 = .ok (.goto 9, 3) := by decide +kernel
theorem dX7_question_51 : decode cX7_question 51 = .ok (.aload_n 0, 1) := by decide +kernel
theorem dX7_question_52 : decode cX7_question 52 = .ok (.iload_n 1, 1) := by decide +kernel
theorem dX7_question_53 : decode cX7_question 53 = .ok (.iload_n 2, 1) := by decide +kernel
theorem dX7_question_54 : decode cX7_question 54 = .ok (.invokevirtual 119, 3) := by decide +kernel
theorem dX7_question_57 : decode cX7_question 57 = .ok (.ireturn, 1) := by decide +kernel
theorem dX7_newGroup_0 : decode cX7_newGroup 0 = .ok (.aload_n 0, 1) := by decide +kernel
theorem dX7_newGroup_1 : decode cX7_newGroup 1 = .ok (.getfield 29, 3) := by decide +kernel
theorem dX7_newGroup_4 : decode cX7_newGroup 4 = .ok (.aload_n 0, 1) := by decide +kernel
theorem dX7_newGroup_5 : decode cX7_newGroup 5 = .ok (.getfield 92, 3) := by decide +kernel
theorem dX7_newGroup_8 : decode cX7_newGroup 8 = .ok (.iload_n 1, 1) := by decide +kernel
theorem dX7_newGroup_9 : decode cX7_newGroup 9 = .ok (.iastore, 1) := by decide +kernel
theorem dX7_newGroup_10 : decode cX7_newGroup 10 = .ok (.aload_n 0, 1) := by decide +kernel
theorem dX7_newGroup_11 : decode cX7_newGroup 11 = .ok (.getfield 32, 3) := by decide +kernel
theorem dX7_newGroup_14 : decode cX7_newGroup 14 = .ok (.aload_n 0, 1) := by decide +kernel
theorem dX7_newGroup_15 : decode cX7_newGroup 15 = .ok (.getfield 92, 3) := by decide +kernel
theorem dX7_newGroup_18 : decode cX7_newGroup 18 = .ok (.iload_n 2, 1) := by decide +kernel
theorem dX7_newGroup_19 : decode cX7_newGroup 19 = .ok (.iastore, 1) := by decide +kernel
theorem dX7_newGroup_20 : decode cX7_newGroup 20 = .ok (.aload_n 0, 1) := by decide +kernel
theorem dX7_newGroup_21 : decode cX7_newGroup 21 = .ok (.getfield 35, 3) := by decide +kernel
theorem dX7_newGroup_24 : decode cX7_newGroup 24 = .ok (.aload_n 0, 1) := by decide +kernel
theorem dX7_newGroup_25 : decode cX7_newGroup 25 = .ok (.getfield 92, 3) := by decide +kernel
theorem dX7_newGroup_28 : decode cX7_newGroup 28 = .ok (.iload_n 3, 1) := by decide +kernel
theorem dX7_newGroup_29 : decode cX7_newGroup 29 = .ok (.iastore, 1) := by decide +kernel
theorem dX7_newGroup_30 : decode cX7_newGroup 30 = .ok (.aload_n 0, 1) := by decide +kernel
theorem dX7_newGroup_31 : decode cX7_newGroup 31 = .ok (.getfield 38, 3) := by decide +kernel
theorem dX7_newGroup_34 : decode cX7_newGroup 34 = .ok (.aload_n 0, 1) := by decide +kernel
theorem dX7_newGroup_35 : decode cX7_newGroup 35 = .ok (.getfield 92, 3) := by decide +kernel
theorem dX7_newGroup_38 : decode cX7_newGroup 38 = .ok (.iload 4, 2) := by decide +kernel
theorem dX7_newGroup_40 : decode cX7_newGroup 40 = .ok (.iastore, 1) := by decide +kernel
theorem dX7_newGroup_41 : decode cX7_newGroup 41 = .ok (.aload_n 0, 1) := by decide +kernel
theorem dX7_newGroup_42 : decode cX7_newGroup 42 = .ok (.getfield 41, 3) := by decide +kernel
theorem dX7_newGroup_45 : decode cX7_newGroup 45 = .ok (.aload_n 0, 1) := by decide +kernel
theorem dX7_newGroup_46 : decode cX7_newGroup 46 = .ok (.getfield 92, 3) := by decide +kernel
theorem dX7_newGroup_49 : decode cX7_newGroup 49 = .ok (.iload 5, 2) := by decide +kernel
theorem dX7_newGroup_51 : decode cX7_newGroup 51 = .ok (.iastore, 1) := by decide +kernel
theorem dX7_newGroup_52 : decode cX7_newGroup 52 = .ok (.aload_n 0, 1) := by decide +kernel
theorem dX7_newGroup_53 : decode cX7_newGroup 53 = .ok (.dup, 1) := by decide +kernel
theorem dX7_newGroup_54 : decode cX7_newGroup 54 = .ok (.getfield 92, 3) := by decide +kernel
theorem dX7_newGroup_57 : decode cX7_newGroup 57 = .ok (.dup_x1, 1) := by decide +kernel
theorem dX7_newGroup_58 : decode cX7_newGroup 58 = .ok (.iconst 1, 1) := by decide +kernel
theorem dX7_newGroup_59 : decode cX7_newGroup 59 = .ok (.iadd, 1) := by decide +kernel
theorem dX7_newGroup_60 : decode cX7_newGroup 60 = .ok (.putfield 92, 3) := by decide +kernel
theorem dX7_newGroup_63 : decode cX7_newGroup 63 = .ok (.ireturn, 1) := by decide +kernel
theorem dX7_group_0 : decode cX7_group 0 = .ok (.iload_n 1, 1) := by decide +kernel
theorem dX7_group_1 : decode cX7_group 1 = .ok (.iconst 1, 1) := by decide +kernel
theorem dX7_group_2 : decode cX7_group 2 = .ok (.sipush 999, 3) := by decide +kernel
theorem dX7_group_5 : decode cX7_group 5 = .ok (.invokestatic 88, 3) := by decide +kernel
theorem dX7_group_8 : decode cX7_group 8 = .ok (.ifCond .eq 44, 3) := by decide +kernel
theorem dX7_group_11 : decode cX7_group 11 = .ok (.iload_n 2, 1) := by decide +kernel
theorem dX7_group_12 : decode cX7_group 12 = .ok (.iconst 0, 1) := by decide +kernel
theorem dX7_group_13 : decode cX7_group 13 = .ok (.iconst 2, 1) := by decide +kernel
theorem dX7_group_14 : decode cX7_group 14 = .ok (.invokestatic 88, 3) := by decide +kernel
theorem dX7_group_17 : decode cX7_group 17 = .ok (.ifCond .eq 35, 3) := by decide +kernel
theorem dX7_group_20 : decode cX7_group 20 = .ok (.iload_n 3, 1) := by decide +kernel
theorem dX7_group_21 : decode cX7_group 21 = .ok (.iconst 0, 1) := by decide +kernel
theorem dX7_group_22 : decode cX7_group 22 = .ok (.bipush 10, 2) := by decide +kernel
theorem dX7_group_24 : decode cX7_group 24 = .ok (.invokestatic 88, 3) := by decide +kernel
theorem dX7_group_27 : decode cX7_group 27 = .ok (.ifCond .eq 25, 3) := by decide +kernel
theorem dX7_group_30 : decode cX7_group 30 = .ok (.iload 4, 2) := by decide +kernel
theorem dX7_group_32 : decode cX7_group 32 = .ok (.iconst 0, 1) := by decide +kernel
theorem dX7_group_33 : decode cX7_group 33 = .ok (.bipush 10, 2) := by decide +kernel
theorem dX7_group_35 : decode cX7_group 35 = .ok (.invokestatic 88, 3) := by decide +kernel
theorem dX7_group_38 : decode cX7_group 38 = .ok (.ifCond .eq 14, 3) := by decide +kernel
theorem dX7_group_41 : decode cX7_group 41 = .ok (.iload 5, 2) := by decide +kernel
theorem dX7_group_43 : decode cX7_group 43 = .ok (.iconst 0, 1) := by decide +kernel
theorem dX7_group_44 : decode cX7_group 44 = .ok (.bipush 10, 2) := by decide +kernel
theorem dX7_group_46 : decode cX7_group 46 = .ok (.invokestatic 88, 3) := by decide +kernel
theorem dX7_group_49 : decode cX7_group 49 = .ok (.ifCond .ne 10, 3) := by decide +kernel
theorem dX7_group_52 : decode cX7_group 52 = .ok (.aload_n 0, 1) := by decide +kernel
theorem dX7_group_53 : decode cX7_group 53 = .ok (.bipush (-6), 2) := by decide +kernel
theorem dX7_group_55 : decode cX7_group 55 = .ok (.invokevirtual 81, 3) := by decide +kernel
theorem dX7_group_58 : decode cX7_group 58 = .ok (.ireturn, 1) := by decide +kernel
theorem dX7_group_59 : decode cX7_group 59 = .ok (.aload_n 0, 1) := by decide +kernel
theorem dX7_group_60 : decode cX7_group 60 = .ok (.getfield 92, 3) := by decide +kernel
theorem dX7_group_63 : decode cX7_group 63 = .ok (.bipush 10, 2) := by decide +kernel
theorem dX7_group_65 : decode cX7_group 65 = .ok (.if_icmp .ne 12, 3) := by decide +kernel
theorem dX7_group_68 : decode cX7_group 68 = .ok (.aload_n 0, 1) := by decide +kernel
theorem dX7_group_69 : decode cX7_group 69 = .ok (.bipush (-7), 2) := by decide +kernel
theorem dX7_group_71 : decode cX7_group 71 = .ok (.invokevirtual 81, 3) := by decide +kernel
theorem dX7_group_74 : decode cX7_group 74 = .ok (.goto 14, 3) := by decide +kernel
theorem dX7_group_77 : decode cX7_group 77 = .ok (.aload_n 0, 1) := by decide +kernel
theorem dX7_group_78 : decode cX7_group 78 = .ok (.iload_n 1, 1) := by decide +kernel
theorem dX7_group_79 : decode cX7_group 79 = .ok (.iload_n 2, 1) := by decide +kernel
theorem dX7_group_80 : decode cX7_group 80 = .ok (.iload_n 3, 1) := by decide +kernel
theorem dX7_group_81 : decode cX7_group 81 = .ok (.iload 4, 2) := by decide +kernel
theorem dX7_group_83 : decode cX7_group 83 = .ok (.iload 5, 2) := by decide +kernel
theorem dX7_group_85 : decode cX7_group 85 = .ok (.invokevirtual 123, 3) := by decide +kernel
theorem dX7_group_88 : decode cX7_group 88 = .ok (.ireturn, 1) := by decide +kernel
theorem dX7_questionOf_0 : decode cX7_questionOf 0 = .ok (.aload_n 0, 1) := by decide +kernel
theorem dX7_questionOf_1 : decode cX7_questionOf 1 = .ok (.iload_n 1, 1) := by decide +kernel
theorem dX7_questionOf_2 : decode cX7_questionOf 2 = .ok (.invokevirtual 102, 3) := by decide +kernel
theorem dX7_questionOf_5 : decode cX7_questionOf 5 = .ok (.ifCond .ne 10, 3) := by decide +kernel
theorem dX7_questionOf_8 : decode cX7_questionOf 8 = .ok (.aload_n 0, 1) := by decide +kernel
theorem dX7_questionOf_9 : decode cX7_questionOf 9 = .ok (.bipush (-5), 2) := by decide +kernel
theorem dX7_questionOf_11 : decode cX7_questionOf 11 = .ok (.invokevirtual 127, 3) := by decide +kernel
theorem dX7_questionOf_14 : decode cX7_questionOf 14 = .ok (.ireturn, 1) := by decide +kernel
theorem dX7_questionOf_15 : decode cX7_questionOf 15 = .ok (.iload_n 2, 1) := by decide +kernel
theorem dX7_questionOf_16 : decode cX7_questionOf 16 = .ok (.tableswitch 68 0 4 #[36, 43, 50, 56, 62], 36) := by decide +kernel
theorem dX7_questionOf_52 : decode cX7_questionOf 52 = .ok (.aload_n 0, 1) := by decide +kernel
theorem dX7_questionOf_53 : decode cX7_questionOf 53 = .ok (.getfield 20, 3) := by decide +kernel
theorem dX7_questionOf_56 : decode cX7_questionOf 56 = .ok (.iload_n 1, 1) := by decide +kernel
theorem dX7_questionOf_57 : decode cX7_questionOf 57 = .ok (.iaload, 1) := by decide +kernel
theorem dX7_questionOf_58 : decode cX7_questionOf 58 = .ok (.ireturn, 1) := by decide +kernel
theorem dX7_questionOf_59 : decode cX7_questionOf 59 = .ok (.aload_n 0, 1) := by decide +kernel
theorem dX7_questionOf_60 : decode cX7_questionOf 60 = .ok (.getfield 23, 3) := by decide +kernel
theorem dX7_questionOf_63 : decode cX7_questionOf 63 = .ok (.iload_n 1, 1) := by decide +kernel
theorem dX7_questionOf_64 : decode cX7_questionOf 64 = .ok (.iaload, 1) := by decide +kernel
theorem dX7_questionOf_65 : decode cX7_questionOf 65 = .ok (.ireturn, 1) := by decide +kernel
theorem dX7_questionOf_66 : decode cX7_questionOf 66 = .ok (.aload_n 0, 1) := by decide +kernel
theorem dX7_questionOf_67 : decode cX7_questionOf 67 = .ok (.iload_n 1, 1) := by decide +kernel
theorem dX7_questionOf_68 : decode cX7_questionOf 68 = .ok (.invokevirtual 130, 3) := by decide +kernel
theorem dX7_questionOf_71 : decode cX7_questionOf 71 = .ok (.ireturn, 1) := by decide +kernel
theorem dX7_questionOf_72 : decode cX7_questionOf 72 = .ok (.aload_n 0, 1) := by decide +kernel
theorem dX7_questionOf_73 : decode cX7_questionOf 73 = .ok (.iload_n 1, 1) := by decide +kernel
theorem dX7_questionOf_74 : decode cX7_questionOf 74 = .ok (.invokevirtual 112, 3) := by decide +kernel
theorem dX7_questionOf_77 : decode cX7_questionOf 77 = .ok (.ireturn, 1) := by decide +kernel
theorem dX7_questionOf_78 : decode cX7_questionOf 78 = .ok (.aload_n 0, 1) := by decide +kernel
theorem dX7_questionOf_79 : decode cX7_questionOf 79 = .ok (.iload_n 1, 1) := by decide +kernel
theorem dX7_questionOf_80 : decode cX7_questionOf 80 = .ok (.invokevirtual 133, 3) := by decide +kernel
theorem dX7_questionOf_83 : decode cX7_questionOf 83 = .ok (.ireturn, 1) := by decide +kernel
theorem dX7_questionOf_84 : decode cX7_questionOf 84 = .ok (.aload_n 0, 1) := by decide +kernel
theorem dX7_questionOf_85 : decode cX7_questionOf 85 = .ok (.bipush (-5), 2) := by decide +kernel
theorem dX7_questionOf_87 : decode cX7_questionOf 87 = .ok (.invokevirtual 127, 3) := by decide +kernel
theorem dX7_questionOf_90 : decode cX7_questionOf 90 = .ok (.ireturn, 1) := by decide +kernel
theorem dX7_groupOf_0 : decode cX7_groupOf 0 = .ok (.aload_n 0, 1) := by decide +kernel
theorem dX7_groupOf_1 : decode cX7_groupOf 1 = .ok (.iload_n 1, 1) := by decide +kernel
theorem dX7_groupOf_2 : decode cX7_groupOf 2 = .ok (.invokevirtual 136, 3) := by decide +kernel
theorem dX7_groupOf_5 : decode cX7_groupOf 5 = .ok (.ifCond .ne 10, 3) := by decide +kernel
theorem dX7_groupOf_8 : decode cX7_groupOf 8 = .ok (.aload_n 0, 1) := by decide +kernel
theorem dX7_groupOf_9 : decode cX7_groupOf 9 = .ok (.bipush (-5), 2) := by decide +kernel
theorem dX7_groupOf_11 : decode cX7_groupOf 11 = .ok (.invokevirtual 81, 3) := by decide +kernel
theorem dX7_groupOf_14 : decode cX7_groupOf 14 = .ok (.ireturn, 1) := by decide +kernel
theorem dX7_groupOf_15 : decode cX7_groupOf 15 = .ok (.iload_n 2, 1) := by decide +kernel
theorem dX7_groupOf_16 : decode cX7_groupOf 16 = .ok (.tableswitch 71 0 4 #[36, 43, 50, 57, 64], 36) := by decide +kernel
theorem dX7_groupOf_52 : decode cX7_groupOf 52 = .ok (.aload_n 0, 1) := by decide +kernel
theorem dX7_groupOf_53 : decode cX7_groupOf 53 = .ok (.getfield 29, 3) := by decide +kernel
theorem dX7_groupOf_56 : decode cX7_groupOf 56 = .ok (.iload_n 1, 1) := by decide +kernel
theorem dX7_groupOf_57 : decode cX7_groupOf 57 = .ok (.iaload, 1) := by decide +kernel
theorem dX7_groupOf_58 : decode cX7_groupOf 58 = .ok (.ireturn, 1) := by decide +kernel
theorem dX7_groupOf_59 : decode cX7_groupOf 59 = .ok (.aload_n 0, 1) := by decide +kernel
theorem dX7_groupOf_60 : decode cX7_groupOf 60 = .ok (.getfield 32, 3) := by decide +kernel
theorem dX7_groupOf_63 : decode cX7_groupOf 63 = .ok (.iload_n 1, 1) := by decide +kernel
theorem dX7_groupOf_64 : decode cX7_groupOf 64 = .ok (.iaload, 1) := by decide +kernel
theorem dX7_groupOf_65 : decode cX7_groupOf 65 = .ok (.ireturn, 1) := by decide +kernel
theorem dX7_groupOf_66 : decode cX7_groupOf 66 = .ok (.aload_n 0, 1) := by decide +kernel
theorem dX7_groupOf_67 : decode cX7_groupOf 67 = .ok (.getfield 35, 3) := by decide +kernel
theorem dX7_groupOf_70 : decode cX7_groupOf 70 = .ok (.iload_n 1, 1) := by decide +kernel
theorem dX7_groupOf_71 : decode cX7_groupOf 71 = .ok (.iaload, 1) := by decide +kernel
theorem dX7_groupOf_72 : decode cX7_groupOf 72 = .ok (.ireturn, 1) := by decide +kernel
theorem dX7_groupOf_73 : decode cX7_groupOf 73 = .ok (.aload_n 0, 1) := by decide +kernel
theorem dX7_groupOf_74 : decode cX7_groupOf 74 = .ok (.getfield 38, 3) := by decide +kernel
theorem dX7_groupOf_77 : decode cX7_groupOf 77 = .ok (.iload_n 1, 1) := by decide +kernel
theorem dX7_groupOf_78 : decode cX7_groupOf 78 = .ok (.iaload, 1) := by decide +kernel
theorem dX7_groupOf_79 : decode cX7_groupOf 79 = .ok (.ireturn, 1) := by decide +kernel
theorem dX7_groupOf_80 : decode cX7_groupOf 80 = .ok (.aload_n 0, 1) := by decide +kernel
theorem dX7_groupOf_81 : decode cX7_groupOf 81 = .ok (.getfield 41, 3) := by decide +kernel
theorem dX7_groupOf_84 : decode cX7_groupOf 84 = .ok (.iload_n 1, 1) := by decide +kernel
theorem dX7_groupOf_85 : decode cX7_groupOf 85 = .ok (.iaload, 1) := by decide +kernel
theorem dX7_groupOf_86 : decode cX7_groupOf 86 = .ok (.ireturn, 1) := by decide +kernel
theorem dX7_groupOf_87 : decode cX7_groupOf 87 = .ok (.aload_n 0, 1) := by decide +kernel
theorem dX7_groupOf_88 : decode cX7_groupOf 88 = .ok (.bipush (-5), 2) := by decide +kernel
theorem dX7_groupOf_90 : decode cX7_groupOf 90 = .ok (.invokevirtual 81, 3) := by decide +kernel
theorem dX7_groupOf_93 : decode cX7_groupOf 93 = .ok (.ireturn, 1) := by decide +kernel
theorem dX7_bears_0 : decode cX7_bears 0 = .ok (.aload_n 0, 1) := by decide +kernel
theorem dX7_bears_1 : decode cX7_bears 1 = .ok (.iload_n 1, 1) := by decide +kernel
theorem dX7_bears_2 : decode cX7_bears 2 = .ok (.invokevirtual 102, 3) := by decide +kernel
theorem dX7_bears_5 : decode cX7_bears 5 = .ok (.ifCond .eq 11, 3) := by decide +kernel
theorem dX7_bears_8 : decode cX7_bears 8 = .ok (.aload_n 0, 1) := by decide +kernel
theorem dX7_bears_9 : decode cX7_bears 9 = .ok (.iload_n 2, 1) := by decide +kernel
theorem dX7_bears_10 : decode cX7_bears 10 = .ok (.invokevirtual 102, 3) := by decide +kernel
theorem dX7_bears_13 : decode cX7_bears 13 = .ok (.ifCond .ne 9, 3) := by decide +kernel
theorem dX7_bears_16 : decode cX7_bears 16 = .ok (.aload_n 0, 1) := by decide +kernel
theorem dX7_bears_17 : decode cX7_bears 17 = .ok (.iconst (-1), 1) := by decide +kernel
theorem dX7_bears_18 : decode cX7_bears 18 = .ok (.invokevirtual 127, 3) := by decide +kernel
theorem dX7_bears_21 : decode cX7_bears 21 = .ok (.ireturn, 1) := by decide +kernel
theorem dX7_bears_22 : decode cX7_bears 22 = .ok (.iload_n 1, 1) := by decide +kernel
theorem dX7_bears_23 : decode cX7_bears 23 = .ok (.iload_n 2, 1) := by decide +kernel
theorem dX7_bears_24 : decode cX7_bears 24 = .ok (.if_icmp .eq 14, 3) := by decide +kernel
theorem dX7_bears_27 : decode cX7_bears 27 = .ok (.iload_n 3, 1) := by decide +kernel
theorem dX7_bears_28 : decode cX7_bears 28 = .ok (.bipush (-9), 2) := by decide +kernel
theorem dX7_bears_30 : decode cX7_bears 30 = .ok (.bipush 9, 2) := by decide +kernel
theorem dX7_bears_32 : decode cX7_bears 32 = .ok (.invokestatic 88, 3) := by decide +kernel
theorem dX7_bears_35 : decode cX7_bears 35 = .ok (.ifCond .ne 10, 3) := by decide +kernel
theorem dX7_bears_38 : decode cX7_bears 38 = .ok (.aload_n 0, 1) := by decide +kernel
theorem dX7_bears_39 : decode cX7_bears 39 = .ok (.bipush (-6), 2) := by decide +kernel
theorem dX7_bears_41 : decode cX7_bears 41 = .ok (.invokevirtual 127, 3) := by decide +kernel
theorem dX7_bears_44 : decode cX7_bears 44 = .ok (.ireturn, 1) := by decide +kernel
theorem dX7_bears_45 : decode cX7_bears 45 = .ok (.aload_n 0, 1) := by decide +kernel
theorem dX7_bears_46 : decode cX7_bears 46 = .ok (.getfield 26, 3) := by decide +kernel
theorem dX7_bears_49 : decode cX7_bears 49 = .ok (.bipush 8, 2) := by decide +kernel
theorem dX7_bears_51 : decode cX7_bears 51 = .ok (.iload_n 1, 1) := by decide +kernel
theorem dX7_bears_52 : decode cX7_bears 52 = .ok (.imul, 1) := by decide +kernel
theorem dX7_bears_53 : decode cX7_bears 53 = .ok (.iload_n 2, 1) := by decide +kernel
theorem dX7_bears_54 : decode cX7_bears 54 = .ok (.iadd, 1) := by decide +kernel
theorem dX7_bears_55 : decode cX7_bears 55 = .ok (.iaload, 1) := by decide +kernel
theorem dX7_bears_56 : decode cX7_bears 56 = .ok (.istore 4, 2) := by decide +kernel
theorem dX7_bears_58 : decode cX7_bears 58 = .ok (.aload_n 0, 1) := by decide +kernel
theorem dX7_bears_59 : decode cX7_bears 59 = .ok (.getfield 26, 3) := by decide +kernel
theorem dX7_bears_62 : decode cX7_bears 62 = .ok (.bipush 8, 2) := by decide +kernel
theorem dX7_bears_64 : decode cX7_bears 64 = .ok (.iload_n 1, 1) := by decide +kernel
theorem dX7_bears_65 : decode cX7_bears 65 = .ok (.imul, 1) := by decide +kernel
theorem dX7_bears_66 : decode cX7_bears 66 = .ok (.iload_n 2, 1) := by decide +kernel
theorem dX7_bears_67 : decode cX7_bears 67 = .ok (.iadd, 1) := by decide +kernel
theorem dX7_bears_68 : decode cX7_bears 68 = .ok (.iload_n 3, 1) := by decide +kernel
theorem dX7_bears_69 : decode cX7_bears 69 = .ok (.iastore, 1) := by decide +kernel
theorem dX7_bears_70 : decode cX7_bears 70 = .ok (.iload 4, 2) := by decide +kernel
theorem dX7_bears_72 : decode cX7_bears 72 = .ok (.ireturn, 1) := by decide +kernel
theorem dX7_ask_0 : decode cX7_ask 0 = .ok (.iload_n 1, 1) := by decide +kernel
theorem dX7_ask_1 : decode cX7_ask 1 = .ok (.iconst 0, 1) := by decide +kernel
theorem dX7_ask_2 : decode cX7_ask 2 = .ok (.iconst 1, 1) := by decide +kernel
theorem dX7_ask_3 : decode cX7_ask 3 = .ok (.invokestatic 88, 3) := by decide +kernel
