theorem dX0_init_0 : decode cX0_init 0 = .ok (.aload_n 0, 1) := by decide +kernel
theorem dX0_init_1 : decode cX0_init 1 = .ok (.invokespecial 3, 3) := by decide +kernel
theorem dX0_init_4 : decode cX0_init 4 = .ok (.aload_n 0, 1) := by decide +kernel
theorem dX0_init_5 : decode cX0_init 5 = .ok (.bipush 20, 2) := by decide +kernel
theorem dX0_init_7 : decode cX0_init 7 = .ok (.newarray .int, 2) := by decide +kernel
theorem dX0_init_9 : decode cX0_init 9 = .ok (.putfield 11, 3) := by decide +kernel
theorem dX0_init_12 : decode cX0_init 12 = .ok (.return_, 1) := by decide +kernel
theorem dX0_forget_0 : decode cX0_forget 0 = .ok (.aload_n 0, 1) := by decide +kernel
theorem dX0_forget_1 : decode cX0_forget 1 = .ok (.iconst 0, 1) := by decide +kernel
theorem dX0_forget_2 : decode cX0_forget 2 = .ok (.putfield 15, 3) := by decide +kernel
theorem dX0_forget_5 : decode cX0_forget 5 = .ok (.return_, 1) := by decide +kernel
theorem dX0_run_0 : decode cX0_run 0 = .ok (.aload_n 0, 1) := by decide +kernel
theorem dX0_run_1 : decode cX0_run 1 = .ok (.iload_n 1, 1) := by decide +kernel
theorem dX0_run_2 : decode cX0_run 2 = .ok (.putfield 19, 3) := by decide +kernel
theorem dX0_run_5 : decode cX0_run 5 = .ok (.aload_n 0, 1) := by decide +kernel
theorem dX0_run_6 : decode cX0_run 6 = .ok (.iload_n 2, 1) := by decide +kernel
theorem dX0_run_7 : decode cX0_run 7 = .ok (.putfield 22, 3) := by decide +kernel
theorem dX0_run_10 : decode cX0_run 10 = .ok (.aload_n 0, 1) := by decide +kernel
theorem dX0_run_11 : decode cX0_run 11 = .ok (.iload_n 3, 1) := by decide +kernel
theorem dX0_run_12 : decode cX0_run 12 = .ok (.putfield 25, 3) := by decide +kernel
theorem dX0_run_15 : decode cX0_run 15 = .ok (.iload 4, 2) := by decide +kernel
theorem dX0_run_17 : decode cX0_run 17 = .ok (.tableswitch 60 0 2 #[27, 38, 49], 27) := by decide +kernel
theorem dX0_run_44 : decode cX0_run 44 = .ok (.aload_n 0, 1) := by decide +kernel
theorem dX0_run_45 : decode cX0_run 45 = .ok (.aload_n 0, 1) := by decide +kernel
theorem dX0_run_46 : decode cX0_run 46 = .ok (.getfield 22, 3) := by decide +kernel
theorem dX0_run_49 : decode cX0_run 49 = .ok (.iload 5, 2) := by decide +kernel
theorem dX0_run_51 : decode cX0_run 51 = .ok (.invokevirtual 28, 3) := by decide +kernel
theorem dX0_run_54 : decode cX0_run 54 = .ok (.ireturn, 1) := by decide +kernel
theorem dX0_run_55 : decode cX0_run 55 = .ok (.aload_n 0, 1) := by decide +kernel
theorem dX0_run_56 : decode cX0_run 56 = .ok (.aload_n 0, 1) := by decide +kernel
theorem dX0_run_57 : decode cX0_run 57 = .ok (.getfield 22, 3) := by decide +kernel
theorem dX0_run_60 : decode cX0_run 60 = .ok (.iload 5, 2) := by decide +kernel
theorem dX0_run_62 : decode cX0_run 62 = .ok (.invokevirtual 32, 3) := by decide +kernel
theorem dX0_run_65 : decode cX0_run 65 = .ok (.ireturn, 1) := by decide +kernel
theorem dX0_run_66 : decode cX0_run 66 = .ok (.aload_n 0, 1) := by decide +kernel
theorem dX0_run_67 : decode cX0_run 67 = .ok (.aload_n 0, 1) := by decide +kernel
theorem dX0_run_68 : decode cX0_run 68 = .ok (.getfield 22, 3) := by decide +kernel
theorem dX0_run_71 : decode cX0_run 71 = .ok (.iload 5, 2) := by decide +kernel
theorem dX0_run_73 : decode cX0_run 73 = .ok (.invokevirtual 35, 3) := by decide +kernel
theorem dX0_run_76 : decode cX0_run 76 = .ok (.ireturn, 1) := by decide +kernel
theorem dX0_run_77 : decode cX0_run 77 = .ok (.iconst 0, 1) := by decide +kernel
theorem dX0_run_78 : decode cX0_run 78 = .ok (.ireturn, 1) := by decide +kernel
theorem dX0_traceAt_0 : decode cX0_traceAt 0 = .ok (.iload_n 1, 1) := by decide +kernel
theorem dX0_traceAt_1 : decode cX0_traceAt 1 = .ok (.iconst 0, 1) := by decide +kernel
theorem dX0_traceAt_2 : decode cX0_traceAt 2 = .ok (.aload_n 0, 1) := by decide +kernel
theorem dX0_traceAt_3 : decode cX0_traceAt 3 = .ok (.getfield 15, 3) := by decide +kernel
theorem dX0_traceAt_6 : decode cX0_traceAt 6 = .ok (.bipush 20, 2) := by decide +kernel
theorem dX0_traceAt_8 : decode cX0_traceAt 8 = .ok (.invokestatic 38, 3) := by decide +kernel
theorem dX0_traceAt_11 : decode cX0_traceAt 11 = .ok (.iconst 1, 1) := by decide +kernel
theorem dX0_traceAt_12 : decode cX0_traceAt 12 = .ok (.isub, 1) := by decide +kernel
theorem dX0_traceAt_13 : decode cX0_traceAt 13 = .ok (.invokestatic 43, 3) := by decide +kernel
theorem dX0_traceAt_16 : decode cX0_traceAt 16 = .ok (.ifCond .eq 12, 3) := by decide +kernel
theorem dX0_traceAt_19 : decode cX0_traceAt 19 = .ok (.aload_n 0, 1) := by decide +kernel
theorem dX0_traceAt_20 : decode cX0_traceAt 20 = .ok (.getfield 11, 3) := by decide +kernel
theorem dX0_traceAt_23 : decode cX0_traceAt 23 = .ok (.iload_n 1, 1) := by decide +kernel
theorem dX0_traceAt_24 : decode cX0_traceAt 24 = .ok (.iaload, 1) := by decide +kernel
theorem dX0_traceAt_25 : decode cX0_traceAt 25 = .ok (.goto 4, 3) := by decide +kernel
theorem dX0_traceAt_28 : decode cX0_traceAt 28 = .ok (.iconst (-1), 1) := by decide +kernel
theorem dX0_traceAt_29 : decode cX0_traceAt 29 = .ok (.ireturn, 1) := by decide +kernel
theorem dX0_begin_0 : decode cX0_begin 0 = .ok (.aload_n 0, 1) := by decide +kernel
theorem dX0_begin_1 : decode cX0_begin 1 = .ok (.getfield 15, 3) := by decide +kernel
theorem dX0_begin_4 : decode cX0_begin 4 = .ok (.bipush 20, 2) := by decide +kernel
theorem dX0_begin_6 : decode cX0_begin 6 = .ok (.if_icmp .ge 13, 3) := by decide +kernel
theorem dX0_begin_9 : decode cX0_begin 9 = .ok (.aload_n 0, 1) := by decide +kernel
theorem dX0_begin_10 : decode cX0_begin 10 = .ok (.getfield 11, 3) := by decide +kernel
theorem dX0_begin_13 : decode cX0_begin 13 = .ok (.aload_n 0, 1) := by decide +kernel
theorem dX0_begin_14 : decode cX0_begin 14 = .ok (.getfield 15, 3) := by decide +kernel
theorem dX0_begin_17 : decode cX0_begin 17 = .ok (.iload_n 1, 1) := by decide +kernel
theorem dX0_begin_18 : decode cX0_begin 18 = .ok (.iastore, 1) := by decide +kernel
theorem dX0_begin_19 : decode cX0_begin 19 = .ok (.aload_n 0, 1) := by decide +kernel
theorem dX0_begin_20 : decode cX0_begin 20 = .ok (.dup, 1) := by decide +kernel
theorem dX0_begin_21 : decode cX0_begin 21 = .ok (.getfield 15, 3) := by decide +kernel
theorem dX0_begin_24 : decode cX0_begin 24 = .ok (.iconst 1, 1) := by decide +kernel
theorem dX0_begin_25 : decode cX0_begin 25 = .ok (.iadd, 1) := by decide +kernel
theorem dX0_begin_26 : decode cX0_begin 26 = .ok (.putfield 15, 3) := by decide +kernel
theorem dX0_begin_29 : decode cX0_begin 29 = .ok (.return_, 1) := by decide +kernel
theorem dX0_asksFrom_0 : decode cX0_asksFrom 0 = .ok (.iload_n 1, 1) := by decide +kernel
theorem dX0_asksFrom_1 : decode cX0_asksFrom 1 = .ok (.tableswitch 90 1 6 #[39, 90, 39, 57, 90, 75], 39) := by decide +kernel
theorem dX0_asksFrom_40 : decode cX0_asksFrom 40 = .ok (.aload_n 0, 1) := by decide +kernel
theorem dX0_asksFrom_41 : decode cX0_asksFrom 41 = .ok (.bipush 20, 2) := by decide +kernel
theorem dX0_asksFrom_43 : decode cX0_asksFrom 43 = .ok (.invokevirtual 47, 3) := by decide +kernel
theorem dX0_asksFrom_46 : decode cX0_asksFrom 46 = .ok (.aload_n 0, 1) := by decide +kernel
theorem dX0_asksFrom_47 : decode cX0_asksFrom 47 = .ok (.iconst 0, 1) := by decide +kernel
theorem dX0_asksFrom_48 : decode cX0_asksFrom 48 = .ok (.iload_n 2, 1) := by decide +kernel
theorem dX0_asksFrom_49 : decode cX0_asksFrom 49 = .ok (.invokevirtual 28, 3) := by decide +kernel
theorem dX0_asksFrom_52 : decode cX0_asksFrom 52 = .ok (.aload_n 0, 1) := by decide +kernel
theorem dX0_asksFrom_53 : decode cX0_asksFrom 53 = .ok (.getfield 25, 3) := by decide +kernel
theorem dX0_asksFrom_56 : decode cX0_asksFrom 56 = .ok (.iadd, 1) := by decide +kernel
theorem dX0_asksFrom_57 : decode cX0_asksFrom 57 = .ok (.ireturn, 1) := by decide +kernel
theorem dX0_asksFrom_58 : decode cX0_asksFrom 58 = .ok (.aload_n 0, 1) := by decide +kernel
theorem dX0_asksFrom_59 : decode cX0_asksFrom 59 = .ok (.bipush 51, 2) := by decide +kernel
theorem dX0_asksFrom_61 : decode cX0_asksFrom 61 = .ok (.invokevirtual 47, 3) := by decide +kernel
theorem dX0_asksFrom_64 : decode cX0_asksFrom 64 = .ok (.aload_n 0, 1) := by decide +kernel
theorem dX0_asksFrom_65 : decode cX0_asksFrom 65 = .ok (.iconst 0, 1) := by decide +kernel
theorem dX0_asksFrom_66 : decode cX0_asksFrom 66 = .ok (.iload_n 2, 1) := by decide +kernel
theorem dX0_asksFrom_67 : decode cX0_asksFrom 67 = .ok (.invokevirtual 28, 3) := by decide +kernel
theorem dX0_asksFrom_70 : decode cX0_asksFrom 70 = .ok (.aload_n 0, 1) := by decide +kernel
theorem dX0_asksFrom_71 : decode cX0_asksFrom 71 = .ok (.getfield 19, 3) := by decide +kernel
theorem dX0_asksFrom_74 : decode cX0_asksFrom 74 = .ok (.isub, 1) := by decide +kernel
theorem dX0_asksFrom_75 : decode cX0_asksFrom 75 = .ok (.ireturn, 1) := by decide +kernel
theorem dX0_asksFrom_76 : decode cX0_asksFrom 76 = .ok (.aload_n 0, 1) := by decide +kernel
theorem dX0_asksFrom_77 : decode cX0_asksFrom 77 = .ok (.bipush 70, 2) := by decide +kernel
theorem dX0_asksFrom_79 : decode cX0_asksFrom 79 = .ok (.invokevirtual 47, 3) := by decide +kernel
theorem dX0_asksFrom_82 : decode cX0_asksFrom 82 = .ok (.aload_n 0, 1) := by decide +kernel
theorem dX0_asksFrom_83 : decode cX0_asksFrom 83 = .ok (.iconst 4, 1) := by decide +kernel
theorem dX0_asksFrom_84 : decode cX0_asksFrom 84 = .ok (.iload_n 2, 1) := by decide +kernel
theorem dX0_asksFrom_85 : decode cX0_asksFrom 85 = .ok (.invokevirtual 28, 3) := by decide +kernel
theorem dX0_asksFrom_88 : decode cX0_asksFrom 88 = .ok (.iconst 2, 1) := by decide +kernel
theorem dX0_asksFrom_89 : decode cX0_asksFrom 89 = .ok (.imul, 1) := by decide +kernel
theorem dX0_asksFrom_90 : decode cX0_asksFrom 90 = .ok (.ireturn, 1) := by decide +kernel
theorem dX0_asksFrom_91 : decode cX0_asksFrom 91 = .ok (.aload_n 0, 1) := by decide +kernel
theorem dX0_asksFrom_92 : decode cX0_asksFrom 92 = .ok (.bipush 10, 2) := by decide +kernel
theorem dX0_asksFrom_94 : decode cX0_asksFrom 94 = .ok (.invokevirtual 47, 3) := by decide +kernel
theorem dX0_asksFrom_97 : decode cX0_asksFrom 97 = .ok (.iload_n 2, 1) := by decide +kernel
theorem dX0_asksFrom_98 : decode cX0_asksFrom 98 = .ok (.aload_n 0, 1) := by decide +kernel
theorem dX0_asksFrom_99 : decode cX0_asksFrom 99 = .ok (.getfield 19, 3) := by decide +kernel
theorem dX0_asksFrom_102 : decode cX0_asksFrom 102 = .ok (.iadd, 1) := by decide +kernel
theorem dX0_asksFrom_103 : decode cX0_asksFrom 103 = .ok (.ireturn, 1) := by decide +kernel
theorem dX0_leansFrom_0 : decode cX0_leansFrom 0 = .ok (.iload_n 1, 1) := by decide +kernel
theorem dX0_leansFrom_1 : decode cX0_leansFrom 1 = .ok (.tableswitch 83 2 6 #[35, 50, 83, 35, 65], 35) := by decide +kernel
theorem dX0_leansFrom_36 : decode cX0_leansFrom 36 = .ok (.aload_n 0, 1) := by decide +kernel
theorem dX0_leansFrom_37 : decode cX0_leansFrom 37 = .ok (.bipush 30, 2) := by decide +kernel
theorem dX0_leansFrom_39 : decode cX0_leansFrom 39 = .ok (.invokevirtual 47, 3) := by decide +kernel
theorem dX0_leansFrom_42 : decode cX0_leansFrom 42 = .ok (.aload_n 0, 1) := by decide +kernel
theorem dX0_leansFrom_43 : decode cX0_leansFrom 43 = .ok (.iconst 0, 1) := by decide +kernel
theorem dX0_leansFrom_44 : decode cX0_leansFrom 44 = .ok (.iload_n 2, 1) := by decide +kernel
theorem dX0_leansFrom_45 : decode cX0_leansFrom 45 = .ok (.invokevirtual 32, 3) := by decide +kernel
theorem dX0_leansFrom_48 : decode cX0_leansFrom 48 = .ok (.iconst 3, 1) := by decide +kernel
theorem dX0_leansFrom_49 : decode cX0_leansFrom 49 = .ok (.imul, 1) := by decide +kernel
theorem dX0_leansFrom_50 : decode cX0_leansFrom 50 = .ok (.ireturn, 1) := by decide +kernel
theorem dX0_leansFrom_51 : decode cX0_leansFrom 51 = .ok (.aload_n 0, 1) := by decide +kernel
theorem dX0_leansFrom_52 : decode cX0_leansFrom 52 = .ok (.bipush 40, 2) := by decide +kernel
theorem dX0_leansFrom_54 : decode cX0_leansFrom 54 = .ok (.invokevirtual 47, 3) := by decide +kernel
theorem dX0_leansFrom_57 : decode cX0_leansFrom 57 = .ok (.aload_n 0, 1) := by decide +kernel
theorem dX0_leansFrom_58 : decode cX0_leansFrom 58 = .ok (.iconst 1, 1) := by decide +kernel
theorem dX0_leansFrom_59 : decode cX0_leansFrom 59 = .ok (.iload_n 2, 1) := by decide +kernel
theorem dX0_leansFrom_60 : decode cX0_leansFrom 60 = .ok (.iconst 1, 1) := by decide +kernel
theorem dX0_leansFrom_61 : decode cX0_leansFrom 61 = .ok (.iadd, 1) := by decide +kernel
theorem dX0_leansFrom_62 : decode cX0_leansFrom 62 = .ok (.invokevirtual 32, 3) := by decide +kernel
theorem dX0_leansFrom_65 : decode cX0_leansFrom 65 = .ok (.ireturn, 1) := by decide +kernel
theorem dX0_leansFrom_66 : decode cX0_leansFrom 66 = .ok (.aload_n 0, 1) := by decide +kernel
theorem dX0_leansFrom_67 : decode cX0_leansFrom 67 = .ok (.bipush 71, 2) := by decide +kernel
theorem dX0_leansFrom_69 : decode cX0_leansFrom 69 = .ok (.invokevirtual 47, 3) := by decide +kernel
theorem dX0_leansFrom_72 : decode cX0_leansFrom 72 = .ok (.aload_n 0, 1) := by decide +kernel
theorem dX0_leansFrom_73 : decode cX0_leansFrom 73 = .ok (.iconst 4, 1) := by decide +kernel
theorem dX0_leansFrom_74 : decode cX0_leansFrom 74 = .ok (.iload_n 2, 1) := by decide +kernel
theorem dX0_leansFrom_75 : decode cX0_leansFrom 75 = .ok (.aload_n 0, 1) := by decide +kernel
theorem dX0_leansFrom_76 : decode cX0_leansFrom 76 = .ok (.getfield 25, 3) := by decide +kernel
theorem dX0_leansFrom_79 : decode cX0_leansFrom 79 = .ok (.isub, 1) := by decide +kernel
theorem dX0_leansFrom_80 : decode cX0_leansFrom 80 = .ok (.invokevirtual 32, 3) := by decide +kernel
theorem dX0_leansFrom_83 : decode cX0_leansFrom 83 = .ok (.ireturn, 1) := by decide +kernel
theorem dX0_leansFrom_84 : decode cX0_leansFrom 84 = .ok (.aload_n 0, 1) := by decide +kernel
theorem dX0_leansFrom_85 : decode cX0_leansFrom 85 = .ok (.bipush 11, 2) := by decide +kernel
theorem dX0_leansFrom_87 : decode cX0_leansFrom 87 = .ok (.invokevirtual 47, 3) := by decide +kernel
theorem dX0_leansFrom_90 : decode cX0_leansFrom 90 = .ok (.aload_n 0, 1) := by decide +kernel
theorem dX0_leansFrom_91 : decode cX0_leansFrom 91 = .ok (.aload_n 0, 1) := by decide +kernel
theorem dX0_leansFrom_92 : decode cX0_leansFrom 92 = .ok (.getfield 22, 3) := by decide +kernel
theorem dX0_leansFrom_95 : decode cX0_leansFrom 95 = .ok (.iload_n 2, 1) := by decide +kernel
theorem dX0_leansFrom_96 : decode cX0_leansFrom 96 = .ok (.invokevirtual 28, 3) := by decide +kernel
theorem dX0_leansFrom_99 : decode cX0_leansFrom 99 = .ok (.iconst 2, 1) := by decide +kernel
theorem dX0_leansFrom_100 : decode cX0_leansFrom 100 = .ok (.imul, 1) := by decide +kernel
theorem dX0_leansFrom_101 : decode cX0_leansFrom 101 = .ok (.ireturn, 1) := by decide +kernel
theorem dX0_sumsFrom_0 : decode cX0_sumsFrom 0 = .ok (.iload_n 1, 1) := by decide +kernel
theorem dX0_sumsFrom_1 : decode cX0_sumsFrom 1 = .ok (.tableswitch 56 4 6 #[27, 41, 27], 27) := by decide +kernel
theorem dX0_sumsFrom_28 : decode cX0_sumsFrom 28 = .ok (.aload_n 0, 1) := by decide +kernel
theorem dX0_sumsFrom_29 : decode cX0_sumsFrom 29 = .ok (.bipush 50, 2) := by decide +kernel
theorem dX0_sumsFrom_31 : decode cX0_sumsFrom 31 = .ok (.invokevirtual 47, 3) := by decide +kernel
theorem dX0_sumsFrom_34 : decode cX0_sumsFrom 34 = .ok (.aload_n 0, 1) := by decide +kernel
theorem dX0_sumsFrom_35 : decode cX0_sumsFrom 35 = .ok (.iconst 0, 1) := by decide +kernel
theorem dX0_sumsFrom_36 : decode cX0_sumsFrom 36 = .ok (.iload_n 2, 1) := by decide +kernel
theorem dX0_sumsFrom_37 : decode cX0_sumsFrom 37 = .ok (.invokevirtual 35, 3) := by decide +kernel
theorem dX0_sumsFrom_40 : decode cX0_sumsFrom 40 = .ok (.ineg, 1) := by decide +kernel
theorem dX0_sumsFrom_41 : decode cX0_sumsFrom 41 = .ok (.ireturn, 1) := by decide +kernel
theorem dX0_sumsFrom_42 : decode cX0_sumsFrom 42 = .ok (.aload_n 0, 1) := by decide +kernel
theorem dX0_sumsFrom_43 : decode cX0_sumsFrom 43 = .ok (.bipush 60, 2) := by decide +kernel
theorem dX0_sumsFrom_45 : decode cX0_sumsFrom 45 = .ok (.invokevirtual 47, 3) := by decide +kernel
theorem dX0_sumsFrom_48 : decode cX0_sumsFrom 48 = .ok (.aload_n 0, 1) := by decide +kernel
theorem dX0_sumsFrom_49 : decode cX0_sumsFrom 49 = .ok (.iconst 2, 1) := by decide +kernel
theorem dX0_sumsFrom_50 : decode cX0_sumsFrom 50 = .ok (.iload_n 2, 1) := by decide +kernel
theorem dX0_sumsFrom_51 : decode cX0_sumsFrom 51 = .ok (.invokevirtual 35, 3) := by decide +kernel
theorem dX0_sumsFrom_54 : decode cX0_sumsFrom 54 = .ok (.iconst 5, 1) := by decide +kernel
theorem dX0_sumsFrom_55 : decode cX0_sumsFrom 55 = .ok (.ixor, 1) := by decide +kernel
theorem dX0_sumsFrom_56 : decode cX0_sumsFrom 56 = .ok (.ireturn, 1) := by decide +kernel
theorem dX0_sumsFrom_57 : decode cX0_sumsFrom 57 = .ok (.aload_n 0, 1) := by decide +kernel
theorem dX0_sumsFrom_58 : decode cX0_sumsFrom 58 = .ok (.bipush 12, 2) := by decide +kernel
theorem dX0_sumsFrom_60 : decode cX0_sumsFrom 60 = .ok (.invokevirtual 47, 3) := by decide +kernel
theorem dX0_sumsFrom_63 : decode cX0_sumsFrom 63 = .ok (.aload_n 0, 1) := by decide +kernel
theorem dX0_sumsFrom_64 : decode cX0_sumsFrom 64 = .ok (.aload_n 0, 1) := by decide +kernel
theorem dX0_sumsFrom_65 : decode cX0_sumsFrom 65 = .ok (.getfield 22, 3) := by decide +kernel
theorem dX0_sumsFrom_68 : decode cX0_sumsFrom 68 = .ok (.iload_n 2, 1) := by decide +kernel
theorem dX0_sumsFrom_69 : decode cX0_sumsFrom 69 = .ok (.invokevirtual 32, 3) := by decide +kernel
theorem dX0_sumsFrom_72 : decode cX0_sumsFrom 72 = .ok (.aload_n 0, 1) := by decide +kernel
theorem dX0_sumsFrom_73 : decode cX0_sumsFrom 73 = .ok (.aload_n 0, 1) := by decide +kernel
theorem dX0_sumsFrom_74 : decode cX0_sumsFrom 74 = .ok (.getfield 22, 3) := by decide +kernel
theorem dX0_sumsFrom_77 : decode cX0_sumsFrom 77 = .ok (.iload_n 2, 1) := by decide +kernel
theorem dX0_sumsFrom_78 : decode cX0_sumsFrom 78 = .ok (.aload_n 0, 1) := by decide +kernel
theorem dX0_sumsFrom_79 : decode cX0_sumsFrom 79 = .ok (.getfield 25, 3) := by decide +kernel
theorem dX0_sumsFrom_82 : decode cX0_sumsFrom 82 = .ok (.isub, 1) := by decide +kernel
theorem dX0_sumsFrom_83 : decode cX0_sumsFrom 83 = .ok (.invokevirtual 28, 3) := by decide +kernel
theorem dX0_sumsFrom_86 : decode cX0_sumsFrom 86 = .ok (.ixor, 1) := by decide +kernel
theorem dX0_sumsFrom_87 : decode cX0_sumsFrom 87 = .ok (.ireturn, 1) := by decide +kernel
theorem dX1_init_0 : decode cX1_init 0 = .ok (.aload_n 0, 1) := by decide +kernel
theorem dX1_init_1 : decode cX1_init 1 = .ok (.invokespecial 3, 3) := by decide +kernel
theorem dX1_init_4 : decode cX1_init 4 = .ok (.aload_n 0, 1) := by decide +kernel
theorem dX1_init_5 : decode cX1_init 5 = .ok (.bipush 8, 2) := by decide +kernel
theorem dX1_init_7 : decode cX1_init 7 = .ok (.newarray .int, 2) := by decide +kernel
theorem dX1_init_9 : decode cX1_init 9 = .ok (.putfield 9, 3) := by decide +kernel
theorem dX1_init_12 : decode cX1_init 12 = .ok (.aload_n 0, 1) := by decide +kernel
theorem dX1_init_13 : decode cX1_init 13 = .ok (.sipush 256, 3) := by decide +kernel
theorem dX1_init_16 : decode cX1_init 16 = .ok (.newarray .int, 2) := by decide +kernel
theorem dX1_init_18 : decode cX1_init 18 = .ok (.putfield 15, 3) := by decide +kernel
theorem dX1_init_21 : decode cX1_init 21 = .ok (.return_, 1) := by decide +kernel
theorem dX1_leansOfBest_0 : decode cX1_leansOfBest 0 = .ok (.iconst 0, 1) := by decide +kernel
theorem dX1_leansOfBest_1 : decode cX1_leansOfBest 1 = .ok (.istore_n 3, 1) := by decide +kernel
theorem dX1_leansOfBest_2 : decode cX1_leansOfBest 2 = .ok (.iload_n 3, 1) := by decide +kernel
theorem dX1_leansOfBest_3 : decode cX1_leansOfBest 3 = .ok (.aload_n 1, 1) := by decide +kernel
theorem dX1_leansOfBest_4 : decode cX1_leansOfBest 4 = .ok (.getfield 18, 3) := by decide +kernel
theorem dX1_leansOfBest_7 : decode cX1_leansOfBest 7 = .ok (.if_icmp .ge 23, 3) := by decide +kernel
theorem dX1_leansOfBest_10 : decode cX1_leansOfBest 10 = .ok (.aload_n 0, 1) := by decide +kernel
theorem dX1_leansOfBest_11 : decode cX1_leansOfBest 11 = .ok (.getfield 9, 3) := by decide +kernel
theorem dX1_leansOfBest_14 : decode cX1_leansOfBest 14 = .ok (.iload_n 3, 1) := by decide +kernel
theorem dX1_leansOfBest_15 : decode cX1_leansOfBest 15 = .ok (.aload_n 1, 1) := by decide +kernel
theorem dX1_leansOfBest_16 : decode cX1_leansOfBest 16 = .ok (.iload_n 3, 1) := by decide +kernel
theorem dX1_leansOfBest_17 : decode cX1_leansOfBest 17 = .ok (.sipush 1023, 3) := by decide +kernel
theorem dX1_leansOfBest_20 : decode cX1_leansOfBest 20 = .ok (.invokevirtual 24, 3) := by decide +kernel
theorem dX1_leansOfBest_23 : decode cX1_leansOfBest 23 = .ok (.iastore, 1) := by decide +kernel
theorem dX1_leansOfBest_24 : decode cX1_leansOfBest 24 = .ok (.iinc 3 1, 3) := by decide +kernel
theorem dX1_leansOfBest_27 : decode cX1_leansOfBest 27 = .ok (.goto (-25), 3) := by decide +kernel
theorem dX1_leansOfBest_30 : decode cX1_leansOfBest 30 = .ok (.iconst 1, 1) := by decide +kernel
theorem dX1_leansOfBest_31 : decode cX1_leansOfBest 31 = .ok (.istore_n 3, 1) := by decide +kernel
theorem dX1_leansOfBest_32 : decode cX1_leansOfBest 32 = .ok (.iload_n 3, 1) := by decide +kernel
theorem dX1_leansOfBest_33 : decode cX1_leansOfBest 33 = .ok (.aload_n 0, 1) := by decide +kernel
theorem dX1_leansOfBest_34 : decode cX1_leansOfBest 34 = .ok (.getfield 15, 3) := by decide +kernel
theorem dX1_leansOfBest_37 : decode cX1_leansOfBest 37 = .ok (.arraylength, 1) := by decide +kernel
theorem dX1_leansOfBest_38 : decode cX1_leansOfBest 38 = .ok (.if_icmp .ge 30, 3) := by decide +kernel
theorem dX1_leansOfBest_41 : decode cX1_leansOfBest 41 = .ok (.iload_n 3, 1) := by decide +kernel
theorem dX1_leansOfBest_42 : decode cX1_leansOfBest 42 = .ok (.iload_n 2, 1) := by decide +kernel
theorem dX1_leansOfBest_43 : decode cX1_leansOfBest 43 = .ok (.iconst (-1), 1) := by decide +kernel
theorem dX1_leansOfBest_44 : decode cX1_leansOfBest 44 = .ok (.ixor, 1) := by decide +kernel
theorem dX1_leansOfBest_45 : decode cX1_leansOfBest 45 = .ok (.iand, 1) := by decide +kernel
theorem dX1_leansOfBest_46 : decode cX1_leansOfBest 46 = .ok (.ifCond .ne 16, 3) := by decide +kernel
theorem dX1_leansOfBest_49 : decode cX1_leansOfBest 49 = .ok (.aload_n 0, 1) := by decide +kernel
theorem dX1_leansOfBest_50 : decode cX1_leansOfBest 50 = .ok (.getfield 15, 3) := by decide +kernel
theorem dX1_leansOfBest_53 : decode cX1_leansOfBest 53 = .ok (.iload_n 3, 1) := by decide +kernel
theorem dX1_leansOfBest_54 : decode cX1_leansOfBest 54 = .ok (.aload_n 0, 1) := by decide +kernel
theorem dX1_leansOfBest_55 : decode cX1_leansOfBest 55 = .ok (.aload_n 1, 1) := by decide +kernel
theorem dX1_leansOfBest_56 : decode cX1_leansOfBest 56 = .ok (.iload_n 2, 1) := by decide +kernel
theorem dX1_leansOfBest_57 : decode cX1_leansOfBest 57 = .ok (.iload_n 3, 1) := by decide +kernel
theorem dX1_leansOfBest_58 : decode cX1_leansOfBest 58 = .ok (.invokevirtual 28, 3) := by decide +kernel
theorem dX1_leansOfBest_61 : decode cX1_leansOfBest 61 = .ok (.iastore, 1) := by decide +kernel
theorem dX1_leansOfBest_62 : decode cX1_leansOfBest 62 = .ok (.iinc 3 1, 3) := by decide +kernel
theorem dX1_leansOfBest_65 : decode cX1_leansOfBest 65 = .ok (.goto (-33), 3) := by decide +kernel
theorem dX1_leansOfBest_68 : decode cX1_leansOfBest 68 = .ok (.aload_n 0, 1) := by decide +kernel
theorem dX1_leansOfBest_69 : decode cX1_leansOfBest 69 = .ok (.getfield 15, 3) := by decide +kernel
theorem dX1_leansOfBest_72 : decode cX1_leansOfBest 72 = .ok (.iload_n 2, 1) := by decide +kernel
theorem dX1_leansOfBest_73 : decode cX1_leansOfBest 73 = .ok (.iaload, 1) := by decide +kernel
theorem dX1_leansOfBest_74 : decode cX1_leansOfBest 74 = .ok (.ireturn, 1) := by decide +kernel
theorem dX1_questionOfBest_0 : decode cX1_questionOfBest 0 = .ok (.iload_n 2, 1) := by decide +kernel
theorem dX1_questionOfBest_1 : decode cX1_questionOfBest 1 = .ok (.istore 4, 2) := by decide +kernel
theorem dX1_questionOfBest_3 : decode cX1_questionOfBest 3 = .ok (.iconst 0, 1) := by decide +kernel
theorem dX1_questionOfBest_4 : decode cX1_questionOfBest 4 = .ok (.istore 5, 2) := by decide +kernel
theorem dX1_questionOfBest_6 : decode cX1_questionOfBest 6 = .ok (.iload 5, 2) := by decide +kernel
theorem dX1_questionOfBest_8 : decode cX1_questionOfBest 8 = .ok (.iload_n 3, 1) := by decide +kernel
theorem dX1_questionOfBest_9 : decode cX1_questionOfBest 9 = .ok (.if_icmp .ge 26, 3) := by decide +kernel
theorem dX1_questionOfBest_12 : decode cX1_questionOfBest 12 = .ok (.iload 4, 2) := by decide +kernel
theorem dX1_questionOfBest_14 : decode cX1_questionOfBest 14 = .ok (.iconst 1, 1) := by decide +kernel
theorem dX1_questionOfBest_15 : decode cX1_questionOfBest 15 = .ok (.aload_n 0, 1) := by decide +kernel
theorem dX1_questionOfBest_16 : decode cX1_questionOfBest 16 = .ok (.aload_n 1, 1) := by decide +kernel
theorem dX1_questionOfBest_17 : decode cX1_questionOfBest 17 = .ok (.iload_n 2, 1) := by decide +kernel
theorem dX1_questionOfBest_18 : decode cX1_questionOfBest 18 = .ok (.iload 4, 2) := by decide +kernel
theorem dX1_questionOfBest_20 : decode cX1_questionOfBest 20 = .ok (.invokevirtual 32, 3) := by decide +kernel
theorem dX1_questionOfBest_23 : decode cX1_questionOfBest 23 = .ok (.ishl, 1) := by decide +kernel
theorem dX1_questionOfBest_24 : decode cX1_questionOfBest 24 = .ok (.iconst (-1), 1) := by decide +kernel
theorem dX1_questionOfBest_25 : decode cX1_questionOfBest 25 = .ok (.ixor, 1) := by decide +kernel
theorem dX1_questionOfBest_26 : decode cX1_questionOfBest 26 = .ok (.iand, 1) := by decide +kernel
theorem dX1_questionOfBest_27 : decode cX1_questionOfBest 27 = .ok (.istore 4, 2) := by decide +kernel
theorem dX1_questionOfBest_29 : decode cX1_questionOfBest 29 = .ok (.iinc 5 1, 3) := by decide +kernel
theorem dX1_questionOfBest_32 : decode cX1_questionOfBest 32 = .ok (.goto (-26), 3) := by decide +kernel
theorem dX1_questionOfBest_35 : decode cX1_questionOfBest 35 = .ok (.aload_n 0, 1) := by decide +kernel
theorem dX1_questionOfBest_36 : decode cX1_questionOfBest 36 = .ok (.aload_n 1, 1) := by decide +kernel
theorem dX1_questionOfBest_37 : decode cX1_questionOfBest 37 = .ok (.iload_n 2, 1) := by decide +kernel
theorem dX1_questionOfBest_38 : decode cX1_questionOfBest 38 = .ok (.iload 4, 2) := by decide +kernel
theorem dX1_questionOfBest_40 : decode cX1_questionOfBest 40 = .ok (.invokevirtual 32, 3) := by decide +kernel
theorem dX1_questionOfBest_43 : decode cX1_questionOfBest 43 = .ok (.ireturn, 1) := by decide +kernel
theorem dX1_leastOf_0 : decode cX1_leastOf 0 = .ok (.ldc 35, 2) := by decide +kernel
theorem dX1_leastOf_2 : decode cX1_leastOf 2 = .ok (.istore 4, 2) := by decide +kernel
theorem dX1_leastOf_4 : decode cX1_leastOf 4 = .ok (.iconst 0, 1) := by decide +kernel
theorem dX1_leastOf_5 : decode cX1_leastOf 5 = .ok (.istore 5, 2) := by decide +kernel
theorem dX1_leastOf_7 : decode cX1_leastOf 7 = .ok (.iload 5, 2) := by decide +kernel
theorem dX1_leastOf_9 : decode cX1_leastOf 9 = .ok (.aload_n 1, 1) := by decide +kernel
theorem dX1_leastOf_10 : decode cX1_leastOf 10 = .ok (.getfield 18, 3) := by decide +kernel
theorem dX1_leastOf_13 : decode cX1_leastOf 13 = .ok (.if_icmp .ge 34, 3) := by decide +kernel
theorem dX1_leastOf_16 : decode cX1_leastOf 16 = .ok (.iload_n 3, 1) := by decide +kernel
theorem dX1_leastOf_17 : decode cX1_leastOf 17 = .ok (.iload 5, 2) := by decide +kernel
theorem dX1_leastOf_19 : decode cX1_leastOf 19 = .ok (.invokestatic 36, 3) := by decide +kernel
theorem dX1_leastOf_22 : decode cX1_leastOf 22 = .ok (.ifCond .eq 19, 3) := by decide +kernel
theorem dX1_leastOf_25 : decode cX1_leastOf 25 = .ok (.iload 4, 2) := by decide +kernel
theorem dX1_leastOf_27 : decode cX1_leastOf 27 = .ok (.aload_n 0, 1) := by decide +kernel
theorem dX1_leastOf_28 : decode cX1_leastOf 28 = .ok (.aload_n 1, 1) := by decide +kernel
theorem dX1_leastOf_29 : decode cX1_leastOf 29 = .ok (.iload_n 2, 1) := by decide +kernel
theorem dX1_leastOf_30 : decode cX1_leastOf 30 = .ok (.iload_n 3, 1) := by decide +kernel
theorem dX1_leastOf_31 : decode cX1_leastOf 31 = .ok (.iload 5, 2) := by decide +kernel
theorem dX1_leastOf_33 : decode cX1_leastOf 33 = .ok (.invokevirtual 40, 3) := by decide +kernel
theorem dX1_leastOf_36 : decode cX1_leastOf 36 = .ok (.invokestatic 44, 3) := by decide +kernel
theorem dX1_leastOf_39 : decode cX1_leastOf 39 = .ok (.istore 4, 2) := by decide +kernel
theorem dX1_leastOf_41 : decode cX1_leastOf 41 = .ok (.iinc 5 1, 3) := by decide +kernel
theorem dX1_leastOf_44 : decode cX1_leastOf 44 = .ok (.goto (-37), 3) := by decide +kernel
theorem dX1_leastOf_47 : decode cX1_leastOf 47 = .ok (.iload 4, 2) := by decide +kernel
theorem dX1_leastOf_49 : decode cX1_leastOf 49 = .ok (.ireturn, 1) := by decide +kernel
theorem dX1_firstOf_0 : decode cX1_firstOf 0 = .ok (.iconst 0, 1) := by decide +kernel
theorem dX1_firstOf_1 : decode cX1_firstOf 1 = .ok (.istore 4, 2) := by decide +kernel
theorem dX1_firstOf_3 : decode cX1_firstOf 3 = .ok (.iload 4, 2) := by decide +kernel
theorem dX1_firstOf_5 : decode cX1_firstOf 5 = .ok (.aload_n 1, 1) := by decide +kernel
theorem dX1_firstOf_6 : decode cX1_firstOf 6 = .ok (.getfield 18, 3) := by decide +kernel
theorem dX1_firstOf_9 : decode cX1_firstOf 9 = .ok (.if_icmp .ge 39, 3) := by decide +kernel
theorem dX1_firstOf_12 : decode cX1_firstOf 12 = .ok (.iload_n 3, 1) := by decide +kernel
theorem dX1_firstOf_13 : decode cX1_firstOf 13 = .ok (.iload 4, 2) := by decide +kernel
theorem dX1_firstOf_15 : decode cX1_firstOf 15 = .ok (.invokestatic 36, 3) := by decide +kernel
theorem dX1_firstOf_18 : decode cX1_firstOf 18 = .ok (.ifCond .eq 24, 3) := by decide +kernel
theorem dX1_firstOf_21 : decode cX1_firstOf 21 = .ok (.aload_n 0, 1) := by decide +kernel
theorem dX1_firstOf_22 : decode cX1_firstOf 22 = .ok (.aload_n 1, 1) := by decide +kernel
theorem dX1_firstOf_23 : decode cX1_firstOf 23 = .ok (.iload_n 2, 1) := by decide +kernel
theorem dX1_firstOf_24 : decode cX1_firstOf 24 = .ok (.iload_n 3, 1) := by decide +kernel
theorem dX1_firstOf_25 : decode cX1_firstOf 25 = .ok (.iload 4, 2) := by decide +kernel
theorem dX1_firstOf_27 : decode cX1_firstOf 27 = .ok (.invokevirtual 40, 3) := by decide +kernel
theorem dX1_firstOf_30 : decode cX1_firstOf 30 = .ok (.aload_n 0, 1) := by decide +kernel
theorem dX1_firstOf_31 : decode cX1_firstOf 31 = .ok (.getfield 15, 3) := by decide +kernel
theorem dX1_firstOf_34 : decode cX1_firstOf 34 = .ok (.iload_n 3, 1) := by decide +kernel
theorem dX1_firstOf_35 : decode cX1_firstOf 35 = .ok (.iaload, 1) := by decide +kernel
theorem dX1_firstOf_36 : decode cX1_firstOf 36 = .ok (.if_icmp .ne 6, 3) := by decide +kernel
theorem dX1_firstOf_39 : decode cX1_firstOf 39 = .ok (.iload 4, 2) := by decide +kernel
theorem dX1_firstOf_41 : decode cX1_firstOf 41 = .ok (.ireturn, 1) := by decide +kernel
theorem dX1_firstOf_42 : decode cX1_firstOf 42 = .ok (.iinc 4 1, 3) := by decide +kernel
theorem dX1_firstOf_45 : decode cX1_firstOf 45 = .ok (.goto (-42), 3) := by decide +kernel
theorem dX1_firstOf_48 : decode cX1_firstOf 48 = .ok (.iconst (-1), 1) := by decide +kernel
theorem dX1_firstOf_49 : decode cX1_firstOf 49 = .ok (.ireturn, 1) := by decide +kernel
theorem dX1_leansWithFirst_0 : decode cX1_leansWithFirst 0 = .ok (.aload_n 1, 1) := by decide +kernel
theorem dX1_leansWithFirst_1 : decode cX1_leansWithFirst 1 = .ok (.iload 4, 2) := by decide +kernel
theorem dX1_leansWithFirst_3 : decode cX1_leansWithFirst 3 = .ok (.aload_n 0, 1) := by decide +kernel
theorem dX1_leansWithFirst_4 : decode cX1_leansWithFirst 4 = .ok (.getfield 9, 3) := by decide +kernel
theorem dX1_leansWithFirst_7 : decode cX1_leansWithFirst 7 = .ok (.iload 4, 2) := by decide +kernel
theorem dX1_leansWithFirst_9 : decode cX1_leansWithFirst 9 = .ok (.iaload, 1) := by decide +kernel
theorem dX1_leansWithFirst_10 : decode cX1_leansWithFirst 10 = .ok (.iload_n 2, 1) := by decide +kernel
theorem dX1_leansWithFirst_11 : decode cX1_leansWithFirst 11 = .ok (.iload_n 3, 1) := by decide +kernel
theorem dX1_leansWithFirst_12 : decode cX1_leansWithFirst 12 = .ok (.iconst (-1), 1) := by decide +kernel
theorem dX1_leansWithFirst_13 : decode cX1_leansWithFirst 13 = .ok (.ixor, 1) := by decide +kernel
theorem dX1_leansWithFirst_14 : decode cX1_leansWithFirst 14 = .ok (.iand, 1) := by decide +kernel
theorem dX1_leansWithFirst_15 : decode cX1_leansWithFirst 15 = .ok (.invokevirtual 49, 3) := by decide +kernel
theorem dX1_leansWithFirst_18 : decode cX1_leansWithFirst 18 = .ok (.aload_n 0, 1) := by decide +kernel
theorem dX1_leansWithFirst_19 : decode cX1_leansWithFirst 19 = .ok (.getfield 9, 3) := by decide +kernel
theorem dX1_leansWithFirst_22 : decode cX1_leansWithFirst 22 = .ok (.iload 4, 2) := by decide +kernel
theorem dX1_leansWithFirst_24 : decode cX1_leansWithFirst 24 = .ok (.iaload, 1) := by decide +kernel
theorem dX1_leansWithFirst_25 : decode cX1_leansWithFirst 25 = .ok (.isub, 1) := by decide +kernel
theorem dX1_leansWithFirst_26 : decode cX1_leansWithFirst 26 = .ok (.istore 5, 2) := by decide +kernel
theorem dX1_leansWithFirst_28 : decode cX1_leansWithFirst 28 = .ok (.iload 5, 2) := by decide +kernel
theorem dX1_leansWithFirst_30 : decode cX1_leansWithFirst 30 = .ok (.invokestatic 53, 3) := by decide +kernel
theorem dX1_leansWithFirst_33 : decode cX1_leansWithFirst 33 = .ok (.aload_n 0, 1) := by decide +kernel
theorem dX1_leansWithFirst_34 : decode cX1_leansWithFirst 34 = .ok (.getfield 15, 3) := by decide +kernel
theorem dX1_leansWithFirst_37 : decode cX1_leansWithFirst 37 = .ok (.iload_n 3, 1) := by decide +kernel
theorem dX1_leansWithFirst_38 : decode cX1_leansWithFirst 38 = .ok (.iconst 1, 1) := by decide +kernel
theorem dX1_leansWithFirst_39 : decode cX1_leansWithFirst 39 = .ok (.iload 4, 2) := by decide +kernel
theorem dX1_leansWithFirst_41 : decode cX1_leansWithFirst 41 = .ok (.ishl, 1) := by decide +kernel
theorem dX1_leansWithFirst_42 : decode cX1_leansWithFirst 42 = .ok (.iconst (-1), 1) := by decide +kernel
theorem dX1_leansWithFirst_43 : decode cX1_leansWithFirst 43 = .ok (.ixor, 1) := by decide +kernel
theorem dX1_leansWithFirst_44 : decode cX1_leansWithFirst 44 = .ok (.iand, 1) := by decide +kernel
theorem dX1_leansWithFirst_45 : decode cX1_leansWithFirst 45 = .ok (.iaload, 1) := by decide +kernel
theorem dX1_leansWithFirst_46 : decode cX1_leansWithFirst 46 = .ok (.iadd, 1) := by decide +kernel
theorem dX1_leansWithFirst_47 : decode cX1_leansWithFirst 47 = .ok (.ireturn, 1) := by decide +kernel
theorem dX2_init_0 : decode cX2_init 0 = .ok (.aload_n 0, 1) := by decide +kernel
theorem dX2_init_1 : decode cX2_init 1 = .ok (.invokespecial 3, 3) := by decide +kernel
theorem dX2_init_4 : decode cX2_init 4 = .ok (.aload_n 0, 1) := by decide +kernel
theorem dX2_init_5 : decode cX2_init 5 = .ok (.bipush 8, 2) := by decide +kernel
theorem dX2_init_7 : decode cX2_init 7 = .ok (.newarray .int, 2) := by decide +kernel
theorem dX2_init_9 : decode cX2_init 9 = .ok (.putfield 9, 3) := by decide +kernel
theorem dX2_init_12 : decode cX2_init 12 = .ok (.aload_n 0, 1) := by decide +kernel
theorem dX2_init_13 : decode cX2_init 13 = .ok (.bipush 8, 2) := by decide +kernel
theorem dX2_init_15 : decode cX2_init 15 = .ok (.newarray .int, 2) := by decide +kernel
theorem dX2_init_17 : decode cX2_init 17 = .ok (.putfield 15, 3) := by decide +kernel
theorem dX2_init_20 : decode cX2_init 20 = .ok (.aload_n 0, 1) := by decide +kernel
theorem dX2_init_21 : decode cX2_init 21 = .ok (.sipush 1280, 3) := by decide +kernel
theorem dX2_init_24 : decode cX2_init 24 = .ok (.newarray .long, 2) := by decide +kernel
theorem dX2_init_26 : decode cX2_init 26 = .ok (.putfield 18, 3) := by decide +kernel
theorem dX2_init_29 : decode cX2_init 29 = .ok (.iconst 0, 1) := by decide +kernel
theorem dX2_init_30 : decode cX2_init 30 = .ok (.istore_n 1, 1) := by decide +kernel
theorem dX2_init_31 : decode cX2_init 31 = .ok (.iload_n 1, 1) := by decide +kernel
theorem dX2_init_32 : decode cX2_init 32 = .ok (.bipush 8, 2) := by decide +kernel
theorem dX2_init_34 : decode cX2_init 34 = .ok (.if_icmp .ge 16, 3) := by decide +kernel
theorem dX2_init_37 : decode cX2_init 37 = .ok (.aload_n 0, 1) := by decide +kernel
theorem dX2_init_38 : decode cX2_init 38 = .ok (.getfield 9, 3) := by decide +kernel
theorem dX2_init_41 : decode cX2_init 41 = .ok (.iload_n 1, 1) := by decide +kernel
theorem dX2_init_42 : decode cX2_init 42 = .ok (.iconst (-1), 1) := by decide +kernel
theorem dX2_init_43 : decode cX2_init 43 = .ok (.iastore, 1) := by decide +kernel
theorem dX2_init_44 : decode cX2_init 44 = .ok (.iinc 1 1, 3) := by decide +kernel
theorem dX2_init_47 : decode cX2_init 47 = .ok (.goto (-16), 3) := by decide +kernel
theorem dX2_init_50 : decode cX2_init 50 = .ok (.return_, 1) := by decide +kernel
theorem dX2_heldBy_0 : decode cX2_heldBy 0 = .ok (.aload_n 0, 1) := by decide +kernel
theorem dX2_heldBy_1 : decode cX2_heldBy 1 = .ok (.getfield 9, 3) := by decide +kernel
theorem dX2_heldBy_4 : decode cX2_heldBy 4 = .ok (.iload_n 1, 1) := by decide +kernel
theorem dX2_heldBy_5 : decode cX2_heldBy 5 = .ok (.iaload, 1) := by decide +kernel
theorem dX2_heldBy_6 : decode cX2_heldBy 6 = .ok (.ireturn, 1) := by decide +kernel
theorem dX2_sizeOf_0 : decode cX2_sizeOf 0 = .ok (.aload_n 0, 1) := by decide +kernel
theorem dX2_sizeOf_1 : decode cX2_sizeOf 1 = .ok (.getfield 15, 3) := by decide +kernel
theorem dX2_sizeOf_4 : decode cX2_sizeOf 4 = .ok (.iload_n 1, 1) := by decide +kernel
theorem dX2_sizeOf_5 : decode cX2_sizeOf 5 = .ok (.iaload, 1) := by decide +kernel
theorem dX2_sizeOf_6 : decode cX2_sizeOf 6 = .ok (.ireturn, 1) := by decide +kernel
theorem dX2_holdsRow_0 : decode cX2_holdsRow 0 = .ok (.aload_n 0, 1) := by decide +kernel
theorem dX2_holdsRow_1 : decode cX2_holdsRow 1 = .ok (.getfield 9, 3) := by decide +kernel
theorem dX2_holdsRow_4 : decode cX2_holdsRow 4 = .ok (.iload_n 1, 1) := by decide +kernel
theorem dX2_holdsRow_5 : decode cX2_holdsRow 5 = .ok (.iaload, 1) := by decide +kernel
theorem dX2_holdsRow_6 : decode cX2_holdsRow 6 = .ok (.bipush 100, 2) := by decide +kernel
theorem dX2_holdsRow_8 : decode cX2_holdsRow 8 = .ok (.if_icmp .lt 7, 3) := by decide +kernel
theorem dX2_holdsRow_11 : decode cX2_holdsRow 11 = .ok (.iconst 1, 1) := by decide +kernel
theorem dX2_holdsRow_12 : decode cX2_holdsRow 12 = .ok (.goto 4, 3) := by decide +kernel
theorem dX2_holdsRow_15 : decode cX2_holdsRow 15 = .ok (.iconst 0, 1) := by decide +kernel
theorem dX2_holdsRow_16 : decode cX2_holdsRow 16 = .ok (.ireturn, 1) := by decide +kernel
theorem dX2_holdsQuestion_0 : decode cX2_holdsQuestion 0 = .ok (.aload_n 0, 1) := by decide +kernel
theorem dX2_holdsQuestion_1 : decode cX2_holdsQuestion 1 = .ok (.getfield 9, 3) := by decide +kernel
theorem dX2_holdsQuestion_4 : decode cX2_holdsQuestion 4 = .ok (.iload_n 1, 1) := by decide +kernel
theorem dX2_holdsQuestion_5 : decode cX2_holdsQuestion 5 = .ok (.iaload, 1) := by decide +kernel
theorem dX2_holdsQuestion_6 : decode cX2_holdsQuestion 6 = .ok (.iconst (-1), 1) := by decide +kernel
theorem dX2_holdsQuestion_7 : decode cX2_holdsQuestion 7 = .ok (.if_icmp .eq 18, 3) := by decide +kernel
theorem dX2_holdsQuestion_10 : decode cX2_holdsQuestion 10 = .ok (.aload_n 0, 1) := by decide +kernel
theorem dX2_holdsQuestion_11 : decode cX2_holdsQuestion 11 = .ok (.getfield 9, 3) := by decide +kernel
theorem dX2_holdsQuestion_14 : decode cX2_holdsQuestion 14 = .ok (.iload_n 1, 1) := by decide +kernel
theorem dX2_holdsQuestion_15 : decode cX2_holdsQuestion 15 = .ok (.iaload, 1) := by decide +kernel
theorem dX2_holdsQuestion_16 : decode cX2_holdsQuestion 16 = .ok (.bipush 100, 2) := by decide +kernel
theorem dX2_holdsQuestion_18 : decode cX2_holdsQuestion 18 = .ok (.if_icmp .ge 7, 3) := by decide +kernel
theorem dX2_holdsQuestion_21 : decode cX2_holdsQuestion 21 = .ok (.iconst 1, 1) := by decide +kernel
theorem dX2_holdsQuestion_22 : decode cX2_holdsQuestion 22 = .ok (.goto 4, 3) := by decide +kernel
theorem dX2_holdsQuestion_25 : decode cX2_holdsQuestion 25 = .ok (.iconst 0, 1) := by decide +kernel
theorem dX2_holdsQuestion_26 : decode cX2_holdsQuestion 26 = .ok (.ireturn, 1) := by decide +kernel
theorem dX2_refusalOfRow_0 : decode cX2_refusalOfRow 0 = .ok (.aload_n 0, 1) := by decide +kernel
theorem dX2_refusalOfRow_1 : decode cX2_refusalOfRow 1 = .ok (.iload_n 1, 1) := by decide +kernel
theorem dX2_refusalOfRow_2 : decode cX2_refusalOfRow 2 = .ok (.iload_n 1, 1) := by decide +kernel
theorem dX2_refusalOfRow_3 : decode cX2_refusalOfRow 3 = .ok (.invokevirtual 22, 3) := by decide +kernel
theorem dX2_refusalOfRow_6 : decode cX2_refusalOfRow 6 = .ok (.ireturn, 1) := by decide +kernel
theorem dX2_refusalOfRows_0 : decode cX2_refusalOfRows 0 = .ok (.iload_n 1, 1) := by decide +kernel
theorem dX2_refusalOfRows_1 : decode cX2_refusalOfRows 1 = .ok (.invokestatic 26, 3) := by decide +kernel
theorem dX2_refusalOfRows_4 : decode cX2_refusalOfRows 4 = .ok (.ifCond .eq 10, 3) := by decide +kernel
theorem dX2_refusalOfRows_7 : decode cX2_refusalOfRows 7 = .ok (.iload_n 2, 1) := by decide +kernel
theorem dX2_refusalOfRows_8 : decode cX2_refusalOfRows 8 = .ok (.invokestatic 26, 3) := by decide +kernel
theorem dX2_refusalOfRows_11 : decode cX2_refusalOfRows 11 = .ok (.ifCond .ne 5, 3) := by decide +kernel
theorem dX2_refusalOfRows_14 : decode cX2_refusalOfRows 14 = .ok (.iconst (-1), 1) := by decide +kernel
theorem dX2_refusalOfRows_15 : decode cX2_refusalOfRows 15 = .ok (.ireturn, 1) := by decide +kernel
theorem dX2_refusalOfRows_16 : decode cX2_refusalOfRows 16 = .ok (.aload_n 0, 1) := by decide +kernel
theorem dX2_refusalOfRows_17 : decode cX2_refusalOfRows 17 = .ok (.iload_n 1, 1) := by decide +kernel
theorem dX2_refusalOfRows_18 : decode cX2_refusalOfRows 18 = .ok (.invokevirtual 30, 3) := by decide +kernel
theorem dX2_refusalOfRows_21 : decode cX2_refusalOfRows 21 = .ok (.ifCond .ne 11, 3) := by decide +kernel
theorem dX2_refusalOfRows_24 : decode cX2_refusalOfRows 24 = .ok (.aload_n 0, 1) := by decide +kernel
theorem dX2_refusalOfRows_25 : decode cX2_refusalOfRows 25 = .ok (.iload_n 2, 1) := by decide +kernel
theorem dX2_refusalOfRows_26 : decode cX2_refusalOfRows 26 = .ok (.invokevirtual 30, 3) := by decide +kernel
theorem dX2_refusalOfRows_29 : decode cX2_refusalOfRows 29 = .ok (.ifCond .eq 6, 3) := by decide +kernel
theorem dX2_refusalOfRows_32 : decode cX2_refusalOfRows 32 = .ok (.bipush (-2), 2) := by decide +kernel
theorem dX2_refusalOfRows_34 : decode cX2_refusalOfRows 34 = .ok (.ireturn, 1) := by decide +kernel
theorem dX2_refusalOfRows_35 : decode cX2_refusalOfRows 35 = .ok (.aload_n 0, 1) := by decide +kernel
theorem dX2_refusalOfRows_36 : decode cX2_refusalOfRows 36 = .ok (.iload_n 1, 1) := by decide +kernel
theorem dX2_refusalOfRows_37 : decode cX2_refusalOfRows 37 = .ok (.invokevirtual 33, 3) := by decide +kernel
theorem dX2_refusalOfRows_40 : decode cX2_refusalOfRows 40 = .ok (.ifCond .eq 33, 3) := by decide +kernel
theorem dX2_refusalOfRows_43 : decode cX2_refusalOfRows 43 = .ok (.aload_n 0, 1) := by decide +kernel
theorem dX2_refusalOfRows_44 : decode cX2_refusalOfRows 44 = .ok (.iload_n 2, 1) := by decide +kernel
theorem dX2_refusalOfRows_45 : decode cX2_refusalOfRows 45 = .ok (.invokevirtual 33, 3) := by decide +kernel
theorem dX2_refusalOfRows_48 : decode cX2_refusalOfRows 48 = .ok (.ifCond .eq 25, 3) := by decide +kernel
theorem dX2_refusalOfRows_51 : decode cX2_refusalOfRows 51 = .ok (.aload_n 0, 1) := by decide +kernel
theorem dX2_refusalOfRows_52 : decode cX2_refusalOfRows 52 = .ok (.getfield 9, 3) := by decide +kernel
theorem dX2_refusalOfRows_55 : decode cX2_refusalOfRows 55 = .ok (.iload_n 1, 1) := by decide +kernel
theorem dX2_refusalOfRows_56 : decode cX2_refusalOfRows 56 = .ok (.iaload, 1) := by decide +kernel
theorem dX2_refusalOfRows_57 : decode cX2_refusalOfRows 57 = .ok (.aload_n 0, 1) := by decide +kernel
theorem dX2_refusalOfRows_58 : decode cX2_refusalOfRows 58 = .ok (.getfield 9, 3) := by decide +kernel
theorem dX2_refusalOfRows_61 : decode cX2_refusalOfRows 61 = .ok (.iload_n 2, 1) := by decide +kernel
theorem dX2_refusalOfRows_62 : decode cX2_refusalOfRows 62 = .ok (.iaload, 1) := by decide +kernel
theorem dX2_refusalOfRows_63 : decode cX2_refusalOfRows 63 = .ok (.if_icmp .ne 7, 3) := by decide +kernel
theorem dX2_refusalOfRows_66 : decode cX2_refusalOfRows 66 = .ok (.iconst 0, 1) := by decide +kernel
theorem dX2_refusalOfRows_67 : decode cX2_refusalOfRows 67 = .ok (.goto 5, 3) := by decide +kernel
theorem dX2_refusalOfRows_70 : decode cX2_refusalOfRows 70 = .ok (.bipush (-2), 2) := by decide +kernel
theorem dX2_refusalOfRows_72 : decode cX2_refusalOfRows 72 = .ok (.ireturn, 1) := by decide +kernel
theorem dX2_refusalOfRows_73 : decode cX2_refusalOfRows 73 = .ok (.bipush (-3), 2) := by decide +kernel
theorem dX2_refusalOfRows_75 : decode cX2_refusalOfRows 75 = .ok (.ireturn, 1) := by decide +kernel
theorem dX2_has_0 : decode cX2_has 0 = .ok (.iload_n 2, 1) := by decide +kernel
theorem dX2_has_1 : decode cX2_has 1 = .ok (.ifCond .lt 19, 3) := by decide +kernel
theorem dX2_has_4 : decode cX2_has 4 = .ok (.iload_n 2, 1) := by decide +kernel
theorem dX2_has_5 : decode cX2_has 5 = .ok (.aload_n 0, 1) := by decide +kernel
theorem dX2_has_6 : decode cX2_has 6 = .ok (.getfield 15, 3) := by decide +kernel
theorem dX2_has_9 : decode cX2_has 9 = .ok (.iload_n 1, 1) := by decide +kernel
theorem dX2_has_10 : decode cX2_has 10 = .ok (.iaload, 1) := by decide +kernel
theorem dX2_has_11 : decode cX2_has 11 = .ok (.iload_n 3, 1) := by decide +kernel
theorem dX2_has_12 : decode cX2_has 12 = .ok (.isub, 1) := by decide +kernel
theorem dX2_has_13 : decode cX2_has 13 = .ok (.if_icmp .gt 7, 3) := by decide +kernel
theorem dX2_has_16 : decode cX2_has 16 = .ok (.iconst 1, 1) := by decide +kernel
theorem dX2_has_17 : decode cX2_has 17 = .ok (.goto 4, 3) := by decide +kernel
theorem dX2_has_20 : decode cX2_has 20 = .ok (.iconst 0, 1) := by decide +kernel
theorem dX2_has_21 : decode cX2_has 21 = .ok (.ireturn, 1) := by decide +kernel
theorem dX2_putRow_0 : decode cX2_putRow 0 = .ok (.aload_n 0, 1) := by decide +kernel
theorem dX2_putRow_1 : decode cX2_putRow 1 = .ok (.getfield 9, 3) := by decide +kernel
theorem dX2_putRow_4 : decode cX2_putRow 4 = .ok (.iload_n 1, 1) := by decide +kernel
theorem dX2_putRow_5 : decode cX2_putRow 5 = .ok (.bipush 100, 2) := by decide +kernel
theorem dX2_putRow_7 : decode cX2_putRow 7 = .ok (.iload_n 2, 1) := by decide +kernel
theorem dX2_putRow_8 : decode cX2_putRow 8 = .ok (.iadd, 1) := by decide +kernel
theorem dX2_putRow_9 : decode cX2_putRow 9 = .ok (.iastore, 1) := by decide +kernel
theorem dX2_putRow_10 : decode cX2_putRow 10 = .ok (.aload_n 0, 1) := by decide +kernel
theorem dX2_putRow_11 : decode cX2_putRow 11 = .ok (.getfield 15, 3) := by decide +kernel
theorem dX2_putRow_14 : decode cX2_putRow 14 = .ok (.iload_n 1, 1) := by decide +kernel
theorem dX2_putRow_15 : decode cX2_putRow 15 = .ok (.iload_n 3, 1) := by decide +kernel
theorem dX2_putRow_16 : decode cX2_putRow 16 = .ok (.iastore, 1) := by decide +kernel
theorem dX2_putRow_17 : decode cX2_putRow 17 = .ok (.iconst 0, 1) := by decide +kernel
theorem dX2_putRow_18 : decode cX2_putRow 18 = .ok (.istore 4, 2) := by decide +kernel
theorem dX2_putRow_20 : decode cX2_putRow 20 = .ok (.iload 4, 2) := by decide +kernel
theorem dX2_putRow_22 : decode cX2_putRow 22 = .ok (.iload_n 3, 1) := by decide +kernel
theorem dX2_putRow_23 : decode cX2_putRow 23 = .ok (.if_icmp .ge 23, 3) := by decide +kernel
theorem dX2_putRow_26 : decode cX2_putRow 26 = .ok (.aload_n 0, 1) := by decide +kernel
theorem dX2_putRow_27 : decode cX2_putRow 27 = .ok (.getfield 18, 3) := by decide +kernel
theorem dX2_putRow_30 : decode cX2_putRow 30 = .ok (.iload_n 1, 1) := by decide +kernel
theorem dX2_putRow_31 : decode cX2_putRow 31 = .ok (.sipush 160, 3) := by decide +kernel
theorem dX2_putRow_34 : decode cX2_putRow 34 = .ok (.imul, 1) := by decide +kernel
theorem dX2_putRow_35 : decode cX2_putRow 35 = .ok (.iload 4, 2) := by decide +kernel
theorem dX2_putRow_37 : decode cX2_putRow 37 = .ok (.iadd, 1) := by decide +kernel
theorem dX2_putRow_38 : decode cX2_putRow 38 = .ok (.lconst 0, 1) := by decide +kernel
theorem dX2_putRow_39 : decode cX2_putRow 39 = .ok (.lastore, 1) := by decide +kernel
theorem dX2_putRow_40 : decode cX2_putRow 40 = .ok (.iinc 4 1, 3) := by decide +kernel
theorem dX2_putRow_43 : decode cX2_putRow 43 = .ok (.goto (-23), 3) := by decide +kernel
theorem dX2_putRow_46 : decode cX2_putRow 46 = .ok (.return_, 1) := by decide +kernel
theorem dX2_putQuestion_0 : decode cX2_putQuestion 0 = .ok (.aload_n 0, 1) := by decide +kernel
theorem dX2_putQuestion_1 : decode cX2_putQuestion 1 = .ok (.getfield 9, 3) := by decide +kernel
theorem dX2_putQuestion_4 : decode cX2_putQuestion 4 = .ok (.iload_n 1, 1) := by decide +kernel
theorem dX2_putQuestion_5 : decode cX2_putQuestion 5 = .ok (.iload_n 2, 1) := by decide +kernel
theorem dX2_putQuestion_6 : decode cX2_putQuestion 6 = .ok (.iastore, 1) := by decide +kernel
theorem dX2_putQuestion_7 : decode cX2_putQuestion 7 = .ok (.return_, 1) := by decide +kernel
theorem dX2_dropQuestionsFrom_0 : decode cX2_dropQuestionsFrom 0 = .ok (.iconst 0, 1) := by decide +kernel
theorem dX2_dropQuestionsFrom_1 : decode cX2_dropQuestionsFrom 1 = .ok (.istore_n 2, 1) := by decide +kernel
theorem dX2_dropQuestionsFrom_2 : decode cX2_dropQuestionsFrom 2 = .ok (.iload_n 2, 1) := by decide +kernel
theorem dX2_dropQuestionsFrom_3 : decode cX2_dropQuestionsFrom 3 = .ok (.bipush 8, 2) := by decide +kernel
theorem dX2_dropQuestionsFrom_5 : decode cX2_dropQuestionsFrom 5 = .ok (.if_icmp .ge 34, 3) := by decide +kernel
theorem dX2_dropQuestionsFrom_8 : decode cX2_dropQuestionsFrom 8 = .ok (.aload_n 0, 1) := by decide +kernel
theorem dX2_dropQuestionsFrom_9 : decode cX2_dropQuestionsFrom 9 = .ok (.iload_n 2, 1) := by decide +kernel
theorem dX2_dropQuestionsFrom_10 : decode cX2_dropQuestionsFrom 10 = .ok (.invokevirtual 30, 3) := by decide +kernel
theorem dX2_dropQuestionsFrom_13 : decode cX2_dropQuestionsFrom 13 = .ok (.ifCond .eq 20, 3) := by decide +kernel
theorem dX2_dropQuestionsFrom_16 : decode cX2_dropQuestionsFrom 16 = .ok (.aload_n 0, 1) := by decide +kernel
theorem dX2_dropQuestionsFrom_17 : decode cX2_dropQuestionsFrom 17 = .ok (.getfield 9, 3) := by decide +kernel
theorem dX2_dropQuestionsFrom_20 : decode cX2_dropQuestionsFrom 20 = .ok (.iload_n 2, 1) := by decide +kernel
theorem dX2_dropQuestionsFrom_21 : decode cX2_dropQuestionsFrom 21 = .ok (.iaload, 1) := by decide +kernel
theorem dX2_dropQuestionsFrom_22 : decode cX2_dropQuestionsFrom 22 = .ok (.iload_n 1, 1) := by decide +kernel
theorem dX2_dropQuestionsFrom_23 : decode cX2_dropQuestionsFrom 23 = .ok (.if_icmp .lt 10, 3) := by decide +kernel
theorem dX2_dropQuestionsFrom_26 : decode cX2_dropQuestionsFrom 26 = .ok (.aload_n 0, 1) := by decide +kernel
theorem dX2_dropQuestionsFrom_27 : decode cX2_dropQuestionsFrom 27 = .ok (.getfield 9, 3) := by decide +kernel
theorem dX2_dropQuestionsFrom_30 : decode cX2_dropQuestionsFrom 30 = .ok (.iload_n 2, 1) := by decide +kernel
theorem dX2_dropQuestionsFrom_31 : decode cX2_dropQuestionsFrom 31 = .ok (.iconst (-1), 1) := by decide +kernel
theorem dX2_dropQuestionsFrom_32 : decode cX2_dropQuestionsFrom 32 = .ok (.iastore, 1) := by decide +kernel
theorem dX2_dropQuestionsFrom_33 : decode cX2_dropQuestionsFrom 33 = .ok (.iinc 2 1, 3) := by decide +kernel
theorem dX2_dropQuestionsFrom_36 : decode cX2_dropQuestionsFrom 36 = .ok (.goto (-34), 3) := by decide +kernel
theorem dX2_dropQuestionsFrom_39 : decode cX2_dropQuestionsFrom 39 = .ok (.return_, 1) := by decide +kernel
theorem dX2_putElement_0 : decode cX2_putElement 0 = .ok (.aload_n 0, 1) := by decide +kernel
theorem dX2_putElement_1 : decode cX2_putElement 1 = .ok (.getfield 18, 3) := by decide +kernel
theorem dX2_putElement_4 : decode cX2_putElement 4 = .ok (.iload_n 1, 1) := by decide +kernel
theorem dX2_putElement_5 : decode cX2_putElement 5 = .ok (.sipush 160, 3) := by decide +kernel
theorem dX2_putElement_8 : decode cX2_putElement 8 = .ok (.imul, 1) := by decide +kernel
theorem dX2_putElement_9 : decode cX2_putElement 9 = .ok (.iload_n 2, 1) := by decide +kernel
theorem dX2_putElement_10 : decode cX2_putElement 10 = .ok (.iadd, 1) := by decide +kernel
theorem dX2_putElement_11 : decode cX2_putElement 11 = .ok (.aload_n 0, 1) := by decide +kernel
theorem dX2_putElement_12 : decode cX2_putElement 12 = .ok (.getfield 9, 3) := by decide +kernel
theorem dX2_putElement_15 : decode cX2_putElement 15 = .ok (.iload_n 1, 1) := by decide +kernel
theorem dX2_putElement_16 : decode cX2_putElement 16 = .ok (.iaload, 1) := by decide +kernel
theorem dX2_putElement_17 : decode cX2_putElement 17 = .ok (.bipush 100, 2) := by decide +kernel
theorem dX2_putElement_19 : decode cX2_putElement 19 = .ok (.isub, 1) := by decide +kernel
theorem dX2_putElement_20 : decode cX2_putElement 20 = .ok (.lload_n 3, 1) := by decide +kernel
theorem dX2_putElement_21 : decode cX2_putElement 21 = .ok (.invokestatic 36, 3) := by decide +kernel
theorem dX2_putElement_24 : decode cX2_putElement 24 = .ok (.lastore, 1) := by decide +kernel
theorem dX2_putElement_25 : decode cX2_putElement 25 = .ok (.return_, 1) := by decide +kernel
theorem dX2_lowestBits_0 : decode cX2_lowestBits 0 = .ok (.iload_n 0, 1) := by decide +kernel
theorem dX2_lowestBits_1 : decode cX2_lowestBits 1 = .ok (.tableswitch 41 0 2 #[27, 32, 37], 27) := by decide +kernel
theorem dX2_lowestBits_28 : decode cX2_lowestBits 28 = .ok (.lload_n 1, 1) := by decide +kernel
theorem dX2_lowestBits_29 : decode cX2_lowestBits 29 = .ok (.l2i, 1) := by decide +kernel
theorem dX2_lowestBits_30 : decode cX2_lowestBits 30 = .ok (.i2b, 1) := by decide +kernel
theorem dX2_lowestBits_31 : decode cX2_lowestBits 31 = .ok (.i2l, 1) := by decide +kernel
theorem dX2_lowestBits_32 : decode cX2_lowestBits 32 = .ok (.lreturn, 1) := by decide +kernel
theorem dX2_lowestBits_33 : decode cX2_lowestBits 33 = .ok (.lload_n 1, 1) := by decide +kernel
theorem dX2_lowestBits_34 : decode cX2_lowestBits 34 = .ok (.l2i, 1) := by decide +kernel
theorem dX2_lowestBits_35 : decode cX2_lowestBits 35 = .ok (.i2s, 1) := by decide +kernel
theorem dX2_lowestBits_36 : decode cX2_lowestBits 36 = .ok (.i2l, 1) := by decide +kernel
theorem dX2_lowestBits_37 : decode cX2_lowestBits 37 = .ok (.lreturn, 1) := by decide +kernel
theorem dX2_lowestBits_38 : decode cX2_lowestBits 38 = .ok (.lload_n 1, 1) := by decide +kernel
theorem dX2_lowestBits_39 : decode cX2_lowestBits 39 = .ok (.l2i, 1) := by decide +kernel
theorem dX2_lowestBits_40 : decode cX2_lowestBits 40 = .ok (.i2l, 1) := by decide +kernel
theorem dX2_lowestBits_41 : decode cX2_lowestBits 41 = .ok (.lreturn, 1) := by decide +kernel
theorem dX2_lowestBits_42 : decode cX2_lowestBits 42 = .ok (.lload_n 1, 1) := by decide +kernel
theorem dX2_lowestBits_43 : decode cX2_lowestBits 43 = .ok (.lreturn, 1) := by decide +kernel
theorem dX2_copyElements_0 : decode cX2_copyElements 0 = .ok (.aload_n 0, 1) := by decide +kernel
theorem dX2_copyElements_1 : decode cX2_copyElements 1 = .ok (.getfield 18, 3) := by decide +kernel
theorem dX2_copyElements_4 : decode cX2_copyElements 4 = .ok (.iload_n 1, 1) := by decide +kernel
theorem dX2_copyElements_5 : decode cX2_copyElements 5 = .ok (.sipush 160, 3) := by decide +kernel
theorem dX2_copyElements_8 : decode cX2_copyElements 8 = .ok (.imul, 1) := by decide +kernel
theorem dX2_copyElements_9 : decode cX2_copyElements 9 = .ok (.iload_n 3, 1) := by decide +kernel
theorem dX2_copyElements_10 : decode cX2_copyElements 10 = .ok (.iadd, 1) := by decide +kernel
theorem dX2_copyElements_11 : decode cX2_copyElements 11 = .ok (.aload_n 0, 1) := by decide +kernel
theorem dX2_copyElements_12 : decode cX2_copyElements 12 = .ok (.getfield 18, 3) := by decide +kernel
theorem dX2_copyElements_15 : decode cX2_copyElements 15 = .ok (.iload_n 2, 1) := by decide +kernel
theorem dX2_copyElements_16 : decode cX2_copyElements 16 = .ok (.sipush 160, 3) := by decide +kernel
theorem dX2_copyElements_19 : decode cX2_copyElements 19 = .ok (.imul, 1) := by decide +kernel
theorem dX2_copyElements_20 : decode cX2_copyElements 20 = .ok (.iload 4, 2) := by decide +kernel
theorem dX2_copyElements_22 : decode cX2_copyElements 22 = .ok (.iadd, 1) := by decide +kernel
theorem dX2_copyElements_23 : decode cX2_copyElements 23 = .ok (.iload 5, 2) := by decide +kernel
theorem dX2_copyElements_25 : decode cX2_copyElements 25 = .ok (.invokestatic 40, 3) := by decide +kernel
theorem dX2_copyElements_28 : decode cX2_copyElements 28 = .ok (.return_, 1) := by decide +kernel
theorem dX2_longAt_0 : decode cX2_longAt 0 = .ok (.aload_n 0, 1) := by decide +kernel
theorem dX2_longAt_1 : decode cX2_longAt 1 = .ok (.getfield 18, 3) := by decide +kernel
theorem dX2_longAt_4 : decode cX2_longAt 4 = .ok (.iload_n 1, 1) := by decide +kernel
theorem dX2_longAt_5 : decode cX2_longAt 5 = .ok (.sipush 160, 3) := by decide +kernel
theorem dX2_longAt_8 : decode cX2_longAt 8 = .ok (.imul, 1) := by decide +kernel
theorem dX2_longAt_9 : decode cX2_longAt 9 = .ok (.iload_n 2, 1) := by decide +kernel
theorem dX2_longAt_10 : decode cX2_longAt 10 = .ok (.iadd, 1) := by decide +kernel
theorem dX2_longAt_11 : decode cX2_longAt 11 = .ok (.laload, 1) := by decide +kernel
theorem dX2_longAt_12 : decode cX2_longAt 12 = .ok (.lreturn, 1) := by decide +kernel
theorem dX2_intAt_0 : decode cX2_intAt 0 = .ok (.aload_n 0, 1) := by decide +kernel
theorem dX2_intAt_1 : decode cX2_intAt 1 = .ok (.getfield 18, 3) := by decide +kernel
theorem dX2_intAt_4 : decode cX2_intAt 4 = .ok (.iload_n 1, 1) := by decide +kernel
theorem dX2_intAt_5 : decode cX2_intAt 5 = .ok (.sipush 160, 3) := by decide +kernel
theorem dX2_intAt_8 : decode cX2_intAt 8 = .ok (.imul, 1) := by decide +kernel
theorem dX2_intAt_9 : decode cX2_intAt 9 = .ok (.iload_n 2, 1) := by decide +kernel
theorem dX2_intAt_10 : decode cX2_intAt 10 = .ok (.iadd, 1) := by decide +kernel
theorem dX2_intAt_11 : decode cX2_intAt 11 = .ok (.laload, 1) := by decide +kernel
theorem dX2_intAt_12 : decode cX2_intAt 12 = .ok (.l2i, 1) := by decide +kernel
theorem dX2_intAt_13 : decode cX2_intAt 13 = .ok (.ireturn, 1) := by decide +kernel
theorem dX2_copyInts_0 : decode cX2_copyInts 0 = .ok (.iconst 0, 1) := by decide +kernel
theorem dX2_copyInts_1 : decode cX2_copyInts 1 = .ok (.istore_n 3, 1) := by decide +kernel
theorem dX2_copyInts_2 : decode cX2_copyInts 2 = .ok (.iload_n 3, 1) := by decide +kernel
theorem dX2_copyInts_3 : decode cX2_copyInts 3 = .ok (.aload_n 0, 1) := by decide +kernel
theorem dX2_copyInts_4 : decode cX2_copyInts 4 = .ok (.getfield 15, 3) := by decide +kernel
theorem dX2_copyInts_7 : decode cX2_copyInts 7 = .ok (.iload_n 1, 1) := by decide +kernel
theorem dX2_copyInts_8 : decode cX2_copyInts 8 = .ok (.iaload, 1) := by decide +kernel
theorem dX2_copyInts_9 : decode cX2_copyInts 9 = .ok (.if_icmp .ge 24, 3) := by decide +kernel
theorem dX2_copyInts_12 : decode cX2_copyInts 12 = .ok (.iload_n 3, 1) := by decide +kernel
theorem dX2_copyInts_13 : decode cX2_copyInts 13 = .ok (.aload_n 2, 1) := by decide +kernel
theorem dX2_copyInts_14 : decode cX2_copyInts 14 = .ok (.arraylength, 1) := by decide +kernel
theorem dX2_copyInts_15 : decode cX2_copyInts 15 = .ok (.if_icmp .ge 18, 3) := by decide +kernel
theorem dX2_copyInts_18 : decode cX2_copyInts 18 = .ok (.aload_n 2, 1) := by decide +kernel
theorem dX2_copyInts_19 : decode cX2_copyInts 19 = .ok (.iload_n 3, 1) := by decide +kernel
theorem dX2_copyInts_20 : decode cX2_copyInts 20 = .ok (.aload_n 0, 1) := by decide +kernel
theorem dX2_copyInts_21 : decode cX2_copyInts 21 = .ok (.iload_n 1, 1) := by decide +kernel
theorem dX2_copyInts_22 : decode cX2_copyInts 22 = .ok (.iload_n 3, 1) := by decide +kernel
theorem dX2_copyInts_23 : decode cX2_copyInts 23 = .ok (.invokevirtual 46, 3) := by decide +kernel
theorem dX2_copyInts_26 : decode cX2_copyInts 26 = .ok (.iastore, 1) := by decide +kernel
theorem dX2_copyInts_27 : decode cX2_copyInts 27 = .ok (.iinc 3 1, 3) := by decide +kernel
theorem dX2_copyInts_30 : decode cX2_copyInts 30 = .ok (.goto (-28), 3) := by decide +kernel
theorem dX2_copyInts_33 : decode cX2_copyInts 33 = .ok (.return_, 1) := by decide +kernel
theorem dX3_init_0 : decode cX3_init 0 = .ok (.aload_n 0, 1) := by decide +kernel
theorem dX3_init_1 : decode cX3_init 1 = .ok (.invokespecial 3, 3) := by decide +kernel
theorem dX3_init_4 : decode cX3_init 4 = .ok (.aload_n 0, 1) := by decide +kernel
theorem dX3_init_5 : decode cX3_init 5 = .ok (.bipush 16, 2) := by decide +kernel
theorem dX3_init_7 : decode cX3_init 7 = .ok (.newarray .int, 2) := by decide +kernel
theorem dX3_init_9 : decode cX3_init 9 = .ok (.putfield 11, 3) := by decide +kernel
theorem dX3_init_12 : decode cX3_init 12 = .ok (.aload_n 0, 1) := by decide +kernel
theorem dX3_init_13 : decode cX3_init 13 = .ok (.bipush 64, 2) := by decide +kernel
theorem dX3_init_15 : decode cX3_init 15 = .ok (.newarray .int, 2) := by decide +kernel
theorem dX3_init_17 : decode cX3_init 17 = .ok (.putfield 15, 3) := by decide +kernel
theorem dX3_init_20 : decode cX3_init 20 = .ok (.aload_n 0, 1) := by decide +kernel
theorem dX3_init_21 : decode cX3_init 21 = .ok (.bipush 50, 2) := by decide +kernel
theorem dX3_init_23 : decode cX3_init 23 = .ok (.newarray .int, 2) := by decide +kernel
theorem dX3_init_25 : decode cX3_init 25 = .ok (.putfield 18, 3) := by decide +kernel
theorem dX3_init_28 : decode cX3_init 28 = .ok (.aload_n 0, 1) := by decide +kernel
theorem dX3_init_29 : decode cX3_init 29 = .ok (.iconst 5, 1) := by decide +kernel
theorem dX3_init_30 : decode cX3_init 30 = .ok (.putfield 21, 3) := by decide +kernel
theorem dX3_init_33 : decode cX3_init 33 = .ok (.aload_n 0, 1) := by decide +kernel
theorem dX3_init_34 : decode cX3_init 34 = .ok (.iconst 1, 1) := by decide +kernel
theorem dX3_init_35 : decode cX3_init 35 = .ok (.putfield 25, 3) := by decide +kernel
theorem dX3_init_38 : decode cX3_init 38 = .ok (.return_, 1) := by decide +kernel
theorem dX3_become_0 : decode cX3_become 0 = .ok (.aload_n 1, 1) := by decide +kernel
theorem dX3_become_1 : decode cX3_become 1 = .ok (.getfield 11, 3) := by decide +kernel
theorem dX3_become_4 : decode cX3_become 4 = .ok (.iconst 0, 1) := by decide +kernel
theorem dX3_become_5 : decode cX3_become 5 = .ok (.aload_n 0, 1) := by decide +kernel
theorem dX3_become_6 : decode cX3_become 6 = .ok (.getfield 11, 3) := by decide +kernel
theorem dX3_become_9 : decode cX3_become 9 = .ok (.iconst 0, 1) := by decide +kernel
theorem dX3_become_10 : decode cX3_become 10 = .ok (.aload_n 0, 1) := by decide +kernel
theorem dX3_become_11 : decode cX3_become 11 = .ok (.getfield 11, 3) := by decide +kernel
theorem dX3_become_14 : decode cX3_become 14 = .ok (.arraylength, 1) := by decide +kernel
theorem dX3_become_15 : decode cX3_become 15 = .ok (.invokestatic 28, 3) := by decide +kernel
theorem dX3_become_18 : decode cX3_become 18 = .ok (.aload_n 1, 1) := by decide +kernel
theorem dX3_become_19 : decode cX3_become 19 = .ok (.getfield 15, 3) := by decide +kernel
theorem dX3_become_22 : decode cX3_become 22 = .ok (.iconst 0, 1) := by decide +kernel
theorem dX3_become_23 : decode cX3_become 23 = .ok (.aload_n 0, 1) := by decide +kernel
theorem dX3_become_24 : decode cX3_become 24 = .ok (.getfield 15, 3) := by decide +kernel
theorem dX3_become_27 : decode cX3_become 27 = .ok (.iconst 0, 1) := by decide +kernel
theorem dX3_become_28 : decode cX3_become 28 = .ok (.aload_n 0, 1) := by decide +kernel
theorem dX3_become_29 : decode cX3_become 29 = .ok (.getfield 15, 3) := by decide +kernel
theorem dX3_become_32 : decode cX3_become 32 = .ok (.arraylength, 1) := by decide +kernel
theorem dX3_become_33 : decode cX3_become 33 = .ok (.invokestatic 28, 3) := by decide +kernel
theorem dX3_become_36 : decode cX3_become 36 = .ok (.aload_n 1, 1) := by decide +kernel
theorem dX3_become_37 : decode cX3_become 37 = .ok (.getfield 18, 3) := by decide +kernel
theorem dX3_become_40 : decode cX3_become 40 = .ok (.iconst 0, 1) := by decide +kernel
theorem dX3_become_41 : decode cX3_become 41 = .ok (.aload_n 0, 1) := by decide +kernel
theorem dX3_become_42 : decode cX3_become 42 = .ok (.getfield 18, 3) := by decide +kernel
theorem dX3_become_45 : decode cX3_become 45 = .ok (.iconst 0, 1) := by decide +kernel
theorem dX3_become_46 : decode cX3_become 46 = .ok (.aload_n 0, 1) := by decide +kernel
theorem dX3_become_47 : decode cX3_become 47 = .ok (.getfield 18, 3) := by decide +kernel
theorem dX3_become_50 : decode cX3_become 50 = .ok (.arraylength, 1) := by decide +kernel
theorem dX3_become_51 : decode cX3_become 51 = .ok (.invokestatic 28, 3) := by decide +kernel
theorem dX3_become_54 : decode cX3_become 54 = .ok (.aload_n 0, 1) := by decide +kernel
theorem dX3_become_55 : decode cX3_become 55 = .ok (.aload_n 1, 1) := by decide +kernel
theorem dX3_become_56 : decode cX3_become 56 = .ok (.getfield 34, 3) := by decide +kernel
theorem dX3_become_59 : decode cX3_become 59 = .ok (.putfield 34, 3) := by decide +kernel
theorem dX3_become_62 : decode cX3_become 62 = .ok (.aload_n 0, 1) := by decide +kernel
theorem dX3_become_63 : decode cX3_become 63 = .ok (.aload_n 1, 1) := by decide +kernel
theorem dX3_become_64 : decode cX3_become 64 = .ok (.getfield 37, 3) := by decide +kernel
theorem dX3_become_67 : decode cX3_become 67 = .ok (.putfield 37, 3) := by decide +kernel
theorem dX3_become_70 : decode cX3_become 70 = .ok (.aload_n 0, 1) := by decide +kernel
theorem dX3_become_71 : decode cX3_become 71 = .ok (.aload_n 1, 1) := by decide +kernel
theorem dX3_become_72 : decode cX3_become 72 = .ok (.getfield 21, 3) := by decide +kernel
theorem dX3_become_75 : decode cX3_become 75 = .ok (.putfield 21, 3) := by decide +kernel
theorem dX3_become_78 : decode cX3_become 78 = .ok (.aload_n 0, 1) := by decide +kernel
theorem dX3_become_79 : decode cX3_become 79 = .ok (.aload_n 1, 1) := by decide +kernel
theorem dX3_become_80 : decode cX3_become 80 = .ok (.getfield 40, 3) := by decide +kernel
theorem dX3_become_83 : decode cX3_become 83 = .ok (.putfield 40, 3) := by decide +kernel
theorem dX3_become_86 : decode cX3_become 86 = .ok (.aload_n 0, 1) := by decide +kernel
theorem dX3_become_87 : decode cX3_become 87 = .ok (.aload_n 1, 1) := by decide +kernel
theorem dX3_become_88 : decode cX3_become 88 = .ok (.getfield 25, 3) := by decide +kernel
theorem dX3_become_91 : decode cX3_become 91 = .ok (.putfield 25, 3) := by decide +kernel
theorem dX3_become_94 : decode cX3_become 94 = .ok (.aload_n 0, 1) := by decide +kernel
theorem dX3_become_95 : decode cX3_become 95 = .ok (.aload_n 1, 1) := by decide +kernel
theorem dX3_become_96 : decode cX3_become 96 = .ok (.getfield 43, 3) := by decide +kernel
theorem dX3_become_99 : decode cX3_become 99 = .ok (.putfield 43, 3) := by decide +kernel
theorem dX3_become_102 : decode cX3_become 102 = .ok (.aload_n 0, 1) := by decide +kernel
theorem dX3_become_103 : decode cX3_become 103 = .ok (.aload_n 1, 1) := by decide +kernel
theorem dX3_become_104 : decode cX3_become 104 = .ok (.getfield 46, 3) := by decide +kernel
theorem dX3_become_107 : decode cX3_become 107 = .ok (.putfield 46, 3) := by decide +kernel
theorem dX3_become_110 : decode cX3_become 110 = .ok (.return_, 1) := by decide +kernel
theorem dX3_hasQuestion_0 : decode cX3_hasQuestion 0 = .ok (.iload_n 1, 1) := by decide +kernel
theorem dX3_hasQuestion_1 : decode cX3_hasQuestion 1 = .ok (.iconst 0, 1) := by decide +kernel
theorem dX3_hasQuestion_2 : decode cX3_hasQuestion 2 = .ok (.aload_n 0, 1) := by decide +kernel
theorem dX3_hasQuestion_3 : decode cX3_hasQuestion 3 = .ok (.getfield 34, 3) := by decide +kernel
theorem dX3_hasQuestion_6 : decode cX3_hasQuestion 6 = .ok (.iconst 1, 1) := by decide +kernel
theorem dX3_hasQuestion_7 : decode cX3_hasQuestion 7 = .ok (.isub, 1) := by decide +kernel
theorem dX3_hasQuestion_8 : decode cX3_hasQuestion 8 = .ok (.invokestatic 49, 3) := by decide +kernel
theorem dX3_hasQuestion_11 : decode cX3_hasQuestion 11 = .ok (.ireturn, 1) := by decide +kernel
theorem dX3_hasQuestions_0 : decode cX3_hasQuestions 0 = .ok (.iload_n 1, 1) := by decide +kernel
theorem dX3_hasQuestions_1 : decode cX3_hasQuestions 1 = .ok (.aload_n 0, 1) := by decide +kernel
theorem dX3_hasQuestions_2 : decode cX3_hasQuestions 2 = .ok (.getfield 34, 3) := by decide +kernel
theorem dX3_hasQuestions_5 : decode cX3_hasQuestions 5 = .ok (.iushr, 1) := by decide +kernel
theorem dX3_hasQuestions_6 : decode cX3_hasQuestions 6 = .ok (.ifCond .ne 7, 3) := by decide +kernel
theorem dX3_hasQuestions_9 : decode cX3_hasQuestions 9 = .ok (.iconst 1, 1) := by decide +kernel
theorem dX3_hasQuestions_10 : decode cX3_hasQuestions 10 = .ok (.goto 4, 3) := by decide +kernel
theorem dX3_hasQuestions_13 : decode cX3_hasQuestions 13 = .ok (.iconst 0, 1) := by decide +kernel
theorem dX3_hasQuestions_14 : decode cX3_hasQuestions 14 = .ok (.ireturn, 1) := by decide +kernel
theorem dX3_hasGroup_0 : decode cX3_hasGroup 0 = .ok (.iload_n 1, 1) := by decide +kernel
theorem dX3_hasGroup_1 : decode cX3_hasGroup 1 = .ok (.iconst 0, 1) := by decide +kernel
theorem dX3_hasGroup_2 : decode cX3_hasGroup 2 = .ok (.aload_n 0, 1) := by decide +kernel
theorem dX3_hasGroup_3 : decode cX3_hasGroup 3 = .ok (.getfield 37, 3) := by decide +kernel
theorem dX3_hasGroup_6 : decode cX3_hasGroup 6 = .ok (.iconst 1, 1) := by decide +kernel
theorem dX3_hasGroup_7 : decode cX3_hasGroup 7 = .ok (.isub, 1) := by decide +kernel
theorem dX3_hasGroup_8 : decode cX3_hasGroup 8 = .ok (.invokestatic 49, 3) := by decide +kernel
theorem dX3_hasGroup_11 : decode cX3_hasGroup 11 = .ok (.ireturn, 1) := by decide +kernel
theorem dX3_hasRoomForQuestion_0 : decode cX3_hasRoomForQuestion 0 = .ok (.aload_n 0, 1) := by decide +kernel
theorem dX3_hasRoomForQuestion_1 : decode cX3_hasRoomForQuestion 1 = .ok (.getfield 34, 3) := by decide +kernel
theorem dX3_hasRoomForQuestion_4 : decode cX3_hasRoomForQuestion 4 = .ok (.bipush 8, 2) := by decide +kernel
theorem dX3_hasRoomForQuestion_6 : decode cX3_hasRoomForQuestion 6 = .ok (.if_icmp .ge 7, 3) := by decide +kernel
theorem dX3_hasRoomForQuestion_9 : decode cX3_hasRoomForQuestion 9 = .ok (.iconst 1, 1) := by decide +kernel
theorem dX3_hasRoomForQuestion_10 : decode cX3_hasRoomForQuestion 10 = .ok (.goto 4, 3) := by decide +kernel
theorem dX3_hasRoomForQuestion_13 : decode cX3_hasRoomForQuestion 13 = .ok (.iconst 0, 1) := by decide +kernel
theorem dX3_hasRoomForQuestion_14 : decode cX3_hasRoomForQuestion 14 = .ok (.ireturn, 1) := by decide +kernel
theorem dX3_hasRoomForGroup_0 : decode cX3_hasRoomForGroup 0 = .ok (.aload_n 0, 1) := by decide +kernel
theorem dX3_hasRoomForGroup_1 : decode cX3_hasRoomForGroup 1 = .ok (.getfield 37, 3) := by decide +kernel
theorem dX3_hasRoomForGroup_4 : decode cX3_hasRoomForGroup 4 = .ok (.bipush 10, 2) := by decide +kernel
theorem dX3_hasRoomForGroup_6 : decode cX3_hasRoomForGroup 6 = .ok (.if_icmp .ge 7, 3) := by decide +kernel
theorem dX3_hasRoomForGroup_9 : decode cX3_hasRoomForGroup 9 = .ok (.iconst 1, 1) := by decide +kernel
theorem dX3_hasRoomForGroup_10 : decode cX3_hasRoomForGroup 10 = .ok (.goto 4, 3) := by decide +kernel
theorem dX3_hasRoomForGroup_13 : decode cX3_hasRoomForGroup 13 = .ok (.iconst 0, 1) := by decide +kernel
theorem dX3_hasRoomForGroup_14 : decode cX3_hasRoomForGroup 14 = .ok (.ireturn, 1) := by decide +kernel
theorem dX3_addQuestion_0 : decode cX3_addQuestion 0 = .ok (.aload_n 0, 1) := by decide +kernel
theorem dX3_addQuestion_1 : decode cX3_addQuestion 1 = .ok (.dup, 1) := by decide +kernel
theorem dX3_addQuestion_2 : decode cX3_addQuestion 2 = .ok (.getfield 34, 3) := by decide +kernel
theorem dX3_addQuestion_5 : decode cX3_addQuestion 5 = .ok (.dup_x1, 1) := by decide +kernel
theorem dX3_addQuestion_6 : decode cX3_addQuestion 6 = .ok (.iconst 1, 1) := by decide +kernel
theorem dX3_addQuestion_7 : decode cX3_addQuestion 7 = .ok (.iadd, 1) := by decide +kernel
theorem dX3_addQuestion_8 : decode cX3_addQuestion 8 = .ok (.putfield 34, 3) := by decide +kernel
theorem dX3_addQuestion_11 : decode cX3_addQuestion 11 = .ok (.istore_n 3, 1) := by decide +kernel
theorem dX3_addQuestion_12 : decode cX3_addQuestion 12 = .ok (.aload_n 0, 1) := by decide +kernel
theorem dX3_addQuestion_13 : decode cX3_addQuestion 13 = .ok (.getfield 11, 3) := by decide +kernel
theorem dX3_addQuestion_16 : decode cX3_addQuestion 16 = .ok (.iload_n 3, 1) := by decide +kernel
theorem dX3_addQuestion_17 : decode cX3_addQuestion 17 = .ok (.iconst 2, 1) := by decide +kernel
theorem dX3_addQuestion_18 : decode cX3_addQuestion 18 = .ok (.imul, 1) := by decide +kernel
theorem dX3_addQuestion_19 : decode cX3_addQuestion 19 = .ok (.iload_n 1, 1) := by decide +kernel
theorem dX3_addQuestion_20 : decode cX3_addQuestion 20 = .ok (.iastore, 1) := by decide +kernel
theorem dX3_addQuestion_21 : decode cX3_addQuestion 21 = .ok (.aload_n 0, 1) := by decide +kernel
theorem dX3_addQuestion_22 : decode cX3_addQuestion 22 = .ok (.getfield 11, 3) := by decide +kernel
theorem dX3_addQuestion_25 : decode cX3_addQuestion 25 = .ok (.iload_n 3, 1) := by decide +kernel
theorem dX3_addQuestion_26 : decode cX3_addQuestion 26 = .ok (.iconst 2, 1) := by decide +kernel
theorem dX3_addQuestion_27 : decode cX3_addQuestion 27 = .ok (.imul, 1) := by decide +kernel
theorem dX3_addQuestion_28 : decode cX3_addQuestion 28 = .ok (.iconst 1, 1) := by decide +kernel
theorem dX3_addQuestion_29 : decode cX3_addQuestion 29 = .ok (.iadd, 1) := by decide +kernel
theorem dX3_addQuestion_30 : decode cX3_addQuestion 30 = .ok (.iload_n 2, 1) := by decide +kernel
theorem dX3_addQuestion_31 : decode cX3_addQuestion 31 = .ok (.iastore, 1) := by decide +kernel
theorem dX3_addQuestion_32 : decode cX3_addQuestion 32 = .ok (.iload_n 3, 1) := by decide +kernel
theorem dX3_addQuestion_33 : decode cX3_addQuestion 33 = .ok (.ireturn, 1) := by decide +kernel
theorem dX3_addGroup_0 : decode cX3_addGroup 0 = .ok (.aload_n 0, 1) := by decide +kernel
theorem dX3_addGroup_1 : decode cX3_addGroup 1 = .ok (.dup, 1) := by decide +kernel
theorem dX3_addGroup_2 : decode cX3_addGroup 2 = .ok (.getfield 37, 3) := by decide +kernel
theorem dX3_addGroup_5 : decode cX3_addGroup 5 = .ok (.dup_x1, 1) := by decide +kernel
theorem dX3_addGroup_6 : decode cX3_addGroup 6 = .ok (.iconst 1, 1) := by decide +kernel
theorem dX3_addGroup_7 : decode cX3_addGroup 7 = .ok (.iadd, 1) := by decide +kernel
theorem dX3_addGroup_8 : decode cX3_addGroup 8 = .ok (.putfield 37, 3) := by decide +kernel
theorem dX3_addGroup_11 : decode cX3_addGroup 11 = .ok (.istore 6, 2) := by decide +kernel
theorem dX3_addGroup_13 : decode cX3_addGroup 13 = .ok (.iload 6, 2) := by decide +kernel
theorem dX3_addGroup_15 : decode cX3_addGroup 15 = .ok (.iconst 5, 1) := by decide +kernel
theorem dX3_addGroup_16 : decode cX3_addGroup 16 = .ok (.imul, 1) := by decide +kernel
theorem dX3_addGroup_17 : decode cX3_addGroup 17 = .ok (.istore 7, 2) := by decide +kernel
theorem dX3_addGroup_19 : decode cX3_addGroup 19 = .ok (.aload_n 0, 1) := by decide +kernel
theorem dX3_addGroup_20 : decode cX3_addGroup 20 = .ok (.getfield 18, 3) := by decide +kernel
theorem dX3_addGroup_23 : decode cX3_addGroup 23 = .ok (.iload 7, 2) := by decide +kernel
theorem dX3_addGroup_25 : decode cX3_addGroup 25 = .ok (.iload_n 1, 1) := by decide +kernel
theorem dX3_addGroup_26 : decode cX3_addGroup 26 = .ok (.iastore, 1) := by decide +kernel
theorem dX3_addGroup_27 : decode cX3_addGroup 27 = .ok (.aload_n 0, 1) := by decide +kernel
theorem dX3_addGroup_28 : decode cX3_addGroup 28 = .ok (.getfield 18, 3) := by decide +kernel
theorem dX3_addGroup_31 : decode cX3_addGroup 31 = .ok (.iload 7, 2) := by decide +kernel
theorem dX3_addGroup_33 : decode cX3_addGroup 33 = .ok (.iconst 1, 1) := by decide +kernel
theorem dX3_addGroup_34 : decode cX3_addGroup 34 = .ok (.iadd, 1) := by decide +kernel
theorem dX3_addGroup_35 : decode cX3_addGroup 35 = .ok (.iload_n 2, 1) := by decide +kernel
theorem dX3_addGroup_36 : decode cX3_addGroup 36 = .ok (.iastore, 1) := by decide +kernel
theorem dX3_addGroup_37 : decode cX3_addGroup 37 = .ok (.aload_n 0, 1) := by decide +kernel
theorem dX3_addGroup_38 : decode cX3_addGroup 38 = .ok (.getfield 18, 3) := by decide +kernel
theorem dX3_addGroup_41 : decode cX3_addGroup 41 = .ok (.iload 7, 2) := by decide +kernel
theorem dX3_addGroup_43 : decode cX3_addGroup 43 = .ok (.iconst 2, 1) := by decide +kernel
theorem dX3_addGroup_44 : decode cX3_addGroup 44 = .ok (.iadd, 1) := by decide +kernel
theorem dX3_addGroup_45 : decode cX3_addGroup 45 = .ok (.iload_n 3, 1) := by decide +kernel
theorem dX3_addGroup_46 : decode cX3_addGroup 46 = .ok (.iastore, 1) := by decide +kernel
theorem dX3_addGroup_47 : decode cX3_addGroup 47 = .ok (.aload_n 0, 1) := by decide +kernel
theorem dX3_addGroup_48 : decode cX3_addGroup 48 = .ok (.getfield 18, 3) := by decide +kernel
theorem dX3_addGroup_51 : decode cX3_addGroup 51 = .ok (.iload 7, 2) := by decide +kernel
theorem dX3_addGroup_53 : decode cX3_addGroup 53 = .ok (.iconst 3, 1) := by decide +kernel
theorem dX3_addGroup_54 : decode cX3_addGroup 54 = .ok (.iadd, 1) := by decide +kernel
theorem dX3_addGroup_55 : decode cX3_addGroup 55 = .ok (.iload 4, 2) := by decide +kernel
theorem dX3_addGroup_57 : decode cX3_addGroup 57 = .ok (.iastore, 1) := by decide +kernel
theorem dX3_addGroup_58 : decode cX3_addGroup 58 = .ok (.aload_n 0, 1) := by decide +kernel
theorem dX3_addGroup_59 : decode cX3_addGroup 59 = .ok (.getfield 18, 3) := by decide +kernel
theorem dX3_addGroup_62 : decode cX3_addGroup 62 = .ok (.iload 7, 2) := by decide +kernel
theorem dX3_addGroup_64 : decode cX3_addGroup 64 = .ok (.iconst 4, 1) := by decide +kernel
theorem dX3_addGroup_65 : decode cX3_addGroup 65 = .ok (.iadd, 1) := by decide +kernel
theorem dX3_addGroup_66 : decode cX3_addGroup 66 = .ok (.iload 5, 2) := by decide +kernel
theorem dX3_addGroup_68 : decode cX3_addGroup 68 = .ok (.iastore, 1) := by decide +kernel
theorem dX3_addGroup_69 : decode cX3_addGroup 69 = .ok (.iload 6, 2) := by decide +kernel
theorem dX3_addGroup_71 : decode cX3_addGroup 71 = .ok (.ireturn, 1) := by decide +kernel
theorem dX3_splitGroup_0 : decode cX3_splitGroup 0 = .ok (.aload_n 0, 1) := by decide +kernel
theorem dX3_splitGroup_1 : decode cX3_splitGroup 1 = .ok (.getfield 18, 3) := by decide +kernel
theorem dX3_splitGroup_4 : decode cX3_splitGroup 4 = .ok (.iload_n 1, 1) := by decide +kernel
theorem dX3_splitGroup_5 : decode cX3_splitGroup 5 = .ok (.iconst 5, 1) := by decide +kernel
theorem dX3_splitGroup_6 : decode cX3_splitGroup 6 = .ok (.imul, 1) := by decide +kernel
theorem dX3_splitGroup_7 : decode cX3_splitGroup 7 = .ok (.dup2, 1) := by decide +kernel
theorem dX3_splitGroup_8 : decode cX3_splitGroup 8 = .ok (.iaload, 1) := by decide +kernel
theorem dX3_splitGroup_9 : decode cX3_splitGroup 9 = .ok (.iload_n 3, 1) := by decide +kernel
theorem dX3_splitGroup_10 : decode cX3_splitGroup 10 = .ok (.isub, 1) := by decide +kernel
theorem dX3_splitGroup_11 : decode cX3_splitGroup 11 = .ok (.iastore, 1) := by decide +kernel
theorem dX3_splitGroup_12 : decode cX3_splitGroup 12 = .ok (.aload_n 0, 1) := by decide +kernel
theorem dX3_splitGroup_13 : decode cX3_splitGroup 13 = .ok (.iload_n 3, 1) := by decide +kernel
theorem dX3_splitGroup_14 : decode cX3_splitGroup 14 = .ok (.iload_n 2, 1) := by decide +kernel
theorem dX3_splitGroup_15 : decode cX3_splitGroup 15 = .ok (.aload_n 0, 1) := by decide +kernel
theorem dX3_splitGroup_16 : decode cX3_splitGroup 16 = .ok (.iload_n 1, 1) := by decide +kernel
theorem dX3_splitGroup_17 : decode cX3_splitGroup 17 = .ok (.invokevirtual 53, 3) := by decide +kernel
theorem dX3_splitGroup_20 : decode cX3_splitGroup 20 = .ok (.aload_n 0, 1) := by decide +kernel
theorem dX3_splitGroup_21 : decode cX3_splitGroup 21 = .ok (.iload_n 1, 1) := by decide +kernel
theorem dX3_splitGroup_22 : decode cX3_splitGroup 22 = .ok (.invokevirtual 57, 3) := by decide +kernel
theorem dX3_splitGroup_25 : decode cX3_splitGroup 25 = .ok (.aload_n 0, 1) := by decide +kernel
theorem dX3_splitGroup_26 : decode cX3_splitGroup 26 = .ok (.iload_n 1, 1) := by decide +kernel
theorem dX3_splitGroup_27 : decode cX3_splitGroup 27 = .ok (.invokevirtual 60, 3) := by decide +kernel
theorem dX3_splitGroup_30 : decode cX3_splitGroup 30 = .ok (.invokevirtual 63, 3) := by decide +kernel
theorem dX3_splitGroup_33 : decode cX3_splitGroup 33 = .ok (.ireturn, 1) := by decide +kernel
theorem dX3_kindOf_0 : decode cX3_kindOf 0 = .ok (.aload_n 0, 1) := by decide +kernel
theorem dX3_kindOf_1 : decode cX3_kindOf 1 = .ok (.getfield 11, 3) := by decide +kernel
theorem dX3_kindOf_4 : decode cX3_kindOf 4 = .ok (.iload_n 1, 1) := by decide +kernel
theorem dX3_kindOf_5 : decode cX3_kindOf 5 = .ok (.iconst 2, 1) := by decide +kernel
theorem dX3_kindOf_6 : decode cX3_kindOf 6 = .ok (.imul, 1) := by decide +kernel
theorem dX3_kindOf_7 : decode cX3_kindOf 7 = .ok (.iaload, 1) := by decide +kernel
theorem dX3_kindOf_8 : decode cX3_kindOf 8 = .ok (.ireturn, 1) := by decide +kernel
theorem dX3_aOf_0 : decode cX3_aOf 0 = .ok (.aload_n 0, 1) := by decide +kernel
theorem dX3_aOf_1 : decode cX3_aOf 1 = .ok (.getfield 11, 3) := by decide +kernel
theorem dX3_aOf_4 : decode cX3_aOf 4 = .ok (.iload_n 1, 1) := by decide +kernel
theorem dX3_aOf_5 : decode cX3_aOf 5 = .ok (.iconst 2, 1) := by decide +kernel
theorem dX3_aOf_6 : decode cX3_aOf 6 = .ok (.imul, 1) := by decide +kernel
theorem dX3_aOf_7 : decode cX3_aOf 7 = .ok (.iconst 1, 1) := by decide +kernel
theorem dX3_aOf_8 : decode cX3_aOf 8 = .ok (.iadd, 1) := by decide +kernel
theorem dX3_aOf_9 : decode cX3_aOf 9 = .ok (.iaload, 1) := by decide +kernel
theorem dX3_aOf_10 : decode cX3_aOf 10 = .ok (.ireturn, 1) := by decide +kernel
theorem dX3_bearingOf_0 : decode cX3_bearingOf 0 = .ok (.aload_n 0, 1) := by decide +kernel
theorem dX3_bearingOf_1 : decode cX3_bearingOf 1 = .ok (.getfield 15, 3) := by decide +kernel
theorem dX3_bearingOf_4 : decode cX3_bearingOf 4 = .ok (.iload_n 1, 1) := by decide +kernel
theorem dX3_bearingOf_5 : decode cX3_bearingOf 5 = .ok (.bipush 8, 2) := by decide +kernel
theorem dX3_bearingOf_7 : decode cX3_bearingOf 7 = .ok (.imul, 1) := by decide +kernel
theorem dX3_bearingOf_8 : decode cX3_bearingOf 8 = .ok (.iload_n 2, 1) := by decide +kernel
theorem dX3_bearingOf_9 : decode cX3_bearingOf 9 = .ok (.iadd, 1) := by decide +kernel
theorem dX3_bearingOf_10 : decode cX3_bearingOf 10 = .ok (.iaload, 1) := by decide +kernel
theorem dX3_bearingOf_11 : decode cX3_bearingOf 11 = .ok (.ireturn, 1) := by decide +kernel
theorem dX3_putBearing_0 : decode cX3_putBearing 0 = .ok (.aload_n 0, 1) := by decide +kernel
theorem dX3_putBearing_1 : decode cX3_putBearing 1 = .ok (.getfield 15, 3) := by decide +kernel
theorem dX3_putBearing_4 : decode cX3_putBearing 4 = .ok (.iload_n 1, 1) := by decide +kernel
theorem dX3_putBearing_5 : decode cX3_putBearing 5 = .ok (.bipush 8, 2) := by decide +kernel
theorem dX3_putBearing_7 : decode cX3_putBearing 7 = .ok (.imul, 1) := by decide +kernel
theorem dX3_putBearing_8 : decode cX3_putBearing 8 = .ok (.iload_n 2, 1) := by decide +kernel
theorem dX3_putBearing_9 : decode cX3_putBearing 9 = .ok (.iadd, 1) := by decide +kernel
theorem dX3_putBearing_10 : decode cX3_putBearing 10 = .ok (.iload_n 3, 1) := by decide +kernel
theorem dX3_putBearing_11 : decode cX3_putBearing 11 = .ok (.iastore, 1) := by decide +kernel
theorem dX3_putBearing_12 : decode cX3_putBearing 12 = .ok (.return_, 1) := by decide +kernel
theorem dX3_countOf_0 : decode cX3_countOf 0 = .ok (.aload_n 0, 1) := by decide +kernel
theorem dX3_countOf_1 : decode cX3_countOf 1 = .ok (.getfield 18, 3) := by decide +kernel
theorem dX3_countOf_4 : decode cX3_countOf 4 = .ok (.iload_n 1, 1) := by decide +kernel
theorem dX3_countOf_5 : decode cX3_countOf 5 = .ok (.iconst 5, 1) := by decide +kernel
theorem dX3_countOf_6 : decode cX3_countOf 6 = .ok (.imul, 1) := by decide +kernel
theorem dX3_countOf_7 : decode cX3_countOf 7 = .ok (.iaload, 1) := by decide +kernel
theorem dX3_countOf_8 : decode cX3_countOf 8 = .ok (.ireturn, 1) := by decide +kernel
theorem dX3_viewOf_0 : decode cX3_viewOf 0 = .ok (.aload_n 0, 1) := by decide +kernel
theorem dX3_viewOf_1 : decode cX3_viewOf 1 = .ok (.getfield 18, 3) := by decide +kernel
theorem dX3_viewOf_4 : decode cX3_viewOf 4 = .ok (.iload_n 1, 1) := by decide +kernel
theorem dX3_viewOf_5 : decode cX3_viewOf 5 = .ok (.iconst 5, 1) := by decide +kernel
theorem dX3_viewOf_6 : decode cX3_viewOf 6 = .ok (.imul, 1) := by decide +kernel
theorem dX3_viewOf_7 : decode cX3_viewOf 7 = .ok (.iconst 1, 1) := by decide +kernel
theorem dX3_viewOf_8 : decode cX3_viewOf 8 = .ok (.iadd, 1) := by decide +kernel
theorem dX3_viewOf_9 : decode cX3_viewOf 9 = .ok (.iaload, 1) := by decide +kernel
theorem dX3_viewOf_10 : decode cX3_viewOf 10 = .ok (.ireturn, 1) := by decide +kernel
theorem dX3_putView_0 : decode cX3_putView 0 = .ok (.aload_n 0, 1) := by decide +kernel
theorem dX3_putView_1 : decode cX3_putView 1 = .ok (.getfield 18, 3) := by decide +kernel
theorem dX3_putView_4 : decode cX3_putView 4 = .ok (.iload_n 1, 1) := by decide +kernel
theorem dX3_putView_5 : decode cX3_putView 5 = .ok (.iconst 5, 1) := by decide +kernel
theorem dX3_putView_6 : decode cX3_putView 6 = .ok (.imul, 1) := by decide +kernel
theorem dX3_putView_7 : decode cX3_putView 7 = .ok (.iconst 1, 1) := by decide +kernel
theorem dX3_putView_8 : decode cX3_putView 8 = .ok (.iadd, 1) := by decide +kernel
theorem dX3_putView_9 : decode cX3_putView 9 = .ok (.iload_n 2, 1) := by decide +kernel
theorem dX3_putView_10 : decode cX3_putView 10 = .ok (.iastore, 1) := by decide +kernel
theorem dX3_putView_11 : decode cX3_putView 11 = .ok (.return_, 1) := by decide +kernel
theorem dX3_gladOf_0 : decode cX3_gladOf 0 = .ok (.aload_n 0, 1) := by decide +kernel
theorem dX3_gladOf_1 : decode cX3_gladOf 1 = .ok (.getfield 18, 3) := by decide +kernel
theorem dX3_gladOf_4 : decode cX3_gladOf 4 = .ok (.iload_n 1, 1) := by decide +kernel
theorem dX3_gladOf_5 : decode cX3_gladOf 5 = .ok (.iconst 5, 1) := by decide +kernel
theorem dX3_gladOf_6 : decode cX3_gladOf 6 = .ok (.imul, 1) := by decide +kernel
theorem dX3_gladOf_7 : decode cX3_gladOf 7 = .ok (.iconst 2, 1) := by decide +kernel
theorem dX3_gladOf_8 : decode cX3_gladOf 8 = .ok (.iadd, 1) := by decide +kernel
theorem dX3_gladOf_9 : decode cX3_gladOf 9 = .ok (.iaload, 1) := by decide +kernel
theorem dX3_gladOf_10 : decode cX3_gladOf 10 = .ok (.ireturn, 1) := by decide +kernel
theorem dX3_homeOf_0 : decode cX3_homeOf 0 = .ok (.aload_n 0, 1) := by decide +kernel
theorem dX3_homeOf_1 : decode cX3_homeOf 1 = .ok (.getfield 18, 3) := by decide +kernel
theorem dX3_homeOf_4 : decode cX3_homeOf 4 = .ok (.iload_n 1, 1) := by decide +kernel
theorem dX3_homeOf_5 : decode cX3_homeOf 5 = .ok (.iconst 5, 1) := by decide +kernel
theorem dX3_homeOf_6 : decode cX3_homeOf 6 = .ok (.imul, 1) := by decide +kernel
theorem dX3_homeOf_7 : decode cX3_homeOf 7 = .ok (.iconst 3, 1) := by decide +kernel
theorem dX3_homeOf_8 : decode cX3_homeOf 8 = .ok (.iadd, 1) := by decide +kernel
theorem dX3_homeOf_9 : decode cX3_homeOf 9 = .ok (.iaload, 1) := by decide +kernel
theorem dX3_homeOf_10 : decode cX3_homeOf 10 = .ok (.ireturn, 1) := by decide +kernel
theorem dX3_willOf_0 : decode cX3_willOf 0 = .ok (.aload_n 0, 1) := by decide +kernel
theorem dX3_willOf_1 : decode cX3_willOf 1 = .ok (.getfield 18, 3) := by decide +kernel
theorem dX3_willOf_4 : decode cX3_willOf 4 = .ok (.iload_n 1, 1) := by decide +kernel
theorem dX3_willOf_5 : decode cX3_willOf 5 = .ok (.iconst 5, 1) := by decide +kernel
theorem dX3_willOf_6 : decode cX3_willOf 6 = .ok (.imul, 1) := by decide +kernel
theorem dX3_willOf_7 : decode cX3_willOf 7 = .ok (.iconst 4, 1) := by decide +kernel
theorem dX3_willOf_8 : decode cX3_willOf 8 = .ok (.iadd, 1) := by decide +kernel
theorem dX3_willOf_9 : decode cX3_willOf 9 = .ok (.iaload, 1) := by decide +kernel
theorem dX3_willOf_10 : decode cX3_willOf 10 = .ok (.ireturn, 1) := by decide +kernel
theorem dX3_yesAs_0 : decode cX3_yesAs 0 = .ok (.aload_n 0, 1) := by decide +kernel
theorem dX3_yesAs_1 : decode cX3_yesAs 1 = .ok (.iload_n 1, 1) := by decide +kernel
theorem dX3_yesAs_2 : decode cX3_yesAs 2 = .ok (.invokevirtual 67, 3) := by decide +kernel
theorem dX3_yesAs_5 : decode cX3_yesAs 5 = .ok (.aload_n 0, 1) := by decide +kernel
theorem dX3_yesAs_6 : decode cX3_yesAs 6 = .ok (.iload_n 1, 1) := by decide +kernel
theorem dX3_yesAs_7 : decode cX3_yesAs 7 = .ok (.invokevirtual 70, 3) := by decide +kernel
theorem dX3_yesAs_10 : decode cX3_yesAs 10 = .ok (.iload_n 2, 1) := by decide +kernel
theorem dX3_yesAs_11 : decode cX3_yesAs 11 = .ok (.iload_n 3, 1) := by decide +kernel
theorem dX3_yesAs_12 : decode cX3_yesAs 12 = .ok (.iload 4, 2) := by decide +kernel
theorem dX3_yesAs_14 : decode cX3_yesAs 14 = .ok (.invokestatic 73, 3) := by decide +kernel
theorem dX3_yesAs_17 : decode cX3_yesAs 17 = .ok (.ireturn, 1) := by decide +kernel
theorem dX3_yesOf_0 : decode cX3_yesOf 0 = .ok (.aload_n 0, 1) := by decide +kernel
theorem dX3_yesOf_1 : decode cX3_yesOf 1 = .ok (.iload_n 1, 1) := by decide +kernel
theorem dX3_yesOf_2 : decode cX3_yesOf 2 = .ok (.invokevirtual 67, 3) := by decide +kernel
theorem dX3_yesOf_5 : decode cX3_yesOf 5 = .ok (.aload_n 0, 1) := by decide +kernel
theorem dX3_yesOf_6 : decode cX3_yesOf 6 = .ok (.iload_n 1, 1) := by decide +kernel
theorem dX3_yesOf_7 : decode cX3_yesOf 7 = .ok (.invokevirtual 70, 3) := by decide +kernel
theorem dX3_yesOf_10 : decode cX3_yesOf 10 = .ok (.aload_n 0, 1) := by decide +kernel
theorem dX3_yesOf_11 : decode cX3_yesOf 11 = .ok (.iload_n 2, 1) := by decide +kernel
theorem dX3_yesOf_12 : decode cX3_yesOf 12 = .ok (.invokevirtual 76, 3) := by decide +kernel
theorem dX3_yesOf_15 : decode cX3_yesOf 15 = .ok (.aload_n 0, 1) := by decide +kernel
theorem dX3_yesOf_16 : decode cX3_yesOf 16 = .ok (.iload_n 2, 1) := by decide +kernel
theorem dX3_yesOf_17 : decode cX3_yesOf 17 = .ok (.invokevirtual 53, 3) := by decide +kernel
theorem dX3_yesOf_20 : decode cX3_yesOf 20 = .ok (.iload_n 3, 1) := by decide +kernel
theorem dX3_yesOf_21 : decode cX3_yesOf 21 = .ok (.invokestatic 73, 3) := by decide +kernel
theorem dX3_yesOf_24 : decode cX3_yesOf 24 = .ok (.ireturn, 1) := by decide +kernel
theorem dX3_peopleOf_0 : decode cX3_peopleOf 0 = .ok (.iconst 0, 1) := by decide +kernel
theorem dX3_peopleOf_1 : decode cX3_peopleOf 1 = .ok (.istore_n 2, 1) := by decide +kernel
theorem dX3_peopleOf_2 : decode cX3_peopleOf 2 = .ok (.iconst 0, 1) := by decide +kernel
theorem dX3_peopleOf_3 : decode cX3_peopleOf 3 = .ok (.istore_n 3, 1) := by decide +kernel
theorem dX3_peopleOf_4 : decode cX3_peopleOf 4 = .ok (.iload_n 3, 1) := by decide +kernel
theorem dX3_peopleOf_5 : decode cX3_peopleOf 5 = .ok (.aload_n 0, 1) := by decide +kernel
theorem dX3_peopleOf_6 : decode cX3_peopleOf 6 = .ok (.getfield 37, 3) := by decide +kernel
theorem dX3_peopleOf_9 : decode cX3_peopleOf 9 = .ok (.if_icmp .ge 25, 3) := by decide +kernel
theorem dX3_peopleOf_12 : decode cX3_peopleOf 12 = .ok (.iload_n 1, 1) := by decide +kernel
theorem dX3_peopleOf_13 : decode cX3_peopleOf 13 = .ok (.iload_n 3, 1) := by decide +kernel
theorem dX3_peopleOf_14 : decode cX3_peopleOf 14 = .ok (.invokestatic 79, 3) := by decide +kernel
theorem dX3_peopleOf_17 : decode cX3_peopleOf 17 = .ok (.ifCond .eq 11, 3) := by decide +kernel
theorem dX3_peopleOf_20 : decode cX3_peopleOf 20 = .ok (.iload_n 2, 1) := by decide +kernel
theorem dX3_peopleOf_21 : decode cX3_peopleOf 21 = .ok (.aload_n 0, 1) := by decide +kernel
theorem dX3_peopleOf_22 : decode cX3_peopleOf 22 = .ok (.iload_n 3, 1) := by decide +kernel
theorem dX3_peopleOf_23 : decode cX3_peopleOf 23 = .ok (.invokevirtual 83, 3) := by decide +kernel
theorem dX3_peopleOf_26 : decode cX3_peopleOf 26 = .ok (.iadd, 1) := by decide +kernel
theorem dX3_peopleOf_27 : decode cX3_peopleOf 27 = .ok (.istore_n 2, 1) := by decide +kernel
theorem dX3_peopleOf_28 : decode cX3_peopleOf 28 = .ok (.iinc 3 1, 3) := by decide +kernel
theorem dX3_peopleOf_31 : decode cX3_peopleOf 31 = .ok (.goto (-27), 3) := by decide +kernel
theorem dX3_peopleOf_34 : decode cX3_peopleOf 34 = .ok (.iload_n 2, 1) := by decide +kernel
theorem dX3_peopleOf_35 : decode cX3_peopleOf 35 = .ok (.ireturn, 1) := by decide +kernel
theorem dX3_allOf_0 : decode cX3_allOf 0 = .ok (.iconst 0, 1) := by decide +kernel
theorem dX3_allOf_1 : decode cX3_allOf 1 = .ok (.istore_n 3, 1) := by decide +kernel
theorem dX3_allOf_2 : decode cX3_allOf 2 = .ok (.iconst 0, 1) := by decide +kernel
theorem dX3_allOf_3 : decode cX3_allOf 3 = .ok (.istore 4, 2) := by decide +kernel
theorem dX3_allOf_5 : decode cX3_allOf 5 = .ok (.iload 4, 2) := by decide +kernel
theorem dX3_allOf_7 : decode cX3_allOf 7 = .ok (.aload_n 0, 1) := by decide +kernel
theorem dX3_allOf_8 : decode cX3_allOf 8 = .ok (.getfield 37, 3) := by decide +kernel
theorem dX3_allOf_11 : decode cX3_allOf 11 = .ok (.if_icmp .ge 34, 3) := by decide +kernel
theorem dX3_allOf_14 : decode cX3_allOf 14 = .ok (.iload_n 2, 1) := by decide +kernel
theorem dX3_allOf_15 : decode cX3_allOf 15 = .ok (.iload 4, 2) := by decide +kernel
theorem dX3_allOf_17 : decode cX3_allOf 17 = .ok (.invokestatic 79, 3) := by decide +kernel
theorem dX3_allOf_20 : decode cX3_allOf 20 = .ok (.ifCond .eq 19, 3) := by decide +kernel
theorem dX3_allOf_23 : decode cX3_allOf 23 = .ok (.iload_n 3, 1) := by decide +kernel
theorem dX3_allOf_24 : decode cX3_allOf 24 = .ok (.aload_n 0, 1) := by decide +kernel
theorem dX3_allOf_25 : decode cX3_allOf 25 = .ok (.iload_n 1, 1) := by decide +kernel
theorem dX3_allOf_26 : decode cX3_allOf 26 = .ok (.iload 4, 2) := by decide +kernel
theorem dX3_allOf_28 : decode cX3_allOf 28 = .ok (.aload_n 0, 1) := by decide +kernel
theorem dX3_allOf_29 : decode cX3_allOf 29 = .ok (.iload 4, 2) := by decide +kernel
theorem dX3_allOf_31 : decode cX3_allOf 31 = .ok (.invokevirtual 83, 3) := by decide +kernel
theorem dX3_allOf_34 : decode cX3_allOf 34 = .ok (.invokevirtual 86, 3) := by decide +kernel
theorem dX3_allOf_37 : decode cX3_allOf 37 = .ok (.iadd, 1) := by decide +kernel
theorem dX3_allOf_38 : decode cX3_allOf 38 = .ok (.istore_n 3, 1) := by decide +kernel
theorem dX3_allOf_39 : decode cX3_allOf 39 = .ok (.iinc 4 1, 3) := by decide +kernel
theorem dX3_allOf_42 : decode cX3_allOf 42 = .ok (.goto (-37), 3) := by decide +kernel
theorem dX3_allOf_45 : decode cX3_allOf 45 = .ok (.iload_n 3, 1) := by decide +kernel
theorem dX3_allOf_46 : decode cX3_allOf 46 = .ok (.ireturn, 1) := by decide +kernel
theorem dX3_shareOf_0 : decode cX3_shareOf 0 = .ok (.aload_n 0, 1) := by decide +kernel
theorem dX3_shareOf_1 : decode cX3_shareOf 1 = .ok (.iload_n 1, 1) := by decide +kernel
theorem dX3_shareOf_2 : decode cX3_shareOf 2 = .ok (.iload_n 2, 1) := by decide +kernel
theorem dX3_shareOf_3 : decode cX3_shareOf 3 = .ok (.invokevirtual 90, 3) := by decide +kernel
theorem dX3_shareOf_6 : decode cX3_shareOf 6 = .ok (.aload_n 0, 1) := by decide +kernel
theorem dX3_shareOf_7 : decode cX3_shareOf 7 = .ok (.iload_n 2, 1) := by decide +kernel
theorem dX3_shareOf_8 : decode cX3_shareOf 8 = .ok (.invokevirtual 94, 3) := by decide +kernel
theorem dX3_shareOf_11 : decode cX3_shareOf 11 = .ok (.invokestatic 97, 3) := by decide +kernel
theorem dX3_shareOf_14 : decode cX3_shareOf 14 = .ok (.ireturn, 1) := by decide +kernel
theorem dX3_shareBehind_0 : decode cX3_shareBehind 0 = .ok (.iconst 0, 1) := by decide +kernel
theorem dX3_shareBehind_1 : decode cX3_shareBehind 1 = .ok (.istore 4, 2) := by decide +kernel
theorem dX3_shareBehind_3 : decode cX3_shareBehind 3 = .ok (.iconst 0, 1) := by decide +kernel
theorem dX3_shareBehind_4 : decode cX3_shareBehind 4 = .ok (.istore 5, 2) := by decide +kernel
theorem dX3_shareBehind_6 : decode cX3_shareBehind 6 = .ok (.iload 5, 2) := by decide +kernel
theorem dX3_shareBehind_8 : decode cX3_shareBehind 8 = .ok (.aload_n 0, 1) := by decide +kernel
theorem dX3_shareBehind_9 : decode cX3_shareBehind 9 = .ok (.getfield 34, 3) := by decide +kernel
theorem dX3_shareBehind_12 : decode cX3_shareBehind 12 = .ok (.if_icmp .ge 30, 3) := by decide +kernel
theorem dX3_shareBehind_15 : decode cX3_shareBehind 15 = .ok (.iload_n 3, 1) := by decide +kernel
theorem dX3_shareBehind_16 : decode cX3_shareBehind 16 = .ok (.iload 5, 2) := by decide +kernel
theorem dX3_shareBehind_18 : decode cX3_shareBehind 18 = .ok (.invokestatic 79, 3) := by decide +kernel
theorem dX3_shareBehind_21 : decode cX3_shareBehind 21 = .ok (.ifCond .eq 15, 3) := by decide +kernel
theorem dX3_shareBehind_24 : decode cX3_shareBehind 24 = .ok (.iload 4, 2) := by decide +kernel
theorem dX3_shareBehind_26 : decode cX3_shareBehind 26 = .ok (.aload_n 0, 1) := by decide +kernel
theorem dX3_shareBehind_27 : decode cX3_shareBehind 27 = .ok (.iload 5, 2) := by decide +kernel
theorem dX3_shareBehind_29 : decode cX3_shareBehind 29 = .ok (.iload_n 1, 1) := by decide +kernel
theorem dX3_shareBehind_30 : decode cX3_shareBehind 30 = .ok (.invokevirtual 100, 3) := by decide +kernel
theorem dX3_shareBehind_33 : decode cX3_shareBehind 33 = .ok (.iadd, 1) := by decide +kernel
theorem dX3_shareBehind_34 : decode cX3_shareBehind 34 = .ok (.istore 4, 2) := by decide +kernel
theorem dX3_shareBehind_36 : decode cX3_shareBehind 36 = .ok (.iinc 5 1, 3) := by decide +kernel
theorem dX3_shareBehind_39 : decode cX3_shareBehind 39 = .ok (.goto (-33), 3) := by decide +kernel
theorem dX3_shareBehind_42 : decode cX3_shareBehind 42 = .ok (.iconst 0, 1) := by decide +kernel
theorem dX3_shareBehind_43 : decode cX3_shareBehind 43 = .ok (.sipush 1000, 3) := by decide +kernel
theorem dX3_shareBehind_46 : decode cX3_shareBehind 46 = .ok (.iload_n 2, 1) := by decide +kernel
theorem dX3_shareBehind_47 : decode cX3_shareBehind 47 = .ok (.bipush 10, 2) := by decide +kernel
theorem dX3_shareBehind_49 : decode cX3_shareBehind 49 = .ok (.iload 4, 2) := by decide +kernel
theorem dX3_shareBehind_51 : decode cX3_shareBehind 51 = .ok (.imul, 1) := by decide +kernel
theorem dX3_shareBehind_52 : decode cX3_shareBehind 52 = .ok (.iadd, 1) := by decide +kernel
theorem dX3_shareBehind_53 : decode cX3_shareBehind 53 = .ok (.invokestatic 103, 3) := by decide +kernel
theorem dX3_shareBehind_56 : decode cX3_shareBehind 56 = .ok (.invokestatic 108, 3) := by decide +kernel
theorem dX3_shareBehind_59 : decode cX3_shareBehind 59 = .ok (.ireturn, 1) := by decide +kernel
theorem dX3_holding_0 : decode cX3_holding 0 = .ok (.iconst 0, 1) := by decide +kernel
theorem dX3_holding_1 : decode cX3_holding 1 = .ok (.istore_n 1, 1) := by decide +kernel
theorem dX3_holding_2 : decode cX3_holding 2 = .ok (.iconst 0, 1) := by decide +kernel
theorem dX3_holding_3 : decode cX3_holding 3 = .ok (.istore_n 2, 1) := by decide +kernel
theorem dX3_holding_4 : decode cX3_holding 4 = .ok (.iload_n 2, 1) := by decide +kernel
theorem dX3_holding_5 : decode cX3_holding 5 = .ok (.aload_n 0, 1) := by decide +kernel
theorem dX3_holding_6 : decode cX3_holding 6 = .ok (.getfield 37, 3) := by decide +kernel
theorem dX3_holding_9 : decode cX3_holding 9 = .ok (.if_icmp .ge 25, 3) := by decide +kernel
theorem dX3_holding_12 : decode cX3_holding 12 = .ok (.aload_n 0, 1) := by decide +kernel
theorem dX3_holding_13 : decode cX3_holding 13 = .ok (.iload_n 2, 1) := by decide +kernel
theorem dX3_holding_14 : decode cX3_holding 14 = .ok (.invokevirtual 76, 3) := by decide +kernel
theorem dX3_holding_17 : decode cX3_holding 17 = .ok (.ifCond .ne 11, 3) := by decide +kernel
theorem dX3_holding_20 : decode cX3_holding 20 = .ok (.iload_n 1, 1) := by decide +kernel
theorem dX3_holding_21 : decode cX3_holding 21 = .ok (.aload_n 0, 1) := by decide +kernel
theorem dX3_holding_22 : decode cX3_holding 22 = .ok (.iload_n 2, 1) := by decide +kernel
theorem dX3_holding_23 : decode cX3_holding 23 = .ok (.invokevirtual 83, 3) := by decide +kernel
theorem dX3_holding_26 : decode cX3_holding 26 = .ok (.iadd, 1) := by decide +kernel
theorem dX3_holding_27 : decode cX3_holding 27 = .ok (.istore_n 1, 1) := by decide +kernel
theorem dX3_holding_28 : decode cX3_holding 28 = .ok (.iinc 2 1, 3) := by decide +kernel
theorem dX3_holding_31 : decode cX3_holding 31 = .ok (.goto (-27), 3) := by decide +kernel
theorem dX3_holding_34 : decode cX3_holding 34 = .ok (.iload_n 1, 1) := by decide +kernel
theorem dX3_holding_35 : decode cX3_holding 35 = .ok (.aload_n 0, 1) := by decide +kernel
theorem dX3_holding_36 : decode cX3_holding 36 = .ok (.sipush 1023, 3) := by decide +kernel
theorem dX3_holding_39 : decode cX3_holding 39 = .ok (.invokevirtual 94, 3) := by decide +kernel
theorem dX3_holding_42 : decode cX3_holding 42 = .ok (.invokestatic 97, 3) := by decide +kernel
theorem dX3_holding_45 : decode cX3_holding 45 = .ok (.ireturn, 1) := by decide +kernel
theorem dX3_wrongOf_0 : decode cX3_wrongOf 0 = .ok (.aload_n 0, 1) := by decide +kernel
theorem dX3_wrongOf_1 : decode cX3_wrongOf 1 = .ok (.iload_n 1, 1) := by decide +kernel
theorem dX3_wrongOf_2 : decode cX3_wrongOf 2 = .ok (.sipush 1023, 3) := by decide +kernel
theorem dX3_wrongOf_5 : decode cX3_wrongOf 5 = .ok (.invokevirtual 111, 3) := by decide +kernel
theorem dX3_wrongOf_8 : decode cX3_wrongOf 8 = .ok (.istore_n 2, 1) := by decide +kernel
theorem dX3_wrongOf_9 : decode cX3_wrongOf 9 = .ok (.aload_n 0, 1) := by decide +kernel
theorem dX3_wrongOf_10 : decode cX3_wrongOf 10 = .ok (.iload_n 1, 1) := by decide +kernel
theorem dX3_wrongOf_11 : decode cX3_wrongOf 11 = .ok (.invokevirtual 67, 3) := by decide +kernel
theorem dX3_wrongOf_14 : decode cX3_wrongOf 14 = .ok (.iconst 2, 1) := by decide +kernel
theorem dX3_wrongOf_15 : decode cX3_wrongOf 15 = .ok (.invokestatic 114, 3) := by decide +kernel
theorem dX3_wrongOf_18 : decode cX3_wrongOf 18 = .ok (.ifCond .eq 11, 3) := by decide +kernel
theorem dX3_wrongOf_21 : decode cX3_wrongOf 21 = .ok (.sipush 1000, 3) := by decide +kernel
theorem dX3_wrongOf_24 : decode cX3_wrongOf 24 = .ok (.iload_n 2, 1) := by decide +kernel
theorem dX3_wrongOf_25 : decode cX3_wrongOf 25 = .ok (.isub, 1) := by decide +kernel
theorem dX3_wrongOf_26 : decode cX3_wrongOf 26 = .ok (.goto 4, 3) := by decide +kernel
theorem dX3_wrongOf_29 : decode cX3_wrongOf 29 = .ok (.iload_n 2, 1) := by decide +kernel
theorem dX3_wrongOf_30 : decode cX3_wrongOf 30 = .ok (.istore_n 3, 1) := by decide +kernel
theorem dX3_wrongOf_31 : decode cX3_wrongOf 31 = .ok (.iload_n 3, 1) := by decide +kernel
theorem dX3_wrongOf_32 : decode cX3_wrongOf 32 = .ok (.aload_n 0, 1) := by decide +kernel
theorem dX3_wrongOf_33 : decode cX3_wrongOf 33 = .ok (.invokevirtual 117, 3) := by decide +kernel
theorem dX3_wrongOf_36 : decode cX3_wrongOf 36 = .ok (.isub, 1) := by decide +kernel
theorem dX3_wrongOf_37 : decode cX3_wrongOf 37 = .ok (.ireturn, 1) := by decide +kernel
theorem dX3_leastMoved_0 : decode cX3_leastMoved 0 = .ok (.aload_n 0, 1) := by decide +kernel
theorem dX3_leastMoved_1 : decode cX3_leastMoved 1 = .ok (.sipush 1023, 3) := by decide +kernel
theorem dX3_leastMoved_4 : decode cX3_leastMoved 4 = .ok (.invokevirtual 94, 3) := by decide +kernel
theorem dX3_leastMoved_7 : decode cX3_leastMoved 7 = .ok (.istore_n 3, 1) := by decide +kernel
theorem dX3_leastMoved_8 : decode cX3_leastMoved 8 = .ok (.aload_n 0, 1) := by decide +kernel
theorem dX3_leastMoved_9 : decode cX3_leastMoved 9 = .ok (.iload_n 1, 1) := by decide +kernel
theorem dX3_leastMoved_10 : decode cX3_leastMoved 10 = .ok (.sipush 1023, 3) := by decide +kernel
theorem dX3_leastMoved_13 : decode cX3_leastMoved 13 = .ok (.invokevirtual 90, 3) := by decide +kernel
theorem dX3_leastMoved_16 : decode cX3_leastMoved 16 = .ok (.istore 4, 2) := by decide +kernel
theorem dX3_leastMoved_18 : decode cX3_leastMoved 18 = .ok (.iload 4, 2) := by decide +kernel
theorem dX3_leastMoved_20 : decode cX3_leastMoved 20 = .ok (.iload_n 3, 1) := by decide +kernel
theorem dX3_leastMoved_21 : decode cX3_leastMoved 21 = .ok (.invokestatic 97, 3) := by decide +kernel
theorem dX3_leastMoved_24 : decode cX3_leastMoved 24 = .ok (.iload_n 2, 1) := by decide +kernel
theorem dX3_leastMoved_25 : decode cX3_leastMoved 25 = .ok (.if_icmp .lt 5, 3) := by decide +kernel
theorem dX3_leastMoved_28 : decode cX3_leastMoved 28 = .ok (.iconst 0, 1) := by decide +kernel
theorem dX3_leastMoved_29 : decode cX3_leastMoved 29 = .ok (.ireturn, 1) := by decide +kernel
theorem dX3_leastMoved_30 : decode cX3_leastMoved 30 = .ok (.iconst 0, 1) := by decide +kernel
theorem dX3_leastMoved_31 : decode cX3_leastMoved 31 = .ok (.istore 5, 2) := by decide +kernel
theorem dX3_leastMoved_33 : decode cX3_leastMoved 33 = .ok (.iconst 0, 1) := by decide +kernel
theorem dX3_leastMoved_34 : decode cX3_leastMoved 34 = .ok (.istore 6, 2) := by decide +kernel
theorem dX3_leastMoved_36 : decode cX3_leastMoved 36 = .ok (.iload 6, 2) := by decide +kernel
theorem dX3_leastMoved_38 : decode cX3_leastMoved 38 = .ok (.aload_n 0, 1) := by decide +kernel
theorem dX3_leastMoved_39 : decode cX3_leastMoved 39 = .ok (.getfield 37, 3) := by decide +kernel
theorem dX3_leastMoved_42 : decode cX3_leastMoved 42 = .ok (.if_icmp .ge 115, 3) := by decide +kernel
theorem dX3_leastMoved_45 : decode cX3_leastMoved 45 = .ok (.aload_n 0, 1) := by decide +kernel
theorem dX3_leastMoved_46 : decode cX3_leastMoved 46 = .ok (.iload 6, 2) := by decide +kernel
theorem dX3_leastMoved_48 : decode cX3_leastMoved 48 = .ok (.invokevirtual 76, 3) := by decide +kernel
theorem dX3_leastMoved_51 : decode cX3_leastMoved 51 = .ok (.iconst 2, 1) := by decide +kernel
theorem dX3_leastMoved_52 : decode cX3_leastMoved 52 = .ok (.if_icmp .eq 6, 3) := by decide +kernel
theorem dX3_leastMoved_55 : decode cX3_leastMoved 55 = .ok (.goto 96, 3) := by decide +kernel
theorem dX3_leastMoved_58 : decode cX3_leastMoved 58 = .ok (.aload_n 0, 1) := by decide +kernel
theorem dX3_leastMoved_59 : decode cX3_leastMoved 59 = .ok (.iload 6, 2) := by decide +kernel
theorem dX3_leastMoved_61 : decode cX3_leastMoved 61 = .ok (.invokevirtual 83, 3) := by decide +kernel
theorem dX3_leastMoved_64 : decode cX3_leastMoved 64 = .ok (.istore 7, 2) := by decide +kernel
theorem dX3_leastMoved_66 : decode cX3_leastMoved 66 = .ok (.iload 4, 2) := by decide +kernel
theorem dX3_leastMoved_68 : decode cX3_leastMoved 68 = .ok (.aload_n 0, 1) := by decide +kernel
theorem dX3_leastMoved_69 : decode cX3_leastMoved 69 = .ok (.iload_n 1, 1) := by decide +kernel
theorem dX3_leastMoved_70 : decode cX3_leastMoved 70 = .ok (.iload 6, 2) := by decide +kernel
theorem dX3_leastMoved_72 : decode cX3_leastMoved 72 = .ok (.iload 7, 2) := by decide +kernel
theorem dX3_leastMoved_74 : decode cX3_leastMoved 74 = .ok (.invokevirtual 86, 3) := by decide +kernel
theorem dX3_leastMoved_77 : decode cX3_leastMoved 77 = .ok (.isub, 1) := by decide +kernel
theorem dX3_leastMoved_78 : decode cX3_leastMoved 78 = .ok (.istore 8, 2) := by decide +kernel
theorem dX3_leastMoved_80 : decode cX3_leastMoved 80 = .ok (.iconst 1, 1) := by decide +kernel
theorem dX3_leastMoved_81 : decode cX3_leastMoved 81 = .ok (.istore 9, 2) := by decide +kernel
theorem dX3_leastMoved_83 : decode cX3_leastMoved 83 = .ok (.iload 9, 2) := by decide +kernel
theorem dX3_leastMoved_85 : decode cX3_leastMoved 85 = .ok (.iload 7, 2) := by decide +kernel
theorem dX3_leastMoved_87 : decode cX3_leastMoved 87 = .ok (.if_icmp .gt 57, 3) := by decide +kernel
theorem dX3_leastMoved_90 : decode cX3_leastMoved 90 = .ok (.iload 8, 2) := by decide +kernel
theorem dX3_leastMoved_92 : decode cX3_leastMoved 92 = .ok (.aload_n 0, 1) := by decide +kernel
theorem dX3_leastMoved_93 : decode cX3_leastMoved 93 = .ok (.iload_n 1, 1) := by decide +kernel
theorem dX3_leastMoved_94 : decode cX3_leastMoved 94 = .ok (.iconst 0, 1) := by decide +kernel
theorem dX3_leastMoved_95 : decode cX3_leastMoved 95 = .ok (.aload_n 0, 1) := by decide +kernel
theorem dX3_leastMoved_96 : decode cX3_leastMoved 96 = .ok (.iload 6, 2) := by decide +kernel
theorem dX3_leastMoved_98 : decode cX3_leastMoved 98 = .ok (.invokevirtual 53, 3) := by decide +kernel
theorem dX3_leastMoved_101 : decode cX3_leastMoved 101 = .ok (.iload 9, 2) := by decide +kernel
theorem dX3_leastMoved_103 : decode cX3_leastMoved 103 = .ok (.invokevirtual 121, 3) := by decide +kernel
theorem dX3_leastMoved_106 : decode cX3_leastMoved 106 = .ok (.iadd, 1) := by decide +kernel
theorem dX3_leastMoved_107 : decode cX3_leastMoved 107 = .ok (.aload_n 0, 1) := by decide +kernel
theorem dX3_leastMoved_108 : decode cX3_leastMoved 108 = .ok (.iload_n 1, 1) := by decide +kernel
theorem dX3_leastMoved_109 : decode cX3_leastMoved 109 = .ok (.iload 6, 2) := by decide +kernel
theorem dX3_leastMoved_111 : decode cX3_leastMoved 111 = .ok (.iload 7, 2) := by decide +kernel
theorem dX3_leastMoved_113 : decode cX3_leastMoved 113 = .ok (.iload 9, 2) := by decide +kernel
theorem dX3_leastMoved_115 : decode cX3_leastMoved 115 = .ok (.isub, 1) := by decide +kernel
theorem dX3_leastMoved_116 : decode cX3_leastMoved 116 = .ok (.invokevirtual 86, 3) := by decide +kernel
theorem dX3_leastMoved_119 : decode cX3_leastMoved 119 = .ok (.iadd, 1) := by decide +kernel
theorem dX3_leastMoved_120 : decode cX3_leastMoved 120 = .ok (.istore 4, 2) := by decide +kernel
theorem dX3_leastMoved_122 : decode cX3_leastMoved 122 = .ok (.iload 4, 2) := by decide +kernel
theorem dX3_leastMoved_124 : decode cX3_leastMoved 124 = .ok (.iload_n 3, 1) := by decide +kernel
theorem dX3_leastMoved_125 : decode cX3_leastMoved 125 = .ok (.invokestatic 97, 3) := by decide +kernel
theorem dX3_leastMoved_128 : decode cX3_leastMoved 128 = .ok (.iload_n 2, 1) := by decide +kernel
theorem dX3_leastMoved_129 : decode cX3_leastMoved 129 = .ok (.if_icmp .lt 9, 3) := by decide +kernel
theorem dX3_leastMoved_132 : decode cX3_leastMoved 132 = .ok (.iload 5, 2) := by decide +kernel
theorem dX3_leastMoved_134 : decode cX3_leastMoved 134 = .ok (.iload 9, 2) := by decide +kernel
theorem dX3_leastMoved_136 : decode cX3_leastMoved 136 = .ok (.iadd, 1) := by decide +kernel
theorem dX3_leastMoved_137 : decode cX3_leastMoved 137 = .ok (.ireturn, 1) := by decide +kernel
theorem dX3_leastMoved_138 : decode cX3_leastMoved 138 = .ok (.iinc 9 1, 3) := by decide +kernel
theorem dX3_leastMoved_141 : decode cX3_leastMoved 141 = .ok (.goto (-58), 3) := by decide +kernel
theorem dX3_leastMoved_144 : decode cX3_leastMoved 144 = .ok (.iload 5, 2) := by decide +kernel
theorem dX3_leastMoved_146 : decode cX3_leastMoved 146 = .ok (.iload 7, 2) := by decide +kernel
theorem dX3_leastMoved_148 : decode cX3_leastMoved 148 = .ok (.iadd, 1) := by decide +kernel
theorem dX3_leastMoved_149 : decode cX3_leastMoved 149 = .ok (.istore 5, 2) := by decide +kernel
theorem dX3_leastMoved_151 : decode cX3_leastMoved 151 = .ok (.iinc 6 1, 3) := by decide +kernel
theorem dX3_leastMoved_154 : decode cX3_leastMoved 154 = .ok (.goto (-118), 3) := by decide +kernel
theorem dX3_leastMoved_157 : decode cX3_leastMoved 157 = .ok (.iconst (-1), 1) := by decide +kernel
theorem dX3_leastMoved_158 : decode cX3_leastMoved 158 = .ok (.ireturn, 1) := by decide +kernel
theorem dX3_knock_0 : decode cX3_knock 0 = .ok (.aload_n 0, 1) := by decide +kernel
theorem dX3_knock_1 : decode cX3_knock 1 = .ok (.aload_n 0, 1) := by decide +kernel
theorem dX3_knock_2 : decode cX3_knock 2 = .ok (.getfield 37, 3) := by decide +kernel
theorem dX3_knock_5 : decode cX3_knock 5 = .ok (.invokevirtual 125, 3) := by decide +kernel
theorem dX3_knock_8 : decode cX3_knock 8 = .ok (.istore_n 1, 1) := by decide +kernel
theorem dX3_knock_9 : decode cX3_knock 9 = .ok (.aload_n 0, 1) := by decide +kernel
theorem dX3_knock_10 : decode cX3_knock 10 = .ok (.bipush 10, 2) := by decide +kernel
theorem dX3_knock_12 : decode cX3_knock 12 = .ok (.invokevirtual 125, 3) := by decide +kernel
theorem dX3_knock_15 : decode cX3_knock 15 = .ok (.aload_n 0, 1) := by decide +kernel
theorem dX3_knock_16 : decode cX3_knock 16 = .ok (.iload_n 1, 1) := by decide +kernel
theorem dX3_knock_17 : decode cX3_knock 17 = .ok (.invokevirtual 57, 3) := by decide +kernel
theorem dX3_knock_20 : decode cX3_knock 20 = .ok (.if_icmp .ge 17, 3) := by decide +kernel
theorem dX3_knock_23 : decode cX3_knock 23 = .ok (.aload_n 0, 1) := by decide +kernel
theorem dX3_knock_24 : decode cX3_knock 24 = .ok (.bipush 10, 2) := by decide +kernel
theorem dX3_knock_26 : decode cX3_knock 26 = .ok (.invokevirtual 125, 3) := by decide +kernel
theorem dX3_knock_29 : decode cX3_knock 29 = .ok (.aload_n 0, 1) := by decide +kernel
theorem dX3_knock_30 : decode cX3_knock 30 = .ok (.iload_n 1, 1) := by decide +kernel
theorem dX3_knock_31 : decode cX3_knock 31 = .ok (.invokevirtual 60, 3) := by decide +kernel
theorem dX3_knock_34 : decode cX3_knock 34 = .ok (.if_icmp .lt 4, 3) := by decide +kernel
theorem dX3_knock_37 : decode cX3_knock 37 = .ok (.return_, 1) := by decide +kernel
theorem dX3_knock_38 : decode cX3_knock 38 = .ok (.aload_n 0, 1) := by decide +kernel
theorem dX3_knock_39 : decode cX3_knock 39 = .ok (.dup, 1) := by decide +kernel
theorem dX3_knock_40 : decode cX3_knock 40 = .ok (.getfield 43, 3) := by decide +kernel
theorem dX3_knock_43 : decode cX3_knock 43 = .ok (.iconst 1, 1) := by decide +kernel
theorem dX3_knock_44 : decode cX3_knock 44 = .ok (.iadd, 1) := by decide +kernel
theorem dX3_knock_45 : decode cX3_knock 45 = .ok (.putfield 43, 3) := by decide +kernel
theorem dX3_knock_48 : decode cX3_knock 48 = .ok (.aload_n 0, 1) := by decide +kernel
theorem dX3_knock_49 : decode cX3_knock 49 = .ok (.aload_n 0, 1) := by decide +kernel
theorem dX3_knock_50 : decode cX3_knock 50 = .ok (.getfield 34, 3) := by decide +kernel
theorem dX3_knock_53 : decode cX3_knock 53 = .ok (.invokevirtual 125, 3) := by decide +kernel
theorem dX3_knock_56 : decode cX3_knock 56 = .ok (.istore_n 2, 1) := by decide +kernel
theorem dX3_knock_57 : decode cX3_knock 57 = .ok (.aload_n 0, 1) := by decide +kernel
theorem dX3_knock_58 : decode cX3_knock 58 = .ok (.iload_n 1, 1) := by decide +kernel
theorem dX3_knock_59 : decode cX3_knock 59 = .ok (.invokevirtual 83, 3) := by decide +kernel
theorem dX3_knock_62 : decode cX3_knock 62 = .ok (.istore_n 3, 1) := by decide +kernel
theorem dX3_knock_63 : decode cX3_knock 63 = .ok (.aload_n 0, 1) := by decide +kernel
theorem dX3_knock_64 : decode cX3_knock 64 = .ok (.iload_n 3, 1) := by decide +kernel
theorem dX3_knock_65 : decode cX3_knock 65 = .ok (.invokevirtual 125, 3) := by decide +kernel
theorem dX3_knock_68 : decode cX3_knock 68 = .ok (.aload_n 0, 1) := by decide +kernel
theorem dX3_knock_69 : decode cX3_knock 69 = .ok (.iload_n 2, 1) := by decide +kernel
theorem dX3_knock_70 : decode cX3_knock 70 = .ok (.iload_n 1, 1) := by decide +kernel
theorem dX3_knock_71 : decode cX3_knock 71 = .ok (.iload_n 3, 1) := by decide +kernel
theorem dX3_knock_72 : decode cX3_knock 72 = .ok (.invokevirtual 86, 3) := by decide +kernel
theorem dX3_knock_75 : decode cX3_knock 75 = .ok (.if_icmp .ge 13, 3) := by decide +kernel
theorem dX3_knock_78 : decode cX3_knock 78 = .ok (.aload_n 0, 1) := by decide +kernel
theorem dX3_knock_79 : decode cX3_knock 79 = .ok (.dup, 1) := by decide +kernel
theorem dX3_knock_80 : decode cX3_knock 80 = .ok (.getfield 46, 3) := by decide +kernel
theorem dX3_knock_83 : decode cX3_knock 83 = .ok (.iconst 1, 1) := by decide +kernel
theorem dX3_knock_84 : decode cX3_knock 84 = .ok (.iadd, 1) := by decide +kernel
theorem dX3_knock_85 : decode cX3_knock 85 = .ok (.putfield 46, 3) := by decide +kernel
theorem dX3_knock_88 : decode cX3_knock 88 = .ok (.return_, 1) := by decide +kernel
theorem dX3_draw_0 : decode cX3_draw 0 = .ok (.aload_n 0, 1) := by decide +kernel
theorem dX3_draw_1 : decode cX3_draw 1 = .ok (.aload_n 0, 1) := by decide +kernel
theorem dX3_draw_2 : decode cX3_draw 2 = .ok (.getfield 25, 3) := by decide +kernel
theorem dX3_draw_5 : decode cX3_draw 5 = .ok (.ldc 128, 2) := by decide +kernel
theorem dX3_draw_7 : decode cX3_draw 7 = .ok (.imul, 1) := by decide +kernel
theorem dX3_draw_8 : decode cX3_draw 8 = .ok (.sipush 12345, 3) := by decide +kernel
theorem dX3_draw_11 : decode cX3_draw 11 = .ok (.iadd, 1) := by decide +kernel
theorem dX3_draw_12 : decode cX3_draw 12 = .ok (.putfield 25, 3) := by decide +kernel
theorem dX3_draw_15 : decode cX3_draw 15 = .ok (.iload_n 1, 1) := by decide +kernel
theorem dX3_draw_16 : decode cX3_draw 16 = .ok (.iconst 1, 1) := by decide +kernel
theorem dX3_draw_17 : decode cX3_draw 17 = .ok (.if_icmp .ge 7, 3) := by decide +kernel
theorem dX3_draw_20 : decode cX3_draw 20 = .ok (.iconst 0, 1) := by decide +kernel
theorem dX3_draw_21 : decode cX3_draw 21 = .ok (.goto 12, 3) := by decide +kernel
theorem dX3_draw_24 : decode cX3_draw 24 = .ok (.aload_n 0, 1) := by decide +kernel
theorem dX3_draw_25 : decode cX3_draw 25 = .ok (.getfield 25, 3) := by decide +kernel
theorem dX3_draw_28 : decode cX3_draw 28 = .ok (.bipush 16, 2) := by decide +kernel
theorem dX3_draw_30 : decode cX3_draw 30 = .ok (.iushr, 1) := by decide +kernel
theorem dX3_draw_31 : decode cX3_draw 31 = .ok (.iload_n 1, 1) := by decide +kernel
theorem dX3_draw_32 : decode cX3_draw 32 = .ok (.irem, 1) := by decide +kernel
theorem dX3_draw_33 : decode cX3_draw 33 = .ok (.ireturn, 1) := by decide +kernel
theorem dX4_init_0 : decode cX4_init 0 = .ok (.aload_n 0, 1) := by decide +kernel
theorem dX4_init_1 : decode cX4_init 1 = .ok (.invokespecial 3, 3) := by decide +kernel
theorem dX4_init_4 : decode cX4_init 4 = .ok (.aload_n 0, 1) := by decide +kernel
theorem dX4_init_5 : decode cX4_init 5 = .ok (.sipush 160, 3) := by decide +kernel
theorem dX4_init_8 : decode cX4_init 8 = .ok (.newarray .int, 2) := by decide +kernel
theorem dX4_init_10 : decode cX4_init 10 = .ok (.putfield 9, 3) := by decide +kernel
theorem dX4_init_13 : decode cX4_init 13 = .ok (.aload_n 0, 1) := by decide +kernel
theorem dX4_init_14 : decode cX4_init 14 = .ok (.new 15, 3) := by decide +kernel
theorem dX4_init_17 : decode cX4_init 17 = .ok (.dup, 1) := by decide +kernel
theorem dX4_init_18 : decode cX4_init 18 = .ok (.invokespecial 17, 3) := by decide +kernel
theorem dX4_init_21 : decode cX4_init 21 = .ok (.putfield 18, 3) := by decide +kernel
theorem dX4_init_24 : decode cX4_init 24 = .ok (.aload_n 0, 1) := by decide +kernel
theorem dX4_init_25 : decode cX4_init 25 = .ok (.iconst (-1), 1) := by decide +kernel
theorem dX4_init_26 : decode cX4_init 26 = .ok (.putfield 22, 3) := by decide +kernel
theorem dX4_init_29 : decode cX4_init 29 = .ok (.return_, 1) := by decide +kernel
theorem dX4_read_0 : decode cX4_read 0 = .ok (.aload_n 0, 1) := by decide +kernel
theorem dX4_read_1 : decode cX4_read 1 = .ok (.getfield 18, 3) := by decide +kernel
theorem dX4_read_4 : decode cX4_read 4 = .ok (.aload_n 2, 1) := by decide +kernel
theorem dX4_read_5 : decode cX4_read 5 = .ok (.invokevirtual 26, 3) := by decide +kernel
theorem dX4_read_8 : decode cX4_read 8 = .ok (.aload_n 0, 1) := by decide +kernel
theorem dX4_read_9 : decode cX4_read 9 = .ok (.iload_n 1, 1) := by decide +kernel
theorem dX4_read_10 : decode cX4_read 10 = .ok (.putfield 30, 3) := by decide +kernel
theorem dX4_read_13 : decode cX4_read 13 = .ok (.aload_n 0, 1) := by decide +kernel
theorem dX4_read_14 : decode cX4_read 14 = .ok (.iconst 0, 1) := by decide +kernel
theorem dX4_read_15 : decode cX4_read 15 = .ok (.putfield 33, 3) := by decide +kernel
theorem dX4_read_18 : decode cX4_read 18 = .ok (.aload_n 0, 1) := by decide +kernel
theorem dX4_read_19 : decode cX4_read 19 = .ok (.iconst (-1), 1) := by decide +kernel
theorem dX4_read_20 : decode cX4_read 20 = .ok (.putfield 22, 3) := by decide +kernel
theorem dX4_read_23 : decode cX4_read 23 = .ok (.aload_n 0, 1) := by decide +kernel
theorem dX4_read_24 : decode cX4_read 24 = .ok (.invokevirtual 36, 3) := by decide +kernel
theorem dX4_read_27 : decode cX4_read 27 = .ok (.iconst 1, 1) := by decide +kernel
theorem dX4_read_28 : decode cX4_read 28 = .ok (.istore_n 3, 1) := by decide +kernel
theorem dX4_read_29 : decode cX4_read 29 = .ok (.iconst 0, 1) := by decide +kernel
theorem dX4_read_30 : decode cX4_read 30 = .ok (.istore 4, 2) := by decide +kernel
theorem dX4_read_32 : decode cX4_read 32 = .ok (.iload 4, 2) := by decide +kernel
theorem dX4_read_34 : decode cX4_read 34 = .ok (.iload_n 1, 1) := by decide +kernel
theorem dX4_read_35 : decode cX4_read 35 = .ok (.if_icmp .ge 41, 3) := by decide +kernel
theorem dX4_read_38 : decode cX4_read 38 = .ok (.aload_n 0, 1) := by decide +kernel
theorem dX4_read_39 : decode cX4_read 39 = .ok (.getfield 22, 3) := by decide +kernel
theorem dX4_read_42 : decode cX4_read 42 = .ok (.iconst (-1), 1) := by decide +kernel
theorem dX4_read_43 : decode cX4_read 43 = .ok (.if_icmp .ne 33, 3) := by decide +kernel
theorem dX4_read_46 : decode cX4_read 46 = .ok (.aload_n 0, 1) := by decide +kernel
theorem dX4_read_47 : decode cX4_read 47 = .ok (.getfield 33, 3) := by decide +kernel
theorem dX4_read_50 : decode cX4_read 50 = .ok (.aload_n 0, 1) := by decide +kernel
theorem dX4_read_51 : decode cX4_read 51 = .ok (.getfield 30, 3) := by decide +kernel
theorem dX4_read_54 : decode cX4_read 54 = .ok (.if_icmp .ge 22, 3) := by decide +kernel
theorem dX4_read_57 : decode cX4_read 57 = .ok (.aload_n 0, 1) := by decide +kernel
theorem dX4_read_58 : decode cX4_read 58 = .ok (.bipush 59, 2) := by decide +kernel
theorem dX4_read_60 : decode cX4_read 60 = .ok (.invokevirtual 39, 3) := by decide +kernel
theorem dX4_read_63 : decode cX4_read 63 = .ok (.aload_n 0, 1) := by decide +kernel
theorem dX4_read_64 : decode cX4_read 64 = .ok (.invokevirtual 36, 3) := by decide +kernel
theorem dX4_read_67 : decode cX4_read 67 = .ok (.iinc 3 1, 3) := by decide +kernel
theorem dX4_read_70 : decode cX4_read 70 = .ok (.iinc 4 1, 3) := by decide +kernel
theorem dX4_read_73 : decode cX4_read 73 = .ok (.goto (-41), 3) := by decide +kernel
theorem dX4_read_76 : decode cX4_read 76 = .ok (.iload_n 3, 1) := by decide +kernel
theorem dX4_read_77 : decode cX4_read 77 = .ok (.ireturn, 1) := by decide +kernel
theorem dX4_readItem_0 : decode cX4_readItem 0 = .ok (.aload_n 0, 1) := by decide +kernel
theorem dX4_readItem_1 : decode cX4_readItem 1 = .ok (.invokevirtual 43, 3) := by decide +kernel
theorem dX4_readItem_4 : decode cX4_readItem 4 = .ok (.tableswitch 172 97 113 #[112, 98, 172, 172, 172, 172, 84, 149, 172, 172, 172, 172, 172, 172, 172, 126, 91], 84) := by decide +kernel
theorem dX4_readItem_88 : decode cX4_readItem 88 = .ok (.aload_n 0, 1) := by decide +kernel
theorem dX4_readItem_89 : decode cX4_readItem 89 = .ok (.invokevirtual 47, 3) := by decide +kernel
theorem dX4_readItem_92 : decode cX4_readItem 92 = .ok (.goto 92, 3) := by decide +kernel
theorem dX4_readItem_95 : decode cX4_readItem 95 = .ok (.aload_n 0, 1) := by decide +kernel
theorem dX4_readItem_96 : decode cX4_readItem 96 = .ok (.invokevirtual 50, 3) := by decide +kernel
theorem dX4_readItem_99 : decode cX4_readItem 99 = .ok (.goto 85, 3) := by decide +kernel
theorem dX4_readItem_102 : decode cX4_readItem 102 = .ok (.aload_n 0, 1) := by decide +kernel
theorem dX4_readItem_103 : decode cX4_readItem 103 = .ok (.ldc 53, 2) := by decide +kernel
theorem dX4_readItem_105 : decode cX4_readItem 105 = .ok (.invokevirtual 55, 3) := by decide +kernel
theorem dX4_readItem_108 : decode cX4_readItem 108 = .ok (.aload_n 0, 1) := by decide +kernel
theorem dX4_readItem_109 : decode cX4_readItem 109 = .ok (.iconst 1, 1) := by decide +kernel
theorem dX4_readItem_110 : decode cX4_readItem 110 = .ok (.invokevirtual 59, 3) := by decide +kernel
theorem dX4_readItem_113 : decode cX4_readItem 113 = .ok (.goto 71, 3) := by decide +kernel
theorem dX4_readItem_116 : decode cX4_readItem 116 = .ok (.aload_n 0, 1) := by decide +kernel
theorem dX4_readItem_117 : decode cX4_readItem 117 = .ok (.ldc 63, 2) := by decide +kernel
theorem dX4_readItem_119 : decode cX4_readItem 119 = .ok (.invokevirtual 55, 3) := by decide +kernel
theorem dX4_readItem_122 : decode cX4_readItem 122 = .ok (.aload_n 0, 1) := by decide +kernel
theorem dX4_readItem_123 : decode cX4_readItem 123 = .ok (.iconst (-1), 1) := by decide +kernel
theorem dX4_readItem_124 : decode cX4_readItem 124 = .ok (.invokevirtual 59, 3) := by decide +kernel
theorem dX4_readItem_127 : decode cX4_readItem 127 = .ok (.goto 57, 3) := by decide +kernel
theorem dX4_readItem_130 : decode cX4_readItem 130 = .ok (.aload_n 0, 1) := by decide +kernel
theorem dX4_readItem_131 : decode cX4_readItem 131 = .ok (.ldc 65, 2) := by decide +kernel
theorem dX4_readItem_133 : decode cX4_readItem 133 = .ok (.invokevirtual 55, 3) := by decide +kernel
theorem dX4_readItem_136 : decode cX4_readItem 136 = .ok (.aload_n 0, 1) := by decide +kernel
theorem dX4_readItem_137 : decode cX4_readItem 137 = .ok (.getfield 18, 3) := by decide +kernel
theorem dX4_readItem_140 : decode cX4_readItem 140 = .ok (.aload_n 0, 1) := by decide +kernel
theorem dX4_readItem_141 : decode cX4_readItem 141 = .ok (.iconst 0, 1) := by decide +kernel
theorem dX4_readItem_142 : decode cX4_readItem 142 = .ok (.bipush 99, 2) := by decide +kernel
theorem dX4_readItem_144 : decode cX4_readItem 144 = .ok (.invokevirtual 67, 3) := by decide +kernel
theorem dX4_readItem_147 : decode cX4_readItem 147 = .ok (.putfield 71, 3) := by decide +kernel
theorem dX4_readItem_150 : decode cX4_readItem 150 = .ok (.goto 34, 3) := by decide +kernel
theorem dX4_readItem_153 : decode cX4_readItem 153 = .ok (.aload_n 0, 1) := by decide +kernel
theorem dX4_readItem_154 : decode cX4_readItem 154 = .ok (.ldc 73, 2) := by decide +kernel
theorem dX4_readItem_156 : decode cX4_readItem 156 = .ok (.invokevirtual 55, 3) := by decide +kernel
theorem dX4_readItem_159 : decode cX4_readItem 159 = .ok (.aload_n 0, 1) := by decide +kernel
theorem dX4_readItem_160 : decode cX4_readItem 160 = .ok (.getfield 18, 3) := by decide +kernel
theorem dX4_readItem_163 : decode cX4_readItem 163 = .ok (.aload_n 0, 1) := by decide +kernel
theorem dX4_readItem_164 : decode cX4_readItem 164 = .ok (.iconst 0, 1) := by decide +kernel
theorem dX4_readItem_165 : decode cX4_readItem 165 = .ok (.bipush 7, 2) := by decide +kernel
theorem dX4_readItem_167 : decode cX4_readItem 167 = .ok (.invokevirtual 67, 3) := by decide +kernel
theorem dX4_readItem_170 : decode cX4_readItem 170 = .ok (.putfield 75, 3) := by decide +kernel
theorem dX4_readItem_173 : decode cX4_readItem 173 = .ok (.goto 11, 3) := by decide +kernel
theorem dX4_readItem_176 : decode cX4_readItem 176 = .ok (.aload_n 0, 1) := by decide +kernel
theorem dX4_readItem_177 : decode cX4_readItem 177 = .ok (.aload_n 0, 1) := by decide +kernel
theorem dX4_readItem_178 : decode cX4_readItem 178 = .ok (.getfield 33, 3) := by decide +kernel
theorem dX4_readItem_181 : decode cX4_readItem 181 = .ok (.invokevirtual 77, 3) := by decide +kernel
theorem dX4_readItem_184 : decode cX4_readItem 184 = .ok (.return_, 1) := by decide +kernel
theorem dX4_readGroup_0 : decode cX4_readGroup 0 = .ok (.aload_n 0, 1) := by decide +kernel
theorem dX4_readGroup_1 : decode cX4_readGroup 1 = .ok (.getfield 33, 3) := by decide +kernel
theorem dX4_readGroup_4 : decode cX4_readGroup 4 = .ok (.istore_n 1, 1) := by decide +kernel
theorem dX4_readGroup_5 : decode cX4_readGroup 5 = .ok (.aload_n 0, 1) := by decide +kernel
theorem dX4_readGroup_6 : decode cX4_readGroup 6 = .ok (.ldc 80, 2) := by decide +kernel
theorem dX4_readGroup_8 : decode cX4_readGroup 8 = .ok (.invokevirtual 55, 3) := by decide +kernel
theorem dX4_readGroup_11 : decode cX4_readGroup 11 = .ok (.aload_n 0, 1) := by decide +kernel
theorem dX4_readGroup_12 : decode cX4_readGroup 12 = .ok (.getfield 18, 3) := by decide +kernel
theorem dX4_readGroup_15 : decode cX4_readGroup 15 = .ok (.invokevirtual 82, 3) := by decide +kernel
theorem dX4_readGroup_18 : decode cX4_readGroup 18 = .ok (.ifCond .ne 8, 3) := by decide +kernel
theorem dX4_readGroup_21 : decode cX4_readGroup 21 = .ok (.aload_n 0, 1) := by decide +kernel
theorem dX4_readGroup_22 : decode cX4_readGroup 22 = .ok (.iload_n 1, 1) := by decide +kernel
theorem dX4_readGroup_23 : decode cX4_readGroup 23 = .ok (.invokevirtual 77, 3) := by decide +kernel
theorem dX4_readGroup_26 : decode cX4_readGroup 26 = .ok (.aload_n 0, 1) := by decide +kernel
theorem dX4_readGroup_27 : decode cX4_readGroup 27 = .ok (.iconst 1, 1) := by decide +kernel
theorem dX4_readGroup_28 : decode cX4_readGroup 28 = .ok (.sipush 999, 3) := by decide +kernel
theorem dX4_readGroup_31 : decode cX4_readGroup 31 = .ok (.invokevirtual 67, 3) := by decide +kernel
theorem dX4_readGroup_34 : decode cX4_readGroup 34 = .ok (.istore_n 2, 1) := by decide +kernel
theorem dX4_readGroup_35 : decode cX4_readGroup 35 = .ok (.aload_n 0, 1) := by decide +kernel
theorem dX4_readGroup_36 : decode cX4_readGroup 36 = .ok (.iconst 0, 1) := by decide +kernel
theorem dX4_readGroup_37 : decode cX4_readGroup 37 = .ok (.iconst 2, 1) := by decide +kernel
theorem dX4_readGroup_38 : decode cX4_readGroup 38 = .ok (.invokevirtual 67, 3) := by decide +kernel
theorem dX4_readGroup_41 : decode cX4_readGroup 41 = .ok (.istore_n 3, 1) := by decide +kernel
theorem dX4_readGroup_42 : decode cX4_readGroup 42 = .ok (.aload_n 0, 1) := by decide +kernel
theorem dX4_readGroup_43 : decode cX4_readGroup 43 = .ok (.iconst 0, 1) := by decide +kernel
theorem dX4_readGroup_44 : decode cX4_readGroup 44 = .ok (.bipush 10, 2) := by decide +kernel
theorem dX4_readGroup_46 : decode cX4_readGroup 46 = .ok (.invokevirtual 67, 3) := by decide +kernel
theorem dX4_readGroup_49 : decode cX4_readGroup 49 = .ok (.istore 4, 2) := by decide +kernel
theorem dX4_readGroup_51 : decode cX4_readGroup 51 = .ok (.aload_n 0, 1) := by decide +kernel
theorem dX4_readGroup_52 : decode cX4_readGroup 52 = .ok (.iconst 0, 1) := by decide +kernel
theorem dX4_readGroup_53 : decode cX4_readGroup 53 = .ok (.bipush 10, 2) := by decide +kernel
theorem dX4_readGroup_55 : decode cX4_readGroup 55 = .ok (.invokevirtual 67, 3) := by decide +kernel
theorem dX4_readGroup_58 : decode cX4_readGroup 58 = .ok (.istore 5, 2) := by decide +kernel
theorem dX4_readGroup_60 : decode cX4_readGroup 60 = .ok (.aload_n 0, 1) := by decide +kernel
theorem dX4_readGroup_61 : decode cX4_readGroup 61 = .ok (.iconst 0, 1) := by decide +kernel
theorem dX4_readGroup_62 : decode cX4_readGroup 62 = .ok (.bipush 10, 2) := by decide +kernel
theorem dX4_readGroup_64 : decode cX4_readGroup 64 = .ok (.invokevirtual 67, 3) := by decide +kernel
theorem dX4_readGroup_67 : decode cX4_readGroup 67 = .ok (.istore 6, 2) := by decide +kernel
theorem dX4_readGroup_69 : decode cX4_readGroup 69 = .ok (.aload_n 0, 1) := by decide +kernel
theorem dX4_readGroup_70 : decode cX4_readGroup 70 = .ok (.getfield 22, 3) := by decide +kernel
theorem dX4_readGroup_73 : decode cX4_readGroup 73 = .ok (.iconst (-1), 1) := by decide +kernel
theorem dX4_readGroup_74 : decode cX4_readGroup 74 = .ok (.if_icmp .ne 19, 3) := by decide +kernel
theorem dX4_readGroup_77 : decode cX4_readGroup 77 = .ok (.aload_n 0, 1) := by decide +kernel
theorem dX4_readGroup_78 : decode cX4_readGroup 78 = .ok (.getfield 18, 3) := by decide +kernel
theorem dX4_readGroup_81 : decode cX4_readGroup 81 = .ok (.iload_n 2, 1) := by decide +kernel
theorem dX4_readGroup_82 : decode cX4_readGroup 82 = .ok (.iload_n 3, 1) := by decide +kernel
theorem dX4_readGroup_83 : decode cX4_readGroup 83 = .ok (.iload 4, 2) := by decide +kernel
theorem dX4_readGroup_85 : decode cX4_readGroup 85 = .ok (.iload 5, 2) := by decide +kernel
theorem dX4_readGroup_87 : decode cX4_readGroup 87 = .ok (.iload 6, 2) := by decide +kernel
theorem dX4_readGroup_89 : decode cX4_readGroup 89 = .ok (.invokevirtual 86, 3) := by decide +kernel
theorem dX4_readGroup_92 : decode cX4_readGroup 92 = .ok (.pop, 1) := by decide +kernel
theorem dX4_readGroup_93 : decode cX4_readGroup 93 = .ok (.return_, 1) := by decide +kernel
theorem dX4_readQuestion_0 : decode cX4_readQuestion 0 = .ok (.aload_n 0, 1) := by decide +kernel
theorem dX4_readQuestion_1 : decode cX4_readQuestion 1 = .ok (.getfield 33, 3) := by decide +kernel
theorem dX4_readQuestion_4 : decode cX4_readQuestion 4 = .ok (.istore_n 1, 1) := by decide +kernel
theorem dX4_readQuestion_5 : decode cX4_readQuestion 5 = .ok (.aload_n 0, 1) := by decide +kernel
theorem dX4_readQuestion_6 : decode cX4_readQuestion 6 = .ok (.ldc 90, 2) := by decide +kernel
theorem dX4_readQuestion_8 : decode cX4_readQuestion 8 = .ok (.invokevirtual 55, 3) := by decide +kernel
theorem dX4_readQuestion_11 : decode cX4_readQuestion 11 = .ok (.aload_n 0, 1) := by decide +kernel
theorem dX4_readQuestion_12 : decode cX4_readQuestion 12 = .ok (.getfield 18, 3) := by decide +kernel
theorem dX4_readQuestion_15 : decode cX4_readQuestion 15 = .ok (.invokevirtual 92, 3) := by decide +kernel
theorem dX4_readQuestion_18 : decode cX4_readQuestion 18 = .ok (.ifCond .ne 8, 3) := by decide +kernel
theorem dX4_readQuestion_21 : decode cX4_readQuestion 21 = .ok (.aload_n 0, 1) := by decide +kernel
theorem dX4_readQuestion_22 : decode cX4_readQuestion 22 = .ok (.iload_n 1, 1) := by decide +kernel
theorem dX4_readQuestion_23 : decode cX4_readQuestion 23 = .ok (.invokevirtual 77, 3) := by decide +kernel
theorem dX4_readQuestion_26 : decode cX4_readQuestion 26 = .ok (.aload_n 0, 1) := by decide +kernel
theorem dX4_readQuestion_27 : decode cX4_readQuestion 27 = .ok (.iconst 0, 1) := by decide +kernel
theorem dX4_readQuestion_28 : decode cX4_readQuestion 28 = .ok (.bipush 6, 2) := by decide +kernel
theorem dX4_readQuestion_30 : decode cX4_readQuestion 30 = .ok (.invokevirtual 67, 3) := by decide +kernel
theorem dX4_readQuestion_33 : decode cX4_readQuestion 33 = .ok (.istore_n 2, 1) := by decide +kernel
theorem dX4_readQuestion_34 : decode cX4_readQuestion 34 = .ok (.aload_n 0, 1) := by decide +kernel
theorem dX4_readQuestion_35 : decode cX4_readQuestion 35 = .ok (.iconst 0, 1) := by decide +kernel
theorem dX4_readQuestion_36 : decode cX4_readQuestion 36 = .ok (.bipush 9, 2) := by decide +kernel
theorem dX4_readQuestion_38 : decode cX4_readQuestion 38 = .ok (.invokevirtual 67, 3) := by decide +kernel
theorem dX4_readQuestion_41 : decode cX4_readQuestion 41 = .ok (.istore_n 3, 1) := by decide +kernel
theorem dX4_readQuestion_42 : decode cX4_readQuestion 42 = .ok (.aload_n 0, 1) := by decide +kernel
theorem dX4_readQuestion_43 : decode cX4_readQuestion 43 = .ok (.getfield 22, 3) := by decide +kernel
theorem dX4_readQuestion_46 : decode cX4_readQuestion 46 = .ok (.iconst (-1), 1) := by decide +kernel
theorem dX4_readQuestion_47 : decode cX4_readQuestion 47 = .ok (.if_icmp .ne 13, 3) := by decide +kernel
theorem dX4_readQuestion_50 : decode cX4_readQuestion 50 = .ok (.aload_n 0, 1) := by decide +kernel
theorem dX4_readQuestion_51 : decode cX4_readQuestion 51 = .ok (.getfield 18, 3) := by decide +kernel
theorem dX4_readQuestion_54 : decode cX4_readQuestion 54 = .ok (.iload_n 2, 1) := by decide +kernel
theorem dX4_readQuestion_55 : decode cX4_readQuestion 55 = .ok (.iload_n 3, 1) := by decide +kernel
theorem dX4_readQuestion_56 : decode cX4_readQuestion 56 = .ok (.invokevirtual 95, 3) := by decide +kernel
theorem dX4_readQuestion_59 : decode cX4_readQuestion 59 = .ok (.pop, 1) := by decide +kernel
theorem dX4_readQuestion_60 : decode cX4_readQuestion 60 = .ok (.return_, 1) := by decide +kernel
theorem dX4_readBearing_0 : decode cX4_readBearing 0 = .ok (.aload_n 0, 1) := by decide +kernel
theorem dX4_readBearing_1 : decode cX4_readBearing 1 = .ok (.iconst 0, 1) := by decide +kernel
theorem dX4_readBearing_2 : decode cX4_readBearing 2 = .ok (.aload_n 0, 1) := by decide +kernel
theorem dX4_readBearing_3 : decode cX4_readBearing 3 = .ok (.getfield 18, 3) := by decide +kernel
theorem dX4_readBearing_6 : decode cX4_readBearing 6 = .ok (.getfield 98, 3) := by decide +kernel
theorem dX4_readBearing_9 : decode cX4_readBearing 9 = .ok (.iconst 1, 1) := by decide +kernel
theorem dX4_readBearing_10 : decode cX4_readBearing 10 = .ok (.isub, 1) := by decide +kernel
theorem dX4_readBearing_11 : decode cX4_readBearing 11 = .ok (.invokevirtual 67, 3) := by decide +kernel
theorem dX4_readBearing_14 : decode cX4_readBearing 14 = .ok (.istore_n 2, 1) := by decide +kernel
theorem dX4_readBearing_15 : decode cX4_readBearing 15 = .ok (.aload_n 0, 1) := by decide +kernel
theorem dX4_readBearing_16 : decode cX4_readBearing 16 = .ok (.getfield 33, 3) := by decide +kernel
theorem dX4_readBearing_19 : decode cX4_readBearing 19 = .ok (.iconst 1, 1) := by decide +kernel
theorem dX4_readBearing_20 : decode cX4_readBearing 20 = .ok (.iadd, 1) := by decide +kernel
theorem dX4_readBearing_21 : decode cX4_readBearing 21 = .ok (.istore_n 3, 1) := by decide +kernel
theorem dX4_readBearing_22 : decode cX4_readBearing 22 = .ok (.aload_n 0, 1) := by decide +kernel
theorem dX4_readBearing_23 : decode cX4_readBearing 23 = .ok (.iconst 0, 1) := by decide +kernel
theorem dX4_readBearing_24 : decode cX4_readBearing 24 = .ok (.aload_n 0, 1) := by decide +kernel
theorem dX4_readBearing_25 : decode cX4_readBearing 25 = .ok (.getfield 18, 3) := by decide +kernel
theorem dX4_readBearing_28 : decode cX4_readBearing 28 = .ok (.getfield 98, 3) := by decide +kernel
theorem dX4_readBearing_31 : decode cX4_readBearing 31 = .ok (.iconst 1, 1) := by decide +kernel
theorem dX4_readBearing_32 : decode cX4_readBearing 32 = .ok (.isub, 1) := by decide +kernel
theorem dX4_readBearing_33 : decode cX4_readBearing 33 = .ok (.invokevirtual 67, 3) := by decide +kernel
theorem dX4_readBearing_36 : decode cX4_readBearing 36 = .ok (.istore 4, 2) := by decide +kernel
theorem dX4_readBearing_38 : decode cX4_readBearing 38 = .ok (.iload 4, 2) := by decide +kernel
theorem dX4_readBearing_40 : decode cX4_readBearing 40 = .ok (.iload_n 2, 1) := by decide +kernel
theorem dX4_readBearing_41 : decode cX4_readBearing 41 = .ok (.if_icmp .ne 8, 3) := by decide +kernel
theorem dX4_readBearing_44 : decode cX4_readBearing 44 = .ok (.aload_n 0, 1) := by decide +kernel
theorem dX4_readBearing_45 : decode cX4_readBearing 45 = .ok (.iload_n 3, 1) := by decide +kernel
theorem dX4_readBearing_46 : decode cX4_readBearing 46 = .ok (.invokevirtual 77, 3) := by decide +kernel
theorem dX4_readBearing_49 : decode cX4_readBearing 49 = .ok (.aload_n 0, 1) := by decide +kernel
theorem dX4_readBearing_50 : decode cX4_readBearing 50 = .ok (.iconst 0, 1) := by decide +kernel
theorem dX4_readBearing_51 : decode cX4_readBearing 51 = .ok (.bipush 9, 2) := by decide +kernel
theorem dX4_readBearing_53 : decode cX4_readBearing 53 = .ok (.invokevirtual 67, 3) := by decide +kernel
theorem dX4_readBearing_56 : decode cX4_readBearing 56 = .ok (.istore 5, 2) := by decide +kernel
theorem dX4_readBearing_58 : decode cX4_readBearing 58 = .ok (.aload_n 0, 1) := by decide +kernel
theorem dX4_readBearing_59 : decode cX4_readBearing 59 = .ok (.getfield 22, 3) := by decide +kernel
theorem dX4_readBearing_62 : decode cX4_readBearing 62 = .ok (.iconst (-1), 1) := by decide +kernel
theorem dX4_readBearing_63 : decode cX4_readBearing 63 = .ok (.if_icmp .ne 17, 3) := by decide +kernel
theorem dX4_readBearing_66 : decode cX4_readBearing 66 = .ok (.aload_n 0, 1) := by decide +kernel
theorem dX4_readBearing_67 : decode cX4_readBearing 67 = .ok (.getfield 18, 3) := by decide +kernel
theorem dX4_readBearing_70 : decode cX4_readBearing 70 = .ok (.iload_n 2, 1) := by decide +kernel
theorem dX4_readBearing_71 : decode cX4_readBearing 71 = .ok (.iload 4, 2) := by decide +kernel
