theorem dX7_fits_23 : decode cX7_fits 23 = .ok (.bipush (-6), 2) := by decide +kernel
theorem dX7_fits_25 : decode cX7_fits 25 = .ok (.invokevirtual 81, 3) := by decide +kernel
theorem dX7_fits_28 : decode cX7_fits 28 = .ok (.ireturn, 1) := by decide +kernel
theorem dX7_fits_29 : decode cX7_fits 29 = .ok (.iconst 0, 1) := by decide +kernel
theorem dX7_fits_30 : decode cX7_fits 30 = .ok (.istore_n 3, 1) := by decide +kernel
theorem dX7_fits_31 : decode cX7_fits 31 = .ok (.iconst 0, 1) := by decide +kernel
theorem dX7_fits_32 : decode cX7_fits 32 = .ok (.istore 4, 2) := by decide +kernel
theorem dX7_fits_34 : decode cX7_fits 34 = .ok (.iload 4, 2) := by decide +kernel
theorem dX7_fits_36 : decode cX7_fits 36 = .ok (.aload_n 0, 1) := by decide +kernel
theorem dX7_fits_37 : decode cX7_fits 37 = .ok (.getfield 85, 3) := by decide +kernel
theorem dX7_fits_40 : decode cX7_fits 40 = .ok (.if_icmp .ge 31, 3) := by decide +kernel
theorem dX7_fits_43 : decode cX7_fits 43 = .ok (.aload_n 0, 1) := by decide +kernel
theorem dX7_fits_44 : decode cX7_fits 44 = .ok (.iload 4, 2) := by decide +kernel
theorem dX7_fits_46 : decode cX7_fits 46 = .ok (.invokevirtual 112, 3) := by decide +kernel
theorem dX7_fits_49 : decode cX7_fits 49 = .ok (.iload_n 1, 1) := by decide +kernel
theorem dX7_fits_50 : decode cX7_fits 50 = .ok (.isub, 1) := by decide +kernel
theorem dX7_fits_51 : decode cX7_fits 51 = .ok (.invokestatic 242, 3) := by decide +kernel
theorem dX7_fits_54 : decode cX7_fits 54 = .ok (.iload_n 2, 1) := by decide +kernel
theorem dX7_fits_55 : decode cX7_fits 55 = .ok (.if_icmp .gt 10, 3) := by decide +kernel
theorem dX7_fits_58 : decode cX7_fits 58 = .ok (.iload_n 3, 1) := by decide +kernel
theorem dX7_fits_59 : decode cX7_fits 59 = .ok (.iconst 1, 1) := by decide +kernel
theorem dX7_fits_60 : decode cX7_fits 60 = .ok (.iload 4, 2) := by decide +kernel
theorem dX7_fits_62 : decode cX7_fits 62 = .ok (.ishl, 1) := by decide +kernel
theorem dX7_fits_63 : decode cX7_fits 63 = .ok (.ior, 1) := by decide +kernel
theorem dX7_fits_64 : decode cX7_fits 64 = .ok (.istore_n 3, 1) := by decide +kernel
theorem dX7_fits_65 : decode cX7_fits 65 = .ok (.iinc 4 1, 3) := by decide +kernel
theorem dX7_fits_68 : decode cX7_fits 68 = .ok (.goto (-34), 3) := by decide +kernel
theorem dX7_fits_71 : decode cX7_fits 71 = .ok (.iload_n 3, 1) := by decide +kernel
theorem dX7_fits_72 : decode cX7_fits 72 = .ok (.ireturn, 1) := by decide +kernel
theorem dX7_shareOfHalf_0 : decode cX7_shareOfHalf 0 = .ok (.iconst 0, 1) := by decide +kernel
theorem dX7_shareOfHalf_1 : decode cX7_shareOfHalf 1 = .ok (.istore_n 3, 1) := by decide +kernel
theorem dX7_shareOfHalf_2 : decode cX7_shareOfHalf 2 = .ok (.iconst 0, 1) := by decide +kernel
theorem dX7_shareOfHalf_3 : decode cX7_shareOfHalf 3 = .ok (.istore 4, 2) := by decide +kernel
theorem dX7_shareOfHalf_5 : decode cX7_shareOfHalf 5 = .ok (.iload_n 2, 1) := by decide +kernel
theorem dX7_shareOfHalf_6 : decode cX7_shareOfHalf 6 = .ok (.istore 5, 2) := by decide +kernel
theorem dX7_shareOfHalf_8 : decode cX7_shareOfHalf 8 = .ok (.iload 5, 2) := by decide +kernel
theorem dX7_shareOfHalf_10 : decode cX7_shareOfHalf 10 = .ok (.aload_n 0, 1) := by decide +kernel
theorem dX7_shareOfHalf_11 : decode cX7_shareOfHalf 11 = .ok (.getfield 92, 3) := by decide +kernel
theorem dX7_shareOfHalf_14 : decode cX7_shareOfHalf 14 = .ok (.if_icmp .ge 38, 3) := by decide +kernel
theorem dX7_shareOfHalf_17 : decode cX7_shareOfHalf 17 = .ok (.iload_n 3, 1) := by decide +kernel
theorem dX7_shareOfHalf_18 : decode cX7_shareOfHalf 18 = .ok (.aload_n 0, 1) := by decide +kernel
theorem dX7_shareOfHalf_19 : decode cX7_shareOfHalf 19 = .ok (.getfield 29, 3) := by decide +kernel
theorem dX7_shareOfHalf_22 : decode cX7_shareOfHalf 22 = .ok (.iload 5, 2) := by decide +kernel
theorem dX7_shareOfHalf_24 : decode cX7_shareOfHalf 24 = .ok (.iaload, 1) := by decide +kernel
theorem dX7_shareOfHalf_25 : decode cX7_shareOfHalf 25 = .ok (.iadd, 1) := by decide +kernel
theorem dX7_shareOfHalf_26 : decode cX7_shareOfHalf 26 = .ok (.istore_n 3, 1) := by decide +kernel
theorem dX7_shareOfHalf_27 : decode cX7_shareOfHalf 27 = .ok (.iload 4, 2) := by decide +kernel
theorem dX7_shareOfHalf_29 : decode cX7_shareOfHalf 29 = .ok (.aload_n 0, 1) := by decide +kernel
theorem dX7_shareOfHalf_30 : decode cX7_shareOfHalf 30 = .ok (.iload_n 1, 1) := by decide +kernel
theorem dX7_shareOfHalf_31 : decode cX7_shareOfHalf 31 = .ok (.iload 5, 2) := by decide +kernel
theorem dX7_shareOfHalf_33 : decode cX7_shareOfHalf 33 = .ok (.aload_n 0, 1) := by decide +kernel
theorem dX7_shareOfHalf_34 : decode cX7_shareOfHalf 34 = .ok (.getfield 29, 3) := by decide +kernel
theorem dX7_shareOfHalf_37 : decode cX7_shareOfHalf 37 = .ok (.iload 5, 2) := by decide +kernel
theorem dX7_shareOfHalf_39 : decode cX7_shareOfHalf 39 = .ok (.iaload, 1) := by decide +kernel
theorem dX7_shareOfHalf_40 : decode cX7_shareOfHalf 40 = .ok (.invokevirtual 207, 3) := by decide +kernel
theorem dX7_shareOfHalf_43 : decode cX7_shareOfHalf 43 = .ok (.iadd, 1) := by decide +kernel
theorem dX7_shareOfHalf_44 : decode cX7_shareOfHalf 44 = .ok (.istore 4, 2) := by decide +kernel
theorem dX7_shareOfHalf_46 : decode cX7_shareOfHalf 46 = .ok (.iinc 5 2, 3) := by decide +kernel
theorem dX7_shareOfHalf_49 : decode cX7_shareOfHalf 49 = .ok (.goto (-41), 3) := by decide +kernel
theorem dX7_shareOfHalf_52 : decode cX7_shareOfHalf 52 = .ok (.iload 4, 2) := by decide +kernel
theorem dX7_shareOfHalf_54 : decode cX7_shareOfHalf 54 = .ok (.iload_n 3, 1) := by decide +kernel
theorem dX7_shareOfHalf_55 : decode cX7_shareOfHalf 55 = .ok (.invokestatic 214, 3) := by decide +kernel
theorem dX7_shareOfHalf_58 : decode cX7_shareOfHalf 58 = .ok (.ireturn, 1) := by decide +kernel
theorem dX7_halves_0 : decode cX7_halves 0 = .ok (.aload_n 0, 1) := by decide +kernel
theorem dX7_halves_1 : decode cX7_halves 1 = .ok (.iload_n 1, 1) := by decide +kernel
theorem dX7_halves_2 : decode cX7_halves 2 = .ok (.invokevirtual 102, 3) := by decide +kernel
theorem dX7_halves_5 : decode cX7_halves 5 = .ok (.ifCond .eq 14, 3) := by decide +kernel
theorem dX7_halves_8 : decode cX7_halves 8 = .ok (.aload_n 0, 1) := by decide +kernel
theorem dX7_halves_9 : decode cX7_halves 9 = .ok (.aload_n 0, 1) := by decide +kernel
theorem dX7_halves_10 : decode cX7_halves 10 = .ok (.getfield 139, 3) := by decide +kernel
theorem dX7_halves_13 : decode cX7_halves 13 = .ok (.invokevirtual 102, 3) := by decide +kernel
theorem dX7_halves_16 : decode cX7_halves 16 = .ok (.ifCond .ne 9, 3) := by decide +kernel
theorem dX7_halves_19 : decode cX7_halves 19 = .ok (.aload_n 0, 1) := by decide +kernel
theorem dX7_halves_20 : decode cX7_halves 20 = .ok (.iconst (-1), 1) := by decide +kernel
theorem dX7_halves_21 : decode cX7_halves 21 = .ok (.invokevirtual 127, 3) := by decide +kernel
theorem dX7_halves_24 : decode cX7_halves 24 = .ok (.ireturn, 1) := by decide +kernel
theorem dX7_halves_25 : decode cX7_halves 25 = .ok (.aload_n 0, 1) := by decide +kernel
theorem dX7_halves_26 : decode cX7_halves 26 = .ok (.iload_n 1, 1) := by decide +kernel
theorem dX7_halves_27 : decode cX7_halves 27 = .ok (.iconst 0, 1) := by decide +kernel
theorem dX7_halves_28 : decode cX7_halves 28 = .ok (.invokevirtual 275, 3) := by decide +kernel
theorem dX7_halves_31 : decode cX7_halves 31 = .ok (.aload_n 0, 1) := by decide +kernel
theorem dX7_halves_32 : decode cX7_halves 32 = .ok (.aload_n 0, 1) := by decide +kernel
theorem dX7_halves_33 : decode cX7_halves 33 = .ok (.getfield 139, 3) := by decide +kernel
theorem dX7_halves_36 : decode cX7_halves 36 = .ok (.iconst 1, 1) := by decide +kernel
theorem dX7_halves_37 : decode cX7_halves 37 = .ok (.invokevirtual 275, 3) := by decide +kernel
theorem dX7_halves_40 : decode cX7_halves 40 = .ok (.isub, 1) := by decide +kernel
theorem dX7_halves_41 : decode cX7_halves 41 = .ok (.ireturn, 1) := by decide +kernel
theorem dX7_twin_0 : decode cX7_twin 0 = .ok (.aload_n 0, 1) := by decide +kernel
theorem dX7_twin_1 : decode cX7_twin 1 = .ok (.iload_n 1, 1) := by decide +kernel
theorem dX7_twin_2 : decode cX7_twin 2 = .ok (.invokevirtual 102, 3) := by decide +kernel
theorem dX7_twin_5 : decode cX7_twin 5 = .ok (.ifCond .ne 9, 3) := by decide +kernel
theorem dX7_twin_8 : decode cX7_twin 8 = .ok (.aload_n 0, 1) := by decide +kernel
theorem dX7_twin_9 : decode cX7_twin 9 = .ok (.iconst (-1), 1) := by decide +kernel
theorem dX7_twin_10 : decode cX7_twin 10 = .ok (.invokevirtual 266, 3) := by decide +kernel
theorem dX7_twin_13 : decode cX7_twin 13 = .ok (.ireturn, 1) := by decide +kernel
theorem dX7_twin_14 : decode cX7_twin 14 = .ok (.iconst (-1), 1) := by decide +kernel
theorem dX7_twin_15 : decode cX7_twin 15 = .ok (.istore_n 2, 1) := by decide +kernel
theorem dX7_twin_16 : decode cX7_twin 16 = .ok (.iconst 0, 1) := by decide +kernel
theorem dX7_twin_17 : decode cX7_twin 17 = .ok (.istore_n 3, 1) := by decide +kernel
theorem dX7_twin_18 : decode cX7_twin 18 = .ok (.iconst 0, 1) := by decide +kernel
theorem dX7_twin_19 : decode cX7_twin 19 = .ok (.istore 4, 2) := by decide +kernel
theorem dX7_twin_21 : decode cX7_twin 21 = .ok (.iload 4, 2) := by decide +kernel
theorem dX7_twin_23 : decode cX7_twin 23 = .ok (.aload_n 0, 1) := by decide +kernel
theorem dX7_twin_24 : decode cX7_twin 24 = .ok (.getfield 85, 3) := by decide +kernel
theorem dX7_twin_27 : decode cX7_twin 27 = .ok (.if_icmp .ge 56, 3) := by decide +kernel
theorem dX7_twin_30 : decode cX7_twin 30 = .ok (.aload_n 0, 1) := by decide +kernel
theorem dX7_twin_31 : decode cX7_twin 31 = .ok (.iload_n 1, 1) := by decide +kernel
theorem dX7_twin_32 : decode cX7_twin 32 = .ok (.invokevirtual 112, 3) := by decide +kernel
theorem dX7_twin_35 : decode cX7_twin 35 = .ok (.aload_n 0, 1) := by decide +kernel
theorem dX7_twin_36 : decode cX7_twin 36 = .ok (.iload 4, 2) := by decide +kernel
theorem dX7_twin_38 : decode cX7_twin 38 = .ok (.invokevirtual 112, 3) := by decide +kernel
theorem dX7_twin_41 : decode cX7_twin 41 = .ok (.iadd, 1) := by decide +kernel
theorem dX7_twin_42 : decode cX7_twin 42 = .ok (.sipush 1000, 3) := by decide +kernel
theorem dX7_twin_45 : decode cX7_twin 45 = .ok (.isub, 1) := by decide +kernel
theorem dX7_twin_46 : decode cX7_twin 46 = .ok (.invokestatic 242, 3) := by decide +kernel
theorem dX7_twin_49 : decode cX7_twin 49 = .ok (.istore 5, 2) := by decide +kernel
theorem dX7_twin_51 : decode cX7_twin 51 = .ok (.iload 4, 2) := by decide +kernel
theorem dX7_twin_53 : decode cX7_twin 53 = .ok (.iload_n 1, 1) := by decide +kernel
theorem dX7_twin_54 : decode cX7_twin 54 = .ok (.if_icmp .eq 23, 3) := by decide +kernel
theorem dX7_twin_57 : decode cX7_twin 57 = .ok (.iload_n 2, 1) := by decide +kernel
theorem dX7_twin_58 : decode cX7_twin 58 = .ok (.iconst (-1), 1) := by decide +kernel
theorem dX7_twin_59 : decode cX7_twin 59 = .ok (.if_icmp .eq 12, 3) := by decide +kernel
theorem dX7_twin_62 : decode cX7_twin 62 = .ok (.iload 5, 2) := by decide +kernel
theorem dX7_twin_64 : decode cX7_twin 64 = .ok (.iload_n 3, 1) := by decide +kernel
theorem dX7_twin_65 : decode cX7_twin 65 = .ok (.if_icmp .lt 6, 3) := by decide +kernel
theorem dX7_twin_68 : decode cX7_twin 68 = .ok (.goto 9, 3) := by decide +kernel
theorem dX7_twin_71 : decode cX7_twin 71 = .ok (.iload 4, 2) := by decide +kernel
theorem dX7_twin_73 : decode cX7_twin 73 = .ok (.istore_n 2, 1) := by decide +kernel
theorem dX7_twin_74 : decode cX7_twin 74 = .ok (.iload 5, 2) := by decide +kernel
theorem dX7_twin_76 : decode cX7_twin 76 = .ok (.istore_n 3, 1) := by decide +kernel
theorem dX7_twin_77 : decode cX7_twin 77 = .ok (.iinc 4 1, 3) := by decide +kernel
theorem dX7_twin_80 : decode cX7_twin 80 = .ok (.goto (-59), 3) := by decide +kernel
theorem dX7_twin_83 : decode cX7_twin 83 = .ok (.iload_n 2, 1) := by decide +kernel
theorem dX7_twin_84 : decode cX7_twin 84 = .ok (.ireturn, 1) := by decide +kernel
theorem dX7_nearest_0 : decode cX7_nearest 0 = .ok (.aload_n 0, 1) := by decide +kernel
theorem dX7_nearest_1 : decode cX7_nearest 1 = .ok (.getfield 85, 3) := by decide +kernel
theorem dX7_nearest_4 : decode cX7_nearest 4 = .ok (.ifCond .ne 10, 3) := by decide +kernel
theorem dX7_nearest_7 : decode cX7_nearest 7 = .ok (.aload_n 0, 1) := by decide +kernel
theorem dX7_nearest_8 : decode cX7_nearest 8 = .ok (.bipush (-5), 2) := by decide +kernel
theorem dX7_nearest_10 : decode cX7_nearest 10 = .ok (.invokevirtual 81, 3) := by decide +kernel
theorem dX7_nearest_13 : decode cX7_nearest 13 = .ok (.ireturn, 1) := by decide +kernel
theorem dX7_nearest_14 : decode cX7_nearest 14 = .ok (.iconst 0, 1) := by decide +kernel
theorem dX7_nearest_15 : decode cX7_nearest 15 = .ok (.istore_n 1, 1) := by decide +kernel
theorem dX7_nearest_16 : decode cX7_nearest 16 = .ok (.iconst 1, 1) := by decide +kernel
theorem dX7_nearest_17 : decode cX7_nearest 17 = .ok (.istore_n 2, 1) := by decide +kernel
theorem dX7_nearest_18 : decode cX7_nearest 18 = .ok (.iload_n 2, 1) := by decide +kernel
theorem dX7_nearest_19 : decode cX7_nearest 19 = .ok (.aload_n 0, 1) := by decide +kernel
theorem dX7_nearest_20 : decode cX7_nearest 20 = .ok (.getfield 85, 3) := by decide +kernel
theorem dX7_nearest_23 : decode cX7_nearest 23 = .ok (.if_icmp .ge 30, 3) := by decide +kernel
theorem dX7_nearest_26 : decode cX7_nearest 26 = .ok (.aload_n 0, 1) := by decide +kernel
theorem dX7_nearest_27 : decode cX7_nearest 27 = .ok (.iload_n 2, 1) := by decide +kernel
theorem dX7_nearest_28 : decode cX7_nearest 28 = .ok (.invokevirtual 133, 3) := by decide +kernel
theorem dX7_nearest_31 : decode cX7_nearest 31 = .ok (.invokestatic 242, 3) := by decide +kernel
theorem dX7_nearest_34 : decode cX7_nearest 34 = .ok (.aload_n 0, 1) := by decide +kernel
theorem dX7_nearest_35 : decode cX7_nearest 35 = .ok (.iload_n 1, 1) := by decide +kernel
theorem dX7_nearest_36 : decode cX7_nearest 36 = .ok (.invokevirtual 133, 3) := by decide +kernel
theorem dX7_nearest_39 : decode cX7_nearest 39 = .ok (.invokestatic 242, 3) := by decide +kernel
theorem dX7_nearest_42 : decode cX7_nearest 42 = .ok (.if_icmp .ge 5, 3) := by decide +kernel
theorem dX7_nearest_45 : decode cX7_nearest 45 = .ok (.iload_n 2, 1) := by decide +kernel
theorem dX7_nearest_46 : decode cX7_nearest 46 = .ok (.istore_n 1, 1) := by decide +kernel
theorem dX7_nearest_47 : decode cX7_nearest 47 = .ok (.iinc 2 1, 3) := by decide +kernel
theorem dX7_nearest_50 : decode cX7_nearest 50 = .ok (.goto (-32), 3) := by decide +kernel
theorem dX7_nearest_53 : decode cX7_nearest 53 = .ok (.iload_n 1, 1) := by decide +kernel
theorem dX7_nearest_54 : decode cX7_nearest 54 = .ok (.ireturn, 1) := by decide +kernel
theorem dX7_shareMoved_0 : decode cX7_shareMoved 0 = .ok (.iconst 0, 1) := by decide +kernel
theorem dX7_shareMoved_1 : decode cX7_shareMoved 1 = .ok (.istore_n 3, 1) := by decide +kernel
theorem dX7_shareMoved_2 : decode cX7_shareMoved 2 = .ok (.iload_n 2, 1) := by decide +kernel
theorem dX7_shareMoved_3 : decode cX7_shareMoved 3 = .ok (.istore 4, 2) := by decide +kernel
theorem dX7_shareMoved_5 : decode cX7_shareMoved 5 = .ok (.iconst 0, 1) := by decide +kernel
theorem dX7_shareMoved_6 : decode cX7_shareMoved 6 = .ok (.istore 5, 2) := by decide +kernel
theorem dX7_shareMoved_8 : decode cX7_shareMoved 8 = .ok (.iload 5, 2) := by decide +kernel
theorem dX7_shareMoved_10 : decode cX7_shareMoved 10 = .ok (.aload_n 0, 1) := by decide +kernel
theorem dX7_shareMoved_11 : decode cX7_shareMoved 11 = .ok (.getfield 92, 3) := by decide +kernel
theorem dX7_shareMoved_14 : decode cX7_shareMoved 14 = .ok (.if_icmp .ge 81, 3) := by decide +kernel
theorem dX7_shareMoved_17 : decode cX7_shareMoved 17 = .ok (.aload_n 0, 1) := by decide +kernel
theorem dX7_shareMoved_18 : decode cX7_shareMoved 18 = .ok (.getfield 32, 3) := by decide +kernel
theorem dX7_shareMoved_21 : decode cX7_shareMoved 21 = .ok (.iload 5, 2) := by decide +kernel
theorem dX7_shareMoved_23 : decode cX7_shareMoved 23 = .ok (.iaload, 1) := by decide +kernel
theorem dX7_shareMoved_24 : decode cX7_shareMoved 24 = .ok (.iconst 2, 1) := by decide +kernel
theorem dX7_shareMoved_25 : decode cX7_shareMoved 25 = .ok (.if_icmp .ne 18, 3) := by decide +kernel
theorem dX7_shareMoved_28 : decode cX7_shareMoved 28 = .ok (.iload 4, 2) := by decide +kernel
theorem dX7_shareMoved_30 : decode cX7_shareMoved 30 = .ok (.aload_n 0, 1) := by decide +kernel
theorem dX7_shareMoved_31 : decode cX7_shareMoved 31 = .ok (.getfield 29, 3) := by decide +kernel
theorem dX7_shareMoved_34 : decode cX7_shareMoved 34 = .ok (.iload 5, 2) := by decide +kernel
theorem dX7_shareMoved_36 : decode cX7_shareMoved 36 = .ok (.iaload, 1) := by decide +kernel
theorem dX7_shareMoved_37 : decode cX7_shareMoved 37 = .ok (.invokestatic 202, 3) := by decide +kernel
theorem dX7_shareMoved_40 : decode cX7_shareMoved 40 = .ok (.goto 4, 3) := by decide +kernel
theorem dX7_shareMoved_43 : decode cX7_shareMoved 43 = .ok (.iconst 0, 1) := by decide +kernel
theorem dX7_shareMoved_44 : decode cX7_shareMoved 44 = .ok (.istore 6, 2) := by decide +kernel
theorem dX7_shareMoved_46 : decode cX7_shareMoved 46 = .ok (.iload 4, 2) := by decide +kernel
theorem dX7_shareMoved_48 : decode cX7_shareMoved 48 = .ok (.iload 6, 2) := by decide +kernel
theorem dX7_shareMoved_50 : decode cX7_shareMoved 50 = .ok (.isub, 1) := by decide +kernel
theorem dX7_shareMoved_51 : decode cX7_shareMoved 51 = .ok (.istore 4, 2) := by decide +kernel
theorem dX7_shareMoved_53 : decode cX7_shareMoved 53 = .ok (.iload_n 3, 1) := by decide +kernel
theorem dX7_shareMoved_54 : decode cX7_shareMoved 54 = .ok (.aload_n 0, 1) := by decide +kernel
theorem dX7_shareMoved_55 : decode cX7_shareMoved 55 = .ok (.iload_n 1, 1) := by decide +kernel
theorem dX7_shareMoved_56 : decode cX7_shareMoved 56 = .ok (.iload 5, 2) := by decide +kernel
theorem dX7_shareMoved_58 : decode cX7_shareMoved 58 = .ok (.aload_n 0, 1) := by decide +kernel
theorem dX7_shareMoved_59 : decode cX7_shareMoved 59 = .ok (.getfield 29, 3) := by decide +kernel
theorem dX7_shareMoved_62 : decode cX7_shareMoved 62 = .ok (.iload 5, 2) := by decide +kernel
theorem dX7_shareMoved_64 : decode cX7_shareMoved 64 = .ok (.iaload, 1) := by decide +kernel
theorem dX7_shareMoved_65 : decode cX7_shareMoved 65 = .ok (.iload 6, 2) := by decide +kernel
theorem dX7_shareMoved_67 : decode cX7_shareMoved 67 = .ok (.isub, 1) := by decide +kernel
theorem dX7_shareMoved_68 : decode cX7_shareMoved 68 = .ok (.invokevirtual 207, 3) := by decide +kernel
theorem dX7_shareMoved_71 : decode cX7_shareMoved 71 = .ok (.aload_n 0, 1) := by decide +kernel
theorem dX7_shareMoved_72 : decode cX7_shareMoved 72 = .ok (.iload_n 1, 1) := by decide +kernel
theorem dX7_shareMoved_73 : decode cX7_shareMoved 73 = .ok (.iconst 0, 1) := by decide +kernel
theorem dX7_shareMoved_74 : decode cX7_shareMoved 74 = .ok (.aload_n 0, 1) := by decide +kernel
theorem dX7_shareMoved_75 : decode cX7_shareMoved 75 = .ok (.getfield 35, 3) := by decide +kernel
theorem dX7_shareMoved_78 : decode cX7_shareMoved 78 = .ok (.iload 5, 2) := by decide +kernel
theorem dX7_shareMoved_80 : decode cX7_shareMoved 80 = .ok (.iaload, 1) := by decide +kernel
theorem dX7_shareMoved_81 : decode cX7_shareMoved 81 = .ok (.iload 6, 2) := by decide +kernel
theorem dX7_shareMoved_83 : decode cX7_shareMoved 83 = .ok (.invokevirtual 115, 3) := by decide +kernel
theorem dX7_shareMoved_86 : decode cX7_shareMoved 86 = .ok (.iadd, 1) := by decide +kernel
theorem dX7_shareMoved_87 : decode cX7_shareMoved 87 = .ok (.iadd, 1) := by decide +kernel
theorem dX7_shareMoved_88 : decode cX7_shareMoved 88 = .ok (.istore_n 3, 1) := by decide +kernel
theorem dX7_shareMoved_89 : decode cX7_shareMoved 89 = .ok (.iinc 5 1, 3) := by decide +kernel
theorem dX7_shareMoved_92 : decode cX7_shareMoved 92 = .ok (.goto (-84), 3) := by decide +kernel
theorem dX7_shareMoved_95 : decode cX7_shareMoved 95 = .ok (.iload_n 3, 1) := by decide +kernel
theorem dX7_shareMoved_96 : decode cX7_shareMoved 96 = .ok (.aload_n 0, 1) := by decide +kernel
theorem dX7_shareMoved_97 : decode cX7_shareMoved 97 = .ok (.invokevirtual 211, 3) := by decide +kernel
theorem dX7_shareMoved_100 : decode cX7_shareMoved 100 = .ok (.invokestatic 214, 3) := by decide +kernel
theorem dX7_shareMoved_103 : decode cX7_shareMoved 103 = .ok (.ireturn, 1) := by decide +kernel
theorem dX7_move_0 : decode cX7_move 0 = .ok (.aload_n 0, 1) := by decide +kernel
theorem dX7_move_1 : decode cX7_move 1 = .ok (.iload_n 1, 1) := by decide +kernel
theorem dX7_move_2 : decode cX7_move 2 = .ok (.invokevirtual 102, 3) := by decide +kernel
theorem dX7_move_5 : decode cX7_move 5 = .ok (.ifCond .ne 9, 3) := by decide +kernel
theorem dX7_move_8 : decode cX7_move 8 = .ok (.aload_n 0, 1) := by decide +kernel
theorem dX7_move_9 : decode cX7_move 9 = .ok (.iconst (-1), 1) := by decide +kernel
theorem dX7_move_10 : decode cX7_move 10 = .ok (.invokevirtual 266, 3) := by decide +kernel
theorem dX7_move_13 : decode cX7_move 13 = .ok (.ireturn, 1) := by decide +kernel
theorem dX7_move_14 : decode cX7_move 14 = .ok (.iload_n 2, 1) := by decide +kernel
theorem dX7_move_15 : decode cX7_move 15 = .ok (.iconst 0, 1) := by decide +kernel
theorem dX7_move_16 : decode cX7_move 16 = .ok (.sipush 1000, 3) := by decide +kernel
theorem dX7_move_19 : decode cX7_move 19 = .ok (.invokestatic 88, 3) := by decide +kernel
theorem dX7_move_22 : decode cX7_move 22 = .ok (.ifCond .ne 10, 3) := by decide +kernel
theorem dX7_move_25 : decode cX7_move 25 = .ok (.aload_n 0, 1) := by decide +kernel
theorem dX7_move_26 : decode cX7_move 26 = .ok (.bipush (-6), 2) := by decide +kernel
theorem dX7_move_28 : decode cX7_move 28 = .ok (.invokevirtual 266, 3) := by decide +kernel
theorem dX7_move_31 : decode cX7_move 31 = .ok (.ireturn, 1) := by decide +kernel
theorem dX7_move_32 : decode cX7_move 32 = .ok (.iconst 0, 1) := by decide +kernel
theorem dX7_move_33 : decode cX7_move 33 = .ok (.istore_n 3, 1) := by decide +kernel
theorem dX7_move_34 : decode cX7_move 34 = .ok (.iconst 0, 1) := by decide +kernel
theorem dX7_move_35 : decode cX7_move 35 = .ok (.istore 4, 2) := by decide +kernel
theorem dX7_move_37 : decode cX7_move 37 = .ok (.iload 4, 2) := by decide +kernel
theorem dX7_move_39 : decode cX7_move 39 = .ok (.aload_n 0, 1) := by decide +kernel
theorem dX7_move_40 : decode cX7_move 40 = .ok (.getfield 92, 3) := by decide +kernel
theorem dX7_move_43 : decode cX7_move 43 = .ok (.if_icmp .ge 30, 3) := by decide +kernel
theorem dX7_move_46 : decode cX7_move 46 = .ok (.aload_n 0, 1) := by decide +kernel
theorem dX7_move_47 : decode cX7_move 47 = .ok (.getfield 32, 3) := by decide +kernel
theorem dX7_move_50 : decode cX7_move 50 = .ok (.iload 4, 2) := by decide +kernel
theorem dX7_move_52 : decode cX7_move 52 = .ok (.iaload, 1) := by decide +kernel
theorem dX7_move_53 : decode cX7_move 53 = .ok (.iconst 2, 1) := by decide +kernel
theorem dX7_move_54 : decode cX7_move 54 = .ok (.if_icmp .ne 13, 3) := by decide +kernel
theorem dX7_move_57 : decode cX7_move 57 = .ok (.iload_n 3, 1) := by decide +kernel
theorem dX7_move_58 : decode cX7_move 58 = .ok (.aload_n 0, 1) := by decide +kernel
theorem dX7_move_59 : decode cX7_move 59 = .ok (.getfield 29, 3) := by decide +kernel
theorem dX7_move_62 : decode cX7_move 62 = .ok (.iload 4, 2) := by decide +kernel
theorem dX7_move_64 : decode cX7_move 64 = .ok (.iaload, 1) := by decide +kernel
theorem dX7_move_65 : decode cX7_move 65 = .ok (.iadd, 1) := by decide +kernel
theorem dX7_move_66 : decode cX7_move 66 = .ok (.istore_n 3, 1) := by decide +kernel
theorem dX7_move_67 : decode cX7_move 67 = .ok (.iinc 4 1, 3) := by decide +kernel
theorem dX7_move_70 : decode cX7_move 70 = .ok (.goto (-33), 3) := by decide +kernel
theorem dX7_move_73 : decode cX7_move 73 = .ok (.iconst 0, 1) := by decide +kernel
theorem dX7_move_74 : decode cX7_move 74 = .ok (.istore 4, 2) := by decide +kernel
theorem dX7_move_76 : decode cX7_move 76 = .ok (.iload 4, 2) := by decide +kernel
theorem dX7_move_78 : decode cX7_move 78 = .ok (.iload_n 3, 1) := by decide +kernel
theorem dX7_move_79 : decode cX7_move 79 = .ok (.if_icmp .gt 23, 3) := by decide +kernel
theorem dX7_move_82 : decode cX7_move 82 = .ok (.aload_n 0, 1) := by decide +kernel
theorem dX7_move_83 : decode cX7_move 83 = .ok (.iload_n 1, 1) := by decide +kernel
theorem dX7_move_84 : decode cX7_move 84 = .ok (.iload 4, 2) := by decide +kernel
theorem dX7_move_86 : decode cX7_move 86 = .ok (.invokevirtual 278, 3) := by decide +kernel
theorem dX7_move_89 : decode cX7_move 89 = .ok (.iload_n 2, 1) := by decide +kernel
theorem dX7_move_90 : decode cX7_move 90 = .ok (.if_icmp .lt 6, 3) := by decide +kernel
theorem dX7_move_93 : decode cX7_move 93 = .ok (.iload 4, 2) := by decide +kernel
theorem dX7_move_95 : decode cX7_move 95 = .ok (.ireturn, 1) := by decide +kernel
theorem dX7_move_96 : decode cX7_move 96 = .ok (.iinc 4 1, 3) := by decide +kernel
theorem dX7_move_99 : decode cX7_move 99 = .ok (.goto (-23), 3) := by decide +kernel
theorem dX7_move_102 : decode cX7_move 102 = .ok (.iconst (-1), 1) := by decide +kernel
theorem dX7_move_103 : decode cX7_move 103 = .ok (.ireturn, 1) := by decide +kernel
theorem dX7_told_0 : decode cX7_told 0 = .ok (.aload_n 0, 1) := by decide +kernel
theorem dX7_told_1 : decode cX7_told 1 = .ok (.getfield 16, 3) := by decide +kernel
theorem dX7_told_4 : decode cX7_told 4 = .ok (.sipush 160, 3) := by decide +kernel
theorem dX7_told_7 : decode cX7_told 7 = .ok (.iload_n 1, 1) := by decide +kernel
theorem dX7_told_8 : decode cX7_told 8 = .ok (.imul, 1) := by decide +kernel
theorem dX7_told_9 : decode cX7_told 9 = .ok (.iload_n 2, 1) := by decide +kernel
theorem dX7_told_10 : decode cX7_told 10 = .ok (.iadd, 1) := by decide +kernel
theorem dX7_told_11 : decode cX7_told 11 = .ok (.laload, 1) := by decide +kernel
theorem dX7_told_12 : decode cX7_told 12 = .ok (.l2i, 1) := by decide +kernel
theorem dX7_told_13 : decode cX7_told 13 = .ok (.ireturn, 1) := by decide +kernel
theorem dX7_noRound_0 : decode cX7_noRound 0 = .ok (.aload_n 0, 1) := by decide +kernel
theorem dX7_noRound_1 : decode cX7_noRound 1 = .ok (.iload_n 1, 1) := by decide +kernel
theorem dX7_noRound_2 : decode cX7_noRound 2 = .ok (.invokevirtual 99, 3) := by decide +kernel
theorem dX7_noRound_5 : decode cX7_noRound 5 = .ok (.istore_n 3, 1) := by decide +kernel
theorem dX7_noRound_6 : decode cX7_noRound 6 = .ok (.iload_n 3, 1) := by decide +kernel
theorem dX7_noRound_7 : decode cX7_noRound 7 = .ok (.ifCond .ge 5, 3) := by decide +kernel
theorem dX7_noRound_10 : decode cX7_noRound 10 = .ok (.iload_n 3, 1) := by decide +kernel
theorem dX7_noRound_11 : decode cX7_noRound 11 = .ok (.ireturn, 1) := by decide +kernel
theorem dX7_noRound_12 : decode cX7_noRound 12 = .ok (.iload_n 2, 1) := by decide +kernel
theorem dX7_noRound_13 : decode cX7_noRound 13 = .ok (.ifCond .ge 6, 3) := by decide +kernel
theorem dX7_noRound_16 : decode cX7_noRound 16 = .ok (.bipush (-4), 2) := by decide +kernel
theorem dX7_noRound_18 : decode cX7_noRound 18 = .ok (.ireturn, 1) := by decide +kernel
theorem dX7_noRound_19 : decode cX7_noRound 19 = .ok (.iload_n 2, 1) := by decide +kernel
theorem dX7_noRound_20 : decode cX7_noRound 20 = .ok (.aload_n 0, 1) := by decide +kernel
theorem dX7_noRound_21 : decode cX7_noRound 21 = .ok (.getfield 13, 3) := by decide +kernel
theorem dX7_noRound_24 : decode cX7_noRound 24 = .ok (.iload_n 1, 1) := by decide +kernel
theorem dX7_noRound_25 : decode cX7_noRound 25 = .ok (.iaload, 1) := by decide +kernel
theorem dX7_noRound_26 : decode cX7_noRound 26 = .ok (.if_icmp .le 6, 3) := by decide +kernel
theorem dX7_noRound_29 : decode cX7_noRound 29 = .ok (.bipush (-5), 2) := by decide +kernel
theorem dX7_noRound_31 : decode cX7_noRound 31 = .ok (.ireturn, 1) := by decide +kernel
theorem dX7_noRound_32 : decode cX7_noRound 32 = .ok (.iload_n 2, 1) := by decide +kernel
theorem dX7_noRound_33 : decode cX7_noRound 33 = .ok (.bipush 20, 2) := by decide +kernel
theorem dX7_noRound_35 : decode cX7_noRound 35 = .ok (.if_icmp .le 8, 3) := by decide +kernel
theorem dX7_noRound_38 : decode cX7_noRound 38 = .ok (.bipush (-6), 2) := by decide +kernel
theorem dX7_noRound_40 : decode cX7_noRound 40 = .ok (.goto 4, 3) := by decide +kernel
theorem dX7_noRound_43 : decode cX7_noRound 43 = .ok (.iconst 0, 1) := by decide +kernel
theorem dX7_noRound_44 : decode cX7_noRound 44 = .ok (.ireturn, 1) := by decide +kernel
theorem dX7_wrong_0 : decode cX7_wrong 0 = .ok (.iconst 0, 1) := by decide +kernel
theorem dX7_wrong_1 : decode cX7_wrong 1 = .ok (.istore_n 3, 1) := by decide +kernel
theorem dX7_wrong_2 : decode cX7_wrong 2 = .ok (.iconst 0, 1) := by decide +kernel
theorem dX7_wrong_3 : decode cX7_wrong 3 = .ok (.istore 4, 2) := by decide +kernel
theorem dX7_wrong_5 : decode cX7_wrong 5 = .ok (.iload 4, 2) := by decide +kernel
theorem dX7_wrong_7 : decode cX7_wrong 7 = .ok (.iload_n 2, 1) := by decide +kernel
theorem dX7_wrong_8 : decode cX7_wrong 8 = .ok (.if_icmp .ge 52, 3) := by decide +kernel
theorem dX7_wrong_11 : decode cX7_wrong 11 = .ok (.aload_n 0, 1) := by decide +kernel
theorem dX7_wrong_12 : decode cX7_wrong 12 = .ok (.aload_n 0, 1) := by decide +kernel
theorem dX7_wrong_13 : decode cX7_wrong 13 = .ok (.iload_n 1, 1) := by decide +kernel
theorem dX7_wrong_14 : decode cX7_wrong 14 = .ok (.iload 4, 2) := by decide +kernel
theorem dX7_wrong_16 : decode cX7_wrong 16 = .ok (.invokevirtual 281, 3) := by decide +kernel
theorem dX7_wrong_19 : decode cX7_wrong 19 = .ok (.invokevirtual 102, 3) := by decide +kernel
theorem dX7_wrong_22 : decode cX7_wrong 22 = .ok (.ifCond .eq 17, 3) := by decide +kernel
theorem dX7_wrong_25 : decode cX7_wrong 25 = .ok (.iload_n 3, 1) := by decide +kernel
theorem dX7_wrong_26 : decode cX7_wrong 26 = .ok (.aload_n 0, 1) := by decide +kernel
theorem dX7_wrong_27 : decode cX7_wrong 27 = .ok (.iload_n 1, 1) := by decide +kernel
theorem dX7_wrong_28 : decode cX7_wrong 28 = .ok (.iload 4, 2) := by decide +kernel
theorem dX7_wrong_30 : decode cX7_wrong 30 = .ok (.invokevirtual 281, 3) := by decide +kernel
theorem dX7_wrong_33 : decode cX7_wrong 33 = .ok (.invokestatic 257, 3) := by decide +kernel
theorem dX7_wrong_36 : decode cX7_wrong 36 = .ok (.ifCond .eq 6, 3) := by decide +kernel
theorem dX7_wrong_39 : decode cX7_wrong 39 = .ok (.iload 4, 2) := by decide +kernel
theorem dX7_wrong_41 : decode cX7_wrong 41 = .ok (.ireturn, 1) := by decide +kernel
theorem dX7_wrong_42 : decode cX7_wrong 42 = .ok (.iload_n 3, 1) := by decide +kernel
theorem dX7_wrong_43 : decode cX7_wrong 43 = .ok (.iconst 1, 1) := by decide +kernel
theorem dX7_wrong_44 : decode cX7_wrong 44 = .ok (.aload_n 0, 1) := by decide +kernel
theorem dX7_wrong_45 : decode cX7_wrong 45 = .ok (.iload_n 1, 1) := by decide +kernel
theorem dX7_wrong_46 : decode cX7_wrong 46 = .ok (.iload 4, 2) := by decide +kernel
theorem dX7_wrong_48 : decode cX7_wrong 48 = .ok (.invokevirtual 281, 3) := by decide +kernel
theorem dX7_wrong_51 : decode cX7_wrong 51 = .ok (.ishl, 1) := by decide +kernel
theorem dX7_wrong_52 : decode cX7_wrong 52 = .ok (.ior, 1) := by decide +kernel
theorem dX7_wrong_53 : decode cX7_wrong 53 = .ok (.istore_n 3, 1) := by decide +kernel
theorem dX7_wrong_54 : decode cX7_wrong 54 = .ok (.iinc 4 1, 3) := by decide +kernel
theorem dX7_wrong_57 : decode cX7_wrong 57 = .ok (.goto (-52), 3) := by decide +kernel
theorem dX7_wrong_60 : decode cX7_wrong 60 = .ok (.iconst (-1), 1) := by decide +kernel
theorem dX7_wrong_61 : decode cX7_wrong 61 = .ok (.ireturn, 1) := by decide +kernel
theorem dX7_judge_0 : decode cX7_judge 0 = .ok (.aload_n 0, 1) := by decide +kernel
theorem dX7_judge_1 : decode cX7_judge 1 = .ok (.iload_n 1, 1) := by decide +kernel
theorem dX7_judge_2 : decode cX7_judge 2 = .ok (.iload_n 2, 1) := by decide +kernel
theorem dX7_judge_3 : decode cX7_judge 3 = .ok (.invokevirtual 284, 3) := by decide +kernel
theorem dX7_judge_6 : decode cX7_judge 6 = .ok (.istore_n 3, 1) := by decide +kernel
theorem dX7_judge_7 : decode cX7_judge 7 = .ok (.iload_n 3, 1) := by decide +kernel
theorem dX7_judge_8 : decode cX7_judge 8 = .ok (.ifCond .ge 11, 3) := by decide +kernel
theorem dX7_judge_11 : decode cX7_judge 11 = .ok (.aload_n 0, 1) := by decide +kernel
theorem dX7_judge_12 : decode cX7_judge 12 = .ok (.iload_n 3, 1) := by decide +kernel
theorem dX7_judge_13 : decode cX7_judge 13 = .ok (.invokevirtual 266, 3) := by decide +kernel
theorem dX7_judge_16 : decode cX7_judge 16 = .ok (.goto 9, 3) := by decide +kernel
theorem dX7_judge_19 : decode cX7_judge 19 = .ok (.aload_n 0, 1) := by decide +kernel
theorem dX7_judge_20 : decode cX7_judge 20 = .ok (.iload_n 1, 1) := by decide +kernel
theorem dX7_judge_21 : decode cX7_judge 21 = .ok (.iload_n 2, 1) := by decide +kernel
theorem dX7_judge_22 : decode cX7_judge 22 = .ok (.invokevirtual 287, 3) := by decide +kernel
theorem dX7_judge_25 : decode cX7_judge 25 = .ok (.ireturn, 1) := by decide +kernel
theorem dX7_round_0 : decode cX7_round 0 = .ok (.aload_n 0, 1) := by decide +kernel
theorem dX7_round_1 : decode cX7_round 1 = .ok (.iload_n 1, 1) := by decide +kernel
theorem dX7_round_2 : decode cX7_round 2 = .ok (.iload_n 2, 1) := by decide +kernel
theorem dX7_round_3 : decode cX7_round 3 = .ok (.invokevirtual 284, 3) := by decide +kernel
theorem dX7_round_6 : decode cX7_round 6 = .ok (.istore 4, 2) := by decide +kernel
theorem dX7_round_8 : decode cX7_round 8 = .ok (.iload 4, 2) := by decide +kernel
theorem dX7_round_10 : decode cX7_round 10 = .ok (.ifCond .ge 17, 3) := by decide +kernel
theorem dX7_round_13 : decode cX7_round 13 = .ok (.iload 4, 2) := by decide +kernel
theorem dX7_round_15 : decode cX7_round 15 = .ok (.bipush (-5), 2) := by decide +kernel
theorem dX7_round_17 : decode cX7_round 17 = .ok (.if_icmp .le 10, 3) := by decide +kernel
theorem dX7_round_20 : decode cX7_round 20 = .ok (.aload_n 0, 1) := by decide +kernel
theorem dX7_round_21 : decode cX7_round 21 = .ok (.iload 4, 2) := by decide +kernel
theorem dX7_round_23 : decode cX7_round 23 = .ok (.invokevirtual 81, 3) := by decide +kernel
theorem dX7_round_26 : decode cX7_round 26 = .ok (.ireturn, 1) := by decide +kernel
theorem dX7_round_27 : decode cX7_round 27 = .ok (.iload 4, 2) := by decide +kernel
theorem dX7_round_29 : decode cX7_round 29 = .ok (.bipush (-5), 2) := by decide +kernel
theorem dX7_round_31 : decode cX7_round 31 = .ok (.if_icmp .eq 14, 3) := by decide +kernel
theorem dX7_round_34 : decode cX7_round 34 = .ok (.iload_n 3, 1) := by decide +kernel
theorem dX7_round_35 : decode cX7_round 35 = .ok (.iconst (-1), 1) := by decide +kernel
theorem dX7_round_36 : decode cX7_round 36 = .ok (.iload_n 2, 1) := by decide +kernel
theorem dX7_round_37 : decode cX7_round 37 = .ok (.iconst 1, 1) := by decide +kernel
theorem dX7_round_38 : decode cX7_round 38 = .ok (.isub, 1) := by decide +kernel
theorem dX7_round_39 : decode cX7_round 39 = .ok (.invokestatic 88, 3) := by decide +kernel
theorem dX7_round_42 : decode cX7_round 42 = .ok (.ifCond .ne 10, 3) := by decide +kernel
theorem dX7_round_45 : decode cX7_round 45 = .ok (.aload_n 0, 1) := by decide +kernel
theorem dX7_round_46 : decode cX7_round 46 = .ok (.bipush (-5), 2) := by decide +kernel
theorem dX7_round_48 : decode cX7_round 48 = .ok (.invokevirtual 81, 3) := by decide +kernel
theorem dX7_round_51 : decode cX7_round 51 = .ok (.ireturn, 1) := by decide +kernel
theorem dX7_round_52 : decode cX7_round 52 = .ok (.iload 4, 2) := by decide +kernel
theorem dX7_round_54 : decode cX7_round 54 = .ok (.ifCond .lt 13, 3) := by decide +kernel
theorem dX7_round_57 : decode cX7_round 57 = .ok (.aload_n 0, 1) := by decide +kernel
theorem dX7_round_58 : decode cX7_round 58 = .ok (.iload_n 1, 1) := by decide +kernel
theorem dX7_round_59 : decode cX7_round 59 = .ok (.iload_n 2, 1) := by decide +kernel
theorem dX7_round_60 : decode cX7_round 60 = .ok (.invokevirtual 287, 3) := by decide +kernel
theorem dX7_round_63 : decode cX7_round 63 = .ok (.iconst (-1), 1) := by decide +kernel
theorem dX7_round_64 : decode cX7_round 64 = .ok (.if_icmp .eq 10, 3) := by decide +kernel
theorem dX7_round_67 : decode cX7_round 67 = .ok (.aload_n 0, 1) := by decide +kernel
theorem dX7_round_68 : decode cX7_round 68 = .ok (.bipush (-6), 2) := by decide +kernel
theorem dX7_round_70 : decode cX7_round 70 = .ok (.invokevirtual 81, 3) := by decide +kernel
theorem dX7_round_73 : decode cX7_round 73 = .ok (.ireturn, 1) := by decide +kernel
theorem dX7_round_74 : decode cX7_round 74 = .ok (.bipush 8, 2) := by decide +kernel
theorem dX7_round_76 : decode cX7_round 76 = .ok (.newarray .int, 2) := by decide +kernel
theorem dX7_round_78 : decode cX7_round 78 = .ok (.astore 5, 2) := by decide +kernel
theorem dX7_round_80 : decode cX7_round 80 = .ok (.iconst 0, 1) := by decide +kernel
theorem dX7_round_81 : decode cX7_round 81 = .ok (.istore 6, 2) := by decide +kernel
theorem dX7_round_83 : decode cX7_round 83 = .ok (.iload 6, 2) := by decide +kernel
theorem dX7_round_85 : decode cX7_round 85 = .ok (.iload_n 2, 1) := by decide +kernel
theorem dX7_round_86 : decode cX7_round 86 = .ok (.if_icmp .ge 21, 3) := by decide +kernel
theorem dX7_round_89 : decode cX7_round 89 = .ok (.aload 5, 2) := by decide +kernel
theorem dX7_round_91 : decode cX7_round 91 = .ok (.iload 6, 2) := by decide +kernel
theorem dX7_round_93 : decode cX7_round 93 = .ok (.aload_n 0, 1) := by decide +kernel
theorem dX7_round_94 : decode cX7_round 94 = .ok (.iload_n 1, 1) := by decide +kernel
theorem dX7_round_95 : decode cX7_round 95 = .ok (.iload 6, 2) := by decide +kernel
theorem dX7_round_97 : decode cX7_round 97 = .ok (.invokevirtual 281, 3) := by decide +kernel
theorem dX7_round_100 : decode cX7_round 100 = .ok (.iastore, 1) := by decide +kernel
theorem dX7_round_101 : decode cX7_round 101 = .ok (.iinc 6 1, 3) := by decide +kernel
theorem dX7_round_104 : decode cX7_round 104 = .ok (.goto (-21), 3) := by decide +kernel
theorem dX7_round_107 : decode cX7_round 107 = .ok (.iload_n 3, 1) := by decide +kernel
theorem dX7_round_108 : decode cX7_round 108 = .ok (.iconst (-1), 1) := by decide +kernel
theorem dX7_round_109 : decode cX7_round 109 = .ok (.if_icmp .ne 13, 3) := by decide +kernel
theorem dX7_round_112 : decode cX7_round 112 = .ok (.aload_n 0, 1) := by decide +kernel
theorem dX7_round_113 : decode cX7_round 113 = .ok (.aload 5, 2) := by decide +kernel
theorem dX7_round_115 : decode cX7_round 115 = .ok (.iload_n 2, 1) := by decide +kernel
theorem dX7_round_116 : decode cX7_round 116 = .ok (.invokevirtual 260, 3) := by decide +kernel
theorem dX7_round_119 : decode cX7_round 119 = .ok (.goto 10, 3) := by decide +kernel
theorem dX7_round_122 : decode cX7_round 122 = .ok (.aload_n 0, 1) := by decide +kernel
theorem dX7_round_123 : decode cX7_round 123 = .ok (.aload 5, 2) := by decide +kernel
theorem dX7_round_125 : decode cX7_round 125 = .ok (.iload_n 3, 1) := by decide +kernel
theorem dX7_round_126 : decode cX7_round 126 = .ok (.invokevirtual 238, 3) := by decide +kernel
theorem dX7_round_129 : decode cX7_round 129 = .ok (.ireturn, 1) := by decide +kernel
theorem dX7_change_0 : decode cX7_change 0 = .ok (.aload_n 0, 1) := by decide +kernel
theorem dX7_change_1 : decode cX7_change 1 = .ok (.iload_n 1, 1) := by decide +kernel
theorem dX7_change_2 : decode cX7_change 2 = .ok (.invokevirtual 136, 3) := by decide +kernel
theorem dX7_change_5 : decode cX7_change 5 = .ok (.ifCond .ne 9, 3) := by decide +kernel
theorem dX7_change_8 : decode cX7_change 8 = .ok (.aload_n 0, 1) := by decide +kernel
theorem dX7_change_9 : decode cX7_change 9 = .ok (.iconst (-1), 1) := by decide +kernel
theorem dX7_change_10 : decode cX7_change 10 = .ok (.invokevirtual 81, 3) := by decide +kernel
theorem dX7_change_13 : decode cX7_change 13 = .ok (.ireturn, 1) := by decide +kernel
theorem dX7_change_14 : decode cX7_change 14 = .ok (.iload_n 2, 1) := by decide +kernel
theorem dX7_change_15 : decode cX7_change 15 = .ok (.iconst 0, 1) := by decide +kernel
theorem dX7_change_16 : decode cX7_change 16 = .ok (.iconst 2, 1) := by decide +kernel
theorem dX7_change_17 : decode cX7_change 17 = .ok (.invokestatic 88, 3) := by decide +kernel
theorem dX7_change_20 : decode cX7_change 20 = .ok (.ifCond .eq 27, 3) := by decide +kernel
theorem dX7_change_23 : decode cX7_change 23 = .ok (.iload_n 2, 1) := by decide +kernel
theorem dX7_change_24 : decode cX7_change 24 = .ok (.aload_n 0, 1) := by decide +kernel
theorem dX7_change_25 : decode cX7_change 25 = .ok (.getfield 32, 3) := by decide +kernel
theorem dX7_change_28 : decode cX7_change 28 = .ok (.iload_n 1, 1) := by decide +kernel
theorem dX7_change_29 : decode cX7_change 29 = .ok (.iaload, 1) := by decide +kernel
theorem dX7_change_30 : decode cX7_change 30 = .ok (.if_icmp .eq 17, 3) := by decide +kernel
theorem dX7_change_33 : decode cX7_change 33 = .ok (.iload_n 3, 1) := by decide +kernel
theorem dX7_change_34 : decode cX7_change 34 = .ok (.iconst 1, 1) := by decide +kernel
theorem dX7_change_35 : decode cX7_change 35 = .ok (.aload_n 0, 1) := by decide +kernel
theorem dX7_change_36 : decode cX7_change 36 = .ok (.getfield 29, 3) := by decide +kernel
theorem dX7_change_39 : decode cX7_change 39 = .ok (.iload_n 1, 1) := by decide +kernel
theorem dX7_change_40 : decode cX7_change 40 = .ok (.iaload, 1) := by decide +kernel
theorem dX7_change_41 : decode cX7_change 41 = .ok (.invokestatic 88, 3) := by decide +kernel
theorem dX7_change_44 : decode cX7_change 44 = .ok (.ifCond .ne 10, 3) := by decide +kernel
theorem dX7_change_47 : decode cX7_change 47 = .ok (.aload_n 0, 1) := by decide +kernel
theorem dX7_change_48 : decode cX7_change 48 = .ok (.bipush (-6), 2) := by decide +kernel
theorem dX7_change_50 : decode cX7_change 50 = .ok (.invokevirtual 81, 3) := by decide +kernel
theorem dX7_change_53 : decode cX7_change 53 = .ok (.ireturn, 1) := by decide +kernel
theorem dX7_change_54 : decode cX7_change 54 = .ok (.iload_n 3, 1) := by decide +kernel
theorem dX7_change_55 : decode cX7_change 55 = .ok (.aload_n 0, 1) := by decide +kernel
theorem dX7_change_56 : decode cX7_change 56 = .ok (.getfield 29, 3) := by decide +kernel
theorem dX7_change_59 : decode cX7_change 59 = .ok (.iload_n 1, 1) := by decide +kernel
theorem dX7_change_60 : decode cX7_change 60 = .ok (.iaload, 1) := by decide +kernel
theorem dX7_change_61 : decode cX7_change 61 = .ok (.if_icmp .ne 12, 3) := by decide +kernel
theorem dX7_change_64 : decode cX7_change 64 = .ok (.aload_n 0, 1) := by decide +kernel
theorem dX7_change_65 : decode cX7_change 65 = .ok (.getfield 32, 3) := by decide +kernel
theorem dX7_change_68 : decode cX7_change 68 = .ok (.iload_n 1, 1) := by decide +kernel
theorem dX7_change_69 : decode cX7_change 69 = .ok (.iload_n 2, 1) := by decide +kernel
theorem dX7_change_70 : decode cX7_change 70 = .ok (.iastore, 1) := by decide +kernel
theorem dX7_change_71 : decode cX7_change 71 = .ok (.iload_n 1, 1) := by decide +kernel
theorem dX7_change_72 : decode cX7_change 72 = .ok (.ireturn, 1) := by decide +kernel
theorem dX7_change_73 : decode cX7_change 73 = .ok (.aload_n 0, 1) := by decide +kernel
theorem dX7_change_74 : decode cX7_change 74 = .ok (.getfield 92, 3) := by decide +kernel
theorem dX7_change_77 : decode cX7_change 77 = .ok (.bipush 10, 2) := by decide +kernel
theorem dX7_change_79 : decode cX7_change 79 = .ok (.if_icmp .ne 10, 3) := by decide +kernel
theorem dX7_change_82 : decode cX7_change 82 = .ok (.aload_n 0, 1) := by decide +kernel
theorem dX7_change_83 : decode cX7_change 83 = .ok (.bipush (-7), 2) := by decide +kernel
theorem dX7_change_85 : decode cX7_change 85 = .ok (.invokevirtual 81, 3) := by decide +kernel
theorem dX7_change_88 : decode cX7_change 88 = .ok (.ireturn, 1) := by decide +kernel
theorem dX7_change_89 : decode cX7_change 89 = .ok (.aload_n 0, 1) := by decide +kernel
theorem dX7_change_90 : decode cX7_change 90 = .ok (.getfield 29, 3) := by decide +kernel
theorem dX7_change_93 : decode cX7_change 93 = .ok (.iload_n 1, 1) := by decide +kernel
theorem dX7_change_94 : decode cX7_change 94 = .ok (.dup2, 1) := by decide +kernel
theorem dX7_change_95 : decode cX7_change 95 = .ok (.iaload, 1) := by decide +kernel
theorem dX7_change_96 : decode cX7_change 96 = .ok (.iload_n 3, 1) := by decide +kernel
theorem dX7_change_97 : decode cX7_change 97 = .ok (.isub, 1) := by decide +kernel
theorem dX7_change_98 : decode cX7_change 98 = .ok (.iastore, 1) := by decide +kernel
theorem dX7_change_99 : decode cX7_change 99 = .ok (.aload_n 0, 1) := by decide +kernel
theorem dX7_change_100 : decode cX7_change 100 = .ok (.iload_n 3, 1) := by decide +kernel
theorem dX7_change_101 : decode cX7_change 101 = .ok (.iload_n 2, 1) := by decide +kernel
theorem dX7_change_102 : decode cX7_change 102 = .ok (.aload_n 0, 1) := by decide +kernel
theorem dX7_change_103 : decode cX7_change 103 = .ok (.getfield 35, 3) := by decide +kernel
theorem dX7_change_106 : decode cX7_change 106 = .ok (.iload_n 1, 1) := by decide +kernel
theorem dX7_change_107 : decode cX7_change 107 = .ok (.iaload, 1) := by decide +kernel
theorem dX7_change_108 : decode cX7_change 108 = .ok (.aload_n 0, 1) := by decide +kernel
theorem dX7_change_109 : decode cX7_change 109 = .ok (.getfield 38, 3) := by decide +kernel
theorem dX7_change_112 : decode cX7_change 112 = .ok (.iload_n 1, 1) := by decide +kernel
theorem dX7_change_113 : decode cX7_change 113 = .ok (.iaload, 1) := by decide +kernel
theorem dX7_change_114 : decode cX7_change 114 = .ok (.aload_n 0, 1) := by decide +kernel
theorem dX7_change_115 : decode cX7_change 115 = .ok (.getfield 41, 3) := by decide +kernel
theorem dX7_change_118 : decode cX7_change 118 = .ok (.iload_n 1, 1) := by decide +kernel
theorem dX7_change_119 : decode cX7_change 119 = .ok (.iaload, 1) := by decide +kernel
theorem dX7_change_120 : decode cX7_change 120 = .ok (.invokevirtual 123, 3) := by decide +kernel
theorem dX7_change_123 : decode cX7_change 123 = .ok (.ireturn, 1) := by decide +kernel
theorem dX7_draw_0 : decode cX7_draw 0 = .ok (.aload_n 0, 1) := by decide +kernel
theorem dX7_draw_1 : decode cX7_draw 1 = .ok (.aload_n 0, 1) := by decide +kernel
theorem dX7_draw_2 : decode cX7_draw 2 = .ok (.getfield 75, 3) := by decide +kernel
theorem dX7_draw_5 : decode cX7_draw 5 = .ok (.ldc_w 290, 3) := by decide +kernel
theorem dX7_draw_8 : decode cX7_draw 8 = .ok (.imul, 1) := by decide +kernel
theorem dX7_draw_9 : decode cX7_draw 9 = .ok (.sipush 12345, 3) := by decide +kernel
theorem dX7_draw_12 : decode cX7_draw 12 = .ok (.iadd, 1) := by decide +kernel
theorem dX7_draw_13 : decode cX7_draw 13 = .ok (.putfield 75, 3) := by decide +kernel
theorem dX7_draw_16 : decode cX7_draw 16 = .ok (.aload_n 0, 1) := by decide +kernel
theorem dX7_draw_17 : decode cX7_draw 17 = .ok (.getfield 75, 3) := by decide +kernel
theorem dX7_draw_20 : decode cX7_draw 20 = .ok (.bipush 16, 2) := by decide +kernel
theorem dX7_draw_22 : decode cX7_draw 22 = .ok (.iushr, 1) := by decide +kernel
theorem dX7_draw_23 : decode cX7_draw 23 = .ok (.iload_n 1, 1) := by decide +kernel
theorem dX7_draw_24 : decode cX7_draw 24 = .ok (.irem, 1) := by decide +kernel
theorem dX7_draw_25 : decode cX7_draw 25 = .ok (.ireturn, 1) := by decide +kernel
theorem dX7_doors_0 : decode cX7_doors 0 = .ok (.aload_n 0, 1) := by decide +kernel
theorem dX7_doors_1 : decode cX7_doors 1 = .ok (.getfield 92, 3) := by decide +kernel
theorem dX7_doors_4 : decode cX7_doors 4 = .ok (.ifCond .eq 10, 3) := by decide +kernel
theorem dX7_doors_7 : decode cX7_doors 7 = .ok (.aload_n 0, 1) := by decide +kernel
theorem dX7_doors_8 : decode cX7_doors 8 = .ok (.getfield 85, 3) := by decide +kernel
theorem dX7_doors_11 : decode cX7_doors 11 = .ok (.ifCond .ne 10, 3) := by decide +kernel
theorem dX7_doors_14 : decode cX7_doors 14 = .ok (.aload_n 0, 1) := by decide +kernel
theorem dX7_doors_15 : decode cX7_doors 15 = .ok (.bipush (-5), 2) := by decide +kernel
theorem dX7_doors_17 : decode cX7_doors 17 = .ok (.invokevirtual 81, 3) := by decide +kernel
theorem dX7_doors_20 : decode cX7_doors 20 = .ok (.ireturn, 1) := by decide +kernel
theorem dX7_doors_21 : decode cX7_doors 21 = .ok (.iload_n 1, 1) := by decide +kernel
theorem dX7_doors_22 : decode cX7_doors 22 = .ok (.iconst 1, 1) := by decide +kernel
theorem dX7_doors_23 : decode cX7_doors 23 = .ok (.sipush 200, 3) := by decide +kernel
theorem dX7_doors_26 : decode cX7_doors 26 = .ok (.invokestatic 88, 3) := by decide +kernel
theorem dX7_doors_29 : decode cX7_doors 29 = .ok (.ifCond .ne 10, 3) := by decide +kernel
theorem dX7_doors_32 : decode cX7_doors 32 = .ok (.aload_n 0, 1) := by decide +kernel
theorem dX7_doors_33 : decode cX7_doors 33 = .ok (.bipush (-6), 2) := by decide +kernel
theorem dX7_doors_35 : decode cX7_doors 35 = .ok (.invokevirtual 81, 3) := by decide +kernel
theorem dX7_doors_38 : decode cX7_doors 38 = .ok (.ireturn, 1) := by decide +kernel
theorem dX7_doors_39 : decode cX7_doors 39 = .ok (.aload_n 0, 1) := by decide +kernel
theorem dX7_doors_40 : decode cX7_doors 40 = .ok (.getfield 291, 3) := by decide +kernel
theorem dX7_doors_43 : decode cX7_doors 43 = .ok (.istore_n 2, 1) := by decide +kernel
theorem dX7_doors_44 : decode cX7_doors 44 = .ok (.iconst 0, 1) := by decide +kernel
theorem dX7_doors_45 : decode cX7_doors 45 = .ok (.istore_n 3, 1) := by decide +kernel
theorem dX7_doors_46 : decode cX7_doors 46 = .ok (.iload_n 3, 1) := by decide +kernel
theorem dX7_doors_47 : decode cX7_doors 47 = .ok (.iload_n 1, 1) := by decide +kernel
theorem dX7_doors_48 : decode cX7_doors 48 = .ok (.if_icmp .ge 113, 3) := by decide +kernel
theorem dX7_doors_51 : decode cX7_doors 51 = .ok (.aload_n 0, 1) := by decide +kernel
theorem dX7_doors_52 : decode cX7_doors 52 = .ok (.aload_n 0, 1) := by decide +kernel
theorem dX7_doors_53 : decode cX7_doors 53 = .ok (.getfield 92, 3) := by decide +kernel
theorem dX7_doors_56 : decode cX7_doors 56 = .ok (.invokevirtual 294, 3) := by decide +kernel
theorem dX7_doors_59 : decode cX7_doors 59 = .ok (.istore 4, 2) := by decide +kernel
theorem dX7_doors_61 : decode cX7_doors 61 = .ok (.aload_n 0, 1) := by decide +kernel
theorem dX7_doors_62 : decode cX7_doors 62 = .ok (.bipush 10, 2) := by decide +kernel
theorem dX7_doors_64 : decode cX7_doors 64 = .ok (.invokevirtual 294, 3) := by decide +kernel
theorem dX7_doors_67 : decode cX7_doors 67 = .ok (.aload_n 0, 1) := by decide +kernel
theorem dX7_doors_68 : decode cX7_doors 68 = .ok (.getfield 38, 3) := by decide +kernel
theorem dX7_doors_71 : decode cX7_doors 71 = .ok (.iload 4, 2) := by decide +kernel
theorem dX7_doors_73 : decode cX7_doors 73 = .ok (.iaload, 1) := by decide +kernel
theorem dX7_doors_74 : decode cX7_doors 74 = .ok (.if_icmp .ge 81, 3) := by decide +kernel
theorem dX7_doors_77 : decode cX7_doors 77 = .ok (.aload_n 0, 1) := by decide +kernel
theorem dX7_doors_78 : decode cX7_doors 78 = .ok (.bipush 10, 2) := by decide +kernel
theorem dX7_doors_80 : decode cX7_doors 80 = .ok (.invokevirtual 294, 3) := by decide +kernel
theorem dX7_doors_83 : decode cX7_doors 83 = .ok (.aload_n 0, 1) := by decide +kernel
theorem dX7_doors_84 : decode cX7_doors 84 = .ok (.getfield 41, 3) := by decide +kernel
theorem dX7_doors_87 : decode cX7_doors 87 = .ok (.iload 4, 2) := by decide +kernel
theorem dX7_doors_89 : decode cX7_doors 89 = .ok (.iaload, 1) := by decide +kernel
theorem dX7_doors_90 : decode cX7_doors 90 = .ok (.if_icmp .lt 6, 3) := by decide +kernel
theorem dX7_doors_93 : decode cX7_doors 93 = .ok (.goto 62, 3) := by decide +kernel
theorem dX7_doors_96 : decode cX7_doors 96 = .ok (.aload_n 0, 1) := by decide +kernel
theorem dX7_doors_97 : decode cX7_doors 97 = .ok (.aload_n 0, 1) := by decide +kernel
theorem dX7_doors_98 : decode cX7_doors 98 = .ok (.getfield 85, 3) := by decide +kernel
theorem dX7_doors_101 : decode cX7_doors 101 = .ok (.invokevirtual 294, 3) := by decide +kernel
theorem dX7_doors_104 : decode cX7_doors 104 = .ok (.istore 5, 2) := by decide +kernel
theorem dX7_doors_106 : decode cX7_doors 106 = .ok (.aload_n 0, 1) := by decide +kernel
theorem dX7_doors_107 : decode cX7_doors 107 = .ok (.dup, 1) := by decide +kernel
theorem dX7_doors_108 : decode cX7_doors 108 = .ok (.getfield 297, 3) := by decide +kernel
theorem dX7_doors_111 : decode cX7_doors 111 = .ok (.iconst 1, 1) := by decide +kernel
theorem dX7_doors_112 : decode cX7_doors 112 = .ok (.iadd, 1) := by decide +kernel
theorem dX7_doors_113 : decode cX7_doors 113 = .ok (.putfield 297, 3) := by decide +kernel
theorem dX7_doors_116 : decode cX7_doors 116 = .ok (.aload_n 0, 1) := by decide +kernel
theorem dX7_doors_117 : decode cX7_doors 117 = .ok (.aload_n 0, 1) := by decide +kernel
theorem dX7_doors_118 : decode cX7_doors 118 = .ok (.getfield 29, 3) := by decide +kernel
theorem dX7_doors_121 : decode cX7_doors 121 = .ok (.iload 4, 2) := by decide +kernel
theorem dX7_doors_123 : decode cX7_doors 123 = .ok (.iaload, 1) := by decide +kernel
theorem dX7_doors_124 : decode cX7_doors 124 = .ok (.invokevirtual 294, 3) := by decide +kernel
theorem dX7_doors_127 : decode cX7_doors 127 = .ok (.aload_n 0, 1) := by decide +kernel
theorem dX7_doors_128 : decode cX7_doors 128 = .ok (.iload 5, 2) := by decide +kernel
theorem dX7_doors_130 : decode cX7_doors 130 = .ok (.iload 4, 2) := by decide +kernel
theorem dX7_doors_132 : decode cX7_doors 132 = .ok (.aload_n 0, 1) := by decide +kernel
theorem dX7_doors_133 : decode cX7_doors 133 = .ok (.getfield 29, 3) := by decide +kernel
theorem dX7_doors_136 : decode cX7_doors 136 = .ok (.iload 4, 2) := by decide +kernel
theorem dX7_doors_138 : decode cX7_doors 138 = .ok (.iaload, 1) := by decide +kernel
theorem dX7_doors_139 : decode cX7_doors 139 = .ok (.invokevirtual 207, 3) := by decide +kernel
theorem dX7_doors_142 : decode cX7_doors 142 = .ok (.if_icmp .ge 13, 3) := by decide +kernel
theorem dX7_doors_145 : decode cX7_doors 145 = .ok (.aload_n 0, 1) := by decide +kernel
theorem dX7_doors_146 : decode cX7_doors 146 = .ok (.dup, 1) := by decide +kernel
theorem dX7_doors_147 : decode cX7_doors 147 = .ok (.getfield 291, 3) := by decide +kernel
theorem dX7_doors_150 : decode cX7_doors 150 = .ok (.iconst 1, 1) := by decide +kernel
theorem dX7_doors_151 : decode cX7_doors 151 = .ok (.iadd, 1) := by decide +kernel
theorem dX7_doors_152 : decode cX7_doors 152 = .ok (.putfield 291, 3) := by decide +kernel
theorem dX7_doors_155 : decode cX7_doors 155 = .ok (.iinc 3 1, 3) := by decide +kernel
theorem dX7_doors_158 : decode cX7_doors 158 = .ok (.goto (-112), 3) := by decide +kernel
theorem dX7_doors_161 : decode cX7_doors 161 = .ok (.aload_n 0, 1) := by decide +kernel
theorem dX7_doors_162 : decode cX7_doors 162 = .ok (.getfield 291, 3) := by decide +kernel
theorem dX7_doors_165 : decode cX7_doors 165 = .ok (.iload_n 2, 1) := by decide +kernel
theorem dX7_doors_166 : decode cX7_doors 166 = .ok (.isub, 1) := by decide +kernel
theorem dX7_doors_167 : decode cX7_doors 167 = .ok (.ireturn, 1) := by decide +kernel
theorem dX7_seed_0 : decode cX7_seed 0 = .ok (.aload_n 0, 1) := by decide +kernel
theorem dX7_seed_1 : decode cX7_seed 1 = .ok (.getfield 75, 3) := by decide +kernel
theorem dX7_seed_4 : decode cX7_seed 4 = .ok (.istore_n 2, 1) := by decide +kernel
theorem dX7_seed_5 : decode cX7_seed 5 = .ok (.aload_n 0, 1) := by decide +kernel
theorem dX7_seed_6 : decode cX7_seed 6 = .ok (.iload_n 1, 1) := by decide +kernel
theorem dX7_seed_7 : decode cX7_seed 7 = .ok (.putfield 75, 3) := by decide +kernel
theorem dX7_seed_10 : decode cX7_seed 10 = .ok (.iload_n 2, 1) := by decide +kernel
theorem dX7_seed_11 : decode cX7_seed 11 = .ok (.ireturn, 1) := by decide +kernel
theorem dX7_ran_0 : decode cX7_ran 0 = .ok (.aload_n 0, 1) := by decide +kernel
theorem dX7_ran_1 : decode cX7_ran 1 = .ok (.getfield 300, 3) := by decide +kernel
theorem dX7_ran_4 : decode cX7_ran 4 = .ok (.bipush 20, 2) := by decide +kernel
theorem dX7_ran_6 : decode cX7_ran 6 = .ok (.if_icmp .ge 13, 3) := by decide +kernel
theorem dX7_ran_9 : decode cX7_ran 9 = .ok (.aload_n 0, 1) := by decide +kernel
theorem dX7_ran_10 : decode cX7_ran 10 = .ok (.getfield 47, 3) := by decide +kernel
theorem dX7_ran_13 : decode cX7_ran 13 = .ok (.aload_n 0, 1) := by decide +kernel
theorem dX7_ran_14 : decode cX7_ran 14 = .ok (.getfield 300, 3) := by decide +kernel
theorem dX7_ran_17 : decode cX7_ran 17 = .ok (.iload_n 1, 1) := by decide +kernel
theorem dX7_ran_18 : decode cX7_ran 18 = .ok (.iastore, 1) := by decide +kernel
theorem dX7_ran_19 : decode cX7_ran 19 = .ok (.aload_n 0, 1) := by decide +kernel
theorem dX7_ran_20 : decode cX7_ran 20 = .ok (.dup, 1) := by decide +kernel
theorem dX7_ran_21 : decode cX7_ran 21 = .ok (.getfield 300, 3) := by decide +kernel
theorem dX7_ran_24 : decode cX7_ran 24 = .ok (.iconst 1, 1) := by decide +kernel
theorem dX7_ran_25 : decode cX7_ran 25 = .ok (.iadd, 1) := by decide +kernel
theorem dX7_ran_26 : decode cX7_ran 26 = .ok (.putfield 300, 3) := by decide +kernel
theorem dX7_ran_29 : decode cX7_ran 29 = .ok (.return_, 1) := by decide +kernel
theorem dX7_asksBy_0 : decode cX7_asksBy 0 = .ok (.aload_n 0, 1) := by decide +kernel
theorem dX7_asksBy_1 : decode cX7_asksBy 1 = .ok (.getfield 20, 3) := by decide +kernel
theorem dX7_asksBy_4 : decode cX7_asksBy 4 = .ok (.iload_n 1, 1) := by decide +kernel
theorem dX7_asksBy_5 : decode cX7_asksBy 5 = .ok (.iaload, 1) := by decide +kernel
theorem dX7_asksBy_6 : decode cX7_asksBy 6 = .ok (.istore_n 3, 1) := by decide +kernel
theorem dX7_asksBy_7 : decode cX7_asksBy 7 = .ok (.iload_n 3, 1) := by decide +kernel
theorem dX7_asksBy_8 : decode cX7_asksBy 8 = .ok (.bipush 6, 2) := by decide +kernel
theorem dX7_asksBy_10 : decode cX7_asksBy 10 = .ok (.if_icmp .ne 9, 3) := by decide +kernel
theorem dX7_asksBy_13 : decode cX7_asksBy 13 = .ok (.aload_n 0, 1) := by decide +kernel
theorem dX7_asksBy_14 : decode cX7_asksBy 14 = .ok (.bipush 70, 2) := by decide +kernel
theorem dX7_asksBy_16 : decode cX7_asksBy 16 = .ok (.invokevirtual 303, 3) := by decide +kernel
theorem dX7_asksBy_19 : decode cX7_asksBy 19 = .ok (.iload_n 3, 1) := by decide +kernel
theorem dX7_asksBy_20 : decode cX7_asksBy 20 = .ok (.iconst 4, 1) := by decide +kernel
theorem dX7_asksBy_21 : decode cX7_asksBy 21 = .ok (.if_icmp .eq 9, 3) := by decide +kernel
theorem dX7_asksBy_24 : decode cX7_asksBy 24 = .ok (.iload_n 3, 1) := by decide +kernel
theorem dX7_asksBy_25 : decode cX7_asksBy 25 = .ok (.bipush 6, 2) := by decide +kernel
theorem dX7_asksBy_27 : decode cX7_asksBy 27 = .ok (.if_icmp .ne 9, 3) := by decide +kernel
theorem dX7_asksBy_30 : decode cX7_asksBy 30 = .ok (.aload_n 0, 1) := by decide +kernel
theorem dX7_asksBy_31 : decode cX7_asksBy 31 = .ok (.bipush 51, 2) := by decide +kernel
theorem dX7_asksBy_33 : decode cX7_asksBy 33 = .ok (.invokevirtual 303, 3) := by decide +kernel
theorem dX7_asksBy_36 : decode cX7_asksBy 36 = .ok (.iload_n 3, 1) := by decide +kernel
theorem dX7_asksBy_37 : decode cX7_asksBy 37 = .ok (.iconst 1, 1) := by decide +kernel
theorem dX7_asksBy_38 : decode cX7_asksBy 38 = .ok (.if_icmp .eq 8, 3) := by decide +kernel
theorem dX7_asksBy_41 : decode cX7_asksBy 41 = .ok (.iload_n 3, 1) := by decide +kernel
theorem dX7_asksBy_42 : decode cX7_asksBy 42 = .ok (.iconst 3, 1) := by decide +kernel
theorem dX7_asksBy_43 : decode cX7_asksBy 43 = .ok (.if_icmp .ne 9, 3) := by decide +kernel
theorem dX7_asksBy_46 : decode cX7_asksBy 46 = .ok (.aload_n 0, 1) := by decide +kernel
theorem dX7_asksBy_47 : decode cX7_asksBy 47 = .ok (.bipush 20, 2) := by decide +kernel
theorem dX7_asksBy_49 : decode cX7_asksBy 49 = .ok (.invokevirtual 303, 3) := by decide +kernel
theorem dX7_asksBy_52 : decode cX7_asksBy 52 = .ok (.aload_n 0, 1) := by decide +kernel
theorem dX7_asksBy_53 : decode cX7_asksBy 53 = .ok (.bipush 10, 2) := by decide +kernel
theorem dX7_asksBy_55 : decode cX7_asksBy 55 = .ok (.invokevirtual 303, 3) := by decide +kernel
theorem dX7_asksBy_58 : decode cX7_asksBy 58 = .ok (.iload_n 2, 1) := by decide +kernel
theorem dX7_asksBy_59 : decode cX7_asksBy 59 = .ok (.iload_n 1, 1) := by decide +kernel
theorem dX7_asksBy_60 : decode cX7_asksBy 60 = .ok (.iadd, 1) := by decide +kernel
theorem dX7_asksBy_61 : decode cX7_asksBy 61 = .ok (.istore 4, 2) := by decide +kernel
theorem dX7_asksBy_63 : decode cX7_asksBy 63 = .ok (.iload_n 3, 1) := by decide +kernel
theorem dX7_asksBy_64 : decode cX7_asksBy 64 = .ok (.iconst 1, 1) := by decide +kernel
theorem dX7_asksBy_65 : decode cX7_asksBy 65 = .ok (.if_icmp .eq 8, 3) := by decide +kernel
theorem dX7_asksBy_68 : decode cX7_asksBy 68 = .ok (.iload_n 3, 1) := by decide +kernel
theorem dX7_asksBy_69 : decode cX7_asksBy 69 = .ok (.iconst 3, 1) := by decide +kernel
theorem dX7_asksBy_70 : decode cX7_asksBy 70 = .ok (.if_icmp .ne 13, 3) := by decide +kernel
theorem dX7_asksBy_73 : decode cX7_asksBy 73 = .ok (.iload 4, 2) := by decide +kernel
theorem dX7_asksBy_75 : decode cX7_asksBy 75 = .ok (.aload_n 0, 1) := by decide +kernel
theorem dX7_asksBy_76 : decode cX7_asksBy 76 = .ok (.getfield 23, 3) := by decide +kernel
theorem dX7_asksBy_79 : decode cX7_asksBy 79 = .ok (.iload_n 1, 1) := by decide +kernel
theorem dX7_asksBy_80 : decode cX7_asksBy 80 = .ok (.iaload, 1) := by decide +kernel
theorem dX7_asksBy_81 : decode cX7_asksBy 81 = .ok (.iadd, 1) := by decide +kernel
theorem dX7_asksBy_82 : decode cX7_asksBy 82 = .ok (.ireturn, 1) := by decide +kernel
theorem dX7_asksBy_83 : decode cX7_asksBy 83 = .ok (.iload_n 3, 1) := by decide +kernel
theorem dX7_asksBy_84 : decode cX7_asksBy 84 = .ok (.iconst 4, 1) := by decide +kernel
theorem dX7_asksBy_85 : decode cX7_asksBy 85 = .ok (.if_icmp .ne 10, 3) := by decide +kernel
theorem dX7_asksBy_88 : decode cX7_asksBy 88 = .ok (.iload 4, 2) := by decide +kernel
theorem dX7_asksBy_90 : decode cX7_asksBy 90 = .ok (.iload_n 1, 1) := by decide +kernel
theorem dX7_asksBy_91 : decode cX7_asksBy 91 = .ok (.isub, 1) := by decide +kernel
theorem dX7_asksBy_92 : decode cX7_asksBy 92 = .ok (.goto 20, 3) := by decide +kernel
theorem dX7_asksBy_95 : decode cX7_asksBy 95 = .ok (.iload_n 3, 1) := by decide +kernel
theorem dX7_asksBy_96 : decode cX7_asksBy 96 = .ok (.bipush 6, 2) := by decide +kernel
theorem dX7_asksBy_98 : decode cX7_asksBy 98 = .ok (.if_icmp .ne 12, 3) := by decide +kernel
theorem dX7_asksBy_101 : decode cX7_asksBy 101 = .ok (.iload 4, 2) := by decide +kernel
theorem dX7_asksBy_103 : decode cX7_asksBy 103 = .ok (.iload_n 1, 1) := by decide +kernel
theorem dX7_asksBy_104 : decode cX7_asksBy 104 = .ok (.isub, 1) := by decide +kernel
theorem dX7_asksBy_105 : decode cX7_asksBy 105 = .ok (.iconst 2, 1) := by decide +kernel
theorem dX7_asksBy_106 : decode cX7_asksBy 106 = .ok (.imul, 1) := by decide +kernel
theorem dX7_asksBy_107 : decode cX7_asksBy 107 = .ok (.goto 5, 3) := by decide +kernel
theorem dX7_asksBy_110 : decode cX7_asksBy 110 = .ok (.iload 4, 2) := by decide +kernel
theorem dX7_asksBy_112 : decode cX7_asksBy 112 = .ok (.ireturn, 1) := by decide +kernel
theorem dX7_leansBy_0 : decode cX7_leansBy 0 = .ok (.aload_n 0, 1) := by decide +kernel
theorem dX7_leansBy_1 : decode cX7_leansBy 1 = .ok (.getfield 20, 3) := by decide +kernel
theorem dX7_leansBy_4 : decode cX7_leansBy 4 = .ok (.iload_n 1, 1) := by decide +kernel
theorem dX7_leansBy_5 : decode cX7_leansBy 5 = .ok (.iaload, 1) := by decide +kernel
theorem dX7_leansBy_6 : decode cX7_leansBy 6 = .ok (.istore_n 3, 1) := by decide +kernel
theorem dX7_leansBy_7 : decode cX7_leansBy 7 = .ok (.iload_n 2, 1) := by decide +kernel
theorem dX7_leansBy_8 : decode cX7_leansBy 8 = .ok (.istore 4, 2) := by decide +kernel
theorem dX7_leansBy_10 : decode cX7_leansBy 10 = .ok (.iload_n 3, 1) := by decide +kernel
theorem dX7_leansBy_11 : decode cX7_leansBy 11 = .ok (.bipush 6, 2) := by decide +kernel
theorem dX7_leansBy_13 : decode cX7_leansBy 13 = .ok (.if_icmp .ne 19, 3) := by decide +kernel
theorem dX7_leansBy_16 : decode cX7_leansBy 16 = .ok (.aload_n 0, 1) := by decide +kernel
theorem dX7_leansBy_17 : decode cX7_leansBy 17 = .ok (.bipush 71, 2) := by decide +kernel
theorem dX7_leansBy_19 : decode cX7_leansBy 19 = .ok (.invokevirtual 303, 3) := by decide +kernel
theorem dX7_leansBy_22 : decode cX7_leansBy 22 = .ok (.iload_n 2, 1) := by decide +kernel
theorem dX7_leansBy_23 : decode cX7_leansBy 23 = .ok (.aload_n 0, 1) := by decide +kernel
theorem dX7_leansBy_24 : decode cX7_leansBy 24 = .ok (.getfield 23, 3) := by decide +kernel
theorem dX7_leansBy_27 : decode cX7_leansBy 27 = .ok (.iload_n 1, 1) := by decide +kernel
theorem dX7_leansBy_28 : decode cX7_leansBy 28 = .ok (.iaload, 1) := by decide +kernel
theorem dX7_leansBy_29 : decode cX7_leansBy 29 = .ok (.isub, 1) := by decide +kernel
theorem dX7_leansBy_30 : decode cX7_leansBy 30 = .ok (.istore 4, 2) := by decide +kernel
theorem dX7_leansBy_32 : decode cX7_leansBy 32 = .ok (.iload_n 3, 1) := by decide +kernel
theorem dX7_leansBy_33 : decode cX7_leansBy 33 = .ok (.iconst 3, 1) := by decide +kernel
theorem dX7_leansBy_34 : decode cX7_leansBy 34 = .ok (.if_icmp .ne 14, 3) := by decide +kernel
theorem dX7_leansBy_37 : decode cX7_leansBy 37 = .ok (.aload_n 0, 1) := by decide +kernel
theorem dX7_leansBy_38 : decode cX7_leansBy 38 = .ok (.bipush 40, 2) := by decide +kernel
theorem dX7_leansBy_40 : decode cX7_leansBy 40 = .ok (.invokevirtual 303, 3) := by decide +kernel
theorem dX7_leansBy_43 : decode cX7_leansBy 43 = .ok (.iload_n 2, 1) := by decide +kernel
theorem dX7_leansBy_44 : decode cX7_leansBy 44 = .ok (.iconst 1, 1) := by decide +kernel
theorem dX7_leansBy_45 : decode cX7_leansBy 45 = .ok (.iadd, 1) := by decide +kernel
theorem dX7_leansBy_46 : decode cX7_leansBy 46 = .ok (.istore 4, 2) := by decide +kernel
theorem dX7_leansBy_48 : decode cX7_leansBy 48 = .ok (.iload_n 3, 1) := by decide +kernel
theorem dX7_leansBy_49 : decode cX7_leansBy 49 = .ok (.iconst 2, 1) := by decide +kernel
theorem dX7_leansBy_50 : decode cX7_leansBy 50 = .ok (.if_icmp .eq 8, 3) := by decide +kernel
theorem dX7_leansBy_53 : decode cX7_leansBy 53 = .ok (.iload_n 3, 1) := by decide +kernel
theorem dX7_leansBy_54 : decode cX7_leansBy 54 = .ok (.iconst 5, 1) := by decide +kernel
theorem dX7_leansBy_55 : decode cX7_leansBy 55 = .ok (.if_icmp .ne 9, 3) := by decide +kernel
theorem dX7_leansBy_58 : decode cX7_leansBy 58 = .ok (.aload_n 0, 1) := by decide +kernel
theorem dX7_leansBy_59 : decode cX7_leansBy 59 = .ok (.bipush 30, 2) := by decide +kernel
theorem dX7_leansBy_61 : decode cX7_leansBy 61 = .ok (.invokevirtual 303, 3) := by decide +kernel
theorem dX7_leansBy_64 : decode cX7_leansBy 64 = .ok (.aload_n 0, 1) := by decide +kernel
theorem dX7_leansBy_65 : decode cX7_leansBy 65 = .ok (.bipush 11, 2) := by decide +kernel
theorem dX7_leansBy_67 : decode cX7_leansBy 67 = .ok (.invokevirtual 303, 3) := by decide +kernel
theorem dX7_leansBy_70 : decode cX7_leansBy 70 = .ok (.aload_n 0, 1) := by decide +kernel
theorem dX7_leansBy_71 : decode cX7_leansBy 71 = .ok (.iload_n 1, 1) := by decide +kernel
theorem dX7_leansBy_72 : decode cX7_leansBy 72 = .ok (.iload 4, 2) := by decide +kernel
theorem dX7_leansBy_74 : decode cX7_leansBy 74 = .ok (.invokevirtual 307, 3) := by decide +kernel
theorem dX7_leansBy_77 : decode cX7_leansBy 77 = .ok (.iconst 2, 1) := by decide +kernel
theorem dX7_leansBy_78 : decode cX7_leansBy 78 = .ok (.imul, 1) := by decide +kernel
theorem dX7_leansBy_79 : decode cX7_leansBy 79 = .ok (.istore 5, 2) := by decide +kernel
theorem dX7_leansBy_81 : decode cX7_leansBy 81 = .ok (.iload_n 3, 1) := by decide +kernel
theorem dX7_leansBy_82 : decode cX7_leansBy 82 = .ok (.iconst 2, 1) := by decide +kernel
theorem dX7_leansBy_83 : decode cX7_leansBy 83 = .ok (.if_icmp .eq 8, 3) := by decide +kernel
theorem dX7_leansBy_86 : decode cX7_leansBy 86 = .ok (.iload_n 3, 1) := by decide +kernel
theorem dX7_leansBy_87 : decode cX7_leansBy 87 = .ok (.iconst 5, 1) := by decide +kernel
theorem dX7_leansBy_88 : decode cX7_leansBy 88 = .ok (.if_icmp .ne 10, 3) := by decide +kernel
theorem dX7_leansBy_91 : decode cX7_leansBy 91 = .ok (.iload 5, 2) := by decide +kernel
theorem dX7_leansBy_93 : decode cX7_leansBy 93 = .ok (.iconst 3, 1) := by decide +kernel
theorem dX7_leansBy_94 : decode cX7_leansBy 94 = .ok (.imul, 1) := by decide +kernel
theorem dX7_leansBy_95 : decode cX7_leansBy 95 = .ok (.goto 5, 3) := by decide +kernel
theorem dX7_leansBy_98 : decode cX7_leansBy 98 = .ok (.iload 5, 2) := by decide +kernel
theorem dX7_leansBy_100 : decode cX7_leansBy 100 = .ok (.ireturn, 1) := by decide +kernel
theorem dX7_sumsBy_0 : decode cX7_sumsBy 0 = .ok (.aload_n 0, 1) := by decide +kernel
theorem dX7_sumsBy_1 : decode cX7_sumsBy 1 = .ok (.getfield 20, 3) := by decide +kernel
theorem dX7_sumsBy_4 : decode cX7_sumsBy 4 = .ok (.iload_n 1, 1) := by decide +kernel
theorem dX7_sumsBy_5 : decode cX7_sumsBy 5 = .ok (.iaload, 1) := by decide +kernel
theorem dX7_sumsBy_6 : decode cX7_sumsBy 6 = .ok (.istore_n 3, 1) := by decide +kernel
theorem dX7_sumsBy_7 : decode cX7_sumsBy 7 = .ok (.iload_n 3, 1) := by decide +kernel
theorem dX7_sumsBy_8 : decode cX7_sumsBy 8 = .ok (.iconst 4, 1) := by decide +kernel
theorem dX7_sumsBy_9 : decode cX7_sumsBy 9 = .ok (.if_icmp .eq 9, 3) := by decide +kernel
theorem dX7_sumsBy_12 : decode cX7_sumsBy 12 = .ok (.iload_n 3, 1) := by decide +kernel
theorem dX7_sumsBy_13 : decode cX7_sumsBy 13 = .ok (.bipush 6, 2) := by decide +kernel
theorem dX7_sumsBy_15 : decode cX7_sumsBy 15 = .ok (.if_icmp .ne 9, 3) := by decide +kernel
theorem dX7_sumsBy_18 : decode cX7_sumsBy 18 = .ok (.aload_n 0, 1) := by decide +kernel
theorem dX7_sumsBy_19 : decode cX7_sumsBy 19 = .ok (.bipush 50, 2) := by decide +kernel
theorem dX7_sumsBy_21 : decode cX7_sumsBy 21 = .ok (.invokevirtual 303, 3) := by decide +kernel
theorem dX7_sumsBy_24 : decode cX7_sumsBy 24 = .ok (.iload_n 3, 1) := by decide +kernel
theorem dX7_sumsBy_25 : decode cX7_sumsBy 25 = .ok (.iconst 5, 1) := by decide +kernel
theorem dX7_sumsBy_26 : decode cX7_sumsBy 26 = .ok (.if_icmp .ne 9, 3) := by decide +kernel
theorem dX7_sumsBy_29 : decode cX7_sumsBy 29 = .ok (.aload_n 0, 1) := by decide +kernel
theorem dX7_sumsBy_30 : decode cX7_sumsBy 30 = .ok (.bipush 60, 2) := by decide +kernel
theorem dX7_sumsBy_32 : decode cX7_sumsBy 32 = .ok (.invokevirtual 303, 3) := by decide +kernel
theorem dX7_sumsBy_35 : decode cX7_sumsBy 35 = .ok (.aload_n 0, 1) := by decide +kernel
theorem dX7_sumsBy_36 : decode cX7_sumsBy 36 = .ok (.bipush 12, 2) := by decide +kernel
theorem dX7_sumsBy_38 : decode cX7_sumsBy 38 = .ok (.invokevirtual 303, 3) := by decide +kernel
theorem dX7_sumsBy_41 : decode cX7_sumsBy 41 = .ok (.aload_n 0, 1) := by decide +kernel
theorem dX7_sumsBy_42 : decode cX7_sumsBy 42 = .ok (.iload_n 1, 1) := by decide +kernel
theorem dX7_sumsBy_43 : decode cX7_sumsBy 43 = .ok (.iload_n 2, 1) := by decide +kernel
theorem dX7_sumsBy_44 : decode cX7_sumsBy 44 = .ok (.invokevirtual 310, 3) := by decide +kernel
theorem dX7_sumsBy_47 : decode cX7_sumsBy 47 = .ok (.istore 4, 2) := by decide +kernel
theorem dX7_sumsBy_49 : decode cX7_sumsBy 49 = .ok (.iload 4, 2) := by decide +kernel
theorem dX7_sumsBy_51 : decode cX7_sumsBy 51 = .ok (.aload_n 0, 1) := by decide +kernel
theorem dX7_sumsBy_52 : decode cX7_sumsBy 52 = .ok (.iload_n 1, 1) := by decide +kernel
theorem dX7_sumsBy_53 : decode cX7_sumsBy 53 = .ok (.iload_n 2, 1) := by decide +kernel
theorem dX7_sumsBy_54 : decode cX7_sumsBy 54 = .ok (.aload_n 0, 1) := by decide +kernel
theorem dX7_sumsBy_55 : decode cX7_sumsBy 55 = .ok (.getfield 23, 3) := by decide +kernel
theorem dX7_sumsBy_58 : decode cX7_sumsBy 58 = .ok (.iload_n 1, 1) := by decide +kernel
theorem dX7_sumsBy_59 : decode cX7_sumsBy 59 = .ok (.iaload, 1) := by decide +kernel
theorem dX7_sumsBy_60 : decode cX7_sumsBy 60 = .ok (.isub, 1) := by decide +kernel
theorem dX7_sumsBy_61 : decode cX7_sumsBy 61 = .ok (.invokevirtual 307, 3) := by decide +kernel
theorem dX7_sumsBy_64 : decode cX7_sumsBy 64 = .ok (.ixor, 1) := by decide +kernel
theorem dX7_sumsBy_65 : decode cX7_sumsBy 65 = .ok (.istore 5, 2) := by decide +kernel
theorem dX7_sumsBy_67 : decode cX7_sumsBy 67 = .ok (.iload_n 3, 1) := by decide +kernel
theorem dX7_sumsBy_68 : decode cX7_sumsBy 68 = .ok (.iconst 4, 1) := by decide +kernel
theorem dX7_sumsBy_69 : decode cX7_sumsBy 69 = .ok (.if_icmp .eq 9, 3) := by decide +kernel
theorem dX7_sumsBy_72 : decode cX7_sumsBy 72 = .ok (.iload_n 3, 1) := by decide +kernel
theorem dX7_sumsBy_73 : decode cX7_sumsBy 73 = .ok (.bipush 6, 2) := by decide +kernel
theorem dX7_sumsBy_75 : decode cX7_sumsBy 75 = .ok (.if_icmp .ne 9, 3) := by decide +kernel
theorem dX7_sumsBy_78 : decode cX7_sumsBy 78 = .ok (.iload 5, 2) := by decide +kernel
theorem dX7_sumsBy_80 : decode cX7_sumsBy 80 = .ok (.ineg, 1) := by decide +kernel
theorem dX7_sumsBy_81 : decode cX7_sumsBy 81 = .ok (.goto 17, 3) := by decide +kernel
theorem dX7_sumsBy_84 : decode cX7_sumsBy 84 = .ok (.iload_n 3, 1) := by decide +kernel
theorem dX7_sumsBy_85 : decode cX7_sumsBy 85 = .ok (.iconst 5, 1) := by decide +kernel
theorem dX7_sumsBy_86 : decode cX7_sumsBy 86 = .ok (.if_icmp .ne 10, 3) := by decide +kernel
theorem dX7_sumsBy_89 : decode cX7_sumsBy 89 = .ok (.iload 5, 2) := by decide +kernel
theorem dX7_sumsBy_91 : decode cX7_sumsBy 91 = .ok (.iconst 5, 1) := by decide +kernel
theorem dX7_sumsBy_92 : decode cX7_sumsBy 92 = .ok (.ixor, 1) := by decide +kernel
theorem dX7_sumsBy_93 : decode cX7_sumsBy 93 = .ok (.goto 5, 3) := by decide +kernel
theorem dX7_sumsBy_96 : decode cX7_sumsBy 96 = .ok (.iload 5, 2) := by decide +kernel
theorem dX7_sumsBy_98 : decode cX7_sumsBy 98 = .ok (.ireturn, 1) := by decide +kernel
theorem dX7_act_0 : decode cX7_act 0 = .ok (.aload_n 0, 1) := by decide +kernel
theorem dX7_act_1 : decode cX7_act 1 = .ok (.iconst 0, 1) := by decide +kernel
theorem dX7_act_2 : decode cX7_act 2 = .ok (.putfield 300, 3) := by decide +kernel
theorem dX7_act_5 : decode cX7_act 5 = .ok (.aload_n 0, 1) := by decide +kernel
theorem dX7_act_6 : decode cX7_act 6 = .ok (.iload_n 1, 1) := by decide +kernel
theorem dX7_act_7 : decode cX7_act 7 = .ok (.invokevirtual 102, 3) := by decide +kernel
theorem dX7_act_10 : decode cX7_act 10 = .ok (.ifCond .eq 12, 3) := by decide +kernel
theorem dX7_act_13 : decode cX7_act 13 = .ok (.iload_n 2, 1) := by decide +kernel
theorem dX7_act_14 : decode cX7_act 14 = .ok (.iconst 0, 1) := by decide +kernel
theorem dX7_act_15 : decode cX7_act 15 = .ok (.iconst 2, 1) := by decide +kernel
theorem dX7_act_16 : decode cX7_act 16 = .ok (.invokestatic 88, 3) := by decide +kernel
theorem dX7_act_19 : decode cX7_act 19 = .ok (.ifCond .ne 5, 3) := by decide +kernel
theorem dX7_act_22 : decode cX7_act 22 = .ok (.iconst 0, 1) := by decide +kernel
theorem dX7_act_23 : decode cX7_act 23 = .ok (.ireturn, 1) := by decide +kernel
theorem dX7_act_24 : decode cX7_act 24 = .ok (.iload_n 2, 1) := by decide +kernel
theorem dX7_act_25 : decode cX7_act 25 = .ok (.ifCond .ne 12, 3) := by decide +kernel
theorem dX7_act_28 : decode cX7_act 28 = .ok (.aload_n 0, 1) := by decide +kernel
theorem dX7_act_29 : decode cX7_act 29 = .ok (.iload_n 1, 1) := by decide +kernel
theorem dX7_act_30 : decode cX7_act 30 = .ok (.iload_n 3, 1) := by decide +kernel
theorem dX7_act_31 : decode cX7_act 31 = .ok (.invokevirtual 307, 3) := by decide +kernel
theorem dX7_act_34 : decode cX7_act 34 = .ok (.goto 23, 3) := by decide +kernel
theorem dX7_act_37 : decode cX7_act 37 = .ok (.iload_n 2, 1) := by decide +kernel
theorem dX7_act_38 : decode cX7_act 38 = .ok (.iconst 1, 1) := by decide +kernel
theorem dX7_act_39 : decode cX7_act 39 = .ok (.if_icmp .ne 12, 3) := by decide +kernel
theorem dX7_act_42 : decode cX7_act 42 = .ok (.aload_n 0, 1) := by decide +kernel
theorem dX7_act_43 : decode cX7_act 43 = .ok (.iload_n 1, 1) := by decide +kernel
theorem dX7_act_44 : decode cX7_act 44 = .ok (.iload_n 3, 1) := by decide +kernel
theorem dX7_act_45 : decode cX7_act 45 = .ok (.invokevirtual 310, 3) := by decide +kernel
theorem dX7_act_48 : decode cX7_act 48 = .ok (.goto 9, 3) := by decide +kernel
theorem dX7_act_51 : decode cX7_act 51 = .ok (.aload_n 0, 1) := by decide +kernel
theorem dX7_act_52 : decode cX7_act 52 = .ok (.iload_n 1, 1) := by decide +kernel
theorem dX7_act_53 : decode cX7_act 53 = .ok (.iload_n 3, 1) := by decide +kernel
theorem dX7_act_54 : decode cX7_act 54 = .ok (.invokevirtual 313, 3) := by decide +kernel
theorem dX7_act_57 : decode cX7_act 57 = .ok (.ireturn, 1) := by decide +kernel
theorem dX7_trace_0 : decode cX7_trace 0 = .ok (.iload_n 1, 1) := by decide +kernel
theorem dX7_trace_1 : decode cX7_trace 1 = .ok (.ifCond .lt 26, 3) := by decide +kernel
theorem dX7_trace_4 : decode cX7_trace 4 = .ok (.iload_n 1, 1) := by decide +kernel
theorem dX7_trace_5 : decode cX7_trace 5 = .ok (.aload_n 0, 1) := by decide +kernel
theorem dX7_trace_6 : decode cX7_trace 6 = .ok (.getfield 300, 3) := by decide +kernel
theorem dX7_trace_9 : decode cX7_trace 9 = .ok (.if_icmp .ge 18, 3) := by decide +kernel
theorem dX7_trace_12 : decode cX7_trace 12 = .ok (.iload_n 1, 1) := by decide +kernel
theorem dX7_trace_13 : decode cX7_trace 13 = .ok (.bipush 20, 2) := by decide +kernel
theorem dX7_trace_15 : decode cX7_trace 15 = .ok (.if_icmp .ge 12, 3) := by decide +kernel
theorem dX7_trace_18 : decode cX7_trace 18 = .ok (.aload_n 0, 1) := by decide +kernel
theorem dX7_trace_19 : decode cX7_trace 19 = .ok (.getfield 47, 3) := by decide +kernel
theorem dX7_trace_22 : decode cX7_trace 22 = .ok (.iload_n 1, 1) := by decide +kernel
theorem dX7_trace_23 : decode cX7_trace 23 = .ok (.iaload, 1) := by decide +kernel
theorem dX7_trace_24 : decode cX7_trace 24 = .ok (.goto 4, 3) := by decide +kernel
theorem dX7_trace_27 : decode cX7_trace 27 = .ok (.iconst (-1), 1) := by decide +kernel
theorem dX7_trace_28 : decode cX7_trace 28 = .ok (.ireturn, 1) := by decide +kernel
theorem dX7_keep_0 : decode cX7_keep 0 = .ok (.iconst 0, 1) := by decide +kernel
theorem dX7_keep_1 : decode cX7_keep 1 = .ok (.istore_n 2, 1) := by decide +kernel
theorem dX7_keep_2 : decode cX7_keep 2 = .ok (.iload_n 2, 1) := by decide +kernel
theorem dX7_keep_3 : decode cX7_keep 3 = .ok (.bipush 8, 2) := by decide +kernel
theorem dX7_keep_5 : decode cX7_keep 5 = .ok (.if_icmp .ge 30, 3) := by decide +kernel
theorem dX7_keep_8 : decode cX7_keep 8 = .ok (.aload_n 1, 1) := by decide +kernel
theorem dX7_keep_9 : decode cX7_keep 9 = .ok (.iload_n 2, 1) := by decide +kernel
theorem dX7_keep_10 : decode cX7_keep 10 = .ok (.aload_n 0, 1) := by decide +kernel
theorem dX7_keep_11 : decode cX7_keep 11 = .ok (.getfield 20, 3) := by decide +kernel
theorem dX7_keep_14 : decode cX7_keep 14 = .ok (.iload_n 2, 1) := by decide +kernel
theorem dX7_keep_15 : decode cX7_keep 15 = .ok (.iaload, 1) := by decide +kernel
theorem dX7_keep_16 : decode cX7_keep 16 = .ok (.iastore, 1) := by decide +kernel
theorem dX7_keep_17 : decode cX7_keep 17 = .ok (.aload_n 1, 1) := by decide +kernel
theorem dX7_keep_18 : decode cX7_keep 18 = .ok (.bipush 8, 2) := by decide +kernel
theorem dX7_keep_20 : decode cX7_keep 20 = .ok (.iload_n 2, 1) := by decide +kernel
theorem dX7_keep_21 : decode cX7_keep 21 = .ok (.iadd, 1) := by decide +kernel
theorem dX7_keep_22 : decode cX7_keep 22 = .ok (.aload_n 0, 1) := by decide +kernel
theorem dX7_keep_23 : decode cX7_keep 23 = .ok (.getfield 23, 3) := by decide +kernel
theorem dX7_keep_26 : decode cX7_keep 26 = .ok (.iload_n 2, 1) := by decide +kernel
theorem dX7_keep_27 : decode cX7_keep 27 = .ok (.iaload, 1) := by decide +kernel
theorem dX7_keep_28 : decode cX7_keep 28 = .ok (.iastore, 1) := by decide +kernel
theorem dX7_keep_29 : decode cX7_keep 29 = .ok (.iinc 2 1, 3) := by decide +kernel
theorem dX7_keep_32 : decode cX7_keep 32 = .ok (.goto (-30), 3) := by decide +kernel
theorem dX7_keep_35 : decode cX7_keep 35 = .ok (.iconst 0, 1) := by decide +kernel
theorem dX7_keep_36 : decode cX7_keep 36 = .ok (.istore_n 2, 1) := by decide +kernel
theorem dX7_keep_37 : decode cX7_keep 37 = .ok (.iload_n 2, 1) := by decide +kernel
theorem dX7_keep_38 : decode cX7_keep 38 = .ok (.bipush 64, 2) := by decide +kernel
theorem dX7_keep_40 : decode cX7_keep 40 = .ok (.if_icmp .ge 21, 3) := by decide +kernel
theorem dX7_keep_43 : decode cX7_keep 43 = .ok (.aload_n 1, 1) := by decide +kernel
theorem dX7_keep_44 : decode cX7_keep 44 = .ok (.bipush 16, 2) := by decide +kernel
theorem dX7_keep_46 : decode cX7_keep 46 = .ok (.iload_n 2, 1) := by decide +kernel
theorem dX7_keep_47 : decode cX7_keep 47 = .ok (.iadd, 1) := by decide +kernel
theorem dX7_keep_48 : decode cX7_keep 48 = .ok (.aload_n 0, 1) := by decide +kernel
theorem dX7_keep_49 : decode cX7_keep 49 = .ok (.getfield 26, 3) := by decide +kernel
theorem dX7_keep_52 : decode cX7_keep 52 = .ok (.iload_n 2, 1) := by decide +kernel
theorem dX7_keep_53 : decode cX7_keep 53 = .ok (.iaload, 1) := by decide +kernel
theorem dX7_keep_54 : decode cX7_keep 54 = .ok (.iastore, 1) := by decide +kernel
theorem dX7_keep_55 : decode cX7_keep 55 = .ok (.iinc 2 1, 3) := by decide +kernel
theorem dX7_keep_58 : decode cX7_keep 58 = .ok (.goto (-21), 3) := by decide +kernel
theorem dX7_keep_61 : decode cX7_keep 61 = .ok (.iconst 0, 1) := by decide +kernel
theorem dX7_keep_62 : decode cX7_keep 62 = .ok (.istore_n 2, 1) := by decide +kernel
theorem dX7_keep_63 : decode cX7_keep 63 = .ok (.iload_n 2, 1) := by decide +kernel
theorem dX7_keep_64 : decode cX7_keep 64 = .ok (.bipush 10, 2) := by decide +kernel
theorem dX7_keep_66 : decode cX7_keep 66 = .ok (.if_icmp .ge 69, 3) := by decide +kernel
theorem dX7_keep_69 : decode cX7_keep 69 = .ok (.aload_n 1, 1) := by decide +kernel
theorem dX7_keep_70 : decode cX7_keep 70 = .ok (.bipush 80, 2) := by decide +kernel
theorem dX7_keep_72 : decode cX7_keep 72 = .ok (.iload_n 2, 1) := by decide +kernel
theorem dX7_keep_73 : decode cX7_keep 73 = .ok (.iadd, 1) := by decide +kernel
theorem dX7_keep_74 : decode cX7_keep 74 = .ok (.aload_n 0, 1) := by decide +kernel
theorem dX7_keep_75 : decode cX7_keep 75 = .ok (.getfield 29, 3) := by decide +kernel
theorem dX7_keep_78 : decode cX7_keep 78 = .ok (.iload_n 2, 1) := by decide +kernel
theorem dX7_keep_79 : decode cX7_keep 79 = .ok (.iaload, 1) := by decide +kernel
theorem dX7_keep_80 : decode cX7_keep 80 = .ok (.iastore, 1) := by decide +kernel
theorem dX7_keep_81 : decode cX7_keep 81 = .ok (.aload_n 1, 1) := by decide +kernel
theorem dX7_keep_82 : decode cX7_keep 82 = .ok (.bipush 90, 2) := by decide +kernel
theorem dX7_keep_84 : decode cX7_keep 84 = .ok (.iload_n 2, 1) := by decide +kernel
theorem dX7_keep_85 : decode cX7_keep 85 = .ok (.iadd, 1) := by decide +kernel
theorem dX7_keep_86 : decode cX7_keep 86 = .ok (.aload_n 0, 1) := by decide +kernel
theorem dX7_keep_87 : decode cX7_keep 87 = .ok (.getfield 32, 3) := by decide +kernel
theorem dX7_keep_90 : decode cX7_keep 90 = .ok (.iload_n 2, 1) := by decide +kernel
theorem dX7_keep_91 : decode cX7_keep 91 = .ok (.iaload, 1) := by decide +kernel
theorem dX7_keep_92 : decode cX7_keep 92 = .ok (.iastore, 1) := by decide +kernel
theorem dX7_keep_93 : decode cX7_keep 93 = .ok (.aload_n 1, 1) := by decide +kernel
theorem dX7_keep_94 : decode cX7_keep 94 = .ok (.bipush 100, 2) := by decide +kernel
theorem dX7_keep_96 : decode cX7_keep 96 = .ok (.iload_n 2, 1) := by decide +kernel
theorem dX7_keep_97 : decode cX7_keep 97 = .ok (.iadd, 1) := by decide +kernel
theorem dX7_keep_98 : decode cX7_keep 98 = .ok (.aload_n 0, 1) := by decide +kernel
theorem dX7_keep_99 : decode cX7_keep 99 = .ok (.getfield 35, 3) := by decide +kernel
theorem dX7_keep_102 : decode cX7_keep 102 = .ok (.iload_n 2, 1) := by decide +kernel
theorem dX7_keep_103 : decode cX7_keep 103 = .ok (.iaload, 1) := by decide +kernel
theorem dX7_keep_104 : decode cX7_keep 104 = .ok (.iastore, 1) := by decide +kernel
theorem dX7_keep_105 : decode cX7_keep 105 = .ok (.aload_n 1, 1) := by decide +kernel
theorem dX7_keep_106 : decode cX7_keep 106 = .ok (.bipush 110, 2) := by decide +kernel
theorem dX7_keep_108 : decode cX7_keep 108 = .ok (.iload_n 2, 1) := by decide +kernel
theorem dX7_keep_109 : decode cX7_keep 109 = .ok (.iadd, 1) := by decide +kernel
theorem dX7_keep_110 : decode cX7_keep 110 = .ok (.aload_n 0, 1) := by decide +kernel
theorem dX7_keep_111 : decode cX7_keep 111 = .ok (.getfield 38, 3) := by decide +kernel
theorem dX7_keep_114 : decode cX7_keep 114 = .ok (.iload_n 2, 1) := by decide +kernel
theorem dX7_keep_115 : decode cX7_keep 115 = .ok (.iaload, 1) := by decide +kernel
theorem dX7_keep_116 : decode cX7_keep 116 = .ok (.iastore, 1) := by decide +kernel
theorem dX7_keep_117 : decode cX7_keep 117 = .ok (.aload_n 1, 1) := by decide +kernel
theorem dX7_keep_118 : decode cX7_keep 118 = .ok (.bipush 120, 2) := by decide +kernel
theorem dX7_keep_120 : decode cX7_keep 120 = .ok (.iload_n 2, 1) := by decide +kernel
theorem dX7_keep_121 : decode cX7_keep 121 = .ok (.iadd, 1) := by decide +kernel
theorem dX7_keep_122 : decode cX7_keep 122 = .ok (.aload_n 0, 1) := by decide +kernel
theorem dX7_keep_123 : decode cX7_keep 123 = .ok (.getfield 41, 3) := by decide +kernel
theorem dX7_keep_126 : decode cX7_keep 126 = .ok (.iload_n 2, 1) := by decide +kernel
theorem dX7_keep_127 : decode cX7_keep 127 = .ok (.iaload, 1) := by decide +kernel
theorem dX7_keep_128 : decode cX7_keep 128 = .ok (.iastore, 1) := by decide +kernel
theorem dX7_keep_129 : decode cX7_keep 129 = .ok (.iinc 2 1, 3) := by decide +kernel
theorem dX7_keep_132 : decode cX7_keep 132 = .ok (.goto (-69), 3) := by decide +kernel
theorem dX7_keep_135 : decode cX7_keep 135 = .ok (.aload_n 1, 1) := by decide +kernel
theorem dX7_keep_136 : decode cX7_keep 136 = .ok (.sipush 130, 3) := by decide +kernel
theorem dX7_keep_139 : decode cX7_keep 139 = .ok (.aload_n 0, 1) := by decide +kernel
theorem dX7_keep_140 : decode cX7_keep 140 = .ok (.getfield 85, 3) := by decide +kernel
theorem dX7_keep_143 : decode cX7_keep 143 = .ok (.iastore, 1) := by decide +kernel
theorem dX7_keep_144 : decode cX7_keep 144 = .ok (.aload_n 1, 1) := by decide +kernel
theorem dX7_keep_145 : decode cX7_keep 145 = .ok (.sipush 131, 3) := by decide +kernel
theorem dX7_keep_148 : decode cX7_keep 148 = .ok (.aload_n 0, 1) := by decide +kernel
theorem dX7_keep_149 : decode cX7_keep 149 = .ok (.getfield 92, 3) := by decide +kernel
theorem dX7_keep_152 : decode cX7_keep 152 = .ok (.iastore, 1) := by decide +kernel
theorem dX7_keep_153 : decode cX7_keep 153 = .ok (.aload_n 1, 1) := by decide +kernel
theorem dX7_keep_154 : decode cX7_keep 154 = .ok (.sipush 132, 3) := by decide +kernel
theorem dX7_keep_157 : decode cX7_keep 157 = .ok (.aload_n 0, 1) := by decide +kernel
theorem dX7_keep_158 : decode cX7_keep 158 = .ok (.getfield 71, 3) := by decide +kernel
theorem dX7_keep_161 : decode cX7_keep 161 = .ok (.iastore, 1) := by decide +kernel
theorem dX7_keep_162 : decode cX7_keep 162 = .ok (.aload_n 1, 1) := by decide +kernel
theorem dX7_keep_163 : decode cX7_keep 163 = .ok (.sipush 133, 3) := by decide +kernel
theorem dX7_keep_166 : decode cX7_keep 166 = .ok (.aload_n 0, 1) := by decide +kernel
theorem dX7_keep_167 : decode cX7_keep 167 = .ok (.getfield 139, 3) := by decide +kernel
theorem dX7_keep_170 : decode cX7_keep 170 = .ok (.iastore, 1) := by decide +kernel
theorem dX7_keep_171 : decode cX7_keep 171 = .ok (.aload_n 1, 1) := by decide +kernel
theorem dX7_keep_172 : decode cX7_keep 172 = .ok (.sipush 134, 3) := by decide +kernel
theorem dX7_keep_175 : decode cX7_keep 175 = .ok (.aload_n 0, 1) := by decide +kernel
theorem dX7_keep_176 : decode cX7_keep 176 = .ok (.getfield 297, 3) := by decide +kernel
theorem dX7_keep_179 : decode cX7_keep 179 = .ok (.iastore, 1) := by decide +kernel
theorem dX7_keep_180 : decode cX7_keep 180 = .ok (.aload_n 1, 1) := by decide +kernel
theorem dX7_keep_181 : decode cX7_keep 181 = .ok (.sipush 135, 3) := by decide +kernel
theorem dX7_keep_184 : decode cX7_keep 184 = .ok (.aload_n 0, 1) := by decide +kernel
theorem dX7_keep_185 : decode cX7_keep 185 = .ok (.getfield 291, 3) := by decide +kernel
theorem dX7_keep_188 : decode cX7_keep 188 = .ok (.iastore, 1) := by decide +kernel
theorem dX7_keep_189 : decode cX7_keep 189 = .ok (.aload_n 1, 1) := by decide +kernel
theorem dX7_keep_190 : decode cX7_keep 190 = .ok (.sipush 136, 3) := by decide +kernel
theorem dX7_keep_193 : decode cX7_keep 193 = .ok (.aload_n 0, 1) := by decide +kernel
theorem dX7_keep_194 : decode cX7_keep 194 = .ok (.getfield 75, 3) := by decide +kernel
theorem dX7_keep_197 : decode cX7_keep 197 = .ok (.iastore, 1) := by decide +kernel
theorem dX7_keep_198 : decode cX7_keep 198 = .ok (.return_, 1) := by decide +kernel
theorem dX7_again_0 : decode cX7_again 0 = .ok (.iconst 0, 1) := by decide +kernel
theorem dX7_again_1 : decode cX7_again 1 = .ok (.istore_n 2, 1) := by decide +kernel
theorem dX7_again_2 : decode cX7_again 2 = .ok (.iload_n 2, 1) := by decide +kernel
theorem dX7_again_3 : decode cX7_again 3 = .ok (.bipush 8, 2) := by decide +kernel
theorem dX7_again_5 : decode cX7_again 5 = .ok (.if_icmp .ge 30, 3) := by decide +kernel
theorem dX7_again_8 : decode cX7_again 8 = .ok (.aload_n 0, 1) := by decide +kernel
theorem dX7_again_9 : decode cX7_again 9 = .ok (.getfield 20, 3) := by decide +kernel
theorem dX7_again_12 : decode cX7_again 12 = .ok (.iload_n 2, 1) := by decide +kernel
theorem dX7_again_13 : decode cX7_again 13 = .ok (.aload_n 1, 1) := by decide +kernel
theorem dX7_again_14 : decode cX7_again 14 = .ok (.iload_n 2, 1) := by decide +kernel
theorem dX7_again_15 : decode cX7_again 15 = .ok (.iaload, 1) := by decide +kernel
theorem dX7_again_16 : decode cX7_again 16 = .ok (.iastore, 1) := by decide +kernel
theorem dX7_again_17 : decode cX7_again 17 = .ok (.aload_n 0, 1) := by decide +kernel
theorem dX7_again_18 : decode cX7_again 18 = .ok (.getfield 23, 3) := by decide +kernel
theorem dX7_again_21 : decode cX7_again 21 = .ok (.iload_n 2, 1) := by decide +kernel
theorem dX7_again_22 : decode cX7_again 22 = .ok (.aload_n 1, 1) := by decide +kernel
theorem dX7_again_23 : decode cX7_again 23 = .ok (.bipush 8, 2) := by decide +kernel
theorem dX7_again_25 : decode cX7_again 25 = .ok (.iload_n 2, 1) := by decide +kernel
theorem dX7_again_26 : decode cX7_again 26 = .ok (.iadd, 1) := by decide +kernel
theorem dX7_again_27 : decode cX7_again 27 = .ok (.iaload, 1) := by decide +kernel
theorem dX7_again_28 : decode cX7_again 28 = .ok (.iastore, 1) := by decide +kernel
theorem dX7_again_29 : decode cX7_again 29 = .ok (.iinc 2 1, 3) := by decide +kernel
theorem dX7_again_32 : decode cX7_again 32 = .ok (.goto (-30), 3) := by decide +kernel
theorem dX7_again_35 : decode cX7_again 35 = .ok (.iconst 0, 1) := by decide +kernel
theorem dX7_again_36 : decode cX7_again 36 = .ok (.istore_n 2, 1) := by decide +kernel
theorem dX7_again_37 : decode cX7_again 37 = .ok (.iload_n 2, 1) := by decide +kernel
theorem dX7_again_38 : decode cX7_again 38 = .ok (.bipush 64, 2) := by decide +kernel
theorem dX7_again_40 : decode cX7_again 40 = .ok (.if_icmp .ge 21, 3) := by decide +kernel
theorem dX7_again_43 : decode cX7_again 43 = .ok (.aload_n 0, 1) := by decide +kernel
theorem dX7_again_44 : decode cX7_again 44 = .ok (.getfield 26, 3) := by decide +kernel
theorem dX7_again_47 : decode cX7_again 47 = .ok (.iload_n 2, 1) := by decide +kernel
theorem dX7_again_48 : decode cX7_again 48 = .ok (.aload_n 1, 1) := by decide +kernel
theorem dX7_again_49 : decode cX7_again 49 = .ok (.bipush 16, 2) := by decide +kernel
theorem dX7_again_51 : decode cX7_again 51 = .ok (.iload_n 2, 1) := by decide +kernel
theorem dX7_again_52 : decode cX7_again 52 = .ok (.iadd, 1) := by decide +kernel
theorem dX7_again_53 : decode cX7_again 53 = .ok (.iaload, 1) := by decide +kernel
theorem dX7_again_54 : decode cX7_again 54 = .ok (.iastore, 1) := by decide +kernel
theorem dX7_again_55 : decode cX7_again 55 = .ok (.iinc 2 1, 3) := by decide +kernel
theorem dX7_again_58 : decode cX7_again 58 = .ok (.goto (-21), 3) := by decide +kernel
theorem dX7_again_61 : decode cX7_again 61 = .ok (.iconst 0, 1) := by decide +kernel
theorem dX7_again_62 : decode cX7_again 62 = .ok (.istore_n 2, 1) := by decide +kernel
theorem dX7_again_63 : decode cX7_again 63 = .ok (.iload_n 2, 1) := by decide +kernel
theorem dX7_again_64 : decode cX7_again 64 = .ok (.bipush 10, 2) := by decide +kernel
theorem dX7_again_66 : decode cX7_again 66 = .ok (.if_icmp .ge 69, 3) := by decide +kernel
theorem dX7_again_69 : decode cX7_again 69 = .ok (.aload_n 0, 1) := by decide +kernel
theorem dX7_again_70 : decode cX7_again 70 = .ok (.getfield 29, 3) := by decide +kernel
theorem dX7_again_73 : decode cX7_again 73 = .ok (.iload_n 2, 1) := by decide +kernel
theorem dX7_again_74 : decode cX7_again 74 = .ok (.aload_n 1, 1) := by decide +kernel
theorem dX7_again_75 : decode cX7_again 75 = .ok (.bipush 80, 2) := by decide +kernel
theorem dX7_again_77 : decode cX7_again 77 = .ok (.iload_n 2, 1) := by decide +kernel
theorem dX7_again_78 : decode cX7_again 78 = .ok (.iadd, 1) := by decide +kernel
theorem dX7_again_79 : decode cX7_again 79 = .ok (.iaload, 1) := by decide +kernel
theorem dX7_again_80 : decode cX7_again 80 = .ok (.iastore, 1) := by decide +kernel
theorem dX7_again_81 : decode cX7_again 81 = .ok (.aload_n 0, 1) := by decide +kernel
theorem dX7_again_82 : decode cX7_again 82 = .ok (.getfield 32, 3) := by decide +kernel
theorem dX7_again_85 : decode cX7_again 85 = .ok (.iload_n 2, 1) := by decide +kernel
theorem dX7_again_86 : decode cX7_again 86 = .ok (.aload_n 1, 1) := by decide +kernel
theorem dX7_again_87 : decode cX7_again 87 = .ok (.bipush 90, 2) := by decide +kernel
theorem dX7_again_89 : decode cX7_again 89 = .ok (.iload_n 2, 1) := by decide +kernel
theorem dX7_again_90 : decode cX7_again 90 = .ok (.iadd, 1) := by decide +kernel
theorem dX7_again_91 : decode cX7_again 91 = .ok (.iaload, 1) := by decide +kernel
theorem dX7_again_92 : decode cX7_again 92 = .ok (.iastore, 1) := by decide +kernel
theorem dX7_again_93 : decode cX7_again 93 = .ok (.aload_n 0, 1) := by decide +kernel
theorem dX7_again_94 : decode cX7_again 94 = .ok (.getfield 35, 3) := by decide +kernel
theorem dX7_again_97 : decode cX7_again 97 = .ok (.iload_n 2, 1) := by decide +kernel
theorem dX7_again_98 : decode cX7_again 98 = .ok (.aload_n 1, 1) := by decide +kernel
theorem dX7_again_99 : decode cX7_again 99 = .ok (.bipush 100, 2) := by decide +kernel
theorem dX7_again_101 : decode cX7_again 101 = .ok (.iload_n 2, 1) := by decide +kernel
theorem dX7_again_102 : decode cX7_again 102 = .ok (.iadd, 1) := by decide +kernel
theorem dX7_again_103 : decode cX7_again 103 = .ok (.iaload, 1) := by decide +kernel
theorem dX7_again_104 : decode cX7_again 104 = .ok (.iastore, 1) := by decide +kernel
theorem dX7_again_105 : decode cX7_again 105 = .ok (.aload_n 0, 1) := by decide +kernel
theorem dX7_again_106 : decode cX7_again 106 = .ok (.getfield 38, 3) := by decide +kernel
theorem dX7_again_109 : decode cX7_again 109 = .ok (.iload_n 2, 1) := by decide +kernel
theorem dX7_again_110 : decode cX7_again 110 = .ok (.aload_n 1, 1) := by decide +kernel
theorem dX7_again_111 : decode cX7_again 111 = .ok (.bipush 110, 2) := by decide +kernel
theorem dX7_again_113 : decode cX7_again 113 = .ok (.iload_n 2, 1) := by decide +kernel
theorem dX7_again_114 : decode cX7_again 114 = .ok (.iadd, 1) := by decide +kernel
theorem dX7_again_115 : decode cX7_again 115 = .ok (.iaload, 1) := by decide +kernel
theorem dX7_again_116 : decode cX7_again 116 = .ok (.iastore, 1) := by decide +kernel
theorem dX7_again_117 : decode cX7_again 117 = .ok (.aload_n 0, 1) := by decide +kernel
theorem dX7_again_118 : decode cX7_again 118 = .ok (.getfield 41, 3) := by decide +kernel
theorem dX7_again_121 : decode cX7_again 121 = .ok (.iload_n 2, 1) := by decide +kernel
theorem dX7_again_122 : decode cX7_again 122 = .ok (.aload_n 1, 1) := by decide +kernel
theorem dX7_again_123 : decode cX7_again 123 = .ok (.bipush 120, 2) := by decide +kernel
theorem dX7_again_125 : decode cX7_again 125 = .ok (.iload_n 2, 1) := by decide +kernel
theorem dX7_again_126 : decode cX7_again 126 = .ok (.iadd, 1) := by decide +kernel
theorem dX7_again_127 : decode cX7_again 127 = .ok (.iaload, 1) := by decide +kernel
theorem dX7_again_128 : decode cX7_again 128 = .ok (.iastore, 1) := by decide +kernel
theorem dX7_again_129 : decode cX7_again 129 = .ok (.iinc 2 1, 3) := by decide +kernel
theorem dX7_again_132 : decode cX7_again 132 = .ok (.goto (-69), 3) := by decide +kernel
theorem dX7_again_135 : decode cX7_again 135 = .ok (.aload_n 0, 1) := by decide +kernel
theorem dX7_again_136 : decode cX7_again 136 = .ok (.aload_n 1, 1) := by decide +kernel
theorem dX7_again_137 : decode cX7_again 137 = .ok (.sipush 130, 3) := by decide +kernel
theorem dX7_again_140 : decode cX7_again 140 = .ok (.iaload, 1) := by decide +kernel
theorem dX7_again_141 : decode cX7_again 141 = .ok (.putfield 85, 3) := by decide +kernel
theorem dX7_again_144 : decode cX7_again 144 = .ok (.aload_n 0, 1) := by decide +kernel
theorem dX7_again_145 : decode cX7_again 145 = .ok (.aload_n 1, 1) := by decide +kernel
theorem dX7_again_146 : decode cX7_again 146 = .ok (.sipush 131, 3) := by decide +kernel
theorem dX7_again_149 : decode cX7_again 149 = .ok (.iaload, 1) := by decide +kernel
theorem dX7_again_150 : decode cX7_again 150 = .ok (.putfield 92, 3) := by decide +kernel
theorem dX7_again_153 : decode cX7_again 153 = .ok (.aload_n 0, 1) := by decide +kernel
theorem dX7_again_154 : decode cX7_again 154 = .ok (.aload_n 1, 1) := by decide +kernel
theorem dX7_again_155 : decode cX7_again 155 = .ok (.sipush 132, 3) := by decide +kernel
theorem dX7_again_158 : decode cX7_again 158 = .ok (.iaload, 1) := by decide +kernel
theorem dX7_again_159 : decode cX7_again 159 = .ok (.putfield 71, 3) := by decide +kernel
theorem dX7_again_162 : decode cX7_again 162 = .ok (.aload_n 0, 1) := by decide +kernel
theorem dX7_again_163 : decode cX7_again 163 = .ok (.aload_n 1, 1) := by decide +kernel
theorem dX7_again_164 : decode cX7_again 164 = .ok (.sipush 133, 3) := by decide +kernel
theorem dX7_again_167 : decode cX7_again 167 = .ok (.iaload, 1) := by decide +kernel
theorem dX7_again_168 : decode cX7_again 168 = .ok (.putfield 139, 3) := by decide +kernel
theorem dX7_again_171 : decode cX7_again 171 = .ok (.aload_n 0, 1) := by decide +kernel
theorem dX7_again_172 : decode cX7_again 172 = .ok (.aload_n 1, 1) := by decide +kernel
theorem dX7_again_173 : decode cX7_again 173 = .ok (.sipush 134, 3) := by decide +kernel
theorem dX7_again_176 : decode cX7_again 176 = .ok (.iaload, 1) := by decide +kernel
theorem dX7_again_177 : decode cX7_again 177 = .ok (.putfield 297, 3) := by decide +kernel
theorem dX7_again_180 : decode cX7_again 180 = .ok (.aload_n 0, 1) := by decide +kernel
theorem dX7_again_181 : decode cX7_again 181 = .ok (.aload_n 1, 1) := by decide +kernel
theorem dX7_again_182 : decode cX7_again 182 = .ok (.sipush 135, 3) := by decide +kernel
theorem dX7_again_185 : decode cX7_again 185 = .ok (.iaload, 1) := by decide +kernel
theorem dX7_again_186 : decode cX7_again 186 = .ok (.putfield 291, 3) := by decide +kernel
theorem dX7_again_189 : decode cX7_again 189 = .ok (.aload_n 0, 1) := by decide +kernel
theorem dX7_again_190 : decode cX7_again 190 = .ok (.aload_n 1, 1) := by decide +kernel
theorem dX7_again_191 : decode cX7_again 191 = .ok (.sipush 136, 3) := by decide +kernel
theorem dX7_again_194 : decode cX7_again 194 = .ok (.iaload, 1) := by decide +kernel
theorem dX7_again_195 : decode cX7_again 195 = .ok (.putfield 75, 3) := by decide +kernel
theorem dX7_again_198 : decode cX7_again 198 = .ok (.return_, 1) := by decide +kernel
theorem dX7_image_0 : decode cX7_image 0 = .ok (.aload_n 0, 1) := by decide +kernel
theorem dX7_image_1 : decode cX7_image 1 = .ok (.iconst 1, 1) := by decide +kernel
theorem dX7_image_2 : decode cX7_image 2 = .ok (.putfield 316, 3) := by decide +kernel
theorem dX7_image_5 : decode cX7_image 5 = .ok (.aload_n 0, 1) := by decide +kernel
theorem dX7_image_6 : decode cX7_image 6 = .ok (.aload_n 0, 1) := by decide +kernel
theorem dX7_image_7 : decode cX7_image 7 = .ok (.getfield 50, 3) := by decide +kernel
theorem dX7_image_10 : decode cX7_image 10 = .ok (.invokevirtual 192, 3) := by decide +kernel
theorem dX7_image_13 : decode cX7_image 13 = .ok (.aload_n 0, 1) := by decide +kernel
theorem dX7_image_14 : decode cX7_image 14 = .ok (.getfield 85, 3) := by decide +kernel
theorem dX7_image_17 : decode cX7_image 17 = .ok (.ireturn, 1) := by decide +kernel
theorem dX7_restore_0 : decode cX7_restore 0 = .ok (.aload_n 0, 1) := by decide +kernel
theorem dX7_restore_1 : decode cX7_restore 1 = .ok (.getfield 316, 3) := by decide +kernel
theorem dX7_restore_4 : decode cX7_restore 4 = .ok (.ifCond .ne 10, 3) := by decide +kernel
theorem dX7_restore_7 : decode cX7_restore 7 = .ok (.aload_n 0, 1) := by decide +kernel
theorem dX7_restore_8 : decode cX7_restore 8 = .ok (.bipush (-6), 2) := by decide +kernel
theorem dX7_restore_10 : decode cX7_restore 10 = .ok (.invokevirtual 81, 3) := by decide +kernel
theorem dX7_restore_13 : decode cX7_restore 13 = .ok (.ireturn, 1) := by decide +kernel
theorem dX7_restore_14 : decode cX7_restore 14 = .ok (.aload_n 0, 1) := by decide +kernel
theorem dX7_restore_15 : decode cX7_restore 15 = .ok (.aload_n 0, 1) := by decide +kernel
theorem dX7_restore_16 : decode cX7_restore 16 = .ok (.getfield 50, 3) := by decide +kernel
theorem dX7_restore_19 : decode cX7_restore 19 = .ok (.invokevirtual 199, 3) := by decide +kernel
theorem dX7_restore_22 : decode cX7_restore 22 = .ok (.iconst 0, 1) := by decide +kernel
theorem dX7_restore_23 : decode cX7_restore 23 = .ok (.istore_n 1, 1) := by decide +kernel
theorem dX7_restore_24 : decode cX7_restore 24 = .ok (.iload_n 1, 1) := by decide +kernel
theorem dX7_restore_25 : decode cX7_restore 25 = .ok (.bipush 8, 2) := by decide +kernel
theorem dX7_restore_27 : decode cX7_restore 27 = .ok (.if_icmp .ge 37, 3) := by decide +kernel
theorem dX7_restore_30 : decode cX7_restore 30 = .ok (.aload_n 0, 1) := by decide +kernel
theorem dX7_restore_31 : decode cX7_restore 31 = .ok (.iload_n 1, 1) := by decide +kernel
theorem dX7_restore_32 : decode cX7_restore 32 = .ok (.invokevirtual 95, 3) := by decide +kernel
theorem dX7_restore_35 : decode cX7_restore 35 = .ok (.ifCond .ne 23, 3) := by decide +kernel
theorem dX7_restore_38 : decode cX7_restore 38 = .ok (.aload_n 0, 1) := by decide +kernel
theorem dX7_restore_39 : decode cX7_restore 39 = .ok (.getfield 7, 3) := by decide +kernel
theorem dX7_restore_42 : decode cX7_restore 42 = .ok (.iload_n 1, 1) := by decide +kernel
theorem dX7_restore_43 : decode cX7_restore 43 = .ok (.iaload, 1) := by decide +kernel
theorem dX7_restore_44 : decode cX7_restore 44 = .ok (.aload_n 0, 1) := by decide +kernel
theorem dX7_restore_45 : decode cX7_restore 45 = .ok (.getfield 85, 3) := by decide +kernel
theorem dX7_restore_48 : decode cX7_restore 48 = .ok (.if_icmp .lt 10, 3) := by decide +kernel
theorem dX7_restore_51 : decode cX7_restore 51 = .ok (.aload_n 0, 1) := by decide +kernel
theorem dX7_restore_52 : decode cX7_restore 52 = .ok (.getfield 7, 3) := by decide +kernel
theorem dX7_restore_55 : decode cX7_restore 55 = .ok (.iload_n 1, 1) := by decide +kernel
theorem dX7_restore_56 : decode cX7_restore 56 = .ok (.iconst (-1), 1) := by decide +kernel
theorem dX7_restore_57 : decode cX7_restore 57 = .ok (.iastore, 1) := by decide +kernel
theorem dX7_restore_58 : decode cX7_restore 58 = .ok (.iinc 1 1, 3) := by decide +kernel
theorem dX7_restore_61 : decode cX7_restore 61 = .ok (.goto (-37), 3) := by decide +kernel
theorem dX7_restore_64 : decode cX7_restore 64 = .ok (.aload_n 0, 1) := by decide +kernel
theorem dX7_restore_65 : decode cX7_restore 65 = .ok (.getfield 85, 3) := by decide +kernel
theorem dX7_restore_68 : decode cX7_restore 68 = .ok (.ireturn, 1) := by decide +kernel
theorem dX7_status_0 : decode cX7_status 0 = .ok (.iload_n 1, 1) := by decide +kernel
theorem dX7_status_1 : decode cX7_status 1 = .ok (.tableswitch 96 0 8 #[51, 56, 61, 66, 71, 76, 81, 86, 91], 51) := by decide +kernel
theorem dX7_status_52 : decode cX7_status 52 = .ok (.aload_n 0, 1) := by decide +kernel
theorem dX7_status_53 : decode cX7_status 53 = .ok (.getfield 85, 3) := by decide +kernel
theorem dX7_status_56 : decode cX7_status 56 = .ok (.ireturn, 1) := by decide +kernel
theorem dX7_status_57 : decode cX7_status 57 = .ok (.aload_n 0, 1) := by decide +kernel
theorem dX7_status_58 : decode cX7_status 58 = .ok (.getfield 92, 3) := by decide +kernel
theorem dX7_status_61 : decode cX7_status 61 = .ok (.ireturn, 1) := by decide +kernel
theorem dX7_status_62 : decode cX7_status 62 = .ok (.aload_n 0, 1) := by decide +kernel
theorem dX7_status_63 : decode cX7_status 63 = .ok (.invokevirtual 211, 3) := by decide +kernel
theorem dX7_status_66 : decode cX7_status 66 = .ok (.ireturn, 1) := by decide +kernel
theorem dX7_status_67 : decode cX7_status 67 = .ok (.aload_n 0, 1) := by decide +kernel
theorem dX7_status_68 : decode cX7_status 68 = .ok (.getfield 71, 3) := by decide +kernel
theorem dX7_status_71 : decode cX7_status 71 = .ok (.ireturn, 1) := by decide +kernel
theorem dX7_status_72 : decode cX7_status 72 = .ok (.aload_n 0, 1) := by decide +kernel
theorem dX7_status_73 : decode cX7_status 73 = .ok (.getfield 139, 3) := by decide +kernel
theorem dX7_status_76 : decode cX7_status 76 = .ok (.ireturn, 1) := by decide +kernel
theorem dX7_status_77 : decode cX7_status 77 = .ok (.aload_n 0, 1) := by decide +kernel
theorem dX7_status_78 : decode cX7_status 78 = .ok (.getfield 297, 3) := by decide +kernel
theorem dX7_status_81 : decode cX7_status 81 = .ok (.ireturn, 1) := by decide +kernel
theorem dX7_status_82 : decode cX7_status 82 = .ok (.aload_n 0, 1) := by decide +kernel
theorem dX7_status_83 : decode cX7_status 83 = .ok (.getfield 291, 3) := by decide +kernel
theorem dX7_status_86 : decode cX7_status 86 = .ok (.ireturn, 1) := by decide +kernel
theorem dX7_status_87 : decode cX7_status 87 = .ok (.aload_n 0, 1) := by decide +kernel
theorem dX7_status_88 : decode cX7_status 88 = .ok (.getfield 75, 3) := by decide +kernel
theorem dX7_status_91 : decode cX7_status 91 = .ok (.ireturn, 1) := by decide +kernel
theorem dX7_status_92 : decode cX7_status 92 = .ok (.aload_n 0, 1) := by decide +kernel
theorem dX7_status_93 : decode cX7_status 93 = .ok (.getfield 300, 3) := by decide +kernel
theorem dX7_status_96 : decode cX7_status 96 = .ok (.ireturn, 1) := by decide +kernel
theorem dX7_status_97 : decode cX7_status 97 = .ok (.iload_n 1, 1) := by decide +kernel
theorem dX7_status_98 : decode cX7_status 98 = .ok (.bipush 11, 2) := by decide +kernel
theorem dX7_status_100 : decode cX7_status 100 = .ok (.bipush 17, 2) := by decide +kernel
theorem dX7_status_102 : decode cX7_status 102 = .ok (.invokestatic 88, 3) := by decide +kernel
theorem dX7_status_105 : decode cX7_status 105 = .ok (.ifCond .eq 15, 3) := by decide +kernel
theorem dX7_status_108 : decode cX7_status 108 = .ok (.aload_n 0, 1) := by decide +kernel
theorem dX7_status_109 : decode cX7_status 109 = .ok (.getfield 44, 3) := by decide +kernel
theorem dX7_status_112 : decode cX7_status 112 = .ok (.iload_n 1, 1) := by decide +kernel
theorem dX7_status_113 : decode cX7_status 113 = .ok (.bipush 10, 2) := by decide +kernel
theorem dX7_status_115 : decode cX7_status 115 = .ok (.isub, 1) := by decide +kernel
theorem dX7_status_116 : decode cX7_status 116 = .ok (.iaload, 1) := by decide +kernel
theorem dX7_status_117 : decode cX7_status 117 = .ok (.goto 4, 3) := by decide +kernel
theorem dX7_status_120 : decode cX7_status 120 = .ok (.iconst (-1), 1) := by decide +kernel
theorem dX7_status_121 : decode cX7_status 121 = .ok (.ireturn, 1) := by decide +kernel
theorem dJ6_bitCount_0f7a4_0 : decode cJ6_bitCount_0f7a4 0 = .ok (.iload_n 0, 1) := by decide +kernel
theorem dJ6_bitCount_0f7a4_1 : decode cJ6_bitCount_0f7a4 1 = .ok (.iload_n 0, 1) := by decide +kernel
theorem dJ6_bitCount_0f7a4_2 : decode cJ6_bitCount_0f7a4 2 = .ok (.iconst 1, 1) := by decide +kernel
theorem dJ6_bitCount_0f7a4_3 : decode cJ6_bitCount_0f7a4 3 = .ok (.iushr, 1) := by decide +kernel
theorem dJ6_bitCount_0f7a4_4 : decode cJ6_bitCount_0f7a4 4 = .ok (.ldc_w 265, 3) := by decide +kernel
theorem dJ6_bitCount_0f7a4_7 : decode cJ6_bitCount_0f7a4 7 = .ok (.iand, 1) := by decide +kernel
theorem dJ6_bitCount_0f7a4_8 : decode cJ6_bitCount_0f7a4 8 = .ok (.isub, 1) := by decide +kernel
theorem dJ6_bitCount_0f7a4_9 : decode cJ6_bitCount_0f7a4 9 = .ok (.istore_n 0, 1) := by decide +kernel
theorem dJ6_bitCount_0f7a4_10 : decode cJ6_bitCount_0f7a4 10 = .ok (.iload_n 0, 1) := by decide +kernel
theorem dJ6_bitCount_0f7a4_11 : decode cJ6_bitCount_0f7a4 11 = .ok (.ldc_w 266, 3) := by decide +kernel
theorem dJ6_bitCount_0f7a4_14 : decode cJ6_bitCount_0f7a4 14 = .ok (.iand, 1) := by decide +kernel
theorem dJ6_bitCount_0f7a4_15 : decode cJ6_bitCount_0f7a4 15 = .ok (.iload_n 0, 1) := by decide +kernel
theorem dJ6_bitCount_0f7a4_16 : decode cJ6_bitCount_0f7a4 16 = .ok (.iconst 2, 1) := by decide +kernel
theorem dJ6_bitCount_0f7a4_17 : decode cJ6_bitCount_0f7a4 17 = .ok (.iushr, 1) := by decide +kernel
theorem dJ6_bitCount_0f7a4_18 : decode cJ6_bitCount_0f7a4 18 = .ok (.ldc_w 266, 3) := by decide +kernel
theorem dJ6_bitCount_0f7a4_21 : decode cJ6_bitCount_0f7a4 21 = .ok (.iand, 1) := by decide +kernel
theorem dJ6_bitCount_0f7a4_22 : decode cJ6_bitCount_0f7a4 22 = .ok (.iadd, 1) := by decide +kernel
theorem dJ6_bitCount_0f7a4_23 : decode cJ6_bitCount_0f7a4 23 = .ok (.istore_n 0, 1) := by decide +kernel
theorem dJ6_bitCount_0f7a4_24 : decode cJ6_bitCount_0f7a4 24 = .ok (.iload_n 0, 1) := by decide +kernel
theorem dJ6_bitCount_0f7a4_25 : decode cJ6_bitCount_0f7a4 25 = .ok (.iload_n 0, 1) := by decide +kernel
theorem dJ6_bitCount_0f7a4_26 : decode cJ6_bitCount_0f7a4 26 = .ok (.iconst 4, 1) := by decide +kernel
theorem dJ6_bitCount_0f7a4_27 : decode cJ6_bitCount_0f7a4 27 = .ok (.iushr, 1) := by decide +kernel
theorem dJ6_bitCount_0f7a4_28 : decode cJ6_bitCount_0f7a4 28 = .ok (.iadd, 1) := by decide +kernel
theorem dJ6_bitCount_0f7a4_29 : decode cJ6_bitCount_0f7a4 29 = .ok (.ldc_w 267, 3) := by decide +kernel
theorem dJ6_bitCount_0f7a4_32 : decode cJ6_bitCount_0f7a4 32 = .ok (.iand, 1) := by decide +kernel
theorem dJ6_bitCount_0f7a4_33 : decode cJ6_bitCount_0f7a4 33 = .ok (.istore_n 0, 1) := by decide +kernel
theorem dJ6_bitCount_0f7a4_34 : decode cJ6_bitCount_0f7a4 34 = .ok (.iload_n 0, 1) := by decide +kernel
theorem dJ6_bitCount_0f7a4_35 : decode cJ6_bitCount_0f7a4 35 = .ok (.iload_n 0, 1) := by decide +kernel
theorem dJ6_bitCount_0f7a4_36 : decode cJ6_bitCount_0f7a4 36 = .ok (.bipush 8, 2) := by decide +kernel
theorem dJ6_bitCount_0f7a4_38 : decode cJ6_bitCount_0f7a4 38 = .ok (.iushr, 1) := by decide +kernel
theorem dJ6_bitCount_0f7a4_39 : decode cJ6_bitCount_0f7a4 39 = .ok (.iadd, 1) := by decide +kernel
theorem dJ6_bitCount_0f7a4_40 : decode cJ6_bitCount_0f7a4 40 = .ok (.istore_n 0, 1) := by decide +kernel
theorem dJ6_bitCount_0f7a4_41 : decode cJ6_bitCount_0f7a4 41 = .ok (.iload_n 0, 1) := by decide +kernel
theorem dJ6_bitCount_0f7a4_42 : decode cJ6_bitCount_0f7a4 42 = .ok (.iload_n 0, 1) := by decide +kernel
theorem dJ6_bitCount_0f7a4_43 : decode cJ6_bitCount_0f7a4 43 = .ok (.bipush 16, 2) := by decide +kernel
theorem dJ6_bitCount_0f7a4_45 : decode cJ6_bitCount_0f7a4 45 = .ok (.iushr, 1) := by decide +kernel
theorem dJ6_bitCount_0f7a4_46 : decode cJ6_bitCount_0f7a4 46 = .ok (.iadd, 1) := by decide +kernel
theorem dJ6_bitCount_0f7a4_47 : decode cJ6_bitCount_0f7a4 47 = .ok (.istore_n 0, 1) := by decide +kernel
theorem dJ6_bitCount_0f7a4_48 : decode cJ6_bitCount_0f7a4 48 = .ok (.iload_n 0, 1) := by decide +kernel
theorem dJ6_bitCount_0f7a4_49 : decode cJ6_bitCount_0f7a4 49 = .ok (.bipush 63, 2) := by decide +kernel
theorem dJ6_bitCount_0f7a4_51 : decode cJ6_bitCount_0f7a4 51 = .ok (.iand, 1) := by decide +kernel
theorem dJ6_bitCount_0f7a4_52 : decode cJ6_bitCount_0f7a4 52 = .ok (.ireturn, 1) := by decide +kernel
theorem dJ9_abs_0f7a4_0 : decode cJ9_abs_0f7a4 0 = .ok (.iload_n 0, 1) := by decide +kernel
theorem dJ9_abs_0f7a4_1 : decode cJ9_abs_0f7a4 1 = .ok (.ifCond .ge 8, 3) := by decide +kernel
theorem dJ9_abs_0f7a4_4 : decode cJ9_abs_0f7a4 4 = .ok (.iload_n 0, 1) := by decide +kernel
theorem dJ9_abs_0f7a4_5 : decode cJ9_abs_0f7a4 5 = .ok (.ineg, 1) := by decide +kernel
theorem dJ9_abs_0f7a4_6 : decode cJ9_abs_0f7a4 6 = .ok (.goto 4, 3) := by decide +kernel
theorem dJ9_abs_0f7a4_9 : decode cJ9_abs_0f7a4 9 = .ok (.iload_n 0, 1) := by decide +kernel
theorem dJ9_abs_0f7a4_10 : decode cJ9_abs_0f7a4 10 = .ok (.ireturn, 1) := by decide +kernel
theorem dJ9_max_7cf53_0 : decode cJ9_max_7cf53 0 = .ok (.iload_n 0, 1) := by decide +kernel
theorem dJ9_max_7cf53_1 : decode cJ9_max_7cf53 1 = .ok (.iload_n 1, 1) := by decide +kernel
theorem dJ9_max_7cf53_2 : decode cJ9_max_7cf53 2 = .ok (.if_icmp .lt 7, 3) := by decide +kernel
theorem dJ9_max_7cf53_5 : decode cJ9_max_7cf53 5 = .ok (.iload_n 0, 1) := by decide +kernel
theorem dJ9_max_7cf53_6 : decode cJ9_max_7cf53 6 = .ok (.goto 4, 3) := by decide +kernel
theorem dJ9_max_7cf53_9 : decode cJ9_max_7cf53 9 = .ok (.iload_n 1, 1) := by decide +kernel
theorem dJ9_max_7cf53_10 : decode cJ9_max_7cf53 10 = .ok (.ireturn, 1) := by decide +kernel
theorem dJ9_min_7cf53_0 : decode cJ9_min_7cf53 0 = .ok (.iload_n 0, 1) := by decide +kernel
theorem dJ9_min_7cf53_1 : decode cJ9_min_7cf53 1 = .ok (.iload_n 1, 1) := by decide +kernel
theorem dJ9_min_7cf53_2 : decode cJ9_min_7cf53 2 = .ok (.if_icmp .gt 7, 3) := by decide +kernel
theorem dJ9_min_7cf53_5 : decode cJ9_min_7cf53 5 = .ok (.iload_n 0, 1) := by decide +kernel
theorem dJ9_min_7cf53_6 : decode cJ9_min_7cf53 6 = .ok (.goto 4, 3) := by decide +kernel
theorem dJ9_min_7cf53_9 : decode cJ9_min_7cf53 9 = .ok (.iload_n 1, 1) := by decide +kernel
theorem dJ9_min_7cf53_10 : decode cJ9_min_7cf53 10 = .ok (.ireturn, 1) := by decide +kernel
theorem dJ0_length_8abf5_0 : decode cJ0_length_8abf5 0 = .ok (.aload_n 0, 1) := by decide +kernel
theorem dJ0_length_8abf5_1 : decode cJ0_length_8abf5 1 = .ok (.getfield 9, 3) := by decide +kernel
theorem dJ0_length_8abf5_4 : decode cJ0_length_8abf5 4 = .ok (.arraylength, 1) := by decide +kernel
theorem dJ0_length_8abf5_5 : decode cJ0_length_8abf5 5 = .ok (.aload_n 0, 1) := by decide +kernel
theorem dJ0_length_8abf5_6 : decode cJ0_length_8abf5 6 = .ok (.invokevirtual 335, 3) := by decide +kernel
theorem dJ0_length_8abf5_9 : decode cJ0_length_8abf5 9 = .ok (.ishr, 1) := by decide +kernel
theorem dJ0_length_8abf5_10 : decode cJ0_length_8abf5 10 = .ok (.ireturn, 1) := by decide +kernel
theorem dJ0_charAt_5068e_0 : decode cJ0_charAt_5068e 0 = .ok (.aload_n 0, 1) := by decide +kernel
theorem dJ0_charAt_5068e_1 : decode cJ0_charAt_5068e 1 = .ok (.invokevirtual 492, 3) := by decide +kernel
theorem dJ0_charAt_5068e_4 : decode cJ0_charAt_5068e 4 = .ok (.ifCond .eq 12, 3) := by decide +kernel
theorem dJ0_charAt_5068e_7 : decode cJ0_charAt_5068e 7 = .ok (.aload_n 0, 1) := by decide +kernel
theorem dJ0_charAt_5068e_8 : decode cJ0_charAt_5068e 8 = .ok (.getfield 9, 3) := by decide +kernel
theorem dJ0_charAt_5068e_11 : decode cJ0_charAt_5068e 11 = .ok (.iload_n 1, 1) := by decide +kernel
theorem dJ0_charAt_5068e_12 : decode cJ0_charAt_5068e 12 = .ok (.invokestatic 495, 3) := by decide +kernel
theorem dJ0_charAt_5068e_15 : decode cJ0_charAt_5068e 15 = .ok (.ireturn, 1) := by decide +kernel
theorem dJ0_charAt_5068e_16 : decode cJ0_charAt_5068e 16 = .ok (.aload_n 0, 1) := by decide +kernel
theorem dJ0_charAt_5068e_17 : decode cJ0_charAt_5068e 17 = .ok (.getfield 9, 3) := by decide +kernel
theorem dJ0_charAt_5068e_20 : decode cJ0_charAt_5068e 20 = .ok (.iload_n 1, 1) := by decide +kernel
theorem dJ0_charAt_5068e_21 : decode cJ0_charAt_5068e 21 = .ok (.invokestatic 498, 3) := by decide +kernel
theorem dJ0_charAt_5068e_24 : decode cJ0_charAt_5068e 24 = .ok (.ireturn, 1) := by decide +kernel
theorem dJ0_coder_7d493_0 : decode cJ0_coder_7d493 0 = .ok (.getstatic 38, 3) := by decide +kernel
theorem dJ0_coder_7d493_3 : decode cJ0_coder_7d493 3 = .ok (.ifCond .eq 10, 3) := by decide +kernel
theorem dJ0_coder_7d493_6 : decode cJ0_coder_7d493 6 = .ok (.aload_n 0, 1) := by decide +kernel
theorem dJ0_coder_7d493_7 : decode cJ0_coder_7d493 7 = .ok (.getfield 15, 3) := by decide +kernel
theorem dJ0_coder_7d493_10 : decode cJ0_coder_7d493 10 = .ok (.goto 4, 3) := by decide +kernel
theorem dJ0_coder_7d493_13 : decode cJ0_coder_7d493 13 = .ok (.iconst 1, 1) := by decide +kernel
theorem dJ0_coder_7d493_14 : decode cJ0_coder_7d493 14 = .ok (.ireturn, 1) := by decide +kernel
theorem dJ0_isLatin1_aae02_0 : decode cJ0_isLatin1_aae02 0 = .ok (.getstatic 38, 3) := by decide +kernel
theorem dJ0_isLatin1_aae02_3 : decode cJ0_isLatin1_aae02 3 = .ok (.ifCond .eq 14, 3) := by decide +kernel
theorem dJ0_isLatin1_aae02_6 : decode cJ0_isLatin1_aae02 6 = .ok (.aload_n 0, 1) := by decide +kernel
theorem dJ0_isLatin1_aae02_7 : decode cJ0_isLatin1_aae02 7 = .ok (.getfield 15, 3) := by decide +kernel
theorem dJ0_isLatin1_aae02_10 : decode cJ0_isLatin1_aae02 10 = .ok (.ifCond .ne 7, 3) := by decide +kernel
theorem dJ0_isLatin1_aae02_13 : decode cJ0_isLatin1_aae02 13 = .ok (.iconst 1, 1) := by decide +kernel
theorem dJ0_isLatin1_aae02_14 : decode cJ0_isLatin1_aae02 14 = .ok (.goto 4, 3) := by decide +kernel
theorem dJ0_isLatin1_aae02_17 : decode cJ0_isLatin1_aae02 17 = .ok (.iconst 0, 1) := by decide +kernel
theorem dJ0_isLatin1_aae02_18 : decode cJ0_isLatin1_aae02 18 = .ok (.ireturn, 1) := by decide +kernel
theorem dJ0_checkIndex_df160_0 : decode cJ0_checkIndex_df160 0 = .ok (.iload_n 0, 1) := by decide +kernel
theorem dJ0_checkIndex_df160_1 : decode cJ0_checkIndex_df160 1 = .ok (.iload_n 1, 1) := by decide +kernel
theorem dJ0_checkIndex_df160_2 : decode cJ0_checkIndex_df160 2 = .ok (.getstatic 1053, 3) := by decide +kernel
theorem dJ0_checkIndex_df160_5 : decode cJ0_checkIndex_df160 5 = .ok (.invokestatic 1059, 3) := by decide +kernel
theorem dJ0_checkIndex_df160_8 : decode cJ0_checkIndex_df160 8 = .ok (.pop, 1) := by decide +kernel
theorem dJ0_checkIndex_df160_9 : decode cJ0_checkIndex_df160 9 = .ok (.return_, 1) := by decide +kernel
theorem dJ1_charAt_3b067_0 : decode cJ1_charAt_3b067 0 = .ok (.iload_n 1, 1) := by decide +kernel
theorem dJ1_charAt_3b067_1 : decode cJ1_charAt_3b067 1 = .ok (.aload_n 0, 1) := by decide +kernel
theorem dJ1_charAt_3b067_2 : decode cJ1_charAt_3b067 2 = .ok (.arraylength, 1) := by decide +kernel
theorem dJ1_charAt_3b067_3 : decode cJ1_charAt_3b067 3 = .ok (.invokestatic 9, 3) := by decide +kernel
theorem dJ1_charAt_3b067_6 : decode cJ1_charAt_3b067 6 = .ok (.aload_n 0, 1) := by decide +kernel
theorem dJ1_charAt_3b067_7 : decode cJ1_charAt_3b067 7 = .ok (.iload_n 1, 1) := by decide +kernel
theorem dJ1_charAt_3b067_8 : decode cJ1_charAt_3b067 8 = .ok (.baload, 1) := by decide +kernel
theorem dJ1_charAt_3b067_9 : decode cJ1_charAt_3b067 9 = .ok (.sipush 255, 3) := by decide +kernel
theorem dJ1_charAt_3b067_12 : decode cJ1_charAt_3b067 12 = .ok (.iand, 1) := by decide +kernel
theorem dJ1_charAt_3b067_13 : decode cJ1_charAt_3b067 13 = .ok (.i2c, 1) := by decide +kernel
theorem dJ1_charAt_3b067_14 : decode cJ1_charAt_3b067 14 = .ok (.ireturn, 1) := by decide +kernel
theorem dJ2_getChar_3b067_0 : decode cJ2_getChar_3b067 0 = .ok (.getstatic 44, 3) := by decide +kernel
theorem dJ2_getChar_3b067_3 : decode cJ2_getChar_3b067 3 = .ok (.ifCond .ne 25, 3) := by decide +kernel
theorem dJ2_getChar_3b067_6 : decode cJ2_getChar_3b067 6 = .ok (.iload_n 1, 1) := by decide +kernel
theorem dJ2_getChar_3b067_7 : decode cJ2_getChar_3b067 7 = .ok (.ifCond .lt 11, 3) := by decide +kernel
theorem dJ2_getChar_3b067_10 : decode cJ2_getChar_3b067 10 = .ok (.iload_n 1, 1) := by decide +kernel
theorem dJ2_getChar_3b067_11 : decode cJ2_getChar_3b067 11 = .ok (.aload_n 0, 1) := by decide +kernel
theorem dJ2_getChar_3b067_12 : decode cJ2_getChar_3b067 12 = .ok (.invokestatic 48, 3) := by decide +kernel
theorem dJ2_getChar_3b067_15 : decode cJ2_getChar_3b067 15 = .ok (.if_icmp .lt 13, 3) := by decide +kernel
theorem dJ2_getChar_3b067_18 : decode cJ2_getChar_3b067 18 = .ok (.new 52, 3) := by decide +kernel
theorem dJ2_getChar_3b067_21 : decode cJ2_getChar_3b067 21 = .ok (.dup, 1) := by decide +kernel
theorem dJ2_getChar_3b067_22 : decode cJ2_getChar_3b067 22 = .ok (.ldc 54, 2) := by decide +kernel
theorem dJ2_getChar_3b067_24 : decode cJ2_getChar_3b067 24 = .ok (.invokespecial 56, 3) := by decide +kernel
theorem dJ2_getChar_3b067_27 : decode cJ2_getChar_3b067 27 = .ok (.athrow, 1) := by decide +kernel
theorem dJ2_getChar_3b067_28 : decode cJ2_getChar_3b067 28 = .ok (.iload_n 1, 1) := by decide +kernel
theorem dJ2_getChar_3b067_29 : decode cJ2_getChar_3b067 29 = .ok (.iconst 1, 1) := by decide +kernel
theorem dJ2_getChar_3b067_30 : decode cJ2_getChar_3b067 30 = .ok (.ishl, 1) := by decide +kernel
theorem dJ2_getChar_3b067_31 : decode cJ2_getChar_3b067 31 = .ok (.istore_n 1, 1) := by decide +kernel
theorem dJ2_getChar_3b067_32 : decode cJ2_getChar_3b067 32 = .ok (.aload_n 0, 1) := by decide +kernel
theorem dJ2_getChar_3b067_33 : decode cJ2_getChar_3b067 33 = .ok (.iload_n 1, 1) := by decide +kernel
theorem dJ2_getChar_3b067_34 : decode cJ2_getChar_3b067 34 = .ok (.iinc 1 1, 3) := by decide +kernel
theorem dJ2_getChar_3b067_37 : decode cJ2_getChar_3b067 37 = .ok (.baload, 1) := by decide +kernel
theorem dJ2_getChar_3b067_38 : decode cJ2_getChar_3b067 38 = .ok (.sipush 255, 3) := by decide +kernel
theorem dJ2_getChar_3b067_41 : decode cJ2_getChar_3b067 41 = .ok (.iand, 1) := by decide +kernel
theorem dJ2_getChar_3b067_42 : decode cJ2_getChar_3b067 42 = .ok (.getstatic 59, 3) := by decide +kernel
theorem dJ2_getChar_3b067_45 : decode cJ2_getChar_3b067 45 = .ok (.ishl, 1) := by decide +kernel
theorem dJ2_getChar_3b067_46 : decode cJ2_getChar_3b067 46 = .ok (.aload_n 0, 1) := by decide +kernel
theorem dJ2_getChar_3b067_47 : decode cJ2_getChar_3b067 47 = .ok (.iload_n 1, 1) := by decide +kernel
theorem dJ2_getChar_3b067_48 : decode cJ2_getChar_3b067 48 = .ok (.baload, 1) := by decide +kernel
theorem dJ2_getChar_3b067_49 : decode cJ2_getChar_3b067 49 = .ok (.sipush 255, 3) := by decide +kernel
theorem dJ2_getChar_3b067_52 : decode cJ2_getChar_3b067 52 = .ok (.iand, 1) := by decide +kernel
theorem dJ2_getChar_3b067_53 : decode cJ2_getChar_3b067 53 = .ok (.getstatic 63, 3) := by decide +kernel
theorem dJ2_getChar_3b067_56 : decode cJ2_getChar_3b067 56 = .ok (.ishl, 1) := by decide +kernel
theorem dJ2_getChar_3b067_57 : decode cJ2_getChar_3b067 57 = .ok (.ior, 1) := by decide +kernel
theorem dJ2_getChar_3b067_58 : decode cJ2_getChar_3b067 58 = .ok (.i2c, 1) := by decide +kernel
theorem dJ2_getChar_3b067_59 : decode cJ2_getChar_3b067 59 = .ok (.ireturn, 1) := by decide +kernel
theorem dJ2_length_9d52b_0 : decode cJ2_length_9d52b 0 = .ok (.aload_n 0, 1) := by decide +kernel
theorem dJ2_length_9d52b_1 : decode cJ2_length_9d52b 1 = .ok (.arraylength, 1) := by decide +kernel
theorem dJ2_length_9d52b_2 : decode cJ2_length_9d52b 2 = .ok (.iconst 1, 1) := by decide +kernel
theorem dJ2_length_9d52b_3 : decode cJ2_length_9d52b 3 = .ok (.ishr, 1) := by decide +kernel
theorem dJ2_length_9d52b_4 : decode cJ2_length_9d52b 4 = .ok (.ireturn, 1) := by decide +kernel
theorem dJ2_charAt_3b067_0 : decode cJ2_charAt_3b067 0 = .ok (.iload_n 1, 1) := by decide +kernel
theorem dJ2_charAt_3b067_1 : decode cJ2_charAt_3b067 1 = .ok (.aload_n 0, 1) := by decide +kernel
theorem dJ2_charAt_3b067_2 : decode cJ2_charAt_3b067 2 = .ok (.invokestatic 67, 3) := by decide +kernel
theorem dJ2_charAt_3b067_5 : decode cJ2_charAt_3b067 5 = .ok (.aload_n 0, 1) := by decide +kernel
theorem dJ2_charAt_3b067_6 : decode cJ2_charAt_3b067 6 = .ok (.iload_n 1, 1) := by decide +kernel
theorem dJ2_charAt_3b067_7 : decode cJ2_charAt_3b067 7 = .ok (.invokestatic 71, 3) := by decide +kernel
theorem dJ2_charAt_3b067_10 : decode cJ2_charAt_3b067 10 = .ok (.ireturn, 1) := by decide +kernel
theorem dJ2_checkIndex_2214a_0 : decode cJ2_checkIndex_2214a 0 = .ok (.iload_n 0, 1) := by decide +kernel
theorem dJ2_checkIndex_2214a_1 : decode cJ2_checkIndex_2214a 1 = .ok (.aload_n 1, 1) := by decide +kernel
theorem dJ2_checkIndex_2214a_2 : decode cJ2_checkIndex_2214a 2 = .ok (.invokestatic 48, 3) := by decide +kernel
theorem dJ2_checkIndex_2214a_5 : decode cJ2_checkIndex_2214a 5 = .ok (.invokestatic 414, 3) := by decide +kernel
theorem dJ2_checkIndex_2214a_8 : decode cJ2_checkIndex_2214a 8 = .ok (.return_, 1) := by decide +kernel
theorem dJ3_checkIndex_8e157_0 : decode cJ3_checkIndex_8e157 0 = .ok (.iload_n 0, 1) := by decide +kernel
theorem dJ3_checkIndex_8e157_1 : decode cJ3_checkIndex_8e157 1 = .ok (.ifCond .lt 8, 3) := by decide +kernel
theorem dJ3_checkIndex_8e157_4 : decode cJ3_checkIndex_8e157 4 = .ok (.iload_n 0, 1) := by decide +kernel
theorem dJ3_checkIndex_8e157_5 : decode cJ3_checkIndex_8e157 5 = .ok (.iload_n 1, 1) := by decide +kernel
theorem dJ3_checkIndex_8e157_6 : decode cJ3_checkIndex_8e157 6 = .ok (.if_icmp .lt 10, 3) := by decide +kernel
theorem dJ3_checkIndex_8e157_9 : decode cJ3_checkIndex_8e157 9 = .ok (.aload_n 2, 1) := by decide +kernel
theorem dJ3_checkIndex_8e157_10 : decode cJ3_checkIndex_8e157 10 = .ok (.iload_n 0, 1) := by decide +kernel
theorem dJ3_checkIndex_8e157_11 : decode cJ3_checkIndex_8e157 11 = .ok (.iload_n 1, 1) := by decide +kernel
theorem dJ3_checkIndex_8e157_12 : decode cJ3_checkIndex_8e157 12 = .ok (.invokestatic 95, 3) := by decide +kernel
theorem dJ3_checkIndex_8e157_15 : decode cJ3_checkIndex_8e157 15 = .ok (.athrow, 1) := by decide +kernel
theorem dJ3_checkIndex_8e157_16 : decode cJ3_checkIndex_8e157 16 = .ok (.iload_n 0, 1) := by decide +kernel
theorem dJ3_checkIndex_8e157_17 : decode cJ3_checkIndex_8e157 17 = .ok (.ireturn, 1) := by decide +kernel
theorem dL_law_0 : decode cL_law 0 = .ok (.new 7, 3) := by decide +kernel
theorem dL_law_3 : decode cL_law 3 = .ok (.dup, 1) := by decide +kernel
theorem dL_law_4 : decode cL_law 4 = .ok (.invokespecial 9, 3) := by decide +kernel
theorem dL_law_7 : decode cL_law 7 = .ok (.astore_n 1, 1) := by decide +kernel
theorem dL_law_8 : decode cL_law 8 = .ok (.new 10, 3) := by decide +kernel
theorem dL_law_11 : decode cL_law 11 = .ok (.dup, 1) := by decide +kernel
theorem dL_law_12 : decode cL_law 12 = .ok (.invokespecial 12, 3) := by decide +kernel
theorem dL_law_15 : decode cL_law 15 = .ok (.astore_n 2, 1) := by decide +kernel
theorem dL_law_16 : decode cL_law 16 = .ok (.iconst 0, 1) := by decide +kernel
theorem dL_law_17 : decode cL_law 17 = .ok (.istore_n 3, 1) := by decide +kernel
theorem dL_law_18 : decode cL_law 18 = .ok (.iload_n 3, 1) := by decide +kernel
theorem dL_law_19 : decode cL_law 19 = .ok (.aload_n 0, 1) := by decide +kernel
theorem dL_law_20 : decode cL_law 20 = .ok (.arraylength, 1) := by decide +kernel
theorem dL_law_21 : decode cL_law 21 = .ok (.bipush 6, 2) := by decide +kernel
theorem dL_law_23 : decode cL_law 23 = .ok (.isub, 1) := by decide +kernel
theorem dL_law_24 : decode cL_law 24 = .ok (.if_icmp .gt 1525, 3) := by decide +kernel
theorem dL_law_27 : decode cL_law 27 = .ok (.aload_n 0, 1) := by decide +kernel
theorem dL_law_28 : decode cL_law 28 = .ok (.iload_n 3, 1) := by decide +kernel
theorem dL_law_29 : decode cL_law 29 = .ok (.iaload, 1) := by decide +kernel
theorem dL_law_30 : decode cL_law 30 = .ok (.bipush 63, 2) := by decide +kernel
theorem dL_law_32 : decode cL_law 32 = .ok (.iand, 1) := by decide +kernel
theorem dL_law_33 : decode cL_law 33 = .ok (.tableswitch 1510 0 41 #[183, 226, 299, 362, 396, 429, 452, 485, 518, 581, 614, 647, 690, 723, 746, 759, 802, 835, 878, 891, 924, 937, 970, 1003, 1026, 1059, 1072, 1105, 1138, 1161, 1184, 1197, 1230, 1263, 1306, 1349, 1372, 1395, 1438, 1461, 1474, 1487], 183) := by decide +kernel
theorem dL_law_216 : decode cL_law 216 = .ok (.aload_n 1, 1) := by decide +kernel
theorem dL_law_217 : decode cL_law 217 = .ok (.aload_n 0, 1) := by decide +kernel
theorem dL_law_218 : decode cL_law 218 = .ok (.iload_n 3, 1) := by decide +kernel
theorem dL_law_219 : decode cL_law 219 = .ok (.iconst 1, 1) := by decide +kernel
theorem dL_law_220 : decode cL_law 220 = .ok (.iadd, 1) := by decide +kernel
theorem dL_law_221 : decode cL_law 221 = .ok (.iaload, 1) := by decide +kernel
theorem dL_law_222 : decode cL_law 222 = .ok (.aload_n 0, 1) := by decide +kernel
theorem dL_law_223 : decode cL_law 223 = .ok (.iload_n 3, 1) := by decide +kernel
theorem dL_law_224 : decode cL_law 224 = .ok (.iconst 2, 1) := by decide +kernel
theorem dL_law_225 : decode cL_law 225 = .ok (.iadd, 1) := by decide +kernel
theorem dL_law_226 : decode cL_law 226 = .ok (.iaload, 1) := by decide +kernel
theorem dL_law_227 : decode cL_law 227 = .ok (.aload_n 0, 1) := by decide +kernel
theorem dL_law_228 : decode cL_law 228 = .ok (.iload_n 3, 1) := by decide +kernel
theorem dL_law_229 : decode cL_law 229 = .ok (.iconst 3, 1) := by decide +kernel
theorem dL_law_230 : decode cL_law 230 = .ok (.iadd, 1) := by decide +kernel
theorem dL_law_231 : decode cL_law 231 = .ok (.iaload, 1) := by decide +kernel
theorem dL_law_232 : decode cL_law 232 = .ok (.invokevirtual 13, 3) := by decide +kernel
theorem dL_law_235 : decode cL_law 235 = .ok (.aload_n 2, 1) := by decide +kernel
theorem dL_law_236 : decode cL_law 236 = .ok (.aload_n 0, 1) := by decide +kernel
theorem dL_law_237 : decode cL_law 237 = .ok (.iload_n 3, 1) := by decide +kernel
theorem dL_law_238 : decode cL_law 238 = .ok (.iconst 1, 1) := by decide +kernel
theorem dL_law_239 : decode cL_law 239 = .ok (.iadd, 1) := by decide +kernel
theorem dL_law_240 : decode cL_law 240 = .ok (.iaload, 1) := by decide +kernel
theorem dL_law_241 : decode cL_law 241 = .ok (.aload_n 0, 1) := by decide +kernel
theorem dL_law_242 : decode cL_law 242 = .ok (.iload_n 3, 1) := by decide +kernel
theorem dL_law_243 : decode cL_law 243 = .ok (.iconst 2, 1) := by decide +kernel
theorem dL_law_244 : decode cL_law 244 = .ok (.iadd, 1) := by decide +kernel
theorem dL_law_245 : decode cL_law 245 = .ok (.iaload, 1) := by decide +kernel
theorem dL_law_246 : decode cL_law 246 = .ok (.aload_n 0, 1) := by decide +kernel
theorem dL_law_247 : decode cL_law 247 = .ok (.iload_n 3, 1) := by decide +kernel
theorem dL_law_248 : decode cL_law 248 = .ok (.iconst 3, 1) := by decide +kernel
theorem dL_law_249 : decode cL_law 249 = .ok (.iadd, 1) := by decide +kernel
theorem dL_law_250 : decode cL_law 250 = .ok (.iaload, 1) := by decide +kernel
theorem dL_law_251 : decode cL_law 251 = .ok (.invokevirtual 17, 3) := by decide +kernel
theorem dL_law_254 : decode cL_law 254 = .ok (.if_icmp .eq 1289, 3) := by decide +kernel
theorem dL_law_257 : decode cL_law 257 = .ok (.iconst 0, 1) := by decide +kernel
theorem dL_law_258 : decode cL_law 258 = .ok (.ireturn, 1) := by decide +kernel
theorem dL_law_259 : decode cL_law 259 = .ok (.aload_n 1, 1) := by decide +kernel
theorem dL_law_260 : decode cL_law 260 = .ok (.aload_n 0, 1) := by decide +kernel
theorem dL_law_261 : decode cL_law 261 = .ok (.iload_n 3, 1) := by decide +kernel
theorem dL_law_262 : decode cL_law 262 = .ok (.iconst 1, 1) := by decide +kernel
theorem dL_law_263 : decode cL_law 263 = .ok (.iadd, 1) := by decide +kernel
theorem dL_law_264 : decode cL_law 264 = .ok (.iaload, 1) := by decide +kernel
theorem dL_law_265 : decode cL_law 265 = .ok (.aload_n 0, 1) := by decide +kernel
theorem dL_law_266 : decode cL_law 266 = .ok (.iload_n 3, 1) := by decide +kernel
theorem dL_law_267 : decode cL_law 267 = .ok (.iconst 2, 1) := by decide +kernel
theorem dL_law_268 : decode cL_law 268 = .ok (.iadd, 1) := by decide +kernel
theorem dL_law_269 : decode cL_law 269 = .ok (.iaload, 1) := by decide +kernel
theorem dL_law_270 : decode cL_law 270 = .ok (.aload_n 0, 1) := by decide +kernel
theorem dL_law_271 : decode cL_law 271 = .ok (.iload_n 3, 1) := by decide +kernel
theorem dL_law_272 : decode cL_law 272 = .ok (.iconst 3, 1) := by decide +kernel
theorem dL_law_273 : decode cL_law 273 = .ok (.iadd, 1) := by decide +kernel
theorem dL_law_274 : decode cL_law 274 = .ok (.iaload, 1) := by decide +kernel
theorem dL_law_275 : decode cL_law 275 = .ok (.i2l, 1) := by decide +kernel
theorem dL_law_276 : decode cL_law 276 = .ok (.bipush 32, 2) := by decide +kernel
theorem dL_law_278 : decode cL_law 278 = .ok (.lshl, 1) := by decide +kernel
theorem dL_law_279 : decode cL_law 279 = .ok (.aload_n 0, 1) := by decide +kernel
theorem dL_law_280 : decode cL_law 280 = .ok (.iload_n 3, 1) := by decide +kernel
theorem dL_law_281 : decode cL_law 281 = .ok (.iconst 4, 1) := by decide +kernel
theorem dL_law_282 : decode cL_law 282 = .ok (.iadd, 1) := by decide +kernel
theorem dL_law_283 : decode cL_law 283 = .ok (.iaload, 1) := by decide +kernel
theorem dL_law_284 : decode cL_law 284 = .ok (.i2l, 1) := by decide +kernel
theorem dL_law_285 : decode cL_law 285 = .ok (.ldc2_w 18, 3) := by decide +kernel
theorem dL_law_288 : decode cL_law 288 = .ok (.land, 1) := by decide +kernel
theorem dL_law_289 : decode cL_law 289 = .ok (.lor, 1) := by decide +kernel
theorem dL_law_290 : decode cL_law 290 = .ok (.invokevirtual 20, 3) := by decide +kernel
theorem dL_law_293 : decode cL_law 293 = .ok (.aload_n 2, 1) := by decide +kernel
theorem dL_law_294 : decode cL_law 294 = .ok (.aload_n 0, 1) := by decide +kernel
theorem dL_law_295 : decode cL_law 295 = .ok (.iload_n 3, 1) := by decide +kernel
theorem dL_law_296 : decode cL_law 296 = .ok (.iconst 1, 1) := by decide +kernel
theorem dL_law_297 : decode cL_law 297 = .ok (.iadd, 1) := by decide +kernel
theorem dL_law_298 : decode cL_law 298 = .ok (.iaload, 1) := by decide +kernel
theorem dL_law_299 : decode cL_law 299 = .ok (.aload_n 0, 1) := by decide +kernel
theorem dL_law_300 : decode cL_law 300 = .ok (.iload_n 3, 1) := by decide +kernel
