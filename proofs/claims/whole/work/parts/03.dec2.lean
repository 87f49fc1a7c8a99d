theorem dX9_allPlaces_0 : decode cX9_allPlaces 0 = .ok (.iconst 1, 1) := by decide +kernel
theorem dX9_allPlaces_1 : decode cX9_allPlaces 1 = .ok (.aload_n 0, 1) := by decide +kernel
theorem dX9_allPlaces_2 : decode cX9_allPlaces 2 = .ok (.getfield 151, 3) := by decide +kernel
theorem dX9_allPlaces_5 : decode cX9_allPlaces 5 = .ok (.ishl, 1) := by decide +kernel
theorem dX9_allPlaces_6 : decode cX9_allPlaces 6 = .ok (.iconst 1, 1) := by decide +kernel
theorem dX9_allPlaces_7 : decode cX9_allPlaces 7 = .ok (.isub, 1) := by decide +kernel
theorem dX9_allPlaces_8 : decode cX9_allPlaces 8 = .ok (.ireturn, 1) := by decide +kernel
theorem dX9_hidden_0 : decode cX9_hidden 0 = .ok (.aload_n 0, 1) := by decide +kernel
theorem dX9_hidden_1 : decode cX9_hidden 1 = .ok (.invokevirtual 157, 3) := by decide +kernel
theorem dX9_hidden_4 : decode cX9_hidden 4 = .ok (.ifCond .ne 10, 3) := by decide +kernel
theorem dX9_hidden_7 : decode cX9_hidden 7 = .ok (.aload_n 0, 1) := by decide +kernel
theorem dX9_hidden_8 : decode cX9_hidden 8 = .ok (.bipush (-3), 2) := by decide +kernel
theorem dX9_hidden_10 : decode cX9_hidden 10 = .ok (.invokevirtual 54, 3) := by decide +kernel
theorem dX9_hidden_13 : decode cX9_hidden 13 = .ok (.ireturn, 1) := by decide +kernel
theorem dX9_hidden_14 : decode cX9_hidden 14 = .ok (.iload_n 1, 1) := by decide +kernel
theorem dX9_hidden_15 : decode cX9_hidden 15 = .ok (.iconst 0, 1) := by decide +kernel
theorem dX9_hidden_16 : decode cX9_hidden 16 = .ok (.aload_n 0, 1) := by decide +kernel
theorem dX9_hidden_17 : decode cX9_hidden 17 = .ok (.getfield 151, 3) := by decide +kernel
theorem dX9_hidden_20 : decode cX9_hidden 20 = .ok (.iconst 1, 1) := by decide +kernel
theorem dX9_hidden_21 : decode cX9_hidden 21 = .ok (.isub, 1) := by decide +kernel
theorem dX9_hidden_22 : decode cX9_hidden 22 = .ok (.invokestatic 50, 3) := by decide +kernel
theorem dX9_hidden_25 : decode cX9_hidden 25 = .ok (.ifCond .eq 15, 3) := by decide +kernel
theorem dX9_hidden_28 : decode cX9_hidden 28 = .ok (.iload_n 2, 1) := by decide +kernel
theorem dX9_hidden_29 : decode cX9_hidden 29 = .ok (.iconst 0, 1) := by decide +kernel
theorem dX9_hidden_30 : decode cX9_hidden 30 = .ok (.aload_n 0, 1) := by decide +kernel
theorem dX9_hidden_31 : decode cX9_hidden 31 = .ok (.invokevirtual 164, 3) := by decide +kernel
theorem dX9_hidden_34 : decode cX9_hidden 34 = .ok (.invokestatic 50, 3) := by decide +kernel
theorem dX9_hidden_37 : decode cX9_hidden 37 = .ok (.ifCond .ne 10, 3) := by decide +kernel
theorem dX9_hidden_40 : decode cX9_hidden 40 = .ok (.aload_n 0, 1) := by decide +kernel
theorem dX9_hidden_41 : decode cX9_hidden 41 = .ok (.bipush (-2), 2) := by decide +kernel
theorem dX9_hidden_43 : decode cX9_hidden 43 = .ok (.invokevirtual 54, 3) := by decide +kernel
theorem dX9_hidden_46 : decode cX9_hidden 46 = .ok (.ireturn, 1) := by decide +kernel
theorem dX9_hidden_47 : decode cX9_hidden 47 = .ok (.aload_n 0, 1) := by decide +kernel
theorem dX9_hidden_48 : decode cX9_hidden 48 = .ok (.iload_n 1, 1) := by decide +kernel
theorem dX9_hidden_49 : decode cX9_hidden 49 = .ok (.iload_n 2, 1) := by decide +kernel
theorem dX9_hidden_50 : decode cX9_hidden 50 = .ok (.invokevirtual 167, 3) := by decide +kernel
theorem dX9_hidden_53 : decode cX9_hidden 53 = .ok (.ifCond .eq 7, 3) := by decide +kernel
theorem dX9_hidden_56 : decode cX9_hidden 56 = .ok (.iconst 1, 1) := by decide +kernel
theorem dX9_hidden_57 : decode cX9_hidden 57 = .ok (.goto 4, 3) := by decide +kernel
theorem dX9_hidden_60 : decode cX9_hidden 60 = .ok (.iconst 0, 1) := by decide +kernel
theorem dX9_hidden_61 : decode cX9_hidden 61 = .ok (.ireturn, 1) := by decide +kernel
theorem dX9_unheard_0 : decode cX9_unheard 0 = .ok (.aload_n 0, 1) := by decide +kernel
theorem dX9_unheard_1 : decode cX9_unheard 1 = .ok (.invokevirtual 157, 3) := by decide +kernel
theorem dX9_unheard_4 : decode cX9_unheard 4 = .ok (.ifCond .ne 10, 3) := by decide +kernel
theorem dX9_unheard_7 : decode cX9_unheard 7 = .ok (.aload_n 0, 1) := by decide +kernel
theorem dX9_unheard_8 : decode cX9_unheard 8 = .ok (.bipush (-3), 2) := by decide +kernel
theorem dX9_unheard_10 : decode cX9_unheard 10 = .ok (.invokevirtual 54, 3) := by decide +kernel
theorem dX9_unheard_13 : decode cX9_unheard 13 = .ok (.ireturn, 1) := by decide +kernel
theorem dX9_unheard_14 : decode cX9_unheard 14 = .ok (.iconst 0, 1) := by decide +kernel
theorem dX9_unheard_15 : decode cX9_unheard 15 = .ok (.istore_n 1, 1) := by decide +kernel
theorem dX9_unheard_16 : decode cX9_unheard 16 = .ok (.iconst 0, 1) := by decide +kernel
theorem dX9_unheard_17 : decode cX9_unheard 17 = .ok (.istore_n 2, 1) := by decide +kernel
theorem dX9_unheard_18 : decode cX9_unheard 18 = .ok (.iload_n 2, 1) := by decide +kernel
theorem dX9_unheard_19 : decode cX9_unheard 19 = .ok (.aload_n 0, 1) := by decide +kernel
theorem dX9_unheard_20 : decode cX9_unheard 20 = .ok (.getfield 151, 3) := by decide +kernel
theorem dX9_unheard_23 : decode cX9_unheard 23 = .ok (.if_icmp .ge 31, 3) := by decide +kernel
theorem dX9_unheard_26 : decode cX9_unheard 26 = .ok (.iload_n 1, 1) := by decide +kernel
theorem dX9_unheard_27 : decode cX9_unheard 27 = .ok (.aload_n 0, 1) := by decide +kernel
theorem dX9_unheard_28 : decode cX9_unheard 28 = .ok (.iload_n 2, 1) := by decide +kernel
theorem dX9_unheard_29 : decode cX9_unheard 29 = .ok (.aload_n 0, 1) := by decide +kernel
theorem dX9_unheard_30 : decode cX9_unheard 30 = .ok (.invokevirtual 164, 3) := by decide +kernel
theorem dX9_unheard_33 : decode cX9_unheard 33 = .ok (.invokevirtual 167, 3) := by decide +kernel
theorem dX9_unheard_36 : decode cX9_unheard 36 = .ok (.ifCond .eq 9, 3) := by decide +kernel
theorem dX9_unheard_39 : decode cX9_unheard 39 = .ok (.iconst 1, 1) := by decide +kernel
theorem dX9_unheard_40 : decode cX9_unheard 40 = .ok (.iload_n 2, 1) := by decide +kernel
theorem dX9_unheard_41 : decode cX9_unheard 41 = .ok (.ishl, 1) := by decide +kernel
theorem dX9_unheard_42 : decode cX9_unheard 42 = .ok (.goto 4, 3) := by decide +kernel
theorem dX9_unheard_45 : decode cX9_unheard 45 = .ok (.iconst 0, 1) := by decide +kernel
theorem dX9_unheard_46 : decode cX9_unheard 46 = .ok (.ior, 1) := by decide +kernel
theorem dX9_unheard_47 : decode cX9_unheard 47 = .ok (.istore_n 1, 1) := by decide +kernel
theorem dX9_unheard_48 : decode cX9_unheard 48 = .ok (.iinc 2 1, 3) := by decide +kernel
theorem dX9_unheard_51 : decode cX9_unheard 51 = .ok (.goto (-33), 3) := by decide +kernel
theorem dX9_unheard_54 : decode cX9_unheard 54 = .ok (.iload_n 1, 1) := by decide +kernel
theorem dX9_unheard_55 : decode cX9_unheard 55 = .ok (.ireturn, 1) := by decide +kernel
theorem dX9_kept_0 : decode cX9_kept 0 = .ok (.aload_n 0, 1) := by decide +kernel
theorem dX9_kept_1 : decode cX9_kept 1 = .ok (.invokevirtual 157, 3) := by decide +kernel
theorem dX9_kept_4 : decode cX9_kept 4 = .ok (.ifCond .ne 10, 3) := by decide +kernel
theorem dX9_kept_7 : decode cX9_kept 7 = .ok (.aload_n 0, 1) := by decide +kernel
theorem dX9_kept_8 : decode cX9_kept 8 = .ok (.bipush (-3), 2) := by decide +kernel
theorem dX9_kept_10 : decode cX9_kept 10 = .ok (.invokevirtual 54, 3) := by decide +kernel
theorem dX9_kept_13 : decode cX9_kept 13 = .ok (.ireturn, 1) := by decide +kernel
theorem dX9_kept_14 : decode cX9_kept 14 = .ok (.aload_n 0, 1) := by decide +kernel
theorem dX9_kept_15 : decode cX9_kept 15 = .ok (.invokevirtual 164, 3) := by decide +kernel
theorem dX9_kept_18 : decode cX9_kept 18 = .ok (.istore_n 1, 1) := by decide +kernel
theorem dX9_kept_19 : decode cX9_kept 19 = .ok (.iconst 0, 1) := by decide +kernel
theorem dX9_kept_20 : decode cX9_kept 20 = .ok (.istore_n 2, 1) := by decide +kernel
theorem dX9_kept_21 : decode cX9_kept 21 = .ok (.iload_n 2, 1) := by decide +kernel
theorem dX9_kept_22 : decode cX9_kept 22 = .ok (.aload_n 0, 1) := by decide +kernel
theorem dX9_kept_23 : decode cX9_kept 23 = .ok (.invokevirtual 164, 3) := by decide +kernel
theorem dX9_kept_26 : decode cX9_kept 26 = .ok (.if_icmp .gt 84, 3) := by decide +kernel
theorem dX9_kept_29 : decode cX9_kept 29 = .ok (.iload_n 2, 1) := by decide +kernel
theorem dX9_kept_30 : decode cX9_kept 30 = .ok (.invokestatic 116, 3) := by decide +kernel
theorem dX9_kept_33 : decode cX9_kept 33 = .ok (.iload_n 1, 1) := by decide +kernel
theorem dX9_kept_34 : decode cX9_kept 34 = .ok (.invokestatic 116, 3) := by decide +kernel
theorem dX9_kept_37 : decode cX9_kept 37 = .ok (.if_icmp .ge 7, 3) := by decide +kernel
theorem dX9_kept_40 : decode cX9_kept 40 = .ok (.iconst 1, 1) := by decide +kernel
theorem dX9_kept_41 : decode cX9_kept 41 = .ok (.goto 4, 3) := by decide +kernel
theorem dX9_kept_44 : decode cX9_kept 44 = .ok (.iconst 0, 1) := by decide +kernel
theorem dX9_kept_45 : decode cX9_kept 45 = .ok (.istore_n 3, 1) := by decide +kernel
theorem dX9_kept_46 : decode cX9_kept 46 = .ok (.iconst 0, 1) := by decide +kernel
theorem dX9_kept_47 : decode cX9_kept 47 = .ok (.istore 4, 2) := by decide +kernel
theorem dX9_kept_49 : decode cX9_kept 49 = .ok (.iload 4, 2) := by decide +kernel
theorem dX9_kept_51 : decode cX9_kept 51 = .ok (.aload_n 0, 1) := by decide +kernel
theorem dX9_kept_52 : decode cX9_kept 52 = .ok (.getfield 151, 3) := by decide +kernel
theorem dX9_kept_55 : decode cX9_kept 55 = .ok (.if_icmp .ge 39, 3) := by decide +kernel
theorem dX9_kept_58 : decode cX9_kept 58 = .ok (.iload_n 3, 1) := by decide +kernel
theorem dX9_kept_59 : decode cX9_kept 59 = .ok (.ifCond .eq 35, 3) := by decide +kernel
theorem dX9_kept_62 : decode cX9_kept 62 = .ok (.iload_n 2, 1) := by decide +kernel
theorem dX9_kept_63 : decode cX9_kept 63 = .ok (.iload 4, 2) := by decide +kernel
theorem dX9_kept_65 : decode cX9_kept 65 = .ok (.ishr, 1) := by decide +kernel
theorem dX9_kept_66 : decode cX9_kept 66 = .ok (.iconst 1, 1) := by decide +kernel
theorem dX9_kept_67 : decode cX9_kept 67 = .ok (.iand, 1) := by decide +kernel
theorem dX9_kept_68 : decode cX9_kept 68 = .ok (.iconst 1, 1) := by decide +kernel
theorem dX9_kept_69 : decode cX9_kept 69 = .ok (.if_icmp .eq 13, 3) := by decide +kernel
theorem dX9_kept_72 : decode cX9_kept 72 = .ok (.aload_n 0, 1) := by decide +kernel
theorem dX9_kept_73 : decode cX9_kept 73 = .ok (.iload 4, 2) := by decide +kernel
theorem dX9_kept_75 : decode cX9_kept 75 = .ok (.iload_n 2, 1) := by decide +kernel
theorem dX9_kept_76 : decode cX9_kept 76 = .ok (.invokevirtual 167, 3) := by decide +kernel
theorem dX9_kept_79 : decode cX9_kept 79 = .ok (.ifCond .eq 7, 3) := by decide +kernel
theorem dX9_kept_82 : decode cX9_kept 82 = .ok (.iconst 1, 1) := by decide +kernel
theorem dX9_kept_83 : decode cX9_kept 83 = .ok (.goto 4, 3) := by decide +kernel
theorem dX9_kept_86 : decode cX9_kept 86 = .ok (.iconst 0, 1) := by decide +kernel
theorem dX9_kept_87 : decode cX9_kept 87 = .ok (.istore_n 3, 1) := by decide +kernel
theorem dX9_kept_88 : decode cX9_kept 88 = .ok (.iinc 4 1, 3) := by decide +kernel
theorem dX9_kept_91 : decode cX9_kept 91 = .ok (.goto (-42), 3) := by decide +kernel
theorem dX9_kept_94 : decode cX9_kept 94 = .ok (.iload_n 3, 1) := by decide +kernel
theorem dX9_kept_95 : decode cX9_kept 95 = .ok (.ifCond .eq 7, 3) := by decide +kernel
theorem dX9_kept_98 : decode cX9_kept 98 = .ok (.iload_n 2, 1) := by decide +kernel
theorem dX9_kept_99 : decode cX9_kept 99 = .ok (.goto 4, 3) := by decide +kernel
theorem dX9_kept_102 : decode cX9_kept 102 = .ok (.iload_n 1, 1) := by decide +kernel
theorem dX9_kept_103 : decode cX9_kept 103 = .ok (.istore_n 1, 1) := by decide +kernel
theorem dX9_kept_104 : decode cX9_kept 104 = .ok (.iinc 2 1, 3) := by decide +kernel
theorem dX9_kept_107 : decode cX9_kept 107 = .ok (.goto (-86), 3) := by decide +kernel
theorem dX9_kept_110 : decode cX9_kept 110 = .ok (.iload_n 1, 1) := by decide +kernel
theorem dX9_kept_111 : decode cX9_kept 111 = .ok (.ireturn, 1) := by decide +kernel
theorem dX9_change_0 : decode cX9_change 0 = .ok (.aload_n 0, 1) := by decide +kernel
theorem dX9_change_1 : decode cX9_change 1 = .ok (.getfield 32, 3) := by decide +kernel
theorem dX9_change_4 : decode cX9_change 4 = .ok (.iload_n 1, 1) := by decide +kernel
theorem dX9_change_5 : decode cX9_change 5 = .ok (.iaload, 1) := by decide +kernel
theorem dX9_change_6 : decode cX9_change 6 = .ok (.aload_n 0, 1) := by decide +kernel
theorem dX9_change_7 : decode cX9_change 7 = .ok (.getfield 32, 3) := by decide +kernel
theorem dX9_change_10 : decode cX9_change 10 = .ok (.iload_n 2, 1) := by decide +kernel
theorem dX9_change_11 : decode cX9_change 11 = .ok (.iaload, 1) := by decide +kernel
theorem dX9_change_12 : decode cX9_change 12 = .ok (.if_icmp .ne 7, 3) := by decide +kernel
theorem dX9_change_15 : decode cX9_change 15 = .ok (.iconst 0, 1) := by decide +kernel
theorem dX9_change_16 : decode cX9_change 16 = .ok (.goto 11, 3) := by decide +kernel
theorem dX9_change_19 : decode cX9_change 19 = .ok (.aload_n 0, 1) := by decide +kernel
theorem dX9_change_20 : decode cX9_change 20 = .ok (.getfield 7, 3) := by decide +kernel
theorem dX9_change_23 : decode cX9_change 23 = .ok (.sipush 130, 3) := by decide +kernel
theorem dX9_change_26 : decode cX9_change 26 = .ok (.iaload, 1) := by decide +kernel
theorem dX9_change_27 : decode cX9_change 27 = .ok (.aload_n 0, 1) := by decide +kernel
theorem dX9_change_28 : decode cX9_change 28 = .ok (.getfield 35, 3) := by decide +kernel
theorem dX9_change_31 : decode cX9_change 31 = .ok (.iload_n 1, 1) := by decide +kernel
theorem dX9_change_32 : decode cX9_change 32 = .ok (.iaload, 1) := by decide +kernel
theorem dX9_change_33 : decode cX9_change 33 = .ok (.aload_n 0, 1) := by decide +kernel
theorem dX9_change_34 : decode cX9_change 34 = .ok (.getfield 35, 3) := by decide +kernel
theorem dX9_change_37 : decode cX9_change 37 = .ok (.iload_n 2, 1) := by decide +kernel
theorem dX9_change_38 : decode cX9_change 38 = .ok (.iaload, 1) := by decide +kernel
theorem dX9_change_39 : decode cX9_change 39 = .ok (.if_icmp .ne 7, 3) := by decide +kernel
theorem dX9_change_42 : decode cX9_change 42 = .ok (.iconst 0, 1) := by decide +kernel
theorem dX9_change_43 : decode cX9_change 43 = .ok (.goto 11, 3) := by decide +kernel
theorem dX9_change_46 : decode cX9_change 46 = .ok (.aload_n 0, 1) := by decide +kernel
theorem dX9_change_47 : decode cX9_change 47 = .ok (.getfield 7, 3) := by decide +kernel
theorem dX9_change_50 : decode cX9_change 50 = .ok (.sipush 131, 3) := by decide +kernel
theorem dX9_change_53 : decode cX9_change 53 = .ok (.iaload, 1) := by decide +kernel
theorem dX9_change_54 : decode cX9_change 54 = .ok (.iadd, 1) := by decide +kernel
theorem dX9_change_55 : decode cX9_change 55 = .ok (.ireturn, 1) := by decide +kernel
theorem dX9_findLeast_0 : decode cX9_findLeast 0 = .ok (.iconst 0, 1) := by decide +kernel
theorem dX9_findLeast_1 : decode cX9_findLeast 1 = .ok (.istore_n 1, 1) := by decide +kernel
theorem dX9_findLeast_2 : decode cX9_findLeast 2 = .ok (.iload_n 1, 1) := by decide +kernel
theorem dX9_findLeast_3 : decode cX9_findLeast 3 = .ok (.aload_n 0, 1) := by decide +kernel
theorem dX9_findLeast_4 : decode cX9_findLeast 4 = .ok (.invokevirtual 164, 3) := by decide +kernel
theorem dX9_findLeast_7 : decode cX9_findLeast 7 = .ok (.if_icmp .gt 118, 3) := by decide +kernel
theorem dX9_findLeast_10 : decode cX9_findLeast 10 = .ok (.iconst 0, 1) := by decide +kernel
theorem dX9_findLeast_11 : decode cX9_findLeast 11 = .ok (.istore_n 2, 1) := by decide +kernel
theorem dX9_findLeast_12 : decode cX9_findLeast 12 = .ok (.iload_n 2, 1) := by decide +kernel
theorem dX9_findLeast_13 : decode cX9_findLeast 13 = .ok (.aload_n 0, 1) := by decide +kernel
theorem dX9_findLeast_14 : decode cX9_findLeast 14 = .ok (.getfield 151, 3) := by decide +kernel
theorem dX9_findLeast_17 : decode cX9_findLeast 17 = .ok (.if_icmp .ge 102, 3) := by decide +kernel
theorem dX9_findLeast_20 : decode cX9_findLeast 20 = .ok (.iload_n 1, 1) := by decide +kernel
theorem dX9_findLeast_21 : decode cX9_findLeast 21 = .ok (.ifCond .ne 7, 3) := by decide +kernel
theorem dX9_findLeast_24 : decode cX9_findLeast 24 = .ok (.iconst 0, 1) := by decide +kernel
theorem dX9_findLeast_25 : decode cX9_findLeast 25 = .ok (.goto 5, 3) := by decide +kernel
theorem dX9_findLeast_28 : decode cX9_findLeast 28 = .ok (.ldc 171, 2) := by decide +kernel
theorem dX9_findLeast_30 : decode cX9_findLeast 30 = .ok (.istore_n 3, 1) := by decide +kernel
theorem dX9_findLeast_31 : decode cX9_findLeast 31 = .ok (.iconst 0, 1) := by decide +kernel
theorem dX9_findLeast_32 : decode cX9_findLeast 32 = .ok (.istore 4, 2) := by decide +kernel
theorem dX9_findLeast_34 : decode cX9_findLeast 34 = .ok (.iload 4, 2) := by decide +kernel
theorem dX9_findLeast_36 : decode cX9_findLeast 36 = .ok (.aload_n 0, 1) := by decide +kernel
theorem dX9_findLeast_37 : decode cX9_findLeast 37 = .ok (.getfield 151, 3) := by decide +kernel
theorem dX9_findLeast_40 : decode cX9_findLeast 40 = .ok (.if_icmp .ge 61, 3) := by decide +kernel
theorem dX9_findLeast_43 : decode cX9_findLeast 43 = .ok (.iload_n 1, 1) := by decide +kernel
theorem dX9_findLeast_44 : decode cX9_findLeast 44 = .ok (.iload 4, 2) := by decide +kernel
theorem dX9_findLeast_46 : decode cX9_findLeast 46 = .ok (.ishr, 1) := by decide +kernel
theorem dX9_findLeast_47 : decode cX9_findLeast 47 = .ok (.iconst 1, 1) := by decide +kernel
theorem dX9_findLeast_48 : decode cX9_findLeast 48 = .ok (.iand, 1) := by decide +kernel
theorem dX9_findLeast_49 : decode cX9_findLeast 49 = .ok (.iconst 1, 1) := by decide +kernel
theorem dX9_findLeast_50 : decode cX9_findLeast 50 = .ok (.if_icmp .ne 45, 3) := by decide +kernel
theorem dX9_findLeast_53 : decode cX9_findLeast 53 = .ok (.aload_n 0, 1) := by decide +kernel
theorem dX9_findLeast_54 : decode cX9_findLeast 54 = .ok (.iload_n 2, 1) := by decide +kernel
theorem dX9_findLeast_55 : decode cX9_findLeast 55 = .ok (.iload 4, 2) := by decide +kernel
theorem dX9_findLeast_57 : decode cX9_findLeast 57 = .ok (.invokevirtual 172, 3) := by decide +kernel
theorem dX9_findLeast_60 : decode cX9_findLeast 60 = .ok (.aload_n 0, 1) := by decide +kernel
theorem dX9_findLeast_61 : decode cX9_findLeast 61 = .ok (.getfield 41, 3) := by decide +kernel
theorem dX9_findLeast_64 : decode cX9_findLeast 64 = .ok (.bipush 8, 2) := by decide +kernel
theorem dX9_findLeast_66 : decode cX9_findLeast 66 = .ok (.iload_n 1, 1) := by decide +kernel
theorem dX9_findLeast_67 : decode cX9_findLeast 67 = .ok (.iconst 1, 1) := by decide +kernel
theorem dX9_findLeast_68 : decode cX9_findLeast 68 = .ok (.iload 4, 2) := by decide +kernel
theorem dX9_findLeast_70 : decode cX9_findLeast 70 = .ok (.ishl, 1) := by decide +kernel
theorem dX9_findLeast_71 : decode cX9_findLeast 71 = .ok (.iconst (-1), 1) := by decide +kernel
theorem dX9_findLeast_72 : decode cX9_findLeast 72 = .ok (.ixor, 1) := by decide +kernel
theorem dX9_findLeast_73 : decode cX9_findLeast 73 = .ok (.iand, 1) := by decide +kernel
theorem dX9_findLeast_74 : decode cX9_findLeast 74 = .ok (.imul, 1) := by decide +kernel
theorem dX9_findLeast_75 : decode cX9_findLeast 75 = .ok (.iload 4, 2) := by decide +kernel
theorem dX9_findLeast_77 : decode cX9_findLeast 77 = .ok (.iadd, 1) := by decide +kernel
theorem dX9_findLeast_78 : decode cX9_findLeast 78 = .ok (.iaload, 1) := by decide +kernel
theorem dX9_findLeast_79 : decode cX9_findLeast 79 = .ok (.iadd, 1) := by decide +kernel
theorem dX9_findLeast_80 : decode cX9_findLeast 80 = .ok (.istore 5, 2) := by decide +kernel
theorem dX9_findLeast_82 : decode cX9_findLeast 82 = .ok (.iload 5, 2) := by decide +kernel
theorem dX9_findLeast_84 : decode cX9_findLeast 84 = .ok (.iload_n 3, 1) := by decide +kernel
theorem dX9_findLeast_85 : decode cX9_findLeast 85 = .ok (.if_icmp .ge 8, 3) := by decide +kernel
theorem dX9_findLeast_88 : decode cX9_findLeast 88 = .ok (.iload 5, 2) := by decide +kernel
theorem dX9_findLeast_90 : decode cX9_findLeast 90 = .ok (.goto 4, 3) := by decide +kernel
theorem dX9_findLeast_93 : decode cX9_findLeast 93 = .ok (.iload_n 3, 1) := by decide +kernel
theorem dX9_findLeast_94 : decode cX9_findLeast 94 = .ok (.istore_n 3, 1) := by decide +kernel
theorem dX9_findLeast_95 : decode cX9_findLeast 95 = .ok (.iinc 4 1, 3) := by decide +kernel
theorem dX9_findLeast_98 : decode cX9_findLeast 98 = .ok (.goto (-64), 3) := by decide +kernel
theorem dX9_findLeast_101 : decode cX9_findLeast 101 = .ok (.aload_n 0, 1) := by decide +kernel
theorem dX9_findLeast_102 : decode cX9_findLeast 102 = .ok (.getfield 41, 3) := by decide +kernel
theorem dX9_findLeast_105 : decode cX9_findLeast 105 = .ok (.bipush 8, 2) := by decide +kernel
theorem dX9_findLeast_107 : decode cX9_findLeast 107 = .ok (.iload_n 1, 1) := by decide +kernel
theorem dX9_findLeast_108 : decode cX9_findLeast 108 = .ok (.imul, 1) := by decide +kernel
theorem dX9_findLeast_109 : decode cX9_findLeast 109 = .ok (.iload_n 2, 1) := by decide +kernel
theorem dX9_findLeast_110 : decode cX9_findLeast 110 = .ok (.iadd, 1) := by decide +kernel
theorem dX9_findLeast_111 : decode cX9_findLeast 111 = .ok (.iload_n 3, 1) := by decide +kernel
theorem dX9_findLeast_112 : decode cX9_findLeast 112 = .ok (.iastore, 1) := by decide +kernel
theorem dX9_findLeast_113 : decode cX9_findLeast 113 = .ok (.iinc 2 1, 3) := by decide +kernel
theorem dX9_findLeast_116 : decode cX9_findLeast 116 = .ok (.goto (-104), 3) := by decide +kernel
theorem dX9_findLeast_119 : decode cX9_findLeast 119 = .ok (.iinc 1 1, 3) := by decide +kernel
theorem dX9_findLeast_122 : decode cX9_findLeast 122 = .ok (.goto (-120), 3) := by decide +kernel
theorem dX9_findLeast_125 : decode cX9_findLeast 125 = .ok (.return_, 1) := by decide +kernel
theorem dX9_leastOf_0 : decode cX9_leastOf 0 = .ok (.iload_n 1, 1) := by decide +kernel
theorem dX9_leastOf_1 : decode cX9_leastOf 1 = .ok (.ifCond .ne 7, 3) := by decide +kernel
theorem dX9_leastOf_4 : decode cX9_leastOf 4 = .ok (.iconst 0, 1) := by decide +kernel
theorem dX9_leastOf_5 : decode cX9_leastOf 5 = .ok (.goto 5, 3) := by decide +kernel
theorem dX9_leastOf_8 : decode cX9_leastOf 8 = .ok (.ldc 171, 2) := by decide +kernel
theorem dX9_leastOf_10 : decode cX9_leastOf 10 = .ok (.istore_n 2, 1) := by decide +kernel
theorem dX9_leastOf_11 : decode cX9_leastOf 11 = .ok (.iconst 0, 1) := by decide +kernel
theorem dX9_leastOf_12 : decode cX9_leastOf 12 = .ok (.istore_n 3, 1) := by decide +kernel
theorem dX9_leastOf_13 : decode cX9_leastOf 13 = .ok (.iload_n 3, 1) := by decide +kernel
theorem dX9_leastOf_14 : decode cX9_leastOf 14 = .ok (.aload_n 0, 1) := by decide +kernel
theorem dX9_leastOf_15 : decode cX9_leastOf 15 = .ok (.getfield 151, 3) := by decide +kernel
theorem dX9_leastOf_18 : decode cX9_leastOf 18 = .ok (.if_icmp .ge 55, 3) := by decide +kernel
theorem dX9_leastOf_21 : decode cX9_leastOf 21 = .ok (.iload_n 1, 1) := by decide +kernel
theorem dX9_leastOf_22 : decode cX9_leastOf 22 = .ok (.iload_n 3, 1) := by decide +kernel
theorem dX9_leastOf_23 : decode cX9_leastOf 23 = .ok (.ishr, 1) := by decide +kernel
theorem dX9_leastOf_24 : decode cX9_leastOf 24 = .ok (.iconst 1, 1) := by decide +kernel
theorem dX9_leastOf_25 : decode cX9_leastOf 25 = .ok (.iand, 1) := by decide +kernel
theorem dX9_leastOf_26 : decode cX9_leastOf 26 = .ok (.iconst 1, 1) := by decide +kernel
theorem dX9_leastOf_27 : decode cX9_leastOf 27 = .ok (.if_icmp .ne 23, 3) := by decide +kernel
theorem dX9_leastOf_30 : decode cX9_leastOf 30 = .ok (.aload_n 0, 1) := by decide +kernel
theorem dX9_leastOf_31 : decode cX9_leastOf 31 = .ok (.getfield 41, 3) := by decide +kernel
theorem dX9_leastOf_34 : decode cX9_leastOf 34 = .ok (.bipush 8, 2) := by decide +kernel
theorem dX9_leastOf_36 : decode cX9_leastOf 36 = .ok (.iload_n 1, 1) := by decide +kernel
theorem dX9_leastOf_37 : decode cX9_leastOf 37 = .ok (.iconst 1, 1) := by decide +kernel
theorem dX9_leastOf_38 : decode cX9_leastOf 38 = .ok (.iload_n 3, 1) := by decide +kernel
theorem dX9_leastOf_39 : decode cX9_leastOf 39 = .ok (.ishl, 1) := by decide +kernel
theorem dX9_leastOf_40 : decode cX9_leastOf 40 = .ok (.iconst (-1), 1) := by decide +kernel
theorem dX9_leastOf_41 : decode cX9_leastOf 41 = .ok (.ixor, 1) := by decide +kernel
theorem dX9_leastOf_42 : decode cX9_leastOf 42 = .ok (.iand, 1) := by decide +kernel
theorem dX9_leastOf_43 : decode cX9_leastOf 43 = .ok (.imul, 1) := by decide +kernel
theorem dX9_leastOf_44 : decode cX9_leastOf 44 = .ok (.iload_n 3, 1) := by decide +kernel
theorem dX9_leastOf_45 : decode cX9_leastOf 45 = .ok (.iadd, 1) := by decide +kernel
theorem dX9_leastOf_46 : decode cX9_leastOf 46 = .ok (.iaload, 1) := by decide +kernel
theorem dX9_leastOf_47 : decode cX9_leastOf 47 = .ok (.goto 5, 3) := by decide +kernel
theorem dX9_leastOf_50 : decode cX9_leastOf 50 = .ok (.ldc 171, 2) := by decide +kernel
theorem dX9_leastOf_52 : decode cX9_leastOf 52 = .ok (.istore 4, 2) := by decide +kernel
theorem dX9_leastOf_54 : decode cX9_leastOf 54 = .ok (.iload 4, 2) := by decide +kernel
theorem dX9_leastOf_56 : decode cX9_leastOf 56 = .ok (.iload_n 2, 1) := by decide +kernel
theorem dX9_leastOf_57 : decode cX9_leastOf 57 = .ok (.if_icmp .ge 8, 3) := by decide +kernel
theorem dX9_leastOf_60 : decode cX9_leastOf 60 = .ok (.iload 4, 2) := by decide +kernel
theorem dX9_leastOf_62 : decode cX9_leastOf 62 = .ok (.goto 4, 3) := by decide +kernel
theorem dX9_leastOf_65 : decode cX9_leastOf 65 = .ok (.iload_n 2, 1) := by decide +kernel
theorem dX9_leastOf_66 : decode cX9_leastOf 66 = .ok (.istore_n 2, 1) := by decide +kernel
theorem dX9_leastOf_67 : decode cX9_leastOf 67 = .ok (.iinc 3 1, 3) := by decide +kernel
theorem dX9_leastOf_70 : decode cX9_leastOf 70 = .ok (.goto (-57), 3) := by decide +kernel
theorem dX9_leastOf_73 : decode cX9_leastOf 73 = .ok (.iload_n 2, 1) := by decide +kernel
theorem dX9_leastOf_74 : decode cX9_leastOf 74 = .ok (.ireturn, 1) := by decide +kernel
theorem dX9_order_0 : decode cX9_order 0 = .ok (.aload_n 0, 1) := by decide +kernel
theorem dX9_order_1 : decode cX9_order 1 = .ok (.invokevirtual 157, 3) := by decide +kernel
theorem dX9_order_4 : decode cX9_order 4 = .ok (.ifCond .ne 10, 3) := by decide +kernel
theorem dX9_order_7 : decode cX9_order 7 = .ok (.aload_n 0, 1) := by decide +kernel
theorem dX9_order_8 : decode cX9_order 8 = .ok (.bipush (-3), 2) := by decide +kernel
theorem dX9_order_10 : decode cX9_order 10 = .ok (.invokevirtual 54, 3) := by decide +kernel
theorem dX9_order_13 : decode cX9_order 13 = .ok (.ireturn, 1) := by decide +kernel
theorem dX9_order_14 : decode cX9_order 14 = .ok (.iload_n 1, 1) := by decide +kernel
theorem dX9_order_15 : decode cX9_order 15 = .ok (.iconst (-1), 1) := by decide +kernel
theorem dX9_order_16 : decode cX9_order 16 = .ok (.if_icmp .ge 10, 3) := by decide +kernel
theorem dX9_order_19 : decode cX9_order 19 = .ok (.aload_n 0, 1) := by decide +kernel
theorem dX9_order_20 : decode cX9_order 20 = .ok (.bipush (-2), 2) := by decide +kernel
theorem dX9_order_22 : decode cX9_order 22 = .ok (.invokevirtual 54, 3) := by decide +kernel
theorem dX9_order_25 : decode cX9_order 25 = .ok (.ireturn, 1) := by decide +kernel
theorem dX9_order_26 : decode cX9_order 26 = .ok (.aload_n 0, 1) := by decide +kernel
theorem dX9_order_27 : decode cX9_order 27 = .ok (.invokevirtual 175, 3) := by decide +kernel
theorem dX9_order_30 : decode cX9_order 30 = .ok (.aload_n 0, 1) := by decide +kernel
theorem dX9_order_31 : decode cX9_order 31 = .ok (.aload_n 0, 1) := by decide +kernel
theorem dX9_order_32 : decode cX9_order 32 = .ok (.invokevirtual 164, 3) := by decide +kernel
theorem dX9_order_35 : decode cX9_order 35 = .ok (.invokevirtual 178, 3) := by decide +kernel
theorem dX9_order_38 : decode cX9_order 38 = .ok (.istore_n 2, 1) := by decide +kernel
theorem dX9_order_39 : decode cX9_order 39 = .ok (.iload_n 1, 1) := by decide +kernel
theorem dX9_order_40 : decode cX9_order 40 = .ok (.iconst (-1), 1) := by decide +kernel
theorem dX9_order_41 : decode cX9_order 41 = .ok (.if_icmp .ne 5, 3) := by decide +kernel
theorem dX9_order_44 : decode cX9_order 44 = .ok (.iload_n 2, 1) := by decide +kernel
theorem dX9_order_45 : decode cX9_order 45 = .ok (.ireturn, 1) := by decide +kernel
theorem dX9_order_46 : decode cX9_order 46 = .ok (.iload_n 1, 1) := by decide +kernel
theorem dX9_order_47 : decode cX9_order 47 = .ok (.aload_n 0, 1) := by decide +kernel
theorem dX9_order_48 : decode cX9_order 48 = .ok (.getfield 151, 3) := by decide +kernel
theorem dX9_order_51 : decode cX9_order 51 = .ok (.if_icmp .lt 6, 3) := by decide +kernel
theorem dX9_order_54 : decode cX9_order 54 = .ok (.bipush (-5), 2) := by decide +kernel
theorem dX9_order_56 : decode cX9_order 56 = .ok (.ireturn, 1) := by decide +kernel
theorem dX9_order_57 : decode cX9_order 57 = .ok (.aload_n 0, 1) := by decide +kernel
theorem dX9_order_58 : decode cX9_order 58 = .ok (.invokevirtual 164, 3) := by decide +kernel
theorem dX9_order_61 : decode cX9_order 61 = .ok (.istore_n 3, 1) := by decide +kernel
theorem dX9_order_62 : decode cX9_order 62 = .ok (.iconst (-1), 1) := by decide +kernel
theorem dX9_order_63 : decode cX9_order 63 = .ok (.istore 4, 2) := by decide +kernel
theorem dX9_order_65 : decode cX9_order 65 = .ok (.iload_n 2, 1) := by decide +kernel
theorem dX9_order_66 : decode cX9_order 66 = .ok (.istore 5, 2) := by decide +kernel
theorem dX9_order_68 : decode cX9_order 68 = .ok (.iconst 0, 1) := by decide +kernel
theorem dX9_order_69 : decode cX9_order 69 = .ok (.istore 6, 2) := by decide +kernel
theorem dX9_order_71 : decode cX9_order 71 = .ok (.iload 6, 2) := by decide +kernel
theorem dX9_order_73 : decode cX9_order 73 = .ok (.iload_n 1, 1) := by decide +kernel
theorem dX9_order_74 : decode cX9_order 74 = .ok (.if_icmp .gt 106, 3) := by decide +kernel
theorem dX9_order_77 : decode cX9_order 77 = .ok (.iconst 0, 1) := by decide +kernel
theorem dX9_order_78 : decode cX9_order 78 = .ok (.istore 7, 2) := by decide +kernel
theorem dX9_order_80 : decode cX9_order 80 = .ok (.iload_n 3, 1) := by decide +kernel
theorem dX9_order_81 : decode cX9_order 81 = .ok (.iload 7, 2) := by decide +kernel
theorem dX9_order_83 : decode cX9_order 83 = .ok (.ishr, 1) := by decide +kernel
theorem dX9_order_84 : decode cX9_order 84 = .ok (.iconst 1, 1) := by decide +kernel
theorem dX9_order_85 : decode cX9_order 85 = .ok (.iand, 1) := by decide +kernel
theorem dX9_order_86 : decode cX9_order 86 = .ok (.ifCond .eq 46, 3) := by decide +kernel
theorem dX9_order_89 : decode cX9_order 89 = .ok (.iload 4, 2) := by decide +kernel
theorem dX9_order_91 : decode cX9_order 91 = .ok (.iconst (-1), 1) := by decide +kernel
theorem dX9_order_92 : decode cX9_order 92 = .ok (.if_icmp .ne 7, 3) := by decide +kernel
theorem dX9_order_95 : decode cX9_order 95 = .ok (.iconst 0, 1) := by decide +kernel
theorem dX9_order_96 : decode cX9_order 96 = .ok (.goto 11, 3) := by decide +kernel
theorem dX9_order_99 : decode cX9_order 99 = .ok (.aload_n 0, 1) := by decide +kernel
theorem dX9_order_100 : decode cX9_order 100 = .ok (.iload 4, 2) := by decide +kernel
theorem dX9_order_102 : decode cX9_order 102 = .ok (.iload 7, 2) := by decide +kernel
theorem dX9_order_104 : decode cX9_order 104 = .ok (.invokevirtual 172, 3) := by decide +kernel
theorem dX9_order_107 : decode cX9_order 107 = .ok (.aload_n 0, 1) := by decide +kernel
theorem dX9_order_108 : decode cX9_order 108 = .ok (.getfield 41, 3) := by decide +kernel
theorem dX9_order_111 : decode cX9_order 111 = .ok (.bipush 8, 2) := by decide +kernel
theorem dX9_order_113 : decode cX9_order 113 = .ok (.iload_n 3, 1) := by decide +kernel
theorem dX9_order_114 : decode cX9_order 114 = .ok (.iconst 1, 1) := by decide +kernel
theorem dX9_order_115 : decode cX9_order 115 = .ok (.iload 7, 2) := by decide +kernel
theorem dX9_order_117 : decode cX9_order 117 = .ok (.ishl, 1) := by decide +kernel
theorem dX9_order_118 : decode cX9_order 118 = .ok (.iconst (-1), 1) := by decide +kernel
theorem dX9_order_119 : decode cX9_order 119 = .ok (.ixor, 1) := by decide +kernel
theorem dX9_order_120 : decode cX9_order 120 = .ok (.iand, 1) := by decide +kernel
theorem dX9_order_121 : decode cX9_order 121 = .ok (.imul, 1) := by decide +kernel
theorem dX9_order_122 : decode cX9_order 122 = .ok (.iload 7, 2) := by decide +kernel
theorem dX9_order_124 : decode cX9_order 124 = .ok (.iadd, 1) := by decide +kernel
theorem dX9_order_125 : decode cX9_order 125 = .ok (.iaload, 1) := by decide +kernel
theorem dX9_order_126 : decode cX9_order 126 = .ok (.iadd, 1) := by decide +kernel
theorem dX9_order_127 : decode cX9_order 127 = .ok (.iload 5, 2) := by decide +kernel
theorem dX9_order_129 : decode cX9_order 129 = .ok (.if_icmp .eq 9, 3) := by decide +kernel
theorem dX9_order_132 : decode cX9_order 132 = .ok (.iinc 7 1, 3) := by decide +kernel
theorem dX9_order_135 : decode cX9_order 135 = .ok (.goto (-55), 3) := by decide +kernel
theorem dX9_order_138 : decode cX9_order 138 = .ok (.iload 5, 2) := by decide +kernel
theorem dX9_order_140 : decode cX9_order 140 = .ok (.iload 4, 2) := by decide +kernel
theorem dX9_order_142 : decode cX9_order 142 = .ok (.iconst (-1), 1) := by decide +kernel
theorem dX9_order_143 : decode cX9_order 143 = .ok (.if_icmp .ne 7, 3) := by decide +kernel
theorem dX9_order_146 : decode cX9_order 146 = .ok (.iconst 0, 1) := by decide +kernel
theorem dX9_order_147 : decode cX9_order 147 = .ok (.goto 11, 3) := by decide +kernel
theorem dX9_order_150 : decode cX9_order 150 = .ok (.aload_n 0, 1) := by decide +kernel
theorem dX9_order_151 : decode cX9_order 151 = .ok (.iload 4, 2) := by decide +kernel
theorem dX9_order_153 : decode cX9_order 153 = .ok (.iload 7, 2) := by decide +kernel
theorem dX9_order_155 : decode cX9_order 155 = .ok (.invokevirtual 172, 3) := by decide +kernel
theorem dX9_order_158 : decode cX9_order 158 = .ok (.isub, 1) := by decide +kernel
theorem dX9_order_159 : decode cX9_order 159 = .ok (.istore 5, 2) := by decide +kernel
theorem dX9_order_161 : decode cX9_order 161 = .ok (.iload_n 3, 1) := by decide +kernel
theorem dX9_order_162 : decode cX9_order 162 = .ok (.iconst 1, 1) := by decide +kernel
theorem dX9_order_163 : decode cX9_order 163 = .ok (.iload 7, 2) := by decide +kernel
theorem dX9_order_165 : decode cX9_order 165 = .ok (.ishl, 1) := by decide +kernel
theorem dX9_order_166 : decode cX9_order 166 = .ok (.iconst (-1), 1) := by decide +kernel
theorem dX9_order_167 : decode cX9_order 167 = .ok (.ixor, 1) := by decide +kernel
theorem dX9_order_168 : decode cX9_order 168 = .ok (.iand, 1) := by decide +kernel
theorem dX9_order_169 : decode cX9_order 169 = .ok (.istore_n 3, 1) := by decide +kernel
theorem dX9_order_170 : decode cX9_order 170 = .ok (.iload 7, 2) := by decide +kernel
theorem dX9_order_172 : decode cX9_order 172 = .ok (.istore 4, 2) := by decide +kernel
theorem dX9_order_174 : decode cX9_order 174 = .ok (.iinc 6 1, 3) := by decide +kernel
theorem dX9_order_177 : decode cX9_order 177 = .ok (.goto (-106), 3) := by decide +kernel
theorem dX9_order_180 : decode cX9_order 180 = .ok (.iload 4, 2) := by decide +kernel
theorem dX9_order_182 : decode cX9_order 182 = .ok (.ireturn, 1) := by decide +kernel
theorem dX9_hands_0 : decode cX9_hands 0 = .ok (.aload_n 0, 1) := by decide +kernel
theorem dX9_hands_1 : decode cX9_hands 1 = .ok (.invokevirtual 157, 3) := by decide +kernel
theorem dX9_hands_4 : decode cX9_hands 4 = .ok (.ifCond .ne 10, 3) := by decide +kernel
theorem dX9_hands_7 : decode cX9_hands 7 = .ok (.aload_n 0, 1) := by decide +kernel
theorem dX9_hands_8 : decode cX9_hands 8 = .ok (.bipush (-3), 2) := by decide +kernel
theorem dX9_hands_10 : decode cX9_hands 10 = .ok (.invokevirtual 54, 3) := by decide +kernel
theorem dX9_hands_13 : decode cX9_hands 13 = .ok (.ireturn, 1) := by decide +kernel
theorem dX9_hands_14 : decode cX9_hands 14 = .ok (.iload_n 1, 1) := by decide +kernel
theorem dX9_hands_15 : decode cX9_hands 15 = .ok (.iconst 0, 1) := by decide +kernel
theorem dX9_hands_16 : decode cX9_hands 16 = .ok (.iconst 1, 1) := by decide +kernel
theorem dX9_hands_17 : decode cX9_hands 17 = .ok (.invokestatic 50, 3) := by decide +kernel
theorem dX9_hands_20 : decode cX9_hands 20 = .ok (.ifCond .ne 10, 3) := by decide +kernel
theorem dX9_hands_23 : decode cX9_hands 23 = .ok (.aload_n 0, 1) := by decide +kernel
theorem dX9_hands_24 : decode cX9_hands 24 = .ok (.bipush (-2), 2) := by decide +kernel
theorem dX9_hands_26 : decode cX9_hands 26 = .ok (.invokevirtual 54, 3) := by decide +kernel
theorem dX9_hands_29 : decode cX9_hands 29 = .ok (.ireturn, 1) := by decide +kernel
theorem dX9_hands_30 : decode cX9_hands 30 = .ok (.aload_n 0, 1) := by decide +kernel
theorem dX9_hands_31 : decode cX9_hands 31 = .ok (.invokevirtual 175, 3) := by decide +kernel
theorem dX9_hands_34 : decode cX9_hands 34 = .ok (.iconst 0, 1) := by decide +kernel
theorem dX9_hands_35 : decode cX9_hands 35 = .ok (.istore_n 2, 1) := by decide +kernel
theorem dX9_hands_36 : decode cX9_hands 36 = .ok (.ldc 171, 2) := by decide +kernel
theorem dX9_hands_38 : decode cX9_hands 38 = .ok (.istore_n 3, 1) := by decide +kernel
theorem dX9_hands_39 : decode cX9_hands 39 = .ok (.iconst 0, 1) := by decide +kernel
theorem dX9_hands_40 : decode cX9_hands 40 = .ok (.istore 4, 2) := by decide +kernel
theorem dX9_hands_42 : decode cX9_hands 42 = .ok (.iload 4, 2) := by decide +kernel
theorem dX9_hands_44 : decode cX9_hands 44 = .ok (.aload_n 0, 1) := by decide +kernel
theorem dX9_hands_45 : decode cX9_hands 45 = .ok (.invokevirtual 164, 3) := by decide +kernel
theorem dX9_hands_48 : decode cX9_hands 48 = .ok (.if_icmp .gt 74, 3) := by decide +kernel
theorem dX9_hands_51 : decode cX9_hands 51 = .ok (.aload_n 0, 1) := by decide +kernel
theorem dX9_hands_52 : decode cX9_hands 52 = .ok (.aload_n 0, 1) := by decide +kernel
theorem dX9_hands_53 : decode cX9_hands 53 = .ok (.invokevirtual 164, 3) := by decide +kernel
theorem dX9_hands_56 : decode cX9_hands 56 = .ok (.iload 4, 2) := by decide +kernel
theorem dX9_hands_58 : decode cX9_hands 58 = .ok (.iconst (-1), 1) := by decide +kernel
theorem dX9_hands_59 : decode cX9_hands 59 = .ok (.ixor, 1) := by decide +kernel
theorem dX9_hands_60 : decode cX9_hands 60 = .ok (.iand, 1) := by decide +kernel
theorem dX9_hands_61 : decode cX9_hands 61 = .ok (.invokevirtual 178, 3) := by decide +kernel
theorem dX9_hands_64 : decode cX9_hands 64 = .ok (.istore 5, 2) := by decide +kernel
theorem dX9_hands_66 : decode cX9_hands 66 = .ok (.aload_n 0, 1) := by decide +kernel
theorem dX9_hands_67 : decode cX9_hands 67 = .ok (.iload 4, 2) := by decide +kernel
theorem dX9_hands_69 : decode cX9_hands 69 = .ok (.invokevirtual 178, 3) := by decide +kernel
theorem dX9_hands_72 : decode cX9_hands 72 = .ok (.istore 6, 2) := by decide +kernel
theorem dX9_hands_74 : decode cX9_hands 74 = .ok (.iload 5, 2) := by decide +kernel
theorem dX9_hands_76 : decode cX9_hands 76 = .ok (.iload 6, 2) := by decide +kernel
theorem dX9_hands_78 : decode cX9_hands 78 = .ok (.if_icmp .le 8, 3) := by decide +kernel
theorem dX9_hands_81 : decode cX9_hands 81 = .ok (.iload 5, 2) := by decide +kernel
theorem dX9_hands_83 : decode cX9_hands 83 = .ok (.goto 5, 3) := by decide +kernel
theorem dX9_hands_86 : decode cX9_hands 86 = .ok (.iload 6, 2) := by decide +kernel
theorem dX9_hands_88 : decode cX9_hands 88 = .ok (.istore 7, 2) := by decide +kernel
theorem dX9_hands_90 : decode cX9_hands 90 = .ok (.iload 7, 2) := by decide +kernel
theorem dX9_hands_92 : decode cX9_hands 92 = .ok (.iload_n 3, 1) := by decide +kernel
theorem dX9_hands_93 : decode cX9_hands 93 = .ok (.if_icmp .ge 8, 3) := by decide +kernel
theorem dX9_hands_96 : decode cX9_hands 96 = .ok (.iload 4, 2) := by decide +kernel
theorem dX9_hands_98 : decode cX9_hands 98 = .ok (.goto 4, 3) := by decide +kernel
theorem dX9_hands_101 : decode cX9_hands 101 = .ok (.iload_n 2, 1) := by decide +kernel
theorem dX9_hands_102 : decode cX9_hands 102 = .ok (.istore_n 2, 1) := by decide +kernel
theorem dX9_hands_103 : decode cX9_hands 103 = .ok (.iload 7, 2) := by decide +kernel
theorem dX9_hands_105 : decode cX9_hands 105 = .ok (.iload_n 3, 1) := by decide +kernel
theorem dX9_hands_106 : decode cX9_hands 106 = .ok (.if_icmp .ge 8, 3) := by decide +kernel
theorem dX9_hands_109 : decode cX9_hands 109 = .ok (.iload 7, 2) := by decide +kernel
theorem dX9_hands_111 : decode cX9_hands 111 = .ok (.goto 4, 3) := by decide +kernel
theorem dX9_hands_114 : decode cX9_hands 114 = .ok (.iload_n 3, 1) := by decide +kernel
theorem dX9_hands_115 : decode cX9_hands 115 = .ok (.istore_n 3, 1) := by decide +kernel
theorem dX9_hands_116 : decode cX9_hands 116 = .ok (.iinc 4 1, 3) := by decide +kernel
theorem dX9_hands_119 : decode cX9_hands 119 = .ok (.goto (-77), 3) := by decide +kernel
theorem dX9_hands_122 : decode cX9_hands 122 = .ok (.iload_n 1, 1) := by decide +kernel
theorem dX9_hands_123 : decode cX9_hands 123 = .ok (.ifCond .ne 7, 3) := by decide +kernel
theorem dX9_hands_126 : decode cX9_hands 126 = .ok (.iload_n 3, 1) := by decide +kernel
theorem dX9_hands_127 : decode cX9_hands 127 = .ok (.goto 4, 3) := by decide +kernel
theorem dX9_hands_130 : decode cX9_hands 130 = .ok (.iload_n 2, 1) := by decide +kernel
theorem dX9_hands_131 : decode cX9_hands 131 = .ok (.ireturn, 1) := by decide +kernel
theorem dX9_isWalker_0 : decode cX9_isWalker 0 = .ok (.iload_n 1, 1) := by decide +kernel
theorem dX9_isWalker_1 : decode cX9_isWalker 1 = .ok (.iconst 0, 1) := by decide +kernel
theorem dX9_isWalker_2 : decode cX9_isWalker 2 = .ok (.bipush 99, 2) := by decide +kernel
theorem dX9_isWalker_4 : decode cX9_isWalker 4 = .ok (.invokestatic 50, 3) := by decide +kernel
theorem dX9_isWalker_7 : decode cX9_isWalker 7 = .ok (.ifCond .eq 38, 3) := by decide +kernel
theorem dX9_isWalker_10 : decode cX9_isWalker 10 = .ok (.iload_n 2, 1) := by decide +kernel
theorem dX9_isWalker_11 : decode cX9_isWalker 11 = .ok (.iconst 1, 1) := by decide +kernel
theorem dX9_isWalker_12 : decode cX9_isWalker 12 = .ok (.bipush 9, 2) := by decide +kernel
theorem dX9_isWalker_14 : decode cX9_isWalker 14 = .ok (.invokestatic 50, 3) := by decide +kernel
theorem dX9_isWalker_17 : decode cX9_isWalker 17 = .ok (.ifCond .eq 28, 3) := by decide +kernel
theorem dX9_isWalker_20 : decode cX9_isWalker 20 = .ok (.iload_n 3, 1) := by decide +kernel
theorem dX9_isWalker_21 : decode cX9_isWalker 21 = .ok (.iconst 1, 1) := by decide +kernel
theorem dX9_isWalker_22 : decode cX9_isWalker 22 = .ok (.bipush 9, 2) := by decide +kernel
theorem dX9_isWalker_24 : decode cX9_isWalker 24 = .ok (.invokestatic 50, 3) := by decide +kernel
theorem dX9_isWalker_27 : decode cX9_isWalker 27 = .ok (.ifCond .eq 18, 3) := by decide +kernel
theorem dX9_isWalker_30 : decode cX9_isWalker 30 = .ok (.iload 4, 2) := by decide +kernel
theorem dX9_isWalker_32 : decode cX9_isWalker 32 = .ok (.iconst 0, 1) := by decide +kernel
theorem dX9_isWalker_33 : decode cX9_isWalker 33 = .ok (.bipush 20, 2) := by decide +kernel
theorem dX9_isWalker_35 : decode cX9_isWalker 35 = .ok (.invokestatic 50, 3) := by decide +kernel
theorem dX9_isWalker_38 : decode cX9_isWalker 38 = .ok (.ifCond .eq 7, 3) := by decide +kernel
theorem dX9_isWalker_41 : decode cX9_isWalker 41 = .ok (.iconst 1, 1) := by decide +kernel
theorem dX9_isWalker_42 : decode cX9_isWalker 42 = .ok (.goto 4, 3) := by decide +kernel
theorem dX9_isWalker_45 : decode cX9_isWalker 45 = .ok (.iconst 0, 1) := by decide +kernel
theorem dX9_isWalker_46 : decode cX9_isWalker 46 = .ok (.ireturn, 1) := by decide +kernel
theorem dX9_walk_0 : decode cX9_walk 0 = .ok (.aload_n 0, 1) := by decide +kernel
theorem dX9_walk_1 : decode cX9_walk 1 = .ok (.getfield 44, 3) := by decide +kernel
theorem dX9_walk_4 : decode cX9_walk 4 = .ok (.iconst 0, 1) := by decide +kernel
theorem dX9_walk_5 : decode cX9_walk 5 = .ok (.iload_n 1, 1) := by decide +kernel
theorem dX9_walk_6 : decode cX9_walk 6 = .ok (.iastore, 1) := by decide +kernel
theorem dX9_walk_7 : decode cX9_walk 7 = .ok (.iconst 0, 1) := by decide +kernel
theorem dX9_walk_8 : decode cX9_walk 8 = .ok (.istore 5, 2) := by decide +kernel
theorem dX9_walk_10 : decode cX9_walk 10 = .ok (.iload 5, 2) := by decide +kernel
theorem dX9_walk_12 : decode cX9_walk 12 = .ok (.bipush 40, 2) := by decide +kernel
theorem dX9_walk_14 : decode cX9_walk 14 = .ok (.if_icmp .ge 49, 3) := by decide +kernel
theorem dX9_walk_17 : decode cX9_walk 17 = .ok (.aload_n 0, 1) := by decide +kernel
theorem dX9_walk_18 : decode cX9_walk 18 = .ok (.getfield 44, 3) := by decide +kernel
theorem dX9_walk_21 : decode cX9_walk 21 = .ok (.iload 5, 2) := by decide +kernel
theorem dX9_walk_23 : decode cX9_walk 23 = .ok (.iconst 1, 1) := by decide +kernel
theorem dX9_walk_24 : decode cX9_walk 24 = .ok (.iadd, 1) := by decide +kernel
theorem dX9_walk_25 : decode cX9_walk 25 = .ok (.aload_n 0, 1) := by decide +kernel
theorem dX9_walk_26 : decode cX9_walk 26 = .ok (.getfield 44, 3) := by decide +kernel
theorem dX9_walk_29 : decode cX9_walk 29 = .ok (.iload 5, 2) := by decide +kernel
theorem dX9_walk_31 : decode cX9_walk 31 = .ok (.iaload, 1) := by decide +kernel
theorem dX9_walk_32 : decode cX9_walk 32 = .ok (.aload_n 0, 1) := by decide +kernel
theorem dX9_walk_33 : decode cX9_walk 33 = .ok (.getfield 44, 3) := by decide +kernel
theorem dX9_walk_36 : decode cX9_walk 36 = .ok (.iload 5, 2) := by decide +kernel
theorem dX9_walk_38 : decode cX9_walk 38 = .ok (.iaload, 1) := by decide +kernel
theorem dX9_walk_39 : decode cX9_walk 39 = .ok (.iload_n 2, 1) := by decide +kernel
theorem dX9_walk_40 : decode cX9_walk 40 = .ok (.idiv, 1) := by decide +kernel
theorem dX9_walk_41 : decode cX9_walk 41 = .ok (.isub, 1) := by decide +kernel
theorem dX9_walk_42 : decode cX9_walk 42 = .ok (.iload 5, 2) := by decide +kernel
theorem dX9_walk_44 : decode cX9_walk 44 = .ok (.iload_n 3, 1) := by decide +kernel
theorem dX9_walk_45 : decode cX9_walk 45 = .ok (.irem, 1) := by decide +kernel
theorem dX9_walk_46 : decode cX9_walk 46 = .ok (.ifCond .ne 8, 3) := by decide +kernel
theorem dX9_walk_49 : decode cX9_walk 49 = .ok (.iload 4, 2) := by decide +kernel
theorem dX9_walk_51 : decode cX9_walk 51 = .ok (.goto 4, 3) := by decide +kernel
theorem dX9_walk_54 : decode cX9_walk 54 = .ok (.iconst 0, 1) := by decide +kernel
theorem dX9_walk_55 : decode cX9_walk 55 = .ok (.iadd, 1) := by decide +kernel
theorem dX9_walk_56 : decode cX9_walk 56 = .ok (.iastore, 1) := by decide +kernel
theorem dX9_walk_57 : decode cX9_walk 57 = .ok (.iinc 5 1, 3) := by decide +kernel
theorem dX9_walk_60 : decode cX9_walk 60 = .ok (.goto (-50), 3) := by decide +kernel
theorem dX9_walk_63 : decode cX9_walk 63 = .ok (.return_, 1) := by decide +kernel
theorem dX9_lag_0 : decode cX9_lag 0 = .ok (.aload_n 0, 1) := by decide +kernel
theorem dX9_lag_1 : decode cX9_lag 1 = .ok (.iload_n 1, 1) := by decide +kernel
theorem dX9_lag_2 : decode cX9_lag 2 = .ok (.iload_n 2, 1) := by decide +kernel
theorem dX9_lag_3 : decode cX9_lag 3 = .ok (.iload_n 3, 1) := by decide +kernel
theorem dX9_lag_4 : decode cX9_lag 4 = .ok (.iload 4, 2) := by decide +kernel
theorem dX9_lag_6 : decode cX9_lag 6 = .ok (.invokevirtual 181, 3) := by decide +kernel
theorem dX9_lag_9 : decode cX9_lag 9 = .ok (.ifCond .eq 14, 3) := by decide +kernel
theorem dX9_lag_12 : decode cX9_lag 12 = .ok (.iload 5, 2) := by decide +kernel
theorem dX9_lag_14 : decode cX9_lag 14 = .ok (.iconst 0, 1) := by decide +kernel
theorem dX9_lag_15 : decode cX9_lag 15 = .ok (.bipush 39, 2) := by decide +kernel
theorem dX9_lag_17 : decode cX9_lag 17 = .ok (.invokestatic 50, 3) := by decide +kernel
theorem dX9_lag_20 : decode cX9_lag 20 = .ok (.ifCond .ne 10, 3) := by decide +kernel
theorem dX9_lag_23 : decode cX9_lag 23 = .ok (.aload_n 0, 1) := by decide +kernel
theorem dX9_lag_24 : decode cX9_lag 24 = .ok (.bipush (-2), 2) := by decide +kernel
theorem dX9_lag_26 : decode cX9_lag 26 = .ok (.invokevirtual 54, 3) := by decide +kernel
theorem dX9_lag_29 : decode cX9_lag 29 = .ok (.ireturn, 1) := by decide +kernel
theorem dX9_lag_30 : decode cX9_lag 30 = .ok (.aload_n 0, 1) := by decide +kernel
theorem dX9_lag_31 : decode cX9_lag 31 = .ok (.iload_n 1, 1) := by decide +kernel
theorem dX9_lag_32 : decode cX9_lag 32 = .ok (.iload_n 2, 1) := by decide +kernel
theorem dX9_lag_33 : decode cX9_lag 33 = .ok (.iload_n 3, 1) := by decide +kernel
theorem dX9_lag_34 : decode cX9_lag 34 = .ok (.iload 4, 2) := by decide +kernel
theorem dX9_lag_36 : decode cX9_lag 36 = .ok (.invokevirtual 185, 3) := by decide +kernel
theorem dX9_lag_39 : decode cX9_lag 39 = .ok (.aload_n 0, 1) := by decide +kernel
theorem dX9_lag_40 : decode cX9_lag 40 = .ok (.getfield 44, 3) := by decide +kernel
theorem dX9_lag_43 : decode cX9_lag 43 = .ok (.iload 5, 2) := by decide +kernel
theorem dX9_lag_45 : decode cX9_lag 45 = .ok (.iaload, 1) := by decide +kernel
theorem dX9_lag_46 : decode cX9_lag 46 = .ok (.ireturn, 1) := by decide +kernel
theorem dX9_mended_0 : decode cX9_mended 0 = .ok (.aload_n 0, 1) := by decide +kernel
theorem dX9_mended_1 : decode cX9_mended 1 = .ok (.iload_n 1, 1) := by decide +kernel
theorem dX9_mended_2 : decode cX9_mended 2 = .ok (.iload_n 2, 1) := by decide +kernel
theorem dX9_mended_3 : decode cX9_mended 3 = .ok (.iload_n 3, 1) := by decide +kernel
theorem dX9_mended_4 : decode cX9_mended 4 = .ok (.iload 4, 2) := by decide +kernel
theorem dX9_mended_6 : decode cX9_mended 6 = .ok (.invokevirtual 181, 3) := by decide +kernel
theorem dX9_mended_9 : decode cX9_mended 9 = .ok (.ifCond .eq 25, 3) := by decide +kernel
theorem dX9_mended_12 : decode cX9_mended 12 = .ok (.iload 5, 2) := by decide +kernel
theorem dX9_mended_14 : decode cX9_mended 14 = .ok (.iconst 1, 1) := by decide +kernel
theorem dX9_mended_15 : decode cX9_mended 15 = .ok (.bipush 40, 2) := by decide +kernel
theorem dX9_mended_17 : decode cX9_mended 17 = .ok (.invokestatic 50, 3) := by decide +kernel
theorem dX9_mended_20 : decode cX9_mended 20 = .ok (.ifCond .eq 14, 3) := by decide +kernel
theorem dX9_mended_23 : decode cX9_mended 23 = .ok (.iload 6, 2) := by decide +kernel
theorem dX9_mended_25 : decode cX9_mended 25 = .ok (.iconst 0, 1) := by decide +kernel
theorem dX9_mended_26 : decode cX9_mended 26 = .ok (.bipush 99, 2) := by decide +kernel
theorem dX9_mended_28 : decode cX9_mended 28 = .ok (.invokestatic 50, 3) := by decide +kernel
theorem dX9_mended_31 : decode cX9_mended 31 = .ok (.ifCond .ne 10, 3) := by decide +kernel
theorem dX9_mended_34 : decode cX9_mended 34 = .ok (.aload_n 0, 1) := by decide +kernel
theorem dX9_mended_35 : decode cX9_mended 35 = .ok (.bipush (-2), 2) := by decide +kernel
theorem dX9_mended_37 : decode cX9_mended 37 = .ok (.invokevirtual 54, 3) := by decide +kernel
theorem dX9_mended_40 : decode cX9_mended 40 = .ok (.ireturn, 1) := by decide +kernel
theorem dX9_mended_41 : decode cX9_mended 41 = .ok (.aload_n 0, 1) := by decide +kernel
theorem dX9_mended_42 : decode cX9_mended 42 = .ok (.iload_n 1, 1) := by decide +kernel
theorem dX9_mended_43 : decode cX9_mended 43 = .ok (.iload_n 2, 1) := by decide +kernel
theorem dX9_mended_44 : decode cX9_mended 44 = .ok (.iload_n 3, 1) := by decide +kernel
theorem dX9_mended_45 : decode cX9_mended 45 = .ok (.iload 4, 2) := by decide +kernel
theorem dX9_mended_47 : decode cX9_mended 47 = .ok (.invokevirtual 185, 3) := by decide +kernel
theorem dX9_mended_50 : decode cX9_mended 50 = .ok (.iconst 0, 1) := by decide +kernel
theorem dX9_mended_51 : decode cX9_mended 51 = .ok (.istore 7, 2) := by decide +kernel
theorem dX9_mended_53 : decode cX9_mended 53 = .ok (.iconst 0, 1) := by decide +kernel
theorem dX9_mended_54 : decode cX9_mended 54 = .ok (.istore 8, 2) := by decide +kernel
theorem dX9_mended_56 : decode cX9_mended 56 = .ok (.iload 8, 2) := by decide +kernel
theorem dX9_mended_58 : decode cX9_mended 58 = .ok (.iload 5, 2) := by decide +kernel
theorem dX9_mended_60 : decode cX9_mended 60 = .ok (.if_icmp .ge 31, 3) := by decide +kernel
theorem dX9_mended_63 : decode cX9_mended 63 = .ok (.iload 7, 2) := by decide +kernel
theorem dX9_mended_65 : decode cX9_mended 65 = .ok (.aload_n 0, 1) := by decide +kernel
theorem dX9_mended_66 : decode cX9_mended 66 = .ok (.getfield 44, 3) := by decide +kernel
theorem dX9_mended_69 : decode cX9_mended 69 = .ok (.iload 8, 2) := by decide +kernel
theorem dX9_mended_71 : decode cX9_mended 71 = .ok (.iaload, 1) := by decide +kernel
theorem dX9_mended_72 : decode cX9_mended 72 = .ok (.iload 6, 2) := by decide +kernel
theorem dX9_mended_74 : decode cX9_mended 74 = .ok (.if_icmp .le 7, 3) := by decide +kernel
theorem dX9_mended_77 : decode cX9_mended 77 = .ok (.iconst 1, 1) := by decide +kernel
theorem dX9_mended_78 : decode cX9_mended 78 = .ok (.goto 4, 3) := by decide +kernel
theorem dX9_mended_81 : decode cX9_mended 81 = .ok (.iconst 0, 1) := by decide +kernel
theorem dX9_mended_82 : decode cX9_mended 82 = .ok (.iadd, 1) := by decide +kernel
theorem dX9_mended_83 : decode cX9_mended 83 = .ok (.istore 7, 2) := by decide +kernel
theorem dX9_mended_85 : decode cX9_mended 85 = .ok (.iinc 8 1, 3) := by decide +kernel
theorem dX9_mended_88 : decode cX9_mended 88 = .ok (.goto (-32), 3) := by decide +kernel
theorem dX9_mended_91 : decode cX9_mended 91 = .ok (.iload 7, 2) := by decide +kernel
theorem dX9_mended_93 : decode cX9_mended 93 = .ok (.ireturn, 1) := by decide +kernel
theorem dX9_steady_0 : decode cX9_steady 0 = .ok (.aload_n 0, 1) := by decide +kernel
theorem dX9_steady_1 : decode cX9_steady 1 = .ok (.iload_n 1, 1) := by decide +kernel
theorem dX9_steady_2 : decode cX9_steady 2 = .ok (.iload_n 2, 1) := by decide +kernel
theorem dX9_steady_3 : decode cX9_steady 3 = .ok (.iload_n 3, 1) := by decide +kernel
theorem dX9_steady_4 : decode cX9_steady 4 = .ok (.iload 4, 2) := by decide +kernel
theorem dX9_steady_6 : decode cX9_steady 6 = .ok (.invokevirtual 181, 3) := by decide +kernel
theorem dX9_steady_9 : decode cX9_steady 9 = .ok (.ifCond .eq 14, 3) := by decide +kernel
theorem dX9_steady_12 : decode cX9_steady 12 = .ok (.iload 5, 2) := by decide +kernel
theorem dX9_steady_14 : decode cX9_steady 14 = .ok (.iconst 0, 1) := by decide +kernel
theorem dX9_steady_15 : decode cX9_steady 15 = .ok (.bipush 99, 2) := by decide +kernel
theorem dX9_steady_17 : decode cX9_steady 17 = .ok (.invokestatic 50, 3) := by decide +kernel
theorem dX9_steady_20 : decode cX9_steady 20 = .ok (.ifCond .ne 10, 3) := by decide +kernel
theorem dX9_steady_23 : decode cX9_steady 23 = .ok (.aload_n 0, 1) := by decide +kernel
theorem dX9_steady_24 : decode cX9_steady 24 = .ok (.bipush (-2), 2) := by decide +kernel
theorem dX9_steady_26 : decode cX9_steady 26 = .ok (.invokevirtual 54, 3) := by decide +kernel
theorem dX9_steady_29 : decode cX9_steady 29 = .ok (.ireturn, 1) := by decide +kernel
theorem dX9_steady_30 : decode cX9_steady 30 = .ok (.aload_n 0, 1) := by decide +kernel
theorem dX9_steady_31 : decode cX9_steady 31 = .ok (.iload_n 1, 1) := by decide +kernel
theorem dX9_steady_32 : decode cX9_steady 32 = .ok (.iload_n 2, 1) := by decide +kernel
theorem dX9_steady_33 : decode cX9_steady 33 = .ok (.iload_n 3, 1) := by decide +kernel
theorem dX9_steady_34 : decode cX9_steady 34 = .ok (.iload 4, 2) := by decide +kernel
theorem dX9_steady_36 : decode cX9_steady 36 = .ok (.invokevirtual 185, 3) := by decide +kernel
theorem dX9_steady_39 : decode cX9_steady 39 = .ok (.iconst (-1), 1) := by decide +kernel
theorem dX9_steady_40 : decode cX9_steady 40 = .ok (.istore 6, 2) := by decide +kernel
theorem dX9_steady_42 : decode cX9_steady 42 = .ok (.bipush 39, 2) := by decide +kernel
theorem dX9_steady_44 : decode cX9_steady 44 = .ok (.istore 7, 2) := by decide +kernel
theorem dX9_steady_46 : decode cX9_steady 46 = .ok (.iload 7, 2) := by decide +kernel
theorem dX9_steady_48 : decode cX9_steady 48 = .ok (.ifCond .lt 25, 3) := by decide +kernel
theorem dX9_steady_51 : decode cX9_steady 51 = .ok (.aload_n 0, 1) := by decide +kernel
theorem dX9_steady_52 : decode cX9_steady 52 = .ok (.getfield 44, 3) := by decide +kernel
theorem dX9_steady_55 : decode cX9_steady 55 = .ok (.iload 7, 2) := by decide +kernel
theorem dX9_steady_57 : decode cX9_steady 57 = .ok (.iaload, 1) := by decide +kernel
theorem dX9_steady_58 : decode cX9_steady 58 = .ok (.iload 5, 2) := by decide +kernel
theorem dX9_steady_60 : decode cX9_steady 60 = .ok (.if_icmp .gt 13, 3) := by decide +kernel
theorem dX9_steady_63 : decode cX9_steady 63 = .ok (.iload 7, 2) := by decide +kernel
theorem dX9_steady_65 : decode cX9_steady 65 = .ok (.istore 6, 2) := by decide +kernel
theorem dX9_steady_67 : decode cX9_steady 67 = .ok (.iinc 7 (-1), 3) := by decide +kernel
theorem dX9_steady_70 : decode cX9_steady 70 = .ok (.goto (-24), 3) := by decide +kernel
theorem dX9_steady_73 : decode cX9_steady 73 = .ok (.iload 6, 2) := by decide +kernel
theorem dX9_steady_75 : decode cX9_steady 75 = .ok (.ireturn, 1) := by decide +kernel
theorem dX9_house_0 : decode cX9_house 0 = .ok (.aload_n 0, 1) := by decide +kernel
theorem dX9_house_1 : decode cX9_house 1 = .ok (.getfield 7, 3) := by decide +kernel
theorem dX9_house_4 : decode cX9_house 4 = .ok (.iconst 3, 1) := by decide +kernel
theorem dX9_house_5 : decode cX9_house 5 = .ok (.iaload, 1) := by decide +kernel
theorem dX9_house_6 : decode cX9_house 6 = .ok (.istore_n 1, 1) := by decide +kernel
theorem dX9_house_7 : decode cX9_house 7 = .ok (.iload_n 1, 1) := by decide +kernel
theorem dX9_house_8 : decode cX9_house 8 = .ok (.iconst 4, 1) := by decide +kernel
theorem dX9_house_9 : decode cX9_house 9 = .ok (.if_icmp .ne 10, 3) := by decide +kernel
theorem dX9_house_12 : decode cX9_house 12 = .ok (.aload_n 0, 1) := by decide +kernel
theorem dX9_house_13 : decode cX9_house 13 = .ok (.bipush (-4), 2) := by decide +kernel
theorem dX9_house_15 : decode cX9_house 15 = .ok (.invokevirtual 54, 3) := by decide +kernel
theorem dX9_house_18 : decode cX9_house 18 = .ok (.ireturn, 1) := by decide +kernel
theorem dX9_house_19 : decode cX9_house 19 = .ok (.iconst 0, 1) := by decide +kernel
theorem dX9_house_20 : decode cX9_house 20 = .ok (.istore_n 2, 1) := by decide +kernel
theorem dX9_house_21 : decode cX9_house 21 = .ok (.iload_n 2, 1) := by decide +kernel
theorem dX9_house_22 : decode cX9_house 22 = .ok (.bipush 10, 2) := by decide +kernel
theorem dX9_house_24 : decode cX9_house 24 = .ok (.if_icmp .ge 25, 3) := by decide +kernel
theorem dX9_house_27 : decode cX9_house 27 = .ok (.aload_n 0, 1) := by decide +kernel
theorem dX9_house_28 : decode cX9_house 28 = .ok (.getfield 7, 3) := by decide +kernel
theorem dX9_house_31 : decode cX9_house 31 = .ok (.sipush 332, 3) := by decide +kernel
theorem dX9_house_34 : decode cX9_house 34 = .ok (.bipush 10, 2) := by decide +kernel
theorem dX9_house_36 : decode cX9_house 36 = .ok (.iload_n 1, 1) := by decide +kernel
theorem dX9_house_37 : decode cX9_house 37 = .ok (.imul, 1) := by decide +kernel
theorem dX9_house_38 : decode cX9_house 38 = .ok (.iadd, 1) := by decide +kernel
theorem dX9_house_39 : decode cX9_house 39 = .ok (.iload_n 2, 1) := by decide +kernel
theorem dX9_house_40 : decode cX9_house 40 = .ok (.iadd, 1) := by decide +kernel
theorem dX9_house_41 : decode cX9_house 41 = .ok (.iconst 1, 1) := by decide +kernel
theorem dX9_house_42 : decode cX9_house 42 = .ok (.iastore, 1) := by decide +kernel
theorem dX9_house_43 : decode cX9_house 43 = .ok (.iinc 2 1, 3) := by decide +kernel
theorem dX9_house_46 : decode cX9_house 46 = .ok (.goto (-25), 3) := by decide +kernel
theorem dX9_house_49 : decode cX9_house 49 = .ok (.aload_n 0, 1) := by decide +kernel
theorem dX9_house_50 : decode cX9_house 50 = .ok (.getfield 7, 3) := by decide +kernel
theorem dX9_house_53 : decode cX9_house 53 = .ok (.iconst 3, 1) := by decide +kernel
theorem dX9_house_54 : decode cX9_house 54 = .ok (.dup2, 1) := by decide +kernel
theorem dX9_house_55 : decode cX9_house 55 = .ok (.iaload, 1) := by decide +kernel
theorem dX9_house_56 : decode cX9_house 56 = .ok (.iconst 1, 1) := by decide +kernel
theorem dX9_house_57 : decode cX9_house 57 = .ok (.iadd, 1) := by decide +kernel
theorem dX9_house_58 : decode cX9_house 58 = .ok (.iastore, 1) := by decide +kernel
theorem dX9_house_59 : decode cX9_house 59 = .ok (.iload_n 1, 1) := by decide +kernel
theorem dX9_house_60 : decode cX9_house 60 = .ok (.ireturn, 1) := by decide +kernel
theorem dX9_isHouse_0 : decode cX9_isHouse 0 = .ok (.iload_n 1, 1) := by decide +kernel
theorem dX9_isHouse_1 : decode cX9_isHouse 1 = .ok (.iconst 0, 1) := by decide +kernel
theorem dX9_isHouse_2 : decode cX9_isHouse 2 = .ok (.aload_n 0, 1) := by decide +kernel
theorem dX9_isHouse_3 : decode cX9_isHouse 3 = .ok (.getfield 7, 3) := by decide +kernel
theorem dX9_isHouse_6 : decode cX9_isHouse 6 = .ok (.iconst 3, 1) := by decide +kernel
theorem dX9_isHouse_7 : decode cX9_isHouse 7 = .ok (.iaload, 1) := by decide +kernel
theorem dX9_isHouse_8 : decode cX9_isHouse 8 = .ok (.iconst 1, 1) := by decide +kernel
theorem dX9_isHouse_9 : decode cX9_isHouse 9 = .ok (.isub, 1) := by decide +kernel
theorem dX9_isHouse_10 : decode cX9_isHouse 10 = .ok (.invokestatic 50, 3) := by decide +kernel
theorem dX9_isHouse_13 : decode cX9_isHouse 13 = .ok (.ireturn, 1) := by decide +kernel
theorem dX9_habit_0 : decode cX9_habit 0 = .ok (.aload_n 0, 1) := by decide +kernel
theorem dX9_habit_1 : decode cX9_habit 1 = .ok (.iload_n 1, 1) := by decide +kernel
theorem dX9_habit_2 : decode cX9_habit 2 = .ok (.invokevirtual 188, 3) := by decide +kernel
theorem dX9_habit_5 : decode cX9_habit 5 = .ok (.ifCond .eq 23, 3) := by decide +kernel
theorem dX9_habit_8 : decode cX9_habit 8 = .ok (.iload_n 2, 1) := by decide +kernel
theorem dX9_habit_9 : decode cX9_habit 9 = .ok (.iconst 0, 1) := by decide +kernel
theorem dX9_habit_10 : decode cX9_habit 10 = .ok (.bipush 9, 2) := by decide +kernel
theorem dX9_habit_12 : decode cX9_habit 12 = .ok (.invokestatic 50, 3) := by decide +kernel
theorem dX9_habit_15 : decode cX9_habit 15 = .ok (.ifCond .eq 13, 3) := by decide +kernel
theorem dX9_habit_18 : decode cX9_habit 18 = .ok (.iload_n 3, 1) := by decide +kernel
theorem dX9_habit_19 : decode cX9_habit 19 = .ok (.iconst 0, 1) := by decide +kernel
theorem dX9_habit_20 : decode cX9_habit 20 = .ok (.bipush 9, 2) := by decide +kernel
theorem dX9_habit_22 : decode cX9_habit 22 = .ok (.invokestatic 50, 3) := by decide +kernel
theorem dX9_habit_25 : decode cX9_habit 25 = .ok (.ifCond .ne 10, 3) := by decide +kernel
theorem dX9_habit_28 : decode cX9_habit 28 = .ok (.aload_n 0, 1) := by decide +kernel
theorem dX9_habit_29 : decode cX9_habit 29 = .ok (.bipush (-2), 2) := by decide +kernel
theorem dX9_habit_31 : decode cX9_habit 31 = .ok (.invokevirtual 54, 3) := by decide +kernel
theorem dX9_habit_34 : decode cX9_habit 34 = .ok (.ireturn, 1) := by decide +kernel
theorem dX9_habit_35 : decode cX9_habit 35 = .ok (.aload_n 0, 1) := by decide +kernel
theorem dX9_habit_36 : decode cX9_habit 36 = .ok (.getfield 7, 3) := by decide +kernel
theorem dX9_habit_39 : decode cX9_habit 39 = .ok (.sipush 332, 3) := by decide +kernel
theorem dX9_habit_42 : decode cX9_habit 42 = .ok (.bipush 10, 2) := by decide +kernel
theorem dX9_habit_44 : decode cX9_habit 44 = .ok (.iload_n 1, 1) := by decide +kernel
theorem dX9_habit_45 : decode cX9_habit 45 = .ok (.imul, 1) := by decide +kernel
theorem dX9_habit_46 : decode cX9_habit 46 = .ok (.iadd, 1) := by decide +kernel
theorem dX9_habit_47 : decode cX9_habit 47 = .ok (.iload_n 2, 1) := by decide +kernel
theorem dX9_habit_48 : decode cX9_habit 48 = .ok (.iadd, 1) := by decide +kernel
theorem dX9_habit_49 : decode cX9_habit 49 = .ok (.iaload, 1) := by decide +kernel
theorem dX9_habit_50 : decode cX9_habit 50 = .ok (.istore 4, 2) := by decide +kernel
theorem dX9_habit_52 : decode cX9_habit 52 = .ok (.aload_n 0, 1) := by decide +kernel
theorem dX9_habit_53 : decode cX9_habit 53 = .ok (.getfield 7, 3) := by decide +kernel
theorem dX9_habit_56 : decode cX9_habit 56 = .ok (.sipush 332, 3) := by decide +kernel
theorem dX9_habit_59 : decode cX9_habit 59 = .ok (.bipush 10, 2) := by decide +kernel
theorem dX9_habit_61 : decode cX9_habit 61 = .ok (.iload_n 1, 1) := by decide +kernel
theorem dX9_habit_62 : decode cX9_habit 62 = .ok (.imul, 1) := by decide +kernel
theorem dX9_habit_63 : decode cX9_habit 63 = .ok (.iadd, 1) := by decide +kernel
theorem dX9_habit_64 : decode cX9_habit 64 = .ok (.iload_n 2, 1) := by decide +kernel
theorem dX9_habit_65 : decode cX9_habit 65 = .ok (.iadd, 1) := by decide +kernel
theorem dX9_habit_66 : decode cX9_habit 66 = .ok (.iload_n 3, 1) := by decide +kernel
theorem dX9_habit_67 : decode cX9_habit 67 = .ok (.iastore, 1) := by decide +kernel
theorem dX9_habit_68 : decode cX9_habit 68 = .ok (.iload 4, 2) := by decide +kernel
theorem dX9_habit_70 : decode cX9_habit 70 = .ok (.ireturn, 1) := by decide +kernel
theorem dX9_see_0 : decode cX9_see 0 = .ok (.iload_n 1, 1) := by decide +kernel
theorem dX9_see_1 : decode cX9_see 1 = .ok (.iconst 0, 1) := by decide +kernel
theorem dX9_see_2 : decode cX9_see 2 = .ok (.bipush 9, 2) := by decide +kernel
theorem dX9_see_4 : decode cX9_see 4 = .ok (.invokestatic 50, 3) := by decide +kernel
theorem dX9_see_7 : decode cX9_see 7 = .ok (.ifCond .ne 10, 3) := by decide +kernel
theorem dX9_see_10 : decode cX9_see 10 = .ok (.aload_n 0, 1) := by decide +kernel
theorem dX9_see_11 : decode cX9_see 11 = .ok (.bipush (-2), 2) := by decide +kernel
theorem dX9_see_13 : decode cX9_see 13 = .ok (.invokevirtual 54, 3) := by decide +kernel
theorem dX9_see_16 : decode cX9_see 16 = .ok (.ireturn, 1) := by decide +kernel
theorem dX9_see_17 : decode cX9_see 17 = .ok (.aload_n 0, 1) := by decide +kernel
theorem dX9_see_18 : decode cX9_see 18 = .ok (.getfield 7, 3) := by decide +kernel
theorem dX9_see_21 : decode cX9_see 21 = .ok (.iconst 4, 1) := by decide +kernel
theorem dX9_see_22 : decode cX9_see 22 = .ok (.iaload, 1) := by decide +kernel
theorem dX9_see_23 : decode cX9_see 23 = .ok (.bipush 8, 2) := by decide +kernel
theorem dX9_see_25 : decode cX9_see 25 = .ok (.if_icmp .ne 10, 3) := by decide +kernel
theorem dX9_see_28 : decode cX9_see 28 = .ok (.aload_n 0, 1) := by decide +kernel
theorem dX9_see_29 : decode cX9_see 29 = .ok (.bipush (-4), 2) := by decide +kernel
theorem dX9_see_31 : decode cX9_see 31 = .ok (.invokevirtual 54, 3) := by decide +kernel
theorem dX9_see_34 : decode cX9_see 34 = .ok (.ireturn, 1) := by decide +kernel
theorem dX9_see_35 : decode cX9_see 35 = .ok (.aload_n 0, 1) := by decide +kernel
theorem dX9_see_36 : decode cX9_see 36 = .ok (.getfield 7, 3) := by decide +kernel
theorem dX9_see_39 : decode cX9_see 39 = .ok (.sipush 372, 3) := by decide +kernel
theorem dX9_see_42 : decode cX9_see 42 = .ok (.aload_n 0, 1) := by decide +kernel
theorem dX9_see_43 : decode cX9_see 43 = .ok (.getfield 7, 3) := by decide +kernel
theorem dX9_see_46 : decode cX9_see 46 = .ok (.iconst 4, 1) := by decide +kernel
theorem dX9_see_47 : decode cX9_see 47 = .ok (.iaload, 1) := by decide +kernel
theorem dX9_see_48 : decode cX9_see 48 = .ok (.iadd, 1) := by decide +kernel
theorem dX9_see_49 : decode cX9_see 49 = .ok (.iload_n 1, 1) := by decide +kernel
theorem dX9_see_50 : decode cX9_see 50 = .ok (.iastore, 1) := by decide +kernel
theorem dX9_see_51 : decode cX9_see 51 = .ok (.aload_n 0, 1) := by decide +kernel
theorem dX9_see_52 : decode cX9_see 52 = .ok (.getfield 7, 3) := by decide +kernel
theorem dX9_see_55 : decode cX9_see 55 = .ok (.iconst 4, 1) := by decide +kernel
theorem dX9_see_56 : decode cX9_see 56 = .ok (.dup2, 1) := by decide +kernel
theorem dX9_see_57 : decode cX9_see 57 = .ok (.iaload, 1) := by decide +kernel
theorem dX9_see_58 : decode cX9_see 58 = .ok (.iconst 1, 1) := by decide +kernel
theorem dX9_see_59 : decode cX9_see 59 = .ok (.iadd, 1) := by decide +kernel
theorem dX9_see_60 : decode cX9_see 60 = .ok (.iastore, 1) := by decide +kernel
theorem dX9_see_61 : decode cX9_see 61 = .ok (.aload_n 0, 1) := by decide +kernel
theorem dX9_see_62 : decode cX9_see 62 = .ok (.getfield 7, 3) := by decide +kernel
theorem dX9_see_65 : decode cX9_see 65 = .ok (.iconst 4, 1) := by decide +kernel
theorem dX9_see_66 : decode cX9_see 66 = .ok (.iaload, 1) := by decide +kernel
theorem dX9_see_67 : decode cX9_see 67 = .ok (.ireturn, 1) := by decide +kernel
theorem dX9_forget_0 : decode cX9_forget 0 = .ok (.aload_n 0, 1) := by decide +kernel
theorem dX9_forget_1 : decode cX9_forget 1 = .ok (.getfield 7, 3) := by decide +kernel
theorem dX9_forget_4 : decode cX9_forget 4 = .ok (.iconst 4, 1) := by decide +kernel
theorem dX9_forget_5 : decode cX9_forget 5 = .ok (.iaload, 1) := by decide +kernel
theorem dX9_forget_6 : decode cX9_forget 6 = .ok (.istore_n 1, 1) := by decide +kernel
theorem dX9_forget_7 : decode cX9_forget 7 = .ok (.aload_n 0, 1) := by decide +kernel
theorem dX9_forget_8 : decode cX9_forget 8 = .ok (.getfield 7, 3) := by decide +kernel
theorem dX9_forget_11 : decode cX9_forget 11 = .ok (.iconst 4, 1) := by decide +kernel
theorem dX9_forget_12 : decode cX9_forget 12 = .ok (.iconst 0, 1) := by decide +kernel
theorem dX9_forget_13 : decode cX9_forget 13 = .ok (.iastore, 1) := by decide +kernel
theorem dX9_forget_14 : decode cX9_forget 14 = .ok (.iload_n 1, 1) := by decide +kernel
theorem dX9_forget_15 : decode cX9_forget 15 = .ok (.ireturn, 1) := by decide +kernel
theorem dX9_habitsOf_0 : decode cX9_habitsOf 0 = .ok (.iconst 0, 1) := by decide +kernel
theorem dX9_habitsOf_1 : decode cX9_habitsOf 1 = .ok (.istore_n 2, 1) := by decide +kernel
theorem dX9_habitsOf_2 : decode cX9_habitsOf 2 = .ok (.iconst 0, 1) := by decide +kernel
theorem dX9_habitsOf_3 : decode cX9_habitsOf 3 = .ok (.istore_n 3, 1) := by decide +kernel
theorem dX9_habitsOf_4 : decode cX9_habitsOf 4 = .ok (.iload_n 3, 1) := by decide +kernel
theorem dX9_habitsOf_5 : decode cX9_habitsOf 5 = .ok (.bipush 10, 2) := by decide +kernel
theorem dX9_habitsOf_7 : decode cX9_habitsOf 7 = .ok (.if_icmp .ge 27, 3) := by decide +kernel
theorem dX9_habitsOf_10 : decode cX9_habitsOf 10 = .ok (.iload_n 2, 1) := by decide +kernel
theorem dX9_habitsOf_11 : decode cX9_habitsOf 11 = .ok (.aload_n 0, 1) := by decide +kernel
theorem dX9_habitsOf_12 : decode cX9_habitsOf 12 = .ok (.getfield 7, 3) := by decide +kernel
theorem dX9_habitsOf_15 : decode cX9_habitsOf 15 = .ok (.sipush 332, 3) := by decide +kernel
theorem dX9_habitsOf_18 : decode cX9_habitsOf 18 = .ok (.bipush 10, 2) := by decide +kernel
theorem dX9_habitsOf_20 : decode cX9_habitsOf 20 = .ok (.iload_n 1, 1) := by decide +kernel
theorem dX9_habitsOf_21 : decode cX9_habitsOf 21 = .ok (.imul, 1) := by decide +kernel
theorem dX9_habitsOf_22 : decode cX9_habitsOf 22 = .ok (.iadd, 1) := by decide +kernel
theorem dX9_habitsOf_23 : decode cX9_habitsOf 23 = .ok (.iload_n 3, 1) := by decide +kernel
theorem dX9_habitsOf_24 : decode cX9_habitsOf 24 = .ok (.iadd, 1) := by decide +kernel
theorem dX9_habitsOf_25 : decode cX9_habitsOf 25 = .ok (.iaload, 1) := by decide +kernel
theorem dX9_habitsOf_26 : decode cX9_habitsOf 26 = .ok (.iadd, 1) := by decide +kernel
theorem dX9_habitsOf_27 : decode cX9_habitsOf 27 = .ok (.istore_n 2, 1) := by decide +kernel
theorem dX9_habitsOf_28 : decode cX9_habitsOf 28 = .ok (.iinc 3 1, 3) := by decide +kernel
theorem dX9_habitsOf_31 : decode cX9_habitsOf 31 = .ok (.goto (-27), 3) := by decide +kernel
theorem dX9_habitsOf_34 : decode cX9_habitsOf 34 = .ok (.iload_n 2, 1) := by decide +kernel
theorem dX9_habitsOf_35 : decode cX9_habitsOf 35 = .ok (.ireturn, 1) := by decide +kernel
theorem dX9_likelyTo_0 : decode cX9_likelyTo 0 = .ok (.aload_n 0, 1) := by decide +kernel
theorem dX9_likelyTo_1 : decode cX9_likelyTo 1 = .ok (.iload_n 1, 1) := by decide +kernel
theorem dX9_likelyTo_2 : decode cX9_likelyTo 2 = .ok (.iconst 1, 1) := by decide +kernel
theorem dX9_likelyTo_3 : decode cX9_likelyTo 3 = .ok (.invokevirtual 93, 3) := by decide +kernel
theorem dX9_likelyTo_6 : decode cX9_likelyTo 6 = .ok (.iconst 0, 1) := by decide +kernel
theorem dX9_likelyTo_7 : decode cX9_likelyTo 7 = .ok (.istore_n 3, 1) := by decide +kernel
theorem dX9_likelyTo_8 : decode cX9_likelyTo 8 = .ok (.iload_n 3, 1) := by decide +kernel
theorem dX9_likelyTo_9 : decode cX9_likelyTo 9 = .ok (.aload_n 0, 1) := by decide +kernel
theorem dX9_likelyTo_10 : decode cX9_likelyTo 10 = .ok (.getfield 7, 3) := by decide +kernel
theorem dX9_likelyTo_13 : decode cX9_likelyTo 13 = .ok (.iconst 4, 1) := by decide +kernel
theorem dX9_likelyTo_14 : decode cX9_likelyTo 14 = .ok (.iaload, 1) := by decide +kernel
theorem dX9_likelyTo_15 : decode cX9_likelyTo 15 = .ok (.if_icmp .ge 88, 3) := by decide +kernel
theorem dX9_likelyTo_18 : decode cX9_likelyTo 18 = .ok (.aload_n 0, 1) := by decide +kernel
theorem dX9_likelyTo_19 : decode cX9_likelyTo 19 = .ok (.iload_n 1, 1) := by decide +kernel
theorem dX9_likelyTo_20 : decode cX9_likelyTo 20 = .ok (.aload_n 0, 1) := by decide +kernel
theorem dX9_likelyTo_21 : decode cX9_likelyTo 21 = .ok (.getfield 7, 3) := by decide +kernel
theorem dX9_likelyTo_24 : decode cX9_likelyTo 24 = .ok (.sipush 332, 3) := by decide +kernel
theorem dX9_likelyTo_27 : decode cX9_likelyTo 27 = .ok (.bipush 10, 2) := by decide +kernel
theorem dX9_likelyTo_29 : decode cX9_likelyTo 29 = .ok (.iload_n 2, 1) := by decide +kernel
theorem dX9_likelyTo_30 : decode cX9_likelyTo 30 = .ok (.imul, 1) := by decide +kernel
theorem dX9_likelyTo_31 : decode cX9_likelyTo 31 = .ok (.iadd, 1) := by decide +kernel
theorem dX9_likelyTo_32 : decode cX9_likelyTo 32 = .ok (.aload_n 0, 1) := by decide +kernel
theorem dX9_likelyTo_33 : decode cX9_likelyTo 33 = .ok (.getfield 7, 3) := by decide +kernel
theorem dX9_likelyTo_36 : decode cX9_likelyTo 36 = .ok (.sipush 372, 3) := by decide +kernel
theorem dX9_likelyTo_39 : decode cX9_likelyTo 39 = .ok (.iload_n 3, 1) := by decide +kernel
theorem dX9_likelyTo_40 : decode cX9_likelyTo 40 = .ok (.iadd, 1) := by decide +kernel
theorem dX9_likelyTo_41 : decode cX9_likelyTo 41 = .ok (.iaload, 1) := by decide +kernel
theorem dX9_likelyTo_42 : decode cX9_likelyTo 42 = .ok (.iadd, 1) := by decide +kernel
theorem dX9_likelyTo_43 : decode cX9_likelyTo 43 = .ok (.iaload, 1) := by decide +kernel
theorem dX9_likelyTo_44 : decode cX9_likelyTo 44 = .ok (.invokevirtual 100, 3) := by decide +kernel
theorem dX9_likelyTo_47 : decode cX9_likelyTo 47 = .ok (.iconst 0, 1) := by decide +kernel
theorem dX9_likelyTo_48 : decode cX9_likelyTo 48 = .ok (.istore 4, 2) := by decide +kernel
theorem dX9_likelyTo_50 : decode cX9_likelyTo 50 = .ok (.iload 4, 2) := by decide +kernel
theorem dX9_likelyTo_52 : decode cX9_likelyTo 52 = .ok (.aload_n 0, 1) := by decide +kernel
theorem dX9_likelyTo_53 : decode cX9_likelyTo 53 = .ok (.getfield 7, 3) := by decide +kernel
theorem dX9_likelyTo_56 : decode cX9_likelyTo 56 = .ok (.iconst 3, 1) := by decide +kernel
theorem dX9_likelyTo_57 : decode cX9_likelyTo 57 = .ok (.iaload, 1) := by decide +kernel
theorem dX9_likelyTo_58 : decode cX9_likelyTo 58 = .ok (.if_icmp .ge 39, 3) := by decide +kernel
theorem dX9_likelyTo_61 : decode cX9_likelyTo 61 = .ok (.aload_n 0, 1) := by decide +kernel
theorem dX9_likelyTo_62 : decode cX9_likelyTo 62 = .ok (.iload 4, 2) := by decide +kernel
theorem dX9_likelyTo_64 : decode cX9_likelyTo 64 = .ok (.invokevirtual 191, 3) := by decide +kernel
theorem dX9_likelyTo_67 : decode cX9_likelyTo 67 = .ok (.istore 5, 2) := by decide +kernel
theorem dX9_likelyTo_69 : decode cX9_likelyTo 69 = .ok (.aload_n 0, 1) := by decide +kernel
theorem dX9_likelyTo_70 : decode cX9_likelyTo 70 = .ok (.iload_n 1, 1) := by decide +kernel
theorem dX9_likelyTo_71 : decode cX9_likelyTo 71 = .ok (.iload 4, 2) := by decide +kernel
theorem dX9_likelyTo_73 : decode cX9_likelyTo 73 = .ok (.iload_n 2, 1) := by decide +kernel
theorem dX9_likelyTo_74 : decode cX9_likelyTo 74 = .ok (.if_icmp .eq 8, 3) := by decide +kernel
theorem dX9_likelyTo_77 : decode cX9_likelyTo 77 = .ok (.iload 5, 2) := by decide +kernel
theorem dX9_likelyTo_79 : decode cX9_likelyTo 79 = .ok (.ifCond .ne 7, 3) := by decide +kernel
theorem dX9_likelyTo_82 : decode cX9_likelyTo 82 = .ok (.iconst 1, 1) := by decide +kernel
theorem dX9_likelyTo_83 : decode cX9_likelyTo 83 = .ok (.goto 5, 3) := by decide +kernel
theorem dX9_likelyTo_86 : decode cX9_likelyTo 86 = .ok (.iload 5, 2) := by decide +kernel
theorem dX9_likelyTo_88 : decode cX9_likelyTo 88 = .ok (.invokevirtual 100, 3) := by decide +kernel
theorem dX9_likelyTo_91 : decode cX9_likelyTo 91 = .ok (.iinc 4 1, 3) := by decide +kernel
theorem dX9_likelyTo_94 : decode cX9_likelyTo 94 = .ok (.goto (-44), 3) := by decide +kernel
theorem dX9_likelyTo_97 : decode cX9_likelyTo 97 = .ok (.iinc 3 1, 3) := by decide +kernel
theorem dX9_likelyTo_100 : decode cX9_likelyTo 100 = .ok (.goto (-92), 3) := by decide +kernel
theorem dX9_likelyTo_103 : decode cX9_likelyTo 103 = .ok (.return_, 1) := by decide +kernel
theorem dX9_whose_0 : decode cX9_whose 0 = .ok (.aload_n 0, 1) := by decide +kernel
theorem dX9_whose_1 : decode cX9_whose 1 = .ok (.iload_n 1, 1) := by decide +kernel
theorem dX9_whose_2 : decode cX9_whose 2 = .ok (.invokevirtual 188, 3) := by decide +kernel
theorem dX9_whose_5 : decode cX9_whose 5 = .ok (.ifCond .ne 10, 3) := by decide +kernel
theorem dX9_whose_8 : decode cX9_whose 8 = .ok (.aload_n 0, 1) := by decide +kernel
theorem dX9_whose_9 : decode cX9_whose 9 = .ok (.bipush (-2), 2) := by decide +kernel
theorem dX9_whose_11 : decode cX9_whose 11 = .ok (.invokevirtual 54, 3) := by decide +kernel
theorem dX9_whose_14 : decode cX9_whose 14 = .ok (.ireturn, 1) := by decide +kernel
theorem dX9_whose_15 : decode cX9_whose 15 = .ok (.aload_n 0, 1) := by decide +kernel
theorem dX9_whose_16 : decode cX9_whose 16 = .ok (.iconst 3, 1) := by decide +kernel
theorem dX9_whose_17 : decode cX9_whose 17 = .ok (.iconst 0, 1) := by decide +kernel
theorem dX9_whose_18 : decode cX9_whose 18 = .ok (.invokevirtual 93, 3) := by decide +kernel
theorem dX9_whose_21 : decode cX9_whose 21 = .ok (.iconst 0, 1) := by decide +kernel
theorem dX9_whose_22 : decode cX9_whose 22 = .ok (.istore_n 2, 1) := by decide +kernel
theorem dX9_whose_23 : decode cX9_whose 23 = .ok (.iload_n 2, 1) := by decide +kernel
theorem dX9_whose_24 : decode cX9_whose 24 = .ok (.aload_n 0, 1) := by decide +kernel
theorem dX9_whose_25 : decode cX9_whose 25 = .ok (.getfield 7, 3) := by decide +kernel
theorem dX9_whose_28 : decode cX9_whose 28 = .ok (.iconst 3, 1) := by decide +kernel
theorem dX9_whose_29 : decode cX9_whose 29 = .ok (.iaload, 1) := by decide +kernel
theorem dX9_whose_30 : decode cX9_whose 30 = .ok (.if_icmp .ge 21, 3) := by decide +kernel
theorem dX9_whose_33 : decode cX9_whose 33 = .ok (.aload_n 0, 1) := by decide +kernel
theorem dX9_whose_34 : decode cX9_whose 34 = .ok (.iconst 2, 1) := by decide +kernel
theorem dX9_whose_35 : decode cX9_whose 35 = .ok (.iload_n 2, 1) := by decide +kernel
theorem dX9_whose_36 : decode cX9_whose 36 = .ok (.invokevirtual 194, 3) := by decide +kernel
theorem dX9_whose_39 : decode cX9_whose 39 = .ok (.aload_n 0, 1) := by decide +kernel
theorem dX9_whose_40 : decode cX9_whose 40 = .ok (.iconst 3, 1) := by decide +kernel
theorem dX9_whose_41 : decode cX9_whose 41 = .ok (.iconst 2, 1) := by decide +kernel
theorem dX9_whose_42 : decode cX9_whose 42 = .ok (.invokevirtual 103, 3) := by decide +kernel
theorem dX9_whose_45 : decode cX9_whose 45 = .ok (.iinc 2 1, 3) := by decide +kernel
theorem dX9_whose_48 : decode cX9_whose 48 = .ok (.goto (-25), 3) := by decide +kernel
theorem dX9_whose_51 : decode cX9_whose 51 = .ok (.aload_n 0, 1) := by decide +kernel
theorem dX9_whose_52 : decode cX9_whose 52 = .ok (.iconst 3, 1) := by decide +kernel
theorem dX9_whose_53 : decode cX9_whose 53 = .ok (.invokevirtual 197, 3) := by decide +kernel
theorem dX9_whose_56 : decode cX9_whose 56 = .ok (.ifCond .eq 10, 3) := by decide +kernel
theorem dX9_whose_59 : decode cX9_whose 59 = .ok (.aload_n 0, 1) := by decide +kernel
theorem dX9_whose_60 : decode cX9_whose 60 = .ok (.bipush (-3), 2) := by decide +kernel
theorem dX9_whose_62 : decode cX9_whose 62 = .ok (.invokevirtual 54, 3) := by decide +kernel
theorem dX9_whose_65 : decode cX9_whose 65 = .ok (.ireturn, 1) := by decide +kernel
theorem dX9_whose_66 : decode cX9_whose 66 = .ok (.aload_n 0, 1) := by decide +kernel
theorem dX9_whose_67 : decode cX9_whose 67 = .ok (.iconst 0, 1) := by decide +kernel
theorem dX9_whose_68 : decode cX9_whose 68 = .ok (.iload_n 1, 1) := by decide +kernel
theorem dX9_whose_69 : decode cX9_whose 69 = .ok (.invokevirtual 194, 3) := by decide +kernel
theorem dX9_whose_72 : decode cX9_whose 72 = .ok (.aload_n 0, 1) := by decide +kernel
theorem dX9_whose_73 : decode cX9_whose 73 = .ok (.iconst 3, 1) := by decide +kernel
theorem dX9_whose_74 : decode cX9_whose 74 = .ok (.iconst 1, 1) := by decide +kernel
theorem dX9_whose_75 : decode cX9_whose 75 = .ok (.invokevirtual 200, 3) := by decide +kernel
theorem dX9_whose_78 : decode cX9_whose 78 = .ok (.aload_n 0, 1) := by decide +kernel
theorem dX9_whose_79 : decode cX9_whose 79 = .ok (.invokevirtual 97, 3) := by decide +kernel
theorem dX9_whose_82 : decode cX9_whose 82 = .ok (.iconst 1, 1) := by decide +kernel
theorem dX9_whose_83 : decode cX9_whose 83 = .ok (.ireturn, 1) := by decide +kernel
theorem dX9_set_0 : decode cX9_set 0 = .ok (.iconst 0, 1) := by decide +kernel
theorem dX9_set_1 : decode cX9_set 1 = .ok (.istore_n 3, 1) := by decide +kernel
theorem dX9_set_2 : decode cX9_set 2 = .ok (.iload_n 3, 1) := by decide +kernel
theorem dX9_set_3 : decode cX9_set 3 = .ok (.bipush 16, 2) := by decide +kernel
theorem dX9_set_5 : decode cX9_set 5 = .ok (.if_icmp .ge 29, 3) := by decide +kernel
theorem dX9_set_8 : decode cX9_set 8 = .ok (.aload_n 0, 1) := by decide +kernel
theorem dX9_set_9 : decode cX9_set 9 = .ok (.getfield 47, 3) := by decide +kernel
theorem dX9_set_12 : decode cX9_set 12 = .ok (.bipush 16, 2) := by decide +kernel
theorem dX9_set_14 : decode cX9_set 14 = .ok (.iload_n 1, 1) := by decide +kernel
theorem dX9_set_15 : decode cX9_set 15 = .ok (.imul, 1) := by decide +kernel
theorem dX9_set_16 : decode cX9_set 16 = .ok (.iload_n 3, 1) := by decide +kernel
theorem dX9_set_17 : decode cX9_set 17 = .ok (.iadd, 1) := by decide +kernel
theorem dX9_set_18 : decode cX9_set 18 = .ok (.iload_n 3, 1) := by decide +kernel
theorem dX9_set_19 : decode cX9_set 19 = .ok (.ifCond .ne 7, 3) := by decide +kernel
theorem dX9_set_22 : decode cX9_set 22 = .ok (.iload_n 2, 1) := by decide +kernel
theorem dX9_set_23 : decode cX9_set 23 = .ok (.goto 4, 3) := by decide +kernel
theorem dX9_set_26 : decode cX9_set 26 = .ok (.iconst 0, 1) := by decide +kernel
theorem dX9_set_27 : decode cX9_set 27 = .ok (.iastore, 1) := by decide +kernel
theorem dX9_set_28 : decode cX9_set 28 = .ok (.iinc 3 1, 3) := by decide +kernel
theorem dX9_set_31 : decode cX9_set 31 = .ok (.goto (-29), 3) := by decide +kernel
theorem dX9_set_34 : decode cX9_set 34 = .ok (.return_, 1) := by decide +kernel
theorem dX9_copy_0 : decode cX9_copy 0 = .ok (.iconst 0, 1) := by decide +kernel
theorem dX9_copy_1 : decode cX9_copy 1 = .ok (.istore_n 3, 1) := by decide +kernel
theorem dX9_copy_2 : decode cX9_copy 2 = .ok (.iload_n 3, 1) := by decide +kernel
theorem dX9_copy_3 : decode cX9_copy 3 = .ok (.bipush 16, 2) := by decide +kernel
theorem dX9_copy_5 : decode cX9_copy 5 = .ok (.if_icmp .ge 31, 3) := by decide +kernel
theorem dX9_copy_8 : decode cX9_copy 8 = .ok (.aload_n 0, 1) := by decide +kernel
theorem dX9_copy_9 : decode cX9_copy 9 = .ok (.getfield 47, 3) := by decide +kernel
theorem dX9_copy_12 : decode cX9_copy 12 = .ok (.bipush 16, 2) := by decide +kernel
theorem dX9_copy_14 : decode cX9_copy 14 = .ok (.iload_n 2, 1) := by decide +kernel
theorem dX9_copy_15 : decode cX9_copy 15 = .ok (.imul, 1) := by decide +kernel
theorem dX9_copy_16 : decode cX9_copy 16 = .ok (.iload_n 3, 1) := by decide +kernel
theorem dX9_copy_17 : decode cX9_copy 17 = .ok (.iadd, 1) := by decide +kernel
theorem dX9_copy_18 : decode cX9_copy 18 = .ok (.aload_n 0, 1) := by decide +kernel
theorem dX9_copy_19 : decode cX9_copy 19 = .ok (.getfield 47, 3) := by decide +kernel
theorem dX9_copy_22 : decode cX9_copy 22 = .ok (.bipush 16, 2) := by decide +kernel
theorem dX9_copy_24 : decode cX9_copy 24 = .ok (.iload_n 1, 1) := by decide +kernel
theorem dX9_copy_25 : decode cX9_copy 25 = .ok (.imul, 1) := by decide +kernel
theorem dX9_copy_26 : decode cX9_copy 26 = .ok (.iload_n 3, 1) := by decide +kernel
theorem dX9_copy_27 : decode cX9_copy 27 = .ok (.iadd, 1) := by decide +kernel
theorem dX9_copy_28 : decode cX9_copy 28 = .ok (.iaload, 1) := by decide +kernel
theorem dX9_copy_29 : decode cX9_copy 29 = .ok (.iastore, 1) := by decide +kernel
theorem dX9_copy_30 : decode cX9_copy 30 = .ok (.iinc 3 1, 3) := by decide +kernel
theorem dX9_copy_33 : decode cX9_copy 33 = .ok (.goto (-31), 3) := by decide +kernel
theorem dX9_copy_36 : decode cX9_copy 36 = .ok (.return_, 1) := by decide +kernel
theorem dX9_times_0 : decode cX9_times 0 = .ok (.lconst 0, 1) := by decide +kernel
theorem dX9_times_1 : decode cX9_times 1 = .ok (.lstore_n 3, 1) := by decide +kernel
theorem dX9_times_2 : decode cX9_times 2 = .ok (.iconst 0, 1) := by decide +kernel
theorem dX9_times_3 : decode cX9_times 3 = .ok (.istore 5, 2) := by decide +kernel
theorem dX9_times_5 : decode cX9_times 5 = .ok (.iload 5, 2) := by decide +kernel
theorem dX9_times_7 : decode cX9_times 7 = .ok (.bipush 16, 2) := by decide +kernel
theorem dX9_times_9 : decode cX9_times 9 = .ok (.if_icmp .ge 55, 3) := by decide +kernel
theorem dX9_times_12 : decode cX9_times 12 = .ok (.aload_n 0, 1) := by decide +kernel
theorem dX9_times_13 : decode cX9_times 13 = .ok (.getfield 47, 3) := by decide +kernel
theorem dX9_times_16 : decode cX9_times 16 = .ok (.bipush 16, 2) := by decide +kernel
theorem dX9_times_18 : decode cX9_times 18 = .ok (.iload_n 1, 1) := by decide +kernel
theorem dX9_times_19 : decode cX9_times 19 = .ok (.imul, 1) := by decide +kernel
theorem dX9_times_20 : decode cX9_times 20 = .ok (.iload 5, 2) := by decide +kernel
theorem dX9_times_22 : decode cX9_times 22 = .ok (.iadd, 1) := by decide +kernel
theorem dX9_times_23 : decode cX9_times 23 = .ok (.iaload, 1) := by decide +kernel
theorem dX9_times_24 : decode cX9_times 24 = .ok (.i2l, 1) := by decide +kernel
theorem dX9_times_25 : decode cX9_times 25 = .ok (.iload_n 2, 1) := by decide +kernel
theorem dX9_times_26 : decode cX9_times 26 = .ok (.i2l, 1) := by decide +kernel
theorem dX9_times_27 : decode cX9_times 27 = .ok (.lmul, 1) := by decide +kernel
theorem dX9_times_28 : decode cX9_times 28 = .ok (.lload_n 3, 1) := by decide +kernel
theorem dX9_times_29 : decode cX9_times 29 = .ok (.ladd, 1) := by decide +kernel
theorem dX9_times_30 : decode cX9_times 30 = .ok (.lstore 6, 2) := by decide +kernel
theorem dX9_times_32 : decode cX9_times 32 = .ok (.aload_n 0, 1) := by decide +kernel
theorem dX9_times_33 : decode cX9_times 33 = .ok (.getfield 47, 3) := by decide +kernel
theorem dX9_times_36 : decode cX9_times 36 = .ok (.bipush 16, 2) := by decide +kernel
theorem dX9_times_38 : decode cX9_times 38 = .ok (.iload_n 1, 1) := by decide +kernel
theorem dX9_times_39 : decode cX9_times 39 = .ok (.imul, 1) := by decide +kernel
theorem dX9_times_40 : decode cX9_times 40 = .ok (.iload 5, 2) := by decide +kernel
theorem dX9_times_42 : decode cX9_times 42 = .ok (.iadd, 1) := by decide +kernel
theorem dX9_times_43 : decode cX9_times 43 = .ok (.lload 6, 2) := by decide +kernel
theorem dX9_times_45 : decode cX9_times 45 = .ok (.ldc2_w 203, 3) := by decide +kernel
theorem dX9_times_48 : decode cX9_times 48 = .ok (.lrem, 1) := by decide +kernel
theorem dX9_times_49 : decode cX9_times 49 = .ok (.l2i, 1) := by decide +kernel
theorem dX9_times_50 : decode cX9_times 50 = .ok (.iastore, 1) := by decide +kernel
theorem dX9_times_51 : decode cX9_times 51 = .ok (.lload 6, 2) := by decide +kernel
theorem dX9_times_53 : decode cX9_times 53 = .ok (.ldc2_w 203, 3) := by decide +kernel
theorem dX9_times_56 : decode cX9_times 56 = .ok (.ldiv, 1) := by decide +kernel
theorem dX9_times_57 : decode cX9_times 57 = .ok (.lstore_n 3, 1) := by decide +kernel
theorem dX9_times_58 : decode cX9_times 58 = .ok (.iinc 5 1, 3) := by decide +kernel
theorem dX9_times_61 : decode cX9_times 61 = .ok (.goto (-56), 3) := by decide +kernel
theorem dX9_times_64 : decode cX9_times 64 = .ok (.return_, 1) := by decide +kernel
theorem dX9_add_0 : decode cX9_add 0 = .ok (.iconst 0, 1) := by decide +kernel
theorem dX9_add_1 : decode cX9_add 1 = .ok (.istore_n 3, 1) := by decide +kernel
theorem dX9_add_2 : decode cX9_add 2 = .ok (.iconst 0, 1) := by decide +kernel
theorem dX9_add_3 : decode cX9_add 3 = .ok (.istore 4, 2) := by decide +kernel
theorem dX9_add_5 : decode cX9_add 5 = .ok (.iload 4, 2) := by decide +kernel
theorem dX9_add_7 : decode cX9_add 7 = .ok (.bipush 16, 2) := by decide +kernel
theorem dX9_add_9 : decode cX9_add 9 = .ok (.if_icmp .ge 68, 3) := by decide +kernel
theorem dX9_add_12 : decode cX9_add 12 = .ok (.aload_n 0, 1) := by decide +kernel
theorem dX9_add_13 : decode cX9_add 13 = .ok (.getfield 47, 3) := by decide +kernel
theorem dX9_add_16 : decode cX9_add 16 = .ok (.bipush 16, 2) := by decide +kernel
theorem dX9_add_18 : decode cX9_add 18 = .ok (.iload_n 1, 1) := by decide +kernel
theorem dX9_add_19 : decode cX9_add 19 = .ok (.imul, 1) := by decide +kernel
theorem dX9_add_20 : decode cX9_add 20 = .ok (.iload 4, 2) := by decide +kernel
theorem dX9_add_22 : decode cX9_add 22 = .ok (.iadd, 1) := by decide +kernel
theorem dX9_add_23 : decode cX9_add 23 = .ok (.iaload, 1) := by decide +kernel
theorem dX9_add_24 : decode cX9_add 24 = .ok (.i2l, 1) := by decide +kernel
theorem dX9_add_25 : decode cX9_add 25 = .ok (.aload_n 0, 1) := by decide +kernel
theorem dX9_add_26 : decode cX9_add 26 = .ok (.getfield 47, 3) := by decide +kernel
theorem dX9_add_29 : decode cX9_add 29 = .ok (.bipush 16, 2) := by decide +kernel
theorem dX9_add_31 : decode cX9_add 31 = .ok (.iload_n 2, 1) := by decide +kernel
theorem dX9_add_32 : decode cX9_add 32 = .ok (.imul, 1) := by decide +kernel
theorem dX9_add_33 : decode cX9_add 33 = .ok (.iload 4, 2) := by decide +kernel
theorem dX9_add_35 : decode cX9_add 35 = .ok (.iadd, 1) := by decide +kernel
theorem dX9_add_36 : decode cX9_add 36 = .ok (.iaload, 1) := by decide +kernel
theorem dX9_add_37 : decode cX9_add 37 = .ok (.i2l, 1) := by decide +kernel
theorem dX9_add_38 : decode cX9_add 38 = .ok (.ladd, 1) := by decide +kernel
theorem dX9_add_39 : decode cX9_add 39 = .ok (.iload_n 3, 1) := by decide +kernel
theorem dX9_add_40 : decode cX9_add 40 = .ok (.i2l, 1) := by decide +kernel
theorem dX9_add_41 : decode cX9_add 41 = .ok (.ladd, 1) := by decide +kernel
theorem dX9_add_42 : decode cX9_add 42 = .ok (.lstore 5, 2) := by decide +kernel
theorem dX9_add_44 : decode cX9_add 44 = .ok (.aload_n 0, 1) := by decide +kernel
theorem dX9_add_45 : decode cX9_add 45 = .ok (.getfield 47, 3) := by decide +kernel
theorem dX9_add_48 : decode cX9_add 48 = .ok (.bipush 16, 2) := by decide +kernel
theorem dX9_add_50 : decode cX9_add 50 = .ok (.iload_n 1, 1) := by decide +kernel
theorem dX9_add_51 : decode cX9_add 51 = .ok (.imul, 1) := by decide +kernel
theorem dX9_add_52 : decode cX9_add 52 = .ok (.iload 4, 2) := by decide +kernel
theorem dX9_add_54 : decode cX9_add 54 = .ok (.iadd, 1) := by decide +kernel
theorem dX9_add_55 : decode cX9_add 55 = .ok (.lload 5, 2) := by decide +kernel
theorem dX9_add_57 : decode cX9_add 57 = .ok (.ldc2_w 203, 3) := by decide +kernel
theorem dX9_add_60 : decode cX9_add 60 = .ok (.lrem, 1) := by decide +kernel
theorem dX9_add_61 : decode cX9_add 61 = .ok (.l2i, 1) := by decide +kernel
theorem dX9_add_62 : decode cX9_add 62 = .ok (.iastore, 1) := by decide +kernel
theorem dX9_add_63 : decode cX9_add 63 = .ok (.lload 5, 2) := by decide +kernel
theorem dX9_add_65 : decode cX9_add 65 = .ok (.ldc2_w 203, 3) := by decide +kernel
theorem dX9_add_68 : decode cX9_add 68 = .ok (.ldiv, 1) := by decide +kernel
theorem dX9_add_69 : decode cX9_add 69 = .ok (.l2i, 1) := by decide +kernel
theorem dX9_add_70 : decode cX9_add 70 = .ok (.istore_n 3, 1) := by decide +kernel
theorem dX9_add_71 : decode cX9_add 71 = .ok (.iinc 4 1, 3) := by decide +kernel
theorem dX9_add_74 : decode cX9_add 74 = .ok (.goto (-69), 3) := by decide +kernel
theorem dX9_add_77 : decode cX9_add 77 = .ok (.return_, 1) := by decide +kernel
theorem dX9_less_0 : decode cX9_less 0 = .ok (.iconst 0, 1) := by decide +kernel
theorem dX9_less_1 : decode cX9_less 1 = .ok (.istore_n 3, 1) := by decide +kernel
theorem dX9_less_2 : decode cX9_less 2 = .ok (.iconst 0, 1) := by decide +kernel
theorem dX9_less_3 : decode cX9_less 3 = .ok (.istore 4, 2) := by decide +kernel
theorem dX9_less_5 : decode cX9_less 5 = .ok (.iload 4, 2) := by decide +kernel
theorem dX9_less_7 : decode cX9_less 7 = .ok (.bipush 16, 2) := by decide +kernel
theorem dX9_less_9 : decode cX9_less 9 = .ok (.if_icmp .ge 76, 3) := by decide +kernel
theorem dX9_less_12 : decode cX9_less 12 = .ok (.aload_n 0, 1) := by decide +kernel
theorem dX9_less_13 : decode cX9_less 13 = .ok (.getfield 47, 3) := by decide +kernel
theorem dX9_less_16 : decode cX9_less 16 = .ok (.bipush 16, 2) := by decide +kernel
theorem dX9_less_18 : decode cX9_less 18 = .ok (.iload_n 1, 1) := by decide +kernel
theorem dX9_less_19 : decode cX9_less 19 = .ok (.imul, 1) := by decide +kernel
theorem dX9_less_20 : decode cX9_less 20 = .ok (.iload 4, 2) := by decide +kernel
theorem dX9_less_22 : decode cX9_less 22 = .ok (.iadd, 1) := by decide +kernel
theorem dX9_less_23 : decode cX9_less 23 = .ok (.iaload, 1) := by decide +kernel
theorem dX9_less_24 : decode cX9_less 24 = .ok (.aload_n 0, 1) := by decide +kernel
theorem dX9_less_25 : decode cX9_less 25 = .ok (.getfield 47, 3) := by decide +kernel
theorem dX9_less_28 : decode cX9_less 28 = .ok (.bipush 16, 2) := by decide +kernel
theorem dX9_less_30 : decode cX9_less 30 = .ok (.iload_n 2, 1) := by decide +kernel
theorem dX9_less_31 : decode cX9_less 31 = .ok (.imul, 1) := by decide +kernel
theorem dX9_less_32 : decode cX9_less 32 = .ok (.iload 4, 2) := by decide +kernel
theorem dX9_less_34 : decode cX9_less 34 = .ok (.iadd, 1) := by decide +kernel
theorem dX9_less_35 : decode cX9_less 35 = .ok (.iaload, 1) := by decide +kernel
theorem dX9_less_36 : decode cX9_less 36 = .ok (.isub, 1) := by decide +kernel
theorem dX9_less_37 : decode cX9_less 37 = .ok (.iload_n 3, 1) := by decide +kernel
theorem dX9_less_38 : decode cX9_less 38 = .ok (.isub, 1) := by decide +kernel
theorem dX9_less_39 : decode cX9_less 39 = .ok (.istore 5, 2) := by decide +kernel
theorem dX9_less_41 : decode cX9_less 41 = .ok (.iload 5, 2) := by decide +kernel
theorem dX9_less_43 : decode cX9_less 43 = .ok (.ifCond .ge 7, 3) := by decide +kernel
theorem dX9_less_46 : decode cX9_less 46 = .ok (.iconst 1, 1) := by decide +kernel
theorem dX9_less_47 : decode cX9_less 47 = .ok (.goto 4, 3) := by decide +kernel
theorem dX9_less_50 : decode cX9_less 50 = .ok (.iconst 0, 1) := by decide +kernel
theorem dX9_less_51 : decode cX9_less 51 = .ok (.istore_n 3, 1) := by decide +kernel
theorem dX9_less_52 : decode cX9_less 52 = .ok (.aload_n 0, 1) := by decide +kernel
theorem dX9_less_53 : decode cX9_less 53 = .ok (.getfield 47, 3) := by decide +kernel
theorem dX9_less_56 : decode cX9_less 56 = .ok (.bipush 16, 2) := by decide +kernel
theorem dX9_less_58 : decode cX9_less 58 = .ok (.iload_n 1, 1) := by decide +kernel
theorem dX9_less_59 : decode cX9_less 59 = .ok (.imul, 1) := by decide +kernel
theorem dX9_less_60 : decode cX9_less 60 = .ok (.iload 4, 2) := by decide +kernel
theorem dX9_less_62 : decode cX9_less 62 = .ok (.iadd, 1) := by decide +kernel
theorem dX9_less_63 : decode cX9_less 63 = .ok (.iload 5, 2) := by decide +kernel
theorem dX9_less_65 : decode cX9_less 65 = .ok (.ifCond .ge 11, 3) := by decide +kernel
theorem dX9_less_68 : decode cX9_less 68 = .ok (.iload 5, 2) := by decide +kernel
theorem dX9_less_70 : decode cX9_less 70 = .ok (.ldc 205, 2) := by decide +kernel
theorem dX9_less_72 : decode cX9_less 72 = .ok (.iadd, 1) := by decide +kernel
theorem dX9_less_73 : decode cX9_less 73 = .ok (.goto 5, 3) := by decide +kernel
theorem dX9_less_76 : decode cX9_less 76 = .ok (.iload 5, 2) := by decide +kernel
theorem dX9_less_78 : decode cX9_less 78 = .ok (.iastore, 1) := by decide +kernel
theorem dX9_less_79 : decode cX9_less 79 = .ok (.iinc 4 1, 3) := by decide +kernel
theorem dX9_less_82 : decode cX9_less 82 = .ok (.goto (-77), 3) := by decide +kernel
theorem dX9_less_85 : decode cX9_less 85 = .ok (.return_, 1) := by decide +kernel
theorem dX9_compare_0 : decode cX9_compare 0 = .ok (.bipush 15, 2) := by decide +kernel
theorem dX9_compare_2 : decode cX9_compare 2 = .ok (.istore_n 3, 1) := by decide +kernel
theorem dX9_compare_3 : decode cX9_compare 3 = .ok (.iload_n 3, 1) := by decide +kernel
theorem dX9_compare_4 : decode cX9_compare 4 = .ok (.ifCond .lt 55, 3) := by decide +kernel
theorem dX9_compare_7 : decode cX9_compare 7 = .ok (.aload_n 0, 1) := by decide +kernel
theorem dX9_compare_8 : decode cX9_compare 8 = .ok (.getfield 47, 3) := by decide +kernel
theorem dX9_compare_11 : decode cX9_compare 11 = .ok (.bipush 16, 2) := by decide +kernel
theorem dX9_compare_13 : decode cX9_compare 13 = .ok (.iload_n 1, 1) := by decide +kernel
theorem dX9_compare_14 : decode cX9_compare 14 = .ok (.imul, 1) := by decide +kernel
theorem dX9_compare_15 : decode cX9_compare 15 = .ok (.iload_n 3, 1) := by decide +kernel
theorem dX9_compare_16 : decode cX9_compare 16 = .ok (.iadd, 1) := by decide +kernel
theorem dX9_compare_17 : decode cX9_compare 17 = .ok (.iaload, 1) := by decide +kernel
theorem dX9_compare_18 : decode cX9_compare 18 = .ok (.istore 4, 2) := by decide +kernel
theorem dX9_compare_20 : decode cX9_compare 20 = .ok (.aload_n 0, 1) := by decide +kernel
theorem dX9_compare_21 : decode cX9_compare 21 = .ok (.getfield 47, 3) := by decide +kernel
theorem dX9_compare_24 : decode cX9_compare 24 = .ok (.bipush 16, 2) := by decide +kernel
theorem dX9_compare_26 : decode cX9_compare 26 = .ok (.iload_n 2, 1) := by decide +kernel
theorem dX9_compare_27 : decode cX9_compare 27 = .ok (.imul, 1) := by decide +kernel
theorem dX9_compare_28 : decode cX9_compare 28 = .ok (.iload_n 3, 1) := by decide +kernel
theorem dX9_compare_29 : decode cX9_compare 29 = .ok (.iadd, 1) := by decide +kernel
theorem dX9_compare_30 : decode cX9_compare 30 = .ok (.iaload, 1) := by decide +kernel
theorem dX9_compare_31 : decode cX9_compare 31 = .ok (.istore 5, 2) := by decide +kernel
theorem dX9_compare_33 : decode cX9_compare 33 = .ok (.iload 4, 2) := by decide +kernel
theorem dX9_compare_35 : decode cX9_compare 35 = .ok (.iload 5, 2) := by decide +kernel
theorem dX9_compare_37 : decode cX9_compare 37 = .ok (.if_icmp .eq 16, 3) := by decide +kernel
theorem dX9_compare_40 : decode cX9_compare 40 = .ok (.iload 4, 2) := by decide +kernel
theorem dX9_compare_42 : decode cX9_compare 42 = .ok (.iload 5, 2) := by decide +kernel
theorem dX9_compare_44 : decode cX9_compare 44 = .ok (.if_icmp .ge 7, 3) := by decide +kernel
theorem dX9_compare_47 : decode cX9_compare 47 = .ok (.iconst (-1), 1) := by decide +kernel
theorem dX9_compare_48 : decode cX9_compare 48 = .ok (.goto 4, 3) := by decide +kernel
theorem dX9_compare_51 : decode cX9_compare 51 = .ok (.iconst 1, 1) := by decide +kernel
theorem dX9_compare_52 : decode cX9_compare 52 = .ok (.ireturn, 1) := by decide +kernel
theorem dX9_compare_53 : decode cX9_compare 53 = .ok (.iinc 3 (-1), 3) := by decide +kernel
theorem dX9_compare_56 : decode cX9_compare 56 = .ok (.goto (-53), 3) := by decide +kernel
theorem dX9_compare_59 : decode cX9_compare 59 = .ok (.iconst 0, 1) := by decide +kernel
theorem dX9_compare_60 : decode cX9_compare 60 = .ok (.ireturn, 1) := by decide +kernel
theorem dX9_isNought_0 : decode cX9_isNought 0 = .ok (.iconst 1, 1) := by decide +kernel
theorem dX9_isNought_1 : decode cX9_isNought 1 = .ok (.istore_n 2, 1) := by decide +kernel
theorem dX9_isNought_2 : decode cX9_isNought 2 = .ok (.iconst 0, 1) := by decide +kernel
theorem dX9_isNought_3 : decode cX9_isNought 3 = .ok (.istore_n 3, 1) := by decide +kernel
theorem dX9_isNought_4 : decode cX9_isNought 4 = .ok (.iload_n 3, 1) := by decide +kernel
theorem dX9_isNought_5 : decode cX9_isNought 5 = .ok (.bipush 16, 2) := by decide +kernel
theorem dX9_isNought_7 : decode cX9_isNought 7 = .ok (.if_icmp .ge 33, 3) := by decide +kernel
theorem dX9_isNought_10 : decode cX9_isNought 10 = .ok (.iload_n 2, 1) := by decide +kernel
theorem dX9_isNought_11 : decode cX9_isNought 11 = .ok (.ifCond .eq 21, 3) := by decide +kernel
theorem dX9_isNought_14 : decode cX9_isNought 14 = .ok (.aload_n 0, 1) := by decide +kernel
theorem dX9_isNought_15 : decode cX9_isNought 15 = .ok (.getfield 47, 3) := by decide +kernel
theorem dX9_isNought_18 : decode cX9_isNought 18 = .ok (.bipush 16, 2) := by decide +kernel
theorem dX9_isNought_20 : decode cX9_isNought 20 = .ok (.iload_n 1, 1) := by decide +kernel
theorem dX9_isNought_21 : decode cX9_isNought 21 = .ok (.imul, 1) := by decide +kernel
theorem dX9_isNought_22 : decode cX9_isNought 22 = .ok (.iload_n 3, 1) := by decide +kernel
theorem dX9_isNought_23 : decode cX9_isNought 23 = .ok (.iadd, 1) := by decide +kernel
theorem dX9_isNought_24 : decode cX9_isNought 24 = .ok (.iaload, 1) := by decide +kernel
theorem dX9_isNought_25 : decode cX9_isNought 25 = .ok (.ifCond .ne 7, 3) := by decide +kernel
theorem dX9_isNought_28 : decode cX9_isNought 28 = .ok (.iconst 1, 1) := by decide +kernel
theorem dX9_isNought_29 : decode cX9_isNought 29 = .ok (.goto 4, 3) := by decide +kernel
theorem dX9_isNought_32 : decode cX9_isNought 32 = .ok (.iconst 0, 1) := by decide +kernel
theorem dX9_isNought_33 : decode cX9_isNought 33 = .ok (.istore_n 2, 1) := by decide +kernel
theorem dX9_isNought_34 : decode cX9_isNought 34 = .ok (.iinc 3 1, 3) := by decide +kernel
theorem dX9_isNought_37 : decode cX9_isNought 37 = .ok (.goto (-33), 3) := by decide +kernel
theorem dX9_isNought_40 : decode cX9_isNought 40 = .ok (.iload_n 2, 1) := by decide +kernel
theorem dX9_isNought_41 : decode cX9_isNought 41 = .ok (.ireturn, 1) := by decide +kernel
theorem dX9_isOdd_0 : decode cX9_isOdd 0 = .ok (.aload_n 0, 1) := by decide +kernel
theorem dX9_isOdd_1 : decode cX9_isOdd 1 = .ok (.getfield 47, 3) := by decide +kernel
theorem dX9_isOdd_4 : decode cX9_isOdd 4 = .ok (.bipush 16, 2) := by decide +kernel
theorem dX9_isOdd_6 : decode cX9_isOdd 6 = .ok (.iload_n 1, 1) := by decide +kernel
theorem dX9_isOdd_7 : decode cX9_isOdd 7 = .ok (.imul, 1) := by decide +kernel
theorem dX9_isOdd_8 : decode cX9_isOdd 8 = .ok (.iaload, 1) := by decide +kernel
theorem dX9_isOdd_9 : decode cX9_isOdd 9 = .ok (.iconst 2, 1) := by decide +kernel
theorem dX9_isOdd_10 : decode cX9_isOdd 10 = .ok (.irem, 1) := by decide +kernel
theorem dX9_isOdd_11 : decode cX9_isOdd 11 = .ok (.iconst 1, 1) := by decide +kernel
theorem dX9_isOdd_12 : decode cX9_isOdd 12 = .ok (.if_icmp .ne 7, 3) := by decide +kernel
theorem dX9_isOdd_15 : decode cX9_isOdd 15 = .ok (.iconst 1, 1) := by decide +kernel
theorem dX9_isOdd_16 : decode cX9_isOdd 16 = .ok (.goto 4, 3) := by decide +kernel
theorem dX9_isOdd_19 : decode cX9_isOdd 19 = .ok (.iconst 0, 1) := by decide +kernel
theorem dX9_isOdd_20 : decode cX9_isOdd 20 = .ok (.ireturn, 1) := by decide +kernel
theorem dX9_halve_0 : decode cX9_halve 0 = .ok (.iconst 0, 1) := by decide +kernel
theorem dX9_halve_1 : decode cX9_halve 1 = .ok (.istore_n 2, 1) := by decide +kernel
theorem dX9_halve_2 : decode cX9_halve 2 = .ok (.bipush 15, 2) := by decide +kernel
theorem dX9_halve_4 : decode cX9_halve 4 = .ok (.istore_n 3, 1) := by decide +kernel
theorem dX9_halve_5 : decode cX9_halve 5 = .ok (.iload_n 3, 1) := by decide +kernel
theorem dX9_halve_6 : decode cX9_halve 6 = .ok (.ifCond .lt 54, 3) := by decide +kernel
theorem dX9_halve_9 : decode cX9_halve 9 = .ok (.aload_n 0, 1) := by decide +kernel
theorem dX9_halve_10 : decode cX9_halve 10 = .ok (.getfield 47, 3) := by decide +kernel
theorem dX9_halve_13 : decode cX9_halve 13 = .ok (.bipush 16, 2) := by decide +kernel
theorem dX9_halve_15 : decode cX9_halve 15 = .ok (.iload_n 1, 1) := by decide +kernel
theorem dX9_halve_16 : decode cX9_halve 16 = .ok (.imul, 1) := by decide +kernel
theorem dX9_halve_17 : decode cX9_halve 17 = .ok (.iload_n 3, 1) := by decide +kernel
theorem dX9_halve_18 : decode cX9_halve 18 = .ok (.iadd, 1) := by decide +kernel
theorem dX9_halve_19 : decode cX9_halve 19 = .ok (.iaload, 1) := by decide +kernel
theorem dX9_halve_20 : decode cX9_halve 20 = .ok (.istore 4, 2) := by decide +kernel
theorem dX9_halve_22 : decode cX9_halve 22 = .ok (.aload_n 0, 1) := by decide +kernel
theorem dX9_halve_23 : decode cX9_halve 23 = .ok (.getfield 47, 3) := by decide +kernel
theorem dX9_halve_26 : decode cX9_halve 26 = .ok (.bipush 16, 2) := by decide +kernel
theorem dX9_halve_28 : decode cX9_halve 28 = .ok (.iload_n 1, 1) := by decide +kernel
theorem dX9_halve_29 : decode cX9_halve 29 = .ok (.imul, 1) := by decide +kernel
theorem dX9_halve_30 : decode cX9_halve 30 = .ok (.iload_n 3, 1) := by decide +kernel
theorem dX9_halve_31 : decode cX9_halve 31 = .ok (.iadd, 1) := by decide +kernel
theorem dX9_halve_32 : decode cX9_halve 32 = .ok (.iload 4, 2) := by decide +kernel
theorem dX9_halve_34 : decode cX9_halve 34 = .ok (.iconst 2, 1) := by decide +kernel
theorem dX9_halve_35 : decode cX9_halve 35 = .ok (.idiv, 1) := by decide +kernel
theorem dX9_halve_36 : decode cX9_halve 36 = .ok (.iload_n 2, 1) := by decide +kernel
theorem dX9_halve_37 : decode cX9_halve 37 = .ok (.iconst 1, 1) := by decide +kernel
theorem dX9_halve_38 : decode cX9_halve 38 = .ok (.if_icmp .ne 8, 3) := by decide +kernel
theorem dX9_halve_41 : decode cX9_halve 41 = .ok (.ldc 206, 2) := by decide +kernel
theorem dX9_halve_43 : decode cX9_halve 43 = .ok (.goto 4, 3) := by decide +kernel
theorem dX9_halve_46 : decode cX9_halve 46 = .ok (.iconst 0, 1) := by decide +kernel
theorem dX9_halve_47 : decode cX9_halve 47 = .ok (.iadd, 1) := by decide +kernel
theorem dX9_halve_48 : decode cX9_halve 48 = .ok (.iastore, 1) := by decide +kernel
theorem dX9_halve_49 : decode cX9_halve 49 = .ok (.iload 4, 2) := by decide +kernel
theorem dX9_halve_51 : decode cX9_halve 51 = .ok (.iconst 2, 1) := by decide +kernel
theorem dX9_halve_52 : decode cX9_halve 52 = .ok (.irem, 1) := by decide +kernel
theorem dX9_halve_53 : decode cX9_halve 53 = .ok (.istore_n 2, 1) := by decide +kernel
theorem dX9_halve_54 : decode cX9_halve 54 = .ok (.iinc 3 (-1), 3) := by decide +kernel
theorem dX9_halve_57 : decode cX9_halve 57 = .ok (.goto (-52), 3) := by decide +kernel
theorem dX9_halve_60 : decode cX9_halve 60 = .ok (.return_, 1) := by decide +kernel
theorem dX9_findCommon_0 : decode cX9_findCommon 0 = .ok (.aload_n 0, 1) := by decide +kernel
theorem dX9_findCommon_1 : decode cX9_findCommon 1 = .ok (.iconst 0, 1) := by decide +kernel
theorem dX9_findCommon_2 : decode cX9_findCommon 2 = .ok (.invokevirtual 207, 3) := by decide +kernel
theorem dX9_findCommon_5 : decode cX9_findCommon 5 = .ok (.ifCond .ne 24, 3) := by decide +kernel
theorem dX9_findCommon_8 : decode cX9_findCommon 8 = .ok (.aload_n 0, 1) := by decide +kernel
theorem dX9_findCommon_9 : decode cX9_findCommon 9 = .ok (.iconst 1, 1) := by decide +kernel
theorem dX9_findCommon_10 : decode cX9_findCommon 10 = .ok (.invokevirtual 207, 3) := by decide +kernel
theorem dX9_findCommon_13 : decode cX9_findCommon 13 = .ok (.ifCond .ne 16, 3) := by decide +kernel
theorem dX9_findCommon_16 : decode cX9_findCommon 16 = .ok (.aload_n 0, 1) := by decide +kernel
theorem dX9_findCommon_17 : decode cX9_findCommon 17 = .ok (.iconst 0, 1) := by decide +kernel
theorem dX9_findCommon_18 : decode cX9_findCommon 18 = .ok (.invokevirtual 210, 3) := by decide +kernel
theorem dX9_findCommon_21 : decode cX9_findCommon 21 = .ok (.aload_n 0, 1) := by decide +kernel
theorem dX9_findCommon_22 : decode cX9_findCommon 22 = .ok (.iconst 1, 1) := by decide +kernel
theorem dX9_findCommon_23 : decode cX9_findCommon 23 = .ok (.invokevirtual 210, 3) := by decide +kernel
theorem dX9_findCommon_26 : decode cX9_findCommon 26 = .ok (.goto (-26), 3) := by decide +kernel
theorem dX9_findCommon_29 : decode cX9_findCommon 29 = .ok (.aload_n 0, 1) := by decide +kernel
theorem dX9_findCommon_30 : decode cX9_findCommon 30 = .ok (.iconst 0, 1) := by decide +kernel
theorem dX9_findCommon_31 : decode cX9_findCommon 31 = .ok (.iconst 4, 1) := by decide +kernel
theorem dX9_findCommon_32 : decode cX9_findCommon 32 = .ok (.invokevirtual 200, 3) := by decide +kernel
theorem dX9_findCommon_35 : decode cX9_findCommon 35 = .ok (.aload_n 0, 1) := by decide +kernel
theorem dX9_findCommon_36 : decode cX9_findCommon 36 = .ok (.iconst 1, 1) := by decide +kernel
theorem dX9_findCommon_37 : decode cX9_findCommon 37 = .ok (.iconst 5, 1) := by decide +kernel
theorem dX9_findCommon_38 : decode cX9_findCommon 38 = .ok (.invokevirtual 200, 3) := by decide +kernel
theorem dX9_findCommon_41 : decode cX9_findCommon 41 = .ok (.aload_n 0, 1) := by decide +kernel
theorem dX9_findCommon_42 : decode cX9_findCommon 42 = .ok (.iconst 4, 1) := by decide +kernel
theorem dX9_findCommon_43 : decode cX9_findCommon 43 = .ok (.invokevirtual 207, 3) := by decide +kernel
theorem dX9_findCommon_46 : decode cX9_findCommon 46 = .ok (.ifCond .ne 11, 3) := by decide +kernel
theorem dX9_findCommon_49 : decode cX9_findCommon 49 = .ok (.aload_n 0, 1) := by decide +kernel
theorem dX9_findCommon_50 : decode cX9_findCommon 50 = .ok (.iconst 4, 1) := by decide +kernel
theorem dX9_findCommon_51 : decode cX9_findCommon 51 = .ok (.invokevirtual 210, 3) := by decide +kernel
theorem dX9_findCommon_54 : decode cX9_findCommon 54 = .ok (.goto (-13), 3) := by decide +kernel
theorem dX9_findCommon_57 : decode cX9_findCommon 57 = .ok (.aload_n 0, 1) := by decide +kernel
theorem dX9_findCommon_58 : decode cX9_findCommon 58 = .ok (.iconst 5, 1) := by decide +kernel
theorem dX9_findCommon_59 : decode cX9_findCommon 59 = .ok (.invokevirtual 207, 3) := by decide +kernel
theorem dX9_findCommon_62 : decode cX9_findCommon 62 = .ok (.ifCond .ne 11, 3) := by decide +kernel
theorem dX9_findCommon_65 : decode cX9_findCommon 65 = .ok (.aload_n 0, 1) := by decide +kernel
theorem dX9_findCommon_66 : decode cX9_findCommon 66 = .ok (.iconst 5, 1) := by decide +kernel
theorem dX9_findCommon_67 : decode cX9_findCommon 67 = .ok (.invokevirtual 210, 3) := by decide +kernel
theorem dX9_findCommon_70 : decode cX9_findCommon 70 = .ok (.goto (-13), 3) := by decide +kernel
theorem dX9_findCommon_73 : decode cX9_findCommon 73 = .ok (.aload_n 0, 1) := by decide +kernel
theorem dX9_findCommon_74 : decode cX9_findCommon 74 = .ok (.iconst 4, 1) := by decide +kernel
theorem dX9_findCommon_75 : decode cX9_findCommon 75 = .ok (.iconst 5, 1) := by decide +kernel
theorem dX9_findCommon_76 : decode cX9_findCommon 76 = .ok (.invokevirtual 214, 3) := by decide +kernel
theorem dX9_findCommon_79 : decode cX9_findCommon 79 = .ok (.istore_n 1, 1) := by decide +kernel
theorem dX9_findCommon_80 : decode cX9_findCommon 80 = .ok (.iload_n 1, 1) := by decide +kernel
theorem dX9_findCommon_81 : decode cX9_findCommon 81 = .ok (.ifCond .eq 53, 3) := by decide +kernel
theorem dX9_findCommon_84 : decode cX9_findCommon 84 = .ok (.iload_n 1, 1) := by decide +kernel
theorem dX9_findCommon_85 : decode cX9_findCommon 85 = .ok (.ifCond .le 7, 3) := by decide +kernel
theorem dX9_findCommon_88 : decode cX9_findCommon 88 = .ok (.iconst 4, 1) := by decide +kernel
theorem dX9_findCommon_89 : decode cX9_findCommon 89 = .ok (.goto 4, 3) := by decide +kernel
theorem dX9_findCommon_92 : decode cX9_findCommon 92 = .ok (.iconst 5, 1) := by decide +kernel
theorem dX9_findCommon_93 : decode cX9_findCommon 93 = .ok (.istore_n 2, 1) := by decide +kernel
theorem dX9_findCommon_94 : decode cX9_findCommon 94 = .ok (.aload_n 0, 1) := by decide +kernel
theorem dX9_findCommon_95 : decode cX9_findCommon 95 = .ok (.iload_n 2, 1) := by decide +kernel
theorem dX9_findCommon_96 : decode cX9_findCommon 96 = .ok (.iload_n 1, 1) := by decide +kernel
theorem dX9_findCommon_97 : decode cX9_findCommon 97 = .ok (.ifCond .le 7, 3) := by decide +kernel
theorem dX9_findCommon_100 : decode cX9_findCommon 100 = .ok (.iconst 5, 1) := by decide +kernel
theorem dX9_findCommon_101 : decode cX9_findCommon 101 = .ok (.goto 4, 3) := by decide +kernel
theorem dX9_findCommon_104 : decode cX9_findCommon 104 = .ok (.iconst 4, 1) := by decide +kernel
theorem dX9_findCommon_105 : decode cX9_findCommon 105 = .ok (.invokevirtual 217, 3) := by decide +kernel
theorem dX9_findCommon_108 : decode cX9_findCommon 108 = .ok (.aload_n 0, 1) := by decide +kernel
theorem dX9_findCommon_109 : decode cX9_findCommon 109 = .ok (.iload_n 2, 1) := by decide +kernel
theorem dX9_findCommon_110 : decode cX9_findCommon 110 = .ok (.invokevirtual 207, 3) := by decide +kernel
theorem dX9_findCommon_113 : decode cX9_findCommon 113 = .ok (.ifCond .ne 11, 3) := by decide +kernel
theorem dX9_findCommon_116 : decode cX9_findCommon 116 = .ok (.aload_n 0, 1) := by decide +kernel
theorem dX9_findCommon_117 : decode cX9_findCommon 117 = .ok (.iload_n 2, 1) := by decide +kernel
theorem dX9_findCommon_118 : decode cX9_findCommon 118 = .ok (.invokevirtual 210, 3) := by decide +kernel
theorem dX9_findCommon_121 : decode cX9_findCommon 121 = .ok (.goto (-13), 3) := by decide +kernel
theorem dX9_findCommon_124 : decode cX9_findCommon 124 = .ok (.aload_n 0, 1) := by decide +kernel
theorem dX9_findCommon_125 : decode cX9_findCommon 125 = .ok (.iconst 4, 1) := by decide +kernel
theorem dX9_findCommon_126 : decode cX9_findCommon 126 = .ok (.iconst 5, 1) := by decide +kernel
theorem dX9_findCommon_127 : decode cX9_findCommon 127 = .ok (.invokevirtual 214, 3) := by decide +kernel
theorem dX9_findCommon_130 : decode cX9_findCommon 130 = .ok (.istore_n 1, 1) := by decide +kernel
theorem dX9_findCommon_131 : decode cX9_findCommon 131 = .ok (.goto (-51), 3) := by decide +kernel
theorem dX9_findCommon_134 : decode cX9_findCommon 134 = .ok (.return_, 1) := by decide +kernel
theorem dX9_divide_0 : decode cX9_divide 0 = .ok (.aload_n 0, 1) := by decide +kernel
theorem dX9_divide_1 : decode cX9_divide 1 = .ok (.iconst 5, 1) := by decide +kernel
theorem dX9_divide_2 : decode cX9_divide 2 = .ok (.iconst 0, 1) := by decide +kernel
theorem dX9_divide_3 : decode cX9_divide 3 = .ok (.invokevirtual 93, 3) := by decide +kernel
theorem dX9_divide_6 : decode cX9_divide 6 = .ok (.aload_n 0, 1) := by decide +kernel
theorem dX9_divide_7 : decode cX9_divide 7 = .ok (.iconst 2, 1) := by decide +kernel
theorem dX9_divide_8 : decode cX9_divide 8 = .ok (.iconst 0, 1) := by decide +kernel
theorem dX9_divide_9 : decode cX9_divide 9 = .ok (.invokevirtual 93, 3) := by decide +kernel
theorem dX9_divide_12 : decode cX9_divide 12 = .ok (.sipush 479, 3) := by decide +kernel
theorem dX9_divide_15 : decode cX9_divide 15 = .ok (.istore_n 2, 1) := by decide +kernel
theorem dX9_divide_16 : decode cX9_divide 16 = .ok (.iload_n 2, 1) := by decide +kernel
theorem dX9_divide_17 : decode cX9_divide 17 = .ok (.ifCond .lt 78, 3) := by decide +kernel
theorem dX9_divide_20 : decode cX9_divide 20 = .ok (.aload_n 0, 1) := by decide +kernel
theorem dX9_divide_21 : decode cX9_divide 21 = .ok (.iconst 5, 1) := by decide +kernel
theorem dX9_divide_22 : decode cX9_divide 22 = .ok (.iconst 2, 1) := by decide +kernel
theorem dX9_divide_23 : decode cX9_divide 23 = .ok (.invokevirtual 100, 3) := by decide +kernel
theorem dX9_divide_26 : decode cX9_divide 26 = .ok (.aload_n 0, 1) := by decide +kernel
theorem dX9_divide_27 : decode cX9_divide 27 = .ok (.getfield 47, 3) := by decide +kernel
theorem dX9_divide_30 : decode cX9_divide 30 = .ok (.bipush 80, 2) := by decide +kernel
theorem dX9_divide_32 : decode cX9_divide 32 = .ok (.dup2, 1) := by decide +kernel
theorem dX9_divide_33 : decode cX9_divide 33 = .ok (.iaload, 1) := by decide +kernel
theorem dX9_divide_34 : decode cX9_divide 34 = .ok (.aload_n 0, 1) := by decide +kernel
theorem dX9_divide_35 : decode cX9_divide 35 = .ok (.getfield 47, 3) := by decide +kernel
theorem dX9_divide_38 : decode cX9_divide 38 = .ok (.bipush 16, 2) := by decide +kernel
theorem dX9_divide_40 : decode cX9_divide 40 = .ok (.iload_n 1, 1) := by decide +kernel
theorem dX9_divide_41 : decode cX9_divide 41 = .ok (.imul, 1) := by decide +kernel
theorem dX9_divide_42 : decode cX9_divide 42 = .ok (.iload_n 2, 1) := by decide +kernel
theorem dX9_divide_43 : decode cX9_divide 43 = .ok (.bipush 30, 2) := by decide +kernel
theorem dX9_divide_45 : decode cX9_divide 45 = .ok (.idiv, 1) := by decide +kernel
theorem dX9_divide_46 : decode cX9_divide 46 = .ok (.iadd, 1) := by decide +kernel
theorem dX9_divide_47 : decode cX9_divide 47 = .ok (.iaload, 1) := by decide +kernel
theorem dX9_divide_48 : decode cX9_divide 48 = .ok (.iload_n 2, 1) := by decide +kernel
theorem dX9_divide_49 : decode cX9_divide 49 = .ok (.bipush 30, 2) := by decide +kernel
theorem dX9_divide_51 : decode cX9_divide 51 = .ok (.irem, 1) := by decide +kernel
theorem dX9_divide_52 : decode cX9_divide 52 = .ok (.ishr, 1) := by decide +kernel
theorem dX9_divide_53 : decode cX9_divide 53 = .ok (.iconst 1, 1) := by decide +kernel
theorem dX9_divide_54 : decode cX9_divide 54 = .ok (.iand, 1) := by decide +kernel
theorem dX9_divide_55 : decode cX9_divide 55 = .ok (.iadd, 1) := by decide +kernel
theorem dX9_divide_56 : decode cX9_divide 56 = .ok (.iastore, 1) := by decide +kernel
theorem dX9_divide_57 : decode cX9_divide 57 = .ok (.aload_n 0, 1) := by decide +kernel
theorem dX9_divide_58 : decode cX9_divide 58 = .ok (.iconst 2, 1) := by decide +kernel
theorem dX9_divide_59 : decode cX9_divide 59 = .ok (.iconst 2, 1) := by decide +kernel
theorem dX9_divide_60 : decode cX9_divide 60 = .ok (.invokevirtual 100, 3) := by decide +kernel
theorem dX9_divide_63 : decode cX9_divide 63 = .ok (.aload_n 0, 1) := by decide +kernel
theorem dX9_divide_64 : decode cX9_divide 64 = .ok (.iconst 5, 1) := by decide +kernel
theorem dX9_divide_65 : decode cX9_divide 65 = .ok (.iconst 4, 1) := by decide +kernel
theorem dX9_divide_66 : decode cX9_divide 66 = .ok (.invokevirtual 214, 3) := by decide +kernel
theorem dX9_divide_69 : decode cX9_divide 69 = .ok (.ifCond .lt 20, 3) := by decide +kernel
theorem dX9_divide_72 : decode cX9_divide 72 = .ok (.aload_n 0, 1) := by decide +kernel
theorem dX9_divide_73 : decode cX9_divide 73 = .ok (.iconst 5, 1) := by decide +kernel
theorem dX9_divide_74 : decode cX9_divide 74 = .ok (.iconst 4, 1) := by decide +kernel
theorem dX9_divide_75 : decode cX9_divide 75 = .ok (.invokevirtual 217, 3) := by decide +kernel
theorem dX9_divide_78 : decode cX9_divide 78 = .ok (.aload_n 0, 1) := by decide +kernel
theorem dX9_divide_79 : decode cX9_divide 79 = .ok (.getfield 47, 3) := by decide +kernel
theorem dX9_divide_82 : decode cX9_divide 82 = .ok (.bipush 32, 2) := by decide +kernel
theorem dX9_divide_84 : decode cX9_divide 84 = .ok (.dup2, 1) := by decide +kernel
theorem dX9_divide_85 : decode cX9_divide 85 = .ok (.iaload, 1) := by decide +kernel
theorem dX9_divide_86 : decode cX9_divide 86 = .ok (.iconst 1, 1) := by decide +kernel
theorem dX9_divide_87 : decode cX9_divide 87 = .ok (.iadd, 1) := by decide +kernel
theorem dX9_divide_88 : decode cX9_divide 88 = .ok (.iastore, 1) := by decide +kernel
theorem dX9_divide_89 : decode cX9_divide 89 = .ok (.iinc 2 (-1), 3) := by decide +kernel
theorem dX9_divide_92 : decode cX9_divide 92 = .ok (.goto (-76), 3) := by decide +kernel
theorem dX9_divide_95 : decode cX9_divide 95 = .ok (.aload_n 0, 1) := by decide +kernel
theorem dX9_divide_96 : decode cX9_divide 96 = .ok (.iconst 2, 1) := by decide +kernel
theorem dX9_divide_97 : decode cX9_divide 97 = .ok (.iload_n 1, 1) := by decide +kernel
theorem dX9_divide_98 : decode cX9_divide 98 = .ok (.invokevirtual 200, 3) := by decide +kernel
theorem dX9_divide_101 : decode cX9_divide 101 = .ok (.return_, 1) := by decide +kernel
theorem dX9_tell_0 : decode cX9_tell 0 = .ok (.aload_n 0, 1) := by decide +kernel
theorem dX9_tell_1 : decode cX9_tell 1 = .ok (.aload_n 0, 1) := by decide +kernel
theorem dX9_tell_2 : decode cX9_tell 2 = .ok (.iconst 0, 1) := by decide +kernel
theorem dX9_tell_3 : decode cX9_tell 3 = .ok (.invokevirtual 197, 3) := by decide +kernel
theorem dX9_tell_6 : decode cX9_tell 6 = .ok (.ifCond .eq 7, 3) := by decide +kernel
theorem dX9_tell_9 : decode cX9_tell 9 = .ok (.iconst 0, 1) := by decide +kernel
theorem dX9_tell_10 : decode cX9_tell 10 = .ok (.goto 4, 3) := by decide +kernel
theorem dX9_tell_13 : decode cX9_tell 13 = .ok (.iconst 1, 1) := by decide +kernel
theorem dX9_tell_14 : decode cX9_tell 14 = .ok (.putfield 220, 3) := by decide +kernel
theorem dX9_tell_17 : decode cX9_tell 17 = .ok (.aload_n 0, 1) := by decide +kernel
theorem dX9_tell_18 : decode cX9_tell 18 = .ok (.getfield 220, 3) := by decide +kernel
theorem dX9_tell_21 : decode cX9_tell 21 = .ok (.ifCond .ne 10, 3) := by decide +kernel
theorem dX9_tell_24 : decode cX9_tell 24 = .ok (.aload_n 0, 1) := by decide +kernel
theorem dX9_tell_25 : decode cX9_tell 25 = .ok (.iconst 1, 1) := by decide +kernel
theorem dX9_tell_26 : decode cX9_tell 26 = .ok (.iconst 1, 1) := by decide +kernel
theorem dX9_tell_27 : decode cX9_tell 27 = .ok (.invokevirtual 93, 3) := by decide +kernel
theorem dX9_tell_30 : decode cX9_tell 30 = .ok (.return_, 1) := by decide +kernel
theorem dX9_tell_31 : decode cX9_tell 31 = .ok (.aload_n 0, 1) := by decide +kernel
theorem dX9_tell_32 : decode cX9_tell 32 = .ok (.invokevirtual 223, 3) := by decide +kernel
theorem dX9_tell_35 : decode cX9_tell 35 = .ok (.aload_n 0, 1) := by decide +kernel
theorem dX9_tell_36 : decode cX9_tell 36 = .ok (.iconst 0, 1) := by decide +kernel
theorem dX9_tell_37 : decode cX9_tell 37 = .ok (.invokevirtual 226, 3) := by decide +kernel
theorem dX9_tell_40 : decode cX9_tell 40 = .ok (.aload_n 0, 1) := by decide +kernel
theorem dX9_tell_41 : decode cX9_tell 41 = .ok (.iconst 1, 1) := by decide +kernel
theorem dX9_tell_42 : decode cX9_tell 42 = .ok (.invokevirtual 226, 3) := by decide +kernel
theorem dX9_tell_45 : decode cX9_tell 45 = .ok (.return_, 1) := by decide +kernel
theorem dX9_limbsOf_0 : decode cX9_limbsOf 0 = .ok (.bipush 16, 2) := by decide +kernel
theorem dX9_limbsOf_2 : decode cX9_limbsOf 2 = .ok (.istore_n 2, 1) := by decide +kernel
theorem dX9_limbsOf_3 : decode cX9_limbsOf 3 = .ok (.iload_n 2, 1) := by decide +kernel
theorem dX9_limbsOf_4 : decode cX9_limbsOf 4 = .ok (.ifCond .le 25, 3) := by decide +kernel
theorem dX9_limbsOf_7 : decode cX9_limbsOf 7 = .ok (.aload_n 0, 1) := by decide +kernel
theorem dX9_limbsOf_8 : decode cX9_limbsOf 8 = .ok (.getfield 47, 3) := by decide +kernel
theorem dX9_limbsOf_11 : decode cX9_limbsOf 11 = .ok (.bipush 16, 2) := by decide +kernel
theorem dX9_limbsOf_13 : decode cX9_limbsOf 13 = .ok (.iload_n 1, 1) := by decide +kernel
theorem dX9_limbsOf_14 : decode cX9_limbsOf 14 = .ok (.imul, 1) := by decide +kernel
theorem dX9_limbsOf_15 : decode cX9_limbsOf 15 = .ok (.iload_n 2, 1) := by decide +kernel
theorem dX9_limbsOf_16 : decode cX9_limbsOf 16 = .ok (.iadd, 1) := by decide +kernel
theorem dX9_limbsOf_17 : decode cX9_limbsOf 17 = .ok (.iconst 1, 1) := by decide +kernel
theorem dX9_limbsOf_18 : decode cX9_limbsOf 18 = .ok (.isub, 1) := by decide +kernel
theorem dX9_limbsOf_19 : decode cX9_limbsOf 19 = .ok (.iaload, 1) := by decide +kernel
theorem dX9_limbsOf_20 : decode cX9_limbsOf 20 = .ok (.ifCond .ne 9, 3) := by decide +kernel
theorem dX9_limbsOf_23 : decode cX9_limbsOf 23 = .ok (.iinc 2 (-1), 3) := by decide +kernel
theorem dX9_limbsOf_26 : decode cX9_limbsOf 26 = .ok (.goto (-23), 3) := by decide +kernel
theorem dX9_limbsOf_29 : decode cX9_limbsOf 29 = .ok (.iload_n 2, 1) := by decide +kernel
theorem dX9_limbsOf_30 : decode cX9_limbsOf 30 = .ok (.ireturn, 1) := by decide +kernel
theorem dX9_sign_0 : decode cX9_sign 0 = .ok (.iload_n 1, 1) := by decide +kernel
theorem dX9_sign_1 : decode cX9_sign 1 = .ok (.iconst 0, 1) := by decide +kernel
theorem dX9_sign_2 : decode cX9_sign 2 = .ok (.iconst 2, 1) := by decide +kernel
theorem dX9_sign_3 : decode cX9_sign 3 = .ok (.invokestatic 50, 3) := by decide +kernel
theorem dX9_sign_6 : decode cX9_sign 6 = .ok (.ifCond .eq 31, 3) := by decide +kernel
theorem dX9_sign_9 : decode cX9_sign 9 = .ok (.iload_n 1, 1) := by decide +kernel
theorem dX9_sign_10 : decode cX9_sign 10 = .ok (.ifCond .ne 10, 3) := by decide +kernel
theorem dX9_sign_13 : decode cX9_sign 13 = .ok (.aload_n 0, 1) := by decide +kernel
theorem dX9_sign_14 : decode cX9_sign 14 = .ok (.getfield 220, 3) := by decide +kernel
theorem dX9_sign_17 : decode cX9_sign 17 = .ok (.goto 26, 3) := by decide +kernel
theorem dX9_sign_20 : decode cX9_sign 20 = .ok (.aload_n 0, 1) := by decide +kernel
theorem dX9_sign_21 : decode cX9_sign 21 = .ok (.iload_n 1, 1) := by decide +kernel
theorem dX9_sign_22 : decode cX9_sign 22 = .ok (.iconst 1, 1) := by decide +kernel
theorem dX9_sign_23 : decode cX9_sign 23 = .ok (.if_icmp .ne 7, 3) := by decide +kernel
theorem dX9_sign_26 : decode cX9_sign 26 = .ok (.iconst 0, 1) := by decide +kernel
theorem dX9_sign_27 : decode cX9_sign 27 = .ok (.goto 4, 3) := by decide +kernel
theorem dX9_sign_30 : decode cX9_sign 30 = .ok (.iconst 1, 1) := by decide +kernel
theorem dX9_sign_31 : decode cX9_sign 31 = .ok (.invokevirtual 229, 3) := by decide +kernel
theorem dX9_sign_34 : decode cX9_sign 34 = .ok (.goto 9, 3) := by decide +kernel
theorem dX9_sign_37 : decode cX9_sign 37 = .ok (.aload_n 0, 1) := by decide +kernel
theorem dX9_sign_38 : decode cX9_sign 38 = .ok (.bipush (-2), 2) := by decide +kernel
theorem dX9_sign_40 : decode cX9_sign 40 = .ok (.invokevirtual 54, 3) := by decide +kernel
theorem dX9_sign_43 : decode cX9_sign 43 = .ok (.ireturn, 1) := by decide +kernel
theorem dX9_limb_0 : decode cX9_limb 0 = .ok (.iload_n 1, 1) := by decide +kernel
theorem dX9_limb_1 : decode cX9_limb 1 = .ok (.iconst 0, 1) := by decide +kernel
theorem dX9_limb_2 : decode cX9_limb 2 = .ok (.iconst 1, 1) := by decide +kernel
theorem dX9_limb_3 : decode cX9_limb 3 = .ok (.invokestatic 50, 3) := by decide +kernel
theorem dX9_limb_6 : decode cX9_limb 6 = .ok (.ifCond .eq 7, 3) := by decide +kernel
theorem dX9_limb_9 : decode cX9_limb 9 = .ok (.iload_n 2, 1) := by decide +kernel
theorem dX9_limb_10 : decode cX9_limb 10 = .ok (.ifCond .ge 10, 3) := by decide +kernel
theorem dX9_limb_13 : decode cX9_limb 13 = .ok (.aload_n 0, 1) := by decide +kernel
theorem dX9_limb_14 : decode cX9_limb 14 = .ok (.bipush (-2), 2) := by decide +kernel
theorem dX9_limb_16 : decode cX9_limb 16 = .ok (.invokevirtual 54, 3) := by decide +kernel
theorem dX9_limb_19 : decode cX9_limb 19 = .ok (.ireturn, 1) := by decide +kernel
theorem dX9_limb_20 : decode cX9_limb 20 = .ok (.iload_n 2, 1) := by decide +kernel
theorem dX9_limb_21 : decode cX9_limb 21 = .ok (.aload_n 0, 1) := by decide +kernel
theorem dX9_limb_22 : decode cX9_limb 22 = .ok (.iload_n 1, 1) := by decide +kernel
theorem dX9_limb_23 : decode cX9_limb 23 = .ok (.invokevirtual 229, 3) := by decide +kernel
theorem dX9_limb_26 : decode cX9_limb 26 = .ok (.if_icmp .ge 17, 3) := by decide +kernel
theorem dX9_limb_29 : decode cX9_limb 29 = .ok (.aload_n 0, 1) := by decide +kernel
theorem dX9_limb_30 : decode cX9_limb 30 = .ok (.getfield 47, 3) := by decide +kernel
theorem dX9_limb_33 : decode cX9_limb 33 = .ok (.bipush 16, 2) := by decide +kernel
theorem dX9_limb_35 : decode cX9_limb 35 = .ok (.iload_n 1, 1) := by decide +kernel
theorem dX9_limb_36 : decode cX9_limb 36 = .ok (.imul, 1) := by decide +kernel
theorem dX9_limb_37 : decode cX9_limb 37 = .ok (.iload_n 2, 1) := by decide +kernel
theorem dX9_limb_38 : decode cX9_limb 38 = .ok (.iadd, 1) := by decide +kernel
theorem dX9_limb_39 : decode cX9_limb 39 = .ok (.iaload, 1) := by decide +kernel
theorem dX9_limb_40 : decode cX9_limb 40 = .ok (.goto 4, 3) := by decide +kernel
theorem dX9_limb_43 : decode cX9_limb 43 = .ok (.iconst (-1), 1) := by decide +kernel
theorem dX9_limb_44 : decode cX9_limb 44 = .ok (.ireturn, 1) := by decide +kernel
theorem dX9_copyAll_0 : decode cX9_copyAll 0 = .ok (.iconst 0, 1) := by decide +kernel
theorem dX9_copyAll_1 : decode cX9_copyAll 1 = .ok (.istore_n 3, 1) := by decide +kernel
theorem dX9_copyAll_2 : decode cX9_copyAll 2 = .ok (.iload_n 3, 1) := by decide +kernel
theorem dX9_copyAll_3 : decode cX9_copyAll 3 = .ok (.sipush 380, 3) := by decide +kernel
theorem dX9_copyAll_6 : decode cX9_copyAll 6 = .ok (.if_icmp .ge 33, 3) := by decide +kernel
theorem dX9_copyAll_9 : decode cX9_copyAll 9 = .ok (.aload_n 0, 1) := by decide +kernel
theorem dX9_copyAll_10 : decode cX9_copyAll 10 = .ok (.getfield 7, 3) := by decide +kernel
theorem dX9_copyAll_13 : decode cX9_copyAll 13 = .ok (.sipush 380, 3) := by decide +kernel
theorem dX9_copyAll_16 : decode cX9_copyAll 16 = .ok (.iload_n 2, 1) := by decide +kernel
theorem dX9_copyAll_17 : decode cX9_copyAll 17 = .ok (.imul, 1) := by decide +kernel
theorem dX9_copyAll_18 : decode cX9_copyAll 18 = .ok (.iload_n 3, 1) := by decide +kernel
theorem dX9_copyAll_19 : decode cX9_copyAll 19 = .ok (.iadd, 1) := by decide +kernel
theorem dX9_copyAll_20 : decode cX9_copyAll 20 = .ok (.aload_n 0, 1) := by decide +kernel
theorem dX9_copyAll_21 : decode cX9_copyAll 21 = .ok (.getfield 7, 3) := by decide +kernel
theorem dX9_copyAll_24 : decode cX9_copyAll 24 = .ok (.sipush 380, 3) := by decide +kernel
theorem dX9_copyAll_27 : decode cX9_copyAll 27 = .ok (.iload_n 1, 1) := by decide +kernel
theorem dX9_copyAll_28 : decode cX9_copyAll 28 = .ok (.imul, 1) := by decide +kernel
theorem dX9_copyAll_29 : decode cX9_copyAll 29 = .ok (.iload_n 3, 1) := by decide +kernel
theorem dX9_copyAll_30 : decode cX9_copyAll 30 = .ok (.iadd, 1) := by decide +kernel
theorem dX9_copyAll_31 : decode cX9_copyAll 31 = .ok (.iaload, 1) := by decide +kernel
theorem dX9_copyAll_32 : decode cX9_copyAll 32 = .ok (.iastore, 1) := by decide +kernel
theorem dX9_copyAll_33 : decode cX9_copyAll 33 = .ok (.iinc 3 1, 3) := by decide +kernel
theorem dX9_copyAll_36 : decode cX9_copyAll 36 = .ok (.goto (-34), 3) := by decide +kernel
theorem dX9_copyAll_39 : decode cX9_copyAll 39 = .ok (.return_, 1) := by decide +kernel
theorem dX9_image_0 : decode cX9_image 0 = .ok (.iload_n 1, 1) := by decide +kernel
theorem dX9_image_1 : decode cX9_image 1 = .ok (.iconst 0, 1) := by decide +kernel
theorem dX9_image_2 : decode cX9_image 2 = .ok (.iconst 1, 1) := by decide +kernel
theorem dX9_image_3 : decode cX9_image 3 = .ok (.invokestatic 50, 3) := by decide +kernel
theorem dX9_image_6 : decode cX9_image 6 = .ok (.ifCond .ne 10, 3) := by decide +kernel
theorem dX9_image_9 : decode cX9_image 9 = .ok (.aload_n 0, 1) := by decide +kernel
theorem dX9_image_10 : decode cX9_image 10 = .ok (.bipush (-2), 2) := by decide +kernel
theorem dX9_image_12 : decode cX9_image 12 = .ok (.invokevirtual 54, 3) := by decide +kernel
theorem dX9_image_15 : decode cX9_image 15 = .ok (.ireturn, 1) := by decide +kernel
theorem dX9_image_16 : decode cX9_image 16 = .ok (.aload_n 0, 1) := by decide +kernel
theorem dX9_image_17 : decode cX9_image 17 = .ok (.iconst 0, 1) := by decide +kernel
theorem dX9_image_18 : decode cX9_image 18 = .ok (.iconst 1, 1) := by decide +kernel
theorem dX9_image_19 : decode cX9_image 19 = .ok (.iload_n 1, 1) := by decide +kernel
theorem dX9_image_20 : decode cX9_image 20 = .ok (.iadd, 1) := by decide +kernel
theorem dX9_image_21 : decode cX9_image 21 = .ok (.invokevirtual 232, 3) := by decide +kernel
theorem dX9_image_24 : decode cX9_image 24 = .ok (.aload_n 0, 1) := by decide +kernel
theorem dX9_image_25 : decode cX9_image 25 = .ok (.getfield 13, 3) := by decide +kernel
theorem dX9_image_28 : decode cX9_image 28 = .ok (.iload_n 1, 1) := by decide +kernel
theorem dX9_image_29 : decode cX9_image 29 = .ok (.iconst 1, 1) := by decide +kernel
theorem dX9_image_30 : decode cX9_image 30 = .ok (.bastore, 1) := by decide +kernel
theorem dX9_image_31 : decode cX9_image 31 = .ok (.iconst 1, 1) := by decide +kernel
theorem dX9_image_32 : decode cX9_image 32 = .ok (.ireturn, 1) := by decide +kernel
theorem dX9_from_0 : decode cX9_from 0 = .ok (.iload_n 1, 1) := by decide +kernel
theorem dX9_from_1 : decode cX9_from 1 = .ok (.iconst 0, 1) := by decide +kernel
theorem dX9_from_2 : decode cX9_from 2 = .ok (.iconst 1, 1) := by decide +kernel
theorem dX9_from_3 : decode cX9_from 3 = .ok (.invokestatic 50, 3) := by decide +kernel
theorem dX9_from_6 : decode cX9_from 6 = .ok (.ifCond .eq 12, 3) := by decide +kernel
theorem dX9_from_9 : decode cX9_from 9 = .ok (.aload_n 0, 1) := by decide +kernel
theorem dX9_from_10 : decode cX9_from 10 = .ok (.getfield 13, 3) := by decide +kernel
theorem dX9_from_13 : decode cX9_from 13 = .ok (.iload_n 1, 1) := by decide +kernel
theorem dX9_from_14 : decode cX9_from 14 = .ok (.baload, 1) := by decide +kernel
theorem dX9_from_15 : decode cX9_from 15 = .ok (.ifCond .ne 24, 3) := by decide +kernel
theorem dX9_from_18 : decode cX9_from 18 = .ok (.aload_n 0, 1) := by decide +kernel
theorem dX9_from_19 : decode cX9_from 19 = .ok (.iload_n 1, 1) := by decide +kernel
theorem dX9_from_20 : decode cX9_from 20 = .ok (.iconst 0, 1) := by decide +kernel
theorem dX9_from_21 : decode cX9_from 21 = .ok (.iconst 1, 1) := by decide +kernel
theorem dX9_from_22 : decode cX9_from 22 = .ok (.invokestatic 50, 3) := by decide +kernel
theorem dX9_from_25 : decode cX9_from 25 = .ok (.ifCond .eq 8, 3) := by decide +kernel
theorem dX9_from_28 : decode cX9_from 28 = .ok (.bipush (-3), 2) := by decide +kernel
theorem dX9_from_30 : decode cX9_from 30 = .ok (.goto 5, 3) := by decide +kernel
theorem dX9_from_33 : decode cX9_from 33 = .ok (.bipush (-2), 2) := by decide +kernel
theorem dX9_from_35 : decode cX9_from 35 = .ok (.invokevirtual 54, 3) := by decide +kernel
theorem dX9_from_38 : decode cX9_from 38 = .ok (.ireturn, 1) := by decide +kernel
theorem dX9_from_39 : decode cX9_from 39 = .ok (.aload_n 0, 1) := by decide +kernel
theorem dX9_from_40 : decode cX9_from 40 = .ok (.iconst 1, 1) := by decide +kernel
theorem dX9_from_41 : decode cX9_from 41 = .ok (.iload_n 1, 1) := by decide +kernel
theorem dX9_from_42 : decode cX9_from 42 = .ok (.iadd, 1) := by decide +kernel
theorem dX9_from_43 : decode cX9_from 43 = .ok (.iconst 0, 1) := by decide +kernel
theorem dX9_from_44 : decode cX9_from 44 = .ok (.invokevirtual 232, 3) := by decide +kernel
theorem dX9_from_47 : decode cX9_from 47 = .ok (.iconst 1, 1) := by decide +kernel
theorem dX9_from_48 : decode cX9_from 48 = .ok (.ireturn, 1) := by decide +kernel
theorem dX9_status_0 : decode cX9_status 0 = .ok (.iload_n 1, 1) := by decide +kernel
theorem dX9_status_1 : decode cX9_status 1 = .ok (.iconst 0, 1) := by decide +kernel
theorem dX9_status_2 : decode cX9_status 2 = .ok (.iconst 2, 1) := by decide +kernel
theorem dX9_status_3 : decode cX9_status 3 = .ok (.invokestatic 50, 3) := by decide +kernel
theorem dX9_status_6 : decode cX9_status 6 = .ok (.ifCond .ne 12, 3) := by decide +kernel
theorem dX9_status_9 : decode cX9_status 9 = .ok (.aload_n 0, 1) := by decide +kernel
theorem dX9_status_10 : decode cX9_status 10 = .ok (.bipush (-2), 2) := by decide +kernel
theorem dX9_status_12 : decode cX9_status 12 = .ok (.invokevirtual 54, 3) := by decide +kernel
theorem dX9_status_15 : decode cX9_status 15 = .ok (.pop, 1) := by decide +kernel
theorem dX9_status_16 : decode cX9_status 16 = .ok (.iconst (-1), 1) := by decide +kernel
theorem dX9_status_17 : decode cX9_status 17 = .ok (.ireturn, 1) := by decide +kernel
theorem dX9_status_18 : decode cX9_status 18 = .ok (.aload_n 0, 1) := by decide +kernel
theorem dX9_status_19 : decode cX9_status 19 = .ok (.getfield 17, 3) := by decide +kernel
theorem dX9_status_22 : decode cX9_status 22 = .ok (.iload_n 1, 1) := by decide +kernel
theorem dX9_status_23 : decode cX9_status 23 = .ok (.iaload, 1) := by decide +kernel
theorem dX9_status_24 : decode cX9_status 24 = .ok (.ireturn, 1) := by decide +kernel
theorem dX9_count_0 : decode cX9_count 0 = .ok (.iload_n 1, 1) := by decide +kernel
theorem dX9_count_1 : decode cX9_count 1 = .ok (.iconst 0, 1) := by decide +kernel
theorem dX9_count_2 : decode cX9_count 2 = .ok (.iconst 4, 1) := by decide +kernel
theorem dX9_count_3 : decode cX9_count 3 = .ok (.invokestatic 50, 3) := by decide +kernel
theorem dX9_count_6 : decode cX9_count 6 = .ok (.ifCond .eq 12, 3) := by decide +kernel
theorem dX9_count_9 : decode cX9_count 9 = .ok (.aload_n 0, 1) := by decide +kernel
theorem dX9_count_10 : decode cX9_count 10 = .ok (.getfield 7, 3) := by decide +kernel
theorem dX9_count_13 : decode cX9_count 13 = .ok (.iload_n 1, 1) := by decide +kernel
theorem dX9_count_14 : decode cX9_count 14 = .ok (.iaload, 1) := by decide +kernel
theorem dX9_count_15 : decode cX9_count 15 = .ok (.goto 9, 3) := by decide +kernel
theorem dX9_count_18 : decode cX9_count 18 = .ok (.aload_n 0, 1) := by decide +kernel
theorem dX9_count_19 : decode cX9_count 19 = .ok (.bipush (-2), 2) := by decide +kernel
theorem dX9_count_21 : decode cX9_count 21 = .ok (.invokevirtual 54, 3) := by decide +kernel
theorem dX9_count_24 : decode cX9_count 24 = .ok (.ireturn, 1) := by decide +kernel
theorem dX9_mix_0 : decode cX9_mix 0 = .ok (.aload_n 0, 1) := by decide +kernel
theorem dX9_mix_1 : decode cX9_mix 1 = .ok (.ldc2_w 235, 3) := by decide +kernel
theorem dX9_mix_4 : decode cX9_mix 4 = .ok (.aload_n 0, 1) := by decide +kernel
theorem dX9_mix_5 : decode cX9_mix 5 = .ok (.getfield 237, 3) := by decide +kernel
theorem dX9_mix_8 : decode cX9_mix 8 = .ok (.lmul, 1) := by decide +kernel
theorem dX9_mix_9 : decode cX9_mix 9 = .ok (.iload_n 1, 1) := by decide +kernel
theorem dX9_mix_10 : decode cX9_mix 10 = .ok (.i2l, 1) := by decide +kernel
theorem dX9_mix_11 : decode cX9_mix 11 = .ok (.ladd, 1) := by decide +kernel
theorem dX9_mix_12 : decode cX9_mix 12 = .ok (.putfield 237, 3) := by decide +kernel
theorem dX9_mix_15 : decode cX9_mix 15 = .ok (.return_, 1) := by decide +kernel
theorem dX9_mixRow_0 : decode cX9_mixRow 0 = .ok (.iconst 0, 1) := by decide +kernel
theorem dX9_mixRow_1 : decode cX9_mixRow 1 = .ok (.istore_n 3, 1) := by decide +kernel
theorem dX9_mixRow_2 : decode cX9_mixRow 2 = .ok (.iload_n 3, 1) := by decide +kernel
theorem dX9_mixRow_3 : decode cX9_mixRow 3 = .ok (.iload_n 2, 1) := by decide +kernel
theorem dX9_mixRow_4 : decode cX9_mixRow 4 = .ok (.if_icmp .ge 21, 3) := by decide +kernel
theorem dX9_mixRow_7 : decode cX9_mixRow 7 = .ok (.aload_n 0, 1) := by decide +kernel
theorem dX9_mixRow_8 : decode cX9_mixRow 8 = .ok (.aload_n 0, 1) := by decide +kernel
theorem dX9_mixRow_9 : decode cX9_mixRow 9 = .ok (.getfield 7, 3) := by decide +kernel
theorem dX9_mixRow_12 : decode cX9_mixRow 12 = .ok (.iload_n 1, 1) := by decide +kernel
theorem dX9_mixRow_13 : decode cX9_mixRow 13 = .ok (.iload_n 3, 1) := by decide +kernel
theorem dX9_mixRow_14 : decode cX9_mixRow 14 = .ok (.iadd, 1) := by decide +kernel
theorem dX9_mixRow_15 : decode cX9_mixRow 15 = .ok (.iaload, 1) := by decide +kernel
theorem dX9_mixRow_16 : decode cX9_mixRow 16 = .ok (.invokevirtual 241, 3) := by decide +kernel
theorem dX9_mixRow_19 : decode cX9_mixRow 19 = .ok (.iinc 3 1, 3) := by decide +kernel
theorem dX9_mixRow_22 : decode cX9_mixRow 22 = .ok (.goto (-20), 3) := by decide +kernel
theorem dX9_mixRow_25 : decode cX9_mixRow 25 = .ok (.return_, 1) := by decide +kernel
theorem dX9_digest_0 : decode cX9_digest 0 = .ok (.aload_n 0, 1) := by decide +kernel
theorem dX9_digest_1 : decode cX9_digest 1 = .ok (.ldc2_w 244, 3) := by decide +kernel
theorem dX9_digest_4 : decode cX9_digest 4 = .ok (.putfield 237, 3) := by decide +kernel
theorem dX9_digest_7 : decode cX9_digest 7 = .ok (.aload_n 0, 1) := by decide +kernel
theorem dX9_digest_8 : decode cX9_digest 8 = .ok (.iconst 0, 1) := by decide +kernel
theorem dX9_digest_9 : decode cX9_digest 9 = .ok (.iconst 5, 1) := by decide +kernel
theorem dX9_digest_10 : decode cX9_digest 10 = .ok (.invokevirtual 246, 3) := by decide +kernel
theorem dX9_digest_13 : decode cX9_digest 13 = .ok (.iconst 0, 1) := by decide +kernel
theorem dX9_digest_14 : decode cX9_digest 14 = .ok (.istore_n 1, 1) := by decide +kernel
theorem dX9_digest_15 : decode cX9_digest 15 = .ok (.iload_n 1, 1) := by decide +kernel
theorem dX9_digest_16 : decode cX9_digest 16 = .ok (.aload_n 0, 1) := by decide +kernel
theorem dX9_digest_17 : decode cX9_digest 17 = .ok (.getfield 7, 3) := by decide +kernel
theorem dX9_digest_20 : decode cX9_digest 20 = .ok (.iconst 0, 1) := by decide +kernel
theorem dX9_digest_21 : decode cX9_digest 21 = .ok (.iaload, 1) := by decide +kernel
theorem dX9_digest_22 : decode cX9_digest 22 = .ok (.if_icmp .ge 47, 3) := by decide +kernel
theorem dX9_digest_25 : decode cX9_digest 25 = .ok (.aload_n 0, 1) := by decide +kernel
theorem dX9_digest_26 : decode cX9_digest 26 = .ok (.aload_n 0, 1) := by decide +kernel
theorem dX9_digest_27 : decode cX9_digest 27 = .ok (.getfield 7, 3) := by decide +kernel
theorem dX9_digest_30 : decode cX9_digest 30 = .ok (.iconst 5, 1) := by decide +kernel
theorem dX9_digest_31 : decode cX9_digest 31 = .ok (.iload_n 1, 1) := by decide +kernel
theorem dX9_digest_32 : decode cX9_digest 32 = .ok (.iadd, 1) := by decide +kernel
theorem dX9_digest_33 : decode cX9_digest 33 = .ok (.iaload, 1) := by decide +kernel
theorem dX9_digest_34 : decode cX9_digest 34 = .ok (.invokevirtual 241, 3) := by decide +kernel
theorem dX9_digest_37 : decode cX9_digest 37 = .ok (.aload_n 0, 1) := by decide +kernel
theorem dX9_digest_38 : decode cX9_digest 38 = .ok (.aload_n 0, 1) := by decide +kernel
theorem dX9_digest_39 : decode cX9_digest 39 = .ok (.getfield 7, 3) := by decide +kernel
theorem dX9_digest_42 : decode cX9_digest 42 = .ok (.bipush 15, 2) := by decide +kernel
theorem dX9_digest_44 : decode cX9_digest 44 = .ok (.iload_n 1, 1) := by decide +kernel
theorem dX9_digest_45 : decode cX9_digest 45 = .ok (.iadd, 1) := by decide +kernel
theorem dX9_digest_46 : decode cX9_digest 46 = .ok (.iaload, 1) := by decide +kernel
theorem dX9_digest_47 : decode cX9_digest 47 = .ok (.invokevirtual 241, 3) := by decide +kernel
theorem dX9_digest_50 : decode cX9_digest 50 = .ok (.aload_n 0, 1) := by decide +kernel
theorem dX9_digest_51 : decode cX9_digest 51 = .ok (.bipush 25, 2) := by decide +kernel
theorem dX9_digest_53 : decode cX9_digest 53 = .ok (.bipush 6, 2) := by decide +kernel
theorem dX9_digest_55 : decode cX9_digest 55 = .ok (.iload_n 1, 1) := by decide +kernel
theorem dX9_digest_56 : decode cX9_digest 56 = .ok (.imul, 1) := by decide +kernel
theorem dX9_digest_57 : decode cX9_digest 57 = .ok (.iadd, 1) := by decide +kernel
theorem dX9_digest_58 : decode cX9_digest 58 = .ok (.bipush 6, 2) := by decide +kernel
theorem dX9_digest_60 : decode cX9_digest 60 = .ok (.invokevirtual 246, 3) := by decide +kernel
theorem dX9_digest_63 : decode cX9_digest 63 = .ok (.iinc 1 1, 3) := by decide +kernel
theorem dX9_digest_66 : decode cX9_digest 66 = .ok (.goto (-51), 3) := by decide +kernel
theorem dX9_digest_69 : decode cX9_digest 69 = .ok (.iconst 0, 1) := by decide +kernel
theorem dX9_digest_70 : decode cX9_digest 70 = .ok (.istore_n 1, 1) := by decide +kernel
theorem dX9_digest_71 : decode cX9_digest 71 = .ok (.iload_n 1, 1) := by decide +kernel
theorem dX9_digest_72 : decode cX9_digest 72 = .ok (.aload_n 0, 1) := by decide +kernel
theorem dX9_digest_73 : decode cX9_digest 73 = .ok (.getfield 7, 3) := by decide +kernel
theorem dX9_digest_76 : decode cX9_digest 76 = .ok (.iconst 1, 1) := by decide +kernel
theorem dX9_digest_77 : decode cX9_digest 77 = .ok (.iaload, 1) := by decide +kernel
theorem dX9_digest_78 : decode cX9_digest 78 = .ok (.if_icmp .ge 35, 3) := by decide +kernel
theorem dX9_digest_81 : decode cX9_digest 81 = .ok (.aload_n 0, 1) := by decide +kernel
theorem dX9_digest_82 : decode cX9_digest 82 = .ok (.aload_n 0, 1) := by decide +kernel
theorem dX9_digest_83 : decode cX9_digest 83 = .ok (.getfield 7, 3) := by decide +kernel
theorem dX9_digest_86 : decode cX9_digest 86 = .ok (.bipush 85, 2) := by decide +kernel
theorem dX9_digest_88 : decode cX9_digest 88 = .ok (.iload_n 1, 1) := by decide +kernel
theorem dX9_digest_89 : decode cX9_digest 89 = .ok (.iadd, 1) := by decide +kernel
theorem dX9_digest_90 : decode cX9_digest 90 = .ok (.iaload, 1) := by decide +kernel
theorem dX9_digest_91 : decode cX9_digest 91 = .ok (.invokevirtual 241, 3) := by decide +kernel
theorem dX9_digest_94 : decode cX9_digest 94 = .ok (.aload_n 0, 1) := by decide +kernel
theorem dX9_digest_95 : decode cX9_digest 95 = .ok (.bipush 91, 2) := by decide +kernel
theorem dX9_digest_97 : decode cX9_digest 97 = .ok (.bipush 6, 2) := by decide +kernel
theorem dX9_digest_99 : decode cX9_digest 99 = .ok (.iload_n 1, 1) := by decide +kernel
theorem dX9_digest_100 : decode cX9_digest 100 = .ok (.imul, 1) := by decide +kernel
theorem dX9_digest_101 : decode cX9_digest 101 = .ok (.iadd, 1) := by decide +kernel
theorem dX9_digest_102 : decode cX9_digest 102 = .ok (.bipush 6, 2) := by decide +kernel
theorem dX9_digest_104 : decode cX9_digest 104 = .ok (.invokevirtual 246, 3) := by decide +kernel
theorem dX9_digest_107 : decode cX9_digest 107 = .ok (.iinc 1 1, 3) := by decide +kernel
theorem dX9_digest_110 : decode cX9_digest 110 = .ok (.goto (-39), 3) := by decide +kernel
theorem dX9_digest_113 : decode cX9_digest 113 = .ok (.aload_n 0, 1) := by decide +kernel
theorem dX9_digest_114 : decode cX9_digest 114 = .ok (.bipush 127, 2) := by decide +kernel
theorem dX9_digest_116 : decode cX9_digest 116 = .ok (.iconst 5, 1) := by decide +kernel
theorem dX9_digest_117 : decode cX9_digest 117 = .ok (.invokevirtual 246, 3) := by decide +kernel
theorem dX9_digest_120 : decode cX9_digest 120 = .ok (.aload_n 0, 1) := by decide +kernel
theorem dX9_digest_121 : decode cX9_digest 121 = .ok (.sipush 132, 3) := by decide +kernel
theorem dX9_digest_124 : decode cX9_digest 124 = .ok (.aload_n 0, 1) := by decide +kernel
theorem dX9_digest_125 : decode cX9_digest 125 = .ok (.getfield 7, 3) := by decide +kernel
theorem dX9_digest_128 : decode cX9_digest 128 = .ok (.iconst 2, 1) := by decide +kernel
theorem dX9_digest_129 : decode cX9_digest 129 = .ok (.iaload, 1) := by decide +kernel
theorem dX9_digest_130 : decode cX9_digest 130 = .ok (.invokevirtual 246, 3) := by decide +kernel
theorem dX9_digest_133 : decode cX9_digest 133 = .ok (.aload_n 0, 1) := by decide +kernel
theorem dX9_digest_134 : decode cX9_digest 134 = .ok (.sipush 332, 3) := by decide +kernel
theorem dX9_digest_137 : decode cX9_digest 137 = .ok (.bipush 10, 2) := by decide +kernel
theorem dX9_digest_139 : decode cX9_digest 139 = .ok (.aload_n 0, 1) := by decide +kernel
theorem dX9_digest_140 : decode cX9_digest 140 = .ok (.getfield 7, 3) := by decide +kernel
theorem dX9_digest_143 : decode cX9_digest 143 = .ok (.iconst 3, 1) := by decide +kernel
theorem dX9_digest_144 : decode cX9_digest 144 = .ok (.iaload, 1) := by decide +kernel
theorem dX9_digest_145 : decode cX9_digest 145 = .ok (.imul, 1) := by decide +kernel
theorem dX9_digest_146 : decode cX9_digest 146 = .ok (.invokevirtual 246, 3) := by decide +kernel
theorem dX9_digest_149 : decode cX9_digest 149 = .ok (.aload_n 0, 1) := by decide +kernel
theorem dX9_digest_150 : decode cX9_digest 150 = .ok (.sipush 372, 3) := by decide +kernel
theorem dX9_digest_153 : decode cX9_digest 153 = .ok (.aload_n 0, 1) := by decide +kernel
theorem dX9_digest_154 : decode cX9_digest 154 = .ok (.getfield 7, 3) := by decide +kernel
theorem dX9_digest_157 : decode cX9_digest 157 = .ok (.iconst 4, 1) := by decide +kernel
theorem dX9_digest_158 : decode cX9_digest 158 = .ok (.iaload, 1) := by decide +kernel
theorem dX9_digest_159 : decode cX9_digest 159 = .ok (.invokevirtual 246, 3) := by decide +kernel
theorem dX9_digest_162 : decode cX9_digest 162 = .ok (.aload_n 0, 1) := by decide +kernel
theorem dX9_digest_163 : decode cX9_digest 163 = .ok (.aload_n 0, 1) := by decide +kernel
theorem dX9_digest_164 : decode cX9_digest 164 = .ok (.getfield 220, 3) := by decide +kernel
theorem dX9_digest_167 : decode cX9_digest 167 = .ok (.invokevirtual 241, 3) := by decide +kernel
theorem dX9_digest_170 : decode cX9_digest 170 = .ok (.aload_n 0, 1) := by decide +kernel
theorem dX9_digest_171 : decode cX9_digest 171 = .ok (.aload_n 0, 1) := by decide +kernel
theorem dX9_digest_172 : decode cX9_digest 172 = .ok (.iconst 0, 1) := by decide +kernel
theorem dX9_digest_173 : decode cX9_digest 173 = .ok (.invokevirtual 229, 3) := by decide +kernel
theorem dX9_digest_176 : decode cX9_digest 176 = .ok (.invokevirtual 241, 3) := by decide +kernel
theorem dX9_digest_179 : decode cX9_digest 179 = .ok (.aload_n 0, 1) := by decide +kernel
theorem dX9_digest_180 : decode cX9_digest 180 = .ok (.aload_n 0, 1) := by decide +kernel
theorem dX9_digest_181 : decode cX9_digest 181 = .ok (.iconst 1, 1) := by decide +kernel
theorem dX9_digest_182 : decode cX9_digest 182 = .ok (.invokevirtual 229, 3) := by decide +kernel
theorem dX9_digest_185 : decode cX9_digest 185 = .ok (.invokevirtual 241, 3) := by decide +kernel
theorem dX9_digest_188 : decode cX9_digest 188 = .ok (.iconst 0, 1) := by decide +kernel
theorem dX9_digest_189 : decode cX9_digest 189 = .ok (.istore_n 1, 1) := by decide +kernel
theorem dX9_digest_190 : decode cX9_digest 190 = .ok (.iload_n 1, 1) := by decide +kernel
theorem dX9_digest_191 : decode cX9_digest 191 = .ok (.aload_n 0, 1) := by decide +kernel
theorem dX9_digest_192 : decode cX9_digest 192 = .ok (.iconst 0, 1) := by decide +kernel
theorem dX9_digest_193 : decode cX9_digest 193 = .ok (.invokevirtual 229, 3) := by decide +kernel
theorem dX9_digest_196 : decode cX9_digest 196 = .ok (.if_icmp .ge 21, 3) := by decide +kernel
theorem dX9_digest_199 : decode cX9_digest 199 = .ok (.aload_n 0, 1) := by decide +kernel
theorem dX9_digest_200 : decode cX9_digest 200 = .ok (.aload_n 0, 1) := by decide +kernel
theorem dX9_digest_201 : decode cX9_digest 201 = .ok (.getfield 47, 3) := by decide +kernel
theorem dX9_digest_204 : decode cX9_digest 204 = .ok (.iconst 0, 1) := by decide +kernel
theorem dX9_digest_205 : decode cX9_digest 205 = .ok (.iload_n 1, 1) := by decide +kernel
theorem dX9_digest_206 : decode cX9_digest 206 = .ok (.iadd, 1) := by decide +kernel
theorem dX9_digest_207 : decode cX9_digest 207 = .ok (.iaload, 1) := by decide +kernel
theorem dX9_digest_208 : decode cX9_digest 208 = .ok (.invokevirtual 241, 3) := by decide +kernel
theorem dX9_digest_211 : decode cX9_digest 211 = .ok (.iinc 1 1, 3) := by decide +kernel
theorem dX9_digest_214 : decode cX9_digest 214 = .ok (.goto (-24), 3) := by decide +kernel
theorem dX9_digest_217 : decode cX9_digest 217 = .ok (.iconst 0, 1) := by decide +kernel
theorem dX9_digest_218 : decode cX9_digest 218 = .ok (.istore_n 1, 1) := by decide +kernel
theorem dX9_digest_219 : decode cX9_digest 219 = .ok (.iload_n 1, 1) := by decide +kernel
theorem dX9_digest_220 : decode cX9_digest 220 = .ok (.aload_n 0, 1) := by decide +kernel
theorem dX9_digest_221 : decode cX9_digest 221 = .ok (.iconst 1, 1) := by decide +kernel
theorem dX9_digest_222 : decode cX9_digest 222 = .ok (.invokevirtual 229, 3) := by decide +kernel
theorem dX9_digest_225 : decode cX9_digest 225 = .ok (.if_icmp .ge 22, 3) := by decide +kernel
theorem dX9_digest_228 : decode cX9_digest 228 = .ok (.aload_n 0, 1) := by decide +kernel
theorem dX9_digest_229 : decode cX9_digest 229 = .ok (.aload_n 0, 1) := by decide +kernel
theorem dX9_digest_230 : decode cX9_digest 230 = .ok (.getfield 47, 3) := by decide +kernel
theorem dX9_digest_233 : decode cX9_digest 233 = .ok (.bipush 16, 2) := by decide +kernel
theorem dX9_digest_235 : decode cX9_digest 235 = .ok (.iload_n 1, 1) := by decide +kernel
theorem dX9_digest_236 : decode cX9_digest 236 = .ok (.iadd, 1) := by decide +kernel
theorem dX9_digest_237 : decode cX9_digest 237 = .ok (.iaload, 1) := by decide +kernel
theorem dX9_digest_238 : decode cX9_digest 238 = .ok (.invokevirtual 241, 3) := by decide +kernel
theorem dX9_digest_241 : decode cX9_digest 241 = .ok (.iinc 1 1, 3) := by decide +kernel
theorem dX9_digest_244 : decode cX9_digest 244 = .ok (.goto (-25), 3) := by decide +kernel
theorem dX9_digest_247 : decode cX9_digest 247 = .ok (.aload_n 0, 1) := by decide +kernel
theorem dX9_digest_248 : decode cX9_digest 248 = .ok (.getfield 237, 3) := by decide +kernel
theorem dX9_digest_251 : decode cX9_digest 251 = .ok (.lreturn, 1) := by decide +kernel
theorem dJ6_bitCount_0f7a4_0 : decode cJ6_bitCount_0f7a4 0 = .ok (.iload_n 0, 1) := by decide +kernel
theorem dJ6_bitCount_0f7a4_1 : decode cJ6_bitCount_0f7a4 1 = .ok (.iload_n 0, 1) := by decide +kernel
theorem dJ6_bitCount_0f7a4_2 : decode cJ6_bitCount_0f7a4 2 = .ok (.iconst 1, 1) := by decide +kernel
theorem dJ6_bitCount_0f7a4_3 : decode cJ6_bitCount_0f7a4 3 = .ok (.iushr, 1) := by decide +kernel
theorem dJ6_bitCount_0f7a4_4 : decode cJ6_bitCount_0f7a4 4 = .ok (.ldc_w 265, 3) := by decide +kernel
theorem dJ6_bitCount_0f7a4_7 : decode cJ6_bitCount_0f7a4 7 = .ok (.iand, 1) := by decide +kernel
theorem dJ6_bitCount_0f7a4_8 : decode cJ6_bitCount_0f7a4 8 = .ok (.isub, 1) := by decide +kernel
theorem dJ6_bitCount_0f7a4_9 : decode cJ6_bitCount_0f7a4 9 = .ok (.istore_n 0, 1) := by decide +kernel
theorem dJ6_bitCount_0f7a4_10 : decode cJ6_bitCount_0f7a4 10 = .ok (.iload_n 0, 1) := by decide +kernel
theorem dJ6_bitCount_0f7a4_11 : decode cJ6_bitCount_0f7a4 11 = .ok (.ldc_w 266, 3) := by decide +kernel
theorem dJ6_bitCount_0f7a4_14 : decode cJ6_bitCount_0f7a4 14 = .ok (.iand, 1) := by decide +kernel
theorem dJ6_bitCount_0f7a4_15 : decode cJ6_bitCount_0f7a4 15 = .ok (.iload_n 0, 1) := by decide +kernel
theorem dJ6_bitCount_0f7a4_16 : decode cJ6_bitCount_0f7a4 16 = .ok (.iconst 2, 1) := by decide +kernel
theorem dJ6_bitCount_0f7a4_17 : decode cJ6_bitCount_0f7a4 17 = .ok (.iushr, 1) := by decide +kernel
theorem dJ6_bitCount_0f7a4_18 : decode cJ6_bitCount_0f7a4 18 = .ok (.ldc_w 266, 3) := by decide +kernel
theorem dJ6_bitCount_0f7a4_21 : decode cJ6_bitCount_0f7a4 21 = .ok (.iand, 1) := by decide +kernel
theorem dJ6_bitCount_0f7a4_22 : decode cJ6_bitCount_0f7a4 22 = .ok (.iadd, 1) := by decide +kernel
theorem dJ6_bitCount_0f7a4_23 : decode cJ6_bitCount_0f7a4 23 = .ok (.istore_n 0, 1) := by decide +kernel
theorem dJ6_bitCount_0f7a4_24 : decode cJ6_bitCount_0f7a4 24 = .ok (.iload_n 0, 1) := by decide +kernel
theorem dJ6_bitCount_0f7a4_25 : decode cJ6_bitCount_0f7a4 25 = .ok (.iload_n 0, 1) := by decide +kernel
theorem dJ6_bitCount_0f7a4_26 : decode cJ6_bitCount_0f7a4 26 = .ok (.iconst 4, 1) := by decide +kernel
theorem dJ6_bitCount_0f7a4_27 : decode cJ6_bitCount_0f7a4 27 = .ok (.iushr, 1) := by decide +kernel
theorem dJ6_bitCount_0f7a4_28 : decode cJ6_bitCount_0f7a4 28 = .ok (.iadd, 1) := by decide +kernel
theorem dJ6_bitCount_0f7a4_29 : decode cJ6_bitCount_0f7a4 29 = .ok (.ldc_w 267, 3) := by decide +kernel
theorem dJ6_bitCount_0f7a4_32 : decode cJ6_bitCount_0f7a4 32 = .ok (.iand, 1) := by decide +kernel
theorem dJ6_bitCount_0f7a4_33 : decode cJ6_bitCount_0f7a4 33 = .ok (.istore_n 0, 1) := by decide +kernel
theorem dJ6_bitCount_0f7a4_34 : decode cJ6_bitCount_0f7a4 34 = .ok (.iload_n 0, 1) := by decide +kernel
theorem dJ6_bitCount_0f7a4_35 : decode cJ6_bitCount_0f7a4 35 = .ok (.iload_n 0, 1) := by decide +kernel
theorem dJ6_bitCount_0f7a4_36 : decode cJ6_bitCount_0f7a4 36 = .ok (.bipush 8, 2) := by decide +kernel
theorem dJ6_bitCount_0f7a4_38 : decode cJ6_bitCount_0f7a4 38 = .ok (.iushr, 1) := by decide +kernel
theorem dJ6_bitCount_0f7a4_39 : decode cJ6_bitCount_0f7a4 39 = .ok (.iadd, 1) := by decide +kernel
theorem dJ6_bitCount_0f7a4_40 : decode cJ6_bitCount_0f7a4 40 = .ok (.istore_n 0, 1) := by decide +kernel
theorem dJ6_bitCount_0f7a4_41 : decode cJ6_bitCount_0f7a4 41 = .ok (.iload_n 0, 1) := by decide +kernel
theorem dJ6_bitCount_0f7a4_42 : decode cJ6_bitCount_0f7a4 42 = .ok (.iload_n 0, 1) := by decide +kernel
theorem dJ6_bitCount_0f7a4_43 : decode cJ6_bitCount_0f7a4 43 = .ok (.bipush 16, 2) := by decide +kernel
theorem dJ6_bitCount_0f7a4_45 : decode cJ6_bitCount_0f7a4 45 = .ok (.iushr, 1) := by decide +kernel
theorem dJ6_bitCount_0f7a4_46 : decode cJ6_bitCount_0f7a4 46 = .ok (.iadd, 1) := by decide +kernel
theorem dJ6_bitCount_0f7a4_47 : decode cJ6_bitCount_0f7a4 47 = .ok (.istore_n 0, 1) := by decide +kernel
theorem dJ6_bitCount_0f7a4_48 : decode cJ6_bitCount_0f7a4 48 = .ok (.iload_n 0, 1) := by decide +kernel
theorem dJ6_bitCount_0f7a4_49 : decode cJ6_bitCount_0f7a4 49 = .ok (.bipush 63, 2) := by decide +kernel
theorem dJ6_bitCount_0f7a4_51 : decode cJ6_bitCount_0f7a4 51 = .ok (.iand, 1) := by decide +kernel
theorem dJ6_bitCount_0f7a4_52 : decode cJ6_bitCount_0f7a4 52 = .ok (.ireturn, 1) := by decide +kernel
theorem dJ9_abs_0f7a4_0 : decode cJ9_abs_0f7a4 0 = .ok (.iload_n 0, 1) := by decide +kernel
theorem dJ9_abs_0f7a4_1 : decode cJ9_abs_0f7a4 1 = .ok (.ifCond .ge 8, 3) := by decide +kernel
theorem dJ9_abs_0f7a4_4 : decode cJ9_abs_0f7a4 4 = .ok (.iload_n 0, 1) := by decide +kernel
theorem dJ9_abs_0f7a4_5 : decode cJ9_abs_0f7a4 5 = .ok (.ineg, 1) := by decide +kernel
theorem dJ9_abs_0f7a4_6 : decode cJ9_abs_0f7a4 6 = .ok (.goto 4, 3) := by decide +kernel
theorem dJ9_abs_0f7a4_9 : decode cJ9_abs_0f7a4 9 = .ok (.iload_n 0, 1) := by decide +kernel
theorem dJ9_abs_0f7a4_10 : decode cJ9_abs_0f7a4 10 = .ok (.ireturn, 1) := by decide +kernel
theorem dJ9_max_7cf53_0 : decode cJ9_max_7cf53 0 = .ok (.iload_n 0, 1) := by decide +kernel
theorem dJ9_max_7cf53_1 : decode cJ9_max_7cf53 1 = .ok (.iload_n 1, 1) := by decide +kernel
theorem dJ9_max_7cf53_2 : decode cJ9_max_7cf53 2 = .ok (.if_icmp .lt 7, 3) := by decide +kernel
theorem dJ9_max_7cf53_5 : decode cJ9_max_7cf53 5 = .ok (.iload_n 0, 1) := by decide +kernel
theorem dJ9_max_7cf53_6 : decode cJ9_max_7cf53 6 = .ok (.goto 4, 3) := by decide +kernel
theorem dJ9_max_7cf53_9 : decode cJ9_max_7cf53 9 = .ok (.iload_n 1, 1) := by decide +kernel
theorem dJ9_max_7cf53_10 : decode cJ9_max_7cf53 10 = .ok (.ireturn, 1) := by decide +kernel
theorem dJ9_min_7cf53_0 : decode cJ9_min_7cf53 0 = .ok (.iload_n 0, 1) := by decide +kernel
theorem dJ9_min_7cf53_1 : decode cJ9_min_7cf53 1 = .ok (.iload_n 1, 1) := by decide +kernel
theorem dJ9_min_7cf53_2 : decode cJ9_min_7cf53 2 = .ok (.if_icmp .gt 7, 3) := by decide +kernel
theorem dJ9_min_7cf53_5 : decode cJ9_min_7cf53 5 = .ok (.iload_n 0, 1) := by decide +kernel
theorem dJ9_min_7cf53_6 : decode cJ9_min_7cf53 6 = .ok (.goto 4, 3) := by decide +kernel
theorem dJ9_min_7cf53_9 : decode cJ9_min_7cf53 9 = .ok (.iload_n 1, 1) := by decide +kernel
theorem dJ9_min_7cf53_10 : decode cJ9_min_7cf53 10 = .ok (.ireturn, 1) := by decide +kernel
theorem dL_law_0 : decode cL_law 0 = .ok (.new 7, 3) := by decide +kernel
theorem dL_law_3 : decode cL_law 3 = .ok (.dup, 1) := by decide +kernel
theorem dL_law_4 : decode cL_law 4 = .ok (.invokespecial 9, 3) := by decide +kernel
theorem dL_law_7 : decode cL_law 7 = .ok (.astore_n 1, 1) := by decide +kernel
theorem dL_law_8 : decode cL_law 8 = .ok (.new 10, 3) := by decide +kernel
theorem dL_law_11 : decode cL_law 11 = .ok (.dup, 1) := by decide +kernel
theorem dL_law_12 : decode cL_law 12 = .ok (.invokespecial 12, 3) := by decide +kernel
theorem dL_law_15 : decode cL_law 15 = .ok (.astore_n 2, 1) := by decide +kernel
theorem dL_law_16 : decode cL_law 16 = .ok (.iconst 0, 1) := by decide +kernel
theorem dL_law_17 : decode cL_law 17 = .ok (.istore_n 3, 1) := by decide +kernel
theorem dL_law_18 : decode cL_law 18 = .ok (.iload_n 3, 1) := by decide +kernel
theorem dL_law_19 : decode cL_law 19 = .ok (.aload_n 0, 1) := by decide +kernel
theorem dL_law_20 : decode cL_law 20 = .ok (.arraylength, 1) := by decide +kernel
theorem dL_law_21 : decode cL_law 21 = .ok (.bipush 7, 2) := by decide +kernel
theorem dL_law_23 : decode cL_law 23 = .ok (.isub, 1) := by decide +kernel
theorem dL_law_24 : decode cL_law 24 = .ok (.if_icmp .gt 1520, 3) := by decide +kernel
theorem dL_law_27 : decode cL_law 27 = .ok (.aload_n 0, 1) := by decide +kernel
theorem dL_law_28 : decode cL_law 28 = .ok (.iload_n 3, 1) := by decide +kernel
theorem dL_law_29 : decode cL_law 29 = .ok (.iaload, 1) := by decide +kernel
theorem dL_law_30 : decode cL_law 30 = .ok (.bipush 63, 2) := by decide +kernel
theorem dL_law_32 : decode cL_law 32 = .ok (.iand, 1) := by decide +kernel
theorem dL_law_33 : decode cL_law 33 = .ok (.tableswitch 1505 0 40 #[179, 212, 255, 278, 321, 354, 407, 450, 493, 556, 609, 662, 685, 728, 761, 784, 797, 820, 883, 896, 909, 922, 955, 968, 981, 1004, 1027, 1090, 1165, 1228, 1241, 1284, 1307, 1320, 1343, 1366, 1399, 1422, 1445, 1468, 1491], 179) := by decide +kernel
theorem dL_law_212 : decode cL_law 212 = .ok (.aload_n 1, 1) := by decide +kernel
theorem dL_law_213 : decode cL_law 213 = .ok (.aload_n 0, 1) := by decide +kernel
theorem dL_law_214 : decode cL_law 214 = .ok (.iload_n 3, 1) := by decide +kernel
theorem dL_law_215 : decode cL_law 215 = .ok (.iconst 1, 1) := by decide +kernel
theorem dL_law_216 : decode cL_law 216 = .ok (.iadd, 1) := by decide +kernel
theorem dL_law_217 : decode cL_law 217 = .ok (.iaload, 1) := by decide +kernel
theorem dL_law_218 : decode cL_law 218 = .ok (.aload_n 0, 1) := by decide +kernel
theorem dL_law_219 : decode cL_law 219 = .ok (.iload_n 3, 1) := by decide +kernel
theorem dL_law_220 : decode cL_law 220 = .ok (.iconst 2, 1) := by decide +kernel
theorem dL_law_221 : decode cL_law 221 = .ok (.iadd, 1) := by decide +kernel
theorem dL_law_222 : decode cL_law 222 = .ok (.iaload, 1) := by decide +kernel
theorem dL_law_223 : decode cL_law 223 = .ok (.invokevirtual 13, 3) := by decide +kernel
theorem dL_law_226 : decode cL_law 226 = .ok (.aload_n 2, 1) := by decide +kernel
theorem dL_law_227 : decode cL_law 227 = .ok (.aload_n 0, 1) := by decide +kernel
theorem dL_law_228 : decode cL_law 228 = .ok (.iload_n 3, 1) := by decide +kernel
theorem dL_law_229 : decode cL_law 229 = .ok (.iconst 1, 1) := by decide +kernel
theorem dL_law_230 : decode cL_law 230 = .ok (.iadd, 1) := by decide +kernel
theorem dL_law_231 : decode cL_law 231 = .ok (.iaload, 1) := by decide +kernel
theorem dL_law_232 : decode cL_law 232 = .ok (.aload_n 0, 1) := by decide +kernel
theorem dL_law_233 : decode cL_law 233 = .ok (.iload_n 3, 1) := by decide +kernel
theorem dL_law_234 : decode cL_law 234 = .ok (.iconst 2, 1) := by decide +kernel
theorem dL_law_235 : decode cL_law 235 = .ok (.iadd, 1) := by decide +kernel
theorem dL_law_236 : decode cL_law 236 = .ok (.iaload, 1) := by decide +kernel
theorem dL_law_237 : decode cL_law 237 = .ok (.invokevirtual 17, 3) := by decide +kernel
theorem dL_law_240 : decode cL_law 240 = .ok (.if_icmp .eq 1298, 3) := by decide +kernel
theorem dL_law_243 : decode cL_law 243 = .ok (.iconst 0, 1) := by decide +kernel
theorem dL_law_244 : decode cL_law 244 = .ok (.ireturn, 1) := by decide +kernel
theorem dL_law_245 : decode cL_law 245 = .ok (.aload_n 1, 1) := by decide +kernel
theorem dL_law_246 : decode cL_law 246 = .ok (.aload_n 0, 1) := by decide +kernel
theorem dL_law_247 : decode cL_law 247 = .ok (.iload_n 3, 1) := by decide +kernel
theorem dL_law_248 : decode cL_law 248 = .ok (.iconst 1, 1) := by decide +kernel
theorem dL_law_249 : decode cL_law 249 = .ok (.iadd, 1) := by decide +kernel
theorem dL_law_250 : decode cL_law 250 = .ok (.iaload, 1) := by decide +kernel
theorem dL_law_251 : decode cL_law 251 = .ok (.aload_n 0, 1) := by decide +kernel
theorem dL_law_252 : decode cL_law 252 = .ok (.iload_n 3, 1) := by decide +kernel
theorem dL_law_253 : decode cL_law 253 = .ok (.iconst 2, 1) := by decide +kernel
theorem dL_law_254 : decode cL_law 254 = .ok (.iadd, 1) := by decide +kernel
theorem dL_law_255 : decode cL_law 255 = .ok (.iaload, 1) := by decide +kernel
theorem dL_law_256 : decode cL_law 256 = .ok (.aload_n 0, 1) := by decide +kernel
theorem dL_law_257 : decode cL_law 257 = .ok (.iload_n 3, 1) := by decide +kernel
theorem dL_law_258 : decode cL_law 258 = .ok (.iconst 3, 1) := by decide +kernel
theorem dL_law_259 : decode cL_law 259 = .ok (.iadd, 1) := by decide +kernel
theorem dL_law_260 : decode cL_law 260 = .ok (.iaload, 1) := by decide +kernel
theorem dL_law_261 : decode cL_law 261 = .ok (.invokevirtual 18, 3) := by decide +kernel
theorem dL_law_264 : decode cL_law 264 = .ok (.aload_n 2, 1) := by decide +kernel
theorem dL_law_265 : decode cL_law 265 = .ok (.aload_n 0, 1) := by decide +kernel
theorem dL_law_266 : decode cL_law 266 = .ok (.iload_n 3, 1) := by decide +kernel
theorem dL_law_267 : decode cL_law 267 = .ok (.iconst 1, 1) := by decide +kernel
theorem dL_law_268 : decode cL_law 268 = .ok (.iadd, 1) := by decide +kernel
theorem dL_law_269 : decode cL_law 269 = .ok (.iaload, 1) := by decide +kernel
theorem dL_law_270 : decode cL_law 270 = .ok (.aload_n 0, 1) := by decide +kernel
theorem dL_law_271 : decode cL_law 271 = .ok (.iload_n 3, 1) := by decide +kernel
theorem dL_law_272 : decode cL_law 272 = .ok (.iconst 2, 1) := by decide +kernel
theorem dL_law_273 : decode cL_law 273 = .ok (.iadd, 1) := by decide +kernel
theorem dL_law_274 : decode cL_law 274 = .ok (.iaload, 1) := by decide +kernel
theorem dL_law_275 : decode cL_law 275 = .ok (.aload_n 0, 1) := by decide +kernel
theorem dL_law_276 : decode cL_law 276 = .ok (.iload_n 3, 1) := by decide +kernel
theorem dL_law_277 : decode cL_law 277 = .ok (.iconst 3, 1) := by decide +kernel
theorem dL_law_278 : decode cL_law 278 = .ok (.iadd, 1) := by decide +kernel
theorem dL_law_279 : decode cL_law 279 = .ok (.iaload, 1) := by decide +kernel
theorem dL_law_280 : decode cL_law 280 = .ok (.invokevirtual 22, 3) := by decide +kernel
theorem dL_law_283 : decode cL_law 283 = .ok (.if_icmp .eq 1255, 3) := by decide +kernel
theorem dL_law_286 : decode cL_law 286 = .ok (.iconst 0, 1) := by decide +kernel
theorem dL_law_287 : decode cL_law 287 = .ok (.ireturn, 1) := by decide +kernel
theorem dL_law_288 : decode cL_law 288 = .ok (.aload_n 1, 1) := by decide +kernel
theorem dL_law_289 : decode cL_law 289 = .ok (.aload_n 0, 1) := by decide +kernel
theorem dL_law_290 : decode cL_law 290 = .ok (.iload_n 3, 1) := by decide +kernel
theorem dL_law_291 : decode cL_law 291 = .ok (.iconst 1, 1) := by decide +kernel
theorem dL_law_292 : decode cL_law 292 = .ok (.iadd, 1) := by decide +kernel
theorem dL_law_293 : decode cL_law 293 = .ok (.iaload, 1) := by decide +kernel
theorem dL_law_294 : decode cL_law 294 = .ok (.invokevirtual 23, 3) := by decide +kernel
theorem dL_law_297 : decode cL_law 297 = .ok (.aload_n 2, 1) := by decide +kernel
theorem dL_law_298 : decode cL_law 298 = .ok (.aload_n 0, 1) := by decide +kernel
theorem dL_law_299 : decode cL_law 299 = .ok (.iload_n 3, 1) := by decide +kernel
theorem dL_law_300 : decode cL_law 300 = .ok (.iconst 1, 1) := by decide +kernel
theorem dL_law_301 : decode cL_law 301 = .ok (.iadd, 1) := by decide +kernel
theorem dL_law_302 : decode cL_law 302 = .ok (.iaload, 1) := by decide +kernel
theorem dL_law_303 : decode cL_law 303 = .ok (.invokevirtual 27, 3) := by decide +kernel
theorem dL_law_306 : decode cL_law 306 = .ok (.if_icmp .eq 1232, 3) := by decide +kernel
theorem dL_law_309 : decode cL_law 309 = .ok (.iconst 0, 1) := by decide +kernel
theorem dL_law_310 : decode cL_law 310 = .ok (.ireturn, 1) := by decide +kernel
theorem dL_law_311 : decode cL_law 311 = .ok (.aload_n 1, 1) := by decide +kernel
theorem dL_law_312 : decode cL_law 312 = .ok (.aload_n 0, 1) := by decide +kernel
theorem dL_law_313 : decode cL_law 313 = .ok (.iload_n 3, 1) := by decide +kernel
theorem dL_law_314 : decode cL_law 314 = .ok (.iconst 1, 1) := by decide +kernel
theorem dL_law_315 : decode cL_law 315 = .ok (.iadd, 1) := by decide +kernel
theorem dL_law_316 : decode cL_law 316 = .ok (.iaload, 1) := by decide +kernel
theorem dL_law_317 : decode cL_law 317 = .ok (.aload_n 0, 1) := by decide +kernel
theorem dL_law_318 : decode cL_law 318 = .ok (.iload_n 3, 1) := by decide +kernel
theorem dL_law_319 : decode cL_law 319 = .ok (.iconst 2, 1) := by decide +kernel
theorem dL_law_320 : decode cL_law 320 = .ok (.iadd, 1) := by decide +kernel
theorem dL_law_321 : decode cL_law 321 = .ok (.iaload, 1) := by decide +kernel
theorem dL_law_322 : decode cL_law 322 = .ok (.aload_n 0, 1) := by decide +kernel
theorem dL_law_323 : decode cL_law 323 = .ok (.iload_n 3, 1) := by decide +kernel
theorem dL_law_324 : decode cL_law 324 = .ok (.iconst 3, 1) := by decide +kernel
theorem dL_law_325 : decode cL_law 325 = .ok (.iadd, 1) := by decide +kernel
theorem dL_law_326 : decode cL_law 326 = .ok (.iaload, 1) := by decide +kernel
theorem dL_law_327 : decode cL_law 327 = .ok (.invokevirtual 28, 3) := by decide +kernel
theorem dL_law_330 : decode cL_law 330 = .ok (.aload_n 2, 1) := by decide +kernel
theorem dL_law_331 : decode cL_law 331 = .ok (.aload_n 0, 1) := by decide +kernel
theorem dL_law_332 : decode cL_law 332 = .ok (.iload_n 3, 1) := by decide +kernel
theorem dL_law_333 : decode cL_law 333 = .ok (.iconst 1, 1) := by decide +kernel
theorem dL_law_334 : decode cL_law 334 = .ok (.iadd, 1) := by decide +kernel
theorem dL_law_335 : decode cL_law 335 = .ok (.iaload, 1) := by decide +kernel
theorem dL_law_336 : decode cL_law 336 = .ok (.aload_n 0, 1) := by decide +kernel
theorem dL_law_337 : decode cL_law 337 = .ok (.iload_n 3, 1) := by decide +kernel
theorem dL_law_338 : decode cL_law 338 = .ok (.iconst 2, 1) := by decide +kernel
theorem dL_law_339 : decode cL_law 339 = .ok (.iadd, 1) := by decide +kernel
theorem dL_law_340 : decode cL_law 340 = .ok (.iaload, 1) := by decide +kernel
theorem dL_law_341 : decode cL_law 341 = .ok (.aload_n 0, 1) := by decide +kernel
theorem dL_law_342 : decode cL_law 342 = .ok (.iload_n 3, 1) := by decide +kernel
theorem dL_law_343 : decode cL_law 343 = .ok (.iconst 3, 1) := by decide +kernel
theorem dL_law_344 : decode cL_law 344 = .ok (.iadd, 1) := by decide +kernel
theorem dL_law_345 : decode cL_law 345 = .ok (.iaload, 1) := by decide +kernel
theorem dL_law_346 : decode cL_law 346 = .ok (.invokevirtual 31, 3) := by decide +kernel
theorem dL_law_349 : decode cL_law 349 = .ok (.if_icmp .eq 1189, 3) := by decide +kernel
theorem dL_law_352 : decode cL_law 352 = .ok (.iconst 0, 1) := by decide +kernel
theorem dL_law_353 : decode cL_law 353 = .ok (.ireturn, 1) := by decide +kernel
theorem dL_law_354 : decode cL_law 354 = .ok (.aload_n 1, 1) := by decide +kernel
theorem dL_law_355 : decode cL_law 355 = .ok (.aload_n 0, 1) := by decide +kernel
theorem dL_law_356 : decode cL_law 356 = .ok (.iload_n 3, 1) := by decide +kernel
theorem dL_law_357 : decode cL_law 357 = .ok (.iconst 1, 1) := by decide +kernel
theorem dL_law_358 : decode cL_law 358 = .ok (.iadd, 1) := by decide +kernel
theorem dL_law_359 : decode cL_law 359 = .ok (.iaload, 1) := by decide +kernel
theorem dL_law_360 : decode cL_law 360 = .ok (.aload_n 0, 1) := by decide +kernel
theorem dL_law_361 : decode cL_law 361 = .ok (.iload_n 3, 1) := by decide +kernel
theorem dL_law_362 : decode cL_law 362 = .ok (.iconst 2, 1) := by decide +kernel
theorem dL_law_363 : decode cL_law 363 = .ok (.iadd, 1) := by decide +kernel
theorem dL_law_364 : decode cL_law 364 = .ok (.iaload, 1) := by decide +kernel
theorem dL_law_365 : decode cL_law 365 = .ok (.invokevirtual 32, 3) := by decide +kernel
theorem dL_law_368 : decode cL_law 368 = .ok (.aload_n 2, 1) := by decide +kernel
theorem dL_law_369 : decode cL_law 369 = .ok (.aload_n 0, 1) := by decide +kernel
theorem dL_law_370 : decode cL_law 370 = .ok (.iload_n 3, 1) := by decide +kernel
theorem dL_law_371 : decode cL_law 371 = .ok (.iconst 1, 1) := by decide +kernel
theorem dL_law_372 : decode cL_law 372 = .ok (.iadd, 1) := by decide +kernel
theorem dL_law_373 : decode cL_law 373 = .ok (.iaload, 1) := by decide +kernel
theorem dL_law_374 : decode cL_law 374 = .ok (.aload_n 0, 1) := by decide +kernel
theorem dL_law_375 : decode cL_law 375 = .ok (.iload_n 3, 1) := by decide +kernel
theorem dL_law_376 : decode cL_law 376 = .ok (.iconst 2, 1) := by decide +kernel
theorem dL_law_377 : decode cL_law 377 = .ok (.iadd, 1) := by decide +kernel
theorem dL_law_378 : decode cL_law 378 = .ok (.iaload, 1) := by decide +kernel
theorem dL_law_379 : decode cL_law 379 = .ok (.invokevirtual 35, 3) := by decide +kernel
theorem dL_law_382 : decode cL_law 382 = .ok (.if_icmp .eq 1156, 3) := by decide +kernel
theorem dL_law_385 : decode cL_law 385 = .ok (.iconst 0, 1) := by decide +kernel
theorem dL_law_386 : decode cL_law 386 = .ok (.ireturn, 1) := by decide +kernel
theorem dL_law_387 : decode cL_law 387 = .ok (.aload_n 1, 1) := by decide +kernel
theorem dL_law_388 : decode cL_law 388 = .ok (.aload_n 0, 1) := by decide +kernel
theorem dL_law_389 : decode cL_law 389 = .ok (.iload_n 3, 1) := by decide +kernel
theorem dL_law_390 : decode cL_law 390 = .ok (.iconst 1, 1) := by decide +kernel
theorem dL_law_391 : decode cL_law 391 = .ok (.iadd, 1) := by decide +kernel
theorem dL_law_392 : decode cL_law 392 = .ok (.iaload, 1) := by decide +kernel
theorem dL_law_393 : decode cL_law 393 = .ok (.aload_n 0, 1) := by decide +kernel
theorem dL_law_394 : decode cL_law 394 = .ok (.iload_n 3, 1) := by decide +kernel
theorem dL_law_395 : decode cL_law 395 = .ok (.iconst 2, 1) := by decide +kernel
theorem dL_law_396 : decode cL_law 396 = .ok (.iadd, 1) := by decide +kernel
theorem dL_law_397 : decode cL_law 397 = .ok (.iaload, 1) := by decide +kernel
theorem dL_law_398 : decode cL_law 398 = .ok (.aload_n 0, 1) := by decide +kernel
theorem dL_law_399 : decode cL_law 399 = .ok (.iload_n 3, 1) := by decide +kernel
theorem dL_law_400 : decode cL_law 400 = .ok (.iconst 3, 1) := by decide +kernel
theorem dL_law_401 : decode cL_law 401 = .ok (.iadd, 1) := by decide +kernel
theorem dL_law_402 : decode cL_law 402 = .ok (.iaload, 1) := by decide +kernel
theorem dL_law_403 : decode cL_law 403 = .ok (.aload_n 0, 1) := by decide +kernel
theorem dL_law_404 : decode cL_law 404 = .ok (.iload_n 3, 1) := by decide +kernel
theorem dL_law_405 : decode cL_law 405 = .ok (.iconst 4, 1) := by decide +kernel
theorem dL_law_406 : decode cL_law 406 = .ok (.iadd, 1) := by decide +kernel
theorem dL_law_407 : decode cL_law 407 = .ok (.iaload, 1) := by decide +kernel
theorem dL_law_408 : decode cL_law 408 = .ok (.invokevirtual 36, 3) := by decide +kernel
theorem dL_law_411 : decode cL_law 411 = .ok (.aload_n 2, 1) := by decide +kernel
theorem dL_law_412 : decode cL_law 412 = .ok (.aload_n 0, 1) := by decide +kernel
theorem dL_law_413 : decode cL_law 413 = .ok (.iload_n 3, 1) := by decide +kernel
theorem dL_law_414 : decode cL_law 414 = .ok (.iconst 1, 1) := by decide +kernel
theorem dL_law_415 : decode cL_law 415 = .ok (.iadd, 1) := by decide +kernel
theorem dL_law_416 : decode cL_law 416 = .ok (.iaload, 1) := by decide +kernel
theorem dL_law_417 : decode cL_law 417 = .ok (.aload_n 0, 1) := by decide +kernel
theorem dL_law_418 : decode cL_law 418 = .ok (.iload_n 3, 1) := by decide +kernel
theorem dL_law_419 : decode cL_law 419 = .ok (.iconst 2, 1) := by decide +kernel
theorem dL_law_420 : decode cL_law 420 = .ok (.iadd, 1) := by decide +kernel
theorem dL_law_421 : decode cL_law 421 = .ok (.iaload, 1) := by decide +kernel
theorem dL_law_422 : decode cL_law 422 = .ok (.aload_n 0, 1) := by decide +kernel
theorem dL_law_423 : decode cL_law 423 = .ok (.iload_n 3, 1) := by decide +kernel
theorem dL_law_424 : decode cL_law 424 = .ok (.iconst 3, 1) := by decide +kernel
theorem dL_law_425 : decode cL_law 425 = .ok (.iadd, 1) := by decide +kernel
theorem dL_law_426 : decode cL_law 426 = .ok (.iaload, 1) := by decide +kernel
theorem dL_law_427 : decode cL_law 427 = .ok (.aload_n 0, 1) := by decide +kernel
theorem dL_law_428 : decode cL_law 428 = .ok (.iload_n 3, 1) := by decide +kernel
theorem dL_law_429 : decode cL_law 429 = .ok (.iconst 4, 1) := by decide +kernel
theorem dL_law_430 : decode cL_law 430 = .ok (.iadd, 1) := by decide +kernel
theorem dL_law_431 : decode cL_law 431 = .ok (.iaload, 1) := by decide +kernel
theorem dL_law_432 : decode cL_law 432 = .ok (.invokevirtual 40, 3) := by decide +kernel
theorem dL_law_435 : decode cL_law 435 = .ok (.if_icmp .eq 1103, 3) := by decide +kernel
theorem dL_law_438 : decode cL_law 438 = .ok (.iconst 0, 1) := by decide +kernel
theorem dL_law_439 : decode cL_law 439 = .ok (.ireturn, 1) := by decide +kernel
theorem dL_law_440 : decode cL_law 440 = .ok (.aload_n 1, 1) := by decide +kernel
theorem dL_law_441 : decode cL_law 441 = .ok (.aload_n 0, 1) := by decide +kernel
theorem dL_law_442 : decode cL_law 442 = .ok (.iload_n 3, 1) := by decide +kernel
theorem dL_law_443 : decode cL_law 443 = .ok (.iconst 1, 1) := by decide +kernel
theorem dL_law_444 : decode cL_law 444 = .ok (.iadd, 1) := by decide +kernel
theorem dL_law_445 : decode cL_law 445 = .ok (.iaload, 1) := by decide +kernel
theorem dL_law_446 : decode cL_law 446 = .ok (.aload_n 0, 1) := by decide +kernel
theorem dL_law_447 : decode cL_law 447 = .ok (.iload_n 3, 1) := by decide +kernel
theorem dL_law_448 : decode cL_law 448 = .ok (.iconst 2, 1) := by decide +kernel
theorem dL_law_449 : decode cL_law 449 = .ok (.iadd, 1) := by decide +kernel
theorem dL_law_450 : decode cL_law 450 = .ok (.iaload, 1) := by decide +kernel
theorem dL_law_451 : decode cL_law 451 = .ok (.aload_n 0, 1) := by decide +kernel
theorem dL_law_452 : decode cL_law 452 = .ok (.iload_n 3, 1) := by decide +kernel
theorem dL_law_453 : decode cL_law 453 = .ok (.iconst 3, 1) := by decide +kernel
theorem dL_law_454 : decode cL_law 454 = .ok (.iadd, 1) := by decide +kernel
theorem dL_law_455 : decode cL_law 455 = .ok (.iaload, 1) := by decide +kernel
theorem dL_law_456 : decode cL_law 456 = .ok (.invokevirtual 41, 3) := by decide +kernel
theorem dL_law_459 : decode cL_law 459 = .ok (.aload_n 2, 1) := by decide +kernel
theorem dL_law_460 : decode cL_law 460 = .ok (.aload_n 0, 1) := by decide +kernel
theorem dL_law_461 : decode cL_law 461 = .ok (.iload_n 3, 1) := by decide +kernel
theorem dL_law_462 : decode cL_law 462 = .ok (.iconst 1, 1) := by decide +kernel
theorem dL_law_463 : decode cL_law 463 = .ok (.iadd, 1) := by decide +kernel
theorem dL_law_464 : decode cL_law 464 = .ok (.iaload, 1) := by decide +kernel
theorem dL_law_465 : decode cL_law 465 = .ok (.aload_n 0, 1) := by decide +kernel
theorem dL_law_466 : decode cL_law 466 = .ok (.iload_n 3, 1) := by decide +kernel
theorem dL_law_467 : decode cL_law 467 = .ok (.iconst 2, 1) := by decide +kernel
theorem dL_law_468 : decode cL_law 468 = .ok (.iadd, 1) := by decide +kernel
theorem dL_law_469 : decode cL_law 469 = .ok (.iaload, 1) := by decide +kernel
theorem dL_law_470 : decode cL_law 470 = .ok (.aload_n 0, 1) := by decide +kernel
theorem dL_law_471 : decode cL_law 471 = .ok (.iload_n 3, 1) := by decide +kernel
theorem dL_law_472 : decode cL_law 472 = .ok (.iconst 3, 1) := by decide +kernel
theorem dL_law_473 : decode cL_law 473 = .ok (.iadd, 1) := by decide +kernel
theorem dL_law_474 : decode cL_law 474 = .ok (.iaload, 1) := by decide +kernel
theorem dL_law_475 : decode cL_law 475 = .ok (.invokevirtual 44, 3) := by decide +kernel
theorem dL_law_478 : decode cL_law 478 = .ok (.if_icmp .eq 1060, 3) := by decide +kernel
theorem dL_law_481 : decode cL_law 481 = .ok (.iconst 0, 1) := by decide +kernel
theorem dL_law_482 : decode cL_law 482 = .ok (.ireturn, 1) := by decide +kernel
theorem dL_law_483 : decode cL_law 483 = .ok (.aload_n 1, 1) := by decide +kernel
theorem dL_law_484 : decode cL_law 484 = .ok (.aload_n 0, 1) := by decide +kernel
theorem dL_law_485 : decode cL_law 485 = .ok (.iload_n 3, 1) := by decide +kernel
theorem dL_law_486 : decode cL_law 486 = .ok (.iconst 1, 1) := by decide +kernel
theorem dL_law_487 : decode cL_law 487 = .ok (.iadd, 1) := by decide +kernel
theorem dL_law_488 : decode cL_law 488 = .ok (.iaload, 1) := by decide +kernel
theorem dL_law_489 : decode cL_law 489 = .ok (.aload_n 0, 1) := by decide +kernel
theorem dL_law_490 : decode cL_law 490 = .ok (.iload_n 3, 1) := by decide +kernel
theorem dL_law_491 : decode cL_law 491 = .ok (.iconst 2, 1) := by decide +kernel
theorem dL_law_492 : decode cL_law 492 = .ok (.iadd, 1) := by decide +kernel
theorem dL_law_493 : decode cL_law 493 = .ok (.iaload, 1) := by decide +kernel
theorem dL_law_494 : decode cL_law 494 = .ok (.aload_n 0, 1) := by decide +kernel
theorem dL_law_495 : decode cL_law 495 = .ok (.iload_n 3, 1) := by decide +kernel
theorem dL_law_496 : decode cL_law 496 = .ok (.iconst 3, 1) := by decide +kernel
theorem dL_law_497 : decode cL_law 497 = .ok (.iadd, 1) := by decide +kernel
theorem dL_law_498 : decode cL_law 498 = .ok (.iaload, 1) := by decide +kernel
theorem dL_law_499 : decode cL_law 499 = .ok (.invokevirtual 45, 3) := by decide +kernel
theorem dL_law_502 : decode cL_law 502 = .ok (.aload_n 2, 1) := by decide +kernel
theorem dL_law_503 : decode cL_law 503 = .ok (.aload_n 0, 1) := by decide +kernel
theorem dL_law_504 : decode cL_law 504 = .ok (.iload_n 3, 1) := by decide +kernel
theorem dL_law_505 : decode cL_law 505 = .ok (.iconst 1, 1) := by decide +kernel
theorem dL_law_506 : decode cL_law 506 = .ok (.iadd, 1) := by decide +kernel
theorem dL_law_507 : decode cL_law 507 = .ok (.iaload, 1) := by decide +kernel
theorem dL_law_508 : decode cL_law 508 = .ok (.aload_n 0, 1) := by decide +kernel
theorem dL_law_509 : decode cL_law 509 = .ok (.iload_n 3, 1) := by decide +kernel
theorem dL_law_510 : decode cL_law 510 = .ok (.iconst 2, 1) := by decide +kernel
theorem dL_law_511 : decode cL_law 511 = .ok (.iadd, 1) := by decide +kernel
theorem dL_law_512 : decode cL_law 512 = .ok (.iaload, 1) := by decide +kernel
theorem dL_law_513 : decode cL_law 513 = .ok (.aload_n 0, 1) := by decide +kernel
theorem dL_law_514 : decode cL_law 514 = .ok (.iload_n 3, 1) := by decide +kernel
theorem dL_law_515 : decode cL_law 515 = .ok (.iconst 3, 1) := by decide +kernel
theorem dL_law_516 : decode cL_law 516 = .ok (.iadd, 1) := by decide +kernel
theorem dL_law_517 : decode cL_law 517 = .ok (.iaload, 1) := by decide +kernel
theorem dL_law_518 : decode cL_law 518 = .ok (.invokevirtual 48, 3) := by decide +kernel
theorem dL_law_521 : decode cL_law 521 = .ok (.if_icmp .eq 1017, 3) := by decide +kernel
theorem dL_law_524 : decode cL_law 524 = .ok (.iconst 0, 1) := by decide +kernel
theorem dL_law_525 : decode cL_law 525 = .ok (.ireturn, 1) := by decide +kernel
theorem dL_law_526 : decode cL_law 526 = .ok (.aload_n 1, 1) := by decide +kernel
theorem dL_law_527 : decode cL_law 527 = .ok (.aload_n 0, 1) := by decide +kernel
theorem dL_law_528 : decode cL_law 528 = .ok (.iload_n 3, 1) := by decide +kernel
theorem dL_law_529 : decode cL_law 529 = .ok (.iconst 1, 1) := by decide +kernel
theorem dL_law_530 : decode cL_law 530 = .ok (.iadd, 1) := by decide +kernel
theorem dL_law_531 : decode cL_law 531 = .ok (.iaload, 1) := by decide +kernel
theorem dL_law_532 : decode cL_law 532 = .ok (.aload_n 0, 1) := by decide +kernel
theorem dL_law_533 : decode cL_law 533 = .ok (.iload_n 3, 1) := by decide +kernel
theorem dL_law_534 : decode cL_law 534 = .ok (.iconst 2, 1) := by decide +kernel
theorem dL_law_535 : decode cL_law 535 = .ok (.iadd, 1) := by decide +kernel
theorem dL_law_536 : decode cL_law 536 = .ok (.iaload, 1) := by decide +kernel
theorem dL_law_537 : decode cL_law 537 = .ok (.aload_n 0, 1) := by decide +kernel
theorem dL_law_538 : decode cL_law 538 = .ok (.iload_n 3, 1) := by decide +kernel
theorem dL_law_539 : decode cL_law 539 = .ok (.iconst 3, 1) := by decide +kernel
theorem dL_law_540 : decode cL_law 540 = .ok (.iadd, 1) := by decide +kernel
theorem dL_law_541 : decode cL_law 541 = .ok (.iaload, 1) := by decide +kernel
theorem dL_law_542 : decode cL_law 542 = .ok (.aload_n 0, 1) := by decide +kernel
theorem dL_law_543 : decode cL_law 543 = .ok (.iload_n 3, 1) := by decide +kernel
theorem dL_law_544 : decode cL_law 544 = .ok (.iconst 4, 1) := by decide +kernel
theorem dL_law_545 : decode cL_law 545 = .ok (.iadd, 1) := by decide +kernel
theorem dL_law_546 : decode cL_law 546 = .ok (.iaload, 1) := by decide +kernel
theorem dL_law_547 : decode cL_law 547 = .ok (.aload_n 0, 1) := by decide +kernel
theorem dL_law_548 : decode cL_law 548 = .ok (.iload_n 3, 1) := by decide +kernel
theorem dL_law_549 : decode cL_law 549 = .ok (.iconst 5, 1) := by decide +kernel
theorem dL_law_550 : decode cL_law 550 = .ok (.iadd, 1) := by decide +kernel
theorem dL_law_551 : decode cL_law 551 = .ok (.iaload, 1) := by decide +kernel
theorem dL_law_552 : decode cL_law 552 = .ok (.invokevirtual 49, 3) := by decide +kernel
theorem dL_law_555 : decode cL_law 555 = .ok (.aload_n 2, 1) := by decide +kernel
theorem dL_law_556 : decode cL_law 556 = .ok (.aload_n 0, 1) := by decide +kernel
theorem dL_law_557 : decode cL_law 557 = .ok (.iload_n 3, 1) := by decide +kernel
theorem dL_law_558 : decode cL_law 558 = .ok (.iconst 1, 1) := by decide +kernel
theorem dL_law_559 : decode cL_law 559 = .ok (.iadd, 1) := by decide +kernel
theorem dL_law_560 : decode cL_law 560 = .ok (.iaload, 1) := by decide +kernel
theorem dL_law_561 : decode cL_law 561 = .ok (.aload_n 0, 1) := by decide +kernel
theorem dL_law_562 : decode cL_law 562 = .ok (.iload_n 3, 1) := by decide +kernel
theorem dL_law_563 : decode cL_law 563 = .ok (.iconst 2, 1) := by decide +kernel
theorem dL_law_564 : decode cL_law 564 = .ok (.iadd, 1) := by decide +kernel
theorem dL_law_565 : decode cL_law 565 = .ok (.iaload, 1) := by decide +kernel
theorem dL_law_566 : decode cL_law 566 = .ok (.aload_n 0, 1) := by decide +kernel
theorem dL_law_567 : decode cL_law 567 = .ok (.iload_n 3, 1) := by decide +kernel
theorem dL_law_568 : decode cL_law 568 = .ok (.iconst 3, 1) := by decide +kernel
theorem dL_law_569 : decode cL_law 569 = .ok (.iadd, 1) := by decide +kernel
theorem dL_law_570 : decode cL_law 570 = .ok (.iaload, 1) := by decide +kernel
theorem dL_law_571 : decode cL_law 571 = .ok (.aload_n 0, 1) := by decide +kernel
theorem dL_law_572 : decode cL_law 572 = .ok (.iload_n 3, 1) := by decide +kernel
theorem dL_law_573 : decode cL_law 573 = .ok (.iconst 4, 1) := by decide +kernel
theorem dL_law_574 : decode cL_law 574 = .ok (.iadd, 1) := by decide +kernel
theorem dL_law_575 : decode cL_law 575 = .ok (.iaload, 1) := by decide +kernel
theorem dL_law_576 : decode cL_law 576 = .ok (.aload_n 0, 1) := by decide +kernel
theorem dL_law_577 : decode cL_law 577 = .ok (.iload_n 3, 1) := by decide +kernel
theorem dL_law_578 : decode cL_law 578 = .ok (.iconst 5, 1) := by decide +kernel
theorem dL_law_579 : decode cL_law 579 = .ok (.iadd, 1) := by decide +kernel
theorem dL_law_580 : decode cL_law 580 = .ok (.iaload, 1) := by decide +kernel
theorem dL_law_581 : decode cL_law 581 = .ok (.invokevirtual 53, 3) := by decide +kernel
theorem dL_law_584 : decode cL_law 584 = .ok (.if_icmp .eq 954, 3) := by decide +kernel
theorem dL_law_587 : decode cL_law 587 = .ok (.iconst 0, 1) := by decide +kernel
theorem dL_law_588 : decode cL_law 588 = .ok (.ireturn, 1) := by decide +kernel
theorem dL_law_589 : decode cL_law 589 = .ok (.aload_n 1, 1) := by decide +kernel
theorem dL_law_590 : decode cL_law 590 = .ok (.aload_n 0, 1) := by decide +kernel
theorem dL_law_591 : decode cL_law 591 = .ok (.iload_n 3, 1) := by decide +kernel
theorem dL_law_592 : decode cL_law 592 = .ok (.iconst 1, 1) := by decide +kernel
theorem dL_law_593 : decode cL_law 593 = .ok (.iadd, 1) := by decide +kernel
theorem dL_law_594 : decode cL_law 594 = .ok (.iaload, 1) := by decide +kernel
theorem dL_law_595 : decode cL_law 595 = .ok (.aload_n 0, 1) := by decide +kernel
theorem dL_law_596 : decode cL_law 596 = .ok (.iload_n 3, 1) := by decide +kernel
theorem dL_law_597 : decode cL_law 597 = .ok (.iconst 2, 1) := by decide +kernel
theorem dL_law_598 : decode cL_law 598 = .ok (.iadd, 1) := by decide +kernel
theorem dL_law_599 : decode cL_law 599 = .ok (.iaload, 1) := by decide +kernel
theorem dL_law_600 : decode cL_law 600 = .ok (.aload_n 0, 1) := by decide +kernel
theorem dL_law_601 : decode cL_law 601 = .ok (.iload_n 3, 1) := by decide +kernel
theorem dL_law_602 : decode cL_law 602 = .ok (.iconst 3, 1) := by decide +kernel
theorem dL_law_603 : decode cL_law 603 = .ok (.iadd, 1) := by decide +kernel
theorem dL_law_604 : decode cL_law 604 = .ok (.iaload, 1) := by decide +kernel
theorem dL_law_605 : decode cL_law 605 = .ok (.aload_n 0, 1) := by decide +kernel
theorem dL_law_606 : decode cL_law 606 = .ok (.iload_n 3, 1) := by decide +kernel
theorem dL_law_607 : decode cL_law 607 = .ok (.iconst 4, 1) := by decide +kernel
theorem dL_law_608 : decode cL_law 608 = .ok (.iadd, 1) := by decide +kernel
theorem dL_law_609 : decode cL_law 609 = .ok (.iaload, 1) := by decide +kernel
theorem dL_law_610 : decode cL_law 610 = .ok (.invokevirtual 54, 3) := by decide +kernel
theorem dL_law_613 : decode cL_law 613 = .ok (.aload_n 2, 1) := by decide +kernel
theorem dL_law_614 : decode cL_law 614 = .ok (.aload_n 0, 1) := by decide +kernel
theorem dL_law_615 : decode cL_law 615 = .ok (.iload_n 3, 1) := by decide +kernel
theorem dL_law_616 : decode cL_law 616 = .ok (.iconst 1, 1) := by decide +kernel
theorem dL_law_617 : decode cL_law 617 = .ok (.iadd, 1) := by decide +kernel
theorem dL_law_618 : decode cL_law 618 = .ok (.iaload, 1) := by decide +kernel
theorem dL_law_619 : decode cL_law 619 = .ok (.aload_n 0, 1) := by decide +kernel
theorem dL_law_620 : decode cL_law 620 = .ok (.iload_n 3, 1) := by decide +kernel
theorem dL_law_621 : decode cL_law 621 = .ok (.iconst 2, 1) := by decide +kernel
theorem dL_law_622 : decode cL_law 622 = .ok (.iadd, 1) := by decide +kernel
theorem dL_law_623 : decode cL_law 623 = .ok (.iaload, 1) := by decide +kernel
theorem dL_law_624 : decode cL_law 624 = .ok (.aload_n 0, 1) := by decide +kernel
theorem dL_law_625 : decode cL_law 625 = .ok (.iload_n 3, 1) := by decide +kernel
theorem dL_law_626 : decode cL_law 626 = .ok (.iconst 3, 1) := by decide +kernel
theorem dL_law_627 : decode cL_law 627 = .ok (.iadd, 1) := by decide +kernel
theorem dL_law_628 : decode cL_law 628 = .ok (.iaload, 1) := by decide +kernel
theorem dL_law_629 : decode cL_law 629 = .ok (.aload_n 0, 1) := by decide +kernel
theorem dL_law_630 : decode cL_law 630 = .ok (.iload_n 3, 1) := by decide +kernel
theorem dL_law_631 : decode cL_law 631 = .ok (.iconst 4, 1) := by decide +kernel
theorem dL_law_632 : decode cL_law 632 = .ok (.iadd, 1) := by decide +kernel
theorem dL_law_633 : decode cL_law 633 = .ok (.iaload, 1) := by decide +kernel
theorem dL_law_634 : decode cL_law 634 = .ok (.invokevirtual 57, 3) := by decide +kernel
theorem dL_law_637 : decode cL_law 637 = .ok (.if_icmp .eq 901, 3) := by decide +kernel
theorem dL_law_640 : decode cL_law 640 = .ok (.iconst 0, 1) := by decide +kernel
theorem dL_law_641 : decode cL_law 641 = .ok (.ireturn, 1) := by decide +kernel
theorem dL_law_642 : decode cL_law 642 = .ok (.aload_n 1, 1) := by decide +kernel
theorem dL_law_643 : decode cL_law 643 = .ok (.aload_n 0, 1) := by decide +kernel
theorem dL_law_644 : decode cL_law 644 = .ok (.iload_n 3, 1) := by decide +kernel
theorem dL_law_645 : decode cL_law 645 = .ok (.iconst 1, 1) := by decide +kernel
theorem dL_law_646 : decode cL_law 646 = .ok (.iadd, 1) := by decide +kernel
theorem dL_law_647 : decode cL_law 647 = .ok (.iaload, 1) := by decide +kernel
theorem dL_law_648 : decode cL_law 648 = .ok (.aload_n 0, 1) := by decide +kernel
theorem dL_law_649 : decode cL_law 649 = .ok (.iload_n 3, 1) := by decide +kernel
theorem dL_law_650 : decode cL_law 650 = .ok (.iconst 2, 1) := by decide +kernel
theorem dL_law_651 : decode cL_law 651 = .ok (.iadd, 1) := by decide +kernel
theorem dL_law_652 : decode cL_law 652 = .ok (.iaload, 1) := by decide +kernel
theorem dL_law_653 : decode cL_law 653 = .ok (.aload_n 0, 1) := by decide +kernel
theorem dL_law_654 : decode cL_law 654 = .ok (.iload_n 3, 1) := by decide +kernel
theorem dL_law_655 : decode cL_law 655 = .ok (.iconst 3, 1) := by decide +kernel
theorem dL_law_656 : decode cL_law 656 = .ok (.iadd, 1) := by decide +kernel
theorem dL_law_657 : decode cL_law 657 = .ok (.iaload, 1) := by decide +kernel
theorem dL_law_658 : decode cL_law 658 = .ok (.aload_n 0, 1) := by decide +kernel
theorem dL_law_659 : decode cL_law 659 = .ok (.iload_n 3, 1) := by decide +kernel
theorem dL_law_660 : decode cL_law 660 = .ok (.iconst 4, 1) := by decide +kernel
theorem dL_law_661 : decode cL_law 661 = .ok (.iadd, 1) := by decide +kernel
theorem dL_law_662 : decode cL_law 662 = .ok (.iaload, 1) := by decide +kernel
theorem dL_law_663 : decode cL_law 663 = .ok (.invokevirtual 58, 3) := by decide +kernel
theorem dL_law_666 : decode cL_law 666 = .ok (.aload_n 2, 1) := by decide +kernel
theorem dL_law_667 : decode cL_law 667 = .ok (.aload_n 0, 1) := by decide +kernel
theorem dL_law_668 : decode cL_law 668 = .ok (.iload_n 3, 1) := by decide +kernel
theorem dL_law_669 : decode cL_law 669 = .ok (.iconst 1, 1) := by decide +kernel
theorem dL_law_670 : decode cL_law 670 = .ok (.iadd, 1) := by decide +kernel
theorem dL_law_671 : decode cL_law 671 = .ok (.iaload, 1) := by decide +kernel
theorem dL_law_672 : decode cL_law 672 = .ok (.aload_n 0, 1) := by decide +kernel
theorem dL_law_673 : decode cL_law 673 = .ok (.iload_n 3, 1) := by decide +kernel
theorem dL_law_674 : decode cL_law 674 = .ok (.iconst 2, 1) := by decide +kernel
theorem dL_law_675 : decode cL_law 675 = .ok (.iadd, 1) := by decide +kernel
theorem dL_law_676 : decode cL_law 676 = .ok (.iaload, 1) := by decide +kernel
theorem dL_law_677 : decode cL_law 677 = .ok (.aload_n 0, 1) := by decide +kernel
theorem dL_law_678 : decode cL_law 678 = .ok (.iload_n 3, 1) := by decide +kernel
theorem dL_law_679 : decode cL_law 679 = .ok (.iconst 3, 1) := by decide +kernel
theorem dL_law_680 : decode cL_law 680 = .ok (.iadd, 1) := by decide +kernel
theorem dL_law_681 : decode cL_law 681 = .ok (.iaload, 1) := by decide +kernel
theorem dL_law_682 : decode cL_law 682 = .ok (.aload_n 0, 1) := by decide +kernel
theorem dL_law_683 : decode cL_law 683 = .ok (.iload_n 3, 1) := by decide +kernel
theorem dL_law_684 : decode cL_law 684 = .ok (.iconst 4, 1) := by decide +kernel
theorem dL_law_685 : decode cL_law 685 = .ok (.iadd, 1) := by decide +kernel
theorem dL_law_686 : decode cL_law 686 = .ok (.iaload, 1) := by decide +kernel
theorem dL_law_687 : decode cL_law 687 = .ok (.invokevirtual 61, 3) := by decide +kernel
theorem dL_law_690 : decode cL_law 690 = .ok (.if_icmp .eq 848, 3) := by decide +kernel
theorem dL_law_693 : decode cL_law 693 = .ok (.iconst 0, 1) := by decide +kernel
theorem dL_law_694 : decode cL_law 694 = .ok (.ireturn, 1) := by decide +kernel
theorem dL_law_695 : decode cL_law 695 = .ok (.aload_n 1, 1) := by decide +kernel
theorem dL_law_696 : decode cL_law 696 = .ok (.aload_n 0, 1) := by decide +kernel
theorem dL_law_697 : decode cL_law 697 = .ok (.iload_n 3, 1) := by decide +kernel
theorem dL_law_698 : decode cL_law 698 = .ok (.iconst 1, 1) := by decide +kernel
theorem dL_law_699 : decode cL_law 699 = .ok (.iadd, 1) := by decide +kernel
theorem dL_law_700 : decode cL_law 700 = .ok (.iaload, 1) := by decide +kernel
theorem dL_law_701 : decode cL_law 701 = .ok (.invokevirtual 62, 3) := by decide +kernel
theorem dL_law_704 : decode cL_law 704 = .ok (.aload_n 2, 1) := by decide +kernel
theorem dL_law_705 : decode cL_law 705 = .ok (.aload_n 0, 1) := by decide +kernel
theorem dL_law_706 : decode cL_law 706 = .ok (.iload_n 3, 1) := by decide +kernel
theorem dL_law_707 : decode cL_law 707 = .ok (.iconst 1, 1) := by decide +kernel
theorem dL_law_708 : decode cL_law 708 = .ok (.iadd, 1) := by decide +kernel
theorem dL_law_709 : decode cL_law 709 = .ok (.iaload, 1) := by decide +kernel
theorem dL_law_710 : decode cL_law 710 = .ok (.invokevirtual 65, 3) := by decide +kernel
theorem dL_law_713 : decode cL_law 713 = .ok (.if_icmp .eq 825, 3) := by decide +kernel
theorem dL_law_716 : decode cL_law 716 = .ok (.iconst 0, 1) := by decide +kernel
theorem dL_law_717 : decode cL_law 717 = .ok (.ireturn, 1) := by decide +kernel
theorem dL_law_718 : decode cL_law 718 = .ok (.aload_n 1, 1) := by decide +kernel
theorem dL_law_719 : decode cL_law 719 = .ok (.aload_n 0, 1) := by decide +kernel
theorem dL_law_720 : decode cL_law 720 = .ok (.iload_n 3, 1) := by decide +kernel
theorem dL_law_721 : decode cL_law 721 = .ok (.iconst 1, 1) := by decide +kernel
theorem dL_law_722 : decode cL_law 722 = .ok (.iadd, 1) := by decide +kernel
theorem dL_law_723 : decode cL_law 723 = .ok (.iaload, 1) := by decide +kernel
theorem dL_law_724 : decode cL_law 724 = .ok (.aload_n 0, 1) := by decide +kernel
theorem dL_law_725 : decode cL_law 725 = .ok (.iload_n 3, 1) := by decide +kernel
theorem dL_law_726 : decode cL_law 726 = .ok (.iconst 2, 1) := by decide +kernel
theorem dL_law_727 : decode cL_law 727 = .ok (.iadd, 1) := by decide +kernel
theorem dL_law_728 : decode cL_law 728 = .ok (.iaload, 1) := by decide +kernel
theorem dL_law_729 : decode cL_law 729 = .ok (.aload_n 0, 1) := by decide +kernel
theorem dL_law_730 : decode cL_law 730 = .ok (.iload_n 3, 1) := by decide +kernel
theorem dL_law_731 : decode cL_law 731 = .ok (.iconst 3, 1) := by decide +kernel
theorem dL_law_732 : decode cL_law 732 = .ok (.iadd, 1) := by decide +kernel
theorem dL_law_733 : decode cL_law 733 = .ok (.iaload, 1) := by decide +kernel
theorem dL_law_734 : decode cL_law 734 = .ok (.invokevirtual 66, 3) := by decide +kernel
theorem dL_law_737 : decode cL_law 737 = .ok (.aload_n 2, 1) := by decide +kernel
theorem dL_law_738 : decode cL_law 738 = .ok (.aload_n 0, 1) := by decide +kernel
theorem dL_law_739 : decode cL_law 739 = .ok (.iload_n 3, 1) := by decide +kernel
theorem dL_law_740 : decode cL_law 740 = .ok (.iconst 1, 1) := by decide +kernel
theorem dL_law_741 : decode cL_law 741 = .ok (.iadd, 1) := by decide +kernel
theorem dL_law_742 : decode cL_law 742 = .ok (.iaload, 1) := by decide +kernel
theorem dL_law_743 : decode cL_law 743 = .ok (.aload_n 0, 1) := by decide +kernel
theorem dL_law_744 : decode cL_law 744 = .ok (.iload_n 3, 1) := by decide +kernel
theorem dL_law_745 : decode cL_law 745 = .ok (.iconst 2, 1) := by decide +kernel
theorem dL_law_746 : decode cL_law 746 = .ok (.iadd, 1) := by decide +kernel
theorem dL_law_747 : decode cL_law 747 = .ok (.iaload, 1) := by decide +kernel
theorem dL_law_748 : decode cL_law 748 = .ok (.aload_n 0, 1) := by decide +kernel
theorem dL_law_749 : decode cL_law 749 = .ok (.iload_n 3, 1) := by decide +kernel
theorem dL_law_750 : decode cL_law 750 = .ok (.iconst 3, 1) := by decide +kernel
theorem dL_law_751 : decode cL_law 751 = .ok (.iadd, 1) := by decide +kernel
theorem dL_law_752 : decode cL_law 752 = .ok (.iaload, 1) := by decide +kernel
theorem dL_law_753 : decode cL_law 753 = .ok (.invokevirtual 69, 3) := by decide +kernel
theorem dL_law_756 : decode cL_law 756 = .ok (.if_icmp .eq 782, 3) := by decide +kernel
theorem dL_law_759 : decode cL_law 759 = .ok (.iconst 0, 1) := by decide +kernel
theorem dL_law_760 : decode cL_law 760 = .ok (.ireturn, 1) := by decide +kernel
theorem dL_law_761 : decode cL_law 761 = .ok (.aload_n 1, 1) := by decide +kernel
theorem dL_law_762 : decode cL_law 762 = .ok (.aload_n 0, 1) := by decide +kernel
theorem dL_law_763 : decode cL_law 763 = .ok (.iload_n 3, 1) := by decide +kernel
theorem dL_law_764 : decode cL_law 764 = .ok (.iconst 1, 1) := by decide +kernel
theorem dL_law_765 : decode cL_law 765 = .ok (.iadd, 1) := by decide +kernel
theorem dL_law_766 : decode cL_law 766 = .ok (.iaload, 1) := by decide +kernel
theorem dL_law_767 : decode cL_law 767 = .ok (.aload_n 0, 1) := by decide +kernel
theorem dL_law_768 : decode cL_law 768 = .ok (.iload_n 3, 1) := by decide +kernel
theorem dL_law_769 : decode cL_law 769 = .ok (.iconst 2, 1) := by decide +kernel
theorem dL_law_770 : decode cL_law 770 = .ok (.iadd, 1) := by decide +kernel
theorem dL_law_771 : decode cL_law 771 = .ok (.iaload, 1) := by decide +kernel
theorem dL_law_772 : decode cL_law 772 = .ok (.invokevirtual 70, 3) := by decide +kernel
theorem dL_law_775 : decode cL_law 775 = .ok (.aload_n 2, 1) := by decide +kernel
theorem dL_law_776 : decode cL_law 776 = .ok (.aload_n 0, 1) := by decide +kernel
theorem dL_law_777 : decode cL_law 777 = .ok (.iload_n 3, 1) := by decide +kernel
theorem dL_law_778 : decode cL_law 778 = .ok (.iconst 1, 1) := by decide +kernel
theorem dL_law_779 : decode cL_law 779 = .ok (.iadd, 1) := by decide +kernel
theorem dL_law_780 : decode cL_law 780 = .ok (.iaload, 1) := by decide +kernel
theorem dL_law_781 : decode cL_law 781 = .ok (.aload_n 0, 1) := by decide +kernel
theorem dL_law_782 : decode cL_law 782 = .ok (.iload_n 3, 1) := by decide +kernel
theorem dL_law_783 : decode cL_law 783 = .ok (.iconst 2, 1) := by decide +kernel
theorem dL_law_784 : decode cL_law 784 = .ok (.iadd, 1) := by decide +kernel
theorem dL_law_785 : decode cL_law 785 = .ok (.iaload, 1) := by decide +kernel
theorem dL_law_786 : decode cL_law 786 = .ok (.invokevirtual 73, 3) := by decide +kernel
theorem dL_law_789 : decode cL_law 789 = .ok (.if_icmp .eq 749, 3) := by decide +kernel
theorem dL_law_792 : decode cL_law 792 = .ok (.iconst 0, 1) := by decide +kernel
theorem dL_law_793 : decode cL_law 793 = .ok (.ireturn, 1) := by decide +kernel
theorem dL_law_794 : decode cL_law 794 = .ok (.aload_n 1, 1) := by decide +kernel
theorem dL_law_795 : decode cL_law 795 = .ok (.aload_n 0, 1) := by decide +kernel
theorem dL_law_796 : decode cL_law 796 = .ok (.iload_n 3, 1) := by decide +kernel
theorem dL_law_797 : decode cL_law 797 = .ok (.iconst 1, 1) := by decide +kernel
theorem dL_law_798 : decode cL_law 798 = .ok (.iadd, 1) := by decide +kernel
theorem dL_law_799 : decode cL_law 799 = .ok (.iaload, 1) := by decide +kernel
theorem dL_law_800 : decode cL_law 800 = .ok (.invokevirtual 74, 3) := by decide +kernel
theorem dL_law_803 : decode cL_law 803 = .ok (.aload_n 2, 1) := by decide +kernel
theorem dL_law_804 : decode cL_law 804 = .ok (.aload_n 0, 1) := by decide +kernel
theorem dL_law_805 : decode cL_law 805 = .ok (.iload_n 3, 1) := by decide +kernel
theorem dL_law_806 : decode cL_law 806 = .ok (.iconst 1, 1) := by decide +kernel
theorem dL_law_807 : decode cL_law 807 = .ok (.iadd, 1) := by decide +kernel
theorem dL_law_808 : decode cL_law 808 = .ok (.iaload, 1) := by decide +kernel
theorem dL_law_809 : decode cL_law 809 = .ok (.invokevirtual 77, 3) := by decide +kernel
theorem dL_law_812 : decode cL_law 812 = .ok (.if_icmp .eq 726, 3) := by decide +kernel
theorem dL_law_815 : decode cL_law 815 = .ok (.iconst 0, 1) := by decide +kernel
theorem dL_law_816 : decode cL_law 816 = .ok (.ireturn, 1) := by decide +kernel
theorem dL_law_817 : decode cL_law 817 = .ok (.aload_n 1, 1) := by decide +kernel
theorem dL_law_818 : decode cL_law 818 = .ok (.invokevirtual 78, 3) := by decide +kernel
theorem dL_law_821 : decode cL_law 821 = .ok (.aload_n 2, 1) := by decide +kernel
theorem dL_law_822 : decode cL_law 822 = .ok (.invokevirtual 82, 3) := by decide +kernel
theorem dL_law_825 : decode cL_law 825 = .ok (.if_icmp .eq 713, 3) := by decide +kernel
theorem dL_law_828 : decode cL_law 828 = .ok (.iconst 0, 1) := by decide +kernel
theorem dL_law_829 : decode cL_law 829 = .ok (.ireturn, 1) := by decide +kernel
theorem dL_law_830 : decode cL_law 830 = .ok (.aload_n 1, 1) := by decide +kernel
theorem dL_law_831 : decode cL_law 831 = .ok (.aload_n 0, 1) := by decide +kernel
theorem dL_law_832 : decode cL_law 832 = .ok (.iload_n 3, 1) := by decide +kernel
theorem dL_law_833 : decode cL_law 833 = .ok (.iconst 1, 1) := by decide +kernel
theorem dL_law_834 : decode cL_law 834 = .ok (.iadd, 1) := by decide +kernel
theorem dL_law_835 : decode cL_law 835 = .ok (.iaload, 1) := by decide +kernel
theorem dL_law_836 : decode cL_law 836 = .ok (.invokevirtual 83, 3) := by decide +kernel
theorem dL_law_839 : decode cL_law 839 = .ok (.aload_n 2, 1) := by decide +kernel
theorem dL_law_840 : decode cL_law 840 = .ok (.aload_n 0, 1) := by decide +kernel
theorem dL_law_841 : decode cL_law 841 = .ok (.iload_n 3, 1) := by decide +kernel
theorem dL_law_842 : decode cL_law 842 = .ok (.iconst 1, 1) := by decide +kernel
theorem dL_law_843 : decode cL_law 843 = .ok (.iadd, 1) := by decide +kernel
theorem dL_law_844 : decode cL_law 844 = .ok (.iaload, 1) := by decide +kernel
theorem dL_law_845 : decode cL_law 845 = .ok (.invokevirtual 86, 3) := by decide +kernel
theorem dL_law_848 : decode cL_law 848 = .ok (.if_icmp .eq 690, 3) := by decide +kernel
theorem dL_law_851 : decode cL_law 851 = .ok (.iconst 0, 1) := by decide +kernel
theorem dL_law_852 : decode cL_law 852 = .ok (.ireturn, 1) := by decide +kernel
theorem dL_law_853 : decode cL_law 853 = .ok (.aload_n 1, 1) := by decide +kernel
theorem dL_law_854 : decode cL_law 854 = .ok (.aload_n 0, 1) := by decide +kernel
theorem dL_law_855 : decode cL_law 855 = .ok (.iload_n 3, 1) := by decide +kernel
theorem dL_law_856 : decode cL_law 856 = .ok (.iconst 1, 1) := by decide +kernel
theorem dL_law_857 : decode cL_law 857 = .ok (.iadd, 1) := by decide +kernel
theorem dL_law_858 : decode cL_law 858 = .ok (.iaload, 1) := by decide +kernel
theorem dL_law_859 : decode cL_law 859 = .ok (.i2l, 1) := by decide +kernel
theorem dL_law_860 : decode cL_law 860 = .ok (.bipush 32, 2) := by decide +kernel
theorem dL_law_862 : decode cL_law 862 = .ok (.lshl, 1) := by decide +kernel
theorem dL_law_863 : decode cL_law 863 = .ok (.aload_n 0, 1) := by decide +kernel
theorem dL_law_864 : decode cL_law 864 = .ok (.iload_n 3, 1) := by decide +kernel
theorem dL_law_865 : decode cL_law 865 = .ok (.iconst 2, 1) := by decide +kernel
theorem dL_law_866 : decode cL_law 866 = .ok (.iadd, 1) := by decide +kernel
theorem dL_law_867 : decode cL_law 867 = .ok (.iaload, 1) := by decide +kernel
theorem dL_law_868 : decode cL_law 868 = .ok (.i2l, 1) := by decide +kernel
theorem dL_law_869 : decode cL_law 869 = .ok (.ldc2_w 87, 3) := by decide +kernel
theorem dL_law_872 : decode cL_law 872 = .ok (.land, 1) := by decide +kernel
theorem dL_law_873 : decode cL_law 873 = .ok (.lor, 1) := by decide +kernel
theorem dL_law_874 : decode cL_law 874 = .ok (.aload_n 0, 1) := by decide +kernel
theorem dL_law_875 : decode cL_law 875 = .ok (.iload_n 3, 1) := by decide +kernel
theorem dL_law_876 : decode cL_law 876 = .ok (.iconst 3, 1) := by decide +kernel
theorem dL_law_877 : decode cL_law 877 = .ok (.iadd, 1) := by decide +kernel
theorem dL_law_878 : decode cL_law 878 = .ok (.iaload, 1) := by decide +kernel
theorem dL_law_879 : decode cL_law 879 = .ok (.invokevirtual 89, 3) := by decide +kernel
theorem dL_law_882 : decode cL_law 882 = .ok (.aload_n 2, 1) := by decide +kernel
theorem dL_law_883 : decode cL_law 883 = .ok (.aload_n 0, 1) := by decide +kernel
theorem dL_law_884 : decode cL_law 884 = .ok (.iload_n 3, 1) := by decide +kernel
theorem dL_law_885 : decode cL_law 885 = .ok (.iconst 1, 1) := by decide +kernel
theorem dL_law_886 : decode cL_law 886 = .ok (.iadd, 1) := by decide +kernel
theorem dL_law_887 : decode cL_law 887 = .ok (.iaload, 1) := by decide +kernel
theorem dL_law_888 : decode cL_law 888 = .ok (.i2l, 1) := by decide +kernel
theorem dL_law_889 : decode cL_law 889 = .ok (.bipush 32, 2) := by decide +kernel
theorem dL_law_891 : decode cL_law 891 = .ok (.lshl, 1) := by decide +kernel
theorem dL_law_892 : decode cL_law 892 = .ok (.aload_n 0, 1) := by decide +kernel
theorem dL_law_893 : decode cL_law 893 = .ok (.iload_n 3, 1) := by decide +kernel
theorem dL_law_894 : decode cL_law 894 = .ok (.iconst 2, 1) := by decide +kernel
theorem dL_law_895 : decode cL_law 895 = .ok (.iadd, 1) := by decide +kernel
theorem dL_law_896 : decode cL_law 896 = .ok (.iaload, 1) := by decide +kernel
theorem dL_law_897 : decode cL_law 897 = .ok (.i2l, 1) := by decide +kernel
theorem dL_law_898 : decode cL_law 898 = .ok (.ldc2_w 87, 3) := by decide +kernel
theorem dL_law_901 : decode cL_law 901 = .ok (.land, 1) := by decide +kernel
theorem dL_law_902 : decode cL_law 902 = .ok (.lor, 1) := by decide +kernel
theorem dL_law_903 : decode cL_law 903 = .ok (.aload_n 0, 1) := by decide +kernel
theorem dL_law_904 : decode cL_law 904 = .ok (.iload_n 3, 1) := by decide +kernel
theorem dL_law_905 : decode cL_law 905 = .ok (.iconst 3, 1) := by decide +kernel
theorem dL_law_906 : decode cL_law 906 = .ok (.iadd, 1) := by decide +kernel
theorem dL_law_907 : decode cL_law 907 = .ok (.iaload, 1) := by decide +kernel
theorem dL_law_908 : decode cL_law 908 = .ok (.invokevirtual 93, 3) := by decide +kernel
theorem dL_law_911 : decode cL_law 911 = .ok (.if_icmp .eq 627, 3) := by decide +kernel
theorem dL_law_914 : decode cL_law 914 = .ok (.iconst 0, 1) := by decide +kernel
theorem dL_law_915 : decode cL_law 915 = .ok (.ireturn, 1) := by decide +kernel
theorem dL_law_916 : decode cL_law 916 = .ok (.aload_n 1, 1) := by decide +kernel
theorem dL_law_917 : decode cL_law 917 = .ok (.invokevirtual 94, 3) := by decide +kernel
theorem dL_law_920 : decode cL_law 920 = .ok (.aload_n 2, 1) := by decide +kernel
theorem dL_law_921 : decode cL_law 921 = .ok (.invokevirtual 97, 3) := by decide +kernel
theorem dL_law_924 : decode cL_law 924 = .ok (.if_icmp .eq 614, 3) := by decide +kernel
theorem dL_law_927 : decode cL_law 927 = .ok (.iconst 0, 1) := by decide +kernel
theorem dL_law_928 : decode cL_law 928 = .ok (.ireturn, 1) := by decide +kernel
theorem dL_law_929 : decode cL_law 929 = .ok (.aload_n 1, 1) := by decide +kernel
theorem dL_law_930 : decode cL_law 930 = .ok (.invokevirtual 98, 3) := by decide +kernel
theorem dL_law_933 : decode cL_law 933 = .ok (.aload_n 2, 1) := by decide +kernel
theorem dL_law_934 : decode cL_law 934 = .ok (.invokevirtual 101, 3) := by decide +kernel
theorem dL_law_937 : decode cL_law 937 = .ok (.if_icmp .eq 601, 3) := by decide +kernel
theorem dL_law_940 : decode cL_law 940 = .ok (.iconst 0, 1) := by decide +kernel
theorem dL_law_941 : decode cL_law 941 = .ok (.ireturn, 1) := by decide +kernel
theorem dL_law_942 : decode cL_law 942 = .ok (.aload_n 1, 1) := by decide +kernel
theorem dL_law_943 : decode cL_law 943 = .ok (.invokevirtual 102, 3) := by decide +kernel
theorem dL_law_946 : decode cL_law 946 = .ok (.aload_n 2, 1) := by decide +kernel
theorem dL_law_947 : decode cL_law 947 = .ok (.invokevirtual 105, 3) := by decide +kernel
theorem dL_law_950 : decode cL_law 950 = .ok (.if_icmp .eq 588, 3) := by decide +kernel
theorem dL_law_953 : decode cL_law 953 = .ok (.iconst 0, 1) := by decide +kernel
theorem dL_law_954 : decode cL_law 954 = .ok (.ireturn, 1) := by decide +kernel
theorem dL_law_955 : decode cL_law 955 = .ok (.aload_n 1, 1) := by decide +kernel
theorem dL_law_956 : decode cL_law 956 = .ok (.aload_n 0, 1) := by decide +kernel
theorem dL_law_957 : decode cL_law 957 = .ok (.iload_n 3, 1) := by decide +kernel
theorem dL_law_958 : decode cL_law 958 = .ok (.iconst 1, 1) := by decide +kernel
theorem dL_law_959 : decode cL_law 959 = .ok (.iadd, 1) := by decide +kernel
theorem dL_law_960 : decode cL_law 960 = .ok (.iaload, 1) := by decide +kernel
theorem dL_law_961 : decode cL_law 961 = .ok (.aload_n 0, 1) := by decide +kernel
theorem dL_law_962 : decode cL_law 962 = .ok (.iload_n 3, 1) := by decide +kernel
theorem dL_law_963 : decode cL_law 963 = .ok (.iconst 2, 1) := by decide +kernel
theorem dL_law_964 : decode cL_law 964 = .ok (.iadd, 1) := by decide +kernel
theorem dL_law_965 : decode cL_law 965 = .ok (.iaload, 1) := by decide +kernel
theorem dL_law_966 : decode cL_law 966 = .ok (.invokevirtual 106, 3) := by decide +kernel
theorem dL_law_969 : decode cL_law 969 = .ok (.aload_n 2, 1) := by decide +kernel
theorem dL_law_970 : decode cL_law 970 = .ok (.aload_n 0, 1) := by decide +kernel
theorem dL_law_971 : decode cL_law 971 = .ok (.iload_n 3, 1) := by decide +kernel
theorem dL_law_972 : decode cL_law 972 = .ok (.iconst 1, 1) := by decide +kernel
theorem dL_law_973 : decode cL_law 973 = .ok (.iadd, 1) := by decide +kernel
theorem dL_law_974 : decode cL_law 974 = .ok (.iaload, 1) := by decide +kernel
theorem dL_law_975 : decode cL_law 975 = .ok (.aload_n 0, 1) := by decide +kernel
theorem dL_law_976 : decode cL_law 976 = .ok (.iload_n 3, 1) := by decide +kernel
theorem dL_law_977 : decode cL_law 977 = .ok (.iconst 2, 1) := by decide +kernel
theorem dL_law_978 : decode cL_law 978 = .ok (.iadd, 1) := by decide +kernel
theorem dL_law_979 : decode cL_law 979 = .ok (.iaload, 1) := by decide +kernel
theorem dL_law_980 : decode cL_law 980 = .ok (.invokevirtual 109, 3) := by decide +kernel
theorem dL_law_983 : decode cL_law 983 = .ok (.if_icmp .eq 555, 3) := by decide +kernel
theorem dL_law_986 : decode cL_law 986 = .ok (.iconst 0, 1) := by decide +kernel
theorem dL_law_987 : decode cL_law 987 = .ok (.ireturn, 1) := by decide +kernel
theorem dL_law_988 : decode cL_law 988 = .ok (.aload_n 1, 1) := by decide +kernel
theorem dL_law_989 : decode cL_law 989 = .ok (.invokevirtual 110, 3) := by decide +kernel
theorem dL_law_992 : decode cL_law 992 = .ok (.aload_n 2, 1) := by decide +kernel
theorem dL_law_993 : decode cL_law 993 = .ok (.invokevirtual 113, 3) := by decide +kernel
theorem dL_law_996 : decode cL_law 996 = .ok (.if_icmp .eq 542, 3) := by decide +kernel
theorem dL_law_999 : decode cL_law 999 = .ok (.iconst 0, 1) := by decide +kernel
theorem dL_law_1000 : decode cL_law 1000 = .ok (.ireturn, 1) := by decide +kernel
theorem dL_law_1001 : decode cL_law 1001 = .ok (.aload_n 1, 1) := by decide +kernel
theorem dL_law_1002 : decode cL_law 1002 = .ok (.invokevirtual 114, 3) := by decide +kernel
theorem dL_law_1005 : decode cL_law 1005 = .ok (.aload_n 2, 1) := by decide +kernel
theorem dL_law_1006 : decode cL_law 1006 = .ok (.invokevirtual 117, 3) := by decide +kernel
theorem dL_law_1009 : decode cL_law 1009 = .ok (.if_icmp .eq 529, 3) := by decide +kernel
theorem dL_law_1012 : decode cL_law 1012 = .ok (.iconst 0, 1) := by decide +kernel
theorem dL_law_1013 : decode cL_law 1013 = .ok (.ireturn, 1) := by decide +kernel
theorem dL_law_1014 : decode cL_law 1014 = .ok (.aload_n 1, 1) := by decide +kernel
theorem dL_law_1015 : decode cL_law 1015 = .ok (.aload_n 0, 1) := by decide +kernel
theorem dL_law_1016 : decode cL_law 1016 = .ok (.iload_n 3, 1) := by decide +kernel
theorem dL_law_1017 : decode cL_law 1017 = .ok (.iconst 1, 1) := by decide +kernel
theorem dL_law_1018 : decode cL_law 1018 = .ok (.iadd, 1) := by decide +kernel
theorem dL_law_1019 : decode cL_law 1019 = .ok (.iaload, 1) := by decide +kernel
theorem dL_law_1020 : decode cL_law 1020 = .ok (.invokevirtual 118, 3) := by decide +kernel
theorem dL_law_1023 : decode cL_law 1023 = .ok (.aload_n 2, 1) := by decide +kernel
theorem dL_law_1024 : decode cL_law 1024 = .ok (.aload_n 0, 1) := by decide +kernel
theorem dL_law_1025 : decode cL_law 1025 = .ok (.iload_n 3, 1) := by decide +kernel
theorem dL_law_1026 : decode cL_law 1026 = .ok (.iconst 1, 1) := by decide +kernel
theorem dL_law_1027 : decode cL_law 1027 = .ok (.iadd, 1) := by decide +kernel
theorem dL_law_1028 : decode cL_law 1028 = .ok (.iaload, 1) := by decide +kernel
theorem dL_law_1029 : decode cL_law 1029 = .ok (.invokevirtual 121, 3) := by decide +kernel
theorem dL_law_1032 : decode cL_law 1032 = .ok (.if_icmp .eq 506, 3) := by decide +kernel
theorem dL_law_1035 : decode cL_law 1035 = .ok (.iconst 0, 1) := by decide +kernel
theorem dL_law_1036 : decode cL_law 1036 = .ok (.ireturn, 1) := by decide +kernel
theorem dL_law_1037 : decode cL_law 1037 = .ok (.aload_n 1, 1) := by decide +kernel
theorem dL_law_1038 : decode cL_law 1038 = .ok (.aload_n 0, 1) := by decide +kernel
theorem dL_law_1039 : decode cL_law 1039 = .ok (.iload_n 3, 1) := by decide +kernel
theorem dL_law_1040 : decode cL_law 1040 = .ok (.iconst 1, 1) := by decide +kernel
theorem dL_law_1041 : decode cL_law 1041 = .ok (.iadd, 1) := by decide +kernel
theorem dL_law_1042 : decode cL_law 1042 = .ok (.iaload, 1) := by decide +kernel
theorem dL_law_1043 : decode cL_law 1043 = .ok (.invokevirtual 122, 3) := by decide +kernel
theorem dL_law_1046 : decode cL_law 1046 = .ok (.aload_n 2, 1) := by decide +kernel
theorem dL_law_1047 : decode cL_law 1047 = .ok (.aload_n 0, 1) := by decide +kernel
theorem dL_law_1048 : decode cL_law 1048 = .ok (.iload_n 3, 1) := by decide +kernel
theorem dL_law_1049 : decode cL_law 1049 = .ok (.iconst 1, 1) := by decide +kernel
theorem dL_law_1050 : decode cL_law 1050 = .ok (.iadd, 1) := by decide +kernel
theorem dL_law_1051 : decode cL_law 1051 = .ok (.iaload, 1) := by decide +kernel
theorem dL_law_1052 : decode cL_law 1052 = .ok (.invokevirtual 125, 3) := by decide +kernel
theorem dL_law_1055 : decode cL_law 1055 = .ok (.if_icmp .eq 483, 3) := by decide +kernel
theorem dL_law_1058 : decode cL_law 1058 = .ok (.iconst 0, 1) := by decide +kernel
theorem dL_law_1059 : decode cL_law 1059 = .ok (.ireturn, 1) := by decide +kernel
theorem dL_law_1060 : decode cL_law 1060 = .ok (.aload_n 1, 1) := by decide +kernel
theorem dL_law_1061 : decode cL_law 1061 = .ok (.aload_n 0, 1) := by decide +kernel
theorem dL_law_1062 : decode cL_law 1062 = .ok (.iload_n 3, 1) := by decide +kernel
theorem dL_law_1063 : decode cL_law 1063 = .ok (.iconst 1, 1) := by decide +kernel
theorem dL_law_1064 : decode cL_law 1064 = .ok (.iadd, 1) := by decide +kernel
theorem dL_law_1065 : decode cL_law 1065 = .ok (.iaload, 1) := by decide +kernel
theorem dL_law_1066 : decode cL_law 1066 = .ok (.aload_n 0, 1) := by decide +kernel
theorem dL_law_1067 : decode cL_law 1067 = .ok (.iload_n 3, 1) := by decide +kernel
theorem dL_law_1068 : decode cL_law 1068 = .ok (.iconst 2, 1) := by decide +kernel
theorem dL_law_1069 : decode cL_law 1069 = .ok (.iadd, 1) := by decide +kernel
theorem dL_law_1070 : decode cL_law 1070 = .ok (.iaload, 1) := by decide +kernel
theorem dL_law_1071 : decode cL_law 1071 = .ok (.aload_n 0, 1) := by decide +kernel
theorem dL_law_1072 : decode cL_law 1072 = .ok (.iload_n 3, 1) := by decide +kernel
theorem dL_law_1073 : decode cL_law 1073 = .ok (.iconst 3, 1) := by decide +kernel
theorem dL_law_1074 : decode cL_law 1074 = .ok (.iadd, 1) := by decide +kernel
theorem dL_law_1075 : decode cL_law 1075 = .ok (.iaload, 1) := by decide +kernel
theorem dL_law_1076 : decode cL_law 1076 = .ok (.aload_n 0, 1) := by decide +kernel
theorem dL_law_1077 : decode cL_law 1077 = .ok (.iload_n 3, 1) := by decide +kernel
theorem dL_law_1078 : decode cL_law 1078 = .ok (.iconst 4, 1) := by decide +kernel
theorem dL_law_1079 : decode cL_law 1079 = .ok (.iadd, 1) := by decide +kernel
theorem dL_law_1080 : decode cL_law 1080 = .ok (.iaload, 1) := by decide +kernel
theorem dL_law_1081 : decode cL_law 1081 = .ok (.aload_n 0, 1) := by decide +kernel
theorem dL_law_1082 : decode cL_law 1082 = .ok (.iload_n 3, 1) := by decide +kernel
theorem dL_law_1083 : decode cL_law 1083 = .ok (.iconst 5, 1) := by decide +kernel
theorem dL_law_1084 : decode cL_law 1084 = .ok (.iadd, 1) := by decide +kernel
theorem dL_law_1085 : decode cL_law 1085 = .ok (.iaload, 1) := by decide +kernel
theorem dL_law_1086 : decode cL_law 1086 = .ok (.invokevirtual 126, 3) := by decide +kernel
theorem dL_law_1089 : decode cL_law 1089 = .ok (.aload_n 2, 1) := by decide +kernel
theorem dL_law_1090 : decode cL_law 1090 = .ok (.aload_n 0, 1) := by decide +kernel
theorem dL_law_1091 : decode cL_law 1091 = .ok (.iload_n 3, 1) := by decide +kernel
theorem dL_law_1092 : decode cL_law 1092 = .ok (.iconst 1, 1) := by decide +kernel
theorem dL_law_1093 : decode cL_law 1093 = .ok (.iadd, 1) := by decide +kernel
theorem dL_law_1094 : decode cL_law 1094 = .ok (.iaload, 1) := by decide +kernel
theorem dL_law_1095 : decode cL_law 1095 = .ok (.aload_n 0, 1) := by decide +kernel
theorem dL_law_1096 : decode cL_law 1096 = .ok (.iload_n 3, 1) := by decide +kernel
theorem dL_law_1097 : decode cL_law 1097 = .ok (.iconst 2, 1) := by decide +kernel
theorem dL_law_1098 : decode cL_law 1098 = .ok (.iadd, 1) := by decide +kernel
theorem dL_law_1099 : decode cL_law 1099 = .ok (.iaload, 1) := by decide +kernel
theorem dL_law_1100 : decode cL_law 1100 = .ok (.aload_n 0, 1) := by decide +kernel
theorem dL_law_1101 : decode cL_law 1101 = .ok (.iload_n 3, 1) := by decide +kernel
theorem dL_law_1102 : decode cL_law 1102 = .ok (.iconst 3, 1) := by decide +kernel
theorem dL_law_1103 : decode cL_law 1103 = .ok (.iadd, 1) := by decide +kernel
theorem dL_law_1104 : decode cL_law 1104 = .ok (.iaload, 1) := by decide +kernel
theorem dL_law_1105 : decode cL_law 1105 = .ok (.aload_n 0, 1) := by decide +kernel
theorem dL_law_1106 : decode cL_law 1106 = .ok (.iload_n 3, 1) := by decide +kernel
theorem dL_law_1107 : decode cL_law 1107 = .ok (.iconst 4, 1) := by decide +kernel
theorem dL_law_1108 : decode cL_law 1108 = .ok (.iadd, 1) := by decide +kernel
theorem dL_law_1109 : decode cL_law 1109 = .ok (.iaload, 1) := by decide +kernel
theorem dL_law_1110 : decode cL_law 1110 = .ok (.aload_n 0, 1) := by decide +kernel
theorem dL_law_1111 : decode cL_law 1111 = .ok (.iload_n 3, 1) := by decide +kernel
theorem dL_law_1112 : decode cL_law 1112 = .ok (.iconst 5, 1) := by decide +kernel
theorem dL_law_1113 : decode cL_law 1113 = .ok (.iadd, 1) := by decide +kernel
theorem dL_law_1114 : decode cL_law 1114 = .ok (.iaload, 1) := by decide +kernel
theorem dL_law_1115 : decode cL_law 1115 = .ok (.invokevirtual 129, 3) := by decide +kernel
theorem dL_law_1118 : decode cL_law 1118 = .ok (.if_icmp .eq 420, 3) := by decide +kernel
theorem dL_law_1121 : decode cL_law 1121 = .ok (.iconst 0, 1) := by decide +kernel
theorem dL_law_1122 : decode cL_law 1122 = .ok (.ireturn, 1) := by decide +kernel
theorem dL_law_1123 : decode cL_law 1123 = .ok (.aload_n 1, 1) := by decide +kernel
theorem dL_law_1124 : decode cL_law 1124 = .ok (.aload_n 0, 1) := by decide +kernel
theorem dL_law_1125 : decode cL_law 1125 = .ok (.iload_n 3, 1) := by decide +kernel
theorem dL_law_1126 : decode cL_law 1126 = .ok (.iconst 1, 1) := by decide +kernel
theorem dL_law_1127 : decode cL_law 1127 = .ok (.iadd, 1) := by decide +kernel
theorem dL_law_1128 : decode cL_law 1128 = .ok (.iaload, 1) := by decide +kernel
theorem dL_law_1129 : decode cL_law 1129 = .ok (.aload_n 0, 1) := by decide +kernel
theorem dL_law_1130 : decode cL_law 1130 = .ok (.iload_n 3, 1) := by decide +kernel
theorem dL_law_1131 : decode cL_law 1131 = .ok (.iconst 2, 1) := by decide +kernel
theorem dL_law_1132 : decode cL_law 1132 = .ok (.iadd, 1) := by decide +kernel
theorem dL_law_1133 : decode cL_law 1133 = .ok (.iaload, 1) := by decide +kernel
theorem dL_law_1134 : decode cL_law 1134 = .ok (.aload_n 0, 1) := by decide +kernel
theorem dL_law_1135 : decode cL_law 1135 = .ok (.iload_n 3, 1) := by decide +kernel
theorem dL_law_1136 : decode cL_law 1136 = .ok (.iconst 3, 1) := by decide +kernel
theorem dL_law_1137 : decode cL_law 1137 = .ok (.iadd, 1) := by decide +kernel
theorem dL_law_1138 : decode cL_law 1138 = .ok (.iaload, 1) := by decide +kernel
theorem dL_law_1139 : decode cL_law 1139 = .ok (.aload_n 0, 1) := by decide +kernel
theorem dL_law_1140 : decode cL_law 1140 = .ok (.iload_n 3, 1) := by decide +kernel
theorem dL_law_1141 : decode cL_law 1141 = .ok (.iconst 4, 1) := by decide +kernel
theorem dL_law_1142 : decode cL_law 1142 = .ok (.iadd, 1) := by decide +kernel
theorem dL_law_1143 : decode cL_law 1143 = .ok (.iaload, 1) := by decide +kernel
theorem dL_law_1144 : decode cL_law 1144 = .ok (.aload_n 0, 1) := by decide +kernel
theorem dL_law_1145 : decode cL_law 1145 = .ok (.iload_n 3, 1) := by decide +kernel
theorem dL_law_1146 : decode cL_law 1146 = .ok (.iconst 5, 1) := by decide +kernel
theorem dL_law_1147 : decode cL_law 1147 = .ok (.iadd, 1) := by decide +kernel
theorem dL_law_1148 : decode cL_law 1148 = .ok (.iaload, 1) := by decide +kernel
theorem dL_law_1149 : decode cL_law 1149 = .ok (.aload_n 0, 1) := by decide +kernel
theorem dL_law_1150 : decode cL_law 1150 = .ok (.iload_n 3, 1) := by decide +kernel
theorem dL_law_1151 : decode cL_law 1151 = .ok (.bipush 6, 2) := by decide +kernel
theorem dL_law_1153 : decode cL_law 1153 = .ok (.iadd, 1) := by decide +kernel
theorem dL_law_1154 : decode cL_law 1154 = .ok (.iaload, 1) := by decide +kernel
theorem dL_law_1155 : decode cL_law 1155 = .ok (.invokevirtual 130, 3) := by decide +kernel
theorem dL_law_1158 : decode cL_law 1158 = .ok (.aload_n 2, 1) := by decide +kernel
theorem dL_law_1159 : decode cL_law 1159 = .ok (.aload_n 0, 1) := by decide +kernel
theorem dL_law_1160 : decode cL_law 1160 = .ok (.iload_n 3, 1) := by decide +kernel
theorem dL_law_1161 : decode cL_law 1161 = .ok (.iconst 1, 1) := by decide +kernel
theorem dL_law_1162 : decode cL_law 1162 = .ok (.iadd, 1) := by decide +kernel
theorem dL_law_1163 : decode cL_law 1163 = .ok (.iaload, 1) := by decide +kernel
theorem dL_law_1164 : decode cL_law 1164 = .ok (.aload_n 0, 1) := by decide +kernel
theorem dL_law_1165 : decode cL_law 1165 = .ok (.iload_n 3, 1) := by decide +kernel
theorem dL_law_1166 : decode cL_law 1166 = .ok (.iconst 2, 1) := by decide +kernel
theorem dL_law_1167 : decode cL_law 1167 = .ok (.iadd, 1) := by decide +kernel
theorem dL_law_1168 : decode cL_law 1168 = .ok (.iaload, 1) := by decide +kernel
theorem dL_law_1169 : decode cL_law 1169 = .ok (.aload_n 0, 1) := by decide +kernel
theorem dL_law_1170 : decode cL_law 1170 = .ok (.iload_n 3, 1) := by decide +kernel
theorem dL_law_1171 : decode cL_law 1171 = .ok (.iconst 3, 1) := by decide +kernel
theorem dL_law_1172 : decode cL_law 1172 = .ok (.iadd, 1) := by decide +kernel
theorem dL_law_1173 : decode cL_law 1173 = .ok (.iaload, 1) := by decide +kernel
theorem dL_law_1174 : decode cL_law 1174 = .ok (.aload_n 0, 1) := by decide +kernel
theorem dL_law_1175 : decode cL_law 1175 = .ok (.iload_n 3, 1) := by decide +kernel
theorem dL_law_1176 : decode cL_law 1176 = .ok (.iconst 4, 1) := by decide +kernel
theorem dL_law_1177 : decode cL_law 1177 = .ok (.iadd, 1) := by decide +kernel
theorem dL_law_1178 : decode cL_law 1178 = .ok (.iaload, 1) := by decide +kernel
theorem dL_law_1179 : decode cL_law 1179 = .ok (.aload_n 0, 1) := by decide +kernel
theorem dL_law_1180 : decode cL_law 1180 = .ok (.iload_n 3, 1) := by decide +kernel
theorem dL_law_1181 : decode cL_law 1181 = .ok (.iconst 5, 1) := by decide +kernel
theorem dL_law_1182 : decode cL_law 1182 = .ok (.iadd, 1) := by decide +kernel
theorem dL_law_1183 : decode cL_law 1183 = .ok (.iaload, 1) := by decide +kernel
theorem dL_law_1184 : decode cL_law 1184 = .ok (.aload_n 0, 1) := by decide +kernel
theorem dL_law_1185 : decode cL_law 1185 = .ok (.iload_n 3, 1) := by decide +kernel
theorem dL_law_1186 : decode cL_law 1186 = .ok (.bipush 6, 2) := by decide +kernel
theorem dL_law_1188 : decode cL_law 1188 = .ok (.iadd, 1) := by decide +kernel
theorem dL_law_1189 : decode cL_law 1189 = .ok (.iaload, 1) := by decide +kernel
theorem dL_law_1190 : decode cL_law 1190 = .ok (.invokevirtual 134, 3) := by decide +kernel
theorem dL_law_1193 : decode cL_law 1193 = .ok (.if_icmp .eq 345, 3) := by decide +kernel
theorem dL_law_1196 : decode cL_law 1196 = .ok (.iconst 0, 1) := by decide +kernel
theorem dL_law_1197 : decode cL_law 1197 = .ok (.ireturn, 1) := by decide +kernel
theorem dL_law_1198 : decode cL_law 1198 = .ok (.aload_n 1, 1) := by decide +kernel
theorem dL_law_1199 : decode cL_law 1199 = .ok (.aload_n 0, 1) := by decide +kernel
theorem dL_law_1200 : decode cL_law 1200 = .ok (.iload_n 3, 1) := by decide +kernel
theorem dL_law_1201 : decode cL_law 1201 = .ok (.iconst 1, 1) := by decide +kernel
theorem dL_law_1202 : decode cL_law 1202 = .ok (.iadd, 1) := by decide +kernel
theorem dL_law_1203 : decode cL_law 1203 = .ok (.iaload, 1) := by decide +kernel
theorem dL_law_1204 : decode cL_law 1204 = .ok (.aload_n 0, 1) := by decide +kernel
theorem dL_law_1205 : decode cL_law 1205 = .ok (.iload_n 3, 1) := by decide +kernel
theorem dL_law_1206 : decode cL_law 1206 = .ok (.iconst 2, 1) := by decide +kernel
theorem dL_law_1207 : decode cL_law 1207 = .ok (.iadd, 1) := by decide +kernel
theorem dL_law_1208 : decode cL_law 1208 = .ok (.iaload, 1) := by decide +kernel
theorem dL_law_1209 : decode cL_law 1209 = .ok (.aload_n 0, 1) := by decide +kernel
theorem dL_law_1210 : decode cL_law 1210 = .ok (.iload_n 3, 1) := by decide +kernel
theorem dL_law_1211 : decode cL_law 1211 = .ok (.iconst 3, 1) := by decide +kernel
theorem dL_law_1212 : decode cL_law 1212 = .ok (.iadd, 1) := by decide +kernel
theorem dL_law_1213 : decode cL_law 1213 = .ok (.iaload, 1) := by decide +kernel
theorem dL_law_1214 : decode cL_law 1214 = .ok (.aload_n 0, 1) := by decide +kernel
theorem dL_law_1215 : decode cL_law 1215 = .ok (.iload_n 3, 1) := by decide +kernel
theorem dL_law_1216 : decode cL_law 1216 = .ok (.iconst 4, 1) := by decide +kernel
theorem dL_law_1217 : decode cL_law 1217 = .ok (.iadd, 1) := by decide +kernel
theorem dL_law_1218 : decode cL_law 1218 = .ok (.iaload, 1) := by decide +kernel
theorem dL_law_1219 : decode cL_law 1219 = .ok (.aload_n 0, 1) := by decide +kernel
theorem dL_law_1220 : decode cL_law 1220 = .ok (.iload_n 3, 1) := by decide +kernel
theorem dL_law_1221 : decode cL_law 1221 = .ok (.iconst 5, 1) := by decide +kernel
theorem dL_law_1222 : decode cL_law 1222 = .ok (.iadd, 1) := by decide +kernel
theorem dL_law_1223 : decode cL_law 1223 = .ok (.iaload, 1) := by decide +kernel
theorem dL_law_1224 : decode cL_law 1224 = .ok (.invokevirtual 135, 3) := by decide +kernel
theorem dL_law_1227 : decode cL_law 1227 = .ok (.aload_n 2, 1) := by decide +kernel
theorem dL_law_1228 : decode cL_law 1228 = .ok (.aload_n 0, 1) := by decide +kernel
theorem dL_law_1229 : decode cL_law 1229 = .ok (.iload_n 3, 1) := by decide +kernel
theorem dL_law_1230 : decode cL_law 1230 = .ok (.iconst 1, 1) := by decide +kernel
theorem dL_law_1231 : decode cL_law 1231 = .ok (.iadd, 1) := by decide +kernel
theorem dL_law_1232 : decode cL_law 1232 = .ok (.iaload, 1) := by decide +kernel
theorem dL_law_1233 : decode cL_law 1233 = .ok (.aload_n 0, 1) := by decide +kernel
theorem dL_law_1234 : decode cL_law 1234 = .ok (.iload_n 3, 1) := by decide +kernel
theorem dL_law_1235 : decode cL_law 1235 = .ok (.iconst 2, 1) := by decide +kernel
theorem dL_law_1236 : decode cL_law 1236 = .ok (.iadd, 1) := by decide +kernel
theorem dL_law_1237 : decode cL_law 1237 = .ok (.iaload, 1) := by decide +kernel
theorem dL_law_1238 : decode cL_law 1238 = .ok (.aload_n 0, 1) := by decide +kernel
theorem dL_law_1239 : decode cL_law 1239 = .ok (.iload_n 3, 1) := by decide +kernel
theorem dL_law_1240 : decode cL_law 1240 = .ok (.iconst 3, 1) := by decide +kernel
theorem dL_law_1241 : decode cL_law 1241 = .ok (.iadd, 1) := by decide +kernel
theorem dL_law_1242 : decode cL_law 1242 = .ok (.iaload, 1) := by decide +kernel
theorem dL_law_1243 : decode cL_law 1243 = .ok (.aload_n 0, 1) := by decide +kernel
theorem dL_law_1244 : decode cL_law 1244 = .ok (.iload_n 3, 1) := by decide +kernel
theorem dL_law_1245 : decode cL_law 1245 = .ok (.iconst 4, 1) := by decide +kernel
theorem dL_law_1246 : decode cL_law 1246 = .ok (.iadd, 1) := by decide +kernel
theorem dL_law_1247 : decode cL_law 1247 = .ok (.iaload, 1) := by decide +kernel
theorem dL_law_1248 : decode cL_law 1248 = .ok (.aload_n 0, 1) := by decide +kernel
theorem dL_law_1249 : decode cL_law 1249 = .ok (.iload_n 3, 1) := by decide +kernel
theorem dL_law_1250 : decode cL_law 1250 = .ok (.iconst 5, 1) := by decide +kernel
theorem dL_law_1251 : decode cL_law 1251 = .ok (.iadd, 1) := by decide +kernel
theorem dL_law_1252 : decode cL_law 1252 = .ok (.iaload, 1) := by decide +kernel
theorem dL_law_1253 : decode cL_law 1253 = .ok (.invokevirtual 138, 3) := by decide +kernel
theorem dL_law_1256 : decode cL_law 1256 = .ok (.if_icmp .eq 282, 3) := by decide +kernel
theorem dL_law_1259 : decode cL_law 1259 = .ok (.iconst 0, 1) := by decide +kernel
theorem dL_law_1260 : decode cL_law 1260 = .ok (.ireturn, 1) := by decide +kernel
theorem dL_law_1261 : decode cL_law 1261 = .ok (.aload_n 1, 1) := by decide +kernel
theorem dL_law_1262 : decode cL_law 1262 = .ok (.invokevirtual 139, 3) := by decide +kernel
theorem dL_law_1265 : decode cL_law 1265 = .ok (.aload_n 2, 1) := by decide +kernel
theorem dL_law_1266 : decode cL_law 1266 = .ok (.invokevirtual 142, 3) := by decide +kernel
theorem dL_law_1269 : decode cL_law 1269 = .ok (.if_icmp .eq 269, 3) := by decide +kernel
theorem dL_law_1272 : decode cL_law 1272 = .ok (.iconst 0, 1) := by decide +kernel
theorem dL_law_1273 : decode cL_law 1273 = .ok (.ireturn, 1) := by decide +kernel
theorem dL_law_1274 : decode cL_law 1274 = .ok (.aload_n 1, 1) := by decide +kernel
theorem dL_law_1275 : decode cL_law 1275 = .ok (.aload_n 0, 1) := by decide +kernel
theorem dL_law_1276 : decode cL_law 1276 = .ok (.iload_n 3, 1) := by decide +kernel
theorem dL_law_1277 : decode cL_law 1277 = .ok (.iconst 1, 1) := by decide +kernel
theorem dL_law_1278 : decode cL_law 1278 = .ok (.iadd, 1) := by decide +kernel
theorem dL_law_1279 : decode cL_law 1279 = .ok (.iaload, 1) := by decide +kernel
theorem dL_law_1280 : decode cL_law 1280 = .ok (.aload_n 0, 1) := by decide +kernel
theorem dL_law_1281 : decode cL_law 1281 = .ok (.iload_n 3, 1) := by decide +kernel
theorem dL_law_1282 : decode cL_law 1282 = .ok (.iconst 2, 1) := by decide +kernel
theorem dL_law_1283 : decode cL_law 1283 = .ok (.iadd, 1) := by decide +kernel
theorem dL_law_1284 : decode cL_law 1284 = .ok (.iaload, 1) := by decide +kernel
theorem dL_law_1285 : decode cL_law 1285 = .ok (.aload_n 0, 1) := by decide +kernel
theorem dL_law_1286 : decode cL_law 1286 = .ok (.iload_n 3, 1) := by decide +kernel
theorem dL_law_1287 : decode cL_law 1287 = .ok (.iconst 3, 1) := by decide +kernel
theorem dL_law_1288 : decode cL_law 1288 = .ok (.iadd, 1) := by decide +kernel
theorem dL_law_1289 : decode cL_law 1289 = .ok (.iaload, 1) := by decide +kernel
theorem dL_law_1290 : decode cL_law 1290 = .ok (.invokevirtual 143, 3) := by decide +kernel
theorem dL_law_1293 : decode cL_law 1293 = .ok (.aload_n 2, 1) := by decide +kernel
theorem dL_law_1294 : decode cL_law 1294 = .ok (.aload_n 0, 1) := by decide +kernel
theorem dL_law_1295 : decode cL_law 1295 = .ok (.iload_n 3, 1) := by decide +kernel
theorem dL_law_1296 : decode cL_law 1296 = .ok (.iconst 1, 1) := by decide +kernel
theorem dL_law_1297 : decode cL_law 1297 = .ok (.iadd, 1) := by decide +kernel
theorem dL_law_1298 : decode cL_law 1298 = .ok (.iaload, 1) := by decide +kernel
theorem dL_law_1299 : decode cL_law 1299 = .ok (.aload_n 0, 1) := by decide +kernel
theorem dL_law_1300 : decode cL_law 1300 = .ok (.iload_n 3, 1) := by decide +kernel
theorem dL_law_1301 : decode cL_law 1301 = .ok (.iconst 2, 1) := by decide +kernel
theorem dL_law_1302 : decode cL_law 1302 = .ok (.iadd, 1) := by decide +kernel
theorem dL_law_1303 : decode cL_law 1303 = .ok (.iaload, 1) := by decide +kernel
theorem dL_law_1304 : decode cL_law 1304 = .ok (.aload_n 0, 1) := by decide +kernel
theorem dL_law_1305 : decode cL_law 1305 = .ok (.iload_n 3, 1) := by decide +kernel
theorem dL_law_1306 : decode cL_law 1306 = .ok (.iconst 3, 1) := by decide +kernel
theorem dL_law_1307 : decode cL_law 1307 = .ok (.iadd, 1) := by decide +kernel
theorem dL_law_1308 : decode cL_law 1308 = .ok (.iaload, 1) := by decide +kernel
theorem dL_law_1309 : decode cL_law 1309 = .ok (.invokevirtual 146, 3) := by decide +kernel
theorem dL_law_1312 : decode cL_law 1312 = .ok (.if_icmp .eq 226, 3) := by decide +kernel
theorem dL_law_1315 : decode cL_law 1315 = .ok (.iconst 0, 1) := by decide +kernel
theorem dL_law_1316 : decode cL_law 1316 = .ok (.ireturn, 1) := by decide +kernel
theorem dL_law_1317 : decode cL_law 1317 = .ok (.aload_n 1, 1) := by decide +kernel
theorem dL_law_1318 : decode cL_law 1318 = .ok (.aload_n 0, 1) := by decide +kernel
theorem dL_law_1319 : decode cL_law 1319 = .ok (.iload_n 3, 1) := by decide +kernel
theorem dL_law_1320 : decode cL_law 1320 = .ok (.iconst 1, 1) := by decide +kernel
theorem dL_law_1321 : decode cL_law 1321 = .ok (.iadd, 1) := by decide +kernel
theorem dL_law_1322 : decode cL_law 1322 = .ok (.iaload, 1) := by decide +kernel
theorem dL_law_1323 : decode cL_law 1323 = .ok (.invokevirtual 147, 3) := by decide +kernel
theorem dL_law_1326 : decode cL_law 1326 = .ok (.aload_n 2, 1) := by decide +kernel
theorem dL_law_1327 : decode cL_law 1327 = .ok (.aload_n 0, 1) := by decide +kernel
theorem dL_law_1328 : decode cL_law 1328 = .ok (.iload_n 3, 1) := by decide +kernel
theorem dL_law_1329 : decode cL_law 1329 = .ok (.iconst 1, 1) := by decide +kernel
theorem dL_law_1330 : decode cL_law 1330 = .ok (.iadd, 1) := by decide +kernel
theorem dL_law_1331 : decode cL_law 1331 = .ok (.iaload, 1) := by decide +kernel
theorem dL_law_1332 : decode cL_law 1332 = .ok (.invokevirtual 150, 3) := by decide +kernel
theorem dL_law_1335 : decode cL_law 1335 = .ok (.if_icmp .eq 203, 3) := by decide +kernel
theorem dL_law_1338 : decode cL_law 1338 = .ok (.iconst 0, 1) := by decide +kernel
theorem dL_law_1339 : decode cL_law 1339 = .ok (.ireturn, 1) := by decide +kernel
theorem dL_law_1340 : decode cL_law 1340 = .ok (.aload_n 1, 1) := by decide +kernel
theorem dL_law_1341 : decode cL_law 1341 = .ok (.invokevirtual 151, 3) := by decide +kernel
theorem dL_law_1344 : decode cL_law 1344 = .ok (.aload_n 2, 1) := by decide +kernel
theorem dL_law_1345 : decode cL_law 1345 = .ok (.invokevirtual 154, 3) := by decide +kernel
theorem dL_law_1348 : decode cL_law 1348 = .ok (.if_icmp .eq 190, 3) := by decide +kernel
theorem dL_law_1351 : decode cL_law 1351 = .ok (.iconst 0, 1) := by decide +kernel
theorem dL_law_1352 : decode cL_law 1352 = .ok (.ireturn, 1) := by decide +kernel
theorem dL_law_1353 : decode cL_law 1353 = .ok (.aload_n 1, 1) := by decide +kernel
theorem dL_law_1354 : decode cL_law 1354 = .ok (.aload_n 0, 1) := by decide +kernel
theorem dL_law_1355 : decode cL_law 1355 = .ok (.iload_n 3, 1) := by decide +kernel
theorem dL_law_1356 : decode cL_law 1356 = .ok (.iconst 1, 1) := by decide +kernel
theorem dL_law_1357 : decode cL_law 1357 = .ok (.iadd, 1) := by decide +kernel
theorem dL_law_1358 : decode cL_law 1358 = .ok (.iaload, 1) := by decide +kernel
theorem dL_law_1359 : decode cL_law 1359 = .ok (.invokevirtual 155, 3) := by decide +kernel
theorem dL_law_1362 : decode cL_law 1362 = .ok (.aload_n 2, 1) := by decide +kernel
theorem dL_law_1363 : decode cL_law 1363 = .ok (.aload_n 0, 1) := by decide +kernel
theorem dL_law_1364 : decode cL_law 1364 = .ok (.iload_n 3, 1) := by decide +kernel
theorem dL_law_1365 : decode cL_law 1365 = .ok (.iconst 1, 1) := by decide +kernel
theorem dL_law_1366 : decode cL_law 1366 = .ok (.iadd, 1) := by decide +kernel
theorem dL_law_1367 : decode cL_law 1367 = .ok (.iaload, 1) := by decide +kernel
theorem dL_law_1368 : decode cL_law 1368 = .ok (.invokevirtual 158, 3) := by decide +kernel
theorem dL_law_1371 : decode cL_law 1371 = .ok (.if_icmp .eq 167, 3) := by decide +kernel
theorem dL_law_1374 : decode cL_law 1374 = .ok (.iconst 0, 1) := by decide +kernel
theorem dL_law_1375 : decode cL_law 1375 = .ok (.ireturn, 1) := by decide +kernel
theorem dL_law_1376 : decode cL_law 1376 = .ok (.aload_n 1, 1) := by decide +kernel
theorem dL_law_1377 : decode cL_law 1377 = .ok (.aload_n 0, 1) := by decide +kernel
theorem dL_law_1378 : decode cL_law 1378 = .ok (.iload_n 3, 1) := by decide +kernel
theorem dL_law_1379 : decode cL_law 1379 = .ok (.iconst 1, 1) := by decide +kernel
theorem dL_law_1380 : decode cL_law 1380 = .ok (.iadd, 1) := by decide +kernel
theorem dL_law_1381 : decode cL_law 1381 = .ok (.iaload, 1) := by decide +kernel
theorem dL_law_1382 : decode cL_law 1382 = .ok (.invokevirtual 159, 3) := by decide +kernel
theorem dL_law_1385 : decode cL_law 1385 = .ok (.aload_n 2, 1) := by decide +kernel
theorem dL_law_1386 : decode cL_law 1386 = .ok (.aload_n 0, 1) := by decide +kernel
theorem dL_law_1387 : decode cL_law 1387 = .ok (.iload_n 3, 1) := by decide +kernel
theorem dL_law_1388 : decode cL_law 1388 = .ok (.iconst 1, 1) := by decide +kernel
theorem dL_law_1389 : decode cL_law 1389 = .ok (.iadd, 1) := by decide +kernel
theorem dL_law_1390 : decode cL_law 1390 = .ok (.iaload, 1) := by decide +kernel
theorem dL_law_1391 : decode cL_law 1391 = .ok (.invokevirtual 162, 3) := by decide +kernel
theorem dL_law_1394 : decode cL_law 1394 = .ok (.if_icmp .eq 144, 3) := by decide +kernel
theorem dL_law_1397 : decode cL_law 1397 = .ok (.iconst 0, 1) := by decide +kernel
theorem dL_law_1398 : decode cL_law 1398 = .ok (.ireturn, 1) := by decide +kernel
theorem dL_law_1399 : decode cL_law 1399 = .ok (.aload_n 1, 1) := by decide +kernel
theorem dL_law_1400 : decode cL_law 1400 = .ok (.aload_n 0, 1) := by decide +kernel
theorem dL_law_1401 : decode cL_law 1401 = .ok (.iload_n 3, 1) := by decide +kernel
theorem dL_law_1402 : decode cL_law 1402 = .ok (.iconst 1, 1) := by decide +kernel
theorem dL_law_1403 : decode cL_law 1403 = .ok (.iadd, 1) := by decide +kernel
theorem dL_law_1404 : decode cL_law 1404 = .ok (.iaload, 1) := by decide +kernel
theorem dL_law_1405 : decode cL_law 1405 = .ok (.aload_n 0, 1) := by decide +kernel
theorem dL_law_1406 : decode cL_law 1406 = .ok (.iload_n 3, 1) := by decide +kernel
theorem dL_law_1407 : decode cL_law 1407 = .ok (.iconst 2, 1) := by decide +kernel
theorem dL_law_1408 : decode cL_law 1408 = .ok (.iadd, 1) := by decide +kernel
theorem dL_law_1409 : decode cL_law 1409 = .ok (.iaload, 1) := by decide +kernel
theorem dL_law_1410 : decode cL_law 1410 = .ok (.invokevirtual 163, 3) := by decide +kernel
theorem dL_law_1413 : decode cL_law 1413 = .ok (.aload_n 2, 1) := by decide +kernel
theorem dL_law_1414 : decode cL_law 1414 = .ok (.aload_n 0, 1) := by decide +kernel
theorem dL_law_1415 : decode cL_law 1415 = .ok (.iload_n 3, 1) := by decide +kernel
theorem dL_law_1416 : decode cL_law 1416 = .ok (.iconst 1, 1) := by decide +kernel
theorem dL_law_1417 : decode cL_law 1417 = .ok (.iadd, 1) := by decide +kernel
theorem dL_law_1418 : decode cL_law 1418 = .ok (.iaload, 1) := by decide +kernel
theorem dL_law_1419 : decode cL_law 1419 = .ok (.aload_n 0, 1) := by decide +kernel
theorem dL_law_1420 : decode cL_law 1420 = .ok (.iload_n 3, 1) := by decide +kernel
theorem dL_law_1421 : decode cL_law 1421 = .ok (.iconst 2, 1) := by decide +kernel
theorem dL_law_1422 : decode cL_law 1422 = .ok (.iadd, 1) := by decide +kernel
theorem dL_law_1423 : decode cL_law 1423 = .ok (.iaload, 1) := by decide +kernel
theorem dL_law_1424 : decode cL_law 1424 = .ok (.invokevirtual 166, 3) := by decide +kernel
theorem dL_law_1427 : decode cL_law 1427 = .ok (.if_icmp .eq 111, 3) := by decide +kernel
theorem dL_law_1430 : decode cL_law 1430 = .ok (.iconst 0, 1) := by decide +kernel
theorem dL_law_1431 : decode cL_law 1431 = .ok (.ireturn, 1) := by decide +kernel
theorem dL_law_1432 : decode cL_law 1432 = .ok (.aload_n 1, 1) := by decide +kernel
theorem dL_law_1433 : decode cL_law 1433 = .ok (.aload_n 0, 1) := by decide +kernel
theorem dL_law_1434 : decode cL_law 1434 = .ok (.iload_n 3, 1) := by decide +kernel
theorem dL_law_1435 : decode cL_law 1435 = .ok (.iconst 1, 1) := by decide +kernel
theorem dL_law_1436 : decode cL_law 1436 = .ok (.iadd, 1) := by decide +kernel
theorem dL_law_1437 : decode cL_law 1437 = .ok (.iaload, 1) := by decide +kernel
theorem dL_law_1438 : decode cL_law 1438 = .ok (.invokevirtual 167, 3) := by decide +kernel
theorem dL_law_1441 : decode cL_law 1441 = .ok (.aload_n 2, 1) := by decide +kernel
theorem dL_law_1442 : decode cL_law 1442 = .ok (.aload_n 0, 1) := by decide +kernel
theorem dL_law_1443 : decode cL_law 1443 = .ok (.iload_n 3, 1) := by decide +kernel
theorem dL_law_1444 : decode cL_law 1444 = .ok (.iconst 1, 1) := by decide +kernel
theorem dL_law_1445 : decode cL_law 1445 = .ok (.iadd, 1) := by decide +kernel
theorem dL_law_1446 : decode cL_law 1446 = .ok (.iaload, 1) := by decide +kernel
theorem dL_law_1447 : decode cL_law 1447 = .ok (.invokevirtual 170, 3) := by decide +kernel
theorem dL_law_1450 : decode cL_law 1450 = .ok (.if_icmp .eq 88, 3) := by decide +kernel
theorem dL_law_1453 : decode cL_law 1453 = .ok (.iconst 0, 1) := by decide +kernel
theorem dL_law_1454 : decode cL_law 1454 = .ok (.ireturn, 1) := by decide +kernel
theorem dL_law_1455 : decode cL_law 1455 = .ok (.aload_n 1, 1) := by decide +kernel
theorem dL_law_1456 : decode cL_law 1456 = .ok (.aload_n 0, 1) := by decide +kernel
theorem dL_law_1457 : decode cL_law 1457 = .ok (.iload_n 3, 1) := by decide +kernel
theorem dL_law_1458 : decode cL_law 1458 = .ok (.iconst 1, 1) := by decide +kernel
theorem dL_law_1459 : decode cL_law 1459 = .ok (.iadd, 1) := by decide +kernel
theorem dL_law_1460 : decode cL_law 1460 = .ok (.iaload, 1) := by decide +kernel
theorem dL_law_1461 : decode cL_law 1461 = .ok (.invokevirtual 171, 3) := by decide +kernel
theorem dL_law_1464 : decode cL_law 1464 = .ok (.aload_n 2, 1) := by decide +kernel
theorem dL_law_1465 : decode cL_law 1465 = .ok (.aload_n 0, 1) := by decide +kernel
theorem dL_law_1466 : decode cL_law 1466 = .ok (.iload_n 3, 1) := by decide +kernel
theorem dL_law_1467 : decode cL_law 1467 = .ok (.iconst 1, 1) := by decide +kernel
theorem dL_law_1468 : decode cL_law 1468 = .ok (.iadd, 1) := by decide +kernel
theorem dL_law_1469 : decode cL_law 1469 = .ok (.iaload, 1) := by decide +kernel
theorem dL_law_1470 : decode cL_law 1470 = .ok (.invokevirtual 174, 3) := by decide +kernel
theorem dL_law_1473 : decode cL_law 1473 = .ok (.if_icmp .eq 65, 3) := by decide +kernel
theorem dL_law_1476 : decode cL_law 1476 = .ok (.iconst 0, 1) := by decide +kernel
theorem dL_law_1477 : decode cL_law 1477 = .ok (.ireturn, 1) := by decide +kernel
theorem dL_law_1478 : decode cL_law 1478 = .ok (.aload_n 1, 1) := by decide +kernel
theorem dL_law_1479 : decode cL_law 1479 = .ok (.aload_n 0, 1) := by decide +kernel
theorem dL_law_1480 : decode cL_law 1480 = .ok (.iload_n 3, 1) := by decide +kernel
theorem dL_law_1481 : decode cL_law 1481 = .ok (.iconst 1, 1) := by decide +kernel
theorem dL_law_1482 : decode cL_law 1482 = .ok (.iadd, 1) := by decide +kernel
theorem dL_law_1483 : decode cL_law 1483 = .ok (.iaload, 1) := by decide +kernel
theorem dL_law_1484 : decode cL_law 1484 = .ok (.invokevirtual 175, 3) := by decide +kernel
theorem dL_law_1487 : decode cL_law 1487 = .ok (.aload_n 2, 1) := by decide +kernel
theorem dL_law_1488 : decode cL_law 1488 = .ok (.aload_n 0, 1) := by decide +kernel
theorem dL_law_1489 : decode cL_law 1489 = .ok (.iload_n 3, 1) := by decide +kernel
theorem dL_law_1490 : decode cL_law 1490 = .ok (.iconst 1, 1) := by decide +kernel
theorem dL_law_1491 : decode cL_law 1491 = .ok (.iadd, 1) := by decide +kernel
theorem dL_law_1492 : decode cL_law 1492 = .ok (.iaload, 1) := by decide +kernel
theorem dL_law_1493 : decode cL_law 1493 = .ok (.invokevirtual 178, 3) := by decide +kernel
theorem dL_law_1496 : decode cL_law 1496 = .ok (.if_icmp .eq 42, 3) := by decide +kernel
theorem dL_law_1499 : decode cL_law 1499 = .ok (.iconst 0, 1) := by decide +kernel
theorem dL_law_1500 : decode cL_law 1500 = .ok (.ireturn, 1) := by decide +kernel
theorem dL_law_1501 : decode cL_law 1501 = .ok (.aload_n 1, 1) := by decide +kernel
theorem dL_law_1502 : decode cL_law 1502 = .ok (.aload_n 0, 1) := by decide +kernel
theorem dL_law_1503 : decode cL_law 1503 = .ok (.iload_n 3, 1) := by decide +kernel
theorem dL_law_1504 : decode cL_law 1504 = .ok (.iconst 1, 1) := by decide +kernel
theorem dL_law_1505 : decode cL_law 1505 = .ok (.iadd, 1) := by decide +kernel
theorem dL_law_1506 : decode cL_law 1506 = .ok (.iaload, 1) := by decide +kernel
theorem dL_law_1507 : decode cL_law 1507 = .ok (.invokevirtual 179, 3) := by decide +kernel
theorem dL_law_1510 : decode cL_law 1510 = .ok (.aload_n 2, 1) := by decide +kernel
theorem dL_law_1511 : decode cL_law 1511 = .ok (.aload_n 0, 1) := by decide +kernel
theorem dL_law_1512 : decode cL_law 1512 = .ok (.iload_n 3, 1) := by decide +kernel
theorem dL_law_1513 : decode cL_law 1513 = .ok (.iconst 1, 1) := by decide +kernel
theorem dL_law_1514 : decode cL_law 1514 = .ok (.iadd, 1) := by decide +kernel
theorem dL_law_1515 : decode cL_law 1515 = .ok (.iaload, 1) := by decide +kernel
theorem dL_law_1516 : decode cL_law 1516 = .ok (.invokevirtual 182, 3) := by decide +kernel
theorem dL_law_1519 : decode cL_law 1519 = .ok (.if_icmp .eq 19, 3) := by decide +kernel
theorem dL_law_1522 : decode cL_law 1522 = .ok (.iconst 0, 1) := by decide +kernel
theorem dL_law_1523 : decode cL_law 1523 = .ok (.ireturn, 1) := by decide +kernel
theorem dL_law_1524 : decode cL_law 1524 = .ok (.aload_n 1, 1) := by decide +kernel
theorem dL_law_1525 : decode cL_law 1525 = .ok (.invokevirtual 183, 3) := by decide +kernel
theorem dL_law_1528 : decode cL_law 1528 = .ok (.aload_n 2, 1) := by decide +kernel
theorem dL_law_1529 : decode cL_law 1529 = .ok (.invokevirtual 187, 3) := by decide +kernel
theorem dL_law_1532 : decode cL_law 1532 = .ok (.lcmp, 1) := by decide +kernel
theorem dL_law_1533 : decode cL_law 1533 = .ok (.ifCond .eq 5, 3) := by decide +kernel
theorem dL_law_1536 : decode cL_law 1536 = .ok (.iconst 0, 1) := by decide +kernel
theorem dL_law_1537 : decode cL_law 1537 = .ok (.ireturn, 1) := by decide +kernel
theorem dL_law_1538 : decode cL_law 1538 = .ok (.iinc 3 7, 3) := by decide +kernel
theorem dL_law_1541 : decode cL_law 1541 = .ok (.goto (-1523), 3) := by decide +kernel
theorem dL_law_1544 : decode cL_law 1544 = .ok (.iconst 1, 1) := by decide +kernel
theorem dL_law_1545 : decode cL_law 1545 = .ok (.ireturn, 1) := by decide +kernel
