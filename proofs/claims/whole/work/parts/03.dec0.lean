theorem dX0_init_0 : decode cX0_init 0 = .ok (.aload_n 0, 1) := by decide +kernel
theorem dX0_init_1 : decode cX0_init 1 = .ok (.invokespecial 3, 3) := by decide +kernel
theorem dX0_init_4 : decode cX0_init 4 = .ok (.aload_n 0, 1) := by decide +kernel
theorem dX0_init_5 : decode cX0_init 5 = .ok (.bipush 60, 2) := by decide +kernel
theorem dX0_init_7 : decode cX0_init 7 = .ok (.newarray .int, 2) := by decide +kernel
theorem dX0_init_9 : decode cX0_init 9 = .ok (.putfield 9, 3) := by decide +kernel
theorem dX0_init_12 : decode cX0_init 12 = .ok (.aload_n 0, 1) := by decide +kernel
theorem dX0_init_13 : decode cX0_init 13 = .ok (.bipush 60, 2) := by decide +kernel
theorem dX0_init_15 : decode cX0_init 15 = .ok (.newarray .int, 2) := by decide +kernel
theorem dX0_init_17 : decode cX0_init 17 = .ok (.putfield 15, 3) := by decide +kernel
theorem dX0_init_20 : decode cX0_init 20 = .ok (.aload_n 0, 1) := by decide +kernel
theorem dX0_init_21 : decode cX0_init 21 = .ok (.bipush 10, 2) := by decide +kernel
theorem dX0_init_23 : decode cX0_init 23 = .ok (.newarray .int, 2) := by decide +kernel
theorem dX0_init_25 : decode cX0_init 25 = .ok (.putfield 18, 3) := by decide +kernel
theorem dX0_init_28 : decode cX0_init 28 = .ok (.return_, 1) := by decide +kernel
theorem dX0_hearAll_0 : decode cX0_hearAll 0 = .ok (.iconst 0, 1) := by decide +kernel
theorem dX0_hearAll_1 : decode cX0_hearAll 1 = .ok (.istore_n 2, 1) := by decide +kernel
theorem dX0_hearAll_2 : decode cX0_hearAll 2 = .ok (.iload_n 2, 1) := by decide +kernel
theorem dX0_hearAll_3 : decode cX0_hearAll 3 = .ok (.aload_n 1, 1) := by decide +kernel
theorem dX0_hearAll_4 : decode cX0_hearAll 4 = .ok (.getfield 21, 3) := by decide +kernel
theorem dX0_hearAll_7 : decode cX0_hearAll 7 = .ok (.if_icmp .ge 16, 3) := by decide +kernel
theorem dX0_hearAll_10 : decode cX0_hearAll 10 = .ok (.aload_n 0, 1) := by decide +kernel
theorem dX0_hearAll_11 : decode cX0_hearAll 11 = .ok (.aload_n 1, 1) := by decide +kernel
theorem dX0_hearAll_12 : decode cX0_hearAll 12 = .ok (.iload_n 2, 1) := by decide +kernel
theorem dX0_hearAll_13 : decode cX0_hearAll 13 = .ok (.iconst 0, 1) := by decide +kernel
theorem dX0_hearAll_14 : decode cX0_hearAll 14 = .ok (.invokevirtual 27, 3) := by decide +kernel
theorem dX0_hearAll_17 : decode cX0_hearAll 17 = .ok (.iinc 2 1, 3) := by decide +kernel
theorem dX0_hearAll_20 : decode cX0_hearAll 20 = .ok (.goto (-18), 3) := by decide +kernel
theorem dX0_hearAll_23 : decode cX0_hearAll 23 = .ok (.return_, 1) := by decide +kernel
theorem dX0_hear_0 : decode cX0_hear 0 = .ok (.iconst 0, 1) := by decide +kernel
theorem dX0_hear_1 : decode cX0_hear 1 = .ok (.istore 4, 2) := by decide +kernel
theorem dX0_hear_3 : decode cX0_hear 3 = .ok (.iload 4, 2) := by decide +kernel
theorem dX0_hear_5 : decode cX0_hear 5 = .ok (.bipush 6, 2) := by decide +kernel
theorem dX0_hear_7 : decode cX0_hear 7 = .ok (.if_icmp .ge 31, 3) := by decide +kernel
theorem dX0_hear_10 : decode cX0_hear 10 = .ok (.aload_n 0, 1) := by decide +kernel
theorem dX0_hear_11 : decode cX0_hear 11 = .ok (.getfield 9, 3) := by decide +kernel
theorem dX0_hear_14 : decode cX0_hear 14 = .ok (.iload_n 2, 1) := by decide +kernel
theorem dX0_hear_15 : decode cX0_hear 15 = .ok (.bipush 6, 2) := by decide +kernel
theorem dX0_hear_17 : decode cX0_hear 17 = .ok (.imul, 1) := by decide +kernel
theorem dX0_hear_18 : decode cX0_hear 18 = .ok (.iload 4, 2) := by decide +kernel
theorem dX0_hear_20 : decode cX0_hear 20 = .ok (.iadd, 1) := by decide +kernel
theorem dX0_hear_21 : decode cX0_hear 21 = .ok (.aload_n 1, 1) := by decide +kernel
theorem dX0_hear_22 : decode cX0_hear 22 = .ok (.iload_n 2, 1) := by decide +kernel
theorem dX0_hear_23 : decode cX0_hear 23 = .ok (.iload 4, 2) := by decide +kernel
theorem dX0_hear_25 : decode cX0_hear 25 = .ok (.iload_n 3, 1) := by decide +kernel
theorem dX0_hear_26 : decode cX0_hear 26 = .ok (.invokestatic 31, 3) := by decide +kernel
theorem dX0_hear_29 : decode cX0_hear 29 = .ok (.invokestatic 37, 3) := by decide +kernel
theorem dX0_hear_32 : decode cX0_hear 32 = .ok (.iinc 4 1, 3) := by decide +kernel
theorem dX0_hear_35 : decode cX0_hear 35 = .ok (.goto (-32), 3) := by decide +kernel
theorem dX0_hear_38 : decode cX0_hear 38 = .ok (.iconst 0, 1) := by decide +kernel
theorem dX0_hear_39 : decode cX0_hear 39 = .ok (.istore 4, 2) := by decide +kernel
theorem dX0_hear_41 : decode cX0_hear 41 = .ok (.iconst 0, 1) := by decide +kernel
theorem dX0_hear_42 : decode cX0_hear 42 = .ok (.istore 5, 2) := by decide +kernel
theorem dX0_hear_44 : decode cX0_hear 44 = .ok (.iload 5, 2) := by decide +kernel
theorem dX0_hear_46 : decode cX0_hear 46 = .ok (.aload_n 1, 1) := by decide +kernel
theorem dX0_hear_47 : decode cX0_hear 47 = .ok (.getfield 41, 3) := by decide +kernel
theorem dX0_hear_50 : decode cX0_hear 50 = .ok (.if_icmp .ge 42, 3) := by decide +kernel
theorem dX0_hear_53 : decode cX0_hear 53 = .ok (.aload_n 0, 1) := by decide +kernel
theorem dX0_hear_54 : decode cX0_hear 54 = .ok (.aload_n 1, 1) := by decide +kernel
theorem dX0_hear_55 : decode cX0_hear 55 = .ok (.iload_n 2, 1) := by decide +kernel
theorem dX0_hear_56 : decode cX0_hear 56 = .ok (.iload 5, 2) := by decide +kernel
theorem dX0_hear_58 : decode cX0_hear 58 = .ok (.invokevirtual 44, 3) := by decide +kernel
theorem dX0_hear_61 : decode cX0_hear 61 = .ok (.istore 6, 2) := by decide +kernel
theorem dX0_hear_63 : decode cX0_hear 63 = .ok (.aload_n 0, 1) := by decide +kernel
theorem dX0_hear_64 : decode cX0_hear 64 = .ok (.getfield 15, 3) := by decide +kernel
theorem dX0_hear_67 : decode cX0_hear 67 = .ok (.iload_n 2, 1) := by decide +kernel
theorem dX0_hear_68 : decode cX0_hear 68 = .ok (.bipush 6, 2) := by decide +kernel
theorem dX0_hear_70 : decode cX0_hear 70 = .ok (.imul, 1) := by decide +kernel
theorem dX0_hear_71 : decode cX0_hear 71 = .ok (.iload 5, 2) := by decide +kernel
theorem dX0_hear_73 : decode cX0_hear 73 = .ok (.iadd, 1) := by decide +kernel
theorem dX0_hear_74 : decode cX0_hear 74 = .ok (.iload 6, 2) := by decide +kernel
theorem dX0_hear_76 : decode cX0_hear 76 = .ok (.invokestatic 37, 3) := by decide +kernel
theorem dX0_hear_79 : decode cX0_hear 79 = .ok (.iload 4, 2) := by decide +kernel
theorem dX0_hear_81 : decode cX0_hear 81 = .ok (.iload 6, 2) := by decide +kernel
theorem dX0_hear_83 : decode cX0_hear 83 = .ok (.iadd, 1) := by decide +kernel
theorem dX0_hear_84 : decode cX0_hear 84 = .ok (.istore 4, 2) := by decide +kernel
theorem dX0_hear_86 : decode cX0_hear 86 = .ok (.iinc 5 1, 3) := by decide +kernel
theorem dX0_hear_89 : decode cX0_hear 89 = .ok (.goto (-45), 3) := by decide +kernel
theorem dX0_hear_92 : decode cX0_hear 92 = .ok (.aload_n 0, 1) := by decide +kernel
theorem dX0_hear_93 : decode cX0_hear 93 = .ok (.getfield 18, 3) := by decide +kernel
theorem dX0_hear_96 : decode cX0_hear 96 = .ok (.iload_n 2, 1) := by decide +kernel
theorem dX0_hear_97 : decode cX0_hear 97 = .ok (.iload 4, 2) := by decide +kernel
theorem dX0_hear_99 : decode cX0_hear 99 = .ok (.invokestatic 37, 3) := by decide +kernel
theorem dX0_hear_102 : decode cX0_hear 102 = .ok (.return_, 1) := by decide +kernel
theorem dX0_likenessOf_0 : decode cX0_likenessOf 0 = .ok (.iconst 0, 1) := by decide +kernel
theorem dX0_likenessOf_1 : decode cX0_likenessOf 1 = .ok (.istore 4, 2) := by decide +kernel
theorem dX0_likenessOf_3 : decode cX0_likenessOf 3 = .ok (.iconst 0, 1) := by decide +kernel
theorem dX0_likenessOf_4 : decode cX0_likenessOf 4 = .ok (.istore 5, 2) := by decide +kernel
theorem dX0_likenessOf_6 : decode cX0_likenessOf 6 = .ok (.iload 5, 2) := by decide +kernel
theorem dX0_likenessOf_8 : decode cX0_likenessOf 8 = .ok (.bipush 6, 2) := by decide +kernel
theorem dX0_likenessOf_10 : decode cX0_likenessOf 10 = .ok (.if_icmp .ge 39, 3) := by decide +kernel
theorem dX0_likenessOf_13 : decode cX0_likenessOf 13 = .ok (.iload 4, 2) := by decide +kernel
theorem dX0_likenessOf_15 : decode cX0_likenessOf 15 = .ok (.aload_n 0, 1) := by decide +kernel
theorem dX0_likenessOf_16 : decode cX0_likenessOf 16 = .ok (.iload_n 2, 1) := by decide +kernel
theorem dX0_likenessOf_17 : decode cX0_likenessOf 17 = .ok (.iload 5, 2) := by decide +kernel
theorem dX0_likenessOf_19 : decode cX0_likenessOf 19 = .ok (.invokevirtual 48, 3) := by decide +kernel
theorem dX0_likenessOf_22 : decode cX0_likenessOf 22 = .ok (.aload_n 1, 1) := by decide +kernel
theorem dX0_likenessOf_23 : decode cX0_likenessOf 23 = .ok (.getfield 52, 3) := by decide +kernel
theorem dX0_likenessOf_26 : decode cX0_likenessOf 26 = .ok (.iload_n 3, 1) := by decide +kernel
theorem dX0_likenessOf_27 : decode cX0_likenessOf 27 = .ok (.bipush 6, 2) := by decide +kernel
theorem dX0_likenessOf_29 : decode cX0_likenessOf 29 = .ok (.imul, 1) := by decide +kernel
theorem dX0_likenessOf_30 : decode cX0_likenessOf 30 = .ok (.iload 5, 2) := by decide +kernel
theorem dX0_likenessOf_32 : decode cX0_likenessOf 32 = .ok (.iadd, 1) := by decide +kernel
theorem dX0_likenessOf_33 : decode cX0_likenessOf 33 = .ok (.invokestatic 55, 3) := by decide +kernel
theorem dX0_likenessOf_36 : decode cX0_likenessOf 36 = .ok (.isub, 1) := by decide +kernel
theorem dX0_likenessOf_37 : decode cX0_likenessOf 37 = .ok (.invokestatic 59, 3) := by decide +kernel
theorem dX0_likenessOf_40 : decode cX0_likenessOf 40 = .ok (.iadd, 1) := by decide +kernel
theorem dX0_likenessOf_41 : decode cX0_likenessOf 41 = .ok (.istore 4, 2) := by decide +kernel
theorem dX0_likenessOf_43 : decode cX0_likenessOf 43 = .ok (.iinc 5 1, 3) := by decide +kernel
theorem dX0_likenessOf_46 : decode cX0_likenessOf 46 = .ok (.goto (-40), 3) := by decide +kernel
theorem dX0_likenessOf_49 : decode cX0_likenessOf 49 = .ok (.iconst 0, 1) := by decide +kernel
theorem dX0_likenessOf_50 : decode cX0_likenessOf 50 = .ok (.sipush 1000, 3) := by decide +kernel
theorem dX0_likenessOf_53 : decode cX0_likenessOf 53 = .ok (.iload 4, 2) := by decide +kernel
theorem dX0_likenessOf_55 : decode cX0_likenessOf 55 = .ok (.isub, 1) := by decide +kernel
theorem dX0_likenessOf_56 : decode cX0_likenessOf 56 = .ok (.invokestatic 65, 3) := by decide +kernel
theorem dX0_likenessOf_59 : decode cX0_likenessOf 59 = .ok (.ireturn, 1) := by decide +kernel
theorem dX0_loudOf_0 : decode cX0_loudOf 0 = .ok (.aload_n 0, 1) := by decide +kernel
theorem dX0_loudOf_1 : decode cX0_loudOf 1 = .ok (.getfield 9, 3) := by decide +kernel
theorem dX0_loudOf_4 : decode cX0_loudOf 4 = .ok (.iload_n 1, 1) := by decide +kernel
theorem dX0_loudOf_5 : decode cX0_loudOf 5 = .ok (.bipush 6, 2) := by decide +kernel
theorem dX0_loudOf_7 : decode cX0_loudOf 7 = .ok (.imul, 1) := by decide +kernel
theorem dX0_loudOf_8 : decode cX0_loudOf 8 = .ok (.iload_n 2, 1) := by decide +kernel
theorem dX0_loudOf_9 : decode cX0_loudOf 9 = .ok (.iadd, 1) := by decide +kernel
theorem dX0_loudOf_10 : decode cX0_loudOf 10 = .ok (.invokestatic 55, 3) := by decide +kernel
theorem dX0_loudOf_13 : decode cX0_loudOf 13 = .ok (.ireturn, 1) := by decide +kernel
theorem dX0_like_0 : decode cX0_like 0 = .ok (.aload_n 0, 1) := by decide +kernel
theorem dX0_like_1 : decode cX0_like 1 = .ok (.getfield 15, 3) := by decide +kernel
theorem dX0_like_4 : decode cX0_like 4 = .ok (.iload_n 1, 1) := by decide +kernel
theorem dX0_like_5 : decode cX0_like 5 = .ok (.bipush 6, 2) := by decide +kernel
theorem dX0_like_7 : decode cX0_like 7 = .ok (.imul, 1) := by decide +kernel
theorem dX0_like_8 : decode cX0_like 8 = .ok (.iload_n 2, 1) := by decide +kernel
theorem dX0_like_9 : decode cX0_like 9 = .ok (.iadd, 1) := by decide +kernel
theorem dX0_like_10 : decode cX0_like 10 = .ok (.invokestatic 55, 3) := by decide +kernel
theorem dX0_like_13 : decode cX0_like 13 = .ok (.ireturn, 1) := by decide +kernel
theorem dX0_total_0 : decode cX0_total 0 = .ok (.aload_n 0, 1) := by decide +kernel
theorem dX0_total_1 : decode cX0_total 1 = .ok (.getfield 18, 3) := by decide +kernel
theorem dX0_total_4 : decode cX0_total 4 = .ok (.iload_n 1, 1) := by decide +kernel
theorem dX0_total_5 : decode cX0_total 5 = .ok (.invokestatic 55, 3) := by decide +kernel
theorem dX0_total_8 : decode cX0_total 8 = .ok (.ireturn, 1) := by decide +kernel
theorem dX0_bonus_0 : decode cX0_bonus 0 = .ok (.aload_n 0, 1) := by decide +kernel
theorem dX0_bonus_1 : decode cX0_bonus 1 = .ok (.getfield 68, 3) := by decide +kernel
theorem dX0_bonus_4 : decode cX0_bonus 4 = .ok (.iconst 1, 1) := by decide +kernel
theorem dX0_bonus_5 : decode cX0_bonus 5 = .ok (.invokestatic 55, 3) := by decide +kernel
theorem dX0_bonus_8 : decode cX0_bonus 8 = .ok (.istore_n 2, 1) := by decide +kernel
theorem dX0_bonus_9 : decode cX0_bonus 9 = .ok (.iload_n 2, 1) := by decide +kernel
theorem dX0_bonus_10 : decode cX0_bonus 10 = .ok (.iconst 1, 1) := by decide +kernel
theorem dX0_bonus_11 : decode cX0_bonus 11 = .ok (.if_icmp .lt 12, 3) := by decide +kernel
theorem dX0_bonus_14 : decode cX0_bonus 14 = .ok (.iload_n 1, 1) := by decide +kernel
theorem dX0_bonus_15 : decode cX0_bonus 15 = .ok (.ifCond .lt 8, 3) := by decide +kernel
theorem dX0_bonus_18 : decode cX0_bonus 18 = .ok (.iload_n 1, 1) := by decide +kernel
theorem dX0_bonus_19 : decode cX0_bonus 19 = .ok (.iload_n 2, 1) := by decide +kernel
theorem dX0_bonus_20 : decode cX0_bonus 20 = .ok (.if_icmp .lt 5, 3) := by decide +kernel
theorem dX0_bonus_23 : decode cX0_bonus 23 = .ok (.iconst 0, 1) := by decide +kernel
theorem dX0_bonus_24 : decode cX0_bonus 24 = .ok (.ireturn, 1) := by decide +kernel
theorem dX0_bonus_25 : decode cX0_bonus 25 = .ok (.aload_n 0, 1) := by decide +kernel
theorem dX0_bonus_26 : decode cX0_bonus 26 = .ok (.getfield 68, 3) := by decide +kernel
theorem dX0_bonus_29 : decode cX0_bonus 29 = .ok (.iconst 0, 1) := by decide +kernel
theorem dX0_bonus_30 : decode cX0_bonus 30 = .ok (.invokestatic 55, 3) := by decide +kernel
theorem dX0_bonus_33 : decode cX0_bonus 33 = .ok (.iload_n 2, 1) := by decide +kernel
theorem dX0_bonus_34 : decode cX0_bonus 34 = .ok (.iload_n 1, 1) := by decide +kernel
theorem dX0_bonus_35 : decode cX0_bonus 35 = .ok (.isub, 1) := by decide +kernel
theorem dX0_bonus_36 : decode cX0_bonus 36 = .ok (.imul, 1) := by decide +kernel
theorem dX0_bonus_37 : decode cX0_bonus 37 = .ok (.iload_n 2, 1) := by decide +kernel
theorem dX0_bonus_38 : decode cX0_bonus 38 = .ok (.idiv, 1) := by decide +kernel
theorem dX0_bonus_39 : decode cX0_bonus 39 = .ok (.ireturn, 1) := by decide +kernel
theorem dX0_latest_0 : decode cX0_latest 0 = .ok (.bipush 9, 2) := by decide +kernel
theorem dX0_latest_2 : decode cX0_latest 2 = .ok (.istore 6, 2) := by decide +kernel
theorem dX0_latest_4 : decode cX0_latest 4 = .ok (.iload 6, 2) := by decide +kernel
theorem dX0_latest_6 : decode cX0_latest 6 = .ok (.ifCond .lt 46, 3) := by decide +kernel
theorem dX0_latest_9 : decode cX0_latest 9 = .ok (.aload_n 1, 1) := by decide +kernel
theorem dX0_latest_10 : decode cX0_latest 10 = .ok (.iload 6, 2) := by decide +kernel
theorem dX0_latest_12 : decode cX0_latest 12 = .ok (.invokestatic 71, 3) := by decide +kernel
theorem dX0_latest_15 : decode cX0_latest 15 = .ok (.istore 7, 2) := by decide +kernel
theorem dX0_latest_17 : decode cX0_latest 17 = .ok (.aload_n 0, 1) := by decide +kernel
theorem dX0_latest_18 : decode cX0_latest 18 = .ok (.iload_n 2, 1) := by decide +kernel
theorem dX0_latest_19 : decode cX0_latest 19 = .ok (.iload_n 3, 1) := by decide +kernel
theorem dX0_latest_20 : decode cX0_latest 20 = .ok (.invokevirtual 75, 3) := by decide +kernel
theorem dX0_latest_23 : decode cX0_latest 23 = .ok (.iload 7, 2) := by decide +kernel
theorem dX0_latest_25 : decode cX0_latest 25 = .ok (.iadd, 1) := by decide +kernel
theorem dX0_latest_26 : decode cX0_latest 26 = .ok (.iload 5, 2) := by decide +kernel
theorem dX0_latest_28 : decode cX0_latest 28 = .ok (.imul, 1) := by decide +kernel
theorem dX0_latest_29 : decode cX0_latest 29 = .ok (.iload 4, 2) := by decide +kernel
theorem dX0_latest_31 : decode cX0_latest 31 = .ok (.aload_n 0, 1) := by decide +kernel
theorem dX0_latest_32 : decode cX0_latest 32 = .ok (.iload_n 2, 1) := by decide +kernel
theorem dX0_latest_33 : decode cX0_latest 33 = .ok (.invokevirtual 78, 3) := by decide +kernel
theorem dX0_latest_36 : decode cX0_latest 36 = .ok (.iload 7, 2) := by decide +kernel
theorem dX0_latest_38 : decode cX0_latest 38 = .ok (.iadd, 1) := by decide +kernel
theorem dX0_latest_39 : decode cX0_latest 39 = .ok (.imul, 1) := by decide +kernel
theorem dX0_latest_40 : decode cX0_latest 40 = .ok (.if_icmp .lt 6, 3) := by decide +kernel
theorem dX0_latest_43 : decode cX0_latest 43 = .ok (.iload 6, 2) := by decide +kernel
theorem dX0_latest_45 : decode cX0_latest 45 = .ok (.ireturn, 1) := by decide +kernel
theorem dX0_latest_46 : decode cX0_latest 46 = .ok (.iinc 6 (-1), 3) := by decide +kernel
theorem dX0_latest_49 : decode cX0_latest 49 = .ok (.goto (-45), 3) := by decide +kernel
theorem dX0_latest_52 : decode cX0_latest 52 = .ok (.iconst (-1), 1) := by decide +kernel
theorem dX0_latest_53 : decode cX0_latest 53 = .ok (.ireturn, 1) := by decide +kernel
theorem dX0_isTruer_0 : decode cX0_isTruer 0 = .ok (.aload_n 0, 1) := by decide +kernel
theorem dX0_isTruer_1 : decode cX0_isTruer 1 = .ok (.iload_n 2, 1) := by decide +kernel
theorem dX0_isTruer_2 : decode cX0_isTruer 2 = .ok (.iload_n 1, 1) := by decide +kernel
theorem dX0_isTruer_3 : decode cX0_isTruer 3 = .ok (.invokevirtual 75, 3) := by decide +kernel
theorem dX0_isTruer_6 : decode cX0_isTruer 6 = .ok (.iconst 1, 1) := by decide +kernel
theorem dX0_isTruer_7 : decode cX0_isTruer 7 = .ok (.aload_n 0, 1) := by decide +kernel
theorem dX0_isTruer_8 : decode cX0_isTruer 8 = .ok (.iload_n 3, 1) := by decide +kernel
theorem dX0_isTruer_9 : decode cX0_isTruer 9 = .ok (.invokevirtual 78, 3) := by decide +kernel
theorem dX0_isTruer_12 : decode cX0_isTruer 12 = .ok (.invokestatic 65, 3) := by decide +kernel
theorem dX0_isTruer_15 : decode cX0_isTruer 15 = .ok (.imul, 1) := by decide +kernel
theorem dX0_isTruer_16 : decode cX0_isTruer 16 = .ok (.aload_n 0, 1) := by decide +kernel
theorem dX0_isTruer_17 : decode cX0_isTruer 17 = .ok (.iload_n 3, 1) := by decide +kernel
theorem dX0_isTruer_18 : decode cX0_isTruer 18 = .ok (.iload_n 1, 1) := by decide +kernel
theorem dX0_isTruer_19 : decode cX0_isTruer 19 = .ok (.invokevirtual 75, 3) := by decide +kernel
theorem dX0_isTruer_22 : decode cX0_isTruer 22 = .ok (.iconst 1, 1) := by decide +kernel
theorem dX0_isTruer_23 : decode cX0_isTruer 23 = .ok (.aload_n 0, 1) := by decide +kernel
theorem dX0_isTruer_24 : decode cX0_isTruer 24 = .ok (.iload_n 2, 1) := by decide +kernel
theorem dX0_isTruer_25 : decode cX0_isTruer 25 = .ok (.invokevirtual 78, 3) := by decide +kernel
theorem dX0_isTruer_28 : decode cX0_isTruer 28 = .ok (.invokestatic 65, 3) := by decide +kernel
theorem dX0_isTruer_31 : decode cX0_isTruer 31 = .ok (.imul, 1) := by decide +kernel
theorem dX0_isTruer_32 : decode cX0_isTruer 32 = .ok (.if_icmp .le 7, 3) := by decide +kernel
theorem dX0_isTruer_35 : decode cX0_isTruer 35 = .ok (.iconst 1, 1) := by decide +kernel
theorem dX0_isTruer_36 : decode cX0_isTruer 36 = .ok (.goto 4, 3) := by decide +kernel
theorem dX0_isTruer_39 : decode cX0_isTruer 39 = .ok (.iconst 0, 1) := by decide +kernel
theorem dX0_isTruer_40 : decode cX0_isTruer 40 = .ok (.ireturn, 1) := by decide +kernel
theorem dX0_bestFor_0 : decode cX0_bestFor 0 = .ok (.iconst (-1), 1) := by decide +kernel
theorem dX0_bestFor_1 : decode cX0_bestFor 1 = .ok (.istore_n 3, 1) := by decide +kernel
theorem dX0_bestFor_2 : decode cX0_bestFor 2 = .ok (.iconst 0, 1) := by decide +kernel
theorem dX0_bestFor_3 : decode cX0_bestFor 3 = .ok (.istore 4, 2) := by decide +kernel
theorem dX0_bestFor_5 : decode cX0_bestFor 5 = .ok (.iload 4, 2) := by decide +kernel
theorem dX0_bestFor_7 : decode cX0_bestFor 7 = .ok (.aload_n 1, 1) := by decide +kernel
theorem dX0_bestFor_8 : decode cX0_bestFor 8 = .ok (.getfield 21, 3) := by decide +kernel
theorem dX0_bestFor_11 : decode cX0_bestFor 11 = .ok (.if_icmp .ge 28, 3) := by decide +kernel
theorem dX0_bestFor_14 : decode cX0_bestFor 14 = .ok (.iload_n 3, 1) := by decide +kernel
theorem dX0_bestFor_15 : decode cX0_bestFor 15 = .ok (.iconst (-1), 1) := by decide +kernel
theorem dX0_bestFor_16 : decode cX0_bestFor 16 = .ok (.if_icmp .eq 14, 3) := by decide +kernel
theorem dX0_bestFor_19 : decode cX0_bestFor 19 = .ok (.aload_n 0, 1) := by decide +kernel
theorem dX0_bestFor_20 : decode cX0_bestFor 20 = .ok (.iload_n 2, 1) := by decide +kernel
theorem dX0_bestFor_21 : decode cX0_bestFor 21 = .ok (.iload 4, 2) := by decide +kernel
theorem dX0_bestFor_23 : decode cX0_bestFor 23 = .ok (.iload_n 3, 1) := by decide +kernel
theorem dX0_bestFor_24 : decode cX0_bestFor 24 = .ok (.invokevirtual 81, 3) := by decide +kernel
theorem dX0_bestFor_27 : decode cX0_bestFor 27 = .ok (.ifCond .eq 6, 3) := by decide +kernel
theorem dX0_bestFor_30 : decode cX0_bestFor 30 = .ok (.iload 4, 2) := by decide +kernel
theorem dX0_bestFor_32 : decode cX0_bestFor 32 = .ok (.istore_n 3, 1) := by decide +kernel
theorem dX0_bestFor_33 : decode cX0_bestFor 33 = .ok (.iinc 4 1, 3) := by decide +kernel
theorem dX0_bestFor_36 : decode cX0_bestFor 36 = .ok (.goto (-31), 3) := by decide +kernel
theorem dX0_bestFor_39 : decode cX0_bestFor 39 = .ok (.iload_n 3, 1) := by decide +kernel
theorem dX0_bestFor_40 : decode cX0_bestFor 40 = .ok (.ireturn, 1) := by decide +kernel
theorem dX0_thousandths_0 : decode cX0_thousandths 0 = .ok (.aload_n 0, 1) := by decide +kernel
theorem dX0_thousandths_1 : decode cX0_thousandths 1 = .ok (.iload_n 1, 1) := by decide +kernel
theorem dX0_thousandths_2 : decode cX0_thousandths 2 = .ok (.invokevirtual 78, 3) := by decide +kernel
theorem dX0_thousandths_5 : decode cX0_thousandths 5 = .ok (.istore_n 3, 1) := by decide +kernel
theorem dX0_thousandths_6 : decode cX0_thousandths 6 = .ok (.iload_n 3, 1) := by decide +kernel
theorem dX0_thousandths_7 : decode cX0_thousandths 7 = .ok (.iconst 1, 1) := by decide +kernel
theorem dX0_thousandths_8 : decode cX0_thousandths 8 = .ok (.if_icmp .ge 7, 3) := by decide +kernel
theorem dX0_thousandths_11 : decode cX0_thousandths 11 = .ok (.iconst 0, 1) := by decide +kernel
theorem dX0_thousandths_12 : decode cX0_thousandths 12 = .ok (.goto 15, 3) := by decide +kernel
theorem dX0_thousandths_15 : decode cX0_thousandths 15 = .ok (.sipush 1000, 3) := by decide +kernel
theorem dX0_thousandths_18 : decode cX0_thousandths 18 = .ok (.aload_n 0, 1) := by decide +kernel
theorem dX0_thousandths_19 : decode cX0_thousandths 19 = .ok (.iload_n 1, 1) := by decide +kernel
theorem dX0_thousandths_20 : decode cX0_thousandths 20 = .ok (.iload_n 2, 1) := by decide +kernel
theorem dX0_thousandths_21 : decode cX0_thousandths 21 = .ok (.invokevirtual 75, 3) := by decide +kernel
theorem dX0_thousandths_24 : decode cX0_thousandths 24 = .ok (.imul, 1) := by decide +kernel
theorem dX0_thousandths_25 : decode cX0_thousandths 25 = .ok (.iload_n 3, 1) := by decide +kernel
theorem dX0_thousandths_26 : decode cX0_thousandths 26 = .ok (.idiv, 1) := by decide +kernel
theorem dX0_thousandths_27 : decode cX0_thousandths 27 = .ok (.ireturn, 1) := by decide +kernel
theorem dX0_service_0 : decode cX0_service 0 = .ok (.iconst 0, 1) := by decide +kernel
theorem dX0_service_1 : decode cX0_service 1 = .ok (.istore 4, 2) := by decide +kernel
theorem dX0_service_3 : decode cX0_service 3 = .ok (.iconst 0, 1) := by decide +kernel
theorem dX0_service_4 : decode cX0_service 4 = .ok (.istore 5, 2) := by decide +kernel
theorem dX0_service_6 : decode cX0_service 6 = .ok (.iload 5, 2) := by decide +kernel
theorem dX0_service_8 : decode cX0_service 8 = .ok (.aload_n 1, 1) := by decide +kernel
theorem dX0_service_9 : decode cX0_service 9 = .ok (.getfield 21, 3) := by decide +kernel
theorem dX0_service_12 : decode cX0_service 12 = .ok (.if_icmp .ge 33, 3) := by decide +kernel
theorem dX0_service_15 : decode cX0_service 15 = .ok (.iload_n 2, 1) := by decide +kernel
theorem dX0_service_16 : decode cX0_service 16 = .ok (.iload 5, 2) := by decide +kernel
theorem dX0_service_18 : decode cX0_service 18 = .ok (.ishr, 1) := by decide +kernel
theorem dX0_service_19 : decode cX0_service 19 = .ok (.iconst 1, 1) := by decide +kernel
theorem dX0_service_20 : decode cX0_service 20 = .ok (.iand, 1) := by decide +kernel
theorem dX0_service_21 : decode cX0_service 21 = .ok (.iconst 1, 1) := by decide +kernel
theorem dX0_service_22 : decode cX0_service 22 = .ok (.if_icmp .ne 17, 3) := by decide +kernel
theorem dX0_service_25 : decode cX0_service 25 = .ok (.iload 4, 2) := by decide +kernel
theorem dX0_service_27 : decode cX0_service 27 = .ok (.aload_n 0, 1) := by decide +kernel
theorem dX0_service_28 : decode cX0_service 28 = .ok (.iload 5, 2) := by decide +kernel
theorem dX0_service_30 : decode cX0_service 30 = .ok (.iload_n 3, 1) := by decide +kernel
theorem dX0_service_31 : decode cX0_service 31 = .ok (.invokevirtual 85, 3) := by decide +kernel
theorem dX0_service_34 : decode cX0_service 34 = .ok (.invokestatic 65, 3) := by decide +kernel
theorem dX0_service_37 : decode cX0_service 37 = .ok (.istore 4, 2) := by decide +kernel
theorem dX0_service_39 : decode cX0_service 39 = .ok (.iinc 5 1, 3) := by decide +kernel
theorem dX0_service_42 : decode cX0_service 42 = .ok (.goto (-36), 3) := by decide +kernel
theorem dX0_service_45 : decode cX0_service 45 = .ok (.iload 4, 2) := by decide +kernel
theorem dX0_service_47 : decode cX0_service 47 = .ok (.ireturn, 1) := by decide +kernel
theorem dX0_worthiest_0 : decode cX0_worthiest 0 = .ok (.iconst 0, 1) := by decide +kernel
theorem dX0_worthiest_1 : decode cX0_worthiest 1 = .ok (.istore_n 3, 1) := by decide +kernel
theorem dX0_worthiest_2 : decode cX0_worthiest 2 = .ok (.iconst (-1), 1) := by decide +kernel
theorem dX0_worthiest_3 : decode cX0_worthiest 3 = .ok (.istore 4, 2) := by decide +kernel
theorem dX0_worthiest_5 : decode cX0_worthiest 5 = .ok (.iconst 0, 1) := by decide +kernel
theorem dX0_worthiest_6 : decode cX0_worthiest 6 = .ok (.istore 5, 2) := by decide +kernel
theorem dX0_worthiest_8 : decode cX0_worthiest 8 = .ok (.iload 5, 2) := by decide +kernel
theorem dX0_worthiest_10 : decode cX0_worthiest 10 = .ok (.iconst 1, 1) := by decide +kernel
theorem dX0_worthiest_11 : decode cX0_worthiest 11 = .ok (.aload_n 1, 1) := by decide +kernel
theorem dX0_worthiest_12 : decode cX0_worthiest 12 = .ok (.getfield 21, 3) := by decide +kernel
theorem dX0_worthiest_15 : decode cX0_worthiest 15 = .ok (.ishl, 1) := by decide +kernel
theorem dX0_worthiest_16 : decode cX0_worthiest 16 = .ok (.if_icmp .ge 41, 3) := by decide +kernel
theorem dX0_worthiest_19 : decode cX0_worthiest 19 = .ok (.iload 5, 2) := by decide +kernel
theorem dX0_worthiest_21 : decode cX0_worthiest 21 = .ok (.invokestatic 88, 3) := by decide +kernel
theorem dX0_worthiest_24 : decode cX0_worthiest 24 = .ok (.iload_n 2, 1) := by decide +kernel
theorem dX0_worthiest_25 : decode cX0_worthiest 25 = .ok (.if_icmp .ne 26, 3) := by decide +kernel
theorem dX0_worthiest_28 : decode cX0_worthiest 28 = .ok (.aload_n 0, 1) := by decide +kernel
theorem dX0_worthiest_29 : decode cX0_worthiest 29 = .ok (.aload_n 1, 1) := by decide +kernel
theorem dX0_worthiest_30 : decode cX0_worthiest 30 = .ok (.iload 5, 2) := by decide +kernel
theorem dX0_worthiest_32 : decode cX0_worthiest 32 = .ok (.invokevirtual 93, 3) := by decide +kernel
theorem dX0_worthiest_35 : decode cX0_worthiest 35 = .ok (.istore 6, 2) := by decide +kernel
theorem dX0_worthiest_37 : decode cX0_worthiest 37 = .ok (.iload 6, 2) := by decide +kernel
theorem dX0_worthiest_39 : decode cX0_worthiest 39 = .ok (.iload 4, 2) := by decide +kernel
theorem dX0_worthiest_41 : decode cX0_worthiest 41 = .ok (.if_icmp .le 10, 3) := by decide +kernel
theorem dX0_worthiest_44 : decode cX0_worthiest 44 = .ok (.iload 5, 2) := by decide +kernel
theorem dX0_worthiest_46 : decode cX0_worthiest 46 = .ok (.istore_n 3, 1) := by decide +kernel
theorem dX0_worthiest_47 : decode cX0_worthiest 47 = .ok (.iload 6, 2) := by decide +kernel
theorem dX0_worthiest_49 : decode cX0_worthiest 49 = .ok (.istore 4, 2) := by decide +kernel
theorem dX0_worthiest_51 : decode cX0_worthiest 51 = .ok (.iinc 5 1, 3) := by decide +kernel
theorem dX0_worthiest_54 : decode cX0_worthiest 54 = .ok (.goto (-46), 3) := by decide +kernel
theorem dX0_worthiest_57 : decode cX0_worthiest 57 = .ok (.iload_n 3, 1) := by decide +kernel
theorem dX0_worthiest_58 : decode cX0_worthiest 58 = .ok (.ireturn, 1) := by decide +kernel
theorem dX0_worthOf_0 : decode cX0_worthOf 0 = .ok (.iconst 0, 1) := by decide +kernel
theorem dX0_worthOf_1 : decode cX0_worthOf 1 = .ok (.istore_n 3, 1) := by decide +kernel
theorem dX0_worthOf_2 : decode cX0_worthOf 2 = .ok (.iconst 0, 1) := by decide +kernel
theorem dX0_worthOf_3 : decode cX0_worthOf 3 = .ok (.istore 4, 2) := by decide +kernel
theorem dX0_worthOf_5 : decode cX0_worthOf 5 = .ok (.iload 4, 2) := by decide +kernel
theorem dX0_worthOf_7 : decode cX0_worthOf 7 = .ok (.aload_n 1, 1) := by decide +kernel
theorem dX0_worthOf_8 : decode cX0_worthOf 8 = .ok (.getfield 41, 3) := by decide +kernel
theorem dX0_worthOf_11 : decode cX0_worthOf 11 = .ok (.if_icmp .ge 30, 3) := by decide +kernel
theorem dX0_worthOf_14 : decode cX0_worthOf 14 = .ok (.iload_n 3, 1) := by decide +kernel
theorem dX0_worthOf_15 : decode cX0_worthOf 15 = .ok (.aload_n 1, 1) := by decide +kernel
theorem dX0_worthOf_16 : decode cX0_worthOf 16 = .ok (.getfield 96, 3) := by decide +kernel
theorem dX0_worthOf_19 : decode cX0_worthOf 19 = .ok (.iload 4, 2) := by decide +kernel
theorem dX0_worthOf_21 : decode cX0_worthOf 21 = .ok (.invokestatic 55, 3) := by decide +kernel
theorem dX0_worthOf_24 : decode cX0_worthOf 24 = .ok (.aload_n 0, 1) := by decide +kernel
theorem dX0_worthOf_25 : decode cX0_worthOf 25 = .ok (.aload_n 1, 1) := by decide +kernel
theorem dX0_worthOf_26 : decode cX0_worthOf 26 = .ok (.iload_n 2, 1) := by decide +kernel
theorem dX0_worthOf_27 : decode cX0_worthOf 27 = .ok (.iload 4, 2) := by decide +kernel
theorem dX0_worthOf_29 : decode cX0_worthOf 29 = .ok (.invokevirtual 99, 3) := by decide +kernel
theorem dX0_worthOf_32 : decode cX0_worthOf 32 = .ok (.imul, 1) := by decide +kernel
theorem dX0_worthOf_33 : decode cX0_worthOf 33 = .ok (.iadd, 1) := by decide +kernel
theorem dX0_worthOf_34 : decode cX0_worthOf 34 = .ok (.istore_n 3, 1) := by decide +kernel
theorem dX0_worthOf_35 : decode cX0_worthOf 35 = .ok (.iinc 4 1, 3) := by decide +kernel
theorem dX0_worthOf_38 : decode cX0_worthOf 38 = .ok (.goto (-33), 3) := by decide +kernel
theorem dX0_worthOf_41 : decode cX0_worthOf 41 = .ok (.iload_n 3, 1) := by decide +kernel
theorem dX0_worthOf_42 : decode cX0_worthOf 42 = .ok (.ireturn, 1) := by decide +kernel
theorem dX0_unclear_0 : decode cX0_unclear 0 = .ok (.iconst 0, 1) := by decide +kernel
theorem dX0_unclear_1 : decode cX0_unclear 1 = .ok (.istore_n 2, 1) := by decide +kernel
theorem dX0_unclear_2 : decode cX0_unclear 2 = .ok (.iconst 0, 1) := by decide +kernel
theorem dX0_unclear_3 : decode cX0_unclear 3 = .ok (.istore_n 3, 1) := by decide +kernel
theorem dX0_unclear_4 : decode cX0_unclear 4 = .ok (.iload_n 3, 1) := by decide +kernel
theorem dX0_unclear_5 : decode cX0_unclear 5 = .ok (.aload_n 1, 1) := by decide +kernel
theorem dX0_unclear_6 : decode cX0_unclear 6 = .ok (.getfield 41, 3) := by decide +kernel
theorem dX0_unclear_9 : decode cX0_unclear 9 = .ok (.if_icmp .ge 24, 3) := by decide +kernel
theorem dX0_unclear_12 : decode cX0_unclear 12 = .ok (.aload_n 0, 1) := by decide +kernel
theorem dX0_unclear_13 : decode cX0_unclear 13 = .ok (.aload_n 1, 1) := by decide +kernel
theorem dX0_unclear_14 : decode cX0_unclear 14 = .ok (.iload_n 3, 1) := by decide +kernel
theorem dX0_unclear_15 : decode cX0_unclear 15 = .ok (.invokevirtual 102, 3) := by decide +kernel
theorem dX0_unclear_18 : decode cX0_unclear 18 = .ok (.ifCond .ne 9, 3) := by decide +kernel
theorem dX0_unclear_21 : decode cX0_unclear 21 = .ok (.iload_n 2, 1) := by decide +kernel
theorem dX0_unclear_22 : decode cX0_unclear 22 = .ok (.iconst 1, 1) := by decide +kernel
theorem dX0_unclear_23 : decode cX0_unclear 23 = .ok (.iload_n 3, 1) := by decide +kernel
theorem dX0_unclear_24 : decode cX0_unclear 24 = .ok (.ishl, 1) := by decide +kernel
theorem dX0_unclear_25 : decode cX0_unclear 25 = .ok (.ior, 1) := by decide +kernel
theorem dX0_unclear_26 : decode cX0_unclear 26 = .ok (.istore_n 2, 1) := by decide +kernel
theorem dX0_unclear_27 : decode cX0_unclear 27 = .ok (.iinc 3 1, 3) := by decide +kernel
theorem dX0_unclear_30 : decode cX0_unclear 30 = .ok (.goto (-26), 3) := by decide +kernel
theorem dX0_unclear_33 : decode cX0_unclear 33 = .ok (.iload_n 2, 1) := by decide +kernel
theorem dX0_unclear_34 : decode cX0_unclear 34 = .ok (.ireturn, 1) := by decide +kernel
theorem dX0_isClear_0 : decode cX0_isClear 0 = .ok (.aload_n 0, 1) := by decide +kernel
theorem dX0_isClear_1 : decode cX0_isClear 1 = .ok (.aload_n 1, 1) := by decide +kernel
theorem dX0_isClear_2 : decode cX0_isClear 2 = .ok (.iload_n 2, 1) := by decide +kernel
theorem dX0_isClear_3 : decode cX0_isClear 3 = .ok (.invokevirtual 106, 3) := by decide +kernel
theorem dX0_isClear_6 : decode cX0_isClear 6 = .ok (.istore_n 3, 1) := by decide +kernel
theorem dX0_isClear_7 : decode cX0_isClear 7 = .ok (.iload_n 3, 1) := by decide +kernel
theorem dX0_isClear_8 : decode cX0_isClear 8 = .ok (.iconst (-1), 1) := by decide +kernel
theorem dX0_isClear_9 : decode cX0_isClear 9 = .ok (.if_icmp .eq 12, 3) := by decide +kernel
theorem dX0_isClear_12 : decode cX0_isClear 12 = .ok (.aload_n 0, 1) := by decide +kernel
theorem dX0_isClear_13 : decode cX0_isClear 13 = .ok (.iload_n 3, 1) := by decide +kernel
theorem dX0_isClear_14 : decode cX0_isClear 14 = .ok (.invokevirtual 78, 3) := by decide +kernel
theorem dX0_isClear_17 : decode cX0_isClear 17 = .ok (.iconst 1, 1) := by decide +kernel
theorem dX0_isClear_18 : decode cX0_isClear 18 = .ok (.if_icmp .ge 5, 3) := by decide +kernel
theorem dX0_isClear_21 : decode cX0_isClear 21 = .ok (.iconst 0, 1) := by decide +kernel
theorem dX0_isClear_22 : decode cX0_isClear 22 = .ok (.ireturn, 1) := by decide +kernel
theorem dX0_isClear_23 : decode cX0_isClear 23 = .ok (.iconst 0, 1) := by decide +kernel
theorem dX0_isClear_24 : decode cX0_isClear 24 = .ok (.istore 4, 2) := by decide +kernel
theorem dX0_isClear_26 : decode cX0_isClear 26 = .ok (.iload 4, 2) := by decide +kernel
theorem dX0_isClear_28 : decode cX0_isClear 28 = .ok (.aload_n 1, 1) := by decide +kernel
theorem dX0_isClear_29 : decode cX0_isClear 29 = .ok (.getfield 41, 3) := by decide +kernel
theorem dX0_isClear_32 : decode cX0_isClear 32 = .ok (.if_icmp .ge 33, 3) := by decide +kernel
theorem dX0_isClear_35 : decode cX0_isClear 35 = .ok (.iload 4, 2) := by decide +kernel
theorem dX0_isClear_37 : decode cX0_isClear 37 = .ok (.iload_n 2, 1) := by decide +kernel
theorem dX0_isClear_38 : decode cX0_isClear 38 = .ok (.if_icmp .eq 21, 3) := by decide +kernel
theorem dX0_isClear_41 : decode cX0_isClear 41 = .ok (.aload_n 0, 1) := by decide +kernel
theorem dX0_isClear_42 : decode cX0_isClear 42 = .ok (.iload_n 3, 1) := by decide +kernel
theorem dX0_isClear_43 : decode cX0_isClear 43 = .ok (.iload 4, 2) := by decide +kernel
theorem dX0_isClear_45 : decode cX0_isClear 45 = .ok (.invokevirtual 75, 3) := by decide +kernel
theorem dX0_isClear_48 : decode cX0_isClear 48 = .ok (.aload_n 0, 1) := by decide +kernel
theorem dX0_isClear_49 : decode cX0_isClear 49 = .ok (.iload_n 3, 1) := by decide +kernel
theorem dX0_isClear_50 : decode cX0_isClear 50 = .ok (.iload_n 2, 1) := by decide +kernel
theorem dX0_isClear_51 : decode cX0_isClear 51 = .ok (.invokevirtual 75, 3) := by decide +kernel
theorem dX0_isClear_54 : decode cX0_isClear 54 = .ok (.if_icmp .lt 5, 3) := by decide +kernel
theorem dX0_isClear_57 : decode cX0_isClear 57 = .ok (.iconst 0, 1) := by decide +kernel
theorem dX0_isClear_58 : decode cX0_isClear 58 = .ok (.ireturn, 1) := by decide +kernel
theorem dX0_isClear_59 : decode cX0_isClear 59 = .ok (.iinc 4 1, 3) := by decide +kernel
theorem dX0_isClear_62 : decode cX0_isClear 62 = .ok (.goto (-36), 3) := by decide +kernel
theorem dX0_isClear_65 : decode cX0_isClear 65 = .ok (.iconst 1, 1) := by decide +kernel
theorem dX0_isClear_66 : decode cX0_isClear 66 = .ok (.ireturn, 1) := by decide +kernel
theorem dX0_nearestThree_0 : decode cX0_nearestThree 0 = .ok (.iconst 0, 1) := by decide +kernel
theorem dX0_nearestThree_1 : decode cX0_nearestThree 1 = .ok (.istore_n 3, 1) := by decide +kernel
theorem dX0_nearestThree_2 : decode cX0_nearestThree 2 = .ok (.ldc 109, 2) := by decide +kernel
theorem dX0_nearestThree_4 : decode cX0_nearestThree 4 = .ok (.istore 4, 2) := by decide +kernel
theorem dX0_nearestThree_6 : decode cX0_nearestThree 6 = .ok (.iconst 0, 1) := by decide +kernel
theorem dX0_nearestThree_7 : decode cX0_nearestThree 7 = .ok (.istore 5, 2) := by decide +kernel
theorem dX0_nearestThree_9 : decode cX0_nearestThree 9 = .ok (.iload 5, 2) := by decide +kernel
theorem dX0_nearestThree_11 : decode cX0_nearestThree 11 = .ok (.aload_n 1, 1) := by decide +kernel
theorem dX0_nearestThree_12 : decode cX0_nearestThree 12 = .ok (.getfield 21, 3) := by decide +kernel
theorem dX0_nearestThree_15 : decode cX0_nearestThree 15 = .ok (.if_icmp .ge 91, 3) := by decide +kernel
theorem dX0_nearestThree_18 : decode cX0_nearestThree 18 = .ok (.iload 5, 2) := by decide +kernel
theorem dX0_nearestThree_20 : decode cX0_nearestThree 20 = .ok (.iconst 1, 1) := by decide +kernel
theorem dX0_nearestThree_21 : decode cX0_nearestThree 21 = .ok (.iadd, 1) := by decide +kernel
theorem dX0_nearestThree_22 : decode cX0_nearestThree 22 = .ok (.istore 6, 2) := by decide +kernel
theorem dX0_nearestThree_24 : decode cX0_nearestThree 24 = .ok (.iload 6, 2) := by decide +kernel
theorem dX0_nearestThree_26 : decode cX0_nearestThree 26 = .ok (.aload_n 1, 1) := by decide +kernel
theorem dX0_nearestThree_27 : decode cX0_nearestThree 27 = .ok (.getfield 21, 3) := by decide +kernel
theorem dX0_nearestThree_30 : decode cX0_nearestThree 30 = .ok (.if_icmp .ge 70, 3) := by decide +kernel
theorem dX0_nearestThree_33 : decode cX0_nearestThree 33 = .ok (.iload 6, 2) := by decide +kernel
theorem dX0_nearestThree_35 : decode cX0_nearestThree 35 = .ok (.iconst 1, 1) := by decide +kernel
theorem dX0_nearestThree_36 : decode cX0_nearestThree 36 = .ok (.iadd, 1) := by decide +kernel
theorem dX0_nearestThree_37 : decode cX0_nearestThree 37 = .ok (.istore 7, 2) := by decide +kernel
theorem dX0_nearestThree_39 : decode cX0_nearestThree 39 = .ok (.iload 7, 2) := by decide +kernel
theorem dX0_nearestThree_41 : decode cX0_nearestThree 41 = .ok (.aload_n 1, 1) := by decide +kernel
theorem dX0_nearestThree_42 : decode cX0_nearestThree 42 = .ok (.getfield 21, 3) := by decide +kernel
theorem dX0_nearestThree_45 : decode cX0_nearestThree 45 = .ok (.if_icmp .ge 49, 3) := by decide +kernel
theorem dX0_nearestThree_48 : decode cX0_nearestThree 48 = .ok (.aload_n 0, 1) := by decide +kernel
theorem dX0_nearestThree_49 : decode cX0_nearestThree 49 = .ok (.aload_n 1, 1) := by decide +kernel
theorem dX0_nearestThree_50 : decode cX0_nearestThree 50 = .ok (.iload 5, 2) := by decide +kernel
theorem dX0_nearestThree_52 : decode cX0_nearestThree 52 = .ok (.iload 6, 2) := by decide +kernel
theorem dX0_nearestThree_54 : decode cX0_nearestThree 54 = .ok (.iload 7, 2) := by decide +kernel
theorem dX0_nearestThree_56 : decode cX0_nearestThree 56 = .ok (.iload_n 2, 1) := by decide +kernel
theorem dX0_nearestThree_57 : decode cX0_nearestThree 57 = .ok (.invokevirtual 110, 3) := by decide +kernel
theorem dX0_nearestThree_60 : decode cX0_nearestThree 60 = .ok (.istore 8, 2) := by decide +kernel
theorem dX0_nearestThree_62 : decode cX0_nearestThree 62 = .ok (.iload 8, 2) := by decide +kernel
theorem dX0_nearestThree_64 : decode cX0_nearestThree 64 = .ok (.iload 4, 2) := by decide +kernel
theorem dX0_nearestThree_66 : decode cX0_nearestThree 66 = .ok (.if_icmp .ge 22, 3) := by decide +kernel
theorem dX0_nearestThree_69 : decode cX0_nearestThree 69 = .ok (.iload 8, 2) := by decide +kernel
theorem dX0_nearestThree_71 : decode cX0_nearestThree 71 = .ok (.istore 4, 2) := by decide +kernel
theorem dX0_nearestThree_73 : decode cX0_nearestThree 73 = .ok (.bipush 100, 2) := by decide +kernel
theorem dX0_nearestThree_75 : decode cX0_nearestThree 75 = .ok (.iload 5, 2) := by decide +kernel
theorem dX0_nearestThree_77 : decode cX0_nearestThree 77 = .ok (.imul, 1) := by decide +kernel
theorem dX0_nearestThree_78 : decode cX0_nearestThree 78 = .ok (.bipush 10, 2) := by decide +kernel
theorem dX0_nearestThree_80 : decode cX0_nearestThree 80 = .ok (.iload 6, 2) := by decide +kernel
theorem dX0_nearestThree_82 : decode cX0_nearestThree 82 = .ok (.imul, 1) := by decide +kernel
theorem dX0_nearestThree_83 : decode cX0_nearestThree 83 = .ok (.iadd, 1) := by decide +kernel
theorem dX0_nearestThree_84 : decode cX0_nearestThree 84 = .ok (.iload 7, 2) := by decide +kernel
theorem dX0_nearestThree_86 : decode cX0_nearestThree 86 = .ok (.iadd, 1) := by decide +kernel
theorem dX0_nearestThree_87 : decode cX0_nearestThree 87 = .ok (.istore_n 3, 1) := by decide +kernel
theorem dX0_nearestThree_88 : decode cX0_nearestThree 88 = .ok (.iinc 7 1, 3) := by decide +kernel
theorem dX0_nearestThree_91 : decode cX0_nearestThree 91 = .ok (.goto (-52), 3) := by decide +kernel
theorem dX0_nearestThree_94 : decode cX0_nearestThree 94 = .ok (.iinc 6 1, 3) := by decide +kernel
theorem dX0_nearestThree_97 : decode cX0_nearestThree 97 = .ok (.goto (-73), 3) := by decide +kernel
theorem dX0_nearestThree_100 : decode cX0_nearestThree 100 = .ok (.iinc 5 1, 3) := by decide +kernel
theorem dX0_nearestThree_103 : decode cX0_nearestThree 103 = .ok (.goto (-94), 3) := by decide +kernel
theorem dX0_nearestThree_106 : decode cX0_nearestThree 106 = .ok (.iload_n 3, 1) := by decide +kernel
theorem dX0_nearestThree_107 : decode cX0_nearestThree 107 = .ok (.ireturn, 1) := by decide +kernel
theorem dX0_farOfThree_0 : decode cX0_farOfThree 0 = .ok (.iconst 0, 1) := by decide +kernel
theorem dX0_farOfThree_1 : decode cX0_farOfThree 1 = .ok (.istore 6, 2) := by decide +kernel
theorem dX0_farOfThree_3 : decode cX0_farOfThree 3 = .ok (.iconst 0, 1) := by decide +kernel
theorem dX0_farOfThree_4 : decode cX0_farOfThree 4 = .ok (.istore 7, 2) := by decide +kernel
theorem dX0_farOfThree_6 : decode cX0_farOfThree 6 = .ok (.iload 7, 2) := by decide +kernel
theorem dX0_farOfThree_8 : decode cX0_farOfThree 8 = .ok (.bipush 6, 2) := by decide +kernel
theorem dX0_farOfThree_10 : decode cX0_farOfThree 10 = .ok (.if_icmp .ge 67, 3) := by decide +kernel
theorem dX0_farOfThree_13 : decode cX0_farOfThree 13 = .ok (.aload_n 0, 1) := by decide +kernel
theorem dX0_farOfThree_14 : decode cX0_farOfThree 14 = .ok (.iload_n 2, 1) := by decide +kernel
theorem dX0_farOfThree_15 : decode cX0_farOfThree 15 = .ok (.iload 7, 2) := by decide +kernel
theorem dX0_farOfThree_17 : decode cX0_farOfThree 17 = .ok (.invokevirtual 48, 3) := by decide +kernel
theorem dX0_farOfThree_20 : decode cX0_farOfThree 20 = .ok (.aload_n 0, 1) := by decide +kernel
theorem dX0_farOfThree_21 : decode cX0_farOfThree 21 = .ok (.iload_n 3, 1) := by decide +kernel
theorem dX0_farOfThree_22 : decode cX0_farOfThree 22 = .ok (.iload 7, 2) := by decide +kernel
theorem dX0_farOfThree_24 : decode cX0_farOfThree 24 = .ok (.invokevirtual 48, 3) := by decide +kernel
theorem dX0_farOfThree_27 : decode cX0_farOfThree 27 = .ok (.iadd, 1) := by decide +kernel
theorem dX0_farOfThree_28 : decode cX0_farOfThree 28 = .ok (.aload_n 0, 1) := by decide +kernel
theorem dX0_farOfThree_29 : decode cX0_farOfThree 29 = .ok (.iload 4, 2) := by decide +kernel
theorem dX0_farOfThree_31 : decode cX0_farOfThree 31 = .ok (.iload 7, 2) := by decide +kernel
theorem dX0_farOfThree_33 : decode cX0_farOfThree 33 = .ok (.invokevirtual 48, 3) := by decide +kernel
theorem dX0_farOfThree_36 : decode cX0_farOfThree 36 = .ok (.iadd, 1) := by decide +kernel
theorem dX0_farOfThree_37 : decode cX0_farOfThree 37 = .ok (.istore 8, 2) := by decide +kernel
theorem dX0_farOfThree_39 : decode cX0_farOfThree 39 = .ok (.iload 6, 2) := by decide +kernel
theorem dX0_farOfThree_41 : decode cX0_farOfThree 41 = .ok (.sipush 799, 3) := by decide +kernel
theorem dX0_farOfThree_44 : decode cX0_farOfThree 44 = .ok (.iload 8, 2) := by decide +kernel
theorem dX0_farOfThree_46 : decode cX0_farOfThree 46 = .ok (.invokestatic 114, 3) := by decide +kernel
theorem dX0_farOfThree_49 : decode cX0_farOfThree 49 = .ok (.aload_n 1, 1) := by decide +kernel
theorem dX0_farOfThree_50 : decode cX0_farOfThree 50 = .ok (.getfield 52, 3) := by decide +kernel
theorem dX0_farOfThree_53 : decode cX0_farOfThree 53 = .ok (.iload 5, 2) := by decide +kernel
theorem dX0_farOfThree_55 : decode cX0_farOfThree 55 = .ok (.bipush 6, 2) := by decide +kernel
theorem dX0_farOfThree_57 : decode cX0_farOfThree 57 = .ok (.imul, 1) := by decide +kernel
theorem dX0_farOfThree_58 : decode cX0_farOfThree 58 = .ok (.iload 7, 2) := by decide +kernel
theorem dX0_farOfThree_60 : decode cX0_farOfThree 60 = .ok (.iadd, 1) := by decide +kernel
theorem dX0_farOfThree_61 : decode cX0_farOfThree 61 = .ok (.invokestatic 55, 3) := by decide +kernel
theorem dX0_farOfThree_64 : decode cX0_farOfThree 64 = .ok (.isub, 1) := by decide +kernel
theorem dX0_farOfThree_65 : decode cX0_farOfThree 65 = .ok (.invokestatic 59, 3) := by decide +kernel
theorem dX0_farOfThree_68 : decode cX0_farOfThree 68 = .ok (.iadd, 1) := by decide +kernel
theorem dX0_farOfThree_69 : decode cX0_farOfThree 69 = .ok (.istore 6, 2) := by decide +kernel
theorem dX0_farOfThree_71 : decode cX0_farOfThree 71 = .ok (.iinc 7 1, 3) := by decide +kernel
theorem dX0_farOfThree_74 : decode cX0_farOfThree 74 = .ok (.goto (-68), 3) := by decide +kernel
theorem dX0_farOfThree_77 : decode cX0_farOfThree 77 = .ok (.iload 6, 2) := by decide +kernel
theorem dX0_farOfThree_79 : decode cX0_farOfThree 79 = .ok (.ireturn, 1) := by decide +kernel
theorem dX1_init_0 : decode cX1_init 0 = .ok (.aload_n 0, 1) := by decide +kernel
theorem dX1_init_1 : decode cX1_init 1 = .ok (.invokespecial 3, 3) := by decide +kernel
theorem dX1_init_4 : decode cX1_init 4 = .ok (.aload_n 0, 1) := by decide +kernel
theorem dX1_init_5 : decode cX1_init 5 = .ok (.bipush 10, 2) := by decide +kernel
theorem dX1_init_7 : decode cX1_init 7 = .ok (.newarray .int, 2) := by decide +kernel
theorem dX1_init_9 : decode cX1_init 9 = .ok (.putfield 9, 3) := by decide +kernel
theorem dX1_init_12 : decode cX1_init 12 = .ok (.aload_n 0, 1) := by decide +kernel
theorem dX1_init_13 : decode cX1_init 13 = .ok (.bipush 10, 2) := by decide +kernel
theorem dX1_init_15 : decode cX1_init 15 = .ok (.newarray .int, 2) := by decide +kernel
theorem dX1_init_17 : decode cX1_init 17 = .ok (.putfield 15, 3) := by decide +kernel
theorem dX1_init_20 : decode cX1_init 20 = .ok (.aload_n 0, 1) := by decide +kernel
theorem dX1_init_21 : decode cX1_init 21 = .ok (.bipush 60, 2) := by decide +kernel
theorem dX1_init_23 : decode cX1_init 23 = .ok (.newarray .int, 2) := by decide +kernel
theorem dX1_init_25 : decode cX1_init 25 = .ok (.putfield 18, 3) := by decide +kernel
theorem dX1_init_28 : decode cX1_init 28 = .ok (.aload_n 0, 1) := by decide +kernel
theorem dX1_init_29 : decode cX1_init 29 = .ok (.bipush 6, 2) := by decide +kernel
theorem dX1_init_31 : decode cX1_init 31 = .ok (.newarray .int, 2) := by decide +kernel
theorem dX1_init_33 : decode cX1_init 33 = .ok (.putfield 21, 3) := by decide +kernel
theorem dX1_init_36 : decode cX1_init 36 = .ok (.aload_n 0, 1) := by decide +kernel
theorem dX1_init_37 : decode cX1_init 37 = .ok (.bipush 36, 2) := by decide +kernel
theorem dX1_init_39 : decode cX1_init 39 = .ok (.newarray .int, 2) := by decide +kernel
theorem dX1_init_41 : decode cX1_init 41 = .ok (.putfield 24, 3) := by decide +kernel
theorem dX1_init_44 : decode cX1_init 44 = .ok (.aload_n 0, 1) := by decide +kernel
theorem dX1_init_45 : decode cX1_init 45 = .ok (.iconst 5, 1) := by decide +kernel
theorem dX1_init_46 : decode cX1_init 46 = .ok (.newarray .int, 2) := by decide +kernel
theorem dX1_init_48 : decode cX1_init 48 = .ok (.dup, 1) := by decide +kernel
theorem dX1_init_49 : decode cX1_init 49 = .ok (.iconst 0, 1) := by decide +kernel
theorem dX1_init_50 : decode cX1_init 50 = .ok (.sipush 500, 3) := by decide +kernel
theorem dX1_init_53 : decode cX1_init 53 = .ok (.iastore, 1) := by decide +kernel
theorem dX1_init_54 : decode cX1_init 54 = .ok (.dup, 1) := by decide +kernel
theorem dX1_init_55 : decode cX1_init 55 = .ok (.iconst 1, 1) := by decide +kernel
theorem dX1_init_56 : decode cX1_init 56 = .ok (.iconst 3, 1) := by decide +kernel
theorem dX1_init_57 : decode cX1_init 57 = .ok (.iastore, 1) := by decide +kernel
theorem dX1_init_58 : decode cX1_init 58 = .ok (.dup, 1) := by decide +kernel
theorem dX1_init_59 : decode cX1_init 59 = .ok (.iconst 2, 1) := by decide +kernel
theorem dX1_init_60 : decode cX1_init 60 = .ok (.iconst 3, 1) := by decide +kernel
theorem dX1_init_61 : decode cX1_init 61 = .ok (.iastore, 1) := by decide +kernel
theorem dX1_init_62 : decode cX1_init 62 = .ok (.dup, 1) := by decide +kernel
theorem dX1_init_63 : decode cX1_init 63 = .ok (.iconst 3, 1) := by decide +kernel
theorem dX1_init_64 : decode cX1_init 64 = .ok (.bipush 20, 2) := by decide +kernel
theorem dX1_init_66 : decode cX1_init 66 = .ok (.iastore, 1) := by decide +kernel
theorem dX1_init_67 : decode cX1_init 67 = .ok (.dup, 1) := by decide +kernel
theorem dX1_init_68 : decode cX1_init 68 = .ok (.iconst 4, 1) := by decide +kernel
theorem dX1_init_69 : decode cX1_init 69 = .ok (.bipush 30, 2) := by decide +kernel
theorem dX1_init_71 : decode cX1_init 71 = .ok (.iastore, 1) := by decide +kernel
theorem dX1_init_72 : decode cX1_init 72 = .ok (.putfield 27, 3) := by decide +kernel
theorem dX1_init_75 : decode cX1_init 75 = .ok (.aload_n 0, 1) := by decide +kernel
theorem dX1_init_76 : decode cX1_init 76 = .ok (.sipush 200, 3) := by decide +kernel
theorem dX1_init_79 : decode cX1_init 79 = .ok (.newarray .int, 2) := by decide +kernel
theorem dX1_init_81 : decode cX1_init 81 = .ok (.putfield 30, 3) := by decide +kernel
theorem dX1_init_84 : decode cX1_init 84 = .ok (.aload_n 0, 1) := by decide +kernel
theorem dX1_init_85 : decode cX1_init 85 = .ok (.bipush 40, 2) := by decide +kernel
theorem dX1_init_87 : decode cX1_init 87 = .ok (.newarray .int, 2) := by decide +kernel
theorem dX1_init_89 : decode cX1_init 89 = .ok (.putfield 33, 3) := by decide +kernel
theorem dX1_init_92 : decode cX1_init 92 = .ok (.aload_n 0, 1) := by decide +kernel
theorem dX1_init_93 : decode cX1_init 93 = .ok (.bipush 8, 2) := by decide +kernel
theorem dX1_init_95 : decode cX1_init 95 = .ok (.newarray .int, 2) := by decide +kernel
theorem dX1_init_97 : decode cX1_init 97 = .ok (.putfield 36, 3) := by decide +kernel
theorem dX1_init_100 : decode cX1_init 100 = .ok (.return_, 1) := by decide +kernel
theorem dX1_addThing_0 : decode cX1_addThing 0 = .ok (.aload_n 0, 1) := by decide +kernel
theorem dX1_addThing_1 : decode cX1_addThing 1 = .ok (.getfield 9, 3) := by decide +kernel
theorem dX1_addThing_4 : decode cX1_addThing 4 = .ok (.aload_n 0, 1) := by decide +kernel
theorem dX1_addThing_5 : decode cX1_addThing 5 = .ok (.getfield 39, 3) := by decide +kernel
theorem dX1_addThing_8 : decode cX1_addThing 8 = .ok (.iload_n 1, 1) := by decide +kernel
theorem dX1_addThing_9 : decode cX1_addThing 9 = .ok (.invokestatic 43, 3) := by decide +kernel
theorem dX1_addThing_12 : decode cX1_addThing 12 = .ok (.aload_n 0, 1) := by decide +kernel
theorem dX1_addThing_13 : decode cX1_addThing 13 = .ok (.getfield 15, 3) := by decide +kernel
theorem dX1_addThing_16 : decode cX1_addThing 16 = .ok (.aload_n 0, 1) := by decide +kernel
theorem dX1_addThing_17 : decode cX1_addThing 17 = .ok (.getfield 39, 3) := by decide +kernel
theorem dX1_addThing_20 : decode cX1_addThing 20 = .ok (.iload_n 2, 1) := by decide +kernel
theorem dX1_addThing_21 : decode cX1_addThing 21 = .ok (.invokestatic 43, 3) := by decide +kernel
theorem dX1_addThing_24 : decode cX1_addThing 24 = .ok (.aload_n 0, 1) := by decide +kernel
theorem dX1_addThing_25 : decode cX1_addThing 25 = .ok (.dup, 1) := by decide +kernel
theorem dX1_addThing_26 : decode cX1_addThing 26 = .ok (.getfield 39, 3) := by decide +kernel
theorem dX1_addThing_29 : decode cX1_addThing 29 = .ok (.dup_x1, 1) := by decide +kernel
theorem dX1_addThing_30 : decode cX1_addThing 30 = .ok (.iconst 1, 1) := by decide +kernel
theorem dX1_addThing_31 : decode cX1_addThing 31 = .ok (.iadd, 1) := by decide +kernel
theorem dX1_addThing_32 : decode cX1_addThing 32 = .ok (.putfield 39, 3) := by decide +kernel
theorem dX1_addThing_35 : decode cX1_addThing 35 = .ok (.ireturn, 1) := by decide +kernel
theorem dX1_addMeaning_0 : decode cX1_addMeaning 0 = .ok (.aload_n 0, 1) := by decide +kernel
theorem dX1_addMeaning_1 : decode cX1_addMeaning 1 = .ok (.getfield 21, 3) := by decide +kernel
theorem dX1_addMeaning_4 : decode cX1_addMeaning 4 = .ok (.aload_n 0, 1) := by decide +kernel
theorem dX1_addMeaning_5 : decode cX1_addMeaning 5 = .ok (.getfield 47, 3) := by decide +kernel
theorem dX1_addMeaning_8 : decode cX1_addMeaning 8 = .ok (.iload_n 1, 1) := by decide +kernel
theorem dX1_addMeaning_9 : decode cX1_addMeaning 9 = .ok (.invokestatic 43, 3) := by decide +kernel
theorem dX1_addMeaning_12 : decode cX1_addMeaning 12 = .ok (.aload_n 0, 1) := by decide +kernel
theorem dX1_addMeaning_13 : decode cX1_addMeaning 13 = .ok (.dup, 1) := by decide +kernel
theorem dX1_addMeaning_14 : decode cX1_addMeaning 14 = .ok (.getfield 47, 3) := by decide +kernel
theorem dX1_addMeaning_17 : decode cX1_addMeaning 17 = .ok (.dup_x1, 1) := by decide +kernel
theorem dX1_addMeaning_18 : decode cX1_addMeaning 18 = .ok (.iconst 1, 1) := by decide +kernel
theorem dX1_addMeaning_19 : decode cX1_addMeaning 19 = .ok (.iadd, 1) := by decide +kernel
theorem dX1_addMeaning_20 : decode cX1_addMeaning 20 = .ok (.putfield 47, 3) := by decide +kernel
theorem dX1_addMeaning_23 : decode cX1_addMeaning 23 = .ok (.ireturn, 1) := by decide +kernel
theorem dX1_addBytes_0 : decode cX1_addBytes 0 = .ok (.iload_n 3, 1) := by decide +kernel
theorem dX1_addBytes_1 : decode cX1_addBytes 1 = .ok (.iconst 1, 1) := by decide +kernel
theorem dX1_addBytes_2 : decode cX1_addBytes 2 = .ok (.isub, 1) := by decide +kernel
theorem dX1_addBytes_3 : decode cX1_addBytes 3 = .ok (.istore 4, 2) := by decide +kernel
theorem dX1_addBytes_5 : decode cX1_addBytes 5 = .ok (.iload 4, 2) := by decide +kernel
theorem dX1_addBytes_7 : decode cX1_addBytes 7 = .ok (.ifCond .lt 39, 3) := by decide +kernel
theorem dX1_addBytes_10 : decode cX1_addBytes 10 = .ok (.aload_n 0, 1) := by decide +kernel
theorem dX1_addBytes_11 : decode cX1_addBytes 11 = .ok (.getfield 30, 3) := by decide +kernel
theorem dX1_addBytes_14 : decode cX1_addBytes 14 = .ok (.aload_n 0, 1) := by decide +kernel
theorem dX1_addBytes_15 : decode cX1_addBytes 15 = .ok (.dup, 1) := by decide +kernel
theorem dX1_addBytes_16 : decode cX1_addBytes 16 = .ok (.getfield 50, 3) := by decide +kernel
theorem dX1_addBytes_19 : decode cX1_addBytes 19 = .ok (.dup_x1, 1) := by decide +kernel
theorem dX1_addBytes_20 : decode cX1_addBytes 20 = .ok (.iconst 1, 1) := by decide +kernel
theorem dX1_addBytes_21 : decode cX1_addBytes 21 = .ok (.iadd, 1) := by decide +kernel
theorem dX1_addBytes_22 : decode cX1_addBytes 22 = .ok (.putfield 50, 3) := by decide +kernel
theorem dX1_addBytes_25 : decode cX1_addBytes 25 = .ok (.lload_n 1, 1) := by decide +kernel
theorem dX1_addBytes_26 : decode cX1_addBytes 26 = .ok (.bipush 8, 2) := by decide +kernel
theorem dX1_addBytes_28 : decode cX1_addBytes 28 = .ok (.iload 4, 2) := by decide +kernel
theorem dX1_addBytes_30 : decode cX1_addBytes 30 = .ok (.imul, 1) := by decide +kernel
theorem dX1_addBytes_31 : decode cX1_addBytes 31 = .ok (.lushr, 1) := by decide +kernel
theorem dX1_addBytes_32 : decode cX1_addBytes 32 = .ok (.l2i, 1) := by decide +kernel
theorem dX1_addBytes_33 : decode cX1_addBytes 33 = .ok (.sipush 255, 3) := by decide +kernel
theorem dX1_addBytes_36 : decode cX1_addBytes 36 = .ok (.iand, 1) := by decide +kernel
theorem dX1_addBytes_37 : decode cX1_addBytes 37 = .ok (.invokestatic 43, 3) := by decide +kernel
theorem dX1_addBytes_40 : decode cX1_addBytes 40 = .ok (.iinc 4 (-1), 3) := by decide +kernel
theorem dX1_addBytes_43 : decode cX1_addBytes 43 = .ok (.goto (-38), 3) := by decide +kernel
theorem dX1_addBytes_46 : decode cX1_addBytes 46 = .ok (.aload_n 0, 1) := by decide +kernel
theorem dX1_addBytes_47 : decode cX1_addBytes 47 = .ok (.getfield 50, 3) := by decide +kernel
theorem dX1_addBytes_50 : decode cX1_addBytes 50 = .ok (.ireturn, 1) := by decide +kernel
theorem dX1_addHouse_0 : decode cX1_addHouse 0 = .ok (.iconst 0, 1) := by decide +kernel
theorem dX1_addHouse_1 : decode cX1_addHouse 1 = .ok (.istore_n 1, 1) := by decide +kernel
theorem dX1_addHouse_2 : decode cX1_addHouse 2 = .ok (.iload_n 1, 1) := by decide +kernel
theorem dX1_addHouse_3 : decode cX1_addHouse 3 = .ok (.bipush 10, 2) := by decide +kernel
theorem dX1_addHouse_5 : decode cX1_addHouse 5 = .ok (.if_icmp .ge 26, 3) := by decide +kernel
theorem dX1_addHouse_8 : decode cX1_addHouse 8 = .ok (.aload_n 0, 1) := by decide +kernel
theorem dX1_addHouse_9 : decode cX1_addHouse 9 = .ok (.getfield 33, 3) := by decide +kernel
theorem dX1_addHouse_12 : decode cX1_addHouse 12 = .ok (.aload_n 0, 1) := by decide +kernel
theorem dX1_addHouse_13 : decode cX1_addHouse 13 = .ok (.getfield 53, 3) := by decide +kernel
theorem dX1_addHouse_16 : decode cX1_addHouse 16 = .ok (.bipush 10, 2) := by decide +kernel
theorem dX1_addHouse_18 : decode cX1_addHouse 18 = .ok (.imul, 1) := by decide +kernel
theorem dX1_addHouse_19 : decode cX1_addHouse 19 = .ok (.iload_n 1, 1) := by decide +kernel
theorem dX1_addHouse_20 : decode cX1_addHouse 20 = .ok (.iadd, 1) := by decide +kernel
theorem dX1_addHouse_21 : decode cX1_addHouse 21 = .ok (.iconst 1, 1) := by decide +kernel
theorem dX1_addHouse_22 : decode cX1_addHouse 22 = .ok (.invokestatic 43, 3) := by decide +kernel
theorem dX1_addHouse_25 : decode cX1_addHouse 25 = .ok (.iinc 1 1, 3) := by decide +kernel
theorem dX1_addHouse_28 : decode cX1_addHouse 28 = .ok (.goto (-26), 3) := by decide +kernel
theorem dX1_addHouse_31 : decode cX1_addHouse 31 = .ok (.aload_n 0, 1) := by decide +kernel
theorem dX1_addHouse_32 : decode cX1_addHouse 32 = .ok (.dup, 1) := by decide +kernel
theorem dX1_addHouse_33 : decode cX1_addHouse 33 = .ok (.getfield 53, 3) := by decide +kernel
theorem dX1_addHouse_36 : decode cX1_addHouse 36 = .ok (.dup_x1, 1) := by decide +kernel
theorem dX1_addHouse_37 : decode cX1_addHouse 37 = .ok (.iconst 1, 1) := by decide +kernel
theorem dX1_addHouse_38 : decode cX1_addHouse 38 = .ok (.iadd, 1) := by decide +kernel
theorem dX1_addHouse_39 : decode cX1_addHouse 39 = .ok (.putfield 53, 3) := by decide +kernel
theorem dX1_addHouse_42 : decode cX1_addHouse 42 = .ok (.ireturn, 1) := by decide +kernel
theorem dX1_addSeen_0 : decode cX1_addSeen 0 = .ok (.aload_n 0, 1) := by decide +kernel
theorem dX1_addSeen_1 : decode cX1_addSeen 1 = .ok (.getfield 36, 3) := by decide +kernel
theorem dX1_addSeen_4 : decode cX1_addSeen 4 = .ok (.aload_n 0, 1) := by decide +kernel
theorem dX1_addSeen_5 : decode cX1_addSeen 5 = .ok (.dup, 1) := by decide +kernel
theorem dX1_addSeen_6 : decode cX1_addSeen 6 = .ok (.getfield 56, 3) := by decide +kernel
theorem dX1_addSeen_9 : decode cX1_addSeen 9 = .ok (.dup_x1, 1) := by decide +kernel
theorem dX1_addSeen_10 : decode cX1_addSeen 10 = .ok (.iconst 1, 1) := by decide +kernel
theorem dX1_addSeen_11 : decode cX1_addSeen 11 = .ok (.iadd, 1) := by decide +kernel
theorem dX1_addSeen_12 : decode cX1_addSeen 12 = .ok (.putfield 56, 3) := by decide +kernel
theorem dX1_addSeen_15 : decode cX1_addSeen 15 = .ok (.iload_n 1, 1) := by decide +kernel
theorem dX1_addSeen_16 : decode cX1_addSeen 16 = .ok (.invokestatic 43, 3) := by decide +kernel
theorem dX1_addSeen_19 : decode cX1_addSeen 19 = .ok (.aload_n 0, 1) := by decide +kernel
theorem dX1_addSeen_20 : decode cX1_addSeen 20 = .ok (.getfield 56, 3) := by decide +kernel
theorem dX1_addSeen_23 : decode cX1_addSeen 23 = .ok (.ireturn, 1) := by decide +kernel
theorem dX1_habitOf_0 : decode cX1_habitOf 0 = .ok (.aload_n 0, 1) := by decide +kernel
theorem dX1_habitOf_1 : decode cX1_habitOf 1 = .ok (.getfield 33, 3) := by decide +kernel
theorem dX1_habitOf_4 : decode cX1_habitOf 4 = .ok (.iload_n 1, 1) := by decide +kernel
theorem dX1_habitOf_5 : decode cX1_habitOf 5 = .ok (.bipush 10, 2) := by decide +kernel
theorem dX1_habitOf_7 : decode cX1_habitOf 7 = .ok (.imul, 1) := by decide +kernel
theorem dX1_habitOf_8 : decode cX1_habitOf 8 = .ok (.iload_n 2, 1) := by decide +kernel
theorem dX1_habitOf_9 : decode cX1_habitOf 9 = .ok (.iadd, 1) := by decide +kernel
theorem dX1_habitOf_10 : decode cX1_habitOf 10 = .ok (.invokestatic 59, 3) := by decide +kernel
theorem dX1_habitOf_13 : decode cX1_habitOf 13 = .ok (.ireturn, 1) := by decide +kernel
theorem dX1_habitsOf_0 : decode cX1_habitsOf 0 = .ok (.iconst 0, 1) := by decide +kernel
theorem dX1_habitsOf_1 : decode cX1_habitsOf 1 = .ok (.istore_n 2, 1) := by decide +kernel
theorem dX1_habitsOf_2 : decode cX1_habitsOf 2 = .ok (.iconst 0, 1) := by decide +kernel
theorem dX1_habitsOf_3 : decode cX1_habitsOf 3 = .ok (.istore_n 3, 1) := by decide +kernel
theorem dX1_habitsOf_4 : decode cX1_habitsOf 4 = .ok (.iload_n 3, 1) := by decide +kernel
theorem dX1_habitsOf_5 : decode cX1_habitsOf 5 = .ok (.bipush 10, 2) := by decide +kernel
theorem dX1_habitsOf_7 : decode cX1_habitsOf 7 = .ok (.if_icmp .ge 18, 3) := by decide +kernel
theorem dX1_habitsOf_10 : decode cX1_habitsOf 10 = .ok (.iload_n 2, 1) := by decide +kernel
theorem dX1_habitsOf_11 : decode cX1_habitsOf 11 = .ok (.aload_n 0, 1) := by decide +kernel
theorem dX1_habitsOf_12 : decode cX1_habitsOf 12 = .ok (.iload_n 1, 1) := by decide +kernel
theorem dX1_habitsOf_13 : decode cX1_habitsOf 13 = .ok (.iload_n 3, 1) := by decide +kernel
theorem dX1_habitsOf_14 : decode cX1_habitsOf 14 = .ok (.invokevirtual 63, 3) := by decide +kernel
theorem dX1_habitsOf_17 : decode cX1_habitsOf 17 = .ok (.iadd, 1) := by decide +kernel
theorem dX1_habitsOf_18 : decode cX1_habitsOf 18 = .ok (.istore_n 2, 1) := by decide +kernel
theorem dX1_habitsOf_19 : decode cX1_habitsOf 19 = .ok (.iinc 3 1, 3) := by decide +kernel
theorem dX1_habitsOf_22 : decode cX1_habitsOf 22 = .ok (.goto (-18), 3) := by decide +kernel
theorem dX1_habitsOf_25 : decode cX1_habitsOf 25 = .ok (.iload_n 2, 1) := by decide +kernel
theorem dX1_habitsOf_26 : decode cX1_habitsOf 26 = .ok (.ireturn, 1) := by decide +kernel
theorem dX1_canBeOfAHouse_0 : decode cX1_canBeOfAHouse 0 = .ok (.iconst 0, 1) := by decide +kernel
theorem dX1_canBeOfAHouse_1 : decode cX1_canBeOfAHouse 1 = .ok (.istore_n 1, 1) := by decide +kernel
theorem dX1_canBeOfAHouse_2 : decode cX1_canBeOfAHouse 2 = .ok (.iload_n 1, 1) := by decide +kernel
theorem dX1_canBeOfAHouse_3 : decode cX1_canBeOfAHouse 3 = .ok (.aload_n 0, 1) := by decide +kernel
theorem dX1_canBeOfAHouse_4 : decode cX1_canBeOfAHouse 4 = .ok (.getfield 53, 3) := by decide +kernel
theorem dX1_canBeOfAHouse_7 : decode cX1_canBeOfAHouse 7 = .ok (.if_icmp .ge 19, 3) := by decide +kernel
theorem dX1_canBeOfAHouse_10 : decode cX1_canBeOfAHouse 10 = .ok (.aload_n 0, 1) := by decide +kernel
theorem dX1_canBeOfAHouse_11 : decode cX1_canBeOfAHouse 11 = .ok (.iload_n 1, 1) := by decide +kernel
theorem dX1_canBeOfAHouse_12 : decode cX1_canBeOfAHouse 12 = .ok (.invokevirtual 67, 3) := by decide +kernel
theorem dX1_canBeOfAHouse_15 : decode cX1_canBeOfAHouse 15 = .ok (.ifCond .eq 5, 3) := by decide +kernel
theorem dX1_canBeOfAHouse_18 : decode cX1_canBeOfAHouse 18 = .ok (.iconst 1, 1) := by decide +kernel
theorem dX1_canBeOfAHouse_19 : decode cX1_canBeOfAHouse 19 = .ok (.ireturn, 1) := by decide +kernel
theorem dX1_canBeOfAHouse_20 : decode cX1_canBeOfAHouse 20 = .ok (.iinc 1 1, 3) := by decide +kernel
theorem dX1_canBeOfAHouse_23 : decode cX1_canBeOfAHouse 23 = .ok (.goto (-21), 3) := by decide +kernel
theorem dX1_canBeOfAHouse_26 : decode cX1_canBeOfAHouse 26 = .ok (.iconst 0, 1) := by decide +kernel
theorem dX1_canBeOfAHouse_27 : decode cX1_canBeOfAHouse 27 = .ok (.ireturn, 1) := by decide +kernel
theorem dX1_canBeOf_0 : decode cX1_canBeOf 0 = .ok (.iconst 0, 1) := by decide +kernel
theorem dX1_canBeOf_1 : decode cX1_canBeOf 1 = .ok (.istore_n 2, 1) := by decide +kernel
theorem dX1_canBeOf_2 : decode cX1_canBeOf 2 = .ok (.iload_n 2, 1) := by decide +kernel
theorem dX1_canBeOf_3 : decode cX1_canBeOf 3 = .ok (.aload_n 0, 1) := by decide +kernel
theorem dX1_canBeOf_4 : decode cX1_canBeOf 4 = .ok (.getfield 56, 3) := by decide +kernel
theorem dX1_canBeOf_7 : decode cX1_canBeOf 7 = .ok (.if_icmp .ge 27, 3) := by decide +kernel
theorem dX1_canBeOf_10 : decode cX1_canBeOf 10 = .ok (.aload_n 0, 1) := by decide +kernel
theorem dX1_canBeOf_11 : decode cX1_canBeOf 11 = .ok (.iload_n 1, 1) := by decide +kernel
theorem dX1_canBeOf_12 : decode cX1_canBeOf 12 = .ok (.aload_n 0, 1) := by decide +kernel
theorem dX1_canBeOf_13 : decode cX1_canBeOf 13 = .ok (.getfield 36, 3) := by decide +kernel
theorem dX1_canBeOf_16 : decode cX1_canBeOf 16 = .ok (.iload_n 2, 1) := by decide +kernel
theorem dX1_canBeOf_17 : decode cX1_canBeOf 17 = .ok (.invokestatic 59, 3) := by decide +kernel
theorem dX1_canBeOf_20 : decode cX1_canBeOf 20 = .ok (.invokevirtual 63, 3) := by decide +kernel
theorem dX1_canBeOf_23 : decode cX1_canBeOf 23 = .ok (.ifCond .ne 5, 3) := by decide +kernel
theorem dX1_canBeOf_26 : decode cX1_canBeOf 26 = .ok (.iconst 0, 1) := by decide +kernel
theorem dX1_canBeOf_27 : decode cX1_canBeOf 27 = .ok (.ireturn, 1) := by decide +kernel
theorem dX1_canBeOf_28 : decode cX1_canBeOf 28 = .ok (.iinc 2 1, 3) := by decide +kernel
theorem dX1_canBeOf_31 : decode cX1_canBeOf 31 = .ok (.goto (-29), 3) := by decide +kernel
theorem dX1_canBeOf_34 : decode cX1_canBeOf 34 = .ok (.iconst 1, 1) := by decide +kernel
theorem dX1_canBeOf_35 : decode cX1_canBeOf 35 = .ok (.ireturn, 1) := by decide +kernel
theorem dX1_become_0 : decode cX1_become 0 = .ok (.aload_n 0, 1) := by decide +kernel
theorem dX1_become_1 : decode cX1_become 1 = .ok (.aload_n 1, 1) := by decide +kernel
theorem dX1_become_2 : decode cX1_become 2 = .ok (.getfield 39, 3) := by decide +kernel
theorem dX1_become_5 : decode cX1_become 5 = .ok (.putfield 39, 3) := by decide +kernel
theorem dX1_become_8 : decode cX1_become 8 = .ok (.aload_n 1, 1) := by decide +kernel
theorem dX1_become_9 : decode cX1_become 9 = .ok (.getfield 9, 3) := by decide +kernel
theorem dX1_become_12 : decode cX1_become 12 = .ok (.aload_n 0, 1) := by decide +kernel
theorem dX1_become_13 : decode cX1_become 13 = .ok (.getfield 9, 3) := by decide +kernel
theorem dX1_become_16 : decode cX1_become 16 = .ok (.invokestatic 71, 3) := by decide +kernel
theorem dX1_become_19 : decode cX1_become 19 = .ok (.aload_n 1, 1) := by decide +kernel
theorem dX1_become_20 : decode cX1_become 20 = .ok (.getfield 15, 3) := by decide +kernel
theorem dX1_become_23 : decode cX1_become 23 = .ok (.aload_n 0, 1) := by decide +kernel
theorem dX1_become_24 : decode cX1_become 24 = .ok (.getfield 15, 3) := by decide +kernel
theorem dX1_become_27 : decode cX1_become 27 = .ok (.invokestatic 71, 3) := by decide +kernel
theorem dX1_become_30 : decode cX1_become 30 = .ok (.aload_n 1, 1) := by decide +kernel
theorem dX1_become_31 : decode cX1_become 31 = .ok (.getfield 18, 3) := by decide +kernel
theorem dX1_become_34 : decode cX1_become 34 = .ok (.aload_n 0, 1) := by decide +kernel
theorem dX1_become_35 : decode cX1_become 35 = .ok (.getfield 18, 3) := by decide +kernel
theorem dX1_become_38 : decode cX1_become 38 = .ok (.invokestatic 71, 3) := by decide +kernel
theorem dX1_become_41 : decode cX1_become 41 = .ok (.aload_n 0, 1) := by decide +kernel
theorem dX1_become_42 : decode cX1_become 42 = .ok (.aload_n 1, 1) := by decide +kernel
theorem dX1_become_43 : decode cX1_become 43 = .ok (.getfield 47, 3) := by decide +kernel
theorem dX1_become_46 : decode cX1_become 46 = .ok (.putfield 47, 3) := by decide +kernel
theorem dX1_become_49 : decode cX1_become 49 = .ok (.aload_n 1, 1) := by decide +kernel
theorem dX1_become_50 : decode cX1_become 50 = .ok (.getfield 21, 3) := by decide +kernel
theorem dX1_become_53 : decode cX1_become 53 = .ok (.aload_n 0, 1) := by decide +kernel
theorem dX1_become_54 : decode cX1_become 54 = .ok (.getfield 21, 3) := by decide +kernel
theorem dX1_become_57 : decode cX1_become 57 = .ok (.invokestatic 71, 3) := by decide +kernel
theorem dX1_become_60 : decode cX1_become 60 = .ok (.aload_n 1, 1) := by decide +kernel
theorem dX1_become_61 : decode cX1_become 61 = .ok (.getfield 24, 3) := by decide +kernel
theorem dX1_become_64 : decode cX1_become 64 = .ok (.aload_n 0, 1) := by decide +kernel
theorem dX1_become_65 : decode cX1_become 65 = .ok (.getfield 24, 3) := by decide +kernel
theorem dX1_become_68 : decode cX1_become 68 = .ok (.invokestatic 71, 3) := by decide +kernel
theorem dX1_become_71 : decode cX1_become 71 = .ok (.aload_n 1, 1) := by decide +kernel
theorem dX1_become_72 : decode cX1_become 72 = .ok (.getfield 27, 3) := by decide +kernel
theorem dX1_become_75 : decode cX1_become 75 = .ok (.aload_n 0, 1) := by decide +kernel
theorem dX1_become_76 : decode cX1_become 76 = .ok (.getfield 27, 3) := by decide +kernel
theorem dX1_become_79 : decode cX1_become 79 = .ok (.invokestatic 71, 3) := by decide +kernel
theorem dX1_become_82 : decode cX1_become 82 = .ok (.aload_n 0, 1) := by decide +kernel
theorem dX1_become_83 : decode cX1_become 83 = .ok (.aload_n 1, 1) := by decide +kernel
theorem dX1_become_84 : decode cX1_become 84 = .ok (.getfield 50, 3) := by decide +kernel
theorem dX1_become_87 : decode cX1_become 87 = .ok (.putfield 50, 3) := by decide +kernel
theorem dX1_become_90 : decode cX1_become 90 = .ok (.aload_n 1, 1) := by decide +kernel
theorem dX1_become_91 : decode cX1_become 91 = .ok (.getfield 30, 3) := by decide +kernel
theorem dX1_become_94 : decode cX1_become 94 = .ok (.aload_n 0, 1) := by decide +kernel
theorem dX1_become_95 : decode cX1_become 95 = .ok (.getfield 30, 3) := by decide +kernel
theorem dX1_become_98 : decode cX1_become 98 = .ok (.invokestatic 71, 3) := by decide +kernel
theorem dX1_become_101 : decode cX1_become 101 = .ok (.aload_n 0, 1) := by decide +kernel
theorem dX1_become_102 : decode cX1_become 102 = .ok (.aload_n 1, 1) := by decide +kernel
theorem dX1_become_103 : decode cX1_become 103 = .ok (.getfield 53, 3) := by decide +kernel
theorem dX1_become_106 : decode cX1_become 106 = .ok (.putfield 53, 3) := by decide +kernel
theorem dX1_become_109 : decode cX1_become 109 = .ok (.aload_n 1, 1) := by decide +kernel
theorem dX1_become_110 : decode cX1_become 110 = .ok (.getfield 33, 3) := by decide +kernel
theorem dX1_become_113 : decode cX1_become 113 = .ok (.aload_n 0, 1) := by decide +kernel
theorem dX1_become_114 : decode cX1_become 114 = .ok (.getfield 33, 3) := by decide +kernel
theorem dX1_become_117 : decode cX1_become 117 = .ok (.invokestatic 71, 3) := by decide +kernel
theorem dX1_become_120 : decode cX1_become 120 = .ok (.aload_n 0, 1) := by decide +kernel
theorem dX1_become_121 : decode cX1_become 121 = .ok (.aload_n 1, 1) := by decide +kernel
theorem dX1_become_122 : decode cX1_become 122 = .ok (.getfield 56, 3) := by decide +kernel
theorem dX1_become_125 : decode cX1_become 125 = .ok (.putfield 56, 3) := by decide +kernel
theorem dX1_become_128 : decode cX1_become 128 = .ok (.aload_n 1, 1) := by decide +kernel
theorem dX1_become_129 : decode cX1_become 129 = .ok (.getfield 36, 3) := by decide +kernel
theorem dX1_become_132 : decode cX1_become 132 = .ok (.aload_n 0, 1) := by decide +kernel
theorem dX1_become_133 : decode cX1_become 133 = .ok (.getfield 36, 3) := by decide +kernel
theorem dX1_become_136 : decode cX1_become 136 = .ok (.invokestatic 71, 3) := by decide +kernel
theorem dX1_become_139 : decode cX1_become 139 = .ok (.return_, 1) := by decide +kernel
theorem dX1_digestOn_0 : decode cX1_digestOn 0 = .ok (.lload_n 1, 1) := by decide +kernel
theorem dX1_digestOn_1 : decode cX1_digestOn 1 = .ok (.lstore_n 3, 1) := by decide +kernel
theorem dX1_digestOn_2 : decode cX1_digestOn 2 = .ok (.ldc2_w 75, 3) := by decide +kernel
theorem dX1_digestOn_5 : decode cX1_digestOn 5 = .ok (.lload_n 3, 1) := by decide +kernel
theorem dX1_digestOn_6 : decode cX1_digestOn 6 = .ok (.lmul, 1) := by decide +kernel
theorem dX1_digestOn_7 : decode cX1_digestOn 7 = .ok (.aload_n 0, 1) := by decide +kernel
theorem dX1_digestOn_8 : decode cX1_digestOn 8 = .ok (.getfield 39, 3) := by decide +kernel
theorem dX1_digestOn_11 : decode cX1_digestOn 11 = .ok (.i2l, 1) := by decide +kernel
theorem dX1_digestOn_12 : decode cX1_digestOn 12 = .ok (.ladd, 1) := by decide +kernel
theorem dX1_digestOn_13 : decode cX1_digestOn 13 = .ok (.lstore_n 3, 1) := by decide +kernel
theorem dX1_digestOn_14 : decode cX1_digestOn 14 = .ok (.ldc2_w 75, 3) := by decide +kernel
theorem dX1_digestOn_17 : decode cX1_digestOn 17 = .ok (.lload_n 3, 1) := by decide +kernel
theorem dX1_digestOn_18 : decode cX1_digestOn 18 = .ok (.lmul, 1) := by decide +kernel
theorem dX1_digestOn_19 : decode cX1_digestOn 19 = .ok (.aload_n 0, 1) := by decide +kernel
theorem dX1_digestOn_20 : decode cX1_digestOn 20 = .ok (.getfield 47, 3) := by decide +kernel
theorem dX1_digestOn_23 : decode cX1_digestOn 23 = .ok (.i2l, 1) := by decide +kernel
theorem dX1_digestOn_24 : decode cX1_digestOn 24 = .ok (.ladd, 1) := by decide +kernel
theorem dX1_digestOn_25 : decode cX1_digestOn 25 = .ok (.lstore_n 3, 1) := by decide +kernel
theorem dX1_digestOn_26 : decode cX1_digestOn 26 = .ok (.ldc2_w 75, 3) := by decide +kernel
theorem dX1_digestOn_29 : decode cX1_digestOn 29 = .ok (.lload_n 3, 1) := by decide +kernel
theorem dX1_digestOn_30 : decode cX1_digestOn 30 = .ok (.lmul, 1) := by decide +kernel
theorem dX1_digestOn_31 : decode cX1_digestOn 31 = .ok (.aload_n 0, 1) := by decide +kernel
theorem dX1_digestOn_32 : decode cX1_digestOn 32 = .ok (.getfield 50, 3) := by decide +kernel
theorem dX1_digestOn_35 : decode cX1_digestOn 35 = .ok (.i2l, 1) := by decide +kernel
theorem dX1_digestOn_36 : decode cX1_digestOn 36 = .ok (.ladd, 1) := by decide +kernel
theorem dX1_digestOn_37 : decode cX1_digestOn 37 = .ok (.lstore_n 3, 1) := by decide +kernel
theorem dX1_digestOn_38 : decode cX1_digestOn 38 = .ok (.ldc2_w 75, 3) := by decide +kernel
theorem dX1_digestOn_41 : decode cX1_digestOn 41 = .ok (.lload_n 3, 1) := by decide +kernel
theorem dX1_digestOn_42 : decode cX1_digestOn 42 = .ok (.lmul, 1) := by decide +kernel
theorem dX1_digestOn_43 : decode cX1_digestOn 43 = .ok (.aload_n 0, 1) := by decide +kernel
theorem dX1_digestOn_44 : decode cX1_digestOn 44 = .ok (.getfield 53, 3) := by decide +kernel
theorem dX1_digestOn_47 : decode cX1_digestOn 47 = .ok (.i2l, 1) := by decide +kernel
theorem dX1_digestOn_48 : decode cX1_digestOn 48 = .ok (.ladd, 1) := by decide +kernel
theorem dX1_digestOn_49 : decode cX1_digestOn 49 = .ok (.lstore_n 3, 1) := by decide +kernel
theorem dX1_digestOn_50 : decode cX1_digestOn 50 = .ok (.ldc2_w 75, 3) := by decide +kernel
theorem dX1_digestOn_53 : decode cX1_digestOn 53 = .ok (.lload_n 3, 1) := by decide +kernel
theorem dX1_digestOn_54 : decode cX1_digestOn 54 = .ok (.lmul, 1) := by decide +kernel
theorem dX1_digestOn_55 : decode cX1_digestOn 55 = .ok (.aload_n 0, 1) := by decide +kernel
theorem dX1_digestOn_56 : decode cX1_digestOn 56 = .ok (.getfield 56, 3) := by decide +kernel
theorem dX1_digestOn_59 : decode cX1_digestOn 59 = .ok (.i2l, 1) := by decide +kernel
theorem dX1_digestOn_60 : decode cX1_digestOn 60 = .ok (.ladd, 1) := by decide +kernel
theorem dX1_digestOn_61 : decode cX1_digestOn 61 = .ok (.lstore_n 3, 1) := by decide +kernel
theorem dX1_digestOn_62 : decode cX1_digestOn 62 = .ok (.iconst 0, 1) := by decide +kernel
theorem dX1_digestOn_63 : decode cX1_digestOn 63 = .ok (.istore 5, 2) := by decide +kernel
theorem dX1_digestOn_65 : decode cX1_digestOn 65 = .ok (.iload 5, 2) := by decide +kernel
theorem dX1_digestOn_67 : decode cX1_digestOn 67 = .ok (.aload_n 0, 1) := by decide +kernel
theorem dX1_digestOn_68 : decode cX1_digestOn 68 = .ok (.getfield 39, 3) := by decide +kernel
theorem dX1_digestOn_71 : decode cX1_digestOn 71 = .ok (.if_icmp .ge 59, 3) := by decide +kernel
theorem dX1_digestOn_74 : decode cX1_digestOn 74 = .ok (.ldc2_w 75, 3) := by decide +kernel
theorem dX1_digestOn_77 : decode cX1_digestOn 77 = .ok (.lload_n 3, 1) := by decide +kernel
theorem dX1_digestOn_78 : decode cX1_digestOn 78 = .ok (.lmul, 1) := by decide +kernel
theorem dX1_digestOn_79 : decode cX1_digestOn 79 = .ok (.aload_n 0, 1) := by decide +kernel
theorem dX1_digestOn_80 : decode cX1_digestOn 80 = .ok (.getfield 9, 3) := by decide +kernel
theorem dX1_digestOn_83 : decode cX1_digestOn 83 = .ok (.iload 5, 2) := by decide +kernel
theorem dX1_digestOn_85 : decode cX1_digestOn 85 = .ok (.invokestatic 59, 3) := by decide +kernel
theorem dX1_digestOn_88 : decode cX1_digestOn 88 = .ok (.i2l, 1) := by decide +kernel
theorem dX1_digestOn_89 : decode cX1_digestOn 89 = .ok (.ladd, 1) := by decide +kernel
theorem dX1_digestOn_90 : decode cX1_digestOn 90 = .ok (.lstore_n 3, 1) := by decide +kernel
theorem dX1_digestOn_91 : decode cX1_digestOn 91 = .ok (.ldc2_w 75, 3) := by decide +kernel
theorem dX1_digestOn_94 : decode cX1_digestOn 94 = .ok (.lload_n 3, 1) := by decide +kernel
theorem dX1_digestOn_95 : decode cX1_digestOn 95 = .ok (.lmul, 1) := by decide +kernel
theorem dX1_digestOn_96 : decode cX1_digestOn 96 = .ok (.aload_n 0, 1) := by decide +kernel
theorem dX1_digestOn_97 : decode cX1_digestOn 97 = .ok (.getfield 15, 3) := by decide +kernel
theorem dX1_digestOn_100 : decode cX1_digestOn 100 = .ok (.iload 5, 2) := by decide +kernel
theorem dX1_digestOn_102 : decode cX1_digestOn 102 = .ok (.invokestatic 59, 3) := by decide +kernel
theorem dX1_digestOn_105 : decode cX1_digestOn 105 = .ok (.i2l, 1) := by decide +kernel
theorem dX1_digestOn_106 : decode cX1_digestOn 106 = .ok (.ladd, 1) := by decide +kernel
theorem dX1_digestOn_107 : decode cX1_digestOn 107 = .ok (.lstore_n 3, 1) := by decide +kernel
theorem dX1_digestOn_108 : decode cX1_digestOn 108 = .ok (.lload_n 3, 1) := by decide +kernel
theorem dX1_digestOn_109 : decode cX1_digestOn 109 = .ok (.aload_n 0, 1) := by decide +kernel
theorem dX1_digestOn_110 : decode cX1_digestOn 110 = .ok (.getfield 18, 3) := by decide +kernel
theorem dX1_digestOn_113 : decode cX1_digestOn 113 = .ok (.iload 5, 2) := by decide +kernel
theorem dX1_digestOn_115 : decode cX1_digestOn 115 = .ok (.bipush 6, 2) := by decide +kernel
theorem dX1_digestOn_117 : decode cX1_digestOn 117 = .ok (.imul, 1) := by decide +kernel
theorem dX1_digestOn_118 : decode cX1_digestOn 118 = .ok (.bipush 6, 2) := by decide +kernel
theorem dX1_digestOn_120 : decode cX1_digestOn 120 = .ok (.invokestatic 77, 3) := by decide +kernel
theorem dX1_digestOn_123 : decode cX1_digestOn 123 = .ok (.lstore_n 3, 1) := by decide +kernel
theorem dX1_digestOn_124 : decode cX1_digestOn 124 = .ok (.iinc 5 1, 3) := by decide +kernel
theorem dX1_digestOn_127 : decode cX1_digestOn 127 = .ok (.goto (-62), 3) := by decide +kernel
theorem dX1_digestOn_130 : decode cX1_digestOn 130 = .ok (.iconst 0, 1) := by decide +kernel
theorem dX1_digestOn_131 : decode cX1_digestOn 131 = .ok (.istore 5, 2) := by decide +kernel
theorem dX1_digestOn_133 : decode cX1_digestOn 133 = .ok (.iload 5, 2) := by decide +kernel
theorem dX1_digestOn_135 : decode cX1_digestOn 135 = .ok (.aload_n 0, 1) := by decide +kernel
theorem dX1_digestOn_136 : decode cX1_digestOn 136 = .ok (.getfield 47, 3) := by decide +kernel
theorem dX1_digestOn_139 : decode cX1_digestOn 139 = .ok (.if_icmp .ge 42, 3) := by decide +kernel
theorem dX1_digestOn_142 : decode cX1_digestOn 142 = .ok (.ldc2_w 75, 3) := by decide +kernel
theorem dX1_digestOn_145 : decode cX1_digestOn 145 = .ok (.lload_n 3, 1) := by decide +kernel
theorem dX1_digestOn_146 : decode cX1_digestOn 146 = .ok (.lmul, 1) := by decide +kernel
theorem dX1_digestOn_147 : decode cX1_digestOn 147 = .ok (.aload_n 0, 1) := by decide +kernel
theorem dX1_digestOn_148 : decode cX1_digestOn 148 = .ok (.getfield 21, 3) := by decide +kernel
theorem dX1_digestOn_151 : decode cX1_digestOn 151 = .ok (.iload 5, 2) := by decide +kernel
theorem dX1_digestOn_153 : decode cX1_digestOn 153 = .ok (.invokestatic 59, 3) := by decide +kernel
theorem dX1_digestOn_156 : decode cX1_digestOn 156 = .ok (.i2l, 1) := by decide +kernel
theorem dX1_digestOn_157 : decode cX1_digestOn 157 = .ok (.ladd, 1) := by decide +kernel
theorem dX1_digestOn_158 : decode cX1_digestOn 158 = .ok (.lstore_n 3, 1) := by decide +kernel
theorem dX1_digestOn_159 : decode cX1_digestOn 159 = .ok (.lload_n 3, 1) := by decide +kernel
theorem dX1_digestOn_160 : decode cX1_digestOn 160 = .ok (.aload_n 0, 1) := by decide +kernel
theorem dX1_digestOn_161 : decode cX1_digestOn 161 = .ok (.getfield 24, 3) := by decide +kernel
theorem dX1_digestOn_164 : decode cX1_digestOn 164 = .ok (.iload 5, 2) := by decide +kernel
theorem dX1_digestOn_166 : decode cX1_digestOn 166 = .ok (.bipush 6, 2) := by decide +kernel
theorem dX1_digestOn_168 : decode cX1_digestOn 168 = .ok (.imul, 1) := by decide +kernel
theorem dX1_digestOn_169 : decode cX1_digestOn 169 = .ok (.bipush 6, 2) := by decide +kernel
theorem dX1_digestOn_171 : decode cX1_digestOn 171 = .ok (.invokestatic 77, 3) := by decide +kernel
theorem dX1_digestOn_174 : decode cX1_digestOn 174 = .ok (.lstore_n 3, 1) := by decide +kernel
theorem dX1_digestOn_175 : decode cX1_digestOn 175 = .ok (.iinc 5 1, 3) := by decide +kernel
theorem dX1_digestOn_178 : decode cX1_digestOn 178 = .ok (.goto (-45), 3) := by decide +kernel
theorem dX1_digestOn_181 : decode cX1_digestOn 181 = .ok (.lload_n 3, 1) := by decide +kernel
theorem dX1_digestOn_182 : decode cX1_digestOn 182 = .ok (.aload_n 0, 1) := by decide +kernel
theorem dX1_digestOn_183 : decode cX1_digestOn 183 = .ok (.getfield 27, 3) := by decide +kernel
theorem dX1_digestOn_186 : decode cX1_digestOn 186 = .ok (.iconst 0, 1) := by decide +kernel
theorem dX1_digestOn_187 : decode cX1_digestOn 187 = .ok (.iconst 5, 1) := by decide +kernel
theorem dX1_digestOn_188 : decode cX1_digestOn 188 = .ok (.invokestatic 77, 3) := by decide +kernel
theorem dX1_digestOn_191 : decode cX1_digestOn 191 = .ok (.lstore_n 3, 1) := by decide +kernel
theorem dX1_digestOn_192 : decode cX1_digestOn 192 = .ok (.lload_n 3, 1) := by decide +kernel
theorem dX1_digestOn_193 : decode cX1_digestOn 193 = .ok (.aload_n 0, 1) := by decide +kernel
theorem dX1_digestOn_194 : decode cX1_digestOn 194 = .ok (.getfield 30, 3) := by decide +kernel
theorem dX1_digestOn_197 : decode cX1_digestOn 197 = .ok (.iconst 0, 1) := by decide +kernel
theorem dX1_digestOn_198 : decode cX1_digestOn 198 = .ok (.aload_n 0, 1) := by decide +kernel
theorem dX1_digestOn_199 : decode cX1_digestOn 199 = .ok (.getfield 50, 3) := by decide +kernel
theorem dX1_digestOn_202 : decode cX1_digestOn 202 = .ok (.invokestatic 77, 3) := by decide +kernel
theorem dX1_digestOn_205 : decode cX1_digestOn 205 = .ok (.lstore_n 3, 1) := by decide +kernel
theorem dX1_digestOn_206 : decode cX1_digestOn 206 = .ok (.lload_n 3, 1) := by decide +kernel
theorem dX1_digestOn_207 : decode cX1_digestOn 207 = .ok (.aload_n 0, 1) := by decide +kernel
theorem dX1_digestOn_208 : decode cX1_digestOn 208 = .ok (.getfield 33, 3) := by decide +kernel
theorem dX1_digestOn_211 : decode cX1_digestOn 211 = .ok (.iconst 0, 1) := by decide +kernel
theorem dX1_digestOn_212 : decode cX1_digestOn 212 = .ok (.aload_n 0, 1) := by decide +kernel
theorem dX1_digestOn_213 : decode cX1_digestOn 213 = .ok (.getfield 53, 3) := by decide +kernel
theorem dX1_digestOn_216 : decode cX1_digestOn 216 = .ok (.bipush 10, 2) := by decide +kernel
theorem dX1_digestOn_218 : decode cX1_digestOn 218 = .ok (.imul, 1) := by decide +kernel
theorem dX1_digestOn_219 : decode cX1_digestOn 219 = .ok (.invokestatic 77, 3) := by decide +kernel
theorem dX1_digestOn_222 : decode cX1_digestOn 222 = .ok (.lstore_n 3, 1) := by decide +kernel
theorem dX1_digestOn_223 : decode cX1_digestOn 223 = .ok (.lload_n 3, 1) := by decide +kernel
theorem dX1_digestOn_224 : decode cX1_digestOn 224 = .ok (.aload_n 0, 1) := by decide +kernel
theorem dX1_digestOn_225 : decode cX1_digestOn 225 = .ok (.getfield 36, 3) := by decide +kernel
theorem dX1_digestOn_228 : decode cX1_digestOn 228 = .ok (.iconst 0, 1) := by decide +kernel
theorem dX1_digestOn_229 : decode cX1_digestOn 229 = .ok (.aload_n 0, 1) := by decide +kernel
theorem dX1_digestOn_230 : decode cX1_digestOn 230 = .ok (.getfield 56, 3) := by decide +kernel
theorem dX1_digestOn_233 : decode cX1_digestOn 233 = .ok (.invokestatic 77, 3) := by decide +kernel
theorem dX1_digestOn_236 : decode cX1_digestOn 236 = .ok (.lreturn, 1) := by decide +kernel
theorem dX2_init_0 : decode cX2_init 0 = .ok (.aload_n 0, 1) := by decide +kernel
theorem dX2_init_1 : decode cX2_init 1 = .ok (.invokespecial 3, 3) := by decide +kernel
theorem dX2_init_4 : decode cX2_init 4 = .ok (.aload_n 0, 1) := by decide +kernel
theorem dX2_init_5 : decode cX2_init 5 = .ok (.new 9, 3) := by decide +kernel
theorem dX2_init_8 : decode cX2_init 8 = .ok (.dup, 1) := by decide +kernel
theorem dX2_init_9 : decode cX2_init 9 = .ok (.invokespecial 11, 3) := by decide +kernel
theorem dX2_init_12 : decode cX2_init 12 = .ok (.putfield 12, 3) := by decide +kernel
theorem dX2_init_15 : decode cX2_init 15 = .ok (.aload_n 0, 1) := by decide +kernel
theorem dX2_init_16 : decode cX2_init 16 = .ok (.new 9, 3) := by decide +kernel
theorem dX2_init_19 : decode cX2_init 19 = .ok (.dup, 1) := by decide +kernel
theorem dX2_init_20 : decode cX2_init 20 = .ok (.invokespecial 11, 3) := by decide +kernel
theorem dX2_init_23 : decode cX2_init 23 = .ok (.putfield 18, 3) := by decide +kernel
theorem dX2_init_26 : decode cX2_init 26 = .ok (.aload_n 0, 1) := by decide +kernel
theorem dX2_init_27 : decode cX2_init 27 = .ok (.new 9, 3) := by decide +kernel
theorem dX2_init_30 : decode cX2_init 30 = .ok (.dup, 1) := by decide +kernel
theorem dX2_init_31 : decode cX2_init 31 = .ok (.invokespecial 11, 3) := by decide +kernel
theorem dX2_init_34 : decode cX2_init 34 = .ok (.putfield 21, 3) := by decide +kernel
theorem dX2_init_37 : decode cX2_init 37 = .ok (.aload_n 0, 1) := by decide +kernel
theorem dX2_init_38 : decode cX2_init 38 = .ok (.getfield 18, 3) := by decide +kernel
theorem dX2_init_41 : decode cX2_init 41 = .ok (.iconst 1, 1) := by decide +kernel
theorem dX2_init_42 : decode cX2_init 42 = .ok (.invokevirtual 24, 3) := by decide +kernel
theorem dX2_init_45 : decode cX2_init 45 = .ok (.return_, 1) := by decide +kernel
theorem dX2_becomeShare_0 : decode cX2_becomeShare 0 = .ok (.iload_n 1, 1) := by decide +kernel
theorem dX2_becomeShare_1 : decode cX2_becomeShare 1 = .ok (.iload_n 2, 1) := by decide +kernel
theorem dX2_becomeShare_2 : decode cX2_becomeShare 2 = .ok (.invokestatic 28, 3) := by decide +kernel
theorem dX2_becomeShare_5 : decode cX2_becomeShare 5 = .ok (.istore_n 3, 1) := by decide +kernel
theorem dX2_becomeShare_6 : decode cX2_becomeShare 6 = .ok (.aload_n 0, 1) := by decide +kernel
theorem dX2_becomeShare_7 : decode cX2_becomeShare 7 = .ok (.getfield 12, 3) := by decide +kernel
theorem dX2_becomeShare_10 : decode cX2_becomeShare 10 = .ok (.iload_n 1, 1) := by decide +kernel
theorem dX2_becomeShare_11 : decode cX2_becomeShare 11 = .ok (.iload_n 3, 1) := by decide +kernel
theorem dX2_becomeShare_12 : decode cX2_becomeShare 12 = .ok (.idiv, 1) := by decide +kernel
theorem dX2_becomeShare_13 : decode cX2_becomeShare 13 = .ok (.invokevirtual 24, 3) := by decide +kernel
theorem dX2_becomeShare_16 : decode cX2_becomeShare 16 = .ok (.aload_n 0, 1) := by decide +kernel
theorem dX2_becomeShare_17 : decode cX2_becomeShare 17 = .ok (.getfield 18, 3) := by decide +kernel
theorem dX2_becomeShare_20 : decode cX2_becomeShare 20 = .ok (.iload_n 2, 1) := by decide +kernel
theorem dX2_becomeShare_21 : decode cX2_becomeShare 21 = .ok (.iload_n 3, 1) := by decide +kernel
theorem dX2_becomeShare_22 : decode cX2_becomeShare 22 = .ok (.idiv, 1) := by decide +kernel
theorem dX2_becomeShare_23 : decode cX2_becomeShare 23 = .ok (.invokevirtual 24, 3) := by decide +kernel
theorem dX2_becomeShare_26 : decode cX2_becomeShare 26 = .ok (.return_, 1) := by decide +kernel
theorem dX2_commonDivisor_0 : decode cX2_commonDivisor 0 = .ok (.iload_n 0, 1) := by decide +kernel
theorem dX2_commonDivisor_1 : decode cX2_commonDivisor 1 = .ok (.istore_n 2, 1) := by decide +kernel
theorem dX2_commonDivisor_2 : decode cX2_commonDivisor 2 = .ok (.iload_n 1, 1) := by decide +kernel
theorem dX2_commonDivisor_3 : decode cX2_commonDivisor 3 = .ok (.istore_n 3, 1) := by decide +kernel
theorem dX2_commonDivisor_4 : decode cX2_commonDivisor 4 = .ok (.iconst 0, 1) := by decide +kernel
theorem dX2_commonDivisor_5 : decode cX2_commonDivisor 5 = .ok (.istore 4, 2) := by decide +kernel
theorem dX2_commonDivisor_7 : decode cX2_commonDivisor 7 = .ok (.iload 4, 2) := by decide +kernel
theorem dX2_commonDivisor_9 : decode cX2_commonDivisor 9 = .ok (.bipush 100, 2) := by decide +kernel
theorem dX2_commonDivisor_11 : decode cX2_commonDivisor 11 = .ok (.if_icmp .ge 23, 3) := by decide +kernel
theorem dX2_commonDivisor_14 : decode cX2_commonDivisor 14 = .ok (.iload_n 3, 1) := by decide +kernel
theorem dX2_commonDivisor_15 : decode cX2_commonDivisor 15 = .ok (.ifCond .le 19, 3) := by decide +kernel
theorem dX2_commonDivisor_18 : decode cX2_commonDivisor 18 = .ok (.iload_n 2, 1) := by decide +kernel
theorem dX2_commonDivisor_19 : decode cX2_commonDivisor 19 = .ok (.iload_n 3, 1) := by decide +kernel
theorem dX2_commonDivisor_20 : decode cX2_commonDivisor 20 = .ok (.irem, 1) := by decide +kernel
theorem dX2_commonDivisor_21 : decode cX2_commonDivisor 21 = .ok (.istore 5, 2) := by decide +kernel
theorem dX2_commonDivisor_23 : decode cX2_commonDivisor 23 = .ok (.iload_n 3, 1) := by decide +kernel
theorem dX2_commonDivisor_24 : decode cX2_commonDivisor 24 = .ok (.istore_n 2, 1) := by decide +kernel
theorem dX2_commonDivisor_25 : decode cX2_commonDivisor 25 = .ok (.iload 5, 2) := by decide +kernel
theorem dX2_commonDivisor_27 : decode cX2_commonDivisor 27 = .ok (.istore_n 3, 1) := by decide +kernel
theorem dX2_commonDivisor_28 : decode cX2_commonDivisor 28 = .ok (.iinc 4 1, 3) := by decide +kernel
theorem dX2_commonDivisor_31 : decode cX2_commonDivisor 31 = .ok (.goto (-24), 3) := by decide +kernel
theorem dX2_commonDivisor_34 : decode cX2_commonDivisor 34 = .ok (.iconst 1, 1) := by decide +kernel
theorem dX2_commonDivisor_35 : decode cX2_commonDivisor 35 = .ok (.iload_n 2, 1) := by decide +kernel
theorem dX2_commonDivisor_36 : decode cX2_commonDivisor 36 = .ok (.invokestatic 32, 3) := by decide +kernel
theorem dX2_commonDivisor_39 : decode cX2_commonDivisor 39 = .ok (.ireturn, 1) := by decide +kernel
theorem dX2_becomeMost_0 : decode cX2_becomeMost 0 = .ok (.iload_n 1, 1) := by decide +kernel
theorem dX2_becomeMost_1 : decode cX2_becomeMost 1 = .ok (.iload_n 2, 1) := by decide +kernel
theorem dX2_becomeMost_2 : decode cX2_becomeMost 2 = .ok (.invokestatic 28, 3) := by decide +kernel
theorem dX2_becomeMost_5 : decode cX2_becomeMost 5 = .ok (.istore 5, 2) := by decide +kernel
theorem dX2_becomeMost_7 : decode cX2_becomeMost 7 = .ok (.iload_n 1, 1) := by decide +kernel
theorem dX2_becomeMost_8 : decode cX2_becomeMost 8 = .ok (.iload 5, 2) := by decide +kernel
theorem dX2_becomeMost_10 : decode cX2_becomeMost 10 = .ok (.idiv, 1) := by decide +kernel
theorem dX2_becomeMost_11 : decode cX2_becomeMost 11 = .ok (.istore 6, 2) := by decide +kernel
theorem dX2_becomeMost_13 : decode cX2_becomeMost 13 = .ok (.iload_n 2, 1) := by decide +kernel
theorem dX2_becomeMost_14 : decode cX2_becomeMost 14 = .ok (.iload 5, 2) := by decide +kernel
theorem dX2_becomeMost_16 : decode cX2_becomeMost 16 = .ok (.idiv, 1) := by decide +kernel
theorem dX2_becomeMost_17 : decode cX2_becomeMost 17 = .ok (.istore 7, 2) := by decide +kernel
theorem dX2_becomeMost_19 : decode cX2_becomeMost 19 = .ok (.aload_n 0, 1) := by decide +kernel
theorem dX2_becomeMost_20 : decode cX2_becomeMost 20 = .ok (.getfield 12, 3) := by decide +kernel
theorem dX2_becomeMost_23 : decode cX2_becomeMost 23 = .ok (.iconst 0, 1) := by decide +kernel
theorem dX2_becomeMost_24 : decode cX2_becomeMost 24 = .ok (.invokevirtual 24, 3) := by decide +kernel
theorem dX2_becomeMost_27 : decode cX2_becomeMost 27 = .ok (.iload 4, 2) := by decide +kernel
theorem dX2_becomeMost_29 : decode cX2_becomeMost 29 = .ok (.istore 8, 2) := by decide +kernel
theorem dX2_becomeMost_31 : decode cX2_becomeMost 31 = .ok (.iload 8, 2) := by decide +kernel
theorem dX2_becomeMost_33 : decode cX2_becomeMost 33 = .ok (.iload_n 3, 1) := by decide +kernel
theorem dX2_becomeMost_34 : decode cX2_becomeMost 34 = .ok (.if_icmp .gt 54, 3) := by decide +kernel
theorem dX2_becomeMost_37 : decode cX2_becomeMost 37 = .ok (.aload_n 0, 1) := by decide +kernel
theorem dX2_becomeMost_38 : decode cX2_becomeMost 38 = .ok (.getfield 21, 3) := by decide +kernel
theorem dX2_becomeMost_41 : decode cX2_becomeMost 41 = .ok (.iload_n 3, 1) := by decide +kernel
theorem dX2_becomeMost_42 : decode cX2_becomeMost 42 = .ok (.iload 8, 2) := by decide +kernel
theorem dX2_becomeMost_44 : decode cX2_becomeMost 44 = .ok (.invokestatic 37, 3) := by decide +kernel
theorem dX2_becomeMost_47 : decode cX2_becomeMost 47 = .ok (.invokevirtual 24, 3) := by decide +kernel
theorem dX2_becomeMost_50 : decode cX2_becomeMost 50 = .ok (.aload_n 0, 1) := by decide +kernel
theorem dX2_becomeMost_51 : decode cX2_becomeMost 51 = .ok (.iload 6, 2) := by decide +kernel
theorem dX2_becomeMost_53 : decode cX2_becomeMost 53 = .ok (.iload 8, 2) := by decide +kernel
theorem dX2_becomeMost_55 : decode cX2_becomeMost 55 = .ok (.invokevirtual 40, 3) := by decide +kernel
theorem dX2_becomeMost_58 : decode cX2_becomeMost 58 = .ok (.aload_n 0, 1) := by decide +kernel
theorem dX2_becomeMost_59 : decode cX2_becomeMost 59 = .ok (.iload 7, 2) := by decide +kernel
theorem dX2_becomeMost_61 : decode cX2_becomeMost 61 = .ok (.iload 6, 2) := by decide +kernel
theorem dX2_becomeMost_63 : decode cX2_becomeMost 63 = .ok (.isub, 1) := by decide +kernel
theorem dX2_becomeMost_64 : decode cX2_becomeMost 64 = .ok (.iload_n 3, 1) := by decide +kernel
theorem dX2_becomeMost_65 : decode cX2_becomeMost 65 = .ok (.iload 8, 2) := by decide +kernel
theorem dX2_becomeMost_67 : decode cX2_becomeMost 67 = .ok (.isub, 1) := by decide +kernel
theorem dX2_becomeMost_68 : decode cX2_becomeMost 68 = .ok (.invokevirtual 40, 3) := by decide +kernel
theorem dX2_becomeMost_71 : decode cX2_becomeMost 71 = .ok (.aload_n 0, 1) := by decide +kernel
theorem dX2_becomeMost_72 : decode cX2_becomeMost 72 = .ok (.getfield 12, 3) := by decide +kernel
theorem dX2_becomeMost_75 : decode cX2_becomeMost 75 = .ok (.aload_n 0, 1) := by decide +kernel
theorem dX2_becomeMost_76 : decode cX2_becomeMost 76 = .ok (.getfield 21, 3) := by decide +kernel
theorem dX2_becomeMost_79 : decode cX2_becomeMost 79 = .ok (.invokevirtual 44, 3) := by decide +kernel
theorem dX2_becomeMost_82 : decode cX2_becomeMost 82 = .ok (.iinc 8 1, 3) := by decide +kernel
theorem dX2_becomeMost_85 : decode cX2_becomeMost 85 = .ok (.goto (-54), 3) := by decide +kernel
theorem dX2_becomeMost_88 : decode cX2_becomeMost 88 = .ok (.aload_n 0, 1) := by decide +kernel
theorem dX2_becomeMost_89 : decode cX2_becomeMost 89 = .ok (.getfield 21, 3) := by decide +kernel
theorem dX2_becomeMost_92 : decode cX2_becomeMost 92 = .ok (.iconst 1, 1) := by decide +kernel
theorem dX2_becomeMost_93 : decode cX2_becomeMost 93 = .ok (.invokevirtual 24, 3) := by decide +kernel
theorem dX2_becomeMost_96 : decode cX2_becomeMost 96 = .ok (.aload_n 0, 1) := by decide +kernel
theorem dX2_becomeMost_97 : decode cX2_becomeMost 97 = .ok (.iload 7, 2) := by decide +kernel
theorem dX2_becomeMost_99 : decode cX2_becomeMost 99 = .ok (.iload_n 3, 1) := by decide +kernel
theorem dX2_becomeMost_100 : decode cX2_becomeMost 100 = .ok (.invokevirtual 40, 3) := by decide +kernel
theorem dX2_becomeMost_103 : decode cX2_becomeMost 103 = .ok (.aload_n 0, 1) := by decide +kernel
theorem dX2_becomeMost_104 : decode cX2_becomeMost 104 = .ok (.getfield 18, 3) := by decide +kernel
theorem dX2_becomeMost_107 : decode cX2_becomeMost 107 = .ok (.aload_n 0, 1) := by decide +kernel
theorem dX2_becomeMost_108 : decode cX2_becomeMost 108 = .ok (.getfield 21, 3) := by decide +kernel
theorem dX2_becomeMost_111 : decode cX2_becomeMost 111 = .ok (.invokevirtual 48, 3) := by decide +kernel
theorem dX2_becomeMost_114 : decode cX2_becomeMost 114 = .ok (.aload_n 0, 1) := by decide +kernel
theorem dX2_becomeMost_115 : decode cX2_becomeMost 115 = .ok (.iload 7, 2) := by decide +kernel
theorem dX2_becomeMost_117 : decode cX2_becomeMost 117 = .ok (.invokevirtual 51, 3) := by decide +kernel
theorem dX2_becomeMost_120 : decode cX2_becomeMost 120 = .ok (.return_, 1) := by decide +kernel
theorem dX2_multiplyTerm_0 : decode cX2_multiplyTerm 0 = .ok (.iconst 0, 1) := by decide +kernel
theorem dX2_multiplyTerm_1 : decode cX2_multiplyTerm 1 = .ok (.istore_n 3, 1) := by decide +kernel
theorem dX2_multiplyTerm_2 : decode cX2_multiplyTerm 2 = .ok (.iload_n 3, 1) := by decide +kernel
theorem dX2_multiplyTerm_3 : decode cX2_multiplyTerm 3 = .ok (.iload_n 2, 1) := by decide +kernel
theorem dX2_multiplyTerm_4 : decode cX2_multiplyTerm 4 = .ok (.if_icmp .ge 17, 3) := by decide +kernel
theorem dX2_multiplyTerm_7 : decode cX2_multiplyTerm 7 = .ok (.aload_n 0, 1) := by decide +kernel
theorem dX2_multiplyTerm_8 : decode cX2_multiplyTerm 8 = .ok (.getfield 21, 3) := by decide +kernel
theorem dX2_multiplyTerm_11 : decode cX2_multiplyTerm 11 = .ok (.iload_n 1, 1) := by decide +kernel
theorem dX2_multiplyTerm_12 : decode cX2_multiplyTerm 12 = .ok (.invokevirtual 54, 3) := by decide +kernel
theorem dX2_multiplyTerm_15 : decode cX2_multiplyTerm 15 = .ok (.iinc 3 1, 3) := by decide +kernel
theorem dX2_multiplyTerm_18 : decode cX2_multiplyTerm 18 = .ok (.goto (-16), 3) := by decide +kernel
theorem dX2_multiplyTerm_21 : decode cX2_multiplyTerm 21 = .ok (.return_, 1) := by decide +kernel
theorem dX2_ways_0 : decode cX2_ways 0 = .ok (.iconst 1, 1) := by decide +kernel
theorem dX2_ways_1 : decode cX2_ways 1 = .ok (.istore_n 2, 1) := by decide +kernel
theorem dX2_ways_2 : decode cX2_ways 2 = .ok (.iconst 0, 1) := by decide +kernel
theorem dX2_ways_3 : decode cX2_ways 3 = .ok (.istore_n 3, 1) := by decide +kernel
theorem dX2_ways_4 : decode cX2_ways 4 = .ok (.iload_n 3, 1) := by decide +kernel
theorem dX2_ways_5 : decode cX2_ways 5 = .ok (.iload_n 1, 1) := by decide +kernel
theorem dX2_ways_6 : decode cX2_ways 6 = .ok (.if_icmp .ge 19, 3) := by decide +kernel
theorem dX2_ways_9 : decode cX2_ways 9 = .ok (.iload_n 2, 1) := by decide +kernel
theorem dX2_ways_10 : decode cX2_ways 10 = .ok (.iload_n 0, 1) := by decide +kernel
theorem dX2_ways_11 : decode cX2_ways 11 = .ok (.iload_n 3, 1) := by decide +kernel
theorem dX2_ways_12 : decode cX2_ways 12 = .ok (.isub, 1) := by decide +kernel
theorem dX2_ways_13 : decode cX2_ways 13 = .ok (.imul, 1) := by decide +kernel
theorem dX2_ways_14 : decode cX2_ways 14 = .ok (.iload_n 3, 1) := by decide +kernel
theorem dX2_ways_15 : decode cX2_ways 15 = .ok (.iconst 1, 1) := by decide +kernel
theorem dX2_ways_16 : decode cX2_ways 16 = .ok (.iadd, 1) := by decide +kernel
theorem dX2_ways_17 : decode cX2_ways 17 = .ok (.idiv, 1) := by decide +kernel
theorem dX2_ways_18 : decode cX2_ways 18 = .ok (.istore_n 2, 1) := by decide +kernel
theorem dX2_ways_19 : decode cX2_ways 19 = .ok (.iinc 3 1, 3) := by decide +kernel
theorem dX2_ways_22 : decode cX2_ways 22 = .ok (.goto (-18), 3) := by decide +kernel
theorem dX2_ways_25 : decode cX2_ways 25 = .ok (.iload_n 2, 1) := by decide +kernel
theorem dX2_ways_26 : decode cX2_ways 26 = .ok (.ireturn, 1) := by decide +kernel
theorem dX2_becomeHouse_0 : decode cX2_becomeHouse 0 = .ok (.aload_n 0, 1) := by decide +kernel
theorem dX2_becomeHouse_1 : decode cX2_becomeHouse 1 = .ok (.getfield 18, 3) := by decide +kernel
theorem dX2_becomeHouse_4 : decode cX2_becomeHouse 4 = .ok (.iconst 0, 1) := by decide +kernel
theorem dX2_becomeHouse_5 : decode cX2_becomeHouse 5 = .ok (.invokevirtual 24, 3) := by decide +kernel
theorem dX2_becomeHouse_8 : decode cX2_becomeHouse 8 = .ok (.iconst 0, 1) := by decide +kernel
theorem dX2_becomeHouse_9 : decode cX2_becomeHouse 9 = .ok (.istore_n 3, 1) := by decide +kernel
theorem dX2_becomeHouse_10 : decode cX2_becomeHouse 10 = .ok (.iload_n 3, 1) := by decide +kernel
theorem dX2_becomeHouse_11 : decode cX2_becomeHouse 11 = .ok (.aload_n 1, 1) := by decide +kernel
theorem dX2_becomeHouse_12 : decode cX2_becomeHouse 12 = .ok (.getfield 57, 3) := by decide +kernel
theorem dX2_becomeHouse_15 : decode cX2_becomeHouse 15 = .ok (.if_icmp .ge 42, 3) := by decide +kernel
theorem dX2_becomeHouse_18 : decode cX2_becomeHouse 18 = .ok (.aload_n 0, 1) := by decide +kernel
theorem dX2_becomeHouse_19 : decode cX2_becomeHouse 19 = .ok (.aload_n 1, 1) := by decide +kernel
theorem dX2_becomeHouse_20 : decode cX2_becomeHouse 20 = .ok (.iload_n 3, 1) := by decide +kernel
theorem dX2_becomeHouse_21 : decode cX2_becomeHouse 21 = .ok (.invokevirtual 63, 3) := by decide +kernel
theorem dX2_becomeHouse_24 : decode cX2_becomeHouse 24 = .ok (.aload_n 0, 1) := by decide +kernel
theorem dX2_becomeHouse_25 : decode cX2_becomeHouse 25 = .ok (.getfield 18, 3) := by decide +kernel
theorem dX2_becomeHouse_28 : decode cX2_becomeHouse 28 = .ok (.aload_n 0, 1) := by decide +kernel
theorem dX2_becomeHouse_29 : decode cX2_becomeHouse 29 = .ok (.getfield 21, 3) := by decide +kernel
theorem dX2_becomeHouse_32 : decode cX2_becomeHouse 32 = .ok (.invokevirtual 44, 3) := by decide +kernel
theorem dX2_becomeHouse_35 : decode cX2_becomeHouse 35 = .ok (.iload_n 3, 1) := by decide +kernel
theorem dX2_becomeHouse_36 : decode cX2_becomeHouse 36 = .ok (.iload_n 2, 1) := by decide +kernel
theorem dX2_becomeHouse_37 : decode cX2_becomeHouse 37 = .ok (.if_icmp .ne 14, 3) := by decide +kernel
theorem dX2_becomeHouse_40 : decode cX2_becomeHouse 40 = .ok (.aload_n 0, 1) := by decide +kernel
theorem dX2_becomeHouse_41 : decode cX2_becomeHouse 41 = .ok (.getfield 12, 3) := by decide +kernel
theorem dX2_becomeHouse_44 : decode cX2_becomeHouse 44 = .ok (.aload_n 0, 1) := by decide +kernel
theorem dX2_becomeHouse_45 : decode cX2_becomeHouse 45 = .ok (.getfield 21, 3) := by decide +kernel
theorem dX2_becomeHouse_48 : decode cX2_becomeHouse 48 = .ok (.invokevirtual 48, 3) := by decide +kernel
theorem dX2_becomeHouse_51 : decode cX2_becomeHouse 51 = .ok (.iinc 3 1, 3) := by decide +kernel
theorem dX2_becomeHouse_54 : decode cX2_becomeHouse 54 = .ok (.goto (-44), 3) := by decide +kernel
theorem dX2_becomeHouse_57 : decode cX2_becomeHouse 57 = .ok (.iconst 2, 1) := by decide +kernel
theorem dX2_becomeHouse_58 : decode cX2_becomeHouse 58 = .ok (.istore_n 3, 1) := by decide +kernel
theorem dX2_becomeHouse_59 : decode cX2_becomeHouse 59 = .ok (.iload_n 3, 1) := by decide +kernel
theorem dX2_becomeHouse_60 : decode cX2_becomeHouse 60 = .ok (.bipush 90, 2) := by decide +kernel
theorem dX2_becomeHouse_62 : decode cX2_becomeHouse 62 = .ok (.if_icmp .gt 14, 3) := by decide +kernel
theorem dX2_becomeHouse_65 : decode cX2_becomeHouse 65 = .ok (.aload_n 0, 1) := by decide +kernel
theorem dX2_becomeHouse_66 : decode cX2_becomeHouse 66 = .ok (.iload_n 3, 1) := by decide +kernel
theorem dX2_becomeHouse_67 : decode cX2_becomeHouse 67 = .ok (.invokevirtual 67, 3) := by decide +kernel
theorem dX2_becomeHouse_70 : decode cX2_becomeHouse 70 = .ok (.iinc 3 1, 3) := by decide +kernel
theorem dX2_becomeHouse_73 : decode cX2_becomeHouse 73 = .ok (.goto (-14), 3) := by decide +kernel
theorem dX2_becomeHouse_76 : decode cX2_becomeHouse 76 = .ok (.aload_n 0, 1) := by decide +kernel
theorem dX2_becomeHouse_77 : decode cX2_becomeHouse 77 = .ok (.invokevirtual 70, 3) := by decide +kernel
theorem dX2_becomeHouse_80 : decode cX2_becomeHouse 80 = .ok (.return_, 1) := by decide +kernel
theorem dX2_weigh_0 : decode cX2_weigh 0 = .ok (.aload_n 0, 1) := by decide +kernel
theorem dX2_weigh_1 : decode cX2_weigh 1 = .ok (.getfield 21, 3) := by decide +kernel
theorem dX2_weigh_4 : decode cX2_weigh 4 = .ok (.iconst 1, 1) := by decide +kernel
theorem dX2_weigh_5 : decode cX2_weigh 5 = .ok (.invokevirtual 24, 3) := by decide +kernel
theorem dX2_weigh_8 : decode cX2_weigh 8 = .ok (.iconst 0, 1) := by decide +kernel
theorem dX2_weigh_9 : decode cX2_weigh 9 = .ok (.istore_n 3, 1) := by decide +kernel
theorem dX2_weigh_10 : decode cX2_weigh 10 = .ok (.iload_n 3, 1) := by decide +kernel
theorem dX2_weigh_11 : decode cX2_weigh 11 = .ok (.aload_n 1, 1) := by decide +kernel
theorem dX2_weigh_12 : decode cX2_weigh 12 = .ok (.getfield 73, 3) := by decide +kernel
theorem dX2_weigh_15 : decode cX2_weigh 15 = .ok (.if_icmp .ge 29, 3) := by decide +kernel
theorem dX2_weigh_18 : decode cX2_weigh 18 = .ok (.aload_n 0, 1) := by decide +kernel
theorem dX2_weigh_19 : decode cX2_weigh 19 = .ok (.getfield 21, 3) := by decide +kernel
theorem dX2_weigh_22 : decode cX2_weigh 22 = .ok (.aload_n 1, 1) := by decide +kernel
theorem dX2_weigh_23 : decode cX2_weigh 23 = .ok (.iload_n 2, 1) := by decide +kernel
theorem dX2_weigh_24 : decode cX2_weigh 24 = .ok (.aload_n 1, 1) := by decide +kernel
theorem dX2_weigh_25 : decode cX2_weigh 25 = .ok (.getfield 76, 3) := by decide +kernel
theorem dX2_weigh_28 : decode cX2_weigh 28 = .ok (.iload_n 3, 1) := by decide +kernel
theorem dX2_weigh_29 : decode cX2_weigh 29 = .ok (.invokestatic 80, 3) := by decide +kernel
theorem dX2_weigh_32 : decode cX2_weigh 32 = .ok (.invokevirtual 84, 3) := by decide +kernel
theorem dX2_weigh_35 : decode cX2_weigh 35 = .ok (.invokevirtual 54, 3) := by decide +kernel
theorem dX2_weigh_38 : decode cX2_weigh 38 = .ok (.iinc 3 1, 3) := by decide +kernel
theorem dX2_weigh_41 : decode cX2_weigh 41 = .ok (.goto (-31), 3) := by decide +kernel
theorem dX2_weigh_44 : decode cX2_weigh 44 = .ok (.iconst 0, 1) := by decide +kernel
theorem dX2_weigh_45 : decode cX2_weigh 45 = .ok (.istore_n 3, 1) := by decide +kernel
theorem dX2_weigh_46 : decode cX2_weigh 46 = .ok (.iload_n 3, 1) := by decide +kernel
theorem dX2_weigh_47 : decode cX2_weigh 47 = .ok (.aload_n 1, 1) := by decide +kernel
theorem dX2_weigh_48 : decode cX2_weigh 48 = .ok (.getfield 57, 3) := by decide +kernel
theorem dX2_weigh_51 : decode cX2_weigh 51 = .ok (.if_icmp .ge 36, 3) := by decide +kernel
theorem dX2_weigh_54 : decode cX2_weigh 54 = .ok (.aload_n 1, 1) := by decide +kernel
theorem dX2_weigh_55 : decode cX2_weigh 55 = .ok (.iload_n 3, 1) := by decide +kernel
theorem dX2_weigh_56 : decode cX2_weigh 56 = .ok (.invokevirtual 87, 3) := by decide +kernel
theorem dX2_weigh_59 : decode cX2_weigh 59 = .ok (.istore 4, 2) := by decide +kernel
theorem dX2_weigh_61 : decode cX2_weigh 61 = .ok (.iload_n 3, 1) := by decide +kernel
theorem dX2_weigh_62 : decode cX2_weigh 62 = .ok (.iload_n 2, 1) := by decide +kernel
theorem dX2_weigh_63 : decode cX2_weigh 63 = .ok (.if_icmp .eq 18, 3) := by decide +kernel
theorem dX2_weigh_66 : decode cX2_weigh 66 = .ok (.iload 4, 2) := by decide +kernel
theorem dX2_weigh_68 : decode cX2_weigh 68 = .ok (.ifCond .le 13, 3) := by decide +kernel
theorem dX2_weigh_71 : decode cX2_weigh 71 = .ok (.aload_n 0, 1) := by decide +kernel
theorem dX2_weigh_72 : decode cX2_weigh 72 = .ok (.iload 4, 2) := by decide +kernel
theorem dX2_weigh_74 : decode cX2_weigh 74 = .ok (.aload_n 1, 1) := by decide +kernel
theorem dX2_weigh_75 : decode cX2_weigh 75 = .ok (.getfield 73, 3) := by decide +kernel
theorem dX2_weigh_78 : decode cX2_weigh 78 = .ok (.invokevirtual 40, 3) := by decide +kernel
theorem dX2_weigh_81 : decode cX2_weigh 81 = .ok (.iinc 3 1, 3) := by decide +kernel
theorem dX2_weigh_84 : decode cX2_weigh 84 = .ok (.goto (-38), 3) := by decide +kernel
theorem dX2_weigh_87 : decode cX2_weigh 87 = .ok (.return_, 1) := by decide +kernel
theorem dX2_lowerByFactorsOf_0 : decode cX2_lowerByFactorsOf 0 = .ok (.iload_n 1, 1) := by decide +kernel
theorem dX2_lowerByFactorsOf_1 : decode cX2_lowerByFactorsOf 1 = .ok (.istore_n 2, 1) := by decide +kernel
theorem dX2_lowerByFactorsOf_2 : decode cX2_lowerByFactorsOf 2 = .ok (.iconst 2, 1) := by decide +kernel
theorem dX2_lowerByFactorsOf_3 : decode cX2_lowerByFactorsOf 3 = .ok (.istore_n 3, 1) := by decide +kernel
theorem dX2_lowerByFactorsOf_4 : decode cX2_lowerByFactorsOf 4 = .ok (.iload_n 3, 1) := by decide +kernel
theorem dX2_lowerByFactorsOf_5 : decode cX2_lowerByFactorsOf 5 = .ok (.iload_n 2, 1) := by decide +kernel
theorem dX2_lowerByFactorsOf_6 : decode cX2_lowerByFactorsOf 6 = .ok (.iload_n 3, 1) := by decide +kernel
theorem dX2_lowerByFactorsOf_7 : decode cX2_lowerByFactorsOf 7 = .ok (.idiv, 1) := by decide +kernel
theorem dX2_lowerByFactorsOf_8 : decode cX2_lowerByFactorsOf 8 = .ok (.if_icmp .gt 26, 3) := by decide +kernel
theorem dX2_lowerByFactorsOf_11 : decode cX2_lowerByFactorsOf 11 = .ok (.iload_n 2, 1) := by decide +kernel
theorem dX2_lowerByFactorsOf_12 : decode cX2_lowerByFactorsOf 12 = .ok (.iload_n 3, 1) := by decide +kernel
theorem dX2_lowerByFactorsOf_13 : decode cX2_lowerByFactorsOf 13 = .ok (.irem, 1) := by decide +kernel
theorem dX2_lowerByFactorsOf_14 : decode cX2_lowerByFactorsOf 14 = .ok (.ifCond .ne 14, 3) := by decide +kernel
theorem dX2_lowerByFactorsOf_17 : decode cX2_lowerByFactorsOf 17 = .ok (.aload_n 0, 1) := by decide +kernel
theorem dX2_lowerByFactorsOf_18 : decode cX2_lowerByFactorsOf 18 = .ok (.iload_n 3, 1) := by decide +kernel
theorem dX2_lowerByFactorsOf_19 : decode cX2_lowerByFactorsOf 19 = .ok (.invokevirtual 67, 3) := by decide +kernel
theorem dX2_lowerByFactorsOf_22 : decode cX2_lowerByFactorsOf 22 = .ok (.iload_n 2, 1) := by decide +kernel
theorem dX2_lowerByFactorsOf_23 : decode cX2_lowerByFactorsOf 23 = .ok (.iload_n 3, 1) := by decide +kernel
theorem dX2_lowerByFactorsOf_24 : decode cX2_lowerByFactorsOf 24 = .ok (.invokestatic 91, 3) := by decide +kernel
theorem dX2_lowerByFactorsOf_27 : decode cX2_lowerByFactorsOf 27 = .ok (.istore_n 2, 1) := by decide +kernel
theorem dX2_lowerByFactorsOf_28 : decode cX2_lowerByFactorsOf 28 = .ok (.iinc 3 1, 3) := by decide +kernel
theorem dX2_lowerByFactorsOf_31 : decode cX2_lowerByFactorsOf 31 = .ok (.goto (-27), 3) := by decide +kernel
theorem dX2_lowerByFactorsOf_34 : decode cX2_lowerByFactorsOf 34 = .ok (.iload_n 2, 1) := by decide +kernel
theorem dX2_lowerByFactorsOf_35 : decode cX2_lowerByFactorsOf 35 = .ok (.iconst 1, 1) := by decide +kernel
theorem dX2_lowerByFactorsOf_36 : decode cX2_lowerByFactorsOf 36 = .ok (.if_icmp .le 8, 3) := by decide +kernel
theorem dX2_lowerByFactorsOf_39 : decode cX2_lowerByFactorsOf 39 = .ok (.aload_n 0, 1) := by decide +kernel
theorem dX2_lowerByFactorsOf_40 : decode cX2_lowerByFactorsOf 40 = .ok (.iload_n 2, 1) := by decide +kernel
theorem dX2_lowerByFactorsOf_41 : decode cX2_lowerByFactorsOf 41 = .ok (.invokevirtual 67, 3) := by decide +kernel
theorem dX2_lowerByFactorsOf_44 : decode cX2_lowerByFactorsOf 44 = .ok (.aload_n 0, 1) := by decide +kernel
theorem dX2_lowerByFactorsOf_45 : decode cX2_lowerByFactorsOf 45 = .ok (.invokevirtual 70, 3) := by decide +kernel
theorem dX2_lowerByFactorsOf_48 : decode cX2_lowerByFactorsOf 48 = .ok (.return_, 1) := by decide +kernel
theorem dX2_without_0 : decode cX2_without 0 = .ok (.iload_n 0, 1) := by decide +kernel
theorem dX2_without_1 : decode cX2_without 1 = .ok (.istore_n 2, 1) := by decide +kernel
theorem dX2_without_2 : decode cX2_without 2 = .ok (.iconst 0, 1) := by decide +kernel
theorem dX2_without_3 : decode cX2_without 3 = .ok (.istore_n 3, 1) := by decide +kernel
theorem dX2_without_4 : decode cX2_without 4 = .ok (.iload_n 3, 1) := by decide +kernel
theorem dX2_without_5 : decode cX2_without 5 = .ok (.bipush 32, 2) := by decide +kernel
theorem dX2_without_7 : decode cX2_without 7 = .ok (.if_icmp .ge 24, 3) := by decide +kernel
theorem dX2_without_10 : decode cX2_without 10 = .ok (.iload_n 1, 1) := by decide +kernel
theorem dX2_without_11 : decode cX2_without 11 = .ok (.iconst 1, 1) := by decide +kernel
theorem dX2_without_12 : decode cX2_without 12 = .ok (.if_icmp .le 19, 3) := by decide +kernel
theorem dX2_without_15 : decode cX2_without 15 = .ok (.iload_n 2, 1) := by decide +kernel
theorem dX2_without_16 : decode cX2_without 16 = .ok (.iload_n 1, 1) := by decide +kernel
theorem dX2_without_17 : decode cX2_without 17 = .ok (.irem, 1) := by decide +kernel
theorem dX2_without_18 : decode cX2_without 18 = .ok (.ifCond .ne 13, 3) := by decide +kernel
theorem dX2_without_21 : decode cX2_without 21 = .ok (.iload_n 2, 1) := by decide +kernel
theorem dX2_without_22 : decode cX2_without 22 = .ok (.iload_n 1, 1) := by decide +kernel
theorem dX2_without_23 : decode cX2_without 23 = .ok (.idiv, 1) := by decide +kernel
theorem dX2_without_24 : decode cX2_without 24 = .ok (.istore_n 2, 1) := by decide +kernel
theorem dX2_without_25 : decode cX2_without 25 = .ok (.iinc 3 1, 3) := by decide +kernel
theorem dX2_without_28 : decode cX2_without 28 = .ok (.goto (-24), 3) := by decide +kernel
theorem dX2_without_31 : decode cX2_without 31 = .ok (.iload_n 2, 1) := by decide +kernel
theorem dX2_without_32 : decode cX2_without 32 = .ok (.ireturn, 1) := by decide +kernel
theorem dX2_lowerBy_0 : decode cX2_lowerBy 0 = .ok (.aload_n 0, 1) := by decide +kernel
theorem dX2_lowerBy_1 : decode cX2_lowerBy 1 = .ok (.getfield 12, 3) := by decide +kernel
theorem dX2_lowerBy_4 : decode cX2_lowerBy 4 = .ok (.getfield 94, 3) := by decide +kernel
theorem dX2_lowerBy_7 : decode cX2_lowerBy 7 = .ok (.ifCond .ne 4, 3) := by decide +kernel
theorem dX2_lowerBy_10 : decode cX2_lowerBy 10 = .ok (.return_, 1) := by decide +kernel
theorem dX2_lowerBy_11 : decode cX2_lowerBy 11 = .ok (.iconst 0, 1) := by decide +kernel
theorem dX2_lowerBy_12 : decode cX2_lowerBy 12 = .ok (.istore_n 2, 1) := by decide +kernel
theorem dX2_lowerBy_13 : decode cX2_lowerBy 13 = .ok (.iload_n 2, 1) := by decide +kernel
theorem dX2_lowerBy_14 : decode cX2_lowerBy 14 = .ok (.sipush 300, 3) := by decide +kernel
theorem dX2_lowerBy_17 : decode cX2_lowerBy 17 = .ok (.if_icmp .ge 47, 3) := by decide +kernel
theorem dX2_lowerBy_20 : decode cX2_lowerBy 20 = .ok (.aload_n 0, 1) := by decide +kernel
theorem dX2_lowerBy_21 : decode cX2_lowerBy 21 = .ok (.getfield 12, 3) := by decide +kernel
theorem dX2_lowerBy_24 : decode cX2_lowerBy 24 = .ok (.iload_n 1, 1) := by decide +kernel
theorem dX2_lowerBy_25 : decode cX2_lowerBy 25 = .ok (.invokevirtual 97, 3) := by decide +kernel
theorem dX2_lowerBy_28 : decode cX2_lowerBy 28 = .ok (.ifCond .eq 36, 3) := by decide +kernel
theorem dX2_lowerBy_31 : decode cX2_lowerBy 31 = .ok (.aload_n 0, 1) := by decide +kernel
theorem dX2_lowerBy_32 : decode cX2_lowerBy 32 = .ok (.getfield 18, 3) := by decide +kernel
theorem dX2_lowerBy_35 : decode cX2_lowerBy 35 = .ok (.iload_n 1, 1) := by decide +kernel
theorem dX2_lowerBy_36 : decode cX2_lowerBy 36 = .ok (.invokevirtual 97, 3) := by decide +kernel
theorem dX2_lowerBy_39 : decode cX2_lowerBy 39 = .ok (.ifCond .eq 25, 3) := by decide +kernel
theorem dX2_lowerBy_42 : decode cX2_lowerBy 42 = .ok (.aload_n 0, 1) := by decide +kernel
theorem dX2_lowerBy_43 : decode cX2_lowerBy 43 = .ok (.getfield 12, 3) := by decide +kernel
theorem dX2_lowerBy_46 : decode cX2_lowerBy 46 = .ok (.iload_n 1, 1) := by decide +kernel
theorem dX2_lowerBy_47 : decode cX2_lowerBy 47 = .ok (.invokevirtual 101, 3) := by decide +kernel
theorem dX2_lowerBy_50 : decode cX2_lowerBy 50 = .ok (.aload_n 0, 1) := by decide +kernel
theorem dX2_lowerBy_51 : decode cX2_lowerBy 51 = .ok (.getfield 18, 3) := by decide +kernel
theorem dX2_lowerBy_54 : decode cX2_lowerBy 54 = .ok (.iload_n 1, 1) := by decide +kernel
theorem dX2_lowerBy_55 : decode cX2_lowerBy 55 = .ok (.invokevirtual 101, 3) := by decide +kernel
theorem dX2_lowerBy_58 : decode cX2_lowerBy 58 = .ok (.iinc 2 1, 3) := by decide +kernel
theorem dX2_lowerBy_61 : decode cX2_lowerBy 61 = .ok (.goto (-48), 3) := by decide +kernel
theorem dX2_lowerBy_64 : decode cX2_lowerBy 64 = .ok (.return_, 1) := by decide +kernel
theorem dX2_closeZero_0 : decode cX2_closeZero 0 = .ok (.aload_n 0, 1) := by decide +kernel
theorem dX2_closeZero_1 : decode cX2_closeZero 1 = .ok (.getfield 12, 3) := by decide +kernel
theorem dX2_closeZero_4 : decode cX2_closeZero 4 = .ok (.getfield 94, 3) := by decide +kernel
theorem dX2_closeZero_7 : decode cX2_closeZero 7 = .ok (.ifCond .ne 11, 3) := by decide +kernel
theorem dX2_closeZero_10 : decode cX2_closeZero 10 = .ok (.aload_n 0, 1) := by decide +kernel
theorem dX2_closeZero_11 : decode cX2_closeZero 11 = .ok (.getfield 18, 3) := by decide +kernel
theorem dX2_closeZero_14 : decode cX2_closeZero 14 = .ok (.iconst 1, 1) := by decide +kernel
theorem dX2_closeZero_15 : decode cX2_closeZero 15 = .ok (.invokevirtual 24, 3) := by decide +kernel
theorem dX2_closeZero_18 : decode cX2_closeZero 18 = .ok (.return_, 1) := by decide +kernel
theorem dX2_digestOn_0 : decode cX2_digestOn 0 = .ok (.ldc2_w 104, 3) := by decide +kernel
theorem dX2_digestOn_3 : decode cX2_digestOn 3 = .ok (.lload_n 1, 1) := by decide +kernel
theorem dX2_digestOn_4 : decode cX2_digestOn 4 = .ok (.lmul, 1) := by decide +kernel
theorem dX2_digestOn_5 : decode cX2_digestOn 5 = .ok (.aload_n 0, 1) := by decide +kernel
theorem dX2_digestOn_6 : decode cX2_digestOn 6 = .ok (.getfield 12, 3) := by decide +kernel
theorem dX2_digestOn_9 : decode cX2_digestOn 9 = .ok (.getfield 94, 3) := by decide +kernel
theorem dX2_digestOn_12 : decode cX2_digestOn 12 = .ok (.ifCond .le 7, 3) := by decide +kernel
theorem dX2_digestOn_15 : decode cX2_digestOn 15 = .ok (.iconst 1, 1) := by decide +kernel
theorem dX2_digestOn_16 : decode cX2_digestOn 16 = .ok (.goto 4, 3) := by decide +kernel
theorem dX2_digestOn_19 : decode cX2_digestOn 19 = .ok (.iconst 0, 1) := by decide +kernel
theorem dX2_digestOn_20 : decode cX2_digestOn 20 = .ok (.i2l, 1) := by decide +kernel
theorem dX2_digestOn_21 : decode cX2_digestOn 21 = .ok (.ladd, 1) := by decide +kernel
theorem dX2_digestOn_22 : decode cX2_digestOn 22 = .ok (.lstore_n 3, 1) := by decide +kernel
theorem dX2_digestOn_23 : decode cX2_digestOn 23 = .ok (.ldc2_w 104, 3) := by decide +kernel
theorem dX2_digestOn_26 : decode cX2_digestOn 26 = .ok (.lload_n 3, 1) := by decide +kernel
theorem dX2_digestOn_27 : decode cX2_digestOn 27 = .ok (.lmul, 1) := by decide +kernel
theorem dX2_digestOn_28 : decode cX2_digestOn 28 = .ok (.aload_n 0, 1) := by decide +kernel
theorem dX2_digestOn_29 : decode cX2_digestOn 29 = .ok (.getfield 12, 3) := by decide +kernel
theorem dX2_digestOn_32 : decode cX2_digestOn 32 = .ok (.getfield 94, 3) := by decide +kernel
theorem dX2_digestOn_35 : decode cX2_digestOn 35 = .ok (.i2l, 1) := by decide +kernel
theorem dX2_digestOn_36 : decode cX2_digestOn 36 = .ok (.ladd, 1) := by decide +kernel
theorem dX2_digestOn_37 : decode cX2_digestOn 37 = .ok (.lstore_n 3, 1) := by decide +kernel
theorem dX2_digestOn_38 : decode cX2_digestOn 38 = .ok (.ldc2_w 104, 3) := by decide +kernel
theorem dX2_digestOn_41 : decode cX2_digestOn 41 = .ok (.lload_n 3, 1) := by decide +kernel
theorem dX2_digestOn_42 : decode cX2_digestOn 42 = .ok (.lmul, 1) := by decide +kernel
theorem dX2_digestOn_43 : decode cX2_digestOn 43 = .ok (.aload_n 0, 1) := by decide +kernel
theorem dX2_digestOn_44 : decode cX2_digestOn 44 = .ok (.getfield 18, 3) := by decide +kernel
theorem dX2_digestOn_47 : decode cX2_digestOn 47 = .ok (.getfield 94, 3) := by decide +kernel
theorem dX2_digestOn_50 : decode cX2_digestOn 50 = .ok (.i2l, 1) := by decide +kernel
theorem dX2_digestOn_51 : decode cX2_digestOn 51 = .ok (.ladd, 1) := by decide +kernel
theorem dX2_digestOn_52 : decode cX2_digestOn 52 = .ok (.lstore_n 3, 1) := by decide +kernel
theorem dX2_digestOn_53 : decode cX2_digestOn 53 = .ok (.aload_n 0, 1) := by decide +kernel
theorem dX2_digestOn_54 : decode cX2_digestOn 54 = .ok (.getfield 18, 3) := by decide +kernel
theorem dX2_digestOn_57 : decode cX2_digestOn 57 = .ok (.aload_n 0, 1) := by decide +kernel
theorem dX2_digestOn_58 : decode cX2_digestOn 58 = .ok (.getfield 12, 3) := by decide +kernel
theorem dX2_digestOn_61 : decode cX2_digestOn 61 = .ok (.lload_n 3, 1) := by decide +kernel
theorem dX2_digestOn_62 : decode cX2_digestOn 62 = .ok (.invokevirtual 106, 3) := by decide +kernel
theorem dX2_digestOn_65 : decode cX2_digestOn 65 = .ok (.invokevirtual 106, 3) := by decide +kernel
theorem dX2_digestOn_68 : decode cX2_digestOn 68 = .ok (.lreturn, 1) := by decide +kernel
theorem dX3_init_0 : decode cX3_init 0 = .ok (.aload_n 0, 1) := by decide +kernel
theorem dX3_init_1 : decode cX3_init 1 = .ok (.invokespecial 3, 3) := by decide +kernel
theorem dX3_init_4 : decode cX3_init 4 = .ok (.aload_n 0, 1) := by decide +kernel
theorem dX3_init_5 : decode cX3_init 5 = .ok (.sipush 384, 3) := by decide +kernel
theorem dX3_init_8 : decode cX3_init 8 = .ok (.newarray .int, 2) := by decide +kernel
theorem dX3_init_10 : decode cX3_init 10 = .ok (.putfield 9, 3) := by decide +kernel
theorem dX3_init_13 : decode cX3_init 13 = .ok (.aload_n 0, 1) := by decide +kernel
theorem dX3_init_14 : decode cX3_init 14 = .ok (.bipush 8, 2) := by decide +kernel
theorem dX3_init_16 : decode cX3_init 16 = .ok (.newarray .int, 2) := by decide +kernel
theorem dX3_init_18 : decode cX3_init 18 = .ok (.putfield 15, 3) := by decide +kernel
theorem dX3_init_21 : decode cX3_init 21 = .ok (.return_, 1) := by decide +kernel
theorem dX3_listen_0 : decode cX3_listen 0 = .ok (.aload_n 0, 1) := by decide +kernel
theorem dX3_listen_1 : decode cX3_listen 1 = .ok (.aload_n 2, 1) := by decide +kernel
theorem dX3_listen_2 : decode cX3_listen 2 = .ok (.getfield 18, 3) := by decide +kernel
theorem dX3_listen_5 : decode cX3_listen 5 = .ok (.putfield 24, 3) := by decide +kernel
theorem dX3_listen_8 : decode cX3_listen 8 = .ok (.aload_n 0, 1) := by decide +kernel
theorem dX3_listen_9 : decode cX3_listen 9 = .ok (.aload_n 1, 1) := by decide +kernel
theorem dX3_listen_10 : decode cX3_listen 10 = .ok (.getfield 25, 3) := by decide +kernel
theorem dX3_listen_13 : decode cX3_listen 13 = .ok (.iconst 2, 1) := by decide +kernel
theorem dX3_listen_14 : decode cX3_listen 14 = .ok (.invokestatic 30, 3) := by decide +kernel
theorem dX3_listen_17 : decode cX3_listen 17 = .ok (.putfield 34, 3) := by decide +kernel
theorem dX3_listen_20 : decode cX3_listen 20 = .ok (.aload_n 2, 1) := by decide +kernel
theorem dX3_listen_21 : decode cX3_listen 21 = .ok (.getfield 37, 3) := by decide +kernel
theorem dX3_listen_24 : decode cX3_listen 24 = .ok (.aload_n 0, 1) := by decide +kernel
theorem dX3_listen_25 : decode cX3_listen 25 = .ok (.getfield 15, 3) := by decide +kernel
theorem dX3_listen_28 : decode cX3_listen 28 = .ok (.invokestatic 38, 3) := by decide +kernel
theorem dX3_listen_31 : decode cX3_listen 31 = .ok (.iconst 0, 1) := by decide +kernel
theorem dX3_listen_32 : decode cX3_listen 32 = .ok (.istore_n 3, 1) := by decide +kernel
theorem dX3_listen_33 : decode cX3_listen 33 = .ok (.iload_n 3, 1) := by decide +kernel
theorem dX3_listen_34 : decode cX3_listen 34 = .ok (.aload_n 0, 1) := by decide +kernel
theorem dX3_listen_35 : decode cX3_listen 35 = .ok (.getfield 24, 3) := by decide +kernel
theorem dX3_listen_38 : decode cX3_listen 38 = .ok (.if_icmp .ge 88, 3) := by decide +kernel
theorem dX3_listen_41 : decode cX3_listen 41 = .ok (.aload_n 2, 1) := by decide +kernel
theorem dX3_listen_42 : decode cX3_listen 42 = .ok (.getfield 42, 3) := by decide +kernel
theorem dX3_listen_45 : decode cX3_listen 45 = .ok (.iload_n 3, 1) := by decide +kernel
theorem dX3_listen_46 : decode cX3_listen 46 = .ok (.invokestatic 30, 3) := by decide +kernel
theorem dX3_listen_49 : decode cX3_listen 49 = .ok (.istore 4, 2) := by decide +kernel
theorem dX3_listen_51 : decode cX3_listen 51 = .ok (.aload_n 2, 1) := by decide +kernel
theorem dX3_listen_52 : decode cX3_listen 52 = .ok (.getfield 45, 3) := by decide +kernel
theorem dX3_listen_55 : decode cX3_listen 55 = .ok (.iload_n 3, 1) := by decide +kernel
theorem dX3_listen_56 : decode cX3_listen 56 = .ok (.invokestatic 30, 3) := by decide +kernel
theorem dX3_listen_59 : decode cX3_listen 59 = .ok (.istore 5, 2) := by decide +kernel
theorem dX3_listen_61 : decode cX3_listen 61 = .ok (.iconst 0, 1) := by decide +kernel
theorem dX3_listen_62 : decode cX3_listen 62 = .ok (.istore 6, 2) := by decide +kernel
theorem dX3_listen_64 : decode cX3_listen 64 = .ok (.iload 6, 2) := by decide +kernel
theorem dX3_listen_66 : decode cX3_listen 66 = .ok (.bipush 8, 2) := by decide +kernel
theorem dX3_listen_68 : decode cX3_listen 68 = .ok (.if_icmp .ge 52, 3) := by decide +kernel
theorem dX3_listen_71 : decode cX3_listen 71 = .ok (.iconst 0, 1) := by decide +kernel
theorem dX3_listen_72 : decode cX3_listen 72 = .ok (.istore 7, 2) := by decide +kernel
theorem dX3_listen_74 : decode cX3_listen 74 = .ok (.iload 7, 2) := by decide +kernel
theorem dX3_listen_76 : decode cX3_listen 76 = .ok (.bipush 6, 2) := by decide +kernel
theorem dX3_listen_78 : decode cX3_listen 78 = .ok (.if_icmp .ge 36, 3) := by decide +kernel
theorem dX3_listen_81 : decode cX3_listen 81 = .ok (.aload_n 0, 1) := by decide +kernel
theorem dX3_listen_82 : decode cX3_listen 82 = .ok (.getfield 9, 3) := by decide +kernel
theorem dX3_listen_85 : decode cX3_listen 85 = .ok (.iload_n 3, 1) := by decide +kernel
theorem dX3_listen_86 : decode cX3_listen 86 = .ok (.iload 6, 2) := by decide +kernel
theorem dX3_listen_88 : decode cX3_listen 88 = .ok (.iload 7, 2) := by decide +kernel
theorem dX3_listen_90 : decode cX3_listen 90 = .ok (.invokestatic 48, 3) := by decide +kernel
theorem dX3_listen_93 : decode cX3_listen 93 = .ok (.aload_n 1, 1) := by decide +kernel
theorem dX3_listen_94 : decode cX3_listen 94 = .ok (.iload 4, 2) := by decide +kernel
theorem dX3_listen_96 : decode cX3_listen 96 = .ok (.iload 7, 2) := by decide +kernel
theorem dX3_listen_98 : decode cX3_listen 98 = .ok (.iload 6, 2) := by decide +kernel
theorem dX3_listen_100 : decode cX3_listen 100 = .ok (.iload 5, 2) := by decide +kernel
theorem dX3_listen_102 : decode cX3_listen 102 = .ok (.invokestatic 52, 3) := by decide +kernel
theorem dX3_listen_105 : decode cX3_listen 105 = .ok (.invokestatic 58, 3) := by decide +kernel
theorem dX3_listen_108 : decode cX3_listen 108 = .ok (.iinc 7 1, 3) := by decide +kernel
theorem dX3_listen_111 : decode cX3_listen 111 = .ok (.goto (-37), 3) := by decide +kernel
theorem dX3_listen_114 : decode cX3_listen 114 = .ok (.iinc 6 1, 3) := by decide +kernel
theorem dX3_listen_117 : decode cX3_listen 117 = .ok (.goto (-53), 3) := by decide +kernel
theorem dX3_listen_120 : decode cX3_listen 120 = .ok (.iinc 3 1, 3) := by decide +kernel
theorem dX3_listen_123 : decode cX3_listen 123 = .ok (.goto (-90), 3) := by decide +kernel
theorem dX3_listen_126 : decode cX3_listen 126 = .ok (.return_, 1) := by decide +kernel
theorem dX3_index_0 : decode cX3_index 0 = .ok (.iload_n 0, 1) := by decide +kernel
theorem dX3_index_1 : decode cX3_index 1 = .ok (.bipush 8, 2) := by decide +kernel
theorem dX3_index_3 : decode cX3_index 3 = .ok (.imul, 1) := by decide +kernel
theorem dX3_index_4 : decode cX3_index 4 = .ok (.iload_n 1, 1) := by decide +kernel
theorem dX3_index_5 : decode cX3_index 5 = .ok (.iadd, 1) := by decide +kernel
theorem dX3_index_6 : decode cX3_index 6 = .ok (.bipush 6, 2) := by decide +kernel
theorem dX3_index_8 : decode cX3_index 8 = .ok (.imul, 1) := by decide +kernel
theorem dX3_index_9 : decode cX3_index 9 = .ok (.iload_n 2, 1) := by decide +kernel
theorem dX3_index_10 : decode cX3_index 10 = .ok (.iadd, 1) := by decide +kernel
theorem dX3_index_11 : decode cX3_index 11 = .ok (.ireturn, 1) := by decide +kernel
theorem dX3_isHidden_0 : decode cX3_isHidden 0 = .ok (.iload_n 2, 1) := by decide +kernel
theorem dX3_isHidden_1 : decode cX3_isHidden 1 = .ok (.iconst 1, 1) := by decide +kernel
theorem dX3_isHidden_2 : decode cX3_isHidden 2 = .ok (.iload_n 1, 1) := by decide +kernel
theorem dX3_isHidden_3 : decode cX3_isHidden 3 = .ok (.ishl, 1) := by decide +kernel
theorem dX3_isHidden_4 : decode cX3_isHidden 4 = .ok (.iconst (-1), 1) := by decide +kernel
theorem dX3_isHidden_5 : decode cX3_isHidden 5 = .ok (.ixor, 1) := by decide +kernel
theorem dX3_isHidden_6 : decode cX3_isHidden 6 = .ok (.iand, 1) := by decide +kernel
theorem dX3_isHidden_7 : decode cX3_isHidden 7 = .ok (.istore_n 3, 1) := by decide +kernel
theorem dX3_isHidden_8 : decode cX3_isHidden 8 = .ok (.iconst 0, 1) := by decide +kernel
theorem dX3_isHidden_9 : decode cX3_isHidden 9 = .ok (.istore 4, 2) := by decide +kernel
theorem dX3_isHidden_11 : decode cX3_isHidden 11 = .ok (.iload 4, 2) := by decide +kernel
theorem dX3_isHidden_13 : decode cX3_isHidden 13 = .ok (.bipush 8, 2) := by decide +kernel
theorem dX3_isHidden_15 : decode cX3_isHidden 15 = .ok (.if_icmp .ge 81, 3) := by decide +kernel
theorem dX3_isHidden_18 : decode cX3_isHidden 18 = .ok (.aload_n 0, 1) := by decide +kernel
theorem dX3_isHidden_19 : decode cX3_isHidden 19 = .ok (.getfield 15, 3) := by decide +kernel
theorem dX3_isHidden_22 : decode cX3_isHidden 22 = .ok (.iload_n 1, 1) := by decide +kernel
theorem dX3_isHidden_23 : decode cX3_isHidden 23 = .ok (.invokestatic 30, 3) := by decide +kernel
theorem dX3_isHidden_26 : decode cX3_isHidden 26 = .ok (.iload 4, 2) := by decide +kernel
theorem dX3_isHidden_28 : decode cX3_isHidden 28 = .ok (.iadd, 1) := by decide +kernel
theorem dX3_isHidden_29 : decode cX3_isHidden 29 = .ok (.istore 5, 2) := by decide +kernel
theorem dX3_isHidden_31 : decode cX3_isHidden 31 = .ok (.iconst 0, 1) := by decide +kernel
theorem dX3_isHidden_32 : decode cX3_isHidden 32 = .ok (.istore 6, 2) := by decide +kernel
theorem dX3_isHidden_34 : decode cX3_isHidden 34 = .ok (.iload 6, 2) := by decide +kernel
theorem dX3_isHidden_36 : decode cX3_isHidden 36 = .ok (.bipush 6, 2) := by decide +kernel
theorem dX3_isHidden_38 : decode cX3_isHidden 38 = .ok (.if_icmp .ge 52, 3) := by decide +kernel
theorem dX3_isHidden_41 : decode cX3_isHidden 41 = .ok (.aload_n 0, 1) := by decide +kernel
theorem dX3_isHidden_42 : decode cX3_isHidden 42 = .ok (.getfield 9, 3) := by decide +kernel
theorem dX3_isHidden_45 : decode cX3_isHidden 45 = .ok (.iload_n 1, 1) := by decide +kernel
theorem dX3_isHidden_46 : decode cX3_isHidden 46 = .ok (.iload 4, 2) := by decide +kernel
theorem dX3_isHidden_48 : decode cX3_isHidden 48 = .ok (.iload 6, 2) := by decide +kernel
theorem dX3_isHidden_50 : decode cX3_isHidden 50 = .ok (.invokestatic 48, 3) := by decide +kernel
theorem dX3_isHidden_53 : decode cX3_isHidden 53 = .ok (.invokestatic 30, 3) := by decide +kernel
theorem dX3_isHidden_56 : decode cX3_isHidden 56 = .ok (.istore 7, 2) := by decide +kernel
theorem dX3_isHidden_58 : decode cX3_isHidden 58 = .ok (.iload 7, 2) := by decide +kernel
theorem dX3_isHidden_60 : decode cX3_isHidden 60 = .ok (.ifCond .le 24, 3) := by decide +kernel
theorem dX3_isHidden_63 : decode cX3_isHidden 63 = .ok (.iload 7, 2) := by decide +kernel
theorem dX3_isHidden_65 : decode cX3_isHidden 65 = .ok (.aload_n 0, 1) := by decide +kernel
theorem dX3_isHidden_66 : decode cX3_isHidden 66 = .ok (.getfield 34, 3) := by decide +kernel
theorem dX3_isHidden_69 : decode cX3_isHidden 69 = .ok (.imul, 1) := by decide +kernel
theorem dX3_isHidden_70 : decode cX3_isHidden 70 = .ok (.aload_n 0, 1) := by decide +kernel
theorem dX3_isHidden_71 : decode cX3_isHidden 71 = .ok (.iload_n 3, 1) := by decide +kernel
theorem dX3_isHidden_72 : decode cX3_isHidden 72 = .ok (.iload 5, 2) := by decide +kernel
theorem dX3_isHidden_74 : decode cX3_isHidden 74 = .ok (.iload 6, 2) := by decide +kernel
theorem dX3_isHidden_76 : decode cX3_isHidden 76 = .ok (.invokevirtual 62, 3) := by decide +kernel
theorem dX3_isHidden_79 : decode cX3_isHidden 79 = .ok (.if_icmp .le 5, 3) := by decide +kernel
theorem dX3_isHidden_82 : decode cX3_isHidden 82 = .ok (.iconst 0, 1) := by decide +kernel
theorem dX3_isHidden_83 : decode cX3_isHidden 83 = .ok (.ireturn, 1) := by decide +kernel
theorem dX3_isHidden_84 : decode cX3_isHidden 84 = .ok (.iinc 6 1, 3) := by decide +kernel
theorem dX3_isHidden_87 : decode cX3_isHidden 87 = .ok (.goto (-53), 3) := by decide +kernel
theorem dX3_isHidden_90 : decode cX3_isHidden 90 = .ok (.iinc 4 1, 3) := by decide +kernel
theorem dX3_isHidden_93 : decode cX3_isHidden 93 = .ok (.goto (-82), 3) := by decide +kernel
theorem dX3_isHidden_96 : decode cX3_isHidden 96 = .ok (.iconst 1, 1) := by decide +kernel
theorem dX3_isHidden_97 : decode cX3_isHidden 97 = .ok (.ireturn, 1) := by decide +kernel
theorem dX3_together_0 : decode cX3_together 0 = .ok (.iconst 0, 1) := by decide +kernel
theorem dX3_together_1 : decode cX3_together 1 = .ok (.istore 4, 2) := by decide +kernel
theorem dX3_together_3 : decode cX3_together 3 = .ok (.iconst 0, 1) := by decide +kernel
theorem dX3_together_4 : decode cX3_together 4 = .ok (.istore 5, 2) := by decide +kernel
theorem dX3_together_6 : decode cX3_together 6 = .ok (.iload_n 1, 1) := by decide +kernel
theorem dX3_together_7 : decode cX3_together 7 = .ok (.iload 5, 2) := by decide +kernel
theorem dX3_together_9 : decode cX3_together 9 = .ok (.ishr, 1) := by decide +kernel
theorem dX3_together_10 : decode cX3_together 10 = .ok (.ifCond .le 73, 3) := by decide +kernel
theorem dX3_together_13 : decode cX3_together 13 = .ok (.iload 5, 2) := by decide +kernel
theorem dX3_together_15 : decode cX3_together 15 = .ok (.aload_n 0, 1) := by decide +kernel
theorem dX3_together_16 : decode cX3_together 16 = .ok (.getfield 24, 3) := by decide +kernel
theorem dX3_together_19 : decode cX3_together 19 = .ok (.if_icmp .ge 64, 3) := by decide +kernel
theorem dX3_together_22 : decode cX3_together 22 = .ok (.iload_n 1, 1) := by decide +kernel
theorem dX3_together_23 : decode cX3_together 23 = .ok (.iload 5, 2) := by decide +kernel
theorem dX3_together_25 : decode cX3_together 25 = .ok (.ishr, 1) := by decide +kernel
theorem dX3_together_26 : decode cX3_together 26 = .ok (.iconst 1, 1) := by decide +kernel
theorem dX3_together_27 : decode cX3_together 27 = .ok (.iand, 1) := by decide +kernel
theorem dX3_together_28 : decode cX3_together 28 = .ok (.iconst 1, 1) := by decide +kernel
theorem dX3_together_29 : decode cX3_together 29 = .ok (.if_icmp .ne 48, 3) := by decide +kernel
theorem dX3_together_32 : decode cX3_together 32 = .ok (.iload_n 2, 1) := by decide +kernel
theorem dX3_together_33 : decode cX3_together 33 = .ok (.aload_n 0, 1) := by decide +kernel
theorem dX3_together_34 : decode cX3_together 34 = .ok (.getfield 15, 3) := by decide +kernel
theorem dX3_together_37 : decode cX3_together 37 = .ok (.iload 5, 2) := by decide +kernel
theorem dX3_together_39 : decode cX3_together 39 = .ok (.invokestatic 30, 3) := by decide +kernel
theorem dX3_together_42 : decode cX3_together 42 = .ok (.isub, 1) := by decide +kernel
theorem dX3_together_43 : decode cX3_together 43 = .ok (.istore 6, 2) := by decide +kernel
theorem dX3_together_45 : decode cX3_together 45 = .ok (.iload 6, 2) := by decide +kernel
theorem dX3_together_47 : decode cX3_together 47 = .ok (.ifCond .lt 30, 3) := by decide +kernel
theorem dX3_together_50 : decode cX3_together 50 = .ok (.iload 6, 2) := by decide +kernel
theorem dX3_together_52 : decode cX3_together 52 = .ok (.bipush 8, 2) := by decide +kernel
theorem dX3_together_54 : decode cX3_together 54 = .ok (.if_icmp .ge 23, 3) := by decide +kernel
theorem dX3_together_57 : decode cX3_together 57 = .ok (.iload 4, 2) := by decide +kernel
theorem dX3_together_59 : decode cX3_together 59 = .ok (.aload_n 0, 1) := by decide +kernel
theorem dX3_together_60 : decode cX3_together 60 = .ok (.getfield 9, 3) := by decide +kernel
theorem dX3_together_63 : decode cX3_together 63 = .ok (.iload 5, 2) := by decide +kernel
theorem dX3_together_65 : decode cX3_together 65 = .ok (.iload 6, 2) := by decide +kernel
theorem dX3_together_67 : decode cX3_together 67 = .ok (.iload_n 3, 1) := by decide +kernel
theorem dX3_together_68 : decode cX3_together 68 = .ok (.invokestatic 48, 3) := by decide +kernel
theorem dX3_together_71 : decode cX3_together 71 = .ok (.invokestatic 30, 3) := by decide +kernel
theorem dX3_together_74 : decode cX3_together 74 = .ok (.iadd, 1) := by decide +kernel
theorem dX3_together_75 : decode cX3_together 75 = .ok (.istore 4, 2) := by decide +kernel
theorem dX3_together_77 : decode cX3_together 77 = .ok (.iinc 5 1, 3) := by decide +kernel
theorem dX3_together_80 : decode cX3_together 80 = .ok (.goto (-74), 3) := by decide +kernel
theorem dX3_together_83 : decode cX3_together 83 = .ok (.iload 4, 2) := by decide +kernel
theorem dX3_together_85 : decode cX3_together 85 = .ok (.ireturn, 1) := by decide +kernel
theorem dX3_hiddenByOthers_0 : decode cX3_hiddenByOthers 0 = .ok (.iconst 0, 1) := by decide +kernel
theorem dX3_hiddenByOthers_1 : decode cX3_hiddenByOthers 1 = .ok (.istore_n 1, 1) := by decide +kernel
theorem dX3_hiddenByOthers_2 : decode cX3_hiddenByOthers 2 = .ok (.iconst 0, 1) := by decide +kernel
theorem dX3_hiddenByOthers_3 : decode cX3_hiddenByOthers 3 = .ok (.istore_n 2, 1) := by decide +kernel
theorem dX3_hiddenByOthers_4 : decode cX3_hiddenByOthers 4 = .ok (.iload_n 2, 1) := by decide +kernel
theorem dX3_hiddenByOthers_5 : decode cX3_hiddenByOthers 5 = .ok (.aload_n 0, 1) := by decide +kernel
theorem dX3_hiddenByOthers_6 : decode cX3_hiddenByOthers 6 = .ok (.getfield 24, 3) := by decide +kernel
theorem dX3_hiddenByOthers_9 : decode cX3_hiddenByOthers 9 = .ok (.if_icmp .ge 31, 3) := by decide +kernel
theorem dX3_hiddenByOthers_12 : decode cX3_hiddenByOthers 12 = .ok (.aload_n 0, 1) := by decide +kernel
theorem dX3_hiddenByOthers_13 : decode cX3_hiddenByOthers 13 = .ok (.iload_n 2, 1) := by decide +kernel
theorem dX3_hiddenByOthers_14 : decode cX3_hiddenByOthers 14 = .ok (.iconst 1, 1) := by decide +kernel
theorem dX3_hiddenByOthers_15 : decode cX3_hiddenByOthers 15 = .ok (.aload_n 0, 1) := by decide +kernel
theorem dX3_hiddenByOthers_16 : decode cX3_hiddenByOthers 16 = .ok (.getfield 24, 3) := by decide +kernel
theorem dX3_hiddenByOthers_19 : decode cX3_hiddenByOthers 19 = .ok (.ishl, 1) := by decide +kernel
theorem dX3_hiddenByOthers_20 : decode cX3_hiddenByOthers 20 = .ok (.iconst 1, 1) := by decide +kernel
theorem dX3_hiddenByOthers_21 : decode cX3_hiddenByOthers 21 = .ok (.isub, 1) := by decide +kernel
theorem dX3_hiddenByOthers_22 : decode cX3_hiddenByOthers 22 = .ok (.invokevirtual 65, 3) := by decide +kernel
theorem dX3_hiddenByOthers_25 : decode cX3_hiddenByOthers 25 = .ok (.ifCond .eq 9, 3) := by decide +kernel
theorem dX3_hiddenByOthers_28 : decode cX3_hiddenByOthers 28 = .ok (.iload_n 1, 1) := by decide +kernel
theorem dX3_hiddenByOthers_29 : decode cX3_hiddenByOthers 29 = .ok (.iconst 1, 1) := by decide +kernel
theorem dX3_hiddenByOthers_30 : decode cX3_hiddenByOthers 30 = .ok (.iload_n 2, 1) := by decide +kernel
theorem dX3_hiddenByOthers_31 : decode cX3_hiddenByOthers 31 = .ok (.ishl, 1) := by decide +kernel
theorem dX3_hiddenByOthers_32 : decode cX3_hiddenByOthers 32 = .ok (.ior, 1) := by decide +kernel
theorem dX3_hiddenByOthers_33 : decode cX3_hiddenByOthers 33 = .ok (.istore_n 1, 1) := by decide +kernel
theorem dX3_hiddenByOthers_34 : decode cX3_hiddenByOthers 34 = .ok (.iinc 2 1, 3) := by decide +kernel
theorem dX3_hiddenByOthers_37 : decode cX3_hiddenByOthers 37 = .ok (.goto (-33), 3) := by decide +kernel
theorem dX3_hiddenByOthers_40 : decode cX3_hiddenByOthers 40 = .ok (.iload_n 1, 1) := by decide +kernel
theorem dX3_hiddenByOthers_41 : decode cX3_hiddenByOthers 41 = .ok (.ireturn, 1) := by decide +kernel
theorem dX3_fewestHiders_0 : decode cX3_fewestHiders 0 = .ok (.iconst 1, 1) := by decide +kernel
theorem dX3_fewestHiders_1 : decode cX3_fewestHiders 1 = .ok (.aload_n 0, 1) := by decide +kernel
theorem dX3_fewestHiders_2 : decode cX3_fewestHiders 2 = .ok (.getfield 24, 3) := by decide +kernel
theorem dX3_fewestHiders_5 : decode cX3_fewestHiders 5 = .ok (.ishl, 1) := by decide +kernel
theorem dX3_fewestHiders_6 : decode cX3_fewestHiders 6 = .ok (.iconst 1, 1) := by decide +kernel
theorem dX3_fewestHiders_7 : decode cX3_fewestHiders 7 = .ok (.isub, 1) := by decide +kernel
theorem dX3_fewestHiders_8 : decode cX3_fewestHiders 8 = .ok (.istore_n 1, 1) := by decide +kernel
theorem dX3_fewestHiders_9 : decode cX3_fewestHiders 9 = .ok (.iconst 0, 1) := by decide +kernel
theorem dX3_fewestHiders_10 : decode cX3_fewestHiders 10 = .ok (.istore_n 2, 1) := by decide +kernel
theorem dX3_fewestHiders_11 : decode cX3_fewestHiders 11 = .ok (.iload_n 2, 1) := by decide +kernel
theorem dX3_fewestHiders_12 : decode cX3_fewestHiders 12 = .ok (.iconst 1, 1) := by decide +kernel
theorem dX3_fewestHiders_13 : decode cX3_fewestHiders 13 = .ok (.aload_n 0, 1) := by decide +kernel
theorem dX3_fewestHiders_14 : decode cX3_fewestHiders 14 = .ok (.getfield 24, 3) := by decide +kernel
theorem dX3_fewestHiders_17 : decode cX3_fewestHiders 17 = .ok (.ishl, 1) := by decide +kernel
theorem dX3_fewestHiders_18 : decode cX3_fewestHiders 18 = .ok (.if_icmp .ge 30, 3) := by decide +kernel
theorem dX3_fewestHiders_21 : decode cX3_fewestHiders 21 = .ok (.iload_n 2, 1) := by decide +kernel
theorem dX3_fewestHiders_22 : decode cX3_fewestHiders 22 = .ok (.invokestatic 69, 3) := by decide +kernel
theorem dX3_fewestHiders_25 : decode cX3_fewestHiders 25 = .ok (.iload_n 1, 1) := by decide +kernel
theorem dX3_fewestHiders_26 : decode cX3_fewestHiders 26 = .ok (.invokestatic 69, 3) := by decide +kernel
theorem dX3_fewestHiders_29 : decode cX3_fewestHiders 29 = .ok (.if_icmp .ge 13, 3) := by decide +kernel
theorem dX3_fewestHiders_32 : decode cX3_fewestHiders 32 = .ok (.aload_n 0, 1) := by decide +kernel
theorem dX3_fewestHiders_33 : decode cX3_fewestHiders 33 = .ok (.iload_n 2, 1) := by decide +kernel
theorem dX3_fewestHiders_34 : decode cX3_fewestHiders 34 = .ok (.invokevirtual 75, 3) := by decide +kernel
theorem dX3_fewestHiders_37 : decode cX3_fewestHiders 37 = .ok (.ifCond .eq 5, 3) := by decide +kernel
theorem dX3_fewestHiders_40 : decode cX3_fewestHiders 40 = .ok (.iload_n 2, 1) := by decide +kernel
theorem dX3_fewestHiders_41 : decode cX3_fewestHiders 41 = .ok (.istore_n 1, 1) := by decide +kernel
theorem dX3_fewestHiders_42 : decode cX3_fewestHiders 42 = .ok (.iinc 2 1, 3) := by decide +kernel
theorem dX3_fewestHiders_45 : decode cX3_fewestHiders 45 = .ok (.goto (-34), 3) := by decide +kernel
theorem dX3_fewestHiders_48 : decode cX3_fewestHiders 48 = .ok (.iload_n 1, 1) := by decide +kernel
theorem dX3_fewestHiders_49 : decode cX3_fewestHiders 49 = .ok (.ireturn, 1) := by decide +kernel
theorem dX3_hideAllOthers_0 : decode cX3_hideAllOthers 0 = .ok (.iconst 0, 1) := by decide +kernel
theorem dX3_hideAllOthers_1 : decode cX3_hideAllOthers 1 = .ok (.istore_n 2, 1) := by decide +kernel
theorem dX3_hideAllOthers_2 : decode cX3_hideAllOthers 2 = .ok (.iload_n 2, 1) := by decide +kernel
theorem dX3_hideAllOthers_3 : decode cX3_hideAllOthers 3 = .ok (.aload_n 0, 1) := by decide +kernel
theorem dX3_hideAllOthers_4 : decode cX3_hideAllOthers 4 = .ok (.getfield 24, 3) := by decide +kernel
theorem dX3_hideAllOthers_7 : decode cX3_hideAllOthers 7 = .ok (.if_icmp .ge 28, 3) := by decide +kernel
theorem dX3_hideAllOthers_10 : decode cX3_hideAllOthers 10 = .ok (.iload_n 1, 1) := by decide +kernel
theorem dX3_hideAllOthers_11 : decode cX3_hideAllOthers 11 = .ok (.iload_n 2, 1) := by decide +kernel
theorem dX3_hideAllOthers_12 : decode cX3_hideAllOthers 12 = .ok (.ishr, 1) := by decide +kernel
theorem dX3_hideAllOthers_13 : decode cX3_hideAllOthers 13 = .ok (.iconst 1, 1) := by decide +kernel
theorem dX3_hideAllOthers_14 : decode cX3_hideAllOthers 14 = .ok (.iand, 1) := by decide +kernel
theorem dX3_hideAllOthers_15 : decode cX3_hideAllOthers 15 = .ok (.ifCond .ne 14, 3) := by decide +kernel
theorem dX3_hideAllOthers_18 : decode cX3_hideAllOthers 18 = .ok (.aload_n 0, 1) := by decide +kernel
theorem dX3_hideAllOthers_19 : decode cX3_hideAllOthers 19 = .ok (.iload_n 2, 1) := by decide +kernel
theorem dX3_hideAllOthers_20 : decode cX3_hideAllOthers 20 = .ok (.iload_n 1, 1) := by decide +kernel
theorem dX3_hideAllOthers_21 : decode cX3_hideAllOthers 21 = .ok (.invokevirtual 65, 3) := by decide +kernel
theorem dX3_hideAllOthers_24 : decode cX3_hideAllOthers 24 = .ok (.ifCond .ne 5, 3) := by decide +kernel
theorem dX3_hideAllOthers_27 : decode cX3_hideAllOthers 27 = .ok (.iconst 0, 1) := by decide +kernel
theorem dX3_hideAllOthers_28 : decode cX3_hideAllOthers 28 = .ok (.ireturn, 1) := by decide +kernel
theorem dX3_hideAllOthers_29 : decode cX3_hideAllOthers 29 = .ok (.iinc 2 1, 3) := by decide +kernel
theorem dX3_hideAllOthers_32 : decode cX3_hideAllOthers 32 = .ok (.goto (-30), 3) := by decide +kernel
theorem dX3_hideAllOthers_35 : decode cX3_hideAllOthers 35 = .ok (.iconst 1, 1) := by decide +kernel
theorem dX3_hideAllOthers_36 : decode cX3_hideAllOthers 36 = .ok (.ireturn, 1) := by decide +kernel
theorem dX4_init_0 : decode cX4_init 0 = .ok (.aload_n 0, 1) := by decide +kernel
theorem dX4_init_1 : decode cX4_init 1 = .ok (.invokespecial 3, 3) := by decide +kernel
theorem dX4_init_4 : decode cX4_init 4 = .ok (.aload_n 0, 1) := by decide +kernel
theorem dX4_init_5 : decode cX4_init 5 = .ok (.bipush 8, 2) := by decide +kernel
theorem dX4_init_7 : decode cX4_init 7 = .ok (.newarray .int, 2) := by decide +kernel
theorem dX4_init_9 : decode cX4_init 9 = .ok (.putfield 9, 3) := by decide +kernel
theorem dX4_init_12 : decode cX4_init 12 = .ok (.return_, 1) := by decide +kernel
theorem dX4_become_0 : decode cX4_become 0 = .ok (.aload_n 0, 1) := by decide +kernel
theorem dX4_become_1 : decode cX4_become 1 = .ok (.iconst 0, 1) := by decide +kernel
theorem dX4_become_2 : decode cX4_become 2 = .ok (.putfield 13, 3) := by decide +kernel
theorem dX4_become_5 : decode cX4_become 5 = .ok (.aload_n 0, 1) := by decide +kernel
theorem dX4_become_6 : decode cX4_become 6 = .ok (.iload_n 1, 1) := by decide +kernel
theorem dX4_become_7 : decode cX4_become 7 = .ok (.i2l, 1) := by decide +kernel
theorem dX4_become_8 : decode cX4_become 8 = .ok (.invokevirtual 17, 3) := by decide +kernel
theorem dX4_become_11 : decode cX4_become 11 = .ok (.return_, 1) := by decide +kernel
theorem dX4_becomeCopy_0 : decode cX4_becomeCopy 0 = .ok (.aload_n 1, 1) := by decide +kernel
theorem dX4_becomeCopy_1 : decode cX4_becomeCopy 1 = .ok (.getfield 9, 3) := by decide +kernel
theorem dX4_becomeCopy_4 : decode cX4_becomeCopy 4 = .ok (.aload_n 0, 1) := by decide +kernel
theorem dX4_becomeCopy_5 : decode cX4_becomeCopy 5 = .ok (.getfield 9, 3) := by decide +kernel
theorem dX4_becomeCopy_8 : decode cX4_becomeCopy 8 = .ok (.invokestatic 21, 3) := by decide +kernel
theorem dX4_becomeCopy_11 : decode cX4_becomeCopy 11 = .ok (.aload_n 0, 1) := by decide +kernel
theorem dX4_becomeCopy_12 : decode cX4_becomeCopy 12 = .ok (.aload_n 1, 1) := by decide +kernel
theorem dX4_becomeCopy_13 : decode cX4_becomeCopy 13 = .ok (.getfield 13, 3) := by decide +kernel
theorem dX4_becomeCopy_16 : decode cX4_becomeCopy 16 = .ok (.putfield 13, 3) := by decide +kernel
theorem dX4_becomeCopy_19 : decode cX4_becomeCopy 19 = .ok (.return_, 1) := by decide +kernel
theorem dX4_push_0 : decode cX4_push 0 = .ok (.lload_n 1, 1) := by decide +kernel
theorem dX4_push_1 : decode cX4_push 1 = .ok (.lconst 0, 1) := by decide +kernel
theorem dX4_push_2 : decode cX4_push 2 = .ok (.lcmp, 1) := by decide +kernel
theorem dX4_push_3 : decode cX4_push 3 = .ok (.ifCond .le 35, 3) := by decide +kernel
theorem dX4_push_6 : decode cX4_push 6 = .ok (.aload_n 0, 1) := by decide +kernel
theorem dX4_push_7 : decode cX4_push 7 = .ok (.getfield 13, 3) := by decide +kernel
theorem dX4_push_10 : decode cX4_push 10 = .ok (.aload_n 0, 1) := by decide +kernel
theorem dX4_push_11 : decode cX4_push 11 = .ok (.getfield 9, 3) := by decide +kernel
theorem dX4_push_14 : decode cX4_push 14 = .ok (.arraylength, 1) := by decide +kernel
theorem dX4_push_15 : decode cX4_push 15 = .ok (.if_icmp .ge 23, 3) := by decide +kernel
theorem dX4_push_18 : decode cX4_push 18 = .ok (.aload_n 0, 1) := by decide +kernel
theorem dX4_push_19 : decode cX4_push 19 = .ok (.getfield 9, 3) := by decide +kernel
theorem dX4_push_22 : decode cX4_push 22 = .ok (.aload_n 0, 1) := by decide +kernel
theorem dX4_push_23 : decode cX4_push 23 = .ok (.dup, 1) := by decide +kernel
theorem dX4_push_24 : decode cX4_push 24 = .ok (.getfield 13, 3) := by decide +kernel
theorem dX4_push_27 : decode cX4_push 27 = .ok (.dup_x1, 1) := by decide +kernel
theorem dX4_push_28 : decode cX4_push 28 = .ok (.iconst 1, 1) := by decide +kernel
theorem dX4_push_29 : decode cX4_push 29 = .ok (.iadd, 1) := by decide +kernel
theorem dX4_push_30 : decode cX4_push 30 = .ok (.putfield 13, 3) := by decide +kernel
theorem dX4_push_33 : decode cX4_push 33 = .ok (.lload_n 1, 1) := by decide +kernel
theorem dX4_push_34 : decode cX4_push 34 = .ok (.l2i, 1) := by decide +kernel
theorem dX4_push_35 : decode cX4_push 35 = .ok (.invokestatic 27, 3) := by decide +kernel
theorem dX4_push_38 : decode cX4_push 38 = .ok (.return_, 1) := by decide +kernel
theorem dX4_multiply_0 : decode cX4_multiply 0 = .ok (.lconst 0, 1) := by decide +kernel
theorem dX4_multiply_1 : decode cX4_multiply 1 = .ok (.lstore_n 2, 1) := by decide +kernel
theorem dX4_multiply_2 : decode cX4_multiply 2 = .ok (.iconst 0, 1) := by decide +kernel
theorem dX4_multiply_3 : decode cX4_multiply 3 = .ok (.istore 4, 2) := by decide +kernel
theorem dX4_multiply_5 : decode cX4_multiply 5 = .ok (.iload 4, 2) := by decide +kernel
theorem dX4_multiply_7 : decode cX4_multiply 7 = .ok (.aload_n 0, 1) := by decide +kernel
theorem dX4_multiply_8 : decode cX4_multiply 8 = .ok (.getfield 13, 3) := by decide +kernel
theorem dX4_multiply_11 : decode cX4_multiply 11 = .ok (.if_icmp .ge 45, 3) := by decide +kernel
theorem dX4_multiply_14 : decode cX4_multiply 14 = .ok (.lload_n 2, 1) := by decide +kernel
theorem dX4_multiply_15 : decode cX4_multiply 15 = .ok (.aload_n 0, 1) := by decide +kernel
theorem dX4_multiply_16 : decode cX4_multiply 16 = .ok (.getfield 9, 3) := by decide +kernel
theorem dX4_multiply_19 : decode cX4_multiply 19 = .ok (.iload 4, 2) := by decide +kernel
theorem dX4_multiply_21 : decode cX4_multiply 21 = .ok (.invokestatic 31, 3) := by decide +kernel
theorem dX4_multiply_24 : decode cX4_multiply 24 = .ok (.i2l, 1) := by decide +kernel
theorem dX4_multiply_25 : decode cX4_multiply 25 = .ok (.iload_n 1, 1) := by decide +kernel
theorem dX4_multiply_26 : decode cX4_multiply 26 = .ok (.i2l, 1) := by decide +kernel
theorem dX4_multiply_27 : decode cX4_multiply 27 = .ok (.lmul, 1) := by decide +kernel
theorem dX4_multiply_28 : decode cX4_multiply 28 = .ok (.ladd, 1) := by decide +kernel
theorem dX4_multiply_29 : decode cX4_multiply 29 = .ok (.lstore_n 2, 1) := by decide +kernel
theorem dX4_multiply_30 : decode cX4_multiply 30 = .ok (.aload_n 0, 1) := by decide +kernel
theorem dX4_multiply_31 : decode cX4_multiply 31 = .ok (.getfield 9, 3) := by decide +kernel
theorem dX4_multiply_34 : decode cX4_multiply 34 = .ok (.iload 4, 2) := by decide +kernel
theorem dX4_multiply_36 : decode cX4_multiply 36 = .ok (.lload_n 2, 1) := by decide +kernel
theorem dX4_multiply_37 : decode cX4_multiply 37 = .ok (.ldc2_w 35, 3) := by decide +kernel
theorem dX4_multiply_40 : decode cX4_multiply 40 = .ok (.land, 1) := by decide +kernel
theorem dX4_multiply_41 : decode cX4_multiply 41 = .ok (.l2i, 1) := by decide +kernel
theorem dX4_multiply_42 : decode cX4_multiply 42 = .ok (.invokestatic 27, 3) := by decide +kernel
theorem dX4_multiply_45 : decode cX4_multiply 45 = .ok (.lload_n 2, 1) := by decide +kernel
theorem dX4_multiply_46 : decode cX4_multiply 46 = .ok (.bipush 30, 2) := by decide +kernel
theorem dX4_multiply_48 : decode cX4_multiply 48 = .ok (.lshr, 1) := by decide +kernel
theorem dX4_multiply_49 : decode cX4_multiply 49 = .ok (.lstore_n 2, 1) := by decide +kernel
theorem dX4_multiply_50 : decode cX4_multiply 50 = .ok (.iinc 4 1, 3) := by decide +kernel
theorem dX4_multiply_53 : decode cX4_multiply 53 = .ok (.goto (-48), 3) := by decide +kernel
theorem dX4_multiply_56 : decode cX4_multiply 56 = .ok (.aload_n 0, 1) := by decide +kernel
theorem dX4_multiply_57 : decode cX4_multiply 57 = .ok (.lload_n 2, 1) := by decide +kernel
theorem dX4_multiply_58 : decode cX4_multiply 58 = .ok (.invokevirtual 17, 3) := by decide +kernel
theorem dX4_multiply_61 : decode cX4_multiply 61 = .ok (.aload_n 0, 1) := by decide +kernel
theorem dX4_multiply_62 : decode cX4_multiply 62 = .ok (.invokevirtual 37, 3) := by decide +kernel
theorem dX4_multiply_65 : decode cX4_multiply 65 = .ok (.return_, 1) := by decide +kernel
theorem dX4_add_0 : decode cX4_add 0 = .ok (.lconst 0, 1) := by decide +kernel
theorem dX4_add_1 : decode cX4_add 1 = .ok (.lstore_n 2, 1) := by decide +kernel
theorem dX4_add_2 : decode cX4_add 2 = .ok (.aload_n 0, 1) := by decide +kernel
theorem dX4_add_3 : decode cX4_add 3 = .ok (.getfield 13, 3) := by decide +kernel
theorem dX4_add_6 : decode cX4_add 6 = .ok (.aload_n 1, 1) := by decide +kernel
theorem dX4_add_7 : decode cX4_add 7 = .ok (.getfield 13, 3) := by decide +kernel
theorem dX4_add_10 : decode cX4_add 10 = .ok (.invokestatic 40, 3) := by decide +kernel
theorem dX4_add_13 : decode cX4_add 13 = .ok (.istore 4, 2) := by decide +kernel
theorem dX4_add_15 : decode cX4_add 15 = .ok (.iconst 0, 1) := by decide +kernel
theorem dX4_add_16 : decode cX4_add 16 = .ok (.istore 5, 2) := by decide +kernel
theorem dX4_add_18 : decode cX4_add 18 = .ok (.iload 5, 2) := by decide +kernel
theorem dX4_add_20 : decode cX4_add 20 = .ok (.iload 4, 2) := by decide +kernel
theorem dX4_add_22 : decode cX4_add 22 = .ok (.if_icmp .ge 45, 3) := by decide +kernel
theorem dX4_add_25 : decode cX4_add 25 = .ok (.lload_n 2, 1) := by decide +kernel
theorem dX4_add_26 : decode cX4_add 26 = .ok (.aload_n 0, 1) := by decide +kernel
theorem dX4_add_27 : decode cX4_add 27 = .ok (.iload 5, 2) := by decide +kernel
theorem dX4_add_29 : decode cX4_add 29 = .ok (.invokevirtual 46, 3) := by decide +kernel
theorem dX4_add_32 : decode cX4_add 32 = .ok (.aload_n 1, 1) := by decide +kernel
theorem dX4_add_33 : decode cX4_add 33 = .ok (.iload 5, 2) := by decide +kernel
theorem dX4_add_35 : decode cX4_add 35 = .ok (.invokevirtual 46, 3) := by decide +kernel
theorem dX4_add_38 : decode cX4_add 38 = .ok (.ladd, 1) := by decide +kernel
theorem dX4_add_39 : decode cX4_add 39 = .ok (.ladd, 1) := by decide +kernel
theorem dX4_add_40 : decode cX4_add 40 = .ok (.lstore_n 2, 1) := by decide +kernel
theorem dX4_add_41 : decode cX4_add 41 = .ok (.aload_n 0, 1) := by decide +kernel
theorem dX4_add_42 : decode cX4_add 42 = .ok (.getfield 9, 3) := by decide +kernel
theorem dX4_add_45 : decode cX4_add 45 = .ok (.iload 5, 2) := by decide +kernel
theorem dX4_add_47 : decode cX4_add 47 = .ok (.lload_n 2, 1) := by decide +kernel
theorem dX4_add_48 : decode cX4_add 48 = .ok (.ldc2_w 35, 3) := by decide +kernel
theorem dX4_add_51 : decode cX4_add 51 = .ok (.land, 1) := by decide +kernel
theorem dX4_add_52 : decode cX4_add 52 = .ok (.l2i, 1) := by decide +kernel
theorem dX4_add_53 : decode cX4_add 53 = .ok (.invokestatic 27, 3) := by decide +kernel
theorem dX4_add_56 : decode cX4_add 56 = .ok (.lload_n 2, 1) := by decide +kernel
theorem dX4_add_57 : decode cX4_add 57 = .ok (.bipush 30, 2) := by decide +kernel
theorem dX4_add_59 : decode cX4_add 59 = .ok (.lshr, 1) := by decide +kernel
theorem dX4_add_60 : decode cX4_add 60 = .ok (.lstore_n 2, 1) := by decide +kernel
theorem dX4_add_61 : decode cX4_add 61 = .ok (.iinc 5 1, 3) := by decide +kernel
theorem dX4_add_64 : decode cX4_add 64 = .ok (.goto (-46), 3) := by decide +kernel
theorem dX4_add_67 : decode cX4_add 67 = .ok (.aload_n 0, 1) := by decide +kernel
theorem dX4_add_68 : decode cX4_add 68 = .ok (.iload 4, 2) := by decide +kernel
theorem dX4_add_70 : decode cX4_add 70 = .ok (.putfield 13, 3) := by decide +kernel
theorem dX4_add_73 : decode cX4_add 73 = .ok (.aload_n 0, 1) := by decide +kernel
theorem dX4_add_74 : decode cX4_add 74 = .ok (.lload_n 2, 1) := by decide +kernel
theorem dX4_add_75 : decode cX4_add 75 = .ok (.invokevirtual 17, 3) := by decide +kernel
theorem dX4_add_78 : decode cX4_add 78 = .ok (.return_, 1) := by decide +kernel
theorem dX4_digitAt_0 : decode cX4_digitAt 0 = .ok (.iload_n 1, 1) := by decide +kernel
theorem dX4_digitAt_1 : decode cX4_digitAt 1 = .ok (.aload_n 0, 1) := by decide +kernel
theorem dX4_digitAt_2 : decode cX4_digitAt 2 = .ok (.getfield 13, 3) := by decide +kernel
theorem dX4_digitAt_5 : decode cX4_digitAt 5 = .ok (.if_icmp .ge 15, 3) := by decide +kernel
theorem dX4_digitAt_8 : decode cX4_digitAt 8 = .ok (.aload_n 0, 1) := by decide +kernel
theorem dX4_digitAt_9 : decode cX4_digitAt 9 = .ok (.getfield 9, 3) := by decide +kernel
theorem dX4_digitAt_12 : decode cX4_digitAt 12 = .ok (.iload_n 1, 1) := by decide +kernel
theorem dX4_digitAt_13 : decode cX4_digitAt 13 = .ok (.invokestatic 31, 3) := by decide +kernel
theorem dX4_digitAt_16 : decode cX4_digitAt 16 = .ok (.i2l, 1) := by decide +kernel
theorem dX4_digitAt_17 : decode cX4_digitAt 17 = .ok (.goto 4, 3) := by decide +kernel
theorem dX4_digitAt_20 : decode cX4_digitAt 20 = .ok (.lconst 0, 1) := by decide +kernel
theorem dX4_digitAt_21 : decode cX4_digitAt 21 = .ok (.lreturn, 1) := by decide +kernel
theorem dX4_isDivisible_0 : decode cX4_isDivisible 0 = .ok (.iload_n 1, 1) := by decide +kernel
theorem dX4_isDivisible_1 : decode cX4_isDivisible 1 = .ok (.iconst 1, 1) := by decide +kernel
theorem dX4_isDivisible_2 : decode cX4_isDivisible 2 = .ok (.if_icmp .ge 5, 3) := by decide +kernel
theorem dX4_isDivisible_5 : decode cX4_isDivisible 5 = .ok (.iconst 0, 1) := by decide +kernel
theorem dX4_isDivisible_6 : decode cX4_isDivisible 6 = .ok (.ireturn, 1) := by decide +kernel
theorem dX4_isDivisible_7 : decode cX4_isDivisible 7 = .ok (.lconst 0, 1) := by decide +kernel
theorem dX4_isDivisible_8 : decode cX4_isDivisible 8 = .ok (.lstore_n 2, 1) := by decide +kernel
theorem dX4_isDivisible_9 : decode cX4_isDivisible 9 = .ok (.aload_n 0, 1) := by decide +kernel
theorem dX4_isDivisible_10 : decode cX4_isDivisible 10 = .ok (.getfield 13, 3) := by decide +kernel
theorem dX4_isDivisible_13 : decode cX4_isDivisible 13 = .ok (.iconst 1, 1) := by decide +kernel
theorem dX4_isDivisible_14 : decode cX4_isDivisible 14 = .ok (.isub, 1) := by decide +kernel
theorem dX4_isDivisible_15 : decode cX4_isDivisible 15 = .ok (.istore 4, 2) := by decide +kernel
theorem dX4_isDivisible_17 : decode cX4_isDivisible 17 = .ok (.iload 4, 2) := by decide +kernel
theorem dX4_isDivisible_19 : decode cX4_isDivisible 19 = .ok (.ifCond .lt 28, 3) := by decide +kernel
theorem dX4_isDivisible_22 : decode cX4_isDivisible 22 = .ok (.lload_n 2, 1) := by decide +kernel
theorem dX4_isDivisible_23 : decode cX4_isDivisible 23 = .ok (.bipush 30, 2) := by decide +kernel
theorem dX4_isDivisible_25 : decode cX4_isDivisible 25 = .ok (.lshl, 1) := by decide +kernel
theorem dX4_isDivisible_26 : decode cX4_isDivisible 26 = .ok (.aload_n 0, 1) := by decide +kernel
theorem dX4_isDivisible_27 : decode cX4_isDivisible 27 = .ok (.getfield 9, 3) := by decide +kernel
theorem dX4_isDivisible_30 : decode cX4_isDivisible 30 = .ok (.iload 4, 2) := by decide +kernel
theorem dX4_isDivisible_32 : decode cX4_isDivisible 32 = .ok (.invokestatic 31, 3) := by decide +kernel
theorem dX4_isDivisible_35 : decode cX4_isDivisible 35 = .ok (.i2l, 1) := by decide +kernel
theorem dX4_isDivisible_36 : decode cX4_isDivisible 36 = .ok (.ladd, 1) := by decide +kernel
theorem dX4_isDivisible_37 : decode cX4_isDivisible 37 = .ok (.iload_n 1, 1) := by decide +kernel
theorem dX4_isDivisible_38 : decode cX4_isDivisible 38 = .ok (.i2l, 1) := by decide +kernel
theorem dX4_isDivisible_39 : decode cX4_isDivisible 39 = .ok (.lrem, 1) := by decide +kernel
theorem dX4_isDivisible_40 : decode cX4_isDivisible 40 = .ok (.lstore_n 2, 1) := by decide +kernel
theorem dX4_isDivisible_41 : decode cX4_isDivisible 41 = .ok (.iinc 4 (-1), 3) := by decide +kernel
theorem dX4_isDivisible_44 : decode cX4_isDivisible 44 = .ok (.goto (-27), 3) := by decide +kernel
theorem dX4_isDivisible_47 : decode cX4_isDivisible 47 = .ok (.lload_n 2, 1) := by decide +kernel
theorem dX4_isDivisible_48 : decode cX4_isDivisible 48 = .ok (.lconst 0, 1) := by decide +kernel
theorem dX4_isDivisible_49 : decode cX4_isDivisible 49 = .ok (.lcmp, 1) := by decide +kernel
theorem dX4_isDivisible_50 : decode cX4_isDivisible 50 = .ok (.ifCond .ne 7, 3) := by decide +kernel
theorem dX4_isDivisible_53 : decode cX4_isDivisible 53 = .ok (.iconst 1, 1) := by decide +kernel
theorem dX4_isDivisible_54 : decode cX4_isDivisible 54 = .ok (.goto 4, 3) := by decide +kernel
theorem dX4_isDivisible_57 : decode cX4_isDivisible 57 = .ok (.iconst 0, 1) := by decide +kernel
theorem dX4_isDivisible_58 : decode cX4_isDivisible 58 = .ok (.ireturn, 1) := by decide +kernel
theorem dX4_divide_0 : decode cX4_divide 0 = .ok (.iload_n 1, 1) := by decide +kernel
theorem dX4_divide_1 : decode cX4_divide 1 = .ok (.iconst 1, 1) := by decide +kernel
theorem dX4_divide_2 : decode cX4_divide 2 = .ok (.if_icmp .ge 4, 3) := by decide +kernel
theorem dX4_divide_5 : decode cX4_divide 5 = .ok (.return_, 1) := by decide +kernel
theorem dX4_divide_6 : decode cX4_divide 6 = .ok (.lconst 0, 1) := by decide +kernel
theorem dX4_divide_7 : decode cX4_divide 7 = .ok (.lstore_n 2, 1) := by decide +kernel
theorem dX4_divide_8 : decode cX4_divide 8 = .ok (.aload_n 0, 1) := by decide +kernel
theorem dX4_divide_9 : decode cX4_divide 9 = .ok (.getfield 13, 3) := by decide +kernel
theorem dX4_divide_12 : decode cX4_divide 12 = .ok (.iconst 1, 1) := by decide +kernel
theorem dX4_divide_13 : decode cX4_divide 13 = .ok (.isub, 1) := by decide +kernel
theorem dX4_divide_14 : decode cX4_divide 14 = .ok (.istore 4, 2) := by decide +kernel
theorem dX4_divide_16 : decode cX4_divide 16 = .ok (.iload 4, 2) := by decide +kernel
theorem dX4_divide_18 : decode cX4_divide 18 = .ok (.ifCond .lt 44, 3) := by decide +kernel
theorem dX4_divide_21 : decode cX4_divide 21 = .ok (.lload_n 2, 1) := by decide +kernel
theorem dX4_divide_22 : decode cX4_divide 22 = .ok (.bipush 30, 2) := by decide +kernel
theorem dX4_divide_24 : decode cX4_divide 24 = .ok (.lshl, 1) := by decide +kernel
theorem dX4_divide_25 : decode cX4_divide 25 = .ok (.aload_n 0, 1) := by decide +kernel
theorem dX4_divide_26 : decode cX4_divide 26 = .ok (.getfield 9, 3) := by decide +kernel
theorem dX4_divide_29 : decode cX4_divide 29 = .ok (.iload 4, 2) := by decide +kernel
theorem dX4_divide_31 : decode cX4_divide 31 = .ok (.invokestatic 31, 3) := by decide +kernel
theorem dX4_divide_34 : decode cX4_divide 34 = .ok (.i2l, 1) := by decide +kernel
theorem dX4_divide_35 : decode cX4_divide 35 = .ok (.ladd, 1) := by decide +kernel
theorem dX4_divide_36 : decode cX4_divide 36 = .ok (.lstore_n 2, 1) := by decide +kernel
theorem dX4_divide_37 : decode cX4_divide 37 = .ok (.aload_n 0, 1) := by decide +kernel
theorem dX4_divide_38 : decode cX4_divide 38 = .ok (.getfield 9, 3) := by decide +kernel
theorem dX4_divide_41 : decode cX4_divide 41 = .ok (.iload 4, 2) := by decide +kernel
theorem dX4_divide_43 : decode cX4_divide 43 = .ok (.lload_n 2, 1) := by decide +kernel
theorem dX4_divide_44 : decode cX4_divide 44 = .ok (.iload_n 1, 1) := by decide +kernel
theorem dX4_divide_45 : decode cX4_divide 45 = .ok (.i2l, 1) := by decide +kernel
theorem dX4_divide_46 : decode cX4_divide 46 = .ok (.ldiv, 1) := by decide +kernel
theorem dX4_divide_47 : decode cX4_divide 47 = .ok (.l2i, 1) := by decide +kernel
theorem dX4_divide_48 : decode cX4_divide 48 = .ok (.invokestatic 27, 3) := by decide +kernel
theorem dX4_divide_51 : decode cX4_divide 51 = .ok (.lload_n 2, 1) := by decide +kernel
theorem dX4_divide_52 : decode cX4_divide 52 = .ok (.iload_n 1, 1) := by decide +kernel
theorem dX4_divide_53 : decode cX4_divide 53 = .ok (.i2l, 1) := by decide +kernel
theorem dX4_divide_54 : decode cX4_divide 54 = .ok (.lrem, 1) := by decide +kernel
theorem dX4_divide_55 : decode cX4_divide 55 = .ok (.lstore_n 2, 1) := by decide +kernel
theorem dX4_divide_56 : decode cX4_divide 56 = .ok (.iinc 4 (-1), 3) := by decide +kernel
theorem dX4_divide_59 : decode cX4_divide 59 = .ok (.goto (-43), 3) := by decide +kernel
theorem dX4_divide_62 : decode cX4_divide 62 = .ok (.aload_n 0, 1) := by decide +kernel
theorem dX4_divide_63 : decode cX4_divide 63 = .ok (.invokevirtual 37, 3) := by decide +kernel
theorem dX4_divide_66 : decode cX4_divide 66 = .ok (.return_, 1) := by decide +kernel
theorem dX4_trim_0 : decode cX4_trim 0 = .ok (.aload_n 0, 1) := by decide +kernel
theorem dX4_trim_1 : decode cX4_trim 1 = .ok (.getfield 13, 3) := by decide +kernel
theorem dX4_trim_4 : decode cX4_trim 4 = .ok (.iconst 1, 1) := by decide +kernel
theorem dX4_trim_5 : decode cX4_trim 5 = .ok (.isub, 1) := by decide +kernel
theorem dX4_trim_6 : decode cX4_trim 6 = .ok (.istore_n 1, 1) := by decide +kernel
theorem dX4_trim_7 : decode cX4_trim 7 = .ok (.iload_n 1, 1) := by decide +kernel
theorem dX4_trim_8 : decode cX4_trim 8 = .ok (.ifCond .lt 25, 3) := by decide +kernel
theorem dX4_trim_11 : decode cX4_trim 11 = .ok (.aload_n 0, 1) := by decide +kernel
theorem dX4_trim_12 : decode cX4_trim 12 = .ok (.getfield 9, 3) := by decide +kernel
theorem dX4_trim_15 : decode cX4_trim 15 = .ok (.iload_n 1, 1) := by decide +kernel
theorem dX4_trim_16 : decode cX4_trim 16 = .ok (.invokestatic 31, 3) := by decide +kernel
theorem dX4_trim_19 : decode cX4_trim 19 = .ok (.ifCond .ne 14, 3) := by decide +kernel
theorem dX4_trim_22 : decode cX4_trim 22 = .ok (.aload_n 0, 1) := by decide +kernel
theorem dX4_trim_23 : decode cX4_trim 23 = .ok (.iload_n 1, 1) := by decide +kernel
theorem dX4_trim_24 : decode cX4_trim 24 = .ok (.putfield 13, 3) := by decide +kernel
theorem dX4_trim_27 : decode cX4_trim 27 = .ok (.iinc 1 (-1), 3) := by decide +kernel
theorem dX4_trim_30 : decode cX4_trim 30 = .ok (.goto (-23), 3) := by decide +kernel
theorem dX4_trim_33 : decode cX4_trim 33 = .ok (.return_, 1) := by decide +kernel
theorem dX4_digestOn_0 : decode cX4_digestOn 0 = .ok (.lload_n 1, 1) := by decide +kernel
theorem dX4_digestOn_1 : decode cX4_digestOn 1 = .ok (.aload_n 0, 1) := by decide +kernel
theorem dX4_digestOn_2 : decode cX4_digestOn 2 = .ok (.getfield 9, 3) := by decide +kernel
theorem dX4_digestOn_5 : decode cX4_digestOn 5 = .ok (.iconst 0, 1) := by decide +kernel
theorem dX4_digestOn_6 : decode cX4_digestOn 6 = .ok (.aload_n 0, 1) := by decide +kernel
theorem dX4_digestOn_7 : decode cX4_digestOn 7 = .ok (.getfield 13, 3) := by decide +kernel
theorem dX4_digestOn_10 : decode cX4_digestOn 10 = .ok (.invokestatic 50, 3) := by decide +kernel
theorem dX4_digestOn_13 : decode cX4_digestOn 13 = .ok (.lreturn, 1) := by decide +kernel
theorem dX5_init_0 : decode cX5_init 0 = .ok (.aload_n 0, 1) := by decide +kernel
theorem dX5_init_1 : decode cX5_init 1 = .ok (.invokespecial 3, 3) := by decide +kernel
theorem dX5_init_4 : decode cX5_init 4 = .ok (.aload_n 0, 1) := by decide +kernel
theorem dX5_init_5 : decode cX5_init 5 = .ok (.bipush 8, 2) := by decide +kernel
theorem dX5_init_7 : decode cX5_init 7 = .ok (.newarray .int, 2) := by decide +kernel
theorem dX5_init_9 : decode cX5_init 9 = .ok (.putfield 9, 3) := by decide +kernel
theorem dX5_init_12 : decode cX5_init 12 = .ok (.aload_n 0, 1) := by decide +kernel
theorem dX5_init_13 : decode cX5_init 13 = .ok (.bipush 8, 2) := by decide +kernel
theorem dX5_init_15 : decode cX5_init 15 = .ok (.newarray .int, 2) := by decide +kernel
theorem dX5_init_17 : decode cX5_init 17 = .ok (.putfield 15, 3) := by decide +kernel
theorem dX5_init_20 : decode cX5_init 20 = .ok (.aload_n 0, 1) := by decide +kernel
theorem dX5_init_21 : decode cX5_init 21 = .ok (.bipush 8, 2) := by decide +kernel
theorem dX5_init_23 : decode cX5_init 23 = .ok (.newarray .int, 2) := by decide +kernel
theorem dX5_init_25 : decode cX5_init 25 = .ok (.putfield 18, 3) := by decide +kernel
theorem dX5_init_28 : decode cX5_init 28 = .ok (.aload_n 0, 1) := by decide +kernel
theorem dX5_init_29 : decode cX5_init 29 = .ok (.bipush 8, 2) := by decide +kernel
theorem dX5_init_31 : decode cX5_init 31 = .ok (.newarray .int, 2) := by decide +kernel
theorem dX5_init_33 : decode cX5_init 33 = .ok (.putfield 21, 3) := by decide +kernel
theorem dX5_init_36 : decode cX5_init 36 = .ok (.aload_n 0, 1) := by decide +kernel
theorem dX5_init_37 : decode cX5_init 37 = .ok (.bipush 8, 2) := by decide +kernel
theorem dX5_init_39 : decode cX5_init 39 = .ok (.newarray .int, 2) := by decide +kernel
theorem dX5_init_41 : decode cX5_init 41 = .ok (.putfield 24, 3) := by decide +kernel
theorem dX5_init_44 : decode cX5_init 44 = .ok (.return_, 1) := by decide +kernel
theorem dX5_read_0 : decode cX5_read 0 = .ok (.aload_n 0, 1) := by decide +kernel
theorem dX5_read_1 : decode cX5_read 1 = .ok (.iconst (-1), 1) := by decide +kernel
theorem dX5_read_2 : decode cX5_read 2 = .ok (.putfield 27, 3) := by decide +kernel
theorem dX5_read_5 : decode cX5_read 5 = .ok (.aload_n 0, 1) := by decide +kernel
theorem dX5_read_6 : decode cX5_read 6 = .ok (.iconst 0, 1) := by decide +kernel
theorem dX5_read_7 : decode cX5_read 7 = .ok (.putfield 31, 3) := by decide +kernel
theorem dX5_read_10 : decode cX5_read 10 = .ok (.aload_n 0, 1) := by decide +kernel
theorem dX5_read_11 : decode cX5_read 11 = .ok (.iconst 0, 1) := by decide +kernel
theorem dX5_read_12 : decode cX5_read 12 = .ok (.putfield 34, 3) := by decide +kernel
theorem dX5_read_15 : decode cX5_read 15 = .ok (.aload_n 0, 1) := by decide +kernel
theorem dX5_read_16 : decode cX5_read 16 = .ok (.iconst 0, 1) := by decide +kernel
theorem dX5_read_17 : decode cX5_read 17 = .ok (.putfield 37, 3) := by decide +kernel
theorem dX5_read_20 : decode cX5_read 20 = .ok (.iconst 0, 1) := by decide +kernel
theorem dX5_read_21 : decode cX5_read 21 = .ok (.istore_n 2, 1) := by decide +kernel
theorem dX5_read_22 : decode cX5_read 22 = .ok (.iconst 0, 1) := by decide +kernel
theorem dX5_read_23 : decode cX5_read 23 = .ok (.istore_n 3, 1) := by decide +kernel
theorem dX5_read_24 : decode cX5_read 24 = .ok (.iload_n 3, 1) := by decide +kernel
theorem dX5_read_25 : decode cX5_read 25 = .ok (.aload_n 1, 1) := by decide +kernel
theorem dX5_read_26 : decode cX5_read 26 = .ok (.getfield 40, 3) := by decide +kernel
theorem dX5_read_29 : decode cX5_read 29 = .ok (.if_icmp .ge 56, 3) := by decide +kernel
theorem dX5_read_32 : decode cX5_read 32 = .ok (.aload_n 0, 1) := by decide +kernel
theorem dX5_read_33 : decode cX5_read 33 = .ok (.getfield 27, 3) := by decide +kernel
theorem dX5_read_36 : decode cX5_read 36 = .ok (.iconst (-1), 1) := by decide +kernel
theorem dX5_read_37 : decode cX5_read 37 = .ok (.if_icmp .ne 48, 3) := by decide +kernel
theorem dX5_read_40 : decode cX5_read 40 = .ok (.iload_n 3, 1) := by decide +kernel
theorem dX5_read_41 : decode cX5_read 41 = .ok (.iconst 1, 1) := by decide +kernel
theorem dX5_read_42 : decode cX5_read 42 = .ok (.iadd, 1) := by decide +kernel
theorem dX5_read_43 : decode cX5_read 43 = .ok (.aload_n 1, 1) := by decide +kernel
theorem dX5_read_44 : decode cX5_read 44 = .ok (.iload_n 3, 1) := by decide +kernel
theorem dX5_read_45 : decode cX5_read 45 = .ok (.invokestatic 45, 3) := by decide +kernel
theorem dX5_read_48 : decode cX5_read 48 = .ok (.invokestatic 49, 3) := by decide +kernel
theorem dX5_read_51 : decode cX5_read 51 = .ok (.istore_n 2, 1) := by decide +kernel
theorem dX5_read_52 : decode cX5_read 52 = .ok (.aload_n 1, 1) := by decide +kernel
theorem dX5_read_53 : decode cX5_read 53 = .ok (.getfield 55, 3) := by decide +kernel
theorem dX5_read_56 : decode cX5_read 56 = .ok (.iload_n 3, 1) := by decide +kernel
theorem dX5_read_57 : decode cX5_read 57 = .ok (.invokestatic 58, 3) := by decide +kernel
theorem dX5_read_60 : decode cX5_read 60 = .ok (.bipush 32, 2) := by decide +kernel
theorem dX5_read_62 : decode cX5_read 62 = .ok (.if_icmp .eq 18, 3) := by decide +kernel
theorem dX5_read_65 : decode cX5_read 65 = .ok (.aload_n 0, 1) := by decide +kernel
theorem dX5_read_66 : decode cX5_read 66 = .ok (.aload_n 1, 1) := by decide +kernel
theorem dX5_read_67 : decode cX5_read 67 = .ok (.iload_n 3, 1) := by decide +kernel
theorem dX5_read_68 : decode cX5_read 68 = .ok (.iload_n 2, 1) := by decide +kernel
theorem dX5_read_69 : decode cX5_read 69 = .ok (.invokevirtual 62, 3) := by decide +kernel
theorem dX5_read_72 : decode cX5_read 72 = .ok (.ifCond .ne 8, 3) := by decide +kernel
theorem dX5_read_75 : decode cX5_read 75 = .ok (.aload_n 0, 1) := by decide +kernel
theorem dX5_read_76 : decode cX5_read 76 = .ok (.iload_n 3, 1) := by decide +kernel
theorem dX5_read_77 : decode cX5_read 77 = .ok (.putfield 27, 3) := by decide +kernel
theorem dX5_read_80 : decode cX5_read 80 = .ok (.iload_n 2, 1) := by decide +kernel
theorem dX5_read_81 : decode cX5_read 81 = .ok (.istore_n 3, 1) := by decide +kernel
theorem dX5_read_82 : decode cX5_read 82 = .ok (.goto (-58), 3) := by decide +kernel
theorem dX5_read_85 : decode cX5_read 85 = .ok (.aload_n 0, 1) := by decide +kernel
theorem dX5_read_86 : decode cX5_read 86 = .ok (.getfield 27, 3) := by decide +kernel
theorem dX5_read_89 : decode cX5_read 89 = .ok (.iconst (-1), 1) := by decide +kernel
theorem dX5_read_90 : decode cX5_read 90 = .ok (.if_icmp .ne 18, 3) := by decide +kernel
theorem dX5_read_93 : decode cX5_read 93 = .ok (.aload_n 0, 1) := by decide +kernel
theorem dX5_read_94 : decode cX5_read 94 = .ok (.getfield 34, 3) := by decide +kernel
theorem dX5_read_97 : decode cX5_read 97 = .ok (.ifCond .eq 11, 3) := by decide +kernel
theorem dX5_read_100 : decode cX5_read 100 = .ok (.aload_n 0, 1) := by decide +kernel
theorem dX5_read_101 : decode cX5_read 101 = .ok (.aload_n 1, 1) := by decide +kernel
theorem dX5_read_102 : decode cX5_read 102 = .ok (.getfield 40, 3) := by decide +kernel
theorem dX5_read_105 : decode cX5_read 105 = .ok (.putfield 27, 3) := by decide +kernel
theorem dX5_read_108 : decode cX5_read 108 = .ok (.return_, 1) := by decide +kernel
theorem dX5_tokenEnd_0 : decode cX5_tokenEnd 0 = .ok (.aload_n 0, 1) := by decide +kernel
theorem dX5_tokenEnd_1 : decode cX5_tokenEnd 1 = .ok (.getfield 55, 3) := by decide +kernel
theorem dX5_tokenEnd_4 : decode cX5_tokenEnd 4 = .ok (.iload_n 1, 1) := by decide +kernel
theorem dX5_tokenEnd_5 : decode cX5_tokenEnd 5 = .ok (.invokestatic 58, 3) := by decide +kernel
theorem dX5_tokenEnd_8 : decode cX5_tokenEnd 8 = .ok (.invokestatic 66, 3) := by decide +kernel
theorem dX5_tokenEnd_11 : decode cX5_tokenEnd 11 = .ok (.istore_n 2, 1) := by decide +kernel
theorem dX5_tokenEnd_12 : decode cX5_tokenEnd 12 = .ok (.aload_n 0, 1) := by decide +kernel
theorem dX5_tokenEnd_13 : decode cX5_tokenEnd 13 = .ok (.getfield 55, 3) := by decide +kernel
theorem dX5_tokenEnd_16 : decode cX5_tokenEnd 16 = .ok (.iload_n 1, 1) := by decide +kernel
theorem dX5_tokenEnd_17 : decode cX5_tokenEnd 17 = .ok (.invokestatic 58, 3) := by decide +kernel
theorem dX5_tokenEnd_20 : decode cX5_tokenEnd 20 = .ok (.invokestatic 70, 3) := by decide +kernel
theorem dX5_tokenEnd_23 : decode cX5_tokenEnd 23 = .ok (.istore_n 3, 1) := by decide +kernel
theorem dX5_tokenEnd_24 : decode cX5_tokenEnd 24 = .ok (.iload_n 1, 1) := by decide +kernel
theorem dX5_tokenEnd_25 : decode cX5_tokenEnd 25 = .ok (.iconst 1, 1) := by decide +kernel
theorem dX5_tokenEnd_26 : decode cX5_tokenEnd 26 = .ok (.iadd, 1) := by decide +kernel
theorem dX5_tokenEnd_27 : decode cX5_tokenEnd 27 = .ok (.istore 4, 2) := by decide +kernel
theorem dX5_tokenEnd_29 : decode cX5_tokenEnd 29 = .ok (.iload_n 1, 1) := by decide +kernel
theorem dX5_tokenEnd_30 : decode cX5_tokenEnd 30 = .ok (.iconst 1, 1) := by decide +kernel
theorem dX5_tokenEnd_31 : decode cX5_tokenEnd 31 = .ok (.iadd, 1) := by decide +kernel
theorem dX5_tokenEnd_32 : decode cX5_tokenEnd 32 = .ok (.istore 5, 2) := by decide +kernel
theorem dX5_tokenEnd_34 : decode cX5_tokenEnd 34 = .ok (.iload 5, 2) := by decide +kernel
theorem dX5_tokenEnd_36 : decode cX5_tokenEnd 36 = .ok (.aload_n 0, 1) := by decide +kernel
theorem dX5_tokenEnd_37 : decode cX5_tokenEnd 37 = .ok (.getfield 40, 3) := by decide +kernel
theorem dX5_tokenEnd_40 : decode cX5_tokenEnd 40 = .ok (.if_icmp .ge 57, 3) := by decide +kernel
theorem dX5_tokenEnd_43 : decode cX5_tokenEnd 43 = .ok (.iload 5, 2) := by decide +kernel
theorem dX5_tokenEnd_45 : decode cX5_tokenEnd 45 = .ok (.iload 4, 2) := by decide +kernel
theorem dX5_tokenEnd_47 : decode cX5_tokenEnd 47 = .ok (.if_icmp .ne 50, 3) := by decide +kernel
theorem dX5_tokenEnd_50 : decode cX5_tokenEnd 50 = .ok (.aload_n 0, 1) := by decide +kernel
theorem dX5_tokenEnd_51 : decode cX5_tokenEnd 51 = .ok (.getfield 55, 3) := by decide +kernel
theorem dX5_tokenEnd_54 : decode cX5_tokenEnd 54 = .ok (.iload 5, 2) := by decide +kernel
theorem dX5_tokenEnd_56 : decode cX5_tokenEnd 56 = .ok (.invokestatic 58, 3) := by decide +kernel
theorem dX5_tokenEnd_59 : decode cX5_tokenEnd 59 = .ok (.istore 6, 2) := by decide +kernel
theorem dX5_tokenEnd_61 : decode cX5_tokenEnd 61 = .ok (.iload_n 2, 1) := by decide +kernel
theorem dX5_tokenEnd_62 : decode cX5_tokenEnd 62 = .ok (.ifCond .eq 11, 3) := by decide +kernel
theorem dX5_tokenEnd_65 : decode cX5_tokenEnd 65 = .ok (.iload 6, 2) := by decide +kernel
theorem dX5_tokenEnd_67 : decode cX5_tokenEnd 67 = .ok (.invokestatic 66, 3) := by decide +kernel
theorem dX5_tokenEnd_70 : decode cX5_tokenEnd 70 = .ok (.ifCond .ne 15, 3) := by decide +kernel
theorem dX5_tokenEnd_73 : decode cX5_tokenEnd 73 = .ok (.iload_n 3, 1) := by decide +kernel
theorem dX5_tokenEnd_74 : decode cX5_tokenEnd 74 = .ok (.ifCond .eq 17, 3) := by decide +kernel
theorem dX5_tokenEnd_77 : decode cX5_tokenEnd 77 = .ok (.iload 6, 2) := by decide +kernel
theorem dX5_tokenEnd_79 : decode cX5_tokenEnd 79 = .ok (.invokestatic 70, 3) := by decide +kernel
theorem dX5_tokenEnd_82 : decode cX5_tokenEnd 82 = .ok (.ifCond .eq 9, 3) := by decide +kernel
theorem dX5_tokenEnd_85 : decode cX5_tokenEnd 85 = .ok (.iload 5, 2) := by decide +kernel
theorem dX5_tokenEnd_87 : decode cX5_tokenEnd 87 = .ok (.iconst 1, 1) := by decide +kernel
theorem dX5_tokenEnd_88 : decode cX5_tokenEnd 88 = .ok (.iadd, 1) := by decide +kernel
theorem dX5_tokenEnd_89 : decode cX5_tokenEnd 89 = .ok (.istore 4, 2) := by decide +kernel
theorem dX5_tokenEnd_91 : decode cX5_tokenEnd 91 = .ok (.iinc 5 1, 3) := by decide +kernel
theorem dX5_tokenEnd_94 : decode cX5_tokenEnd 94 = .ok (.goto (-60), 3) := by decide +kernel
theorem dX5_tokenEnd_97 : decode cX5_tokenEnd 97 = .ok (.iload 4, 2) := by decide +kernel
theorem dX5_tokenEnd_99 : decode cX5_tokenEnd 99 = .ok (.ireturn, 1) := by decide +kernel
theorem dX5_isLetter_0 : decode cX5_isLetter 0 = .ok (.iload_n 0, 1) := by decide +kernel
theorem dX5_isLetter_1 : decode cX5_isLetter 1 = .ok (.bipush 97, 2) := by decide +kernel
theorem dX5_isLetter_3 : decode cX5_isLetter 3 = .ok (.bipush 122, 2) := by decide +kernel
theorem dX5_isLetter_5 : decode cX5_isLetter 5 = .ok (.invokestatic 73, 3) := by decide +kernel
theorem dX5_isLetter_8 : decode cX5_isLetter 8 = .ok (.ireturn, 1) := by decide +kernel
theorem dX5_isFigure_0 : decode cX5_isFigure 0 = .ok (.iload_n 0, 1) := by decide +kernel
theorem dX5_isFigure_1 : decode cX5_isFigure 1 = .ok (.bipush 48, 2) := by decide +kernel
theorem dX5_isFigure_3 : decode cX5_isFigure 3 = .ok (.bipush 57, 2) := by decide +kernel
theorem dX5_isFigure_5 : decode cX5_isFigure 5 = .ok (.invokestatic 73, 3) := by decide +kernel
theorem dX5_isFigure_8 : decode cX5_isFigure 8 = .ok (.ireturn, 1) := by decide +kernel
theorem dX5_takes_0 : decode cX5_takes 0 = .ok (.aload_n 1, 1) := by decide +kernel
theorem dX5_takes_1 : decode cX5_takes 1 = .ok (.getfield 55, 3) := by decide +kernel
theorem dX5_takes_4 : decode cX5_takes 4 = .ok (.iload_n 2, 1) := by decide +kernel
theorem dX5_takes_5 : decode cX5_takes 5 = .ok (.invokestatic 58, 3) := by decide +kernel
theorem dX5_takes_8 : decode cX5_takes 8 = .ok (.istore 4, 2) := by decide +kernel
theorem dX5_takes_10 : decode cX5_takes 10 = .ok (.iload 4, 2) := by decide +kernel
theorem dX5_takes_12 : decode cX5_takes 12 = .ok (.invokestatic 66, 3) := by decide +kernel
theorem dX5_takes_15 : decode cX5_takes 15 = .ok (.ifCond .eq 11, 3) := by decide +kernel
theorem dX5_takes_18 : decode cX5_takes 18 = .ok (.aload_n 0, 1) := by decide +kernel
theorem dX5_takes_19 : decode cX5_takes 19 = .ok (.aload_n 1, 1) := by decide +kernel
theorem dX5_takes_20 : decode cX5_takes 20 = .ok (.iload_n 2, 1) := by decide +kernel
theorem dX5_takes_21 : decode cX5_takes 21 = .ok (.iload_n 3, 1) := by decide +kernel
theorem dX5_takes_22 : decode cX5_takes 22 = .ok (.invokevirtual 77, 3) := by decide +kernel
theorem dX5_takes_25 : decode cX5_takes 25 = .ok (.ireturn, 1) := by decide +kernel
theorem dX5_takes_26 : decode cX5_takes 26 = .ok (.iload 4, 2) := by decide +kernel
theorem dX5_takes_28 : decode cX5_takes 28 = .ok (.invokestatic 70, 3) := by decide +kernel
theorem dX5_takes_31 : decode cX5_takes 31 = .ok (.ifCond .eq 30, 3) := by decide +kernel
theorem dX5_takes_34 : decode cX5_takes 34 = .ok (.iload_n 3, 1) := by decide +kernel
theorem dX5_takes_35 : decode cX5_takes 35 = .ok (.iload_n 2, 1) := by decide +kernel
theorem dX5_takes_36 : decode cX5_takes 36 = .ok (.isub, 1) := by decide +kernel
theorem dX5_takes_37 : decode cX5_takes 37 = .ok (.iconst 3, 1) := by decide +kernel
theorem dX5_takes_38 : decode cX5_takes 38 = .ok (.if_icmp .gt 21, 3) := by decide +kernel
theorem dX5_takes_41 : decode cX5_takes 41 = .ok (.aload_n 0, 1) := by decide +kernel
theorem dX5_takes_42 : decode cX5_takes 42 = .ok (.aload_n 1, 1) := by decide +kernel
theorem dX5_takes_43 : decode cX5_takes 43 = .ok (.aload_n 1, 1) := by decide +kernel
theorem dX5_takes_44 : decode cX5_takes 44 = .ok (.iload_n 2, 1) := by decide +kernel
theorem dX5_takes_45 : decode cX5_takes 45 = .ok (.iload_n 3, 1) := by decide +kernel
theorem dX5_takes_46 : decode cX5_takes 46 = .ok (.invokestatic 80, 3) := by decide +kernel
theorem dX5_takes_49 : decode cX5_takes 49 = .ok (.invokevirtual 84, 3) := by decide +kernel
theorem dX5_takes_52 : decode cX5_takes 52 = .ok (.ifCond .eq 7, 3) := by decide +kernel
theorem dX5_takes_55 : decode cX5_takes 55 = .ok (.iconst 1, 1) := by decide +kernel
theorem dX5_takes_56 : decode cX5_takes 56 = .ok (.goto 4, 3) := by decide +kernel
theorem dX5_takes_59 : decode cX5_takes 59 = .ok (.iconst 0, 1) := by decide +kernel
theorem dX5_takes_60 : decode cX5_takes 60 = .ok (.ireturn, 1) := by decide +kernel
theorem dX5_takes_61 : decode cX5_takes 61 = .ok (.iload 4, 2) := by decide +kernel
theorem dX5_takes_63 : decode cX5_takes 63 = .ok (.bipush 59, 2) := by decide +kernel
theorem dX5_takes_65 : decode cX5_takes 65 = .ok (.if_icmp .ne 12, 3) := by decide +kernel
theorem dX5_takes_68 : decode cX5_takes 68 = .ok (.aload_n 0, 1) := by decide +kernel
theorem dX5_takes_69 : decode cX5_takes 69 = .ok (.getfield 34, 3) := by decide +kernel
theorem dX5_takes_72 : decode cX5_takes 72 = .ok (.bipush 6, 2) := by decide +kernel
theorem dX5_takes_74 : decode cX5_takes 74 = .ok (.if_icmp .eq 5, 3) := by decide +kernel
theorem dX5_takes_77 : decode cX5_takes 77 = .ok (.iconst 0, 1) := by decide +kernel
theorem dX5_takes_78 : decode cX5_takes 78 = .ok (.ireturn, 1) := by decide +kernel
theorem dX5_takes_79 : decode cX5_takes 79 = .ok (.aload_n 0, 1) := by decide +kernel
theorem dX5_takes_80 : decode cX5_takes 80 = .ok (.iconst 0, 1) := by decide +kernel
theorem dX5_takes_81 : decode cX5_takes 81 = .ok (.putfield 34, 3) := by decide +kernel
theorem dX5_takes_84 : decode cX5_takes 84 = .ok (.iconst 1, 1) := by decide +kernel
theorem dX5_takes_85 : decode cX5_takes 85 = .ok (.ireturn, 1) := by decide +kernel
theorem dX5_takesWord_0 : decode cX5_takesWord 0 = .ok (.aload_n 0, 1) := by decide +kernel
theorem dX5_takesWord_1 : decode cX5_takesWord 1 = .ok (.getfield 34, 3) := by decide +kernel
theorem dX5_takesWord_4 : decode cX5_takesWord 4 = .ok (.ifCond .eq 5, 3) := by decide +kernel
theorem dX5_takesWord_7 : decode cX5_takesWord 7 = .ok (.iconst 0, 1) := by decide +kernel
theorem dX5_takesWord_8 : decode cX5_takesWord 8 = .ok (.ireturn, 1) := by decide +kernel
theorem dX5_takesWord_9 : decode cX5_takesWord 9 = .ok (.aload_n 1, 1) := by decide +kernel
theorem dX5_takesWord_10 : decode cX5_takesWord 10 = .ok (.iload_n 2, 1) := by decide +kernel
theorem dX5_takesWord_11 : decode cX5_takesWord 11 = .ok (.iload_n 3, 1) := by decide +kernel
theorem dX5_takesWord_12 : decode cX5_takesWord 12 = .ok (.invokestatic 88, 3) := by decide +kernel
theorem dX5_takesWord_15 : decode cX5_takesWord 15 = .ok (.ifCond .eq 23, 3) := by decide +kernel
theorem dX5_takesWord_18 : decode cX5_takesWord 18 = .ok (.aload_n 0, 1) := by decide +kernel
theorem dX5_takesWord_19 : decode cX5_takesWord 19 = .ok (.iconst 1, 1) := by decide +kernel
theorem dX5_takesWord_20 : decode cX5_takesWord 20 = .ok (.putfield 34, 3) := by decide +kernel
theorem dX5_takesWord_23 : decode cX5_takesWord 23 = .ok (.aload_n 0, 1) := by decide +kernel
theorem dX5_takesWord_24 : decode cX5_takesWord 24 = .ok (.getfield 31, 3) := by decide +kernel
theorem dX5_takesWord_27 : decode cX5_takesWord 27 = .ok (.bipush 8, 2) := by decide +kernel
theorem dX5_takesWord_29 : decode cX5_takesWord 29 = .ok (.if_icmp .ge 7, 3) := by decide +kernel
theorem dX5_takesWord_32 : decode cX5_takesWord 32 = .ok (.iconst 1, 1) := by decide +kernel
theorem dX5_takesWord_33 : decode cX5_takesWord 33 = .ok (.goto 4, 3) := by decide +kernel
theorem dX5_takesWord_36 : decode cX5_takesWord 36 = .ok (.iconst 0, 1) := by decide +kernel
theorem dX5_takesWord_37 : decode cX5_takesWord 37 = .ok (.ireturn, 1) := by decide +kernel
theorem dX5_takesWord_38 : decode cX5_takesWord 38 = .ok (.aload_n 0, 1) := by decide +kernel
theorem dX5_takesWord_39 : decode cX5_takesWord 39 = .ok (.iconst 5, 1) := by decide +kernel
theorem dX5_takesWord_40 : decode cX5_takesWord 40 = .ok (.putfield 34, 3) := by decide +kernel
theorem dX5_takesWord_43 : decode cX5_takesWord 43 = .ok (.aload_n 1, 1) := by decide +kernel
theorem dX5_takesWord_44 : decode cX5_takesWord 44 = .ok (.iload_n 2, 1) := by decide +kernel
theorem dX5_takesWord_45 : decode cX5_takesWord 45 = .ok (.iload_n 3, 1) := by decide +kernel
theorem dX5_takesWord_46 : decode cX5_takesWord 46 = .ok (.invokestatic 91, 3) := by decide +kernel
theorem dX5_takesWord_49 : decode cX5_takesWord 49 = .ok (.ireturn, 1) := by decide +kernel
theorem dX5_isAt_0 : decode cX5_isAt 0 = .ok (.iload_n 2, 1) := by decide +kernel
theorem dX5_isAt_1 : decode cX5_isAt 1 = .ok (.iload_n 1, 1) := by decide +kernel
theorem dX5_isAt_2 : decode cX5_isAt 2 = .ok (.isub, 1) := by decide +kernel
theorem dX5_isAt_3 : decode cX5_isAt 3 = .ok (.iconst 2, 1) := by decide +kernel
theorem dX5_isAt_4 : decode cX5_isAt 4 = .ok (.if_icmp .ne 35, 3) := by decide +kernel
theorem dX5_isAt_7 : decode cX5_isAt 7 = .ok (.aload_n 0, 1) := by decide +kernel
theorem dX5_isAt_8 : decode cX5_isAt 8 = .ok (.getfield 55, 3) := by decide +kernel
theorem dX5_isAt_11 : decode cX5_isAt 11 = .ok (.iload_n 1, 1) := by decide +kernel
theorem dX5_isAt_12 : decode cX5_isAt 12 = .ok (.invokestatic 58, 3) := by decide +kernel
theorem dX5_isAt_15 : decode cX5_isAt 15 = .ok (.bipush 97, 2) := by decide +kernel
theorem dX5_isAt_17 : decode cX5_isAt 17 = .ok (.if_icmp .ne 22, 3) := by decide +kernel
theorem dX5_isAt_20 : decode cX5_isAt 20 = .ok (.aload_n 0, 1) := by decide +kernel
theorem dX5_isAt_21 : decode cX5_isAt 21 = .ok (.getfield 55, 3) := by decide +kernel
theorem dX5_isAt_24 : decode cX5_isAt 24 = .ok (.iload_n 1, 1) := by decide +kernel
theorem dX5_isAt_25 : decode cX5_isAt 25 = .ok (.iconst 1, 1) := by decide +kernel
theorem dX5_isAt_26 : decode cX5_isAt 26 = .ok (.iadd, 1) := by decide +kernel
theorem dX5_isAt_27 : decode cX5_isAt 27 = .ok (.invokestatic 58, 3) := by decide +kernel
theorem dX5_isAt_30 : decode cX5_isAt 30 = .ok (.bipush 116, 2) := by decide +kernel
theorem dX5_isAt_32 : decode cX5_isAt 32 = .ok (.if_icmp .ne 7, 3) := by decide +kernel
theorem dX5_isAt_35 : decode cX5_isAt 35 = .ok (.iconst 1, 1) := by decide +kernel
theorem dX5_isAt_36 : decode cX5_isAt 36 = .ok (.goto 4, 3) := by decide +kernel
theorem dX5_isAt_39 : decode cX5_isAt 39 = .ok (.iconst 0, 1) := by decide +kernel
theorem dX5_isAt_40 : decode cX5_isAt 40 = .ok (.ireturn, 1) := by decide +kernel
theorem dX5_isFar_0 : decode cX5_isFar 0 = .ok (.iload_n 2, 1) := by decide +kernel
theorem dX5_isFar_1 : decode cX5_isFar 1 = .ok (.iload_n 1, 1) := by decide +kernel
theorem dX5_isFar_2 : decode cX5_isFar 2 = .ok (.isub, 1) := by decide +kernel
theorem dX5_isFar_3 : decode cX5_isFar 3 = .ok (.iconst 3, 1) := by decide +kernel
theorem dX5_isFar_4 : decode cX5_isFar 4 = .ok (.if_icmp .ne 50, 3) := by decide +kernel
theorem dX5_isFar_7 : decode cX5_isFar 7 = .ok (.aload_n 0, 1) := by decide +kernel
theorem dX5_isFar_8 : decode cX5_isFar 8 = .ok (.getfield 55, 3) := by decide +kernel
theorem dX5_isFar_11 : decode cX5_isFar 11 = .ok (.iload_n 1, 1) := by decide +kernel
theorem dX5_isFar_12 : decode cX5_isFar 12 = .ok (.invokestatic 58, 3) := by decide +kernel
theorem dX5_isFar_15 : decode cX5_isFar 15 = .ok (.bipush 102, 2) := by decide +kernel
theorem dX5_isFar_17 : decode cX5_isFar 17 = .ok (.if_icmp .ne 37, 3) := by decide +kernel
theorem dX5_isFar_20 : decode cX5_isFar 20 = .ok (.aload_n 0, 1) := by decide +kernel
theorem dX5_isFar_21 : decode cX5_isFar 21 = .ok (.getfield 55, 3) := by decide +kernel
theorem dX5_isFar_24 : decode cX5_isFar 24 = .ok (.iload_n 1, 1) := by decide +kernel
theorem dX5_isFar_25 : decode cX5_isFar 25 = .ok (.iconst 1, 1) := by decide +kernel
theorem dX5_isFar_26 : decode cX5_isFar 26 = .ok (.iadd, 1) := by decide +kernel
theorem dX5_isFar_27 : decode cX5_isFar 27 = .ok (.invokestatic 58, 3) := by decide +kernel
theorem dX5_isFar_30 : decode cX5_isFar 30 = .ok (.bipush 97, 2) := by decide +kernel
theorem dX5_isFar_32 : decode cX5_isFar 32 = .ok (.if_icmp .ne 22, 3) := by decide +kernel
theorem dX5_isFar_35 : decode cX5_isFar 35 = .ok (.aload_n 0, 1) := by decide +kernel
theorem dX5_isFar_36 : decode cX5_isFar 36 = .ok (.getfield 55, 3) := by decide +kernel
theorem dX5_isFar_39 : decode cX5_isFar 39 = .ok (.iload_n 1, 1) := by decide +kernel
theorem dX5_isFar_40 : decode cX5_isFar 40 = .ok (.iconst 2, 1) := by decide +kernel
theorem dX5_isFar_41 : decode cX5_isFar 41 = .ok (.iadd, 1) := by decide +kernel
theorem dX5_isFar_42 : decode cX5_isFar 42 = .ok (.invokestatic 58, 3) := by decide +kernel
theorem dX5_isFar_45 : decode cX5_isFar 45 = .ok (.bipush 114, 2) := by decide +kernel
theorem dX5_isFar_47 : decode cX5_isFar 47 = .ok (.if_icmp .ne 7, 3) := by decide +kernel
theorem dX5_isFar_50 : decode cX5_isFar 50 = .ok (.iconst 1, 1) := by decide +kernel
theorem dX5_isFar_51 : decode cX5_isFar 51 = .ok (.goto 4, 3) := by decide +kernel
theorem dX5_isFar_54 : decode cX5_isFar 54 = .ok (.iconst 0, 1) := by decide +kernel
theorem dX5_isFar_55 : decode cX5_isFar 55 = .ok (.ireturn, 1) := by decide +kernel
theorem dX5_numberOf_0 : decode cX5_numberOf 0 = .ok (.iconst 0, 1) := by decide +kernel
theorem dX5_numberOf_1 : decode cX5_numberOf 1 = .ok (.istore_n 3, 1) := by decide +kernel
theorem dX5_numberOf_2 : decode cX5_numberOf 2 = .ok (.iload_n 1, 1) := by decide +kernel
theorem dX5_numberOf_3 : decode cX5_numberOf 3 = .ok (.istore 4, 2) := by decide +kernel
theorem dX5_numberOf_5 : decode cX5_numberOf 5 = .ok (.iload 4, 2) := by decide +kernel
theorem dX5_numberOf_7 : decode cX5_numberOf 7 = .ok (.iload_n 2, 1) := by decide +kernel
theorem dX5_numberOf_8 : decode cX5_numberOf 8 = .ok (.if_icmp .ge 27, 3) := by decide +kernel
theorem dX5_numberOf_11 : decode cX5_numberOf 11 = .ok (.bipush 10, 2) := by decide +kernel
theorem dX5_numberOf_13 : decode cX5_numberOf 13 = .ok (.iload_n 3, 1) := by decide +kernel
theorem dX5_numberOf_14 : decode cX5_numberOf 14 = .ok (.imul, 1) := by decide +kernel
theorem dX5_numberOf_15 : decode cX5_numberOf 15 = .ok (.aload_n 0, 1) := by decide +kernel
theorem dX5_numberOf_16 : decode cX5_numberOf 16 = .ok (.getfield 55, 3) := by decide +kernel
theorem dX5_numberOf_19 : decode cX5_numberOf 19 = .ok (.iload 4, 2) := by decide +kernel
theorem dX5_numberOf_21 : decode cX5_numberOf 21 = .ok (.invokestatic 58, 3) := by decide +kernel
theorem dX5_numberOf_24 : decode cX5_numberOf 24 = .ok (.iadd, 1) := by decide +kernel
theorem dX5_numberOf_25 : decode cX5_numberOf 25 = .ok (.bipush 48, 2) := by decide +kernel
theorem dX5_numberOf_27 : decode cX5_numberOf 27 = .ok (.isub, 1) := by decide +kernel
theorem dX5_numberOf_28 : decode cX5_numberOf 28 = .ok (.istore_n 3, 1) := by decide +kernel
theorem dX5_numberOf_29 : decode cX5_numberOf 29 = .ok (.iinc 4 1, 3) := by decide +kernel
theorem dX5_numberOf_32 : decode cX5_numberOf 32 = .ok (.goto (-27), 3) := by decide +kernel
theorem dX5_numberOf_35 : decode cX5_numberOf 35 = .ok (.iload_n 3, 1) := by decide +kernel
theorem dX5_numberOf_36 : decode cX5_numberOf 36 = .ok (.ireturn, 1) := by decide +kernel
theorem dX5_takesNumber_0 : decode cX5_takesNumber 0 = .ok (.aload_n 0, 1) := by decide +kernel
theorem dX5_takesNumber_1 : decode cX5_takesNumber 1 = .ok (.getfield 34, 3) := by decide +kernel
theorem dX5_takesNumber_4 : decode cX5_takesNumber 4 = .ok (.tableswitch 162 1 5 #[36, 62, 79, 92, 139], 36) := by decide +kernel
theorem dX5_takesNumber_40 : decode cX5_takesNumber 40 = .ok (.aload_n 0, 1) := by decide +kernel
theorem dX5_takesNumber_41 : decode cX5_takesNumber 41 = .ok (.aload_n 0, 1) := by decide +kernel
theorem dX5_takesNumber_42 : decode cX5_takesNumber 42 = .ok (.getfield 9, 3) := by decide +kernel
theorem dX5_takesNumber_45 : decode cX5_takesNumber 45 = .ok (.iload_n 2, 1) := by decide +kernel
theorem dX5_takesNumber_46 : decode cX5_takesNumber 46 = .ok (.aload_n 0, 1) := by decide +kernel
theorem dX5_takesNumber_47 : decode cX5_takesNumber 47 = .ok (.getfield 9, 3) := by decide +kernel
theorem dX5_takesNumber_50 : decode cX5_takesNumber 50 = .ok (.aload_n 0, 1) := by decide +kernel
theorem dX5_takesNumber_51 : decode cX5_takesNumber 51 = .ok (.getfield 31, 3) := by decide +kernel
theorem dX5_takesNumber_54 : decode cX5_takesNumber 54 = .ok (.iconst 1, 1) := by decide +kernel
theorem dX5_takesNumber_55 : decode cX5_takesNumber 55 = .ok (.isub, 1) := by decide +kernel
theorem dX5_takesNumber_56 : decode cX5_takesNumber 56 = .ok (.invokestatic 58, 3) := by decide +kernel
theorem dX5_takesNumber_59 : decode cX5_takesNumber 59 = .ok (.sipush 999, 3) := by decide +kernel
theorem dX5_takesNumber_62 : decode cX5_takesNumber 62 = .ok (.invokevirtual 94, 3) := by decide +kernel
theorem dX5_takesNumber_65 : decode cX5_takesNumber 65 = .ok (.ireturn, 1) := by decide +kernel
theorem dX5_takesNumber_66 : decode cX5_takesNumber 66 = .ok (.aload_n 0, 1) := by decide +kernel
theorem dX5_takesNumber_67 : decode cX5_takesNumber 67 = .ok (.aload_n 0, 1) := by decide +kernel
theorem dX5_takesNumber_68 : decode cX5_takesNumber 68 = .ok (.getfield 15, 3) := by decide +kernel
theorem dX5_takesNumber_71 : decode cX5_takesNumber 71 = .ok (.iload_n 2, 1) := by decide +kernel
theorem dX5_takesNumber_72 : decode cX5_takesNumber 72 = .ok (.iconst 0, 1) := by decide +kernel
theorem dX5_takesNumber_73 : decode cX5_takesNumber 73 = .ok (.aload_n 1, 1) := by decide +kernel
theorem dX5_takesNumber_74 : decode cX5_takesNumber 74 = .ok (.getfield 98, 3) := by decide +kernel
theorem dX5_takesNumber_77 : decode cX5_takesNumber 77 = .ok (.iconst 1, 1) := by decide +kernel
theorem dX5_takesNumber_78 : decode cX5_takesNumber 78 = .ok (.isub, 1) := by decide +kernel
theorem dX5_takesNumber_79 : decode cX5_takesNumber 79 = .ok (.invokevirtual 94, 3) := by decide +kernel
theorem dX5_takesNumber_82 : decode cX5_takesNumber 82 = .ok (.ireturn, 1) := by decide +kernel
theorem dX5_takesNumber_83 : decode cX5_takesNumber 83 = .ok (.aload_n 0, 1) := by decide +kernel
theorem dX5_takesNumber_84 : decode cX5_takesNumber 84 = .ok (.aload_n 0, 1) := by decide +kernel
theorem dX5_takesNumber_85 : decode cX5_takesNumber 85 = .ok (.getfield 18, 3) := by decide +kernel
theorem dX5_takesNumber_88 : decode cX5_takesNumber 88 = .ok (.iload_n 2, 1) := by decide +kernel
theorem dX5_takesNumber_89 : decode cX5_takesNumber 89 = .ok (.iconst 0, 1) := by decide +kernel
theorem dX5_takesNumber_90 : decode cX5_takesNumber 90 = .ok (.bipush 9, 2) := by decide +kernel
theorem dX5_takesNumber_92 : decode cX5_takesNumber 92 = .ok (.invokevirtual 94, 3) := by decide +kernel
theorem dX5_takesNumber_95 : decode cX5_takesNumber 95 = .ok (.ireturn, 1) := by decide +kernel
theorem dX5_takesNumber_96 : decode cX5_takesNumber 96 = .ok (.aload_n 0, 1) := by decide +kernel
theorem dX5_takesNumber_97 : decode cX5_takesNumber 97 = .ok (.aload_n 0, 1) := by decide +kernel
theorem dX5_takesNumber_98 : decode cX5_takesNumber 98 = .ok (.getfield 21, 3) := by decide +kernel
theorem dX5_takesNumber_101 : decode cX5_takesNumber 101 = .ok (.iload_n 2, 1) := by decide +kernel
theorem dX5_takesNumber_102 : decode cX5_takesNumber 102 = .ok (.iconst 0, 1) := by decide +kernel
theorem dX5_takesNumber_103 : decode cX5_takesNumber 103 = .ok (.bipush 9, 2) := by decide +kernel
theorem dX5_takesNumber_105 : decode cX5_takesNumber 105 = .ok (.invokevirtual 94, 3) := by decide +kernel
theorem dX5_takesNumber_108 : decode cX5_takesNumber 108 = .ok (.ifCond .ne 5, 3) := by decide +kernel
theorem dX5_takesNumber_111 : decode cX5_takesNumber 111 = .ok (.iconst 0, 1) := by decide +kernel
theorem dX5_takesNumber_112 : decode cX5_takesNumber 112 = .ok (.ireturn, 1) := by decide +kernel
theorem dX5_takesNumber_113 : decode cX5_takesNumber 113 = .ok (.aload_n 0, 1) := by decide +kernel
theorem dX5_takesNumber_114 : decode cX5_takesNumber 114 = .ok (.getfield 24, 3) := by decide +kernel
theorem dX5_takesNumber_117 : decode cX5_takesNumber 117 = .ok (.aload_n 0, 1) := by decide +kernel
theorem dX5_takesNumber_118 : decode cX5_takesNumber 118 = .ok (.dup, 1) := by decide +kernel
theorem dX5_takesNumber_119 : decode cX5_takesNumber 119 = .ok (.getfield 31, 3) := by decide +kernel
theorem dX5_takesNumber_122 : decode cX5_takesNumber 122 = .ok (.dup_x1, 1) := by decide +kernel
theorem dX5_takesNumber_123 : decode cX5_takesNumber 123 = .ok (.iconst 1, 1) := by decide +kernel
theorem dX5_takesNumber_124 : decode cX5_takesNumber 124 = .ok (.iadd, 1) := by decide +kernel
theorem dX5_takesNumber_125 : decode cX5_takesNumber 125 = .ok (.putfield 31, 3) := by decide +kernel
theorem dX5_takesNumber_128 : decode cX5_takesNumber 128 = .ok (.aload_n 0, 1) := by decide +kernel
theorem dX5_takesNumber_129 : decode cX5_takesNumber 129 = .ok (.getfield 37, 3) := by decide +kernel
theorem dX5_takesNumber_132 : decode cX5_takesNumber 132 = .ok (.invokestatic 101, 3) := by decide +kernel
theorem dX5_takesNumber_135 : decode cX5_takesNumber 135 = .ok (.aload_n 0, 1) := by decide +kernel
theorem dX5_takesNumber_136 : decode cX5_takesNumber 136 = .ok (.bipush 6, 2) := by decide +kernel
theorem dX5_takesNumber_138 : decode cX5_takesNumber 138 = .ok (.putfield 34, 3) := by decide +kernel
theorem dX5_takesNumber_141 : decode cX5_takesNumber 141 = .ok (.iconst 1, 1) := by decide +kernel
theorem dX5_takesNumber_142 : decode cX5_takesNumber 142 = .ok (.ireturn, 1) := by decide +kernel
theorem dX5_takesNumber_143 : decode cX5_takesNumber 143 = .ok (.aload_n 0, 1) := by decide +kernel
theorem dX5_takesNumber_144 : decode cX5_takesNumber 144 = .ok (.iload_n 2, 1) := by decide +kernel
theorem dX5_takesNumber_145 : decode cX5_takesNumber 145 = .ok (.putfield 37, 3) := by decide +kernel
theorem dX5_takesNumber_148 : decode cX5_takesNumber 148 = .ok (.aload_n 0, 1) := by decide +kernel
theorem dX5_takesNumber_149 : decode cX5_takesNumber 149 = .ok (.bipush 6, 2) := by decide +kernel
theorem dX5_takesNumber_151 : decode cX5_takesNumber 151 = .ok (.putfield 34, 3) := by decide +kernel
theorem dX5_takesNumber_154 : decode cX5_takesNumber 154 = .ok (.iload_n 2, 1) := by decide +kernel
theorem dX5_takesNumber_155 : decode cX5_takesNumber 155 = .ok (.bipush 9, 2) := by decide +kernel
theorem dX5_takesNumber_157 : decode cX5_takesNumber 157 = .ok (.if_icmp .gt 7, 3) := by decide +kernel
theorem dX5_takesNumber_160 : decode cX5_takesNumber 160 = .ok (.iconst 1, 1) := by decide +kernel
theorem dX5_takesNumber_161 : decode cX5_takesNumber 161 = .ok (.goto 4, 3) := by decide +kernel
theorem dX5_takesNumber_164 : decode cX5_takesNumber 164 = .ok (.iconst 0, 1) := by decide +kernel
theorem dX5_takesNumber_165 : decode cX5_takesNumber 165 = .ok (.ireturn, 1) := by decide +kernel
theorem dX5_takesNumber_166 : decode cX5_takesNumber 166 = .ok (.iconst 0, 1) := by decide +kernel
theorem dX5_takesNumber_167 : decode cX5_takesNumber 167 = .ok (.ireturn, 1) := by decide +kernel
theorem dX5_takesPart_0 : decode cX5_takesPart 0 = .ok (.aload_n 1, 1) := by decide +kernel
theorem dX5_takesPart_1 : decode cX5_takesPart 1 = .ok (.aload_n 0, 1) := by decide +kernel
theorem dX5_takesPart_2 : decode cX5_takesPart 2 = .ok (.getfield 31, 3) := by decide +kernel
theorem dX5_takesPart_5 : decode cX5_takesPart 5 = .ok (.iload_n 2, 1) := by decide +kernel
theorem dX5_takesPart_6 : decode cX5_takesPart 6 = .ok (.invokestatic 101, 3) := by decide +kernel
theorem dX5_takesPart_9 : decode cX5_takesPart 9 = .ok (.aload_n 0, 1) := by decide +kernel
theorem dX5_takesPart_10 : decode cX5_takesPart 10 = .ok (.dup, 1) := by decide +kernel
theorem dX5_takesPart_11 : decode cX5_takesPart 11 = .ok (.getfield 34, 3) := by decide +kernel
theorem dX5_takesPart_14 : decode cX5_takesPart 14 = .ok (.iconst 1, 1) := by decide +kernel
theorem dX5_takesPart_15 : decode cX5_takesPart 15 = .ok (.iadd, 1) := by decide +kernel
theorem dX5_takesPart_16 : decode cX5_takesPart 16 = .ok (.putfield 34, 3) := by decide +kernel
theorem dX5_takesPart_19 : decode cX5_takesPart 19 = .ok (.iload_n 2, 1) := by decide +kernel
theorem dX5_takesPart_20 : decode cX5_takesPart 20 = .ok (.iload_n 3, 1) := by decide +kernel
theorem dX5_takesPart_21 : decode cX5_takesPart 21 = .ok (.iload 4, 2) := by decide +kernel
theorem dX5_takesPart_23 : decode cX5_takesPart 23 = .ok (.invokestatic 73, 3) := by decide +kernel
theorem dX5_takesPart_26 : decode cX5_takesPart 26 = .ok (.ireturn, 1) := by decide +kernel
theorem dX6_heard_0 : decode cX6_heard 0 = .ok (.aload_n 0, 1) := by decide +kernel
theorem dX6_heard_1 : decode cX6_heard 1 = .ok (.getfield 9, 3) := by decide +kernel
theorem dX6_heard_4 : decode cX6_heard 4 = .ok (.iload_n 1, 1) := by decide +kernel
theorem dX6_heard_5 : decode cX6_heard 5 = .ok (.invokestatic 15, 3) := by decide +kernel
theorem dX6_heard_8 : decode cX6_heard 8 = .ok (.istore 5, 2) := by decide +kernel
theorem dX6_heard_10 : decode cX6_heard 10 = .ok (.iload 5, 2) := by decide +kernel
theorem dX6_heard_12 : decode cX6_heard 12 = .ok (.iconst 2, 1) := by decide +kernel
theorem dX6_heard_13 : decode cX6_heard 13 = .ok (.if_icmp .ne 10, 3) := by decide +kernel
theorem dX6_heard_16 : decode cX6_heard 16 = .ok (.bipush 7, 2) := by decide +kernel
theorem dX6_heard_18 : decode cX6_heard 18 = .ok (.iload_n 3, 1) := by decide +kernel
theorem dX6_heard_19 : decode cX6_heard 19 = .ok (.isub, 1) := by decide +kernel
theorem dX6_heard_20 : decode cX6_heard 20 = .ok (.goto 4, 3) := by decide +kernel
theorem dX6_heard_23 : decode cX6_heard 23 = .ok (.iload_n 3, 1) := by decide +kernel
theorem dX6_heard_24 : decode cX6_heard 24 = .ok (.istore 6, 2) := by decide +kernel
theorem dX6_heard_26 : decode cX6_heard 26 = .ok (.aload_n 0, 1) := by decide +kernel
theorem dX6_heard_27 : decode cX6_heard 27 = .ok (.getfield 21, 3) := by decide +kernel
theorem dX6_heard_30 : decode cX6_heard 30 = .ok (.iload_n 1, 1) := by decide +kernel
theorem dX6_heard_31 : decode cX6_heard 31 = .ok (.bipush 6, 2) := by decide +kernel
theorem dX6_heard_33 : decode cX6_heard 33 = .ok (.imul, 1) := by decide +kernel
theorem dX6_heard_34 : decode cX6_heard 34 = .ok (.iload_n 2, 1) := by decide +kernel
theorem dX6_heard_35 : decode cX6_heard 35 = .ok (.iadd, 1) := by decide +kernel
theorem dX6_heard_36 : decode cX6_heard 36 = .ok (.invokestatic 15, 3) := by decide +kernel
theorem dX6_heard_39 : decode cX6_heard 39 = .ok (.istore 7, 2) := by decide +kernel
theorem dX6_heard_41 : decode cX6_heard 41 = .ok (.iload 7, 2) := by decide +kernel
theorem dX6_heard_43 : decode cX6_heard 43 = .ok (.aload_n 0, 1) := by decide +kernel
theorem dX6_heard_44 : decode cX6_heard 44 = .ok (.getfield 24, 3) := by decide +kernel
theorem dX6_heard_47 : decode cX6_heard 47 = .ok (.iload_n 1, 1) := by decide +kernel
theorem dX6_heard_48 : decode cX6_heard 48 = .ok (.invokestatic 15, 3) := by decide +kernel
theorem dX6_heard_51 : decode cX6_heard 51 = .ok (.iload 6, 2) := by decide +kernel
theorem dX6_heard_53 : decode cX6_heard 53 = .ok (.invokestatic 27, 3) := by decide +kernel
theorem dX6_heard_56 : decode cX6_heard 56 = .ok (.istore 8, 2) := by decide +kernel
theorem dX6_heard_58 : decode cX6_heard 58 = .ok (.iconst 0, 1) := by decide +kernel
theorem dX6_heard_59 : decode cX6_heard 59 = .ok (.iload 5, 2) := by decide +kernel
theorem dX6_heard_61 : decode cX6_heard 61 = .ok (.iload 8, 2) := by decide +kernel
theorem dX6_heard_63 : decode cX6_heard 63 = .ok (.iload_n 2, 1) := by decide +kernel
theorem dX6_heard_64 : decode cX6_heard 64 = .ok (.iload 6, 2) := by decide +kernel
theorem dX6_heard_66 : decode cX6_heard 66 = .ok (.invokestatic 31, 3) := by decide +kernel
theorem dX6_heard_69 : decode cX6_heard 69 = .ok (.iload 4, 2) := by decide +kernel
theorem dX6_heard_71 : decode cX6_heard 71 = .ok (.iload_n 2, 1) := by decide +kernel
theorem dX6_heard_72 : decode cX6_heard 72 = .ok (.iconst 1, 1) := by decide +kernel
theorem dX6_heard_73 : decode cX6_heard 73 = .ok (.iadd, 1) := by decide +kernel
theorem dX6_heard_74 : decode cX6_heard 74 = .ok (.imul, 1) := by decide +kernel
theorem dX6_heard_75 : decode cX6_heard 75 = .ok (.isub, 1) := by decide +kernel
theorem dX6_heard_76 : decode cX6_heard 76 = .ok (.invokestatic 35, 3) := by decide +kernel
theorem dX6_heard_79 : decode cX6_heard 79 = .ok (.ireturn, 1) := by decide +kernel
theorem dX6_fading_0 : decode cX6_fading 0 = .ok (.iload_n 0, 1) := by decide +kernel
theorem dX6_fading_1 : decode cX6_fading 1 = .ok (.istore_n 3, 1) := by decide +kernel
theorem dX6_fading_2 : decode cX6_fading 2 = .ok (.iconst 0, 1) := by decide +kernel
theorem dX6_fading_3 : decode cX6_fading 3 = .ok (.istore 4, 2) := by decide +kernel
theorem dX6_fading_5 : decode cX6_fading 5 = .ok (.iload 4, 2) := by decide +kernel
theorem dX6_fading_7 : decode cX6_fading 7 = .ok (.iload_n 2, 1) := by decide +kernel
theorem dX6_fading_8 : decode cX6_fading 8 = .ok (.if_icmp .ge 19, 3) := by decide +kernel
theorem dX6_fading_11 : decode cX6_fading 11 = .ok (.iload_n 3, 1) := by decide +kernel
theorem dX6_fading_12 : decode cX6_fading 12 = .ok (.bipush 10, 2) := by decide +kernel
theorem dX6_fading_14 : decode cX6_fading 14 = .ok (.iload_n 1, 1) := by decide +kernel
theorem dX6_fading_15 : decode cX6_fading 15 = .ok (.isub, 1) := by decide +kernel
theorem dX6_fading_16 : decode cX6_fading 16 = .ok (.imul, 1) := by decide +kernel
theorem dX6_fading_17 : decode cX6_fading 17 = .ok (.bipush 10, 2) := by decide +kernel
theorem dX6_fading_19 : decode cX6_fading 19 = .ok (.idiv, 1) := by decide +kernel
theorem dX6_fading_20 : decode cX6_fading 20 = .ok (.istore_n 3, 1) := by decide +kernel
theorem dX6_fading_21 : decode cX6_fading 21 = .ok (.iinc 4 1, 3) := by decide +kernel
theorem dX6_fading_24 : decode cX6_fading 24 = .ok (.goto (-19), 3) := by decide +kernel
theorem dX6_fading_27 : decode cX6_fading 27 = .ok (.iload_n 3, 1) := by decide +kernel
theorem dX6_fading_28 : decode cX6_fading 28 = .ok (.ireturn, 1) := by decide +kernel
theorem dX6_ofClass_0 : decode cX6_ofClass 0 = .ok (.iload_n 0, 1) := by decide +kernel
theorem dX6_ofClass_1 : decode cX6_ofClass 1 = .ok (.tableswitch 62 1 4 #[31, 31, 44, 53], 31) := by decide +kernel
theorem dX6_ofClass_32 : decode cX6_ofClass 32 = .ok (.bipush 99, 2) := by decide +kernel
theorem dX6_ofClass_34 : decode cX6_ofClass 34 = .ok (.iload_n 1, 1) := by decide +kernel
theorem dX6_ofClass_35 : decode cX6_ofClass 35 = .ok (.iconst 3, 1) := by decide +kernel
theorem dX6_ofClass_36 : decode cX6_ofClass 36 = .ok (.iload_n 3, 1) := by decide +kernel
theorem dX6_ofClass_37 : decode cX6_ofClass 37 = .ok (.iconst 2, 1) := by decide +kernel
theorem dX6_ofClass_38 : decode cX6_ofClass 38 = .ok (.irem, 1) := by decide +kernel
theorem dX6_ofClass_39 : decode cX6_ofClass 39 = .ok (.imul, 1) := by decide +kernel
theorem dX6_ofClass_40 : decode cX6_ofClass 40 = .ok (.iadd, 1) := by decide +kernel
theorem dX6_ofClass_41 : decode cX6_ofClass 41 = .ok (.invokestatic 41, 3) := by decide +kernel
theorem dX6_ofClass_44 : decode cX6_ofClass 44 = .ok (.ireturn, 1) := by decide +kernel
theorem dX6_ofClass_45 : decode cX6_ofClass 45 = .ok (.bipush 99, 2) := by decide +kernel
theorem dX6_ofClass_47 : decode cX6_ofClass 47 = .ok (.iconst 2, 1) := by decide +kernel
theorem dX6_ofClass_48 : decode cX6_ofClass 48 = .ok (.iload_n 1, 1) := by decide +kernel
theorem dX6_ofClass_49 : decode cX6_ofClass 49 = .ok (.imul, 1) := by decide +kernel
theorem dX6_ofClass_50 : decode cX6_ofClass 50 = .ok (.invokestatic 41, 3) := by decide +kernel
theorem dX6_ofClass_53 : decode cX6_ofClass 53 = .ok (.ireturn, 1) := by decide +kernel
theorem dX6_ofClass_54 : decode cX6_ofClass 54 = .ok (.iload_n 1, 1) := by decide +kernel
theorem dX6_ofClass_55 : decode cX6_ofClass 55 = .ok (.iload_n 2, 1) := by decide +kernel
theorem dX6_ofClass_56 : decode cX6_ofClass 56 = .ok (.iload_n 1, 1) := by decide +kernel
theorem dX6_ofClass_57 : decode cX6_ofClass 57 = .ok (.imul, 1) := by decide +kernel
theorem dX6_ofClass_58 : decode cX6_ofClass 58 = .ok (.bipush 8, 2) := by decide +kernel
theorem dX6_ofClass_60 : decode cX6_ofClass 60 = .ok (.idiv, 1) := by decide +kernel
theorem dX6_ofClass_61 : decode cX6_ofClass 61 = .ok (.isub, 1) := by decide +kernel
theorem dX6_ofClass_62 : decode cX6_ofClass 62 = .ok (.ireturn, 1) := by decide +kernel
theorem dX6_ofClass_63 : decode cX6_ofClass 63 = .ok (.iload_n 1, 1) := by decide +kernel
theorem dX6_ofClass_64 : decode cX6_ofClass 64 = .ok (.ireturn, 1) := by decide +kernel
theorem dX6_together_0 : decode cX6_together 0 = .ok (.iconst 0, 1) := by decide +kernel
theorem dX6_together_1 : decode cX6_together 1 = .ok (.istore 4, 2) := by decide +kernel
theorem dX6_together_3 : decode cX6_together 3 = .ok (.iconst 0, 1) := by decide +kernel
theorem dX6_together_4 : decode cX6_together 4 = .ok (.istore 5, 2) := by decide +kernel
theorem dX6_together_6 : decode cX6_together 6 = .ok (.iload 5, 2) := by decide +kernel
theorem dX6_together_8 : decode cX6_together 8 = .ok (.bipush 8, 2) := by decide +kernel
theorem dX6_together_10 : decode cX6_together 10 = .ok (.if_icmp .ge 23, 3) := by decide +kernel
theorem dX6_together_13 : decode cX6_together 13 = .ok (.iload 4, 2) := by decide +kernel
theorem dX6_together_15 : decode cX6_together 15 = .ok (.aload_n 0, 1) := by decide +kernel
theorem dX6_together_16 : decode cX6_together 16 = .ok (.iload_n 1, 1) := by decide +kernel
theorem dX6_together_17 : decode cX6_together 17 = .ok (.iload_n 2, 1) := by decide +kernel
theorem dX6_together_18 : decode cX6_together 18 = .ok (.iload 5, 2) := by decide +kernel
theorem dX6_together_20 : decode cX6_together 20 = .ok (.iload_n 3, 1) := by decide +kernel
theorem dX6_together_21 : decode cX6_together 21 = .ok (.invokestatic 44, 3) := by decide +kernel
theorem dX6_together_24 : decode cX6_together 24 = .ok (.iadd, 1) := by decide +kernel
theorem dX6_together_25 : decode cX6_together 25 = .ok (.istore 4, 2) := by decide +kernel
theorem dX6_together_27 : decode cX6_together 27 = .ok (.iinc 5 1, 3) := by decide +kernel
theorem dX6_together_30 : decode cX6_together 30 = .ok (.goto (-24), 3) := by decide +kernel
theorem dX6_together_33 : decode cX6_together 33 = .ok (.iload 4, 2) := by decide +kernel
theorem dX6_together_35 : decode cX6_together 35 = .ok (.ireturn, 1) := by decide +kernel
theorem dX7_init_0 : decode cX7_init 0 = .ok (.aload_n 0, 1) := by decide +kernel
theorem dX7_init_1 : decode cX7_init 1 = .ok (.invokespecial 3, 3) := by decide +kernel
theorem dX7_init_4 : decode cX7_init 4 = .ok (.aload_n 0, 1) := by decide +kernel
theorem dX7_init_5 : decode cX7_init 5 = .ok (.bipush 64, 2) := by decide +kernel
theorem dX7_init_7 : decode cX7_init 7 = .ok (.newarray .int, 2) := by decide +kernel
theorem dX7_init_9 : decode cX7_init 9 = .ok (.putfield 9, 3) := by decide +kernel
theorem dX7_init_12 : decode cX7_init 12 = .ok (.aload_n 0, 1) := by decide +kernel
theorem dX7_init_13 : decode cX7_init 13 = .ok (.sipush 2048, 3) := by decide +kernel
theorem dX7_init_16 : decode cX7_init 16 = .ok (.newarray .int, 2) := by decide +kernel
theorem dX7_init_18 : decode cX7_init 18 = .ok (.putfield 15, 3) := by decide +kernel
theorem dX7_init_21 : decode cX7_init 21 = .ok (.return_, 1) := by decide +kernel
theorem dX7_plan_0 : decode cX7_plan 0 = .ok (.aload_n 0, 1) := by decide +kernel
theorem dX7_plan_1 : decode cX7_plan 1 = .ok (.aload_n 2, 1) := by decide +kernel
theorem dX7_plan_2 : decode cX7_plan 2 = .ok (.getfield 18, 3) := by decide +kernel
theorem dX7_plan_5 : decode cX7_plan 5 = .ok (.putfield 24, 3) := by decide +kernel
theorem dX7_plan_8 : decode cX7_plan 8 = .ok (.iconst 0, 1) := by decide +kernel
theorem dX7_plan_9 : decode cX7_plan 9 = .ok (.istore_n 3, 1) := by decide +kernel
theorem dX7_plan_10 : decode cX7_plan 10 = .ok (.iload_n 3, 1) := by decide +kernel
theorem dX7_plan_11 : decode cX7_plan 11 = .ok (.aload_n 0, 1) := by decide +kernel
theorem dX7_plan_12 : decode cX7_plan 12 = .ok (.getfield 24, 3) := by decide +kernel
theorem dX7_plan_15 : decode cX7_plan 15 = .ok (.if_icmp .ge 49, 3) := by decide +kernel
theorem dX7_plan_18 : decode cX7_plan 18 = .ok (.iconst 0, 1) := by decide +kernel
theorem dX7_plan_19 : decode cX7_plan 19 = .ok (.istore 4, 2) := by decide +kernel
theorem dX7_plan_21 : decode cX7_plan 21 = .ok (.iload 4, 2) := by decide +kernel
theorem dX7_plan_23 : decode cX7_plan 23 = .ok (.aload_n 0, 1) := by decide +kernel
theorem dX7_plan_24 : decode cX7_plan 24 = .ok (.getfield 24, 3) := by decide +kernel
theorem dX7_plan_27 : decode cX7_plan 27 = .ok (.if_icmp .ge 31, 3) := by decide +kernel
theorem dX7_plan_30 : decode cX7_plan 30 = .ok (.aload_n 0, 1) := by decide +kernel
theorem dX7_plan_31 : decode cX7_plan 31 = .ok (.getfield 9, 3) := by decide +kernel
theorem dX7_plan_34 : decode cX7_plan 34 = .ok (.iload_n 3, 1) := by decide +kernel
theorem dX7_plan_35 : decode cX7_plan 35 = .ok (.bipush 8, 2) := by decide +kernel
theorem dX7_plan_37 : decode cX7_plan 37 = .ok (.imul, 1) := by decide +kernel
theorem dX7_plan_38 : decode cX7_plan 38 = .ok (.iload 4, 2) := by decide +kernel
theorem dX7_plan_40 : decode cX7_plan 40 = .ok (.iadd, 1) := by decide +kernel
theorem dX7_plan_41 : decode cX7_plan 41 = .ok (.aload_n 1, 1) := by decide +kernel
theorem dX7_plan_42 : decode cX7_plan 42 = .ok (.aload_n 2, 1) := by decide +kernel
theorem dX7_plan_43 : decode cX7_plan 43 = .ok (.iload_n 3, 1) := by decide +kernel
theorem dX7_plan_44 : decode cX7_plan 44 = .ok (.iload 4, 2) := by decide +kernel
theorem dX7_plan_46 : decode cX7_plan 46 = .ok (.invokestatic 25, 3) := by decide +kernel
theorem dX7_plan_49 : decode cX7_plan 49 = .ok (.invokestatic 29, 3) := by decide +kernel
theorem dX7_plan_52 : decode cX7_plan 52 = .ok (.iinc 4 1, 3) := by decide +kernel
theorem dX7_plan_55 : decode cX7_plan 55 = .ok (.goto (-34), 3) := by decide +kernel
theorem dX7_plan_58 : decode cX7_plan 58 = .ok (.iinc 3 1, 3) := by decide +kernel
theorem dX7_plan_61 : decode cX7_plan 61 = .ok (.goto (-51), 3) := by decide +kernel
theorem dX7_plan_64 : decode cX7_plan 64 = .ok (.iconst 0, 1) := by decide +kernel
theorem dX7_plan_65 : decode cX7_plan 65 = .ok (.istore_n 3, 1) := by decide +kernel
theorem dX7_plan_66 : decode cX7_plan 66 = .ok (.iload_n 3, 1) := by decide +kernel
theorem dX7_plan_67 : decode cX7_plan 67 = .ok (.aload_n 0, 1) := by decide +kernel
theorem dX7_plan_68 : decode cX7_plan 68 = .ok (.invokevirtual 33, 3) := by decide +kernel
theorem dX7_plan_71 : decode cX7_plan 71 = .ok (.if_icmp .gt 48, 3) := by decide +kernel
theorem dX7_plan_74 : decode cX7_plan 74 = .ok (.iconst 0, 1) := by decide +kernel
theorem dX7_plan_75 : decode cX7_plan 75 = .ok (.istore 4, 2) := by decide +kernel
theorem dX7_plan_77 : decode cX7_plan 77 = .ok (.iload 4, 2) := by decide +kernel
theorem dX7_plan_79 : decode cX7_plan 79 = .ok (.aload_n 0, 1) := by decide +kernel
theorem dX7_plan_80 : decode cX7_plan 80 = .ok (.getfield 24, 3) := by decide +kernel
theorem dX7_plan_83 : decode cX7_plan 83 = .ok (.if_icmp .ge 30, 3) := by decide +kernel
theorem dX7_plan_86 : decode cX7_plan 86 = .ok (.aload_n 0, 1) := by decide +kernel
theorem dX7_plan_87 : decode cX7_plan 87 = .ok (.getfield 15, 3) := by decide +kernel
theorem dX7_plan_90 : decode cX7_plan 90 = .ok (.iload_n 3, 1) := by decide +kernel
theorem dX7_plan_91 : decode cX7_plan 91 = .ok (.bipush 8, 2) := by decide +kernel
theorem dX7_plan_93 : decode cX7_plan 93 = .ok (.imul, 1) := by decide +kernel
theorem dX7_plan_94 : decode cX7_plan 94 = .ok (.iload 4, 2) := by decide +kernel
theorem dX7_plan_96 : decode cX7_plan 96 = .ok (.iadd, 1) := by decide +kernel
theorem dX7_plan_97 : decode cX7_plan 97 = .ok (.aload_n 0, 1) := by decide +kernel
theorem dX7_plan_98 : decode cX7_plan 98 = .ok (.iload_n 3, 1) := by decide +kernel
theorem dX7_plan_99 : decode cX7_plan 99 = .ok (.iload 4, 2) := by decide +kernel
theorem dX7_plan_101 : decode cX7_plan 101 = .ok (.invokevirtual 37, 3) := by decide +kernel
theorem dX7_plan_104 : decode cX7_plan 104 = .ok (.invokestatic 29, 3) := by decide +kernel
theorem dX7_plan_107 : decode cX7_plan 107 = .ok (.iinc 4 1, 3) := by decide +kernel
theorem dX7_plan_110 : decode cX7_plan 110 = .ok (.goto (-33), 3) := by decide +kernel
theorem dX7_plan_113 : decode cX7_plan 113 = .ok (.iinc 3 1, 3) := by decide +kernel
theorem dX7_plan_116 : decode cX7_plan 116 = .ok (.goto (-50), 3) := by decide +kernel
theorem dX7_plan_119 : decode cX7_plan 119 = .ok (.return_, 1) := by decide +kernel
theorem dX7_secondsBetween_0 : decode cX7_secondsBetween 0 = .ok (.aload_n 1, 1) := by decide +kernel
theorem dX7_secondsBetween_1 : decode cX7_secondsBetween 1 = .ok (.getfield 41, 3) := by decide +kernel
theorem dX7_secondsBetween_4 : decode cX7_secondsBetween 4 = .ok (.iload_n 2, 1) := by decide +kernel
theorem dX7_secondsBetween_5 : decode cX7_secondsBetween 5 = .ok (.invokestatic 44, 3) := by decide +kernel
theorem dX7_secondsBetween_8 : decode cX7_secondsBetween 8 = .ok (.aload_n 1, 1) := by decide +kernel
theorem dX7_secondsBetween_9 : decode cX7_secondsBetween 9 = .ok (.getfield 41, 3) := by decide +kernel
theorem dX7_secondsBetween_12 : decode cX7_secondsBetween 12 = .ok (.iload_n 3, 1) := by decide +kernel
theorem dX7_secondsBetween_13 : decode cX7_secondsBetween 13 = .ok (.invokestatic 44, 3) := by decide +kernel
theorem dX7_secondsBetween_16 : decode cX7_secondsBetween 16 = .ok (.if_icmp .ne 7, 3) := by decide +kernel
theorem dX7_secondsBetween_19 : decode cX7_secondsBetween 19 = .ok (.iconst 0, 1) := by decide +kernel
theorem dX7_secondsBetween_20 : decode cX7_secondsBetween 20 = .ok (.goto 11, 3) := by decide +kernel
theorem dX7_secondsBetween_23 : decode cX7_secondsBetween 23 = .ok (.aload_n 0, 1) := by decide +kernel
theorem dX7_secondsBetween_24 : decode cX7_secondsBetween 24 = .ok (.getfield 48, 3) := by decide +kernel
theorem dX7_secondsBetween_27 : decode cX7_secondsBetween 27 = .ok (.iconst 3, 1) := by decide +kernel
theorem dX7_secondsBetween_28 : decode cX7_secondsBetween 28 = .ok (.invokestatic 44, 3) := by decide +kernel
theorem dX7_secondsBetween_31 : decode cX7_secondsBetween 31 = .ok (.istore 4, 2) := by decide +kernel
theorem dX7_secondsBetween_33 : decode cX7_secondsBetween 33 = .ok (.aload_n 1, 1) := by decide +kernel
theorem dX7_secondsBetween_34 : decode cX7_secondsBetween 34 = .ok (.getfield 53, 3) := by decide +kernel
theorem dX7_secondsBetween_37 : decode cX7_secondsBetween 37 = .ok (.iload_n 2, 1) := by decide +kernel
theorem dX7_secondsBetween_38 : decode cX7_secondsBetween 38 = .ok (.invokestatic 44, 3) := by decide +kernel
theorem dX7_secondsBetween_41 : decode cX7_secondsBetween 41 = .ok (.aload_n 1, 1) := by decide +kernel
theorem dX7_secondsBetween_42 : decode cX7_secondsBetween 42 = .ok (.getfield 53, 3) := by decide +kernel
theorem dX7_secondsBetween_45 : decode cX7_secondsBetween 45 = .ok (.iload_n 3, 1) := by decide +kernel
theorem dX7_secondsBetween_46 : decode cX7_secondsBetween 46 = .ok (.invokestatic 44, 3) := by decide +kernel
theorem dX7_secondsBetween_49 : decode cX7_secondsBetween 49 = .ok (.if_icmp .ne 7, 3) := by decide +kernel
theorem dX7_secondsBetween_52 : decode cX7_secondsBetween 52 = .ok (.iconst 0, 1) := by decide +kernel
theorem dX7_secondsBetween_53 : decode cX7_secondsBetween 53 = .ok (.goto 11, 3) := by decide +kernel
theorem dX7_secondsBetween_56 : decode cX7_secondsBetween 56 = .ok (.aload_n 0, 1) := by decide +kernel
theorem dX7_secondsBetween_57 : decode cX7_secondsBetween 57 = .ok (.getfield 48, 3) := by decide +kernel
theorem dX7_secondsBetween_60 : decode cX7_secondsBetween 60 = .ok (.iconst 4, 1) := by decide +kernel
theorem dX7_secondsBetween_61 : decode cX7_secondsBetween 61 = .ok (.invokestatic 44, 3) := by decide +kernel
theorem dX7_secondsBetween_64 : decode cX7_secondsBetween 64 = .ok (.istore 5, 2) := by decide +kernel
theorem dX7_secondsBetween_66 : decode cX7_secondsBetween 66 = .ok (.iload 4, 2) := by decide +kernel
theorem dX7_secondsBetween_68 : decode cX7_secondsBetween 68 = .ok (.iload 5, 2) := by decide +kernel
theorem dX7_secondsBetween_70 : decode cX7_secondsBetween 70 = .ok (.iadd, 1) := by decide +kernel
theorem dX7_secondsBetween_71 : decode cX7_secondsBetween 71 = .ok (.ireturn, 1) := by decide +kernel
theorem dX7_all_0 : decode cX7_all 0 = .ok (.iconst 1, 1) := by decide +kernel
theorem dX7_all_1 : decode cX7_all 1 = .ok (.aload_n 0, 1) := by decide +kernel
theorem dX7_all_2 : decode cX7_all 2 = .ok (.getfield 24, 3) := by decide +kernel
theorem dX7_all_5 : decode cX7_all 5 = .ok (.ishl, 1) := by decide +kernel
theorem dX7_all_6 : decode cX7_all 6 = .ok (.iconst 1, 1) := by decide +kernel
theorem dX7_all_7 : decode cX7_all 7 = .ok (.isub, 1) := by decide +kernel
theorem dX7_all_8 : decode cX7_all 8 = .ok (.ireturn, 1) := by decide +kernel
theorem dX7_leastFrom_0 : decode cX7_leastFrom 0 = .ok (.iload_n 1, 1) := by decide +kernel
theorem dX7_leastFrom_1 : decode cX7_leastFrom 1 = .ok (.ifCond .ne 7, 3) := by decide +kernel
theorem dX7_leastFrom_4 : decode cX7_leastFrom 4 = .ok (.iconst 0, 1) := by decide +kernel
theorem dX7_leastFrom_5 : decode cX7_leastFrom 5 = .ok (.goto 5, 3) := by decide +kernel
theorem dX7_leastFrom_8 : decode cX7_leastFrom 8 = .ok (.ldc 56, 2) := by decide +kernel
theorem dX7_leastFrom_10 : decode cX7_leastFrom 10 = .ok (.istore_n 3, 1) := by decide +kernel
theorem dX7_leastFrom_11 : decode cX7_leastFrom 11 = .ok (.iconst 0, 1) := by decide +kernel
theorem dX7_leastFrom_12 : decode cX7_leastFrom 12 = .ok (.istore 4, 2) := by decide +kernel
theorem dX7_leastFrom_14 : decode cX7_leastFrom 14 = .ok (.iload 4, 2) := by decide +kernel
theorem dX7_leastFrom_16 : decode cX7_leastFrom 16 = .ok (.aload_n 0, 1) := by decide +kernel
theorem dX7_leastFrom_17 : decode cX7_leastFrom 17 = .ok (.getfield 24, 3) := by decide +kernel
theorem dX7_leastFrom_20 : decode cX7_leastFrom 20 = .ok (.if_icmp .ge 32, 3) := by decide +kernel
theorem dX7_leastFrom_23 : decode cX7_leastFrom 23 = .ok (.iload_n 1, 1) := by decide +kernel
theorem dX7_leastFrom_24 : decode cX7_leastFrom 24 = .ok (.iload 4, 2) := by decide +kernel
theorem dX7_leastFrom_26 : decode cX7_leastFrom 26 = .ok (.ishr, 1) := by decide +kernel
theorem dX7_leastFrom_27 : decode cX7_leastFrom 27 = .ok (.iconst 1, 1) := by decide +kernel
theorem dX7_leastFrom_28 : decode cX7_leastFrom 28 = .ok (.iand, 1) := by decide +kernel
theorem dX7_leastFrom_29 : decode cX7_leastFrom 29 = .ok (.iconst 1, 1) := by decide +kernel
theorem dX7_leastFrom_30 : decode cX7_leastFrom 30 = .ok (.if_icmp .ne 16, 3) := by decide +kernel
theorem dX7_leastFrom_33 : decode cX7_leastFrom 33 = .ok (.iload_n 3, 1) := by decide +kernel
theorem dX7_leastFrom_34 : decode cX7_leastFrom 34 = .ok (.aload_n 0, 1) := by decide +kernel
theorem dX7_leastFrom_35 : decode cX7_leastFrom 35 = .ok (.iload_n 1, 1) := by decide +kernel
theorem dX7_leastFrom_36 : decode cX7_leastFrom 36 = .ok (.iload_n 2, 1) := by decide +kernel
theorem dX7_leastFrom_37 : decode cX7_leastFrom 37 = .ok (.iload 4, 2) := by decide +kernel
theorem dX7_leastFrom_39 : decode cX7_leastFrom 39 = .ok (.invokevirtual 57, 3) := by decide +kernel
theorem dX7_leastFrom_42 : decode cX7_leastFrom 42 = .ok (.invokestatic 61, 3) := by decide +kernel
theorem dX7_leastFrom_45 : decode cX7_leastFrom 45 = .ok (.istore_n 3, 1) := by decide +kernel
theorem dX7_leastFrom_46 : decode cX7_leastFrom 46 = .ok (.iinc 4 1, 3) := by decide +kernel
theorem dX7_leastFrom_49 : decode cX7_leastFrom 49 = .ok (.goto (-35), 3) := by decide +kernel
theorem dX7_leastFrom_52 : decode cX7_leastFrom 52 = .ok (.iload_n 3, 1) := by decide +kernel
theorem dX7_leastFrom_53 : decode cX7_leastFrom 53 = .ok (.ireturn, 1) := by decide +kernel
theorem dX7_secondsBy_0 : decode cX7_secondsBy 0 = .ok (.iload_n 2, 1) := by decide +kernel
theorem dX7_secondsBy_1 : decode cX7_secondsBy 1 = .ok (.iconst (-1), 1) := by decide +kernel
theorem dX7_secondsBy_2 : decode cX7_secondsBy 2 = .ok (.if_icmp .ne 7, 3) := by decide +kernel
theorem dX7_secondsBy_5 : decode cX7_secondsBy 5 = .ok (.iconst 0, 1) := by decide +kernel
theorem dX7_secondsBy_6 : decode cX7_secondsBy 6 = .ok (.goto 16, 3) := by decide +kernel
theorem dX7_secondsBy_9 : decode cX7_secondsBy 9 = .ok (.aload_n 0, 1) := by decide +kernel
theorem dX7_secondsBy_10 : decode cX7_secondsBy 10 = .ok (.getfield 9, 3) := by decide +kernel
theorem dX7_secondsBy_13 : decode cX7_secondsBy 13 = .ok (.iload_n 2, 1) := by decide +kernel
theorem dX7_secondsBy_14 : decode cX7_secondsBy 14 = .ok (.bipush 8, 2) := by decide +kernel
theorem dX7_secondsBy_16 : decode cX7_secondsBy 16 = .ok (.imul, 1) := by decide +kernel
theorem dX7_secondsBy_17 : decode cX7_secondsBy 17 = .ok (.iload_n 3, 1) := by decide +kernel
theorem dX7_secondsBy_18 : decode cX7_secondsBy 18 = .ok (.iadd, 1) := by decide +kernel
theorem dX7_secondsBy_19 : decode cX7_secondsBy 19 = .ok (.invokestatic 44, 3) := by decide +kernel
theorem dX7_secondsBy_22 : decode cX7_secondsBy 22 = .ok (.istore 4, 2) := by decide +kernel
theorem dX7_secondsBy_24 : decode cX7_secondsBy 24 = .ok (.iload 4, 2) := by decide +kernel
theorem dX7_secondsBy_26 : decode cX7_secondsBy 26 = .ok (.aload_n 0, 1) := by decide +kernel
theorem dX7_secondsBy_27 : decode cX7_secondsBy 27 = .ok (.getfield 15, 3) := by decide +kernel
theorem dX7_secondsBy_30 : decode cX7_secondsBy 30 = .ok (.iload_n 1, 1) := by decide +kernel
theorem dX7_secondsBy_31 : decode cX7_secondsBy 31 = .ok (.iconst 1, 1) := by decide +kernel
theorem dX7_secondsBy_32 : decode cX7_secondsBy 32 = .ok (.iload_n 3, 1) := by decide +kernel
theorem dX7_secondsBy_33 : decode cX7_secondsBy 33 = .ok (.ishl, 1) := by decide +kernel
theorem dX7_secondsBy_34 : decode cX7_secondsBy 34 = .ok (.iconst (-1), 1) := by decide +kernel
theorem dX7_secondsBy_35 : decode cX7_secondsBy 35 = .ok (.ixor, 1) := by decide +kernel
theorem dX7_secondsBy_36 : decode cX7_secondsBy 36 = .ok (.iand, 1) := by decide +kernel
theorem dX7_secondsBy_37 : decode cX7_secondsBy 37 = .ok (.bipush 8, 2) := by decide +kernel
theorem dX7_secondsBy_39 : decode cX7_secondsBy 39 = .ok (.imul, 1) := by decide +kernel
theorem dX7_secondsBy_40 : decode cX7_secondsBy 40 = .ok (.iload_n 3, 1) := by decide +kernel
theorem dX7_secondsBy_41 : decode cX7_secondsBy 41 = .ok (.iadd, 1) := by decide +kernel
theorem dX7_secondsBy_42 : decode cX7_secondsBy 42 = .ok (.invokestatic 44, 3) := by decide +kernel
theorem dX7_secondsBy_45 : decode cX7_secondsBy 45 = .ok (.iadd, 1) := by decide +kernel
theorem dX7_secondsBy_46 : decode cX7_secondsBy 46 = .ok (.ireturn, 1) := by decide +kernel
theorem dX7_seconds_0 : decode cX7_seconds 0 = .ok (.aload_n 0, 1) := by decide +kernel
theorem dX7_seconds_1 : decode cX7_seconds 1 = .ok (.iload_n 1, 1) := by decide +kernel
theorem dX7_seconds_2 : decode cX7_seconds 2 = .ok (.iconst (-1), 1) := by decide +kernel
theorem dX7_seconds_3 : decode cX7_seconds 3 = .ok (.invokevirtual 37, 3) := by decide +kernel
theorem dX7_seconds_6 : decode cX7_seconds 6 = .ok (.ireturn, 1) := by decide +kernel
theorem dX7_placeInOrder_0 : decode cX7_placeInOrder 0 = .ok (.aload_n 0, 1) := by decide +kernel
theorem dX7_placeInOrder_1 : decode cX7_placeInOrder 1 = .ok (.invokevirtual 33, 3) := by decide +kernel
theorem dX7_placeInOrder_4 : decode cX7_placeInOrder 4 = .ok (.istore_n 2, 1) := by decide +kernel
theorem dX7_placeInOrder_5 : decode cX7_placeInOrder 5 = .ok (.iconst (-1), 1) := by decide +kernel
theorem dX7_placeInOrder_6 : decode cX7_placeInOrder 6 = .ok (.istore_n 3, 1) := by decide +kernel
theorem dX7_placeInOrder_7 : decode cX7_placeInOrder 7 = .ok (.iconst 0, 1) := by decide +kernel
theorem dX7_placeInOrder_8 : decode cX7_placeInOrder 8 = .ok (.istore 4, 2) := by decide +kernel
theorem dX7_placeInOrder_10 : decode cX7_placeInOrder 10 = .ok (.iload 4, 2) := by decide +kernel
theorem dX7_placeInOrder_12 : decode cX7_placeInOrder 12 = .ok (.iload_n 1, 1) := by decide +kernel
theorem dX7_placeInOrder_13 : decode cX7_placeInOrder 13 = .ok (.if_icmp .gt 24, 3) := by decide +kernel
theorem dX7_placeInOrder_16 : decode cX7_placeInOrder 16 = .ok (.aload_n 0, 1) := by decide +kernel
theorem dX7_placeInOrder_17 : decode cX7_placeInOrder 17 = .ok (.iload_n 2, 1) := by decide +kernel
theorem dX7_placeInOrder_18 : decode cX7_placeInOrder 18 = .ok (.iload_n 3, 1) := by decide +kernel
theorem dX7_placeInOrder_19 : decode cX7_placeInOrder 19 = .ok (.invokevirtual 66, 3) := by decide +kernel
theorem dX7_placeInOrder_22 : decode cX7_placeInOrder 22 = .ok (.istore_n 3, 1) := by decide +kernel
theorem dX7_placeInOrder_23 : decode cX7_placeInOrder 23 = .ok (.iload_n 2, 1) := by decide +kernel
theorem dX7_placeInOrder_24 : decode cX7_placeInOrder 24 = .ok (.iconst 1, 1) := by decide +kernel
theorem dX7_placeInOrder_25 : decode cX7_placeInOrder 25 = .ok (.iload_n 3, 1) := by decide +kernel
theorem dX7_placeInOrder_26 : decode cX7_placeInOrder 26 = .ok (.ishl, 1) := by decide +kernel
theorem dX7_placeInOrder_27 : decode cX7_placeInOrder 27 = .ok (.iconst (-1), 1) := by decide +kernel
theorem dX7_placeInOrder_28 : decode cX7_placeInOrder 28 = .ok (.ixor, 1) := by decide +kernel
theorem dX7_placeInOrder_29 : decode cX7_placeInOrder 29 = .ok (.iand, 1) := by decide +kernel
theorem dX7_placeInOrder_30 : decode cX7_placeInOrder 30 = .ok (.istore_n 2, 1) := by decide +kernel
theorem dX7_placeInOrder_31 : decode cX7_placeInOrder 31 = .ok (.iinc 4 1, 3) := by decide +kernel
theorem dX7_placeInOrder_34 : decode cX7_placeInOrder 34 = .ok (.goto (-24), 3) := by decide +kernel
theorem dX7_placeInOrder_37 : decode cX7_placeInOrder 37 = .ok (.iload_n 3, 1) := by decide +kernel
theorem dX7_placeInOrder_38 : decode cX7_placeInOrder 38 = .ok (.ireturn, 1) := by decide +kernel
theorem dX7_firstNext_0 : decode cX7_firstNext 0 = .ok (.aload_n 0, 1) := by decide +kernel
theorem dX7_firstNext_1 : decode cX7_firstNext 1 = .ok (.iload_n 1, 1) := by decide +kernel
theorem dX7_firstNext_2 : decode cX7_firstNext 2 = .ok (.iload_n 2, 1) := by decide +kernel
theorem dX7_firstNext_3 : decode cX7_firstNext 3 = .ok (.invokevirtual 37, 3) := by decide +kernel
theorem dX7_firstNext_6 : decode cX7_firstNext 6 = .ok (.istore_n 3, 1) := by decide +kernel
theorem dX7_firstNext_7 : decode cX7_firstNext 7 = .ok (.iconst 0, 1) := by decide +kernel
theorem dX7_firstNext_8 : decode cX7_firstNext 8 = .ok (.istore 4, 2) := by decide +kernel
theorem dX7_firstNext_10 : decode cX7_firstNext 10 = .ok (.iload 4, 2) := by decide +kernel
theorem dX7_firstNext_12 : decode cX7_firstNext 12 = .ok (.aload_n 0, 1) := by decide +kernel
theorem dX7_firstNext_13 : decode cX7_firstNext 13 = .ok (.getfield 24, 3) := by decide +kernel
theorem dX7_firstNext_16 : decode cX7_firstNext 16 = .ok (.if_icmp .ge 34, 3) := by decide +kernel
theorem dX7_firstNext_19 : decode cX7_firstNext 19 = .ok (.iload_n 1, 1) := by decide +kernel
theorem dX7_firstNext_20 : decode cX7_firstNext 20 = .ok (.iload 4, 2) := by decide +kernel
theorem dX7_firstNext_22 : decode cX7_firstNext 22 = .ok (.ishr, 1) := by decide +kernel
theorem dX7_firstNext_23 : decode cX7_firstNext 23 = .ok (.iconst 1, 1) := by decide +kernel
theorem dX7_firstNext_24 : decode cX7_firstNext 24 = .ok (.iand, 1) := by decide +kernel
theorem dX7_firstNext_25 : decode cX7_firstNext 25 = .ok (.iconst 1, 1) := by decide +kernel
theorem dX7_firstNext_26 : decode cX7_firstNext 26 = .ok (.if_icmp .ne 18, 3) := by decide +kernel
theorem dX7_firstNext_29 : decode cX7_firstNext 29 = .ok (.aload_n 0, 1) := by decide +kernel
theorem dX7_firstNext_30 : decode cX7_firstNext 30 = .ok (.iload_n 1, 1) := by decide +kernel
theorem dX7_firstNext_31 : decode cX7_firstNext 31 = .ok (.iload_n 2, 1) := by decide +kernel
theorem dX7_firstNext_32 : decode cX7_firstNext 32 = .ok (.iload 4, 2) := by decide +kernel
theorem dX7_firstNext_34 : decode cX7_firstNext 34 = .ok (.invokevirtual 57, 3) := by decide +kernel
theorem dX7_firstNext_37 : decode cX7_firstNext 37 = .ok (.iload_n 3, 1) := by decide +kernel
theorem dX7_firstNext_38 : decode cX7_firstNext 38 = .ok (.if_icmp .ne 6, 3) := by decide +kernel
theorem dX7_firstNext_41 : decode cX7_firstNext 41 = .ok (.iload 4, 2) := by decide +kernel
theorem dX7_firstNext_43 : decode cX7_firstNext 43 = .ok (.ireturn, 1) := by decide +kernel
theorem dX7_firstNext_44 : decode cX7_firstNext 44 = .ok (.iinc 4 1, 3) := by decide +kernel
theorem dX7_firstNext_47 : decode cX7_firstNext 47 = .ok (.goto (-37), 3) := by decide +kernel
theorem dX7_firstNext_50 : decode cX7_firstNext 50 = .ok (.iconst 0, 1) := by decide +kernel
theorem dX7_firstNext_51 : decode cX7_firstNext 51 = .ok (.ireturn, 1) := by decide +kernel
theorem dX7_split_0 : decode cX7_split 0 = .ok (.iconst 0, 1) := by decide +kernel
theorem dX7_split_1 : decode cX7_split 1 = .ok (.istore_n 1, 1) := by decide +kernel
theorem dX7_split_2 : decode cX7_split 2 = .ok (.aload_n 0, 1) := by decide +kernel
theorem dX7_split_3 : decode cX7_split 3 = .ok (.iconst 0, 1) := by decide +kernel
theorem dX7_split_4 : decode cX7_split 4 = .ok (.invokevirtual 69, 3) := by decide +kernel
theorem dX7_split_7 : decode cX7_split 7 = .ok (.istore_n 2, 1) := by decide +kernel
theorem dX7_split_8 : decode cX7_split 8 = .ok (.iconst 1, 1) := by decide +kernel
theorem dX7_split_9 : decode cX7_split 9 = .ok (.istore_n 3, 1) := by decide +kernel
theorem dX7_split_10 : decode cX7_split 10 = .ok (.iload_n 3, 1) := by decide +kernel
theorem dX7_split_11 : decode cX7_split 11 = .ok (.aload_n 0, 1) := by decide +kernel
theorem dX7_split_12 : decode cX7_split 12 = .ok (.invokevirtual 33, 3) := by decide +kernel
theorem dX7_split_15 : decode cX7_split 15 = .ok (.if_icmp .gt 27, 3) := by decide +kernel
theorem dX7_split_18 : decode cX7_split 18 = .ok (.aload_n 0, 1) := by decide +kernel
theorem dX7_split_19 : decode cX7_split 19 = .ok (.iload_n 3, 1) := by decide +kernel
theorem dX7_split_20 : decode cX7_split 20 = .ok (.invokevirtual 69, 3) := by decide +kernel
theorem dX7_split_23 : decode cX7_split 23 = .ok (.istore 4, 2) := by decide +kernel
theorem dX7_split_25 : decode cX7_split 25 = .ok (.iload 4, 2) := by decide +kernel
theorem dX7_split_27 : decode cX7_split 27 = .ok (.iload_n 2, 1) := by decide +kernel
theorem dX7_split_28 : decode cX7_split 28 = .ok (.if_icmp .ge 8, 3) := by decide +kernel
theorem dX7_split_31 : decode cX7_split 31 = .ok (.iload_n 3, 1) := by decide +kernel
theorem dX7_split_32 : decode cX7_split 32 = .ok (.istore_n 1, 1) := by decide +kernel
theorem dX7_split_33 : decode cX7_split 33 = .ok (.iload 4, 2) := by decide +kernel
theorem dX7_split_35 : decode cX7_split 35 = .ok (.istore_n 2, 1) := by decide +kernel
theorem dX7_split_36 : decode cX7_split 36 = .ok (.iinc 3 1, 3) := by decide +kernel
theorem dX7_split_39 : decode cX7_split 39 = .ok (.goto (-29), 3) := by decide +kernel
theorem dX7_split_42 : decode cX7_split 42 = .ok (.iload_n 1, 1) := by decide +kernel
theorem dX7_split_43 : decode cX7_split 43 = .ok (.ireturn, 1) := by decide +kernel
theorem dX7_greaterOfTwo_0 : decode cX7_greaterOfTwo 0 = .ok (.aload_n 0, 1) := by decide +kernel
theorem dX7_greaterOfTwo_1 : decode cX7_greaterOfTwo 1 = .ok (.iload_n 1, 1) := by decide +kernel
theorem dX7_greaterOfTwo_2 : decode cX7_greaterOfTwo 2 = .ok (.invokevirtual 73, 3) := by decide +kernel
theorem dX7_greaterOfTwo_5 : decode cX7_greaterOfTwo 5 = .ok (.aload_n 0, 1) := by decide +kernel
theorem dX7_greaterOfTwo_6 : decode cX7_greaterOfTwo 6 = .ok (.aload_n 0, 1) := by decide +kernel
theorem dX7_greaterOfTwo_7 : decode cX7_greaterOfTwo 7 = .ok (.invokevirtual 33, 3) := by decide +kernel
theorem dX7_greaterOfTwo_10 : decode cX7_greaterOfTwo 10 = .ok (.iload_n 1, 1) := by decide +kernel
theorem dX7_greaterOfTwo_11 : decode cX7_greaterOfTwo 11 = .ok (.iconst (-1), 1) := by decide +kernel
theorem dX7_greaterOfTwo_12 : decode cX7_greaterOfTwo 12 = .ok (.ixor, 1) := by decide +kernel
theorem dX7_greaterOfTwo_13 : decode cX7_greaterOfTwo 13 = .ok (.iand, 1) := by decide +kernel
theorem dX7_greaterOfTwo_14 : decode cX7_greaterOfTwo 14 = .ok (.invokevirtual 73, 3) := by decide +kernel
theorem dX7_greaterOfTwo_17 : decode cX7_greaterOfTwo 17 = .ok (.invokestatic 76, 3) := by decide +kernel
theorem dX7_greaterOfTwo_20 : decode cX7_greaterOfTwo 20 = .ok (.ireturn, 1) := by decide +kernel
theorem dX8_init_0 : decode cX8_init 0 = .ok (.aload_n 0, 1) := by decide +kernel
theorem dX8_init_1 : decode cX8_init 1 = .ok (.invokespecial 1, 3) := by decide +kernel
theorem dX8_init_4 : decode cX8_init 4 = .ok (.aload_n 0, 1) := by decide +kernel
theorem dX8_init_5 : decode cX8_init 5 = .ok (.new 7, 3) := by decide +kernel
theorem dX8_init_8 : decode cX8_init 8 = .ok (.dup, 1) := by decide +kernel
theorem dX8_init_9 : decode cX8_init 9 = .ok (.invokespecial 9, 3) := by decide +kernel
theorem dX8_init_12 : decode cX8_init 12 = .ok (.putfield 10, 3) := by decide +kernel
theorem dX8_init_15 : decode cX8_init 15 = .ok (.aload_n 0, 1) := by decide +kernel
theorem dX8_init_16 : decode cX8_init 16 = .ok (.new 7, 3) := by decide +kernel
theorem dX8_init_19 : decode cX8_init 19 = .ok (.dup, 1) := by decide +kernel
theorem dX8_init_20 : decode cX8_init 20 = .ok (.invokespecial 9, 3) := by decide +kernel
theorem dX8_init_23 : decode cX8_init 23 = .ok (.putfield 16, 3) := by decide +kernel
theorem dX8_init_26 : decode cX8_init 26 = .ok (.aload_n 0, 1) := by decide +kernel
theorem dX8_init_27 : decode cX8_init 27 = .ok (.new 7, 3) := by decide +kernel
theorem dX8_init_30 : decode cX8_init 30 = .ok (.dup, 1) := by decide +kernel
theorem dX8_init_31 : decode cX8_init 31 = .ok (.invokespecial 9, 3) := by decide +kernel
theorem dX8_init_34 : decode cX8_init 34 = .ok (.putfield 19, 3) := by decide +kernel
theorem dX8_init_37 : decode cX8_init 37 = .ok (.aload_n 0, 1) := by decide +kernel
theorem dX8_init_38 : decode cX8_init 38 = .ok (.new 22, 3) := by decide +kernel
theorem dX8_init_41 : decode cX8_init 41 = .ok (.dup, 1) := by decide +kernel
theorem dX8_init_42 : decode cX8_init 42 = .ok (.invokespecial 24, 3) := by decide +kernel
theorem dX8_init_45 : decode cX8_init 45 = .ok (.putfield 25, 3) := by decide +kernel
theorem dX8_init_48 : decode cX8_init 48 = .ok (.aload_n 0, 1) := by decide +kernel
theorem dX8_init_49 : decode cX8_init 49 = .ok (.new 29, 3) := by decide +kernel
theorem dX8_init_52 : decode cX8_init 52 = .ok (.dup, 1) := by decide +kernel
theorem dX8_init_53 : decode cX8_init 53 = .ok (.invokespecial 31, 3) := by decide +kernel
theorem dX8_init_56 : decode cX8_init 56 = .ok (.putfield 32, 3) := by decide +kernel
theorem dX8_init_59 : decode cX8_init 59 = .ok (.aload_n 0, 1) := by decide +kernel
theorem dX8_init_60 : decode cX8_init 60 = .ok (.new 36, 3) := by decide +kernel
theorem dX8_init_63 : decode cX8_init 63 = .ok (.dup, 1) := by decide +kernel
theorem dX8_init_64 : decode cX8_init 64 = .ok (.invokespecial 38, 3) := by decide +kernel
theorem dX8_init_67 : decode cX8_init 67 = .ok (.putfield 39, 3) := by decide +kernel
theorem dX8_init_70 : decode cX8_init 70 = .ok (.aload_n 0, 1) := by decide +kernel
theorem dX8_init_71 : decode cX8_init 71 = .ok (.new 43, 3) := by decide +kernel
theorem dX8_init_74 : decode cX8_init 74 = .ok (.dup, 1) := by decide +kernel
theorem dX8_init_75 : decode cX8_init 75 = .ok (.invokespecial 45, 3) := by decide +kernel
theorem dX8_init_78 : decode cX8_init 78 = .ok (.putfield 46, 3) := by decide +kernel
theorem dX8_init_81 : decode cX8_init 81 = .ok (.aload_n 0, 1) := by decide +kernel
theorem dX8_init_82 : decode cX8_init 82 = .ok (.new 50, 3) := by decide +kernel
theorem dX8_init_85 : decode cX8_init 85 = .ok (.dup, 1) := by decide +kernel
theorem dX8_init_86 : decode cX8_init 86 = .ok (.invokespecial 52, 3) := by decide +kernel
theorem dX8_init_89 : decode cX8_init 89 = .ok (.putfield 53, 3) := by decide +kernel
theorem dX8_init_92 : decode cX8_init 92 = .ok (.return_, 1) := by decide +kernel
theorem dX8_thing_0 : decode cX8_thing 0 = .ok (.iload_n 1, 1) := by decide +kernel
theorem dX8_thing_1 : decode cX8_thing 1 = .ok (.iconst 0, 1) := by decide +kernel
theorem dX8_thing_2 : decode cX8_thing 2 = .ok (.iconst 4, 1) := by decide +kernel
theorem dX8_thing_3 : decode cX8_thing 3 = .ok (.invokestatic 57, 3) := by decide +kernel
theorem dX8_thing_6 : decode cX8_thing 6 = .ok (.ifCond .eq 13, 3) := by decide +kernel
theorem dX8_thing_9 : decode cX8_thing 9 = .ok (.iload_n 2, 1) := by decide +kernel
theorem dX8_thing_10 : decode cX8_thing 10 = .ok (.iconst 0, 1) := by decide +kernel
theorem dX8_thing_11 : decode cX8_thing 11 = .ok (.bipush 9, 2) := by decide +kernel
theorem dX8_thing_13 : decode cX8_thing 13 = .ok (.invokestatic 57, 3) := by decide +kernel
theorem dX8_thing_16 : decode cX8_thing 16 = .ok (.ifCond .ne 8, 3) := by decide +kernel
theorem dX8_thing_19 : decode cX8_thing 19 = .ok (.aload_n 0, 1) := by decide +kernel
theorem dX8_thing_20 : decode cX8_thing 20 = .ok (.invokevirtual 61, 3) := by decide +kernel
theorem dX8_thing_23 : decode cX8_thing 23 = .ok (.ireturn, 1) := by decide +kernel
theorem dX8_thing_24 : decode cX8_thing 24 = .ok (.aload_n 0, 1) := by decide +kernel
theorem dX8_thing_25 : decode cX8_thing 25 = .ok (.getfield 10, 3) := by decide +kernel
theorem dX8_thing_28 : decode cX8_thing 28 = .ok (.getfield 65, 3) := by decide +kernel
theorem dX8_thing_31 : decode cX8_thing 31 = .ok (.bipush 10, 2) := by decide +kernel
theorem dX8_thing_33 : decode cX8_thing 33 = .ok (.if_icmp .lt 8, 3) := by decide +kernel
theorem dX8_thing_36 : decode cX8_thing 36 = .ok (.aload_n 0, 1) := by decide +kernel
theorem dX8_thing_37 : decode cX8_thing 37 = .ok (.invokevirtual 69, 3) := by decide +kernel
theorem dX8_thing_40 : decode cX8_thing 40 = .ok (.ireturn, 1) := by decide +kernel
theorem dX8_thing_41 : decode cX8_thing 41 = .ok (.aload_n 0, 1) := by decide +kernel
theorem dX8_thing_42 : decode cX8_thing 42 = .ok (.getfield 10, 3) := by decide +kernel
theorem dX8_thing_45 : decode cX8_thing 45 = .ok (.iload_n 1, 1) := by decide +kernel
theorem dX8_thing_46 : decode cX8_thing 46 = .ok (.iload_n 2, 1) := by decide +kernel
theorem dX8_thing_47 : decode cX8_thing 47 = .ok (.invokevirtual 72, 3) := by decide +kernel
theorem dX8_thing_50 : decode cX8_thing 50 = .ok (.ireturn, 1) := by decide +kernel
theorem dX8_level_0 : decode cX8_level 0 = .ok (.aload_n 0, 1) := by decide +kernel
theorem dX8_level_1 : decode cX8_level 1 = .ok (.iload_n 1, 1) := by decide +kernel
theorem dX8_level_2 : decode cX8_level 2 = .ok (.invokevirtual 76, 3) := by decide +kernel
theorem dX8_level_5 : decode cX8_level 5 = .ok (.ifCond .eq 20, 3) := by decide +kernel
theorem dX8_level_8 : decode cX8_level 8 = .ok (.iload_n 2, 1) := by decide +kernel
theorem dX8_level_9 : decode cX8_level 9 = .ok (.invokestatic 80, 3) := by decide +kernel
theorem dX8_level_12 : decode cX8_level 12 = .ok (.ifCond .eq 13, 3) := by decide +kernel
theorem dX8_level_15 : decode cX8_level 15 = .ok (.iload_n 3, 1) := by decide +kernel
theorem dX8_level_16 : decode cX8_level 16 = .ok (.iconst 0, 1) := by decide +kernel
theorem dX8_level_17 : decode cX8_level 17 = .ok (.bipush 99, 2) := by decide +kernel
theorem dX8_level_19 : decode cX8_level 19 = .ok (.invokestatic 57, 3) := by decide +kernel
theorem dX8_level_22 : decode cX8_level 22 = .ok (.ifCond .ne 8, 3) := by decide +kernel
theorem dX8_level_25 : decode cX8_level 25 = .ok (.aload_n 0, 1) := by decide +kernel
theorem dX8_level_26 : decode cX8_level 26 = .ok (.invokevirtual 61, 3) := by decide +kernel
theorem dX8_level_29 : decode cX8_level 29 = .ok (.ireturn, 1) := by decide +kernel
theorem dX8_level_30 : decode cX8_level 30 = .ok (.aload_n 0, 1) := by decide +kernel
theorem dX8_level_31 : decode cX8_level 31 = .ok (.getfield 10, 3) := by decide +kernel
theorem dX8_level_34 : decode cX8_level 34 = .ok (.getfield 83, 3) := by decide +kernel
theorem dX8_level_37 : decode cX8_level 37 = .ok (.iload_n 1, 1) := by decide +kernel
theorem dX8_level_38 : decode cX8_level 38 = .ok (.bipush 6, 2) := by decide +kernel
theorem dX8_level_40 : decode cX8_level 40 = .ok (.imul, 1) := by decide +kernel
theorem dX8_level_41 : decode cX8_level 41 = .ok (.iload_n 2, 1) := by decide +kernel
theorem dX8_level_42 : decode cX8_level 42 = .ok (.iadd, 1) := by decide +kernel
theorem dX8_level_43 : decode cX8_level 43 = .ok (.iload_n 3, 1) := by decide +kernel
theorem dX8_level_44 : decode cX8_level 44 = .ok (.invokestatic 87, 3) := by decide +kernel
theorem dX8_level_47 : decode cX8_level 47 = .ok (.ireturn, 1) := by decide +kernel
theorem dX8_meaning_0 : decode cX8_meaning 0 = .ok (.iload_n 1, 1) := by decide +kernel
theorem dX8_meaning_1 : decode cX8_meaning 1 = .ok (.iconst 0, 1) := by decide +kernel
theorem dX8_meaning_2 : decode cX8_meaning 2 = .ok (.bipush 99, 2) := by decide +kernel
theorem dX8_meaning_4 : decode cX8_meaning 4 = .ok (.invokestatic 57, 3) := by decide +kernel
theorem dX8_meaning_7 : decode cX8_meaning 7 = .ok (.ifCond .ne 8, 3) := by decide +kernel
theorem dX8_meaning_10 : decode cX8_meaning 10 = .ok (.aload_n 0, 1) := by decide +kernel
theorem dX8_meaning_11 : decode cX8_meaning 11 = .ok (.invokevirtual 61, 3) := by decide +kernel
theorem dX8_meaning_14 : decode cX8_meaning 14 = .ok (.ireturn, 1) := by decide +kernel
theorem dX8_meaning_15 : decode cX8_meaning 15 = .ok (.aload_n 0, 1) := by decide +kernel
theorem dX8_meaning_16 : decode cX8_meaning 16 = .ok (.getfield 10, 3) := by decide +kernel
theorem dX8_meaning_19 : decode cX8_meaning 19 = .ok (.getfield 91, 3) := by decide +kernel
theorem dX8_meaning_22 : decode cX8_meaning 22 = .ok (.bipush 6, 2) := by decide +kernel
theorem dX8_meaning_24 : decode cX8_meaning 24 = .ok (.if_icmp .lt 8, 3) := by decide +kernel
theorem dX8_meaning_27 : decode cX8_meaning 27 = .ok (.aload_n 0, 1) := by decide +kernel
theorem dX8_meaning_28 : decode cX8_meaning 28 = .ok (.invokevirtual 69, 3) := by decide +kernel
theorem dX8_meaning_31 : decode cX8_meaning 31 = .ok (.ireturn, 1) := by decide +kernel
theorem dX8_meaning_32 : decode cX8_meaning 32 = .ok (.aload_n 0, 1) := by decide +kernel
theorem dX8_meaning_33 : decode cX8_meaning 33 = .ok (.getfield 10, 3) := by decide +kernel
theorem dX8_meaning_36 : decode cX8_meaning 36 = .ok (.iload_n 1, 1) := by decide +kernel
theorem dX8_meaning_37 : decode cX8_meaning 37 = .ok (.invokevirtual 94, 3) := by decide +kernel
theorem dX8_meaning_40 : decode cX8_meaning 40 = .ok (.ireturn, 1) := by decide +kernel
theorem dX8_want_0 : decode cX8_want 0 = .ok (.aload_n 0, 1) := by decide +kernel
theorem dX8_want_1 : decode cX8_want 1 = .ok (.iload_n 1, 1) := by decide +kernel
theorem dX8_want_2 : decode cX8_want 2 = .ok (.invokevirtual 98, 3) := by decide +kernel
theorem dX8_want_5 : decode cX8_want 5 = .ok (.ifCond .eq 21, 3) := by decide +kernel
theorem dX8_want_8 : decode cX8_want 8 = .ok (.iload_n 2, 1) := by decide +kernel
theorem dX8_want_9 : decode cX8_want 9 = .ok (.invokestatic 80, 3) := by decide +kernel
theorem dX8_want_12 : decode cX8_want 12 = .ok (.ifCond .eq 14, 3) := by decide +kernel
theorem dX8_want_15 : decode cX8_want 15 = .ok (.iload_n 3, 1) := by decide +kernel
theorem dX8_want_16 : decode cX8_want 16 = .ok (.iconst 0, 1) := by decide +kernel
theorem dX8_want_17 : decode cX8_want 17 = .ok (.sipush 799, 3) := by decide +kernel
theorem dX8_want_20 : decode cX8_want 20 = .ok (.invokestatic 57, 3) := by decide +kernel
theorem dX8_want_23 : decode cX8_want 23 = .ok (.ifCond .ne 8, 3) := by decide +kernel
theorem dX8_want_26 : decode cX8_want 26 = .ok (.aload_n 0, 1) := by decide +kernel
theorem dX8_want_27 : decode cX8_want 27 = .ok (.invokevirtual 61, 3) := by decide +kernel
theorem dX8_want_30 : decode cX8_want 30 = .ok (.ireturn, 1) := by decide +kernel
theorem dX8_want_31 : decode cX8_want 31 = .ok (.aload_n 0, 1) := by decide +kernel
theorem dX8_want_32 : decode cX8_want 32 = .ok (.getfield 10, 3) := by decide +kernel
theorem dX8_want_35 : decode cX8_want 35 = .ok (.getfield 101, 3) := by decide +kernel
theorem dX8_want_38 : decode cX8_want 38 = .ok (.iload_n 1, 1) := by decide +kernel
theorem dX8_want_39 : decode cX8_want 39 = .ok (.bipush 6, 2) := by decide +kernel
theorem dX8_want_41 : decode cX8_want 41 = .ok (.imul, 1) := by decide +kernel
theorem dX8_want_42 : decode cX8_want 42 = .ok (.iload_n 2, 1) := by decide +kernel
theorem dX8_want_43 : decode cX8_want 43 = .ok (.iadd, 1) := by decide +kernel
theorem dX8_want_44 : decode cX8_want 44 = .ok (.iload_n 3, 1) := by decide +kernel
theorem dX8_want_45 : decode cX8_want 45 = .ok (.invokestatic 87, 3) := by decide +kernel
theorem dX8_want_48 : decode cX8_want 48 = .ok (.ireturn, 1) := by decide +kernel
theorem dX8_put_0 : decode cX8_put 0 = .ok (.iload_n 1, 1) := by decide +kernel
theorem dX8_put_1 : decode cX8_put 1 = .ok (.iconst 0, 1) := by decide +kernel
theorem dX8_put_2 : decode cX8_put 2 = .ok (.iconst 4, 1) := by decide +kernel
theorem dX8_put_3 : decode cX8_put 3 = .ok (.invokestatic 57, 3) := by decide +kernel
theorem dX8_put_6 : decode cX8_put 6 = .ok (.ifCond .eq 18, 3) := by decide +kernel
theorem dX8_put_9 : decode cX8_put 9 = .ok (.iload_n 2, 1) := by decide +kernel
theorem dX8_put_10 : decode cX8_put 10 = .ok (.iload_n 1, 1) := by decide +kernel
theorem dX8_put_11 : decode cX8_put 11 = .ok (.invokestatic 104, 3) := by decide +kernel
theorem dX8_put_14 : decode cX8_put 14 = .ok (.iload_n 1, 1) := by decide +kernel
theorem dX8_put_15 : decode cX8_put 15 = .ok (.invokestatic 107, 3) := by decide +kernel
theorem dX8_put_18 : decode cX8_put 18 = .ok (.invokestatic 57, 3) := by decide +kernel
theorem dX8_put_21 : decode cX8_put 21 = .ok (.ifCond .ne 8, 3) := by decide +kernel
theorem dX8_put_24 : decode cX8_put 24 = .ok (.aload_n 0, 1) := by decide +kernel
theorem dX8_put_25 : decode cX8_put 25 = .ok (.invokevirtual 61, 3) := by decide +kernel
theorem dX8_put_28 : decode cX8_put 28 = .ok (.ireturn, 1) := by decide +kernel
theorem dX8_put_29 : decode cX8_put 29 = .ok (.aload_n 0, 1) := by decide +kernel
theorem dX8_put_30 : decode cX8_put 30 = .ok (.getfield 10, 3) := by decide +kernel
theorem dX8_put_33 : decode cX8_put 33 = .ok (.getfield 110, 3) := by decide +kernel
theorem dX8_put_36 : decode cX8_put 36 = .ok (.iload_n 1, 1) := by decide +kernel
theorem dX8_put_37 : decode cX8_put 37 = .ok (.iload_n 2, 1) := by decide +kernel
theorem dX8_put_38 : decode cX8_put 38 = .ok (.invokestatic 87, 3) := by decide +kernel
theorem dX8_put_41 : decode cX8_put 41 = .ok (.ireturn, 1) := by decide +kernel
theorem dX8_value_0 : decode cX8_value 0 = .ok (.aload_n 0, 1) := by decide +kernel
theorem dX8_value_1 : decode cX8_value 1 = .ok (.iload_n 1, 1) := by decide +kernel
theorem dX8_value_2 : decode cX8_value 2 = .ok (.invokevirtual 76, 3) := by decide +kernel
theorem dX8_value_5 : decode cX8_value 5 = .ok (.ifCond .eq 31, 3) := by decide +kernel
theorem dX8_value_8 : decode cX8_value 8 = .ok (.iload_n 2, 1) := by decide +kernel
theorem dX8_value_9 : decode cX8_value 9 = .ok (.invokestatic 80, 3) := by decide +kernel
theorem dX8_value_12 : decode cX8_value 12 = .ok (.ifCond .eq 24, 3) := by decide +kernel
theorem dX8_value_15 : decode cX8_value 15 = .ok (.iload_n 3, 1) := by decide +kernel
theorem dX8_value_16 : decode cX8_value 16 = .ok (.iconst 0, 1) := by decide +kernel
theorem dX8_value_17 : decode cX8_value 17 = .ok (.bipush 7, 2) := by decide +kernel
theorem dX8_value_19 : decode cX8_value 19 = .ok (.invokestatic 57, 3) := by decide +kernel
theorem dX8_value_22 : decode cX8_value 22 = .ok (.ifCond .eq 14, 3) := by decide +kernel
theorem dX8_value_25 : decode cX8_value 25 = .ok (.iload 4, 2) := by decide +kernel
theorem dX8_value_27 : decode cX8_value 27 = .ok (.iconst 0, 1) := by decide +kernel
theorem dX8_value_28 : decode cX8_value 28 = .ok (.bipush 9, 2) := by decide +kernel
theorem dX8_value_30 : decode cX8_value 30 = .ok (.invokestatic 57, 3) := by decide +kernel
theorem dX8_value_33 : decode cX8_value 33 = .ok (.ifCond .ne 8, 3) := by decide +kernel
theorem dX8_value_36 : decode cX8_value 36 = .ok (.aload_n 0, 1) := by decide +kernel
theorem dX8_value_37 : decode cX8_value 37 = .ok (.invokevirtual 61, 3) := by decide +kernel
theorem dX8_value_40 : decode cX8_value 40 = .ok (.ireturn, 1) := by decide +kernel
theorem dX8_value_41 : decode cX8_value 41 = .ok (.aload_n 0, 1) := by decide +kernel
theorem dX8_value_42 : decode cX8_value 42 = .ok (.getfield 10, 3) := by decide +kernel
theorem dX8_value_45 : decode cX8_value 45 = .ok (.iload_n 1, 1) := by decide +kernel
theorem dX8_value_46 : decode cX8_value 46 = .ok (.iload_n 2, 1) := by decide +kernel
theorem dX8_value_47 : decode cX8_value 47 = .ok (.iload_n 3, 1) := by decide +kernel
theorem dX8_value_48 : decode cX8_value 48 = .ok (.iload 4, 2) := by decide +kernel
theorem dX8_value_50 : decode cX8_value 50 = .ok (.invokestatic 113, 3) := by decide +kernel
theorem dX8_value_53 : decode cX8_value 53 = .ok (.ireturn, 1) := by decide +kernel
theorem dX8_loud_0 : decode cX8_loud 0 = .ok (.aload_n 0, 1) := by decide +kernel
theorem dX8_loud_1 : decode cX8_loud 1 = .ok (.iload_n 1, 1) := by decide +kernel
theorem dX8_loud_2 : decode cX8_loud 2 = .ok (.invokevirtual 76, 3) := by decide +kernel
theorem dX8_loud_5 : decode cX8_loud 5 = .ok (.ifCond .eq 20, 3) := by decide +kernel
theorem dX8_loud_8 : decode cX8_loud 8 = .ok (.iload_n 2, 1) := by decide +kernel
theorem dX8_loud_9 : decode cX8_loud 9 = .ok (.invokestatic 80, 3) := by decide +kernel
theorem dX8_loud_12 : decode cX8_loud 12 = .ok (.ifCond .eq 13, 3) := by decide +kernel
theorem dX8_loud_15 : decode cX8_loud 15 = .ok (.iload_n 3, 1) := by decide +kernel
theorem dX8_loud_16 : decode cX8_loud 16 = .ok (.iconst 0, 1) := by decide +kernel
theorem dX8_loud_17 : decode cX8_loud 17 = .ok (.bipush 9, 2) := by decide +kernel
theorem dX8_loud_19 : decode cX8_loud 19 = .ok (.invokestatic 57, 3) := by decide +kernel
theorem dX8_loud_22 : decode cX8_loud 22 = .ok (.ifCond .ne 8, 3) := by decide +kernel
theorem dX8_loud_25 : decode cX8_loud 25 = .ok (.aload_n 0, 1) := by decide +kernel
theorem dX8_loud_26 : decode cX8_loud 26 = .ok (.invokevirtual 61, 3) := by decide +kernel
theorem dX8_loud_29 : decode cX8_loud 29 = .ok (.ireturn, 1) := by decide +kernel
theorem dX8_loud_30 : decode cX8_loud 30 = .ok (.aload_n 0, 1) := by decide +kernel
theorem dX8_loud_31 : decode cX8_loud 31 = .ok (.getfield 10, 3) := by decide +kernel
theorem dX8_loud_34 : decode cX8_loud 34 = .ok (.iload_n 1, 1) := by decide +kernel
theorem dX8_loud_35 : decode cX8_loud 35 = .ok (.iload_n 2, 1) := by decide +kernel
theorem dX8_loud_36 : decode cX8_loud 36 = .ok (.iload_n 3, 1) := by decide +kernel
theorem dX8_loud_37 : decode cX8_loud 37 = .ok (.invokestatic 119, 3) := by decide +kernel
theorem dX8_loud_40 : decode cX8_loud 40 = .ok (.ireturn, 1) := by decide +kernel
theorem dX8_likeness_0 : decode cX8_likeness 0 = .ok (.aload_n 0, 1) := by decide +kernel
theorem dX8_likeness_1 : decode cX8_likeness 1 = .ok (.iload_n 1, 1) := by decide +kernel
theorem dX8_likeness_2 : decode cX8_likeness 2 = .ok (.invokevirtual 76, 3) := by decide +kernel
theorem dX8_likeness_5 : decode cX8_likeness 5 = .ok (.ifCond .eq 21, 3) := by decide +kernel
theorem dX8_likeness_8 : decode cX8_likeness 8 = .ok (.aload_n 0, 1) := by decide +kernel
theorem dX8_likeness_9 : decode cX8_likeness 9 = .ok (.iload_n 2, 1) := by decide +kernel
theorem dX8_likeness_10 : decode cX8_likeness 10 = .ok (.invokevirtual 98, 3) := by decide +kernel
theorem dX8_likeness_13 : decode cX8_likeness 13 = .ok (.ifCond .eq 13, 3) := by decide +kernel
theorem dX8_likeness_16 : decode cX8_likeness 16 = .ok (.iload_n 3, 1) := by decide +kernel
theorem dX8_likeness_17 : decode cX8_likeness 17 = .ok (.iconst 0, 1) := by decide +kernel
theorem dX8_likeness_18 : decode cX8_likeness 18 = .ok (.bipush 9, 2) := by decide +kernel
theorem dX8_likeness_20 : decode cX8_likeness 20 = .ok (.invokestatic 57, 3) := by decide +kernel
theorem dX8_likeness_23 : decode cX8_likeness 23 = .ok (.ifCond .ne 8, 3) := by decide +kernel
theorem dX8_likeness_26 : decode cX8_likeness 26 = .ok (.aload_n 0, 1) := by decide +kernel
theorem dX8_likeness_27 : decode cX8_likeness 27 = .ok (.invokevirtual 61, 3) := by decide +kernel
theorem dX8_likeness_30 : decode cX8_likeness 30 = .ok (.ireturn, 1) := by decide +kernel
theorem dX8_likeness_31 : decode cX8_likeness 31 = .ok (.aload_n 0, 1) := by decide +kernel
theorem dX8_likeness_32 : decode cX8_likeness 32 = .ok (.getfield 32, 3) := by decide +kernel
theorem dX8_likeness_35 : decode cX8_likeness 35 = .ok (.aload_n 0, 1) := by decide +kernel
theorem dX8_likeness_36 : decode cX8_likeness 36 = .ok (.getfield 10, 3) := by decide +kernel
theorem dX8_likeness_39 : decode cX8_likeness 39 = .ok (.iload_n 1, 1) := by decide +kernel
theorem dX8_likeness_40 : decode cX8_likeness 40 = .ok (.iload_n 3, 1) := by decide +kernel
theorem dX8_likeness_41 : decode cX8_likeness 41 = .ok (.invokevirtual 123, 3) := by decide +kernel
theorem dX8_likeness_44 : decode cX8_likeness 44 = .ok (.aload_n 0, 1) := by decide +kernel
theorem dX8_likeness_45 : decode cX8_likeness 45 = .ok (.getfield 32, 3) := by decide +kernel
theorem dX8_likeness_48 : decode cX8_likeness 48 = .ok (.iload_n 1, 1) := by decide +kernel
theorem dX8_likeness_49 : decode cX8_likeness 49 = .ok (.iload_n 2, 1) := by decide +kernel
theorem dX8_likeness_50 : decode cX8_likeness 50 = .ok (.invokevirtual 127, 3) := by decide +kernel
theorem dX8_likeness_53 : decode cX8_likeness 53 = .ok (.ireturn, 1) := by decide +kernel
theorem dX8_taken_0 : decode cX8_taken 0 = .ok (.aload_n 0, 1) := by decide +kernel
theorem dX8_taken_1 : decode cX8_taken 1 = .ok (.iload_n 1, 1) := by decide +kernel
theorem dX8_taken_2 : decode cX8_taken 2 = .ok (.invokevirtual 76, 3) := by decide +kernel
theorem dX8_taken_5 : decode cX8_taken 5 = .ok (.ifCond .eq 32, 3) := by decide +kernel
theorem dX8_taken_8 : decode cX8_taken 8 = .ok (.aload_n 0, 1) := by decide +kernel
theorem dX8_taken_9 : decode cX8_taken 9 = .ok (.iload_n 2, 1) := by decide +kernel
theorem dX8_taken_10 : decode cX8_taken 10 = .ok (.invokevirtual 98, 3) := by decide +kernel
theorem dX8_taken_13 : decode cX8_taken 13 = .ok (.ifCond .eq 24, 3) := by decide +kernel
theorem dX8_taken_16 : decode cX8_taken 16 = .ok (.iload_n 3, 1) := by decide +kernel
theorem dX8_taken_17 : decode cX8_taken 17 = .ok (.iconst 0, 1) := by decide +kernel
theorem dX8_taken_18 : decode cX8_taken 18 = .ok (.bipush 9, 2) := by decide +kernel
theorem dX8_taken_20 : decode cX8_taken 20 = .ok (.invokestatic 57, 3) := by decide +kernel
theorem dX8_taken_23 : decode cX8_taken 23 = .ok (.ifCond .eq 14, 3) := by decide +kernel
theorem dX8_taken_26 : decode cX8_taken 26 = .ok (.aload_n 0, 1) := by decide +kernel
theorem dX8_taken_27 : decode cX8_taken 27 = .ok (.iload 4, 2) := by decide +kernel
theorem dX8_taken_29 : decode cX8_taken 29 = .ok (.iload 5, 2) := by decide +kernel
theorem dX8_taken_31 : decode cX8_taken 31 = .ok (.invokevirtual 130, 3) := by decide +kernel
theorem dX8_taken_34 : decode cX8_taken 34 = .ok (.ifCond .ne 8, 3) := by decide +kernel
theorem dX8_taken_37 : decode cX8_taken 37 = .ok (.aload_n 0, 1) := by decide +kernel
theorem dX8_taken_38 : decode cX8_taken 38 = .ok (.invokevirtual 61, 3) := by decide +kernel
theorem dX8_taken_41 : decode cX8_taken 41 = .ok (.ireturn, 1) := by decide +kernel
theorem dX8_taken_42 : decode cX8_taken 42 = .ok (.aload_n 0, 1) := by decide +kernel
theorem dX8_taken_43 : decode cX8_taken 43 = .ok (.getfield 32, 3) := by decide +kernel
theorem dX8_taken_46 : decode cX8_taken 46 = .ok (.aload_n 0, 1) := by decide +kernel
theorem dX8_taken_47 : decode cX8_taken 47 = .ok (.getfield 10, 3) := by decide +kernel
theorem dX8_taken_50 : decode cX8_taken 50 = .ok (.iload_n 1, 1) := by decide +kernel
theorem dX8_taken_51 : decode cX8_taken 51 = .ok (.iload_n 3, 1) := by decide +kernel
theorem dX8_taken_52 : decode cX8_taken 52 = .ok (.invokevirtual 123, 3) := by decide +kernel
theorem dX8_taken_55 : decode cX8_taken 55 = .ok (.iload 4, 2) := by decide +kernel
theorem dX8_taken_57 : decode cX8_taken 57 = .ok (.iconst (-1), 1) := by decide +kernel
theorem dX8_taken_58 : decode cX8_taken 58 = .ok (.if_icmp .ne 7, 3) := by decide +kernel
theorem dX8_taken_61 : decode cX8_taken 61 = .ok (.iconst 0, 1) := by decide +kernel
theorem dX8_taken_62 : decode cX8_taken 62 = .ok (.goto 12, 3) := by decide +kernel
theorem dX8_taken_65 : decode cX8_taken 65 = .ok (.aload_n 0, 1) := by decide +kernel
theorem dX8_taken_66 : decode cX8_taken 66 = .ok (.getfield 10, 3) := by decide +kernel
theorem dX8_taken_69 : decode cX8_taken 69 = .ok (.iload 5, 2) := by decide +kernel
theorem dX8_taken_71 : decode cX8_taken 71 = .ok (.invokestatic 134, 3) := by decide +kernel
theorem dX8_taken_74 : decode cX8_taken 74 = .ok (.istore 6, 2) := by decide +kernel
theorem dX8_taken_76 : decode cX8_taken 76 = .ok (.aload_n 0, 1) := by decide +kernel
theorem dX8_taken_77 : decode cX8_taken 77 = .ok (.getfield 32, 3) := by decide +kernel
theorem dX8_taken_80 : decode cX8_taken 80 = .ok (.iload_n 1, 1) := by decide +kernel
theorem dX8_taken_81 : decode cX8_taken 81 = .ok (.invokevirtual 138, 3) := by decide +kernel
theorem dX8_taken_84 : decode cX8_taken 84 = .ok (.iload 6, 2) := by decide +kernel
theorem dX8_taken_86 : decode cX8_taken 86 = .ok (.iadd, 1) := by decide +kernel
theorem dX8_taken_87 : decode cX8_taken 87 = .ok (.istore 7, 2) := by decide +kernel
theorem dX8_taken_89 : decode cX8_taken 89 = .ok (.iload 7, 2) := by decide +kernel
theorem dX8_taken_91 : decode cX8_taken 91 = .ok (.ifCond .gt 8, 3) := by decide +kernel
theorem dX8_taken_94 : decode cX8_taken 94 = .ok (.aload_n 0, 1) := by decide +kernel
theorem dX8_taken_95 : decode cX8_taken 95 = .ok (.invokevirtual 141, 3) := by decide +kernel
theorem dX8_taken_98 : decode cX8_taken 98 = .ok (.ireturn, 1) := by decide +kernel
theorem dX8_taken_99 : decode cX8_taken 99 = .ok (.aload_n 0, 1) := by decide +kernel
theorem dX8_taken_100 : decode cX8_taken 100 = .ok (.getfield 25, 3) := by decide +kernel
theorem dX8_taken_103 : decode cX8_taken 103 = .ok (.aload_n 0, 1) := by decide +kernel
theorem dX8_taken_104 : decode cX8_taken 104 = .ok (.getfield 32, 3) := by decide +kernel
theorem dX8_taken_107 : decode cX8_taken 107 = .ok (.iload_n 1, 1) := by decide +kernel
theorem dX8_taken_108 : decode cX8_taken 108 = .ok (.iload_n 2, 1) := by decide +kernel
theorem dX8_taken_109 : decode cX8_taken 109 = .ok (.invokevirtual 127, 3) := by decide +kernel
theorem dX8_taken_112 : decode cX8_taken 112 = .ok (.iload 4, 2) := by decide +kernel
theorem dX8_taken_114 : decode cX8_taken 114 = .ok (.iload_n 2, 1) := by decide +kernel
theorem dX8_taken_115 : decode cX8_taken 115 = .ok (.if_icmp .ne 8, 3) := by decide +kernel
theorem dX8_taken_118 : decode cX8_taken 118 = .ok (.iload 6, 2) := by decide +kernel
theorem dX8_taken_120 : decode cX8_taken 120 = .ok (.goto 4, 3) := by decide +kernel
theorem dX8_taken_123 : decode cX8_taken 123 = .ok (.iconst 0, 1) := by decide +kernel
theorem dX8_taken_124 : decode cX8_taken 124 = .ok (.iadd, 1) := by decide +kernel
theorem dX8_taken_125 : decode cX8_taken 125 = .ok (.iload 7, 2) := by decide +kernel
theorem dX8_taken_127 : decode cX8_taken 127 = .ok (.invokevirtual 144, 3) := by decide +kernel
theorem dX8_taken_130 : decode cX8_taken 130 = .ok (.iconst 1, 1) := by decide +kernel
theorem dX8_taken_131 : decode cX8_taken 131 = .ok (.ireturn, 1) := by decide +kernel
theorem dX8_most_0 : decode cX8_most 0 = .ok (.aload_n 0, 1) := by decide +kernel
theorem dX8_most_1 : decode cX8_most 1 = .ok (.iload_n 1, 1) := by decide +kernel
theorem dX8_most_2 : decode cX8_most 2 = .ok (.invokevirtual 76, 3) := by decide +kernel
theorem dX8_most_5 : decode cX8_most 5 = .ok (.ifCond .eq 31, 3) := by decide +kernel
theorem dX8_most_8 : decode cX8_most 8 = .ok (.aload_n 0, 1) := by decide +kernel
theorem dX8_most_9 : decode cX8_most 9 = .ok (.iload_n 2, 1) := by decide +kernel
theorem dX8_most_10 : decode cX8_most 10 = .ok (.invokevirtual 98, 3) := by decide +kernel
theorem dX8_most_13 : decode cX8_most 13 = .ok (.ifCond .eq 23, 3) := by decide +kernel
theorem dX8_most_16 : decode cX8_most 16 = .ok (.iload_n 3, 1) := by decide +kernel
theorem dX8_most_17 : decode cX8_most 17 = .ok (.iconst 1, 1) := by decide +kernel
theorem dX8_most_18 : decode cX8_most 18 = .ok (.bipush 9, 2) := by decide +kernel
theorem dX8_most_20 : decode cX8_most 20 = .ok (.invokestatic 57, 3) := by decide +kernel
theorem dX8_most_23 : decode cX8_most 23 = .ok (.ifCond .eq 13, 3) := by decide +kernel
theorem dX8_most_26 : decode cX8_most 26 = .ok (.iload 4, 2) := by decide +kernel
theorem dX8_most_28 : decode cX8_most 28 = .ok (.iconst 0, 1) := by decide +kernel
theorem dX8_most_29 : decode cX8_most 29 = .ok (.iload_n 3, 1) := by decide +kernel
theorem dX8_most_30 : decode cX8_most 30 = .ok (.invokestatic 57, 3) := by decide +kernel
theorem dX8_most_33 : decode cX8_most 33 = .ok (.ifCond .ne 8, 3) := by decide +kernel
theorem dX8_most_36 : decode cX8_most 36 = .ok (.aload_n 0, 1) := by decide +kernel
theorem dX8_most_37 : decode cX8_most 37 = .ok (.invokevirtual 61, 3) := by decide +kernel
theorem dX8_most_40 : decode cX8_most 40 = .ok (.ireturn, 1) := by decide +kernel
theorem dX8_most_41 : decode cX8_most 41 = .ok (.aload_n 0, 1) := by decide +kernel
theorem dX8_most_42 : decode cX8_most 42 = .ok (.getfield 32, 3) := by decide +kernel
theorem dX8_most_45 : decode cX8_most 45 = .ok (.aload_n 0, 1) := by decide +kernel
theorem dX8_most_46 : decode cX8_most 46 = .ok (.getfield 10, 3) := by decide +kernel
theorem dX8_most_49 : decode cX8_most 49 = .ok (.iload_n 1, 1) := by decide +kernel
theorem dX8_most_50 : decode cX8_most 50 = .ok (.iconst 0, 1) := by decide +kernel
theorem dX8_most_51 : decode cX8_most 51 = .ok (.invokevirtual 123, 3) := by decide +kernel
theorem dX8_most_54 : decode cX8_most 54 = .ok (.aload_n 0, 1) := by decide +kernel
theorem dX8_most_55 : decode cX8_most 55 = .ok (.getfield 32, 3) := by decide +kernel
theorem dX8_most_58 : decode cX8_most 58 = .ok (.iload_n 1, 1) := by decide +kernel
theorem dX8_most_59 : decode cX8_most 59 = .ok (.invokevirtual 138, 3) := by decide +kernel
theorem dX8_most_62 : decode cX8_most 62 = .ok (.ifCond .gt 8, 3) := by decide +kernel
theorem dX8_most_65 : decode cX8_most 65 = .ok (.aload_n 0, 1) := by decide +kernel
theorem dX8_most_66 : decode cX8_most 66 = .ok (.invokevirtual 141, 3) := by decide +kernel
theorem dX8_most_69 : decode cX8_most 69 = .ok (.ireturn, 1) := by decide +kernel
theorem dX8_most_70 : decode cX8_most 70 = .ok (.aload_n 0, 1) := by decide +kernel
theorem dX8_most_71 : decode cX8_most 71 = .ok (.getfield 25, 3) := by decide +kernel
theorem dX8_most_74 : decode cX8_most 74 = .ok (.aload_n 0, 1) := by decide +kernel
theorem dX8_most_75 : decode cX8_most 75 = .ok (.getfield 32, 3) := by decide +kernel
theorem dX8_most_78 : decode cX8_most 78 = .ok (.iload_n 1, 1) := by decide +kernel
theorem dX8_most_79 : decode cX8_most 79 = .ok (.iload_n 2, 1) := by decide +kernel
theorem dX8_most_80 : decode cX8_most 80 = .ok (.invokevirtual 127, 3) := by decide +kernel
theorem dX8_most_83 : decode cX8_most 83 = .ok (.aload_n 0, 1) := by decide +kernel
theorem dX8_most_84 : decode cX8_most 84 = .ok (.getfield 32, 3) := by decide +kernel
theorem dX8_most_87 : decode cX8_most 87 = .ok (.iload_n 1, 1) := by decide +kernel
theorem dX8_most_88 : decode cX8_most 88 = .ok (.invokevirtual 138, 3) := by decide +kernel
theorem dX8_most_91 : decode cX8_most 91 = .ok (.iload_n 3, 1) := by decide +kernel
theorem dX8_most_92 : decode cX8_most 92 = .ok (.iload 4, 2) := by decide +kernel
theorem dX8_most_94 : decode cX8_most 94 = .ok (.invokevirtual 148, 3) := by decide +kernel
theorem dX8_most_97 : decode cX8_most 97 = .ok (.iconst 1, 1) := by decide +kernel
theorem dX8_most_98 : decode cX8_most 98 = .ok (.ireturn, 1) := by decide +kernel
theorem dX8_may_0 : decode cX8_may 0 = .ok (.aload_n 0, 1) := by decide +kernel
theorem dX8_may_1 : decode cX8_may 1 = .ok (.iload_n 1, 1) := by decide +kernel
theorem dX8_may_2 : decode cX8_may 2 = .ok (.invokevirtual 76, 3) := by decide +kernel
theorem dX8_may_5 : decode cX8_may 5 = .ok (.ifCond .eq 32, 3) := by decide +kernel
theorem dX8_may_8 : decode cX8_may 8 = .ok (.aload_n 0, 1) := by decide +kernel
theorem dX8_may_9 : decode cX8_may 9 = .ok (.iload_n 2, 1) := by decide +kernel
theorem dX8_may_10 : decode cX8_may 10 = .ok (.invokevirtual 98, 3) := by decide +kernel
theorem dX8_may_13 : decode cX8_may 13 = .ok (.ifCond .eq 24, 3) := by decide +kernel
theorem dX8_may_16 : decode cX8_may 16 = .ok (.iload 4, 2) := by decide +kernel
theorem dX8_may_18 : decode cX8_may 18 = .ok (.iconst 1, 1) := by decide +kernel
theorem dX8_may_19 : decode cX8_may 19 = .ok (.bipush 99, 2) := by decide +kernel
theorem dX8_may_21 : decode cX8_may 21 = .ok (.invokestatic 57, 3) := by decide +kernel
theorem dX8_may_24 : decode cX8_may 24 = .ok (.ifCond .eq 13, 3) := by decide +kernel
theorem dX8_may_27 : decode cX8_may 27 = .ok (.iload_n 3, 1) := by decide +kernel
theorem dX8_may_28 : decode cX8_may 28 = .ok (.iconst 1, 1) := by decide +kernel
theorem dX8_may_29 : decode cX8_may 29 = .ok (.iload 4, 2) := by decide +kernel
theorem dX8_may_31 : decode cX8_may 31 = .ok (.invokestatic 57, 3) := by decide +kernel
theorem dX8_may_34 : decode cX8_may 34 = .ok (.ifCond .ne 11, 3) := by decide +kernel
theorem dX8_may_37 : decode cX8_may 37 = .ok (.aload_n 0, 1) := by decide +kernel
theorem dX8_may_38 : decode cX8_may 38 = .ok (.invokevirtual 61, 3) := by decide +kernel
theorem dX8_may_41 : decode cX8_may 41 = .ok (.pop, 1) := by decide +kernel
theorem dX8_may_42 : decode cX8_may 42 = .ok (.bipush (-10), 2) := by decide +kernel
theorem dX8_may_44 : decode cX8_may 44 = .ok (.ireturn, 1) := by decide +kernel
theorem dX8_may_45 : decode cX8_may 45 = .ok (.aload_n 0, 1) := by decide +kernel
theorem dX8_may_46 : decode cX8_may 46 = .ok (.getfield 32, 3) := by decide +kernel
theorem dX8_may_49 : decode cX8_may 49 = .ok (.aload_n 0, 1) := by decide +kernel
theorem dX8_may_50 : decode cX8_may 50 = .ok (.getfield 10, 3) := by decide +kernel
theorem dX8_may_53 : decode cX8_may 53 = .ok (.iload_n 1, 1) := by decide +kernel
theorem dX8_may_54 : decode cX8_may 54 = .ok (.iconst 0, 1) := by decide +kernel
theorem dX8_may_55 : decode cX8_may 55 = .ok (.invokevirtual 123, 3) := by decide +kernel
theorem dX8_may_58 : decode cX8_may 58 = .ok (.aload_n 0, 1) := by decide +kernel
theorem dX8_may_59 : decode cX8_may 59 = .ok (.getfield 32, 3) := by decide +kernel
theorem dX8_may_62 : decode cX8_may 62 = .ok (.iload_n 1, 1) := by decide +kernel
theorem dX8_may_63 : decode cX8_may 63 = .ok (.invokevirtual 138, 3) := by decide +kernel
theorem dX8_may_66 : decode cX8_may 66 = .ok (.ifCond .gt 11, 3) := by decide +kernel
theorem dX8_may_69 : decode cX8_may 69 = .ok (.aload_n 0, 1) := by decide +kernel
theorem dX8_may_70 : decode cX8_may 70 = .ok (.invokevirtual 141, 3) := by decide +kernel
theorem dX8_may_73 : decode cX8_may 73 = .ok (.pop, 1) := by decide +kernel
theorem dX8_may_74 : decode cX8_may 74 = .ok (.bipush (-20), 2) := by decide +kernel
theorem dX8_may_76 : decode cX8_may 76 = .ok (.ireturn, 1) := by decide +kernel
theorem dX8_may_77 : decode cX8_may 77 = .ok (.aload_n 0, 1) := by decide +kernel
theorem dX8_may_78 : decode cX8_may 78 = .ok (.getfield 32, 3) := by decide +kernel
theorem dX8_may_81 : decode cX8_may 81 = .ok (.aload_n 0, 1) := by decide +kernel
theorem dX8_may_82 : decode cX8_may 82 = .ok (.getfield 10, 3) := by decide +kernel
theorem dX8_may_85 : decode cX8_may 85 = .ok (.iload_n 1, 1) := by decide +kernel
theorem dX8_may_86 : decode cX8_may 86 = .ok (.iload_n 2, 1) := by decide +kernel
theorem dX8_may_87 : decode cX8_may 87 = .ok (.iload_n 3, 1) := by decide +kernel
theorem dX8_may_88 : decode cX8_may 88 = .ok (.iload 4, 2) := by decide +kernel
theorem dX8_may_90 : decode cX8_may 90 = .ok (.invokevirtual 152, 3) := by decide +kernel
theorem dX8_may_93 : decode cX8_may 93 = .ok (.ireturn, 1) := by decide +kernel
