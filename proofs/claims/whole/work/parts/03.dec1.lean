theorem dX8_best_0 : decode cX8_best 0 = .ok (.aload_n 0, 1) := by decide +kernel
theorem dX8_best_1 : decode cX8_best 1 = .ok (.iload_n 1, 1) := by decide +kernel
theorem dX8_best_2 : decode cX8_best 2 = .ok (.invokevirtual 98, 3) := by decide +kernel
theorem dX8_best_5 : decode cX8_best 5 = .ok (.ifCond .ne 8, 3) := by decide +kernel
theorem dX8_best_8 : decode cX8_best 8 = .ok (.aload_n 0, 1) := by decide +kernel
theorem dX8_best_9 : decode cX8_best 9 = .ok (.invokevirtual 61, 3) := by decide +kernel
theorem dX8_best_12 : decode cX8_best 12 = .ok (.ireturn, 1) := by decide +kernel
theorem dX8_best_13 : decode cX8_best 13 = .ok (.aload_n 0, 1) := by decide +kernel
theorem dX8_best_14 : decode cX8_best 14 = .ok (.getfield 32, 3) := by decide +kernel
theorem dX8_best_17 : decode cX8_best 17 = .ok (.aload_n 0, 1) := by decide +kernel
theorem dX8_best_18 : decode cX8_best 18 = .ok (.getfield 10, 3) := by decide +kernel
theorem dX8_best_21 : decode cX8_best 21 = .ok (.invokevirtual 155, 3) := by decide +kernel
theorem dX8_best_24 : decode cX8_best 24 = .ok (.aload_n 0, 1) := by decide +kernel
theorem dX8_best_25 : decode cX8_best 25 = .ok (.getfield 32, 3) := by decide +kernel
theorem dX8_best_28 : decode cX8_best 28 = .ok (.aload_n 0, 1) := by decide +kernel
theorem dX8_best_29 : decode cX8_best 29 = .ok (.getfield 10, 3) := by decide +kernel
theorem dX8_best_32 : decode cX8_best 32 = .ok (.iload_n 1, 1) := by decide +kernel
theorem dX8_best_33 : decode cX8_best 33 = .ok (.invokevirtual 159, 3) := by decide +kernel
theorem dX8_best_36 : decode cX8_best 36 = .ok (.ireturn, 1) := by decide +kernel
theorem dX8_truer_0 : decode cX8_truer 0 = .ok (.aload_n 0, 1) := by decide +kernel
theorem dX8_truer_1 : decode cX8_truer 1 = .ok (.iload_n 1, 1) := by decide +kernel
theorem dX8_truer_2 : decode cX8_truer 2 = .ok (.invokevirtual 98, 3) := by decide +kernel
theorem dX8_truer_5 : decode cX8_truer 5 = .ok (.ifCond .eq 24, 3) := by decide +kernel
theorem dX8_truer_8 : decode cX8_truer 8 = .ok (.aload_n 0, 1) := by decide +kernel
theorem dX8_truer_9 : decode cX8_truer 9 = .ok (.iload_n 2, 1) := by decide +kernel
theorem dX8_truer_10 : decode cX8_truer 10 = .ok (.invokevirtual 76, 3) := by decide +kernel
theorem dX8_truer_13 : decode cX8_truer 13 = .ok (.ifCond .eq 16, 3) := by decide +kernel
theorem dX8_truer_16 : decode cX8_truer 16 = .ok (.aload_n 0, 1) := by decide +kernel
theorem dX8_truer_17 : decode cX8_truer 17 = .ok (.iload_n 3, 1) := by decide +kernel
theorem dX8_truer_18 : decode cX8_truer 18 = .ok (.invokevirtual 76, 3) := by decide +kernel
theorem dX8_truer_21 : decode cX8_truer 21 = .ok (.ifCond .eq 8, 3) := by decide +kernel
theorem dX8_truer_24 : decode cX8_truer 24 = .ok (.iload_n 2, 1) := by decide +kernel
theorem dX8_truer_25 : decode cX8_truer 25 = .ok (.iload_n 3, 1) := by decide +kernel
theorem dX8_truer_26 : decode cX8_truer 26 = .ok (.if_icmp .ne 8, 3) := by decide +kernel
theorem dX8_truer_29 : decode cX8_truer 29 = .ok (.aload_n 0, 1) := by decide +kernel
theorem dX8_truer_30 : decode cX8_truer 30 = .ok (.invokevirtual 61, 3) := by decide +kernel
theorem dX8_truer_33 : decode cX8_truer 33 = .ok (.ireturn, 1) := by decide +kernel
theorem dX8_truer_34 : decode cX8_truer 34 = .ok (.aload_n 0, 1) := by decide +kernel
theorem dX8_truer_35 : decode cX8_truer 35 = .ok (.getfield 32, 3) := by decide +kernel
theorem dX8_truer_38 : decode cX8_truer 38 = .ok (.aload_n 0, 1) := by decide +kernel
theorem dX8_truer_39 : decode cX8_truer 39 = .ok (.getfield 10, 3) := by decide +kernel
theorem dX8_truer_42 : decode cX8_truer 42 = .ok (.iload_n 2, 1) := by decide +kernel
theorem dX8_truer_43 : decode cX8_truer 43 = .ok (.iconst 0, 1) := by decide +kernel
theorem dX8_truer_44 : decode cX8_truer 44 = .ok (.invokevirtual 123, 3) := by decide +kernel
theorem dX8_truer_47 : decode cX8_truer 47 = .ok (.aload_n 0, 1) := by decide +kernel
theorem dX8_truer_48 : decode cX8_truer 48 = .ok (.getfield 32, 3) := by decide +kernel
theorem dX8_truer_51 : decode cX8_truer 51 = .ok (.aload_n 0, 1) := by decide +kernel
theorem dX8_truer_52 : decode cX8_truer 52 = .ok (.getfield 10, 3) := by decide +kernel
theorem dX8_truer_55 : decode cX8_truer 55 = .ok (.iload_n 3, 1) := by decide +kernel
theorem dX8_truer_56 : decode cX8_truer 56 = .ok (.iconst 0, 1) := by decide +kernel
theorem dX8_truer_57 : decode cX8_truer 57 = .ok (.invokevirtual 123, 3) := by decide +kernel
theorem dX8_truer_60 : decode cX8_truer 60 = .ok (.aload_n 0, 1) := by decide +kernel
theorem dX8_truer_61 : decode cX8_truer 61 = .ok (.getfield 32, 3) := by decide +kernel
theorem dX8_truer_64 : decode cX8_truer 64 = .ok (.iload_n 1, 1) := by decide +kernel
theorem dX8_truer_65 : decode cX8_truer 65 = .ok (.iload_n 3, 1) := by decide +kernel
theorem dX8_truer_66 : decode cX8_truer 66 = .ok (.iload_n 2, 1) := by decide +kernel
theorem dX8_truer_67 : decode cX8_truer 67 = .ok (.invokevirtual 162, 3) := by decide +kernel
theorem dX8_truer_70 : decode cX8_truer 70 = .ok (.ifCond .eq 7, 3) := by decide +kernel
theorem dX8_truer_73 : decode cX8_truer 73 = .ok (.iload_n 3, 1) := by decide +kernel
theorem dX8_truer_74 : decode cX8_truer 74 = .ok (.goto 4, 3) := by decide +kernel
theorem dX8_truer_77 : decode cX8_truer 77 = .ok (.iload_n 2, 1) := by decide +kernel
theorem dX8_truer_78 : decode cX8_truer 78 = .ok (.ireturn, 1) := by decide +kernel
theorem dX8_serves_0 : decode cX8_serves 0 = .ok (.iload_n 1, 1) := by decide +kernel
theorem dX8_serves_1 : decode cX8_serves 1 = .ok (.aload_n 0, 1) := by decide +kernel
theorem dX8_serves_2 : decode cX8_serves 2 = .ok (.getfield 10, 3) := by decide +kernel
theorem dX8_serves_5 : decode cX8_serves 5 = .ok (.getfield 65, 3) := by decide +kernel
theorem dX8_serves_8 : decode cX8_serves 8 = .ok (.invokestatic 165, 3) := by decide +kernel
theorem dX8_serves_11 : decode cX8_serves 11 = .ok (.ifCond .eq 11, 3) := by decide +kernel
theorem dX8_serves_14 : decode cX8_serves 14 = .ok (.aload_n 0, 1) := by decide +kernel
theorem dX8_serves_15 : decode cX8_serves 15 = .ok (.iload_n 2, 1) := by decide +kernel
theorem dX8_serves_16 : decode cX8_serves 16 = .ok (.invokevirtual 98, 3) := by decide +kernel
theorem dX8_serves_19 : decode cX8_serves 19 = .ok (.ifCond .ne 8, 3) := by decide +kernel
theorem dX8_serves_22 : decode cX8_serves 22 = .ok (.aload_n 0, 1) := by decide +kernel
theorem dX8_serves_23 : decode cX8_serves 23 = .ok (.invokevirtual 61, 3) := by decide +kernel
theorem dX8_serves_26 : decode cX8_serves 26 = .ok (.ireturn, 1) := by decide +kernel
theorem dX8_serves_27 : decode cX8_serves 27 = .ok (.aload_n 0, 1) := by decide +kernel
theorem dX8_serves_28 : decode cX8_serves 28 = .ok (.getfield 32, 3) := by decide +kernel
theorem dX8_serves_31 : decode cX8_serves 31 = .ok (.aload_n 0, 1) := by decide +kernel
theorem dX8_serves_32 : decode cX8_serves 32 = .ok (.getfield 10, 3) := by decide +kernel
theorem dX8_serves_35 : decode cX8_serves 35 = .ok (.invokevirtual 155, 3) := by decide +kernel
theorem dX8_serves_38 : decode cX8_serves 38 = .ok (.aload_n 0, 1) := by decide +kernel
theorem dX8_serves_39 : decode cX8_serves 39 = .ok (.getfield 32, 3) := by decide +kernel
theorem dX8_serves_42 : decode cX8_serves 42 = .ok (.aload_n 0, 1) := by decide +kernel
theorem dX8_serves_43 : decode cX8_serves 43 = .ok (.getfield 10, 3) := by decide +kernel
theorem dX8_serves_46 : decode cX8_serves 46 = .ok (.iload_n 1, 1) := by decide +kernel
theorem dX8_serves_47 : decode cX8_serves 47 = .ok (.iload_n 2, 1) := by decide +kernel
theorem dX8_serves_48 : decode cX8_serves 48 = .ok (.invokevirtual 168, 3) := by decide +kernel
theorem dX8_serves_51 : decode cX8_serves 51 = .ok (.ireturn, 1) := by decide +kernel
theorem dX8_cupboard_0 : decode cX8_cupboard 0 = .ok (.iload_n 1, 1) := by decide +kernel
theorem dX8_cupboard_1 : decode cX8_cupboard 1 = .ok (.iconst 0, 1) := by decide +kernel
theorem dX8_cupboard_2 : decode cX8_cupboard 2 = .ok (.aload_n 0, 1) := by decide +kernel
theorem dX8_cupboard_3 : decode cX8_cupboard 3 = .ok (.getfield 10, 3) := by decide +kernel
theorem dX8_cupboard_6 : decode cX8_cupboard 6 = .ok (.getfield 65, 3) := by decide +kernel
theorem dX8_cupboard_9 : decode cX8_cupboard 9 = .ok (.invokestatic 57, 3) := by decide +kernel
theorem dX8_cupboard_12 : decode cX8_cupboard 12 = .ok (.ifCond .ne 8, 3) := by decide +kernel
theorem dX8_cupboard_15 : decode cX8_cupboard 15 = .ok (.aload_n 0, 1) := by decide +kernel
theorem dX8_cupboard_16 : decode cX8_cupboard 16 = .ok (.invokevirtual 61, 3) := by decide +kernel
theorem dX8_cupboard_19 : decode cX8_cupboard 19 = .ok (.ireturn, 1) := by decide +kernel
theorem dX8_cupboard_20 : decode cX8_cupboard 20 = .ok (.aload_n 0, 1) := by decide +kernel
theorem dX8_cupboard_21 : decode cX8_cupboard 21 = .ok (.getfield 32, 3) := by decide +kernel
theorem dX8_cupboard_24 : decode cX8_cupboard 24 = .ok (.aload_n 0, 1) := by decide +kernel
theorem dX8_cupboard_25 : decode cX8_cupboard 25 = .ok (.getfield 10, 3) := by decide +kernel
theorem dX8_cupboard_28 : decode cX8_cupboard 28 = .ok (.invokevirtual 155, 3) := by decide +kernel
theorem dX8_cupboard_31 : decode cX8_cupboard 31 = .ok (.aload_n 0, 1) := by decide +kernel
theorem dX8_cupboard_32 : decode cX8_cupboard 32 = .ok (.getfield 32, 3) := by decide +kernel
theorem dX8_cupboard_35 : decode cX8_cupboard 35 = .ok (.aload_n 0, 1) := by decide +kernel
theorem dX8_cupboard_36 : decode cX8_cupboard 36 = .ok (.getfield 10, 3) := by decide +kernel
theorem dX8_cupboard_39 : decode cX8_cupboard 39 = .ok (.iload_n 1, 1) := by decide +kernel
theorem dX8_cupboard_40 : decode cX8_cupboard 40 = .ok (.invokevirtual 172, 3) := by decide +kernel
theorem dX8_cupboard_43 : decode cX8_cupboard 43 = .ok (.ireturn, 1) := by decide +kernel
theorem dX8_words_0 : decode cX8_words 0 = .ok (.aload_n 0, 1) := by decide +kernel
theorem dX8_words_1 : decode cX8_words 1 = .ok (.getfield 32, 3) := by decide +kernel
theorem dX8_words_4 : decode cX8_words 4 = .ok (.aload_n 0, 1) := by decide +kernel
theorem dX8_words_5 : decode cX8_words 5 = .ok (.getfield 10, 3) := by decide +kernel
theorem dX8_words_8 : decode cX8_words 8 = .ok (.invokevirtual 155, 3) := by decide +kernel
theorem dX8_words_11 : decode cX8_words 11 = .ok (.aload_n 0, 1) := by decide +kernel
theorem dX8_words_12 : decode cX8_words 12 = .ok (.getfield 32, 3) := by decide +kernel
theorem dX8_words_15 : decode cX8_words 15 = .ok (.aload_n 0, 1) := by decide +kernel
theorem dX8_words_16 : decode cX8_words 16 = .ok (.getfield 10, 3) := by decide +kernel
theorem dX8_words_19 : decode cX8_words 19 = .ok (.invokevirtual 175, 3) := by decide +kernel
theorem dX8_words_22 : decode cX8_words 22 = .ok (.ireturn, 1) := by decide +kernel
theorem dX8_beast_0 : decode cX8_beast 0 = .ok (.aload_n 0, 1) := by decide +kernel
theorem dX8_beast_1 : decode cX8_beast 1 = .ok (.iload_n 1, 1) := by decide +kernel
theorem dX8_beast_2 : decode cX8_beast 2 = .ok (.invokevirtual 98, 3) := by decide +kernel
theorem dX8_beast_5 : decode cX8_beast 5 = .ok (.ifCond .ne 8, 3) := by decide +kernel
theorem dX8_beast_8 : decode cX8_beast 8 = .ok (.aload_n 0, 1) := by decide +kernel
theorem dX8_beast_9 : decode cX8_beast 9 = .ok (.invokevirtual 61, 3) := by decide +kernel
theorem dX8_beast_12 : decode cX8_beast 12 = .ok (.ireturn, 1) := by decide +kernel
theorem dX8_beast_13 : decode cX8_beast 13 = .ok (.aload_n 0, 1) := by decide +kernel
theorem dX8_beast_14 : decode cX8_beast 14 = .ok (.getfield 10, 3) := by decide +kernel
theorem dX8_beast_17 : decode cX8_beast 17 = .ok (.getfield 65, 3) := by decide +kernel
theorem dX8_beast_20 : decode cX8_beast 20 = .ok (.iconst 3, 1) := by decide +kernel
theorem dX8_beast_21 : decode cX8_beast 21 = .ok (.if_icmp .ge 8, 3) := by decide +kernel
theorem dX8_beast_24 : decode cX8_beast 24 = .ok (.aload_n 0, 1) := by decide +kernel
theorem dX8_beast_25 : decode cX8_beast 25 = .ok (.invokevirtual 141, 3) := by decide +kernel
theorem dX8_beast_28 : decode cX8_beast 28 = .ok (.ireturn, 1) := by decide +kernel
theorem dX8_beast_29 : decode cX8_beast 29 = .ok (.aload_n 0, 1) := by decide +kernel
theorem dX8_beast_30 : decode cX8_beast 30 = .ok (.getfield 32, 3) := by decide +kernel
theorem dX8_beast_33 : decode cX8_beast 33 = .ok (.aload_n 0, 1) := by decide +kernel
theorem dX8_beast_34 : decode cX8_beast 34 = .ok (.getfield 10, 3) := by decide +kernel
theorem dX8_beast_37 : decode cX8_beast 37 = .ok (.invokevirtual 155, 3) := by decide +kernel
theorem dX8_beast_40 : decode cX8_beast 40 = .ok (.aload_n 0, 1) := by decide +kernel
theorem dX8_beast_41 : decode cX8_beast 41 = .ok (.getfield 32, 3) := by decide +kernel
theorem dX8_beast_44 : decode cX8_beast 44 = .ok (.aload_n 0, 1) := by decide +kernel
theorem dX8_beast_45 : decode cX8_beast 45 = .ok (.getfield 10, 3) := by decide +kernel
theorem dX8_beast_48 : decode cX8_beast 48 = .ok (.iload_n 1, 1) := by decide +kernel
theorem dX8_beast_49 : decode cX8_beast 49 = .ok (.invokevirtual 179, 3) := by decide +kernel
theorem dX8_beast_52 : decode cX8_beast 52 = .ok (.ireturn, 1) := by decide +kernel
theorem dX8_type_0 : decode cX8_type 0 = .ok (.iload_n 3, 1) := by decide +kernel
theorem dX8_type_1 : decode cX8_type 1 = .ok (.iconst 1, 1) := by decide +kernel
theorem dX8_type_2 : decode cX8_type 2 = .ok (.bipush 8, 2) := by decide +kernel
theorem dX8_type_4 : decode cX8_type 4 = .ok (.invokestatic 57, 3) := by decide +kernel
theorem dX8_type_7 : decode cX8_type 7 = .ok (.ifCond .ne 8, 3) := by decide +kernel
theorem dX8_type_10 : decode cX8_type 10 = .ok (.aload_n 0, 1) := by decide +kernel
theorem dX8_type_11 : decode cX8_type 11 = .ok (.invokevirtual 61, 3) := by decide +kernel
theorem dX8_type_14 : decode cX8_type 14 = .ok (.ireturn, 1) := by decide +kernel
theorem dX8_type_15 : decode cX8_type 15 = .ok (.aload_n 0, 1) := by decide +kernel
theorem dX8_type_16 : decode cX8_type 16 = .ok (.getfield 10, 3) := by decide +kernel
theorem dX8_type_19 : decode cX8_type 19 = .ok (.getfield 182, 3) := by decide +kernel
theorem dX8_type_22 : decode cX8_type 22 = .ok (.iload_n 3, 1) := by decide +kernel
theorem dX8_type_23 : decode cX8_type 23 = .ok (.iadd, 1) := by decide +kernel
theorem dX8_type_24 : decode cX8_type 24 = .ok (.sipush 200, 3) := by decide +kernel
theorem dX8_type_27 : decode cX8_type 27 = .ok (.if_icmp .le 8, 3) := by decide +kernel
theorem dX8_type_30 : decode cX8_type 30 = .ok (.aload_n 0, 1) := by decide +kernel
theorem dX8_type_31 : decode cX8_type 31 = .ok (.invokevirtual 69, 3) := by decide +kernel
theorem dX8_type_34 : decode cX8_type 34 = .ok (.ireturn, 1) := by decide +kernel
theorem dX8_type_35 : decode cX8_type 35 = .ok (.aload_n 0, 1) := by decide +kernel
theorem dX8_type_36 : decode cX8_type 36 = .ok (.getfield 10, 3) := by decide +kernel
theorem dX8_type_39 : decode cX8_type 39 = .ok (.lload_n 1, 1) := by decide +kernel
theorem dX8_type_40 : decode cX8_type 40 = .ok (.iload_n 3, 1) := by decide +kernel
theorem dX8_type_41 : decode cX8_type 41 = .ok (.invokevirtual 185, 3) := by decide +kernel
theorem dX8_type_44 : decode cX8_type 44 = .ok (.ireturn, 1) := by decide +kernel
theorem dX8_clear_0 : decode cX8_clear 0 = .ok (.aload_n 0, 1) := by decide +kernel
theorem dX8_clear_1 : decode cX8_clear 1 = .ok (.getfield 10, 3) := by decide +kernel
theorem dX8_clear_4 : decode cX8_clear 4 = .ok (.getfield 182, 3) := by decide +kernel
theorem dX8_clear_7 : decode cX8_clear 7 = .ok (.istore_n 1, 1) := by decide +kernel
theorem dX8_clear_8 : decode cX8_clear 8 = .ok (.aload_n 0, 1) := by decide +kernel
theorem dX8_clear_9 : decode cX8_clear 9 = .ok (.getfield 10, 3) := by decide +kernel
theorem dX8_clear_12 : decode cX8_clear 12 = .ok (.iconst 0, 1) := by decide +kernel
theorem dX8_clear_13 : decode cX8_clear 13 = .ok (.putfield 182, 3) := by decide +kernel
theorem dX8_clear_16 : decode cX8_clear 16 = .ok (.iload_n 1, 1) := by decide +kernel
theorem dX8_clear_17 : decode cX8_clear 17 = .ok (.ireturn, 1) := by decide +kernel
theorem dX8_fault_0 : decode cX8_fault 0 = .ok (.aload_n 0, 1) := by decide +kernel
theorem dX8_fault_1 : decode cX8_fault 1 = .ok (.getfield 39, 3) := by decide +kernel
theorem dX8_fault_4 : decode cX8_fault 4 = .ok (.aload_n 0, 1) := by decide +kernel
theorem dX8_fault_5 : decode cX8_fault 5 = .ok (.getfield 10, 3) := by decide +kernel
theorem dX8_fault_8 : decode cX8_fault 8 = .ok (.invokevirtual 189, 3) := by decide +kernel
theorem dX8_fault_11 : decode cX8_fault 11 = .ok (.aload_n 0, 1) := by decide +kernel
theorem dX8_fault_12 : decode cX8_fault 12 = .ok (.getfield 39, 3) := by decide +kernel
theorem dX8_fault_15 : decode cX8_fault 15 = .ok (.getfield 192, 3) := by decide +kernel
theorem dX8_fault_18 : decode cX8_fault 18 = .ok (.ireturn, 1) := by decide +kernel
theorem dX8_places_0 : decode cX8_places 0 = .ok (.aload_n 0, 1) := by decide +kernel
theorem dX8_places_1 : decode cX8_places 1 = .ok (.invokevirtual 195, 3) := by decide +kernel
theorem dX8_places_4 : decode cX8_places 4 = .ok (.ifCond .eq 13, 3) := by decide +kernel
theorem dX8_places_7 : decode cX8_places 7 = .ok (.aload_n 0, 1) := by decide +kernel
theorem dX8_places_8 : decode cX8_places 8 = .ok (.getfield 39, 3) := by decide +kernel
theorem dX8_places_11 : decode cX8_places 11 = .ok (.getfield 199, 3) := by decide +kernel
theorem dX8_places_14 : decode cX8_places 14 = .ok (.goto 7, 3) := by decide +kernel
theorem dX8_places_17 : decode cX8_places 17 = .ok (.aload_n 0, 1) := by decide +kernel
theorem dX8_places_18 : decode cX8_places 18 = .ok (.invokevirtual 141, 3) := by decide +kernel
theorem dX8_places_21 : decode cX8_places 21 = .ok (.ireturn, 1) := by decide +kernel
theorem dX8_hidden_0 : decode cX8_hidden 0 = .ok (.aload_n 0, 1) := by decide +kernel
theorem dX8_hidden_1 : decode cX8_hidden 1 = .ok (.invokevirtual 195, 3) := by decide +kernel
theorem dX8_hidden_4 : decode cX8_hidden 4 = .ok (.ifCond .ne 8, 3) := by decide +kernel
theorem dX8_hidden_7 : decode cX8_hidden 7 = .ok (.aload_n 0, 1) := by decide +kernel
theorem dX8_hidden_8 : decode cX8_hidden 8 = .ok (.invokevirtual 141, 3) := by decide +kernel
theorem dX8_hidden_11 : decode cX8_hidden 11 = .ok (.ireturn, 1) := by decide +kernel
theorem dX8_hidden_12 : decode cX8_hidden 12 = .ok (.iload_n 1, 1) := by decide +kernel
theorem dX8_hidden_13 : decode cX8_hidden 13 = .ok (.iconst 0, 1) := by decide +kernel
theorem dX8_hidden_14 : decode cX8_hidden 14 = .ok (.aload_n 0, 1) := by decide +kernel
theorem dX8_hidden_15 : decode cX8_hidden 15 = .ok (.getfield 39, 3) := by decide +kernel
theorem dX8_hidden_18 : decode cX8_hidden 18 = .ok (.getfield 199, 3) := by decide +kernel
theorem dX8_hidden_21 : decode cX8_hidden 21 = .ok (.iconst 1, 1) := by decide +kernel
theorem dX8_hidden_22 : decode cX8_hidden 22 = .ok (.isub, 1) := by decide +kernel
theorem dX8_hidden_23 : decode cX8_hidden 23 = .ok (.invokestatic 57, 3) := by decide +kernel
theorem dX8_hidden_26 : decode cX8_hidden 26 = .ok (.ifCond .eq 17, 3) := by decide +kernel
theorem dX8_hidden_29 : decode cX8_hidden 29 = .ok (.iload_n 2, 1) := by decide +kernel
theorem dX8_hidden_30 : decode cX8_hidden 30 = .ok (.aload_n 0, 1) := by decide +kernel
theorem dX8_hidden_31 : decode cX8_hidden 31 = .ok (.getfield 39, 3) := by decide +kernel
theorem dX8_hidden_34 : decode cX8_hidden 34 = .ok (.getfield 199, 3) := by decide +kernel
theorem dX8_hidden_37 : decode cX8_hidden 37 = .ok (.invokestatic 165, 3) := by decide +kernel
theorem dX8_hidden_40 : decode cX8_hidden 40 = .ok (.ifCond .ne 8, 3) := by decide +kernel
theorem dX8_hidden_43 : decode cX8_hidden 43 = .ok (.aload_n 0, 1) := by decide +kernel
theorem dX8_hidden_44 : decode cX8_hidden 44 = .ok (.invokevirtual 61, 3) := by decide +kernel
theorem dX8_hidden_47 : decode cX8_hidden 47 = .ok (.ireturn, 1) := by decide +kernel
theorem dX8_hidden_48 : decode cX8_hidden 48 = .ok (.aload_n 0, 1) := by decide +kernel
theorem dX8_hidden_49 : decode cX8_hidden 49 = .ok (.getfield 46, 3) := by decide +kernel
theorem dX8_hidden_52 : decode cX8_hidden 52 = .ok (.aload_n 0, 1) := by decide +kernel
theorem dX8_hidden_53 : decode cX8_hidden 53 = .ok (.getfield 10, 3) := by decide +kernel
theorem dX8_hidden_56 : decode cX8_hidden 56 = .ok (.aload_n 0, 1) := by decide +kernel
theorem dX8_hidden_57 : decode cX8_hidden 57 = .ok (.getfield 39, 3) := by decide +kernel
theorem dX8_hidden_60 : decode cX8_hidden 60 = .ok (.invokevirtual 202, 3) := by decide +kernel
theorem dX8_hidden_63 : decode cX8_hidden 63 = .ok (.aload_n 0, 1) := by decide +kernel
theorem dX8_hidden_64 : decode cX8_hidden 64 = .ok (.getfield 46, 3) := by decide +kernel
theorem dX8_hidden_67 : decode cX8_hidden 67 = .ok (.iload_n 1, 1) := by decide +kernel
theorem dX8_hidden_68 : decode cX8_hidden 68 = .ok (.iload_n 2, 1) := by decide +kernel
theorem dX8_hidden_69 : decode cX8_hidden 69 = .ok (.invokevirtual 206, 3) := by decide +kernel
theorem dX8_hidden_72 : decode cX8_hidden 72 = .ok (.ifCond .eq 7, 3) := by decide +kernel
theorem dX8_hidden_75 : decode cX8_hidden 75 = .ok (.iconst 1, 1) := by decide +kernel
theorem dX8_hidden_76 : decode cX8_hidden 76 = .ok (.goto 4, 3) := by decide +kernel
theorem dX8_hidden_79 : decode cX8_hidden 79 = .ok (.iconst 0, 1) := by decide +kernel
theorem dX8_hidden_80 : decode cX8_hidden 80 = .ok (.ireturn, 1) := by decide +kernel
theorem dX8_unheard_0 : decode cX8_unheard 0 = .ok (.aload_n 0, 1) := by decide +kernel
theorem dX8_unheard_1 : decode cX8_unheard 1 = .ok (.invokevirtual 195, 3) := by decide +kernel
theorem dX8_unheard_4 : decode cX8_unheard 4 = .ok (.ifCond .ne 8, 3) := by decide +kernel
theorem dX8_unheard_7 : decode cX8_unheard 7 = .ok (.aload_n 0, 1) := by decide +kernel
theorem dX8_unheard_8 : decode cX8_unheard 8 = .ok (.invokevirtual 141, 3) := by decide +kernel
theorem dX8_unheard_11 : decode cX8_unheard 11 = .ok (.ireturn, 1) := by decide +kernel
theorem dX8_unheard_12 : decode cX8_unheard 12 = .ok (.aload_n 0, 1) := by decide +kernel
theorem dX8_unheard_13 : decode cX8_unheard 13 = .ok (.getfield 46, 3) := by decide +kernel
theorem dX8_unheard_16 : decode cX8_unheard 16 = .ok (.aload_n 0, 1) := by decide +kernel
theorem dX8_unheard_17 : decode cX8_unheard 17 = .ok (.getfield 10, 3) := by decide +kernel
theorem dX8_unheard_20 : decode cX8_unheard 20 = .ok (.aload_n 0, 1) := by decide +kernel
theorem dX8_unheard_21 : decode cX8_unheard 21 = .ok (.getfield 39, 3) := by decide +kernel
theorem dX8_unheard_24 : decode cX8_unheard 24 = .ok (.invokevirtual 202, 3) := by decide +kernel
theorem dX8_unheard_27 : decode cX8_unheard 27 = .ok (.aload_n 0, 1) := by decide +kernel
theorem dX8_unheard_28 : decode cX8_unheard 28 = .ok (.getfield 46, 3) := by decide +kernel
theorem dX8_unheard_31 : decode cX8_unheard 31 = .ok (.invokevirtual 209, 3) := by decide +kernel
theorem dX8_unheard_34 : decode cX8_unheard 34 = .ok (.ireturn, 1) := by decide +kernel
theorem dX8_kept_0 : decode cX8_kept 0 = .ok (.aload_n 0, 1) := by decide +kernel
theorem dX8_kept_1 : decode cX8_kept 1 = .ok (.invokevirtual 195, 3) := by decide +kernel
theorem dX8_kept_4 : decode cX8_kept 4 = .ok (.ifCond .ne 8, 3) := by decide +kernel
theorem dX8_kept_7 : decode cX8_kept 7 = .ok (.aload_n 0, 1) := by decide +kernel
theorem dX8_kept_8 : decode cX8_kept 8 = .ok (.invokevirtual 141, 3) := by decide +kernel
theorem dX8_kept_11 : decode cX8_kept 11 = .ok (.ireturn, 1) := by decide +kernel
theorem dX8_kept_12 : decode cX8_kept 12 = .ok (.aload_n 0, 1) := by decide +kernel
theorem dX8_kept_13 : decode cX8_kept 13 = .ok (.getfield 46, 3) := by decide +kernel
theorem dX8_kept_16 : decode cX8_kept 16 = .ok (.aload_n 0, 1) := by decide +kernel
theorem dX8_kept_17 : decode cX8_kept 17 = .ok (.getfield 10, 3) := by decide +kernel
theorem dX8_kept_20 : decode cX8_kept 20 = .ok (.aload_n 0, 1) := by decide +kernel
theorem dX8_kept_21 : decode cX8_kept 21 = .ok (.getfield 39, 3) := by decide +kernel
theorem dX8_kept_24 : decode cX8_kept 24 = .ok (.invokevirtual 202, 3) := by decide +kernel
theorem dX8_kept_27 : decode cX8_kept 27 = .ok (.aload_n 0, 1) := by decide +kernel
theorem dX8_kept_28 : decode cX8_kept 28 = .ok (.getfield 46, 3) := by decide +kernel
theorem dX8_kept_31 : decode cX8_kept 31 = .ok (.invokevirtual 212, 3) := by decide +kernel
theorem dX8_kept_34 : decode cX8_kept 34 = .ok (.ireturn, 1) := by decide +kernel
theorem dX8_order_0 : decode cX8_order 0 = .ok (.aload_n 0, 1) := by decide +kernel
theorem dX8_order_1 : decode cX8_order 1 = .ok (.invokevirtual 195, 3) := by decide +kernel
theorem dX8_order_4 : decode cX8_order 4 = .ok (.ifCond .ne 8, 3) := by decide +kernel
theorem dX8_order_7 : decode cX8_order 7 = .ok (.aload_n 0, 1) := by decide +kernel
theorem dX8_order_8 : decode cX8_order 8 = .ok (.invokevirtual 141, 3) := by decide +kernel
theorem dX8_order_11 : decode cX8_order 11 = .ok (.ireturn, 1) := by decide +kernel
theorem dX8_order_12 : decode cX8_order 12 = .ok (.iload_n 1, 1) := by decide +kernel
theorem dX8_order_13 : decode cX8_order 13 = .ok (.iconst (-1), 1) := by decide +kernel
theorem dX8_order_14 : decode cX8_order 14 = .ok (.if_icmp .ge 8, 3) := by decide +kernel
theorem dX8_order_17 : decode cX8_order 17 = .ok (.aload_n 0, 1) := by decide +kernel
theorem dX8_order_18 : decode cX8_order 18 = .ok (.invokevirtual 61, 3) := by decide +kernel
theorem dX8_order_21 : decode cX8_order 21 = .ok (.ireturn, 1) := by decide +kernel
theorem dX8_order_22 : decode cX8_order 22 = .ok (.iload_n 1, 1) := by decide +kernel
theorem dX8_order_23 : decode cX8_order 23 = .ok (.aload_n 0, 1) := by decide +kernel
theorem dX8_order_24 : decode cX8_order 24 = .ok (.getfield 39, 3) := by decide +kernel
theorem dX8_order_27 : decode cX8_order 27 = .ok (.getfield 199, 3) := by decide +kernel
theorem dX8_order_30 : decode cX8_order 30 = .ok (.if_icmp .lt 6, 3) := by decide +kernel
theorem dX8_order_33 : decode cX8_order 33 = .ok (.bipush (-5), 2) := by decide +kernel
theorem dX8_order_35 : decode cX8_order 35 = .ok (.ireturn, 1) := by decide +kernel
theorem dX8_order_36 : decode cX8_order 36 = .ok (.aload_n 0, 1) := by decide +kernel
theorem dX8_order_37 : decode cX8_order 37 = .ok (.getfield 53, 3) := by decide +kernel
theorem dX8_order_40 : decode cX8_order 40 = .ok (.aload_n 0, 1) := by decide +kernel
theorem dX8_order_41 : decode cX8_order 41 = .ok (.getfield 10, 3) := by decide +kernel
theorem dX8_order_44 : decode cX8_order 44 = .ok (.aload_n 0, 1) := by decide +kernel
theorem dX8_order_45 : decode cX8_order 45 = .ok (.getfield 39, 3) := by decide +kernel
theorem dX8_order_48 : decode cX8_order 48 = .ok (.invokevirtual 215, 3) := by decide +kernel
theorem dX8_order_51 : decode cX8_order 51 = .ok (.iload_n 1, 1) := by decide +kernel
theorem dX8_order_52 : decode cX8_order 52 = .ok (.iconst (-1), 1) := by decide +kernel
theorem dX8_order_53 : decode cX8_order 53 = .ok (.if_icmp .ne 20, 3) := by decide +kernel
theorem dX8_order_56 : decode cX8_order 56 = .ok (.aload_n 0, 1) := by decide +kernel
theorem dX8_order_57 : decode cX8_order 57 = .ok (.getfield 53, 3) := by decide +kernel
theorem dX8_order_60 : decode cX8_order 60 = .ok (.aload_n 0, 1) := by decide +kernel
theorem dX8_order_61 : decode cX8_order 61 = .ok (.getfield 53, 3) := by decide +kernel
theorem dX8_order_64 : decode cX8_order 64 = .ok (.invokevirtual 218, 3) := by decide +kernel
theorem dX8_order_67 : decode cX8_order 67 = .ok (.invokevirtual 221, 3) := by decide +kernel
theorem dX8_order_70 : decode cX8_order 70 = .ok (.goto 11, 3) := by decide +kernel
theorem dX8_order_73 : decode cX8_order 73 = .ok (.aload_n 0, 1) := by decide +kernel
theorem dX8_order_74 : decode cX8_order 74 = .ok (.getfield 53, 3) := by decide +kernel
theorem dX8_order_77 : decode cX8_order 77 = .ok (.iload_n 1, 1) := by decide +kernel
theorem dX8_order_78 : decode cX8_order 78 = .ok (.invokevirtual 224, 3) := by decide +kernel
theorem dX8_order_81 : decode cX8_order 81 = .ok (.ireturn, 1) := by decide +kernel
theorem dX8_hands_0 : decode cX8_hands 0 = .ok (.aload_n 0, 1) := by decide +kernel
theorem dX8_hands_1 : decode cX8_hands 1 = .ok (.invokevirtual 195, 3) := by decide +kernel
theorem dX8_hands_4 : decode cX8_hands 4 = .ok (.ifCond .ne 8, 3) := by decide +kernel
theorem dX8_hands_7 : decode cX8_hands 7 = .ok (.aload_n 0, 1) := by decide +kernel
theorem dX8_hands_8 : decode cX8_hands 8 = .ok (.invokevirtual 141, 3) := by decide +kernel
theorem dX8_hands_11 : decode cX8_hands 11 = .ok (.ireturn, 1) := by decide +kernel
theorem dX8_hands_12 : decode cX8_hands 12 = .ok (.iload_n 1, 1) := by decide +kernel
theorem dX8_hands_13 : decode cX8_hands 13 = .ok (.iconst 0, 1) := by decide +kernel
theorem dX8_hands_14 : decode cX8_hands 14 = .ok (.iconst 1, 1) := by decide +kernel
theorem dX8_hands_15 : decode cX8_hands 15 = .ok (.invokestatic 57, 3) := by decide +kernel
theorem dX8_hands_18 : decode cX8_hands 18 = .ok (.ifCond .ne 8, 3) := by decide +kernel
theorem dX8_hands_21 : decode cX8_hands 21 = .ok (.aload_n 0, 1) := by decide +kernel
theorem dX8_hands_22 : decode cX8_hands 22 = .ok (.invokevirtual 61, 3) := by decide +kernel
theorem dX8_hands_25 : decode cX8_hands 25 = .ok (.ireturn, 1) := by decide +kernel
theorem dX8_hands_26 : decode cX8_hands 26 = .ok (.aload_n 0, 1) := by decide +kernel
theorem dX8_hands_27 : decode cX8_hands 27 = .ok (.getfield 53, 3) := by decide +kernel
theorem dX8_hands_30 : decode cX8_hands 30 = .ok (.aload_n 0, 1) := by decide +kernel
theorem dX8_hands_31 : decode cX8_hands 31 = .ok (.getfield 10, 3) := by decide +kernel
theorem dX8_hands_34 : decode cX8_hands 34 = .ok (.aload_n 0, 1) := by decide +kernel
theorem dX8_hands_35 : decode cX8_hands 35 = .ok (.getfield 39, 3) := by decide +kernel
theorem dX8_hands_38 : decode cX8_hands 38 = .ok (.invokevirtual 215, 3) := by decide +kernel
theorem dX8_hands_41 : decode cX8_hands 41 = .ok (.aload_n 0, 1) := by decide +kernel
theorem dX8_hands_42 : decode cX8_hands 42 = .ok (.getfield 53, 3) := by decide +kernel
theorem dX8_hands_45 : decode cX8_hands 45 = .ok (.invokevirtual 227, 3) := by decide +kernel
theorem dX8_hands_48 : decode cX8_hands 48 = .ok (.istore_n 2, 1) := by decide +kernel
theorem dX8_hands_49 : decode cX8_hands 49 = .ok (.iload_n 1, 1) := by decide +kernel
theorem dX8_hands_50 : decode cX8_hands 50 = .ok (.iconst 1, 1) := by decide +kernel
theorem dX8_hands_51 : decode cX8_hands 51 = .ok (.if_icmp .ne 7, 3) := by decide +kernel
theorem dX8_hands_54 : decode cX8_hands 54 = .ok (.iload_n 2, 1) := by decide +kernel
theorem dX8_hands_55 : decode cX8_hands 55 = .ok (.goto 11, 3) := by decide +kernel
theorem dX8_hands_58 : decode cX8_hands 58 = .ok (.aload_n 0, 1) := by decide +kernel
theorem dX8_hands_59 : decode cX8_hands 59 = .ok (.getfield 53, 3) := by decide +kernel
theorem dX8_hands_62 : decode cX8_hands 62 = .ok (.iload_n 2, 1) := by decide +kernel
theorem dX8_hands_63 : decode cX8_hands 63 = .ok (.invokevirtual 230, 3) := by decide +kernel
theorem dX8_hands_66 : decode cX8_hands 66 = .ok (.ireturn, 1) := by decide +kernel
theorem dX8_lag_0 : decode cX8_lag 0 = .ok (.iload_n 1, 1) := by decide +kernel
theorem dX8_lag_1 : decode cX8_lag 1 = .ok (.iload_n 2, 1) := by decide +kernel
theorem dX8_lag_2 : decode cX8_lag 2 = .ok (.iload_n 3, 1) := by decide +kernel
theorem dX8_lag_3 : decode cX8_lag 3 = .ok (.iload 4, 2) := by decide +kernel
theorem dX8_lag_5 : decode cX8_lag 5 = .ok (.invokestatic 233, 3) := by decide +kernel
theorem dX8_lag_8 : decode cX8_lag 8 = .ok (.ifCond .eq 14, 3) := by decide +kernel
theorem dX8_lag_11 : decode cX8_lag 11 = .ok (.iload 5, 2) := by decide +kernel
theorem dX8_lag_13 : decode cX8_lag 13 = .ok (.iconst 0, 1) := by decide +kernel
theorem dX8_lag_14 : decode cX8_lag 14 = .ok (.bipush 39, 2) := by decide +kernel
theorem dX8_lag_16 : decode cX8_lag 16 = .ok (.invokestatic 57, 3) := by decide +kernel
theorem dX8_lag_19 : decode cX8_lag 19 = .ok (.ifCond .ne 8, 3) := by decide +kernel
theorem dX8_lag_22 : decode cX8_lag 22 = .ok (.aload_n 0, 1) := by decide +kernel
theorem dX8_lag_23 : decode cX8_lag 23 = .ok (.invokevirtual 61, 3) := by decide +kernel
theorem dX8_lag_26 : decode cX8_lag 26 = .ok (.ireturn, 1) := by decide +kernel
theorem dX8_lag_27 : decode cX8_lag 27 = .ok (.iload_n 1, 1) := by decide +kernel
theorem dX8_lag_28 : decode cX8_lag 28 = .ok (.istore 6, 2) := by decide +kernel
theorem dX8_lag_30 : decode cX8_lag 30 = .ok (.iconst 0, 1) := by decide +kernel
theorem dX8_lag_31 : decode cX8_lag 31 = .ok (.istore 7, 2) := by decide +kernel
theorem dX8_lag_33 : decode cX8_lag 33 = .ok (.iload 7, 2) := by decide +kernel
theorem dX8_lag_35 : decode cX8_lag 35 = .ok (.iload 5, 2) := by decide +kernel
theorem dX8_lag_37 : decode cX8_lag 37 = .ok (.if_icmp .ge 22, 3) := by decide +kernel
theorem dX8_lag_40 : decode cX8_lag 40 = .ok (.iload 6, 2) := by decide +kernel
theorem dX8_lag_42 : decode cX8_lag 42 = .ok (.iload_n 2, 1) := by decide +kernel
theorem dX8_lag_43 : decode cX8_lag 43 = .ok (.iload_n 3, 1) := by decide +kernel
theorem dX8_lag_44 : decode cX8_lag 44 = .ok (.iload 4, 2) := by decide +kernel
theorem dX8_lag_46 : decode cX8_lag 46 = .ok (.iload 7, 2) := by decide +kernel
theorem dX8_lag_48 : decode cX8_lag 48 = .ok (.invokestatic 237, 3) := by decide +kernel
theorem dX8_lag_51 : decode cX8_lag 51 = .ok (.istore 6, 2) := by decide +kernel
theorem dX8_lag_53 : decode cX8_lag 53 = .ok (.iinc 7 1, 3) := by decide +kernel
theorem dX8_lag_56 : decode cX8_lag 56 = .ok (.goto (-23), 3) := by decide +kernel
theorem dX8_lag_59 : decode cX8_lag 59 = .ok (.iload 6, 2) := by decide +kernel
theorem dX8_lag_61 : decode cX8_lag 61 = .ok (.ireturn, 1) := by decide +kernel
theorem dX8_mended_0 : decode cX8_mended 0 = .ok (.iload_n 1, 1) := by decide +kernel
theorem dX8_mended_1 : decode cX8_mended 1 = .ok (.iload_n 2, 1) := by decide +kernel
theorem dX8_mended_2 : decode cX8_mended 2 = .ok (.iload_n 3, 1) := by decide +kernel
theorem dX8_mended_3 : decode cX8_mended 3 = .ok (.iload 4, 2) := by decide +kernel
theorem dX8_mended_5 : decode cX8_mended 5 = .ok (.invokestatic 233, 3) := by decide +kernel
theorem dX8_mended_8 : decode cX8_mended 8 = .ok (.ifCond .eq 25, 3) := by decide +kernel
theorem dX8_mended_11 : decode cX8_mended 11 = .ok (.iload 5, 2) := by decide +kernel
theorem dX8_mended_13 : decode cX8_mended 13 = .ok (.iconst 1, 1) := by decide +kernel
theorem dX8_mended_14 : decode cX8_mended 14 = .ok (.bipush 40, 2) := by decide +kernel
theorem dX8_mended_16 : decode cX8_mended 16 = .ok (.invokestatic 57, 3) := by decide +kernel
theorem dX8_mended_19 : decode cX8_mended 19 = .ok (.ifCond .eq 14, 3) := by decide +kernel
theorem dX8_mended_22 : decode cX8_mended 22 = .ok (.iload 6, 2) := by decide +kernel
theorem dX8_mended_24 : decode cX8_mended 24 = .ok (.iconst 0, 1) := by decide +kernel
theorem dX8_mended_25 : decode cX8_mended 25 = .ok (.bipush 99, 2) := by decide +kernel
theorem dX8_mended_27 : decode cX8_mended 27 = .ok (.invokestatic 57, 3) := by decide +kernel
theorem dX8_mended_30 : decode cX8_mended 30 = .ok (.ifCond .ne 8, 3) := by decide +kernel
theorem dX8_mended_33 : decode cX8_mended 33 = .ok (.aload_n 0, 1) := by decide +kernel
theorem dX8_mended_34 : decode cX8_mended 34 = .ok (.invokevirtual 61, 3) := by decide +kernel
theorem dX8_mended_37 : decode cX8_mended 37 = .ok (.ireturn, 1) := by decide +kernel
theorem dX8_mended_38 : decode cX8_mended 38 = .ok (.iload_n 1, 1) := by decide +kernel
theorem dX8_mended_39 : decode cX8_mended 39 = .ok (.istore 7, 2) := by decide +kernel
theorem dX8_mended_41 : decode cX8_mended 41 = .ok (.iconst 0, 1) := by decide +kernel
theorem dX8_mended_42 : decode cX8_mended 42 = .ok (.istore 8, 2) := by decide +kernel
theorem dX8_mended_44 : decode cX8_mended 44 = .ok (.iconst 0, 1) := by decide +kernel
theorem dX8_mended_45 : decode cX8_mended 45 = .ok (.istore 9, 2) := by decide +kernel
theorem dX8_mended_47 : decode cX8_mended 47 = .ok (.iload 9, 2) := by decide +kernel
theorem dX8_mended_49 : decode cX8_mended 49 = .ok (.iload 5, 2) := by decide +kernel
theorem dX8_mended_51 : decode cX8_mended 51 = .ok (.if_icmp .ge 32, 3) := by decide +kernel
theorem dX8_mended_54 : decode cX8_mended 54 = .ok (.iload 7, 2) := by decide +kernel
theorem dX8_mended_56 : decode cX8_mended 56 = .ok (.iload 6, 2) := by decide +kernel
theorem dX8_mended_58 : decode cX8_mended 58 = .ok (.if_icmp .le 6, 3) := by decide +kernel
theorem dX8_mended_61 : decode cX8_mended 61 = .ok (.iinc 8 1, 3) := by decide +kernel
theorem dX8_mended_64 : decode cX8_mended 64 = .ok (.iload 7, 2) := by decide +kernel
theorem dX8_mended_66 : decode cX8_mended 66 = .ok (.iload_n 2, 1) := by decide +kernel
theorem dX8_mended_67 : decode cX8_mended 67 = .ok (.iload_n 3, 1) := by decide +kernel
theorem dX8_mended_68 : decode cX8_mended 68 = .ok (.iload 4, 2) := by decide +kernel
theorem dX8_mended_70 : decode cX8_mended 70 = .ok (.iload 9, 2) := by decide +kernel
theorem dX8_mended_72 : decode cX8_mended 72 = .ok (.invokestatic 237, 3) := by decide +kernel
theorem dX8_mended_75 : decode cX8_mended 75 = .ok (.istore 7, 2) := by decide +kernel
theorem dX8_mended_77 : decode cX8_mended 77 = .ok (.iinc 9 1, 3) := by decide +kernel
theorem dX8_mended_80 : decode cX8_mended 80 = .ok (.goto (-33), 3) := by decide +kernel
theorem dX8_mended_83 : decode cX8_mended 83 = .ok (.iload 8, 2) := by decide +kernel
theorem dX8_mended_85 : decode cX8_mended 85 = .ok (.ireturn, 1) := by decide +kernel
theorem dX8_steady_0 : decode cX8_steady 0 = .ok (.iload_n 1, 1) := by decide +kernel
theorem dX8_steady_1 : decode cX8_steady 1 = .ok (.iload_n 2, 1) := by decide +kernel
theorem dX8_steady_2 : decode cX8_steady 2 = .ok (.iload_n 3, 1) := by decide +kernel
theorem dX8_steady_3 : decode cX8_steady 3 = .ok (.iload 4, 2) := by decide +kernel
theorem dX8_steady_5 : decode cX8_steady 5 = .ok (.invokestatic 233, 3) := by decide +kernel
theorem dX8_steady_8 : decode cX8_steady 8 = .ok (.ifCond .eq 14, 3) := by decide +kernel
theorem dX8_steady_11 : decode cX8_steady 11 = .ok (.iload 5, 2) := by decide +kernel
theorem dX8_steady_13 : decode cX8_steady 13 = .ok (.iconst 0, 1) := by decide +kernel
theorem dX8_steady_14 : decode cX8_steady 14 = .ok (.bipush 99, 2) := by decide +kernel
theorem dX8_steady_16 : decode cX8_steady 16 = .ok (.invokestatic 57, 3) := by decide +kernel
theorem dX8_steady_19 : decode cX8_steady 19 = .ok (.ifCond .ne 8, 3) := by decide +kernel
theorem dX8_steady_22 : decode cX8_steady 22 = .ok (.aload_n 0, 1) := by decide +kernel
theorem dX8_steady_23 : decode cX8_steady 23 = .ok (.invokevirtual 61, 3) := by decide +kernel
theorem dX8_steady_26 : decode cX8_steady 26 = .ok (.ireturn, 1) := by decide +kernel
theorem dX8_steady_27 : decode cX8_steady 27 = .ok (.iload_n 1, 1) := by decide +kernel
theorem dX8_steady_28 : decode cX8_steady 28 = .ok (.istore 6, 2) := by decide +kernel
theorem dX8_steady_30 : decode cX8_steady 30 = .ok (.iconst 0, 1) := by decide +kernel
theorem dX8_steady_31 : decode cX8_steady 31 = .ok (.istore 7, 2) := by decide +kernel
theorem dX8_steady_33 : decode cX8_steady 33 = .ok (.iconst 0, 1) := by decide +kernel
theorem dX8_steady_34 : decode cX8_steady 34 = .ok (.istore 8, 2) := by decide +kernel
theorem dX8_steady_36 : decode cX8_steady 36 = .ok (.iload 8, 2) := by decide +kernel
theorem dX8_steady_38 : decode cX8_steady 38 = .ok (.bipush 40, 2) := by decide +kernel
theorem dX8_steady_40 : decode cX8_steady 40 = .ok (.if_icmp .ge 35, 3) := by decide +kernel
theorem dX8_steady_43 : decode cX8_steady 43 = .ok (.iload 6, 2) := by decide +kernel
theorem dX8_steady_45 : decode cX8_steady 45 = .ok (.iload 5, 2) := by decide +kernel
theorem dX8_steady_47 : decode cX8_steady 47 = .ok (.if_icmp .le 9, 3) := by decide +kernel
theorem dX8_steady_50 : decode cX8_steady 50 = .ok (.iload 8, 2) := by decide +kernel
theorem dX8_steady_52 : decode cX8_steady 52 = .ok (.iconst 1, 1) := by decide +kernel
theorem dX8_steady_53 : decode cX8_steady 53 = .ok (.iadd, 1) := by decide +kernel
theorem dX8_steady_54 : decode cX8_steady 54 = .ok (.istore 7, 2) := by decide +kernel
theorem dX8_steady_56 : decode cX8_steady 56 = .ok (.iload 6, 2) := by decide +kernel
theorem dX8_steady_58 : decode cX8_steady 58 = .ok (.iload_n 2, 1) := by decide +kernel
theorem dX8_steady_59 : decode cX8_steady 59 = .ok (.iload_n 3, 1) := by decide +kernel
theorem dX8_steady_60 : decode cX8_steady 60 = .ok (.iload 4, 2) := by decide +kernel
theorem dX8_steady_62 : decode cX8_steady 62 = .ok (.iload 8, 2) := by decide +kernel
theorem dX8_steady_64 : decode cX8_steady 64 = .ok (.invokestatic 237, 3) := by decide +kernel
theorem dX8_steady_67 : decode cX8_steady 67 = .ok (.istore 6, 2) := by decide +kernel
theorem dX8_steady_69 : decode cX8_steady 69 = .ok (.iinc 8 1, 3) := by decide +kernel
theorem dX8_steady_72 : decode cX8_steady 72 = .ok (.goto (-36), 3) := by decide +kernel
theorem dX8_steady_75 : decode cX8_steady 75 = .ok (.iload 7, 2) := by decide +kernel
theorem dX8_steady_77 : decode cX8_steady 77 = .ok (.bipush 40, 2) := by decide +kernel
theorem dX8_steady_79 : decode cX8_steady 79 = .ok (.if_icmp .ge 8, 3) := by decide +kernel
theorem dX8_steady_82 : decode cX8_steady 82 = .ok (.iload 7, 2) := by decide +kernel
theorem dX8_steady_84 : decode cX8_steady 84 = .ok (.goto 4, 3) := by decide +kernel
theorem dX8_steady_87 : decode cX8_steady 87 = .ok (.iconst (-1), 1) := by decide +kernel
theorem dX8_steady_88 : decode cX8_steady 88 = .ok (.ireturn, 1) := by decide +kernel
theorem dX8_house_0 : decode cX8_house 0 = .ok (.aload_n 0, 1) := by decide +kernel
theorem dX8_house_1 : decode cX8_house 1 = .ok (.getfield 10, 3) := by decide +kernel
theorem dX8_house_4 : decode cX8_house 4 = .ok (.getfield 241, 3) := by decide +kernel
theorem dX8_house_7 : decode cX8_house 7 = .ok (.iconst 4, 1) := by decide +kernel
theorem dX8_house_8 : decode cX8_house 8 = .ok (.if_icmp .lt 8, 3) := by decide +kernel
theorem dX8_house_11 : decode cX8_house 11 = .ok (.aload_n 0, 1) := by decide +kernel
theorem dX8_house_12 : decode cX8_house 12 = .ok (.invokevirtual 69, 3) := by decide +kernel
theorem dX8_house_15 : decode cX8_house 15 = .ok (.ireturn, 1) := by decide +kernel
theorem dX8_house_16 : decode cX8_house 16 = .ok (.aload_n 0, 1) := by decide +kernel
theorem dX8_house_17 : decode cX8_house 17 = .ok (.getfield 10, 3) := by decide +kernel
theorem dX8_house_20 : decode cX8_house 20 = .ok (.invokevirtual 244, 3) := by decide +kernel
theorem dX8_house_23 : decode cX8_house 23 = .ok (.ireturn, 1) := by decide +kernel
theorem dX8_habit_0 : decode cX8_habit 0 = .ok (.aload_n 0, 1) := by decide +kernel
theorem dX8_habit_1 : decode cX8_habit 1 = .ok (.iload_n 1, 1) := by decide +kernel
theorem dX8_habit_2 : decode cX8_habit 2 = .ok (.invokevirtual 247, 3) := by decide +kernel
theorem dX8_habit_5 : decode cX8_habit 5 = .ok (.ifCond .eq 23, 3) := by decide +kernel
theorem dX8_habit_8 : decode cX8_habit 8 = .ok (.iload_n 2, 1) := by decide +kernel
theorem dX8_habit_9 : decode cX8_habit 9 = .ok (.iconst 0, 1) := by decide +kernel
theorem dX8_habit_10 : decode cX8_habit 10 = .ok (.bipush 9, 2) := by decide +kernel
theorem dX8_habit_12 : decode cX8_habit 12 = .ok (.invokestatic 57, 3) := by decide +kernel
theorem dX8_habit_15 : decode cX8_habit 15 = .ok (.ifCond .eq 13, 3) := by decide +kernel
theorem dX8_habit_18 : decode cX8_habit 18 = .ok (.iload_n 3, 1) := by decide +kernel
theorem dX8_habit_19 : decode cX8_habit 19 = .ok (.iconst 0, 1) := by decide +kernel
theorem dX8_habit_20 : decode cX8_habit 20 = .ok (.bipush 9, 2) := by decide +kernel
theorem dX8_habit_22 : decode cX8_habit 22 = .ok (.invokestatic 57, 3) := by decide +kernel
theorem dX8_habit_25 : decode cX8_habit 25 = .ok (.ifCond .ne 8, 3) := by decide +kernel
theorem dX8_habit_28 : decode cX8_habit 28 = .ok (.aload_n 0, 1) := by decide +kernel
theorem dX8_habit_29 : decode cX8_habit 29 = .ok (.invokevirtual 61, 3) := by decide +kernel
theorem dX8_habit_32 : decode cX8_habit 32 = .ok (.ireturn, 1) := by decide +kernel
theorem dX8_habit_33 : decode cX8_habit 33 = .ok (.aload_n 0, 1) := by decide +kernel
theorem dX8_habit_34 : decode cX8_habit 34 = .ok (.getfield 10, 3) := by decide +kernel
theorem dX8_habit_37 : decode cX8_habit 37 = .ok (.getfield 250, 3) := by decide +kernel
theorem dX8_habit_40 : decode cX8_habit 40 = .ok (.iload_n 1, 1) := by decide +kernel
theorem dX8_habit_41 : decode cX8_habit 41 = .ok (.bipush 10, 2) := by decide +kernel
theorem dX8_habit_43 : decode cX8_habit 43 = .ok (.imul, 1) := by decide +kernel
theorem dX8_habit_44 : decode cX8_habit 44 = .ok (.iload_n 2, 1) := by decide +kernel
theorem dX8_habit_45 : decode cX8_habit 45 = .ok (.iadd, 1) := by decide +kernel
theorem dX8_habit_46 : decode cX8_habit 46 = .ok (.iload_n 3, 1) := by decide +kernel
theorem dX8_habit_47 : decode cX8_habit 47 = .ok (.invokestatic 87, 3) := by decide +kernel
theorem dX8_habit_50 : decode cX8_habit 50 = .ok (.ireturn, 1) := by decide +kernel
theorem dX8_see_0 : decode cX8_see 0 = .ok (.iload_n 1, 1) := by decide +kernel
theorem dX8_see_1 : decode cX8_see 1 = .ok (.iconst 0, 1) := by decide +kernel
theorem dX8_see_2 : decode cX8_see 2 = .ok (.bipush 9, 2) := by decide +kernel
theorem dX8_see_4 : decode cX8_see 4 = .ok (.invokestatic 57, 3) := by decide +kernel
theorem dX8_see_7 : decode cX8_see 7 = .ok (.ifCond .ne 8, 3) := by decide +kernel
theorem dX8_see_10 : decode cX8_see 10 = .ok (.aload_n 0, 1) := by decide +kernel
theorem dX8_see_11 : decode cX8_see 11 = .ok (.invokevirtual 61, 3) := by decide +kernel
theorem dX8_see_14 : decode cX8_see 14 = .ok (.ireturn, 1) := by decide +kernel
theorem dX8_see_15 : decode cX8_see 15 = .ok (.aload_n 0, 1) := by decide +kernel
theorem dX8_see_16 : decode cX8_see 16 = .ok (.getfield 10, 3) := by decide +kernel
theorem dX8_see_19 : decode cX8_see 19 = .ok (.getfield 253, 3) := by decide +kernel
theorem dX8_see_22 : decode cX8_see 22 = .ok (.bipush 8, 2) := by decide +kernel
theorem dX8_see_24 : decode cX8_see 24 = .ok (.if_icmp .lt 8, 3) := by decide +kernel
theorem dX8_see_27 : decode cX8_see 27 = .ok (.aload_n 0, 1) := by decide +kernel
theorem dX8_see_28 : decode cX8_see 28 = .ok (.invokevirtual 69, 3) := by decide +kernel
theorem dX8_see_31 : decode cX8_see 31 = .ok (.ireturn, 1) := by decide +kernel
theorem dX8_see_32 : decode cX8_see 32 = .ok (.aload_n 0, 1) := by decide +kernel
theorem dX8_see_33 : decode cX8_see 33 = .ok (.getfield 10, 3) := by decide +kernel
theorem dX8_see_36 : decode cX8_see 36 = .ok (.iload_n 1, 1) := by decide +kernel
theorem dX8_see_37 : decode cX8_see 37 = .ok (.invokevirtual 256, 3) := by decide +kernel
theorem dX8_see_40 : decode cX8_see 40 = .ok (.ireturn, 1) := by decide +kernel
theorem dX8_forget_0 : decode cX8_forget 0 = .ok (.aload_n 0, 1) := by decide +kernel
theorem dX8_forget_1 : decode cX8_forget 1 = .ok (.getfield 10, 3) := by decide +kernel
theorem dX8_forget_4 : decode cX8_forget 4 = .ok (.getfield 253, 3) := by decide +kernel
theorem dX8_forget_7 : decode cX8_forget 7 = .ok (.istore_n 1, 1) := by decide +kernel
theorem dX8_forget_8 : decode cX8_forget 8 = .ok (.aload_n 0, 1) := by decide +kernel
theorem dX8_forget_9 : decode cX8_forget 9 = .ok (.getfield 10, 3) := by decide +kernel
theorem dX8_forget_12 : decode cX8_forget 12 = .ok (.iconst 0, 1) := by decide +kernel
theorem dX8_forget_13 : decode cX8_forget 13 = .ok (.putfield 253, 3) := by decide +kernel
theorem dX8_forget_16 : decode cX8_forget 16 = .ok (.iload_n 1, 1) := by decide +kernel
theorem dX8_forget_17 : decode cX8_forget 17 = .ok (.ireturn, 1) := by decide +kernel
theorem dX8_whose_0 : decode cX8_whose 0 = .ok (.aload_n 0, 1) := by decide +kernel
theorem dX8_whose_1 : decode cX8_whose 1 = .ok (.iload_n 1, 1) := by decide +kernel
theorem dX8_whose_2 : decode cX8_whose 2 = .ok (.invokevirtual 247, 3) := by decide +kernel
theorem dX8_whose_5 : decode cX8_whose 5 = .ok (.ifCond .ne 8, 3) := by decide +kernel
theorem dX8_whose_8 : decode cX8_whose 8 = .ok (.aload_n 0, 1) := by decide +kernel
theorem dX8_whose_9 : decode cX8_whose 9 = .ok (.invokevirtual 61, 3) := by decide +kernel
theorem dX8_whose_12 : decode cX8_whose 12 = .ok (.ireturn, 1) := by decide +kernel
theorem dX8_whose_13 : decode cX8_whose 13 = .ok (.aload_n 0, 1) := by decide +kernel
theorem dX8_whose_14 : decode cX8_whose 14 = .ok (.getfield 10, 3) := by decide +kernel
theorem dX8_whose_17 : decode cX8_whose 17 = .ok (.invokevirtual 259, 3) := by decide +kernel
theorem dX8_whose_20 : decode cX8_whose 20 = .ok (.ifCond .ne 8, 3) := by decide +kernel
theorem dX8_whose_23 : decode cX8_whose 23 = .ok (.aload_n 0, 1) := by decide +kernel
theorem dX8_whose_24 : decode cX8_whose 24 = .ok (.invokevirtual 141, 3) := by decide +kernel
theorem dX8_whose_27 : decode cX8_whose 27 = .ok (.ireturn, 1) := by decide +kernel
theorem dX8_whose_28 : decode cX8_whose 28 = .ok (.aload_n 0, 1) := by decide +kernel
theorem dX8_whose_29 : decode cX8_whose 29 = .ok (.getfield 25, 3) := by decide +kernel
theorem dX8_whose_32 : decode cX8_whose 32 = .ok (.aload_n 0, 1) := by decide +kernel
theorem dX8_whose_33 : decode cX8_whose 33 = .ok (.getfield 10, 3) := by decide +kernel
theorem dX8_whose_36 : decode cX8_whose 36 = .ok (.iload_n 1, 1) := by decide +kernel
theorem dX8_whose_37 : decode cX8_whose 37 = .ok (.invokevirtual 262, 3) := by decide +kernel
theorem dX8_whose_40 : decode cX8_whose 40 = .ok (.iconst 1, 1) := by decide +kernel
theorem dX8_whose_41 : decode cX8_whose 41 = .ok (.ireturn, 1) := by decide +kernel
theorem dX8_sign_0 : decode cX8_sign 0 = .ok (.iload_n 1, 1) := by decide +kernel
theorem dX8_sign_1 : decode cX8_sign 1 = .ok (.iconst 0, 1) := by decide +kernel
theorem dX8_sign_2 : decode cX8_sign 2 = .ok (.iconst 2, 1) := by decide +kernel
theorem dX8_sign_3 : decode cX8_sign 3 = .ok (.invokestatic 57, 3) := by decide +kernel
theorem dX8_sign_6 : decode cX8_sign 6 = .ok (.ifCond .ne 8, 3) := by decide +kernel
theorem dX8_sign_9 : decode cX8_sign 9 = .ok (.aload_n 0, 1) := by decide +kernel
theorem dX8_sign_10 : decode cX8_sign 10 = .ok (.invokevirtual 61, 3) := by decide +kernel
theorem dX8_sign_13 : decode cX8_sign 13 = .ok (.ireturn, 1) := by decide +kernel
theorem dX8_sign_14 : decode cX8_sign 14 = .ok (.iload_n 1, 1) := by decide +kernel
theorem dX8_sign_15 : decode cX8_sign 15 = .ok (.ifCond .ne 22, 3) := by decide +kernel
theorem dX8_sign_18 : decode cX8_sign 18 = .ok (.aload_n 0, 1) := by decide +kernel
theorem dX8_sign_19 : decode cX8_sign 19 = .ok (.getfield 25, 3) := by decide +kernel
theorem dX8_sign_22 : decode cX8_sign 22 = .ok (.getfield 266, 3) := by decide +kernel
theorem dX8_sign_25 : decode cX8_sign 25 = .ok (.getfield 270, 3) := by decide +kernel
theorem dX8_sign_28 : decode cX8_sign 28 = .ok (.ifCond .le 7, 3) := by decide +kernel
theorem dX8_sign_31 : decode cX8_sign 31 = .ok (.iconst 1, 1) := by decide +kernel
theorem dX8_sign_32 : decode cX8_sign 32 = .ok (.goto 4, 3) := by decide +kernel
theorem dX8_sign_35 : decode cX8_sign 35 = .ok (.iconst 0, 1) := by decide +kernel
theorem dX8_sign_36 : decode cX8_sign 36 = .ok (.ireturn, 1) := by decide +kernel
theorem dX8_sign_37 : decode cX8_sign 37 = .ok (.iload_n 1, 1) := by decide +kernel
theorem dX8_sign_38 : decode cX8_sign 38 = .ok (.iconst 1, 1) := by decide +kernel
theorem dX8_sign_39 : decode cX8_sign 39 = .ok (.if_icmp .ne 16, 3) := by decide +kernel
theorem dX8_sign_42 : decode cX8_sign 42 = .ok (.aload_n 0, 1) := by decide +kernel
theorem dX8_sign_43 : decode cX8_sign 43 = .ok (.getfield 25, 3) := by decide +kernel
theorem dX8_sign_46 : decode cX8_sign 46 = .ok (.getfield 266, 3) := by decide +kernel
theorem dX8_sign_49 : decode cX8_sign 49 = .ok (.getfield 270, 3) := by decide +kernel
theorem dX8_sign_52 : decode cX8_sign 52 = .ok (.goto 13, 3) := by decide +kernel
theorem dX8_sign_55 : decode cX8_sign 55 = .ok (.aload_n 0, 1) := by decide +kernel
theorem dX8_sign_56 : decode cX8_sign 56 = .ok (.getfield 25, 3) := by decide +kernel
theorem dX8_sign_59 : decode cX8_sign 59 = .ok (.getfield 275, 3) := by decide +kernel
theorem dX8_sign_62 : decode cX8_sign 62 = .ok (.getfield 270, 3) := by decide +kernel
theorem dX8_sign_65 : decode cX8_sign 65 = .ok (.ireturn, 1) := by decide +kernel
theorem dX8_limb_0 : decode cX8_limb 0 = .ok (.iload_n 1, 1) := by decide +kernel
theorem dX8_limb_1 : decode cX8_limb 1 = .ok (.iconst 0, 1) := by decide +kernel
theorem dX8_limb_2 : decode cX8_limb 2 = .ok (.iconst 1, 1) := by decide +kernel
theorem dX8_limb_3 : decode cX8_limb 3 = .ok (.invokestatic 57, 3) := by decide +kernel
theorem dX8_limb_6 : decode cX8_limb 6 = .ok (.ifCond .eq 7, 3) := by decide +kernel
theorem dX8_limb_9 : decode cX8_limb 9 = .ok (.iload_n 2, 1) := by decide +kernel
theorem dX8_limb_10 : decode cX8_limb 10 = .ok (.ifCond .ge 8, 3) := by decide +kernel
theorem dX8_limb_13 : decode cX8_limb 13 = .ok (.aload_n 0, 1) := by decide +kernel
theorem dX8_limb_14 : decode cX8_limb 14 = .ok (.invokevirtual 61, 3) := by decide +kernel
theorem dX8_limb_17 : decode cX8_limb 17 = .ok (.ireturn, 1) := by decide +kernel
theorem dX8_limb_18 : decode cX8_limb 18 = .ok (.iload_n 1, 1) := by decide +kernel
theorem dX8_limb_19 : decode cX8_limb 19 = .ok (.ifCond .ne 13, 3) := by decide +kernel
theorem dX8_limb_22 : decode cX8_limb 22 = .ok (.aload_n 0, 1) := by decide +kernel
theorem dX8_limb_23 : decode cX8_limb 23 = .ok (.getfield 25, 3) := by decide +kernel
theorem dX8_limb_26 : decode cX8_limb 26 = .ok (.getfield 266, 3) := by decide +kernel
theorem dX8_limb_29 : decode cX8_limb 29 = .ok (.goto 10, 3) := by decide +kernel
theorem dX8_limb_32 : decode cX8_limb 32 = .ok (.aload_n 0, 1) := by decide +kernel
theorem dX8_limb_33 : decode cX8_limb 33 = .ok (.getfield 25, 3) := by decide +kernel
theorem dX8_limb_36 : decode cX8_limb 36 = .ok (.getfield 275, 3) := by decide +kernel
theorem dX8_limb_39 : decode cX8_limb 39 = .ok (.astore_n 3, 1) := by decide +kernel
theorem dX8_limb_40 : decode cX8_limb 40 = .ok (.iload_n 2, 1) := by decide +kernel
theorem dX8_limb_41 : decode cX8_limb 41 = .ok (.aload_n 3, 1) := by decide +kernel
theorem dX8_limb_42 : decode cX8_limb 42 = .ok (.getfield 270, 3) := by decide +kernel
theorem dX8_limb_45 : decode cX8_limb 45 = .ok (.if_icmp .ge 14, 3) := by decide +kernel
theorem dX8_limb_48 : decode cX8_limb 48 = .ok (.aload_n 3, 1) := by decide +kernel
theorem dX8_limb_49 : decode cX8_limb 49 = .ok (.getfield 278, 3) := by decide +kernel
theorem dX8_limb_52 : decode cX8_limb 52 = .ok (.iload_n 2, 1) := by decide +kernel
theorem dX8_limb_53 : decode cX8_limb 53 = .ok (.invokestatic 281, 3) := by decide +kernel
theorem dX8_limb_56 : decode cX8_limb 56 = .ok (.goto 4, 3) := by decide +kernel
theorem dX8_limb_59 : decode cX8_limb 59 = .ok (.iconst (-1), 1) := by decide +kernel
theorem dX8_limb_60 : decode cX8_limb 60 = .ok (.ireturn, 1) := by decide +kernel
theorem dX8_image_0 : decode cX8_image 0 = .ok (.iload_n 1, 1) := by decide +kernel
theorem dX8_image_1 : decode cX8_image 1 = .ok (.iconst 0, 1) := by decide +kernel
theorem dX8_image_2 : decode cX8_image 2 = .ok (.iconst 1, 1) := by decide +kernel
theorem dX8_image_3 : decode cX8_image 3 = .ok (.invokestatic 57, 3) := by decide +kernel
theorem dX8_image_6 : decode cX8_image 6 = .ok (.ifCond .ne 8, 3) := by decide +kernel
theorem dX8_image_9 : decode cX8_image 9 = .ok (.aload_n 0, 1) := by decide +kernel
theorem dX8_image_10 : decode cX8_image 10 = .ok (.invokevirtual 61, 3) := by decide +kernel
theorem dX8_image_13 : decode cX8_image 13 = .ok (.ireturn, 1) := by decide +kernel
theorem dX8_image_14 : decode cX8_image 14 = .ok (.iload_n 1, 1) := by decide +kernel
theorem dX8_image_15 : decode cX8_image 15 = .ok (.ifCond .ne 22, 3) := by decide +kernel
theorem dX8_image_18 : decode cX8_image 18 = .ok (.aload_n 0, 1) := by decide +kernel
theorem dX8_image_19 : decode cX8_image 19 = .ok (.getfield 16, 3) := by decide +kernel
theorem dX8_image_22 : decode cX8_image 22 = .ok (.aload_n 0, 1) := by decide +kernel
theorem dX8_image_23 : decode cX8_image 23 = .ok (.getfield 10, 3) := by decide +kernel
theorem dX8_image_26 : decode cX8_image 26 = .ok (.invokevirtual 285, 3) := by decide +kernel
theorem dX8_image_29 : decode cX8_image 29 = .ok (.aload_n 0, 1) := by decide +kernel
theorem dX8_image_30 : decode cX8_image 30 = .ok (.iconst 1, 1) := by decide +kernel
theorem dX8_image_31 : decode cX8_image 31 = .ok (.putfield 288, 3) := by decide +kernel
theorem dX8_image_34 : decode cX8_image 34 = .ok (.goto 19, 3) := by decide +kernel
theorem dX8_image_37 : decode cX8_image 37 = .ok (.aload_n 0, 1) := by decide +kernel
theorem dX8_image_38 : decode cX8_image 38 = .ok (.getfield 19, 3) := by decide +kernel
theorem dX8_image_41 : decode cX8_image 41 = .ok (.aload_n 0, 1) := by decide +kernel
theorem dX8_image_42 : decode cX8_image 42 = .ok (.getfield 10, 3) := by decide +kernel
theorem dX8_image_45 : decode cX8_image 45 = .ok (.invokevirtual 285, 3) := by decide +kernel
theorem dX8_image_48 : decode cX8_image 48 = .ok (.aload_n 0, 1) := by decide +kernel
theorem dX8_image_49 : decode cX8_image 49 = .ok (.iconst 1, 1) := by decide +kernel
theorem dX8_image_50 : decode cX8_image 50 = .ok (.putfield 292, 3) := by decide +kernel
theorem dX8_image_53 : decode cX8_image 53 = .ok (.iconst 1, 1) := by decide +kernel
theorem dX8_image_54 : decode cX8_image 54 = .ok (.ireturn, 1) := by decide +kernel
theorem dX8_from_0 : decode cX8_from 0 = .ok (.iload_n 1, 1) := by decide +kernel
theorem dX8_from_1 : decode cX8_from 1 = .ok (.iconst 0, 1) := by decide +kernel
theorem dX8_from_2 : decode cX8_from 2 = .ok (.iconst 1, 1) := by decide +kernel
theorem dX8_from_3 : decode cX8_from 3 = .ok (.invokestatic 57, 3) := by decide +kernel
theorem dX8_from_6 : decode cX8_from 6 = .ok (.ifCond .ne 8, 3) := by decide +kernel
theorem dX8_from_9 : decode cX8_from 9 = .ok (.aload_n 0, 1) := by decide +kernel
theorem dX8_from_10 : decode cX8_from 10 = .ok (.invokevirtual 61, 3) := by decide +kernel
theorem dX8_from_13 : decode cX8_from 13 = .ok (.ireturn, 1) := by decide +kernel
theorem dX8_from_14 : decode cX8_from 14 = .ok (.iload_n 1, 1) := by decide +kernel
theorem dX8_from_15 : decode cX8_from 15 = .ok (.ifCond .ne 13, 3) := by decide +kernel
theorem dX8_from_18 : decode cX8_from 18 = .ok (.aload_n 0, 1) := by decide +kernel
theorem dX8_from_19 : decode cX8_from 19 = .ok (.getfield 288, 3) := by decide +kernel
theorem dX8_from_22 : decode cX8_from 22 = .ok (.ifCond .ne 18, 3) := by decide +kernel
theorem dX8_from_25 : decode cX8_from 25 = .ok (.goto 10, 3) := by decide +kernel
theorem dX8_from_28 : decode cX8_from 28 = .ok (.aload_n 0, 1) := by decide +kernel
theorem dX8_from_29 : decode cX8_from 29 = .ok (.getfield 292, 3) := by decide +kernel
theorem dX8_from_32 : decode cX8_from 32 = .ok (.ifCond .ne 8, 3) := by decide +kernel
theorem dX8_from_35 : decode cX8_from 35 = .ok (.aload_n 0, 1) := by decide +kernel
theorem dX8_from_36 : decode cX8_from 36 = .ok (.invokevirtual 141, 3) := by decide +kernel
theorem dX8_from_39 : decode cX8_from 39 = .ok (.ireturn, 1) := by decide +kernel
theorem dX8_from_40 : decode cX8_from 40 = .ok (.aload_n 0, 1) := by decide +kernel
theorem dX8_from_41 : decode cX8_from 41 = .ok (.getfield 10, 3) := by decide +kernel
theorem dX8_from_44 : decode cX8_from 44 = .ok (.iload_n 1, 1) := by decide +kernel
theorem dX8_from_45 : decode cX8_from 45 = .ok (.ifCond .ne 10, 3) := by decide +kernel
theorem dX8_from_48 : decode cX8_from 48 = .ok (.aload_n 0, 1) := by decide +kernel
theorem dX8_from_49 : decode cX8_from 49 = .ok (.getfield 16, 3) := by decide +kernel
theorem dX8_from_52 : decode cX8_from 52 = .ok (.goto 7, 3) := by decide +kernel
theorem dX8_from_55 : decode cX8_from 55 = .ok (.aload_n 0, 1) := by decide +kernel
theorem dX8_from_56 : decode cX8_from 56 = .ok (.getfield 19, 3) := by decide +kernel
theorem dX8_from_59 : decode cX8_from 59 = .ok (.invokevirtual 285, 3) := by decide +kernel
theorem dX8_from_62 : decode cX8_from 62 = .ok (.iconst 1, 1) := by decide +kernel
theorem dX8_from_63 : decode cX8_from 63 = .ok (.ireturn, 1) := by decide +kernel
theorem dX8_status_0 : decode cX8_status 0 = .ok (.iload_n 1, 1) := by decide +kernel
theorem dX8_status_1 : decode cX8_status 1 = .ok (.tableswitch 42 0 2 #[27, 32, 37], 27) := by decide +kernel
theorem dX8_status_28 : decode cX8_status 28 = .ok (.aload_n 0, 1) := by decide +kernel
theorem dX8_status_29 : decode cX8_status 29 = .ok (.getfield 295, 3) := by decide +kernel
theorem dX8_status_32 : decode cX8_status 32 = .ok (.ireturn, 1) := by decide +kernel
theorem dX8_status_33 : decode cX8_status 33 = .ok (.aload_n 0, 1) := by decide +kernel
theorem dX8_status_34 : decode cX8_status 34 = .ok (.getfield 298, 3) := by decide +kernel
theorem dX8_status_37 : decode cX8_status 37 = .ok (.ireturn, 1) := by decide +kernel
theorem dX8_status_38 : decode cX8_status 38 = .ok (.aload_n 0, 1) := by decide +kernel
theorem dX8_status_39 : decode cX8_status 39 = .ok (.getfield 301, 3) := by decide +kernel
theorem dX8_status_42 : decode cX8_status 42 = .ok (.ireturn, 1) := by decide +kernel
theorem dX8_status_43 : decode cX8_status 43 = .ok (.aload_n 0, 1) := by decide +kernel
theorem dX8_status_44 : decode cX8_status 44 = .ok (.invokevirtual 61, 3) := by decide +kernel
theorem dX8_status_47 : decode cX8_status 47 = .ok (.pop, 1) := by decide +kernel
theorem dX8_status_48 : decode cX8_status 48 = .ok (.iconst (-1), 1) := by decide +kernel
theorem dX8_status_49 : decode cX8_status 49 = .ok (.ireturn, 1) := by decide +kernel
theorem dX8_count_0 : decode cX8_count 0 = .ok (.iload_n 1, 1) := by decide +kernel
theorem dX8_count_1 : decode cX8_count 1 = .ok (.tableswitch 75 0 4 #[35, 43, 51, 59, 67], 35) := by decide +kernel
theorem dX8_count_36 : decode cX8_count 36 = .ok (.aload_n 0, 1) := by decide +kernel
theorem dX8_count_37 : decode cX8_count 37 = .ok (.getfield 10, 3) := by decide +kernel
theorem dX8_count_40 : decode cX8_count 40 = .ok (.getfield 65, 3) := by decide +kernel
theorem dX8_count_43 : decode cX8_count 43 = .ok (.ireturn, 1) := by decide +kernel
theorem dX8_count_44 : decode cX8_count 44 = .ok (.aload_n 0, 1) := by decide +kernel
theorem dX8_count_45 : decode cX8_count 45 = .ok (.getfield 10, 3) := by decide +kernel
theorem dX8_count_48 : decode cX8_count 48 = .ok (.getfield 91, 3) := by decide +kernel
theorem dX8_count_51 : decode cX8_count 51 = .ok (.ireturn, 1) := by decide +kernel
theorem dX8_count_52 : decode cX8_count 52 = .ok (.aload_n 0, 1) := by decide +kernel
theorem dX8_count_53 : decode cX8_count 53 = .ok (.getfield 10, 3) := by decide +kernel
theorem dX8_count_56 : decode cX8_count 56 = .ok (.getfield 182, 3) := by decide +kernel
theorem dX8_count_59 : decode cX8_count 59 = .ok (.ireturn, 1) := by decide +kernel
theorem dX8_count_60 : decode cX8_count 60 = .ok (.aload_n 0, 1) := by decide +kernel
theorem dX8_count_61 : decode cX8_count 61 = .ok (.getfield 10, 3) := by decide +kernel
theorem dX8_count_64 : decode cX8_count 64 = .ok (.getfield 241, 3) := by decide +kernel
theorem dX8_count_67 : decode cX8_count 67 = .ok (.ireturn, 1) := by decide +kernel
theorem dX8_count_68 : decode cX8_count 68 = .ok (.aload_n 0, 1) := by decide +kernel
theorem dX8_count_69 : decode cX8_count 69 = .ok (.getfield 10, 3) := by decide +kernel
theorem dX8_count_72 : decode cX8_count 72 = .ok (.getfield 253, 3) := by decide +kernel
theorem dX8_count_75 : decode cX8_count 75 = .ok (.ireturn, 1) := by decide +kernel
theorem dX8_count_76 : decode cX8_count 76 = .ok (.aload_n 0, 1) := by decide +kernel
theorem dX8_count_77 : decode cX8_count 77 = .ok (.invokevirtual 61, 3) := by decide +kernel
theorem dX8_count_80 : decode cX8_count 80 = .ok (.ireturn, 1) := by decide +kernel
theorem dX8_digest_0 : decode cX8_digest 0 = .ok (.aload_n 0, 1) := by decide +kernel
theorem dX8_digest_1 : decode cX8_digest 1 = .ok (.getfield 25, 3) := by decide +kernel
theorem dX8_digest_4 : decode cX8_digest 4 = .ok (.aload_n 0, 1) := by decide +kernel
theorem dX8_digest_5 : decode cX8_digest 5 = .ok (.getfield 10, 3) := by decide +kernel
theorem dX8_digest_8 : decode cX8_digest 8 = .ok (.ldc2_w 304, 3) := by decide +kernel
theorem dX8_digest_11 : decode cX8_digest 11 = .ok (.invokevirtual 306, 3) := by decide +kernel
theorem dX8_digest_14 : decode cX8_digest 14 = .ok (.invokevirtual 310, 3) := by decide +kernel
theorem dX8_digest_17 : decode cX8_digest 17 = .ok (.lreturn, 1) := by decide +kernel
theorem dX8_refuseBad_0 : decode cX8_refuseBad 0 = .ok (.aload_n 0, 1) := by decide +kernel
theorem dX8_refuseBad_1 : decode cX8_refuseBad 1 = .ok (.dup, 1) := by decide +kernel
theorem dX8_refuseBad_2 : decode cX8_refuseBad 2 = .ok (.getfield 295, 3) := by decide +kernel
theorem dX8_refuseBad_5 : decode cX8_refuseBad 5 = .ok (.iconst 1, 1) := by decide +kernel
theorem dX8_refuseBad_6 : decode cX8_refuseBad 6 = .ok (.iadd, 1) := by decide +kernel
theorem dX8_refuseBad_7 : decode cX8_refuseBad 7 = .ok (.putfield 295, 3) := by decide +kernel
theorem dX8_refuseBad_10 : decode cX8_refuseBad 10 = .ok (.bipush (-2), 2) := by decide +kernel
theorem dX8_refuseBad_12 : decode cX8_refuseBad 12 = .ok (.ireturn, 1) := by decide +kernel
theorem dX8_refuseNo_0 : decode cX8_refuseNo 0 = .ok (.aload_n 0, 1) := by decide +kernel
theorem dX8_refuseNo_1 : decode cX8_refuseNo 1 = .ok (.dup, 1) := by decide +kernel
theorem dX8_refuseNo_2 : decode cX8_refuseNo 2 = .ok (.getfield 298, 3) := by decide +kernel
theorem dX8_refuseNo_5 : decode cX8_refuseNo 5 = .ok (.iconst 1, 1) := by decide +kernel
theorem dX8_refuseNo_6 : decode cX8_refuseNo 6 = .ok (.iadd, 1) := by decide +kernel
theorem dX8_refuseNo_7 : decode cX8_refuseNo 7 = .ok (.putfield 298, 3) := by decide +kernel
theorem dX8_refuseNo_10 : decode cX8_refuseNo 10 = .ok (.bipush (-3), 2) := by decide +kernel
theorem dX8_refuseNo_12 : decode cX8_refuseNo 12 = .ok (.ireturn, 1) := by decide +kernel
theorem dX8_refuseFull_0 : decode cX8_refuseFull 0 = .ok (.aload_n 0, 1) := by decide +kernel
theorem dX8_refuseFull_1 : decode cX8_refuseFull 1 = .ok (.dup, 1) := by decide +kernel
theorem dX8_refuseFull_2 : decode cX8_refuseFull 2 = .ok (.getfield 301, 3) := by decide +kernel
theorem dX8_refuseFull_5 : decode cX8_refuseFull 5 = .ok (.iconst 1, 1) := by decide +kernel
theorem dX8_refuseFull_6 : decode cX8_refuseFull 6 = .ok (.iadd, 1) := by decide +kernel
theorem dX8_refuseFull_7 : decode cX8_refuseFull 7 = .ok (.putfield 301, 3) := by decide +kernel
theorem dX8_refuseFull_10 : decode cX8_refuseFull 10 = .ok (.bipush (-4), 2) := by decide +kernel
theorem dX8_refuseFull_12 : decode cX8_refuseFull 12 = .ok (.ireturn, 1) := by decide +kernel
theorem dX8_fits_0 : decode cX8_fits 0 = .ok (.iload_n 0, 1) := by decide +kernel
theorem dX8_fits_1 : decode cX8_fits 1 = .ok (.iload_n 1, 1) := by decide +kernel
theorem dX8_fits_2 : decode cX8_fits 2 = .ok (.if_icmp .lt 12, 3) := by decide +kernel
theorem dX8_fits_5 : decode cX8_fits 5 = .ok (.iload_n 0, 1) := by decide +kernel
theorem dX8_fits_6 : decode cX8_fits 6 = .ok (.iload_n 2, 1) := by decide +kernel
theorem dX8_fits_7 : decode cX8_fits 7 = .ok (.if_icmp .gt 7, 3) := by decide +kernel
theorem dX8_fits_10 : decode cX8_fits 10 = .ok (.iconst 1, 1) := by decide +kernel
theorem dX8_fits_11 : decode cX8_fits 11 = .ok (.goto 4, 3) := by decide +kernel
theorem dX8_fits_14 : decode cX8_fits 14 = .ok (.iconst 0, 1) := by decide +kernel
theorem dX8_fits_15 : decode cX8_fits 15 = .ok (.ireturn, 1) := by decide +kernel
theorem dX8_areBits_0 : decode cX8_areBits 0 = .ok (.iload_n 0, 1) := by decide +kernel
theorem dX8_areBits_1 : decode cX8_areBits 1 = .ok (.ifCond .lt 14, 3) := by decide +kernel
theorem dX8_areBits_4 : decode cX8_areBits 4 = .ok (.iload_n 0, 1) := by decide +kernel
theorem dX8_areBits_5 : decode cX8_areBits 5 = .ok (.iconst 1, 1) := by decide +kernel
theorem dX8_areBits_6 : decode cX8_areBits 6 = .ok (.iload_n 1, 1) := by decide +kernel
theorem dX8_areBits_7 : decode cX8_areBits 7 = .ok (.ishl, 1) := by decide +kernel
theorem dX8_areBits_8 : decode cX8_areBits 8 = .ok (.if_icmp .ge 7, 3) := by decide +kernel
theorem dX8_areBits_11 : decode cX8_areBits 11 = .ok (.iconst 1, 1) := by decide +kernel
theorem dX8_areBits_12 : decode cX8_areBits 12 = .ok (.goto 4, 3) := by decide +kernel
theorem dX8_areBits_15 : decode cX8_areBits 15 = .ok (.iconst 0, 1) := by decide +kernel
theorem dX8_areBits_16 : decode cX8_areBits 16 = .ok (.ireturn, 1) := by decide +kernel
theorem dX8_isBand_0 : decode cX8_isBand 0 = .ok (.iload_n 0, 1) := by decide +kernel
theorem dX8_isBand_1 : decode cX8_isBand 1 = .ok (.iconst 0, 1) := by decide +kernel
theorem dX8_isBand_2 : decode cX8_isBand 2 = .ok (.iconst 5, 1) := by decide +kernel
theorem dX8_isBand_3 : decode cX8_isBand 3 = .ok (.invokestatic 57, 3) := by decide +kernel
theorem dX8_isBand_6 : decode cX8_isBand 6 = .ok (.ireturn, 1) := by decide +kernel
theorem dX8_isThing_0 : decode cX8_isThing 0 = .ok (.iload_n 1, 1) := by decide +kernel
theorem dX8_isThing_1 : decode cX8_isThing 1 = .ok (.iconst 0, 1) := by decide +kernel
theorem dX8_isThing_2 : decode cX8_isThing 2 = .ok (.aload_n 0, 1) := by decide +kernel
theorem dX8_isThing_3 : decode cX8_isThing 3 = .ok (.getfield 10, 3) := by decide +kernel
theorem dX8_isThing_6 : decode cX8_isThing 6 = .ok (.getfield 65, 3) := by decide +kernel
theorem dX8_isThing_9 : decode cX8_isThing 9 = .ok (.iconst 1, 1) := by decide +kernel
theorem dX8_isThing_10 : decode cX8_isThing 10 = .ok (.isub, 1) := by decide +kernel
theorem dX8_isThing_11 : decode cX8_isThing 11 = .ok (.invokestatic 57, 3) := by decide +kernel
theorem dX8_isThing_14 : decode cX8_isThing 14 = .ok (.ireturn, 1) := by decide +kernel
theorem dX8_isMeaning_0 : decode cX8_isMeaning 0 = .ok (.iload_n 1, 1) := by decide +kernel
theorem dX8_isMeaning_1 : decode cX8_isMeaning 1 = .ok (.iconst 0, 1) := by decide +kernel
theorem dX8_isMeaning_2 : decode cX8_isMeaning 2 = .ok (.aload_n 0, 1) := by decide +kernel
theorem dX8_isMeaning_3 : decode cX8_isMeaning 3 = .ok (.getfield 10, 3) := by decide +kernel
theorem dX8_isMeaning_6 : decode cX8_isMeaning 6 = .ok (.getfield 91, 3) := by decide +kernel
theorem dX8_isMeaning_9 : decode cX8_isMeaning 9 = .ok (.iconst 1, 1) := by decide +kernel
theorem dX8_isMeaning_10 : decode cX8_isMeaning 10 = .ok (.isub, 1) := by decide +kernel
theorem dX8_isMeaning_11 : decode cX8_isMeaning 11 = .ok (.invokestatic 57, 3) := by decide +kernel
theorem dX8_isMeaning_14 : decode cX8_isMeaning 14 = .ok (.ireturn, 1) := by decide +kernel
theorem dX8_isHouse_0 : decode cX8_isHouse 0 = .ok (.iload_n 1, 1) := by decide +kernel
theorem dX8_isHouse_1 : decode cX8_isHouse 1 = .ok (.iconst 0, 1) := by decide +kernel
theorem dX8_isHouse_2 : decode cX8_isHouse 2 = .ok (.aload_n 0, 1) := by decide +kernel
theorem dX8_isHouse_3 : decode cX8_isHouse 3 = .ok (.getfield 10, 3) := by decide +kernel
theorem dX8_isHouse_6 : decode cX8_isHouse 6 = .ok (.getfield 241, 3) := by decide +kernel
theorem dX8_isHouse_9 : decode cX8_isHouse 9 = .ok (.iconst 1, 1) := by decide +kernel
theorem dX8_isHouse_10 : decode cX8_isHouse 10 = .ok (.isub, 1) := by decide +kernel
theorem dX8_isHouse_11 : decode cX8_isHouse 11 = .ok (.invokestatic 57, 3) := by decide +kernel
theorem dX8_isHouse_14 : decode cX8_isHouse 14 = .ok (.ireturn, 1) := by decide +kernel
theorem dX8_isSight_0 : decode cX8_isSight 0 = .ok (.iload_n 1, 1) := by decide +kernel
theorem dX8_isSight_1 : decode cX8_isSight 1 = .ok (.iconst (-1), 1) := by decide +kernel
theorem dX8_isSight_2 : decode cX8_isSight 2 = .ok (.if_icmp .ne 15, 3) := by decide +kernel
theorem dX8_isSight_5 : decode cX8_isSight 5 = .ok (.iload_n 2, 1) := by decide +kernel
theorem dX8_isSight_6 : decode cX8_isSight 6 = .ok (.ifCond .ne 7, 3) := by decide +kernel
theorem dX8_isSight_9 : decode cX8_isSight 9 = .ok (.iconst 1, 1) := by decide +kernel
theorem dX8_isSight_10 : decode cX8_isSight 10 = .ok (.goto 31, 3) := by decide +kernel
theorem dX8_isSight_13 : decode cX8_isSight 13 = .ok (.iconst 0, 1) := by decide +kernel
theorem dX8_isSight_14 : decode cX8_isSight 14 = .ok (.goto 27, 3) := by decide +kernel
theorem dX8_isSight_17 : decode cX8_isSight 17 = .ok (.aload_n 0, 1) := by decide +kernel
theorem dX8_isSight_18 : decode cX8_isSight 18 = .ok (.iload_n 1, 1) := by decide +kernel
theorem dX8_isSight_19 : decode cX8_isSight 19 = .ok (.invokevirtual 98, 3) := by decide +kernel
theorem dX8_isSight_22 : decode cX8_isSight 22 = .ok (.ifCond .eq 18, 3) := by decide +kernel
theorem dX8_isSight_25 : decode cX8_isSight 25 = .ok (.iload_n 2, 1) := by decide +kernel
theorem dX8_isSight_26 : decode cX8_isSight 26 = .ok (.bipush (-9), 2) := by decide +kernel
theorem dX8_isSight_28 : decode cX8_isSight 28 = .ok (.bipush 9, 2) := by decide +kernel
theorem dX8_isSight_30 : decode cX8_isSight 30 = .ok (.invokestatic 57, 3) := by decide +kernel
theorem dX8_isSight_33 : decode cX8_isSight 33 = .ok (.ifCond .eq 7, 3) := by decide +kernel
theorem dX8_isSight_36 : decode cX8_isSight 36 = .ok (.iconst 1, 1) := by decide +kernel
theorem dX8_isSight_37 : decode cX8_isSight 37 = .ok (.goto 4, 3) := by decide +kernel
theorem dX8_isSight_40 : decode cX8_isSight 40 = .ok (.iconst 0, 1) := by decide +kernel
theorem dX8_isSight_41 : decode cX8_isSight 41 = .ok (.ireturn, 1) := by decide +kernel
theorem dX8_isWalker_0 : decode cX8_isWalker 0 = .ok (.iload_n 0, 1) := by decide +kernel
theorem dX8_isWalker_1 : decode cX8_isWalker 1 = .ok (.iconst 0, 1) := by decide +kernel
theorem dX8_isWalker_2 : decode cX8_isWalker 2 = .ok (.bipush 99, 2) := by decide +kernel
theorem dX8_isWalker_4 : decode cX8_isWalker 4 = .ok (.invokestatic 57, 3) := by decide +kernel
theorem dX8_isWalker_7 : decode cX8_isWalker 7 = .ok (.ifCond .eq 37, 3) := by decide +kernel
theorem dX8_isWalker_10 : decode cX8_isWalker 10 = .ok (.iload_n 1, 1) := by decide +kernel
theorem dX8_isWalker_11 : decode cX8_isWalker 11 = .ok (.iconst 1, 1) := by decide +kernel
theorem dX8_isWalker_12 : decode cX8_isWalker 12 = .ok (.bipush 9, 2) := by decide +kernel
theorem dX8_isWalker_14 : decode cX8_isWalker 14 = .ok (.invokestatic 57, 3) := by decide +kernel
theorem dX8_isWalker_17 : decode cX8_isWalker 17 = .ok (.ifCond .eq 27, 3) := by decide +kernel
theorem dX8_isWalker_20 : decode cX8_isWalker 20 = .ok (.iload_n 2, 1) := by decide +kernel
theorem dX8_isWalker_21 : decode cX8_isWalker 21 = .ok (.iconst 1, 1) := by decide +kernel
theorem dX8_isWalker_22 : decode cX8_isWalker 22 = .ok (.bipush 9, 2) := by decide +kernel
theorem dX8_isWalker_24 : decode cX8_isWalker 24 = .ok (.invokestatic 57, 3) := by decide +kernel
theorem dX8_isWalker_27 : decode cX8_isWalker 27 = .ok (.ifCond .eq 17, 3) := by decide +kernel
theorem dX8_isWalker_30 : decode cX8_isWalker 30 = .ok (.iload_n 3, 1) := by decide +kernel
theorem dX8_isWalker_31 : decode cX8_isWalker 31 = .ok (.iconst 0, 1) := by decide +kernel
theorem dX8_isWalker_32 : decode cX8_isWalker 32 = .ok (.bipush 20, 2) := by decide +kernel
theorem dX8_isWalker_34 : decode cX8_isWalker 34 = .ok (.invokestatic 57, 3) := by decide +kernel
theorem dX8_isWalker_37 : decode cX8_isWalker 37 = .ok (.ifCond .eq 7, 3) := by decide +kernel
theorem dX8_isWalker_40 : decode cX8_isWalker 40 = .ok (.iconst 1, 1) := by decide +kernel
theorem dX8_isWalker_41 : decode cX8_isWalker 41 = .ok (.goto 4, 3) := by decide +kernel
theorem dX8_isWalker_44 : decode cX8_isWalker 44 = .ok (.iconst 0, 1) := by decide +kernel
theorem dX8_isWalker_45 : decode cX8_isWalker 45 = .ok (.ireturn, 1) := by decide +kernel
theorem dX8_leastPut_0 : decode cX8_leastPut 0 = .ok (.iload_n 0, 1) := by decide +kernel
theorem dX8_leastPut_1 : decode cX8_leastPut 1 = .ok (.iconst 1, 1) := by decide +kernel
theorem dX8_leastPut_2 : decode cX8_leastPut 2 = .ok (.if_icmp .eq 8, 3) := by decide +kernel
theorem dX8_leastPut_5 : decode cX8_leastPut 5 = .ok (.iload_n 0, 1) := by decide +kernel
theorem dX8_leastPut_6 : decode cX8_leastPut 6 = .ok (.iconst 2, 1) := by decide +kernel
theorem dX8_leastPut_7 : decode cX8_leastPut 7 = .ok (.if_icmp .ne 7, 3) := by decide +kernel
theorem dX8_leastPut_10 : decode cX8_leastPut 10 = .ok (.iconst 1, 1) := by decide +kernel
theorem dX8_leastPut_11 : decode cX8_leastPut 11 = .ok (.goto 4, 3) := by decide +kernel
theorem dX8_leastPut_14 : decode cX8_leastPut 14 = .ok (.iconst 0, 1) := by decide +kernel
theorem dX8_leastPut_15 : decode cX8_leastPut 15 = .ok (.ireturn, 1) := by decide +kernel
theorem dX8_greatestPut_0 : decode cX8_greatestPut 0 = .ok (.iload_n 0, 1) := by decide +kernel
theorem dX8_greatestPut_1 : decode cX8_greatestPut 1 = .ok (.ifCond .ne 7, 3) := by decide +kernel
theorem dX8_greatestPut_4 : decode cX8_greatestPut 4 = .ok (.sipush 2000, 3) := by decide +kernel
theorem dX8_greatestPut_7 : decode cX8_greatestPut 7 = .ok (.ireturn, 1) := by decide +kernel
theorem dX8_greatestPut_8 : decode cX8_greatestPut 8 = .ok (.iload_n 0, 1) := by decide +kernel
theorem dX8_greatestPut_9 : decode cX8_greatestPut 9 = .ok (.iconst 1, 1) := by decide +kernel
theorem dX8_greatestPut_10 : decode cX8_greatestPut 10 = .ok (.if_icmp .eq 8, 3) := by decide +kernel
theorem dX8_greatestPut_13 : decode cX8_greatestPut 13 = .ok (.iload_n 0, 1) := by decide +kernel
theorem dX8_greatestPut_14 : decode cX8_greatestPut 14 = .ok (.iconst 2, 1) := by decide +kernel
theorem dX8_greatestPut_15 : decode cX8_greatestPut 15 = .ok (.if_icmp .ne 8, 3) := by decide +kernel
theorem dX8_greatestPut_18 : decode cX8_greatestPut 18 = .ok (.bipush 9, 2) := by decide +kernel
theorem dX8_greatestPut_20 : decode cX8_greatestPut 20 = .ok (.goto 5, 3) := by decide +kernel
theorem dX8_greatestPut_23 : decode cX8_greatestPut 23 = .ok (.bipush 99, 2) := by decide +kernel
theorem dX8_greatestPut_25 : decode cX8_greatestPut 25 = .ok (.ireturn, 1) := by decide +kernel
theorem dX8_readsReel_0 : decode cX8_readsReel 0 = .ok (.aload_n 0, 1) := by decide +kernel
theorem dX8_readsReel_1 : decode cX8_readsReel 1 = .ok (.getfield 39, 3) := by decide +kernel
theorem dX8_readsReel_4 : decode cX8_readsReel 4 = .ok (.aload_n 0, 1) := by decide +kernel
theorem dX8_readsReel_5 : decode cX8_readsReel 5 = .ok (.getfield 10, 3) := by decide +kernel
theorem dX8_readsReel_8 : decode cX8_readsReel 8 = .ok (.invokevirtual 189, 3) := by decide +kernel
theorem dX8_readsReel_11 : decode cX8_readsReel 11 = .ok (.aload_n 0, 1) := by decide +kernel
theorem dX8_readsReel_12 : decode cX8_readsReel 12 = .ok (.getfield 39, 3) := by decide +kernel
theorem dX8_readsReel_15 : decode cX8_readsReel 15 = .ok (.getfield 192, 3) := by decide +kernel
theorem dX8_readsReel_18 : decode cX8_readsReel 18 = .ok (.iconst (-1), 1) := by decide +kernel
theorem dX8_readsReel_19 : decode cX8_readsReel 19 = .ok (.if_icmp .ne 7, 3) := by decide +kernel
theorem dX8_readsReel_22 : decode cX8_readsReel 22 = .ok (.iconst 1, 1) := by decide +kernel
theorem dX8_readsReel_23 : decode cX8_readsReel 23 = .ok (.goto 4, 3) := by decide +kernel
theorem dX8_readsReel_26 : decode cX8_readsReel 26 = .ok (.iconst 0, 1) := by decide +kernel
theorem dX8_readsReel_27 : decode cX8_readsReel 27 = .ok (.ireturn, 1) := by decide +kernel
theorem dX8_lagBehind_0 : decode cX8_lagBehind 0 = .ok (.iload_n 1, 1) := by decide +kernel
theorem dX8_lagBehind_1 : decode cX8_lagBehind 1 = .ok (.iconst 1, 1) := by decide +kernel
theorem dX8_lagBehind_2 : decode cX8_lagBehind 2 = .ok (.if_icmp .lt 8, 3) := by decide +kernel
theorem dX8_lagBehind_5 : decode cX8_lagBehind 5 = .ok (.iload_n 2, 1) := by decide +kernel
theorem dX8_lagBehind_6 : decode cX8_lagBehind 6 = .ok (.iconst 1, 1) := by decide +kernel
theorem dX8_lagBehind_7 : decode cX8_lagBehind 7 = .ok (.if_icmp .ge 5, 3) := by decide +kernel
theorem dX8_lagBehind_10 : decode cX8_lagBehind 10 = .ok (.iload_n 0, 1) := by decide +kernel
theorem dX8_lagBehind_11 : decode cX8_lagBehind 11 = .ok (.ireturn, 1) := by decide +kernel
theorem dX8_lagBehind_12 : decode cX8_lagBehind 12 = .ok (.iload_n 0, 1) := by decide +kernel
theorem dX8_lagBehind_13 : decode cX8_lagBehind 13 = .ok (.iload_n 0, 1) := by decide +kernel
theorem dX8_lagBehind_14 : decode cX8_lagBehind 14 = .ok (.iload_n 1, 1) := by decide +kernel
theorem dX8_lagBehind_15 : decode cX8_lagBehind 15 = .ok (.idiv, 1) := by decide +kernel
theorem dX8_lagBehind_16 : decode cX8_lagBehind 16 = .ok (.isub, 1) := by decide +kernel
theorem dX8_lagBehind_17 : decode cX8_lagBehind 17 = .ok (.iload 4, 2) := by decide +kernel
theorem dX8_lagBehind_19 : decode cX8_lagBehind 19 = .ok (.iload_n 2, 1) := by decide +kernel
theorem dX8_lagBehind_20 : decode cX8_lagBehind 20 = .ok (.irem, 1) := by decide +kernel
theorem dX8_lagBehind_21 : decode cX8_lagBehind 21 = .ok (.ifCond .ne 7, 3) := by decide +kernel
theorem dX8_lagBehind_24 : decode cX8_lagBehind 24 = .ok (.iload_n 3, 1) := by decide +kernel
theorem dX8_lagBehind_25 : decode cX8_lagBehind 25 = .ok (.goto 4, 3) := by decide +kernel
theorem dX8_lagBehind_28 : decode cX8_lagBehind 28 = .ok (.iconst 0, 1) := by decide +kernel
theorem dX8_lagBehind_29 : decode cX8_lagBehind 29 = .ok (.iadd, 1) := by decide +kernel
theorem dX8_lagBehind_30 : decode cX8_lagBehind 30 = .ok (.ireturn, 1) := by decide +kernel
theorem dX8_look_0 : decode cX8_look 0 = .ok (.iload_n 1, 1) := by decide +kernel
theorem dX8_look_1 : decode cX8_look 1 = .ok (.ifCond .lt 15, 3) := by decide +kernel
theorem dX8_look_4 : decode cX8_look 4 = .ok (.iload_n 1, 1) := by decide +kernel
theorem dX8_look_5 : decode cX8_look 5 = .ok (.aload_n 0, 1) := by decide +kernel
theorem dX8_look_6 : decode cX8_look 6 = .ok (.arraylength, 1) := by decide +kernel
theorem dX8_look_7 : decode cX8_look 7 = .ok (.if_icmp .ge 9, 3) := by decide +kernel
theorem dX8_look_10 : decode cX8_look 10 = .ok (.aload_n 0, 1) := by decide +kernel
theorem dX8_look_11 : decode cX8_look 11 = .ok (.iload_n 1, 1) := by decide +kernel
theorem dX8_look_12 : decode cX8_look 12 = .ok (.iaload, 1) := by decide +kernel
theorem dX8_look_13 : decode cX8_look 13 = .ok (.goto 4, 3) := by decide +kernel
theorem dX8_look_16 : decode cX8_look 16 = .ok (.iconst 0, 1) := by decide +kernel
theorem dX8_look_17 : decode cX8_look 17 = .ok (.ireturn, 1) := by decide +kernel
theorem dX8_lay_0 : decode cX8_lay 0 = .ok (.iload_n 1, 1) := by decide +kernel
theorem dX8_lay_1 : decode cX8_lay 1 = .ok (.ifCond .lt 13, 3) := by decide +kernel
theorem dX8_lay_4 : decode cX8_lay 4 = .ok (.iload_n 1, 1) := by decide +kernel
theorem dX8_lay_5 : decode cX8_lay 5 = .ok (.aload_n 0, 1) := by decide +kernel
theorem dX8_lay_6 : decode cX8_lay 6 = .ok (.arraylength, 1) := by decide +kernel
theorem dX8_lay_7 : decode cX8_lay 7 = .ok (.if_icmp .ge 7, 3) := by decide +kernel
theorem dX8_lay_10 : decode cX8_lay 10 = .ok (.aload_n 0, 1) := by decide +kernel
theorem dX8_lay_11 : decode cX8_lay 11 = .ok (.iload_n 1, 1) := by decide +kernel
theorem dX8_lay_12 : decode cX8_lay 12 = .ok (.iload_n 2, 1) := by decide +kernel
theorem dX8_lay_13 : decode cX8_lay 13 = .ok (.iastore, 1) := by decide +kernel
theorem dX8_lay_14 : decode cX8_lay 14 = .ok (.return_, 1) := by decide +kernel
theorem dX8_exchange_0 : decode cX8_exchange 0 = .ok (.aload_n 0, 1) := by decide +kernel
theorem dX8_exchange_1 : decode cX8_exchange 1 = .ok (.iload_n 1, 1) := by decide +kernel
theorem dX8_exchange_2 : decode cX8_exchange 2 = .ok (.invokestatic 281, 3) := by decide +kernel
theorem dX8_exchange_5 : decode cX8_exchange 5 = .ok (.istore_n 3, 1) := by decide +kernel
theorem dX8_exchange_6 : decode cX8_exchange 6 = .ok (.aload_n 0, 1) := by decide +kernel
theorem dX8_exchange_7 : decode cX8_exchange 7 = .ok (.iload_n 1, 1) := by decide +kernel
theorem dX8_exchange_8 : decode cX8_exchange 8 = .ok (.iload_n 2, 1) := by decide +kernel
theorem dX8_exchange_9 : decode cX8_exchange 9 = .ok (.invokestatic 311, 3) := by decide +kernel
theorem dX8_exchange_12 : decode cX8_exchange 12 = .ok (.iload_n 3, 1) := by decide +kernel
theorem dX8_exchange_13 : decode cX8_exchange 13 = .ok (.ireturn, 1) := by decide +kernel
theorem dX8_copyRow_0 : decode cX8_copyRow 0 = .ok (.iconst 0, 1) := by decide +kernel
theorem dX8_copyRow_1 : decode cX8_copyRow 1 = .ok (.istore_n 2, 1) := by decide +kernel
theorem dX8_copyRow_2 : decode cX8_copyRow 2 = .ok (.iload_n 2, 1) := by decide +kernel
theorem dX8_copyRow_3 : decode cX8_copyRow 3 = .ok (.aload_n 0, 1) := by decide +kernel
theorem dX8_copyRow_4 : decode cX8_copyRow 4 = .ok (.arraylength, 1) := by decide +kernel
theorem dX8_copyRow_5 : decode cX8_copyRow 5 = .ok (.if_icmp .ge 21, 3) := by decide +kernel
theorem dX8_copyRow_8 : decode cX8_copyRow 8 = .ok (.iload_n 2, 1) := by decide +kernel
theorem dX8_copyRow_9 : decode cX8_copyRow 9 = .ok (.aload_n 1, 1) := by decide +kernel
theorem dX8_copyRow_10 : decode cX8_copyRow 10 = .ok (.arraylength, 1) := by decide +kernel
theorem dX8_copyRow_11 : decode cX8_copyRow 11 = .ok (.if_icmp .ge 15, 3) := by decide +kernel
theorem dX8_copyRow_14 : decode cX8_copyRow 14 = .ok (.aload_n 1, 1) := by decide +kernel
theorem dX8_copyRow_15 : decode cX8_copyRow 15 = .ok (.iload_n 2, 1) := by decide +kernel
theorem dX8_copyRow_16 : decode cX8_copyRow 16 = .ok (.aload_n 0, 1) := by decide +kernel
theorem dX8_copyRow_17 : decode cX8_copyRow 17 = .ok (.iload_n 2, 1) := by decide +kernel
theorem dX8_copyRow_18 : decode cX8_copyRow 18 = .ok (.iaload, 1) := by decide +kernel
theorem dX8_copyRow_19 : decode cX8_copyRow 19 = .ok (.iastore, 1) := by decide +kernel
theorem dX8_copyRow_20 : decode cX8_copyRow 20 = .ok (.iinc 2 1, 3) := by decide +kernel
theorem dX8_copyRow_23 : decode cX8_copyRow 23 = .ok (.goto (-21), 3) := by decide +kernel
theorem dX8_copyRow_26 : decode cX8_copyRow 26 = .ok (.return_, 1) := by decide +kernel
theorem dX8_digestRow_0 : decode cX8_digestRow 0 = .ok (.lload_n 0, 1) := by decide +kernel
theorem dX8_digestRow_1 : decode cX8_digestRow 1 = .ok (.lstore 5, 2) := by decide +kernel
theorem dX8_digestRow_3 : decode cX8_digestRow 3 = .ok (.iload_n 3, 1) := by decide +kernel
theorem dX8_digestRow_4 : decode cX8_digestRow 4 = .ok (.istore 7, 2) := by decide +kernel
theorem dX8_digestRow_6 : decode cX8_digestRow 6 = .ok (.iload 7, 2) := by decide +kernel
theorem dX8_digestRow_8 : decode cX8_digestRow 8 = .ok (.iload_n 3, 1) := by decide +kernel
theorem dX8_digestRow_9 : decode cX8_digestRow 9 = .ok (.iload 4, 2) := by decide +kernel
theorem dX8_digestRow_11 : decode cX8_digestRow 11 = .ok (.iadd, 1) := by decide +kernel
theorem dX8_digestRow_12 : decode cX8_digestRow 12 = .ok (.if_icmp .ge 25, 3) := by decide +kernel
theorem dX8_digestRow_15 : decode cX8_digestRow 15 = .ok (.ldc2_w 315, 3) := by decide +kernel
theorem dX8_digestRow_18 : decode cX8_digestRow 18 = .ok (.lload 5, 2) := by decide +kernel
theorem dX8_digestRow_20 : decode cX8_digestRow 20 = .ok (.lmul, 1) := by decide +kernel
theorem dX8_digestRow_21 : decode cX8_digestRow 21 = .ok (.aload_n 2, 1) := by decide +kernel
theorem dX8_digestRow_22 : decode cX8_digestRow 22 = .ok (.iload 7, 2) := by decide +kernel
theorem dX8_digestRow_24 : decode cX8_digestRow 24 = .ok (.invokestatic 281, 3) := by decide +kernel
theorem dX8_digestRow_27 : decode cX8_digestRow 27 = .ok (.i2l, 1) := by decide +kernel
theorem dX8_digestRow_28 : decode cX8_digestRow 28 = .ok (.ladd, 1) := by decide +kernel
theorem dX8_digestRow_29 : decode cX8_digestRow 29 = .ok (.lstore 5, 2) := by decide +kernel
theorem dX8_digestRow_31 : decode cX8_digestRow 31 = .ok (.iinc 7 1, 3) := by decide +kernel
theorem dX8_digestRow_34 : decode cX8_digestRow 34 = .ok (.goto (-28), 3) := by decide +kernel
theorem dX8_digestRow_37 : decode cX8_digestRow 37 = .ok (.lload 5, 2) := by decide +kernel
theorem dX8_digestRow_39 : decode cX8_digestRow 39 = .ok (.lreturn, 1) := by decide +kernel
theorem dX9_init_0 : decode cX9_init 0 = .ok (.aload_n 0, 1) := by decide +kernel
theorem dX9_init_1 : decode cX9_init 1 = .ok (.invokespecial 1, 3) := by decide +kernel
theorem dX9_init_4 : decode cX9_init 4 = .ok (.aload_n 0, 1) := by decide +kernel
theorem dX9_init_5 : decode cX9_init 5 = .ok (.sipush 1140, 3) := by decide +kernel
theorem dX9_init_8 : decode cX9_init 8 = .ok (.newarray .int, 2) := by decide +kernel
theorem dX9_init_10 : decode cX9_init 10 = .ok (.putfield 7, 3) := by decide +kernel
theorem dX9_init_13 : decode cX9_init 13 = .ok (.aload_n 0, 1) := by decide +kernel
theorem dX9_init_14 : decode cX9_init 14 = .ok (.iconst 2, 1) := by decide +kernel
theorem dX9_init_15 : decode cX9_init 15 = .ok (.newarray .boolean, 2) := by decide +kernel
theorem dX9_init_17 : decode cX9_init 17 = .ok (.putfield 13, 3) := by decide +kernel
theorem dX9_init_20 : decode cX9_init 20 = .ok (.aload_n 0, 1) := by decide +kernel
theorem dX9_init_21 : decode cX9_init 21 = .ok (.iconst 3, 1) := by decide +kernel
theorem dX9_init_22 : decode cX9_init 22 = .ok (.newarray .int, 2) := by decide +kernel
theorem dX9_init_24 : decode cX9_init 24 = .ok (.putfield 17, 3) := by decide +kernel
theorem dX9_init_27 : decode cX9_init 27 = .ok (.aload_n 0, 1) := by decide +kernel
theorem dX9_init_28 : decode cX9_init 28 = .ok (.bipush 6, 2) := by decide +kernel
theorem dX9_init_30 : decode cX9_init 30 = .ok (.newarray .int, 2) := by decide +kernel
theorem dX9_init_32 : decode cX9_init 32 = .ok (.putfield 20, 3) := by decide +kernel
theorem dX9_init_35 : decode cX9_init 35 = .ok (.aload_n 0, 1) := by decide +kernel
theorem dX9_init_36 : decode cX9_init 36 = .ok (.bipush 60, 2) := by decide +kernel
theorem dX9_init_38 : decode cX9_init 38 = .ok (.newarray .int, 2) := by decide +kernel
theorem dX9_init_40 : decode cX9_init 40 = .ok (.putfield 23, 3) := by decide +kernel
theorem dX9_init_43 : decode cX9_init 43 = .ok (.aload_n 0, 1) := by decide +kernel
theorem dX9_init_44 : decode cX9_init 44 = .ok (.bipush 8, 2) := by decide +kernel
theorem dX9_init_46 : decode cX9_init 46 = .ok (.newarray .int, 2) := by decide +kernel
theorem dX9_init_48 : decode cX9_init 48 = .ok (.putfield 26, 3) := by decide +kernel
theorem dX9_init_51 : decode cX9_init 51 = .ok (.aload_n 0, 1) := by decide +kernel
theorem dX9_init_52 : decode cX9_init 52 = .ok (.bipush 8, 2) := by decide +kernel
theorem dX9_init_54 : decode cX9_init 54 = .ok (.newarray .int, 2) := by decide +kernel
theorem dX9_init_56 : decode cX9_init 56 = .ok (.putfield 29, 3) := by decide +kernel
theorem dX9_init_59 : decode cX9_init 59 = .ok (.aload_n 0, 1) := by decide +kernel
theorem dX9_init_60 : decode cX9_init 60 = .ok (.bipush 8, 2) := by decide +kernel
theorem dX9_init_62 : decode cX9_init 62 = .ok (.newarray .int, 2) := by decide +kernel
theorem dX9_init_64 : decode cX9_init 64 = .ok (.putfield 32, 3) := by decide +kernel
theorem dX9_init_67 : decode cX9_init 67 = .ok (.aload_n 0, 1) := by decide +kernel
theorem dX9_init_68 : decode cX9_init 68 = .ok (.bipush 8, 2) := by decide +kernel
theorem dX9_init_70 : decode cX9_init 70 = .ok (.newarray .int, 2) := by decide +kernel
theorem dX9_init_72 : decode cX9_init 72 = .ok (.putfield 35, 3) := by decide +kernel
theorem dX9_init_75 : decode cX9_init 75 = .ok (.aload_n 0, 1) := by decide +kernel
theorem dX9_init_76 : decode cX9_init 76 = .ok (.bipush 8, 2) := by decide +kernel
theorem dX9_init_78 : decode cX9_init 78 = .ok (.newarray .int, 2) := by decide +kernel
theorem dX9_init_80 : decode cX9_init 80 = .ok (.putfield 38, 3) := by decide +kernel
theorem dX9_init_83 : decode cX9_init 83 = .ok (.aload_n 0, 1) := by decide +kernel
theorem dX9_init_84 : decode cX9_init 84 = .ok (.sipush 2048, 3) := by decide +kernel
theorem dX9_init_87 : decode cX9_init 87 = .ok (.newarray .int, 2) := by decide +kernel
theorem dX9_init_89 : decode cX9_init 89 = .ok (.putfield 41, 3) := by decide +kernel
theorem dX9_init_92 : decode cX9_init 92 = .ok (.aload_n 0, 1) := by decide +kernel
theorem dX9_init_93 : decode cX9_init 93 = .ok (.bipush 41, 2) := by decide +kernel
theorem dX9_init_95 : decode cX9_init 95 = .ok (.newarray .int, 2) := by decide +kernel
theorem dX9_init_97 : decode cX9_init 97 = .ok (.putfield 44, 3) := by decide +kernel
theorem dX9_init_100 : decode cX9_init 100 = .ok (.aload_n 0, 1) := by decide +kernel
theorem dX9_init_101 : decode cX9_init 101 = .ok (.bipush 112, 2) := by decide +kernel
theorem dX9_init_103 : decode cX9_init 103 = .ok (.newarray .int, 2) := by decide +kernel
theorem dX9_init_105 : decode cX9_init 105 = .ok (.putfield 47, 3) := by decide +kernel
theorem dX9_init_108 : decode cX9_init 108 = .ok (.aload_n 0, 1) := by decide +kernel
theorem dX9_init_109 : decode cX9_init 109 = .ok (.getfield 7, 3) := by decide +kernel
theorem dX9_init_112 : decode cX9_init 112 = .ok (.bipush 127, 2) := by decide +kernel
theorem dX9_init_114 : decode cX9_init 114 = .ok (.sipush 500, 3) := by decide +kernel
theorem dX9_init_117 : decode cX9_init 117 = .ok (.iastore, 1) := by decide +kernel
theorem dX9_init_118 : decode cX9_init 118 = .ok (.aload_n 0, 1) := by decide +kernel
theorem dX9_init_119 : decode cX9_init 119 = .ok (.getfield 7, 3) := by decide +kernel
theorem dX9_init_122 : decode cX9_init 122 = .ok (.sipush 128, 3) := by decide +kernel
theorem dX9_init_125 : decode cX9_init 125 = .ok (.iconst 3, 1) := by decide +kernel
theorem dX9_init_126 : decode cX9_init 126 = .ok (.iastore, 1) := by decide +kernel
theorem dX9_init_127 : decode cX9_init 127 = .ok (.aload_n 0, 1) := by decide +kernel
theorem dX9_init_128 : decode cX9_init 128 = .ok (.getfield 7, 3) := by decide +kernel
theorem dX9_init_131 : decode cX9_init 131 = .ok (.sipush 129, 3) := by decide +kernel
theorem dX9_init_134 : decode cX9_init 134 = .ok (.iconst 3, 1) := by decide +kernel
theorem dX9_init_135 : decode cX9_init 135 = .ok (.iastore, 1) := by decide +kernel
theorem dX9_init_136 : decode cX9_init 136 = .ok (.aload_n 0, 1) := by decide +kernel
theorem dX9_init_137 : decode cX9_init 137 = .ok (.getfield 7, 3) := by decide +kernel
theorem dX9_init_140 : decode cX9_init 140 = .ok (.sipush 130, 3) := by decide +kernel
theorem dX9_init_143 : decode cX9_init 143 = .ok (.bipush 20, 2) := by decide +kernel
theorem dX9_init_145 : decode cX9_init 145 = .ok (.iastore, 1) := by decide +kernel
theorem dX9_init_146 : decode cX9_init 146 = .ok (.aload_n 0, 1) := by decide +kernel
theorem dX9_init_147 : decode cX9_init 147 = .ok (.getfield 7, 3) := by decide +kernel
theorem dX9_init_150 : decode cX9_init 150 = .ok (.sipush 131, 3) := by decide +kernel
theorem dX9_init_153 : decode cX9_init 153 = .ok (.bipush 30, 2) := by decide +kernel
theorem dX9_init_155 : decode cX9_init 155 = .ok (.iastore, 1) := by decide +kernel
theorem dX9_init_156 : decode cX9_init 156 = .ok (.aload_n 0, 1) := by decide +kernel
theorem dX9_init_157 : decode cX9_init 157 = .ok (.getfield 47, 3) := by decide +kernel
theorem dX9_init_160 : decode cX9_init 160 = .ok (.bipush 16, 2) := by decide +kernel
theorem dX9_init_162 : decode cX9_init 162 = .ok (.iconst 1, 1) := by decide +kernel
theorem dX9_init_163 : decode cX9_init 163 = .ok (.iastore, 1) := by decide +kernel
theorem dX9_init_164 : decode cX9_init 164 = .ok (.return_, 1) := by decide +kernel
theorem dX9_in_0 : decode cX9_in 0 = .ok (.iload_n 0, 1) := by decide +kernel
theorem dX9_in_1 : decode cX9_in 1 = .ok (.iload_n 1, 1) := by decide +kernel
theorem dX9_in_2 : decode cX9_in 2 = .ok (.if_icmp .lt 12, 3) := by decide +kernel
theorem dX9_in_5 : decode cX9_in 5 = .ok (.iload_n 0, 1) := by decide +kernel
theorem dX9_in_6 : decode cX9_in 6 = .ok (.iload_n 2, 1) := by decide +kernel
theorem dX9_in_7 : decode cX9_in 7 = .ok (.if_icmp .gt 7, 3) := by decide +kernel
theorem dX9_in_10 : decode cX9_in 10 = .ok (.iconst 1, 1) := by decide +kernel
theorem dX9_in_11 : decode cX9_in 11 = .ok (.goto 4, 3) := by decide +kernel
theorem dX9_in_14 : decode cX9_in 14 = .ok (.iconst 0, 1) := by decide +kernel
theorem dX9_in_15 : decode cX9_in 15 = .ok (.ireturn, 1) := by decide +kernel
theorem dX9_refuse_0 : decode cX9_refuse 0 = .ok (.aload_n 0, 1) := by decide +kernel
theorem dX9_refuse_1 : decode cX9_refuse 1 = .ok (.getfield 17, 3) := by decide +kernel
theorem dX9_refuse_4 : decode cX9_refuse 4 = .ok (.bipush (-2), 2) := by decide +kernel
theorem dX9_refuse_6 : decode cX9_refuse 6 = .ok (.iload_n 1, 1) := by decide +kernel
theorem dX9_refuse_7 : decode cX9_refuse 7 = .ok (.isub, 1) := by decide +kernel
theorem dX9_refuse_8 : decode cX9_refuse 8 = .ok (.dup2, 1) := by decide +kernel
theorem dX9_refuse_9 : decode cX9_refuse 9 = .ok (.iaload, 1) := by decide +kernel
theorem dX9_refuse_10 : decode cX9_refuse 10 = .ok (.iconst 1, 1) := by decide +kernel
theorem dX9_refuse_11 : decode cX9_refuse 11 = .ok (.iadd, 1) := by decide +kernel
theorem dX9_refuse_12 : decode cX9_refuse 12 = .ok (.iastore, 1) := by decide +kernel
theorem dX9_refuse_13 : decode cX9_refuse 13 = .ok (.iload_n 1, 1) := by decide +kernel
theorem dX9_refuse_14 : decode cX9_refuse 14 = .ok (.ireturn, 1) := by decide +kernel
theorem dX9_isThing_0 : decode cX9_isThing 0 = .ok (.iload_n 1, 1) := by decide +kernel
theorem dX9_isThing_1 : decode cX9_isThing 1 = .ok (.iconst 0, 1) := by decide +kernel
theorem dX9_isThing_2 : decode cX9_isThing 2 = .ok (.aload_n 0, 1) := by decide +kernel
theorem dX9_isThing_3 : decode cX9_isThing 3 = .ok (.getfield 7, 3) := by decide +kernel
theorem dX9_isThing_6 : decode cX9_isThing 6 = .ok (.iconst 0, 1) := by decide +kernel
theorem dX9_isThing_7 : decode cX9_isThing 7 = .ok (.iaload, 1) := by decide +kernel
theorem dX9_isThing_8 : decode cX9_isThing 8 = .ok (.iconst 1, 1) := by decide +kernel
theorem dX9_isThing_9 : decode cX9_isThing 9 = .ok (.isub, 1) := by decide +kernel
theorem dX9_isThing_10 : decode cX9_isThing 10 = .ok (.invokestatic 50, 3) := by decide +kernel
theorem dX9_isThing_13 : decode cX9_isThing 13 = .ok (.ireturn, 1) := by decide +kernel
theorem dX9_isMeaning_0 : decode cX9_isMeaning 0 = .ok (.iload_n 1, 1) := by decide +kernel
theorem dX9_isMeaning_1 : decode cX9_isMeaning 1 = .ok (.iconst 0, 1) := by decide +kernel
theorem dX9_isMeaning_2 : decode cX9_isMeaning 2 = .ok (.aload_n 0, 1) := by decide +kernel
theorem dX9_isMeaning_3 : decode cX9_isMeaning 3 = .ok (.getfield 7, 3) := by decide +kernel
theorem dX9_isMeaning_6 : decode cX9_isMeaning 6 = .ok (.iconst 1, 1) := by decide +kernel
theorem dX9_isMeaning_7 : decode cX9_isMeaning 7 = .ok (.iaload, 1) := by decide +kernel
theorem dX9_isMeaning_8 : decode cX9_isMeaning 8 = .ok (.iconst 1, 1) := by decide +kernel
theorem dX9_isMeaning_9 : decode cX9_isMeaning 9 = .ok (.isub, 1) := by decide +kernel
theorem dX9_isMeaning_10 : decode cX9_isMeaning 10 = .ok (.invokestatic 50, 3) := by decide +kernel
theorem dX9_isMeaning_13 : decode cX9_isMeaning 13 = .ok (.ireturn, 1) := by decide +kernel
theorem dX9_thing_0 : decode cX9_thing 0 = .ok (.iload_n 1, 1) := by decide +kernel
theorem dX9_thing_1 : decode cX9_thing 1 = .ok (.iconst 0, 1) := by decide +kernel
theorem dX9_thing_2 : decode cX9_thing 2 = .ok (.iconst 4, 1) := by decide +kernel
theorem dX9_thing_3 : decode cX9_thing 3 = .ok (.invokestatic 50, 3) := by decide +kernel
theorem dX9_thing_6 : decode cX9_thing 6 = .ok (.ifCond .eq 13, 3) := by decide +kernel
theorem dX9_thing_9 : decode cX9_thing 9 = .ok (.iload_n 2, 1) := by decide +kernel
theorem dX9_thing_10 : decode cX9_thing 10 = .ok (.iconst 0, 1) := by decide +kernel
theorem dX9_thing_11 : decode cX9_thing 11 = .ok (.bipush 9, 2) := by decide +kernel
theorem dX9_thing_13 : decode cX9_thing 13 = .ok (.invokestatic 50, 3) := by decide +kernel
theorem dX9_thing_16 : decode cX9_thing 16 = .ok (.ifCond .ne 10, 3) := by decide +kernel
theorem dX9_thing_19 : decode cX9_thing 19 = .ok (.aload_n 0, 1) := by decide +kernel
theorem dX9_thing_20 : decode cX9_thing 20 = .ok (.bipush (-2), 2) := by decide +kernel
theorem dX9_thing_22 : decode cX9_thing 22 = .ok (.invokevirtual 54, 3) := by decide +kernel
theorem dX9_thing_25 : decode cX9_thing 25 = .ok (.ireturn, 1) := by decide +kernel
theorem dX9_thing_26 : decode cX9_thing 26 = .ok (.aload_n 0, 1) := by decide +kernel
theorem dX9_thing_27 : decode cX9_thing 27 = .ok (.getfield 7, 3) := by decide +kernel
theorem dX9_thing_30 : decode cX9_thing 30 = .ok (.iconst 0, 1) := by decide +kernel
theorem dX9_thing_31 : decode cX9_thing 31 = .ok (.iaload, 1) := by decide +kernel
theorem dX9_thing_32 : decode cX9_thing 32 = .ok (.istore_n 3, 1) := by decide +kernel
theorem dX9_thing_33 : decode cX9_thing 33 = .ok (.iload_n 3, 1) := by decide +kernel
theorem dX9_thing_34 : decode cX9_thing 34 = .ok (.bipush 10, 2) := by decide +kernel
theorem dX9_thing_36 : decode cX9_thing 36 = .ok (.if_icmp .ne 10, 3) := by decide +kernel
theorem dX9_thing_39 : decode cX9_thing 39 = .ok (.aload_n 0, 1) := by decide +kernel
theorem dX9_thing_40 : decode cX9_thing 40 = .ok (.bipush (-4), 2) := by decide +kernel
theorem dX9_thing_42 : decode cX9_thing 42 = .ok (.invokevirtual 54, 3) := by decide +kernel
theorem dX9_thing_45 : decode cX9_thing 45 = .ok (.ireturn, 1) := by decide +kernel
theorem dX9_thing_46 : decode cX9_thing 46 = .ok (.aload_n 0, 1) := by decide +kernel
theorem dX9_thing_47 : decode cX9_thing 47 = .ok (.getfield 7, 3) := by decide +kernel
theorem dX9_thing_50 : decode cX9_thing 50 = .ok (.iconst 5, 1) := by decide +kernel
theorem dX9_thing_51 : decode cX9_thing 51 = .ok (.iload_n 3, 1) := by decide +kernel
theorem dX9_thing_52 : decode cX9_thing 52 = .ok (.iadd, 1) := by decide +kernel
theorem dX9_thing_53 : decode cX9_thing 53 = .ok (.iload_n 1, 1) := by decide +kernel
theorem dX9_thing_54 : decode cX9_thing 54 = .ok (.iastore, 1) := by decide +kernel
theorem dX9_thing_55 : decode cX9_thing 55 = .ok (.aload_n 0, 1) := by decide +kernel
theorem dX9_thing_56 : decode cX9_thing 56 = .ok (.getfield 7, 3) := by decide +kernel
theorem dX9_thing_59 : decode cX9_thing 59 = .ok (.bipush 15, 2) := by decide +kernel
theorem dX9_thing_61 : decode cX9_thing 61 = .ok (.iload_n 3, 1) := by decide +kernel
theorem dX9_thing_62 : decode cX9_thing 62 = .ok (.iadd, 1) := by decide +kernel
theorem dX9_thing_63 : decode cX9_thing 63 = .ok (.iload_n 2, 1) := by decide +kernel
theorem dX9_thing_64 : decode cX9_thing 64 = .ok (.iastore, 1) := by decide +kernel
theorem dX9_thing_65 : decode cX9_thing 65 = .ok (.iconst 0, 1) := by decide +kernel
theorem dX9_thing_66 : decode cX9_thing 66 = .ok (.istore 4, 2) := by decide +kernel
theorem dX9_thing_68 : decode cX9_thing 68 = .ok (.iload 4, 2) := by decide +kernel
theorem dX9_thing_70 : decode cX9_thing 70 = .ok (.bipush 6, 2) := by decide +kernel
theorem dX9_thing_72 : decode cX9_thing 72 = .ok (.if_icmp .ge 25, 3) := by decide +kernel
theorem dX9_thing_75 : decode cX9_thing 75 = .ok (.aload_n 0, 1) := by decide +kernel
theorem dX9_thing_76 : decode cX9_thing 76 = .ok (.getfield 7, 3) := by decide +kernel
theorem dX9_thing_79 : decode cX9_thing 79 = .ok (.bipush 25, 2) := by decide +kernel
theorem dX9_thing_81 : decode cX9_thing 81 = .ok (.bipush 6, 2) := by decide +kernel
theorem dX9_thing_83 : decode cX9_thing 83 = .ok (.iload_n 3, 1) := by decide +kernel
theorem dX9_thing_84 : decode cX9_thing 84 = .ok (.imul, 1) := by decide +kernel
theorem dX9_thing_85 : decode cX9_thing 85 = .ok (.iadd, 1) := by decide +kernel
theorem dX9_thing_86 : decode cX9_thing 86 = .ok (.iload 4, 2) := by decide +kernel
theorem dX9_thing_88 : decode cX9_thing 88 = .ok (.iadd, 1) := by decide +kernel
theorem dX9_thing_89 : decode cX9_thing 89 = .ok (.iconst 0, 1) := by decide +kernel
theorem dX9_thing_90 : decode cX9_thing 90 = .ok (.iastore, 1) := by decide +kernel
theorem dX9_thing_91 : decode cX9_thing 91 = .ok (.iinc 4 1, 3) := by decide +kernel
theorem dX9_thing_94 : decode cX9_thing 94 = .ok (.goto (-26), 3) := by decide +kernel
theorem dX9_thing_97 : decode cX9_thing 97 = .ok (.aload_n 0, 1) := by decide +kernel
theorem dX9_thing_98 : decode cX9_thing 98 = .ok (.getfield 7, 3) := by decide +kernel
theorem dX9_thing_101 : decode cX9_thing 101 = .ok (.iconst 0, 1) := by decide +kernel
theorem dX9_thing_102 : decode cX9_thing 102 = .ok (.dup2, 1) := by decide +kernel
theorem dX9_thing_103 : decode cX9_thing 103 = .ok (.iaload, 1) := by decide +kernel
theorem dX9_thing_104 : decode cX9_thing 104 = .ok (.iconst 1, 1) := by decide +kernel
theorem dX9_thing_105 : decode cX9_thing 105 = .ok (.iadd, 1) := by decide +kernel
theorem dX9_thing_106 : decode cX9_thing 106 = .ok (.iastore, 1) := by decide +kernel
theorem dX9_thing_107 : decode cX9_thing 107 = .ok (.iload_n 3, 1) := by decide +kernel
theorem dX9_thing_108 : decode cX9_thing 108 = .ok (.ireturn, 1) := by decide +kernel
theorem dX9_level_0 : decode cX9_level 0 = .ok (.aload_n 0, 1) := by decide +kernel
theorem dX9_level_1 : decode cX9_level 1 = .ok (.iload_n 1, 1) := by decide +kernel
theorem dX9_level_2 : decode cX9_level 2 = .ok (.invokevirtual 58, 3) := by decide +kernel
theorem dX9_level_5 : decode cX9_level 5 = .ok (.ifCond .eq 22, 3) := by decide +kernel
theorem dX9_level_8 : decode cX9_level 8 = .ok (.iload_n 2, 1) := by decide +kernel
theorem dX9_level_9 : decode cX9_level 9 = .ok (.iconst 0, 1) := by decide +kernel
theorem dX9_level_10 : decode cX9_level 10 = .ok (.iconst 5, 1) := by decide +kernel
theorem dX9_level_11 : decode cX9_level 11 = .ok (.invokestatic 50, 3) := by decide +kernel
theorem dX9_level_14 : decode cX9_level 14 = .ok (.ifCond .eq 13, 3) := by decide +kernel
theorem dX9_level_17 : decode cX9_level 17 = .ok (.iload_n 3, 1) := by decide +kernel
theorem dX9_level_18 : decode cX9_level 18 = .ok (.iconst 0, 1) := by decide +kernel
theorem dX9_level_19 : decode cX9_level 19 = .ok (.bipush 99, 2) := by decide +kernel
theorem dX9_level_21 : decode cX9_level 21 = .ok (.invokestatic 50, 3) := by decide +kernel
theorem dX9_level_24 : decode cX9_level 24 = .ok (.ifCond .ne 10, 3) := by decide +kernel
theorem dX9_level_27 : decode cX9_level 27 = .ok (.aload_n 0, 1) := by decide +kernel
theorem dX9_level_28 : decode cX9_level 28 = .ok (.bipush (-2), 2) := by decide +kernel
theorem dX9_level_30 : decode cX9_level 30 = .ok (.invokevirtual 54, 3) := by decide +kernel
theorem dX9_level_33 : decode cX9_level 33 = .ok (.ireturn, 1) := by decide +kernel
theorem dX9_level_34 : decode cX9_level 34 = .ok (.aload_n 0, 1) := by decide +kernel
theorem dX9_level_35 : decode cX9_level 35 = .ok (.getfield 7, 3) := by decide +kernel
theorem dX9_level_38 : decode cX9_level 38 = .ok (.bipush 25, 2) := by decide +kernel
theorem dX9_level_40 : decode cX9_level 40 = .ok (.bipush 6, 2) := by decide +kernel
theorem dX9_level_42 : decode cX9_level 42 = .ok (.iload_n 1, 1) := by decide +kernel
theorem dX9_level_43 : decode cX9_level 43 = .ok (.imul, 1) := by decide +kernel
theorem dX9_level_44 : decode cX9_level 44 = .ok (.iadd, 1) := by decide +kernel
theorem dX9_level_45 : decode cX9_level 45 = .ok (.iload_n 2, 1) := by decide +kernel
theorem dX9_level_46 : decode cX9_level 46 = .ok (.iadd, 1) := by decide +kernel
theorem dX9_level_47 : decode cX9_level 47 = .ok (.iaload, 1) := by decide +kernel
theorem dX9_level_48 : decode cX9_level 48 = .ok (.istore 4, 2) := by decide +kernel
theorem dX9_level_50 : decode cX9_level 50 = .ok (.aload_n 0, 1) := by decide +kernel
theorem dX9_level_51 : decode cX9_level 51 = .ok (.getfield 7, 3) := by decide +kernel
theorem dX9_level_54 : decode cX9_level 54 = .ok (.bipush 25, 2) := by decide +kernel
theorem dX9_level_56 : decode cX9_level 56 = .ok (.bipush 6, 2) := by decide +kernel
theorem dX9_level_58 : decode cX9_level 58 = .ok (.iload_n 1, 1) := by decide +kernel
theorem dX9_level_59 : decode cX9_level 59 = .ok (.imul, 1) := by decide +kernel
theorem dX9_level_60 : decode cX9_level 60 = .ok (.iadd, 1) := by decide +kernel
theorem dX9_level_61 : decode cX9_level 61 = .ok (.iload_n 2, 1) := by decide +kernel
theorem dX9_level_62 : decode cX9_level 62 = .ok (.iadd, 1) := by decide +kernel
theorem dX9_level_63 : decode cX9_level 63 = .ok (.iload_n 3, 1) := by decide +kernel
theorem dX9_level_64 : decode cX9_level 64 = .ok (.iastore, 1) := by decide +kernel
theorem dX9_level_65 : decode cX9_level 65 = .ok (.iload 4, 2) := by decide +kernel
theorem dX9_level_67 : decode cX9_level 67 = .ok (.ireturn, 1) := by decide +kernel
theorem dX9_meaning_0 : decode cX9_meaning 0 = .ok (.iload_n 1, 1) := by decide +kernel
theorem dX9_meaning_1 : decode cX9_meaning 1 = .ok (.iconst 0, 1) := by decide +kernel
theorem dX9_meaning_2 : decode cX9_meaning 2 = .ok (.bipush 99, 2) := by decide +kernel
theorem dX9_meaning_4 : decode cX9_meaning 4 = .ok (.invokestatic 50, 3) := by decide +kernel
theorem dX9_meaning_7 : decode cX9_meaning 7 = .ok (.ifCond .ne 10, 3) := by decide +kernel
theorem dX9_meaning_10 : decode cX9_meaning 10 = .ok (.aload_n 0, 1) := by decide +kernel
theorem dX9_meaning_11 : decode cX9_meaning 11 = .ok (.bipush (-2), 2) := by decide +kernel
theorem dX9_meaning_13 : decode cX9_meaning 13 = .ok (.invokevirtual 54, 3) := by decide +kernel
theorem dX9_meaning_16 : decode cX9_meaning 16 = .ok (.ireturn, 1) := by decide +kernel
theorem dX9_meaning_17 : decode cX9_meaning 17 = .ok (.aload_n 0, 1) := by decide +kernel
theorem dX9_meaning_18 : decode cX9_meaning 18 = .ok (.getfield 7, 3) := by decide +kernel
theorem dX9_meaning_21 : decode cX9_meaning 21 = .ok (.iconst 1, 1) := by decide +kernel
theorem dX9_meaning_22 : decode cX9_meaning 22 = .ok (.iaload, 1) := by decide +kernel
theorem dX9_meaning_23 : decode cX9_meaning 23 = .ok (.istore_n 2, 1) := by decide +kernel
theorem dX9_meaning_24 : decode cX9_meaning 24 = .ok (.iload_n 2, 1) := by decide +kernel
theorem dX9_meaning_25 : decode cX9_meaning 25 = .ok (.bipush 6, 2) := by decide +kernel
theorem dX9_meaning_27 : decode cX9_meaning 27 = .ok (.if_icmp .ne 10, 3) := by decide +kernel
theorem dX9_meaning_30 : decode cX9_meaning 30 = .ok (.aload_n 0, 1) := by decide +kernel
theorem dX9_meaning_31 : decode cX9_meaning 31 = .ok (.bipush (-4), 2) := by decide +kernel
theorem dX9_meaning_33 : decode cX9_meaning 33 = .ok (.invokevirtual 54, 3) := by decide +kernel
theorem dX9_meaning_36 : decode cX9_meaning 36 = .ok (.ireturn, 1) := by decide +kernel
theorem dX9_meaning_37 : decode cX9_meaning 37 = .ok (.aload_n 0, 1) := by decide +kernel
theorem dX9_meaning_38 : decode cX9_meaning 38 = .ok (.getfield 7, 3) := by decide +kernel
theorem dX9_meaning_41 : decode cX9_meaning 41 = .ok (.bipush 85, 2) := by decide +kernel
theorem dX9_meaning_43 : decode cX9_meaning 43 = .ok (.iload_n 2, 1) := by decide +kernel
theorem dX9_meaning_44 : decode cX9_meaning 44 = .ok (.iadd, 1) := by decide +kernel
theorem dX9_meaning_45 : decode cX9_meaning 45 = .ok (.iload_n 1, 1) := by decide +kernel
theorem dX9_meaning_46 : decode cX9_meaning 46 = .ok (.iastore, 1) := by decide +kernel
theorem dX9_meaning_47 : decode cX9_meaning 47 = .ok (.iconst 0, 1) := by decide +kernel
theorem dX9_meaning_48 : decode cX9_meaning 48 = .ok (.istore_n 3, 1) := by decide +kernel
theorem dX9_meaning_49 : decode cX9_meaning 49 = .ok (.iload_n 3, 1) := by decide +kernel
theorem dX9_meaning_50 : decode cX9_meaning 50 = .ok (.bipush 6, 2) := by decide +kernel
theorem dX9_meaning_52 : decode cX9_meaning 52 = .ok (.if_icmp .ge 24, 3) := by decide +kernel
theorem dX9_meaning_55 : decode cX9_meaning 55 = .ok (.aload_n 0, 1) := by decide +kernel
theorem dX9_meaning_56 : decode cX9_meaning 56 = .ok (.getfield 7, 3) := by decide +kernel
theorem dX9_meaning_59 : decode cX9_meaning 59 = .ok (.bipush 91, 2) := by decide +kernel
theorem dX9_meaning_61 : decode cX9_meaning 61 = .ok (.bipush 6, 2) := by decide +kernel
theorem dX9_meaning_63 : decode cX9_meaning 63 = .ok (.iload_n 2, 1) := by decide +kernel
theorem dX9_meaning_64 : decode cX9_meaning 64 = .ok (.imul, 1) := by decide +kernel
theorem dX9_meaning_65 : decode cX9_meaning 65 = .ok (.iadd, 1) := by decide +kernel
theorem dX9_meaning_66 : decode cX9_meaning 66 = .ok (.iload_n 3, 1) := by decide +kernel
theorem dX9_meaning_67 : decode cX9_meaning 67 = .ok (.iadd, 1) := by decide +kernel
theorem dX9_meaning_68 : decode cX9_meaning 68 = .ok (.iconst 0, 1) := by decide +kernel
theorem dX9_meaning_69 : decode cX9_meaning 69 = .ok (.iastore, 1) := by decide +kernel
theorem dX9_meaning_70 : decode cX9_meaning 70 = .ok (.iinc 3 1, 3) := by decide +kernel
theorem dX9_meaning_73 : decode cX9_meaning 73 = .ok (.goto (-24), 3) := by decide +kernel
theorem dX9_meaning_76 : decode cX9_meaning 76 = .ok (.aload_n 0, 1) := by decide +kernel
theorem dX9_meaning_77 : decode cX9_meaning 77 = .ok (.getfield 7, 3) := by decide +kernel
theorem dX9_meaning_80 : decode cX9_meaning 80 = .ok (.iconst 1, 1) := by decide +kernel
theorem dX9_meaning_81 : decode cX9_meaning 81 = .ok (.dup2, 1) := by decide +kernel
theorem dX9_meaning_82 : decode cX9_meaning 82 = .ok (.iaload, 1) := by decide +kernel
theorem dX9_meaning_83 : decode cX9_meaning 83 = .ok (.iconst 1, 1) := by decide +kernel
theorem dX9_meaning_84 : decode cX9_meaning 84 = .ok (.iadd, 1) := by decide +kernel
theorem dX9_meaning_85 : decode cX9_meaning 85 = .ok (.iastore, 1) := by decide +kernel
theorem dX9_meaning_86 : decode cX9_meaning 86 = .ok (.iload_n 2, 1) := by decide +kernel
theorem dX9_meaning_87 : decode cX9_meaning 87 = .ok (.ireturn, 1) := by decide +kernel
theorem dX9_want_0 : decode cX9_want 0 = .ok (.aload_n 0, 1) := by decide +kernel
theorem dX9_want_1 : decode cX9_want 1 = .ok (.iload_n 1, 1) := by decide +kernel
theorem dX9_want_2 : decode cX9_want 2 = .ok (.invokevirtual 62, 3) := by decide +kernel
theorem dX9_want_5 : decode cX9_want 5 = .ok (.ifCond .eq 23, 3) := by decide +kernel
theorem dX9_want_8 : decode cX9_want 8 = .ok (.iload_n 2, 1) := by decide +kernel
theorem dX9_want_9 : decode cX9_want 9 = .ok (.iconst 0, 1) := by decide +kernel
theorem dX9_want_10 : decode cX9_want 10 = .ok (.iconst 5, 1) := by decide +kernel
theorem dX9_want_11 : decode cX9_want 11 = .ok (.invokestatic 50, 3) := by decide +kernel
theorem dX9_want_14 : decode cX9_want 14 = .ok (.ifCond .eq 14, 3) := by decide +kernel
theorem dX9_want_17 : decode cX9_want 17 = .ok (.iload_n 3, 1) := by decide +kernel
theorem dX9_want_18 : decode cX9_want 18 = .ok (.iconst 0, 1) := by decide +kernel
theorem dX9_want_19 : decode cX9_want 19 = .ok (.sipush 799, 3) := by decide +kernel
theorem dX9_want_22 : decode cX9_want 22 = .ok (.invokestatic 50, 3) := by decide +kernel
theorem dX9_want_25 : decode cX9_want 25 = .ok (.ifCond .ne 10, 3) := by decide +kernel
theorem dX9_want_28 : decode cX9_want 28 = .ok (.aload_n 0, 1) := by decide +kernel
theorem dX9_want_29 : decode cX9_want 29 = .ok (.bipush (-2), 2) := by decide +kernel
theorem dX9_want_31 : decode cX9_want 31 = .ok (.invokevirtual 54, 3) := by decide +kernel
theorem dX9_want_34 : decode cX9_want 34 = .ok (.ireturn, 1) := by decide +kernel
theorem dX9_want_35 : decode cX9_want 35 = .ok (.aload_n 0, 1) := by decide +kernel
theorem dX9_want_36 : decode cX9_want 36 = .ok (.getfield 7, 3) := by decide +kernel
theorem dX9_want_39 : decode cX9_want 39 = .ok (.bipush 91, 2) := by decide +kernel
theorem dX9_want_41 : decode cX9_want 41 = .ok (.bipush 6, 2) := by decide +kernel
theorem dX9_want_43 : decode cX9_want 43 = .ok (.iload_n 1, 1) := by decide +kernel
theorem dX9_want_44 : decode cX9_want 44 = .ok (.imul, 1) := by decide +kernel
theorem dX9_want_45 : decode cX9_want 45 = .ok (.iadd, 1) := by decide +kernel
theorem dX9_want_46 : decode cX9_want 46 = .ok (.iload_n 2, 1) := by decide +kernel
theorem dX9_want_47 : decode cX9_want 47 = .ok (.iadd, 1) := by decide +kernel
theorem dX9_want_48 : decode cX9_want 48 = .ok (.iaload, 1) := by decide +kernel
theorem dX9_want_49 : decode cX9_want 49 = .ok (.istore 4, 2) := by decide +kernel
theorem dX9_want_51 : decode cX9_want 51 = .ok (.aload_n 0, 1) := by decide +kernel
theorem dX9_want_52 : decode cX9_want 52 = .ok (.getfield 7, 3) := by decide +kernel
theorem dX9_want_55 : decode cX9_want 55 = .ok (.bipush 91, 2) := by decide +kernel
theorem dX9_want_57 : decode cX9_want 57 = .ok (.bipush 6, 2) := by decide +kernel
theorem dX9_want_59 : decode cX9_want 59 = .ok (.iload_n 1, 1) := by decide +kernel
theorem dX9_want_60 : decode cX9_want 60 = .ok (.imul, 1) := by decide +kernel
theorem dX9_want_61 : decode cX9_want 61 = .ok (.iadd, 1) := by decide +kernel
theorem dX9_want_62 : decode cX9_want 62 = .ok (.iload_n 2, 1) := by decide +kernel
theorem dX9_want_63 : decode cX9_want 63 = .ok (.iadd, 1) := by decide +kernel
theorem dX9_want_64 : decode cX9_want 64 = .ok (.iload_n 3, 1) := by decide +kernel
theorem dX9_want_65 : decode cX9_want 65 = .ok (.iastore, 1) := by decide +kernel
theorem dX9_want_66 : decode cX9_want 66 = .ok (.iload 4, 2) := by decide +kernel
theorem dX9_want_68 : decode cX9_want 68 = .ok (.ireturn, 1) := by decide +kernel
theorem dX9_put_0 : decode cX9_put 0 = .ok (.iload_n 1, 1) := by decide +kernel
theorem dX9_put_1 : decode cX9_put 1 = .ok (.iconst 1, 1) := by decide +kernel
theorem dX9_put_2 : decode cX9_put 2 = .ok (.if_icmp .eq 8, 3) := by decide +kernel
theorem dX9_put_5 : decode cX9_put 5 = .ok (.iload_n 1, 1) := by decide +kernel
theorem dX9_put_6 : decode cX9_put 6 = .ok (.iconst 2, 1) := by decide +kernel
theorem dX9_put_7 : decode cX9_put 7 = .ok (.if_icmp .ne 7, 3) := by decide +kernel
theorem dX9_put_10 : decode cX9_put 10 = .ok (.iconst 1, 1) := by decide +kernel
theorem dX9_put_11 : decode cX9_put 11 = .ok (.goto 4, 3) := by decide +kernel
theorem dX9_put_14 : decode cX9_put 14 = .ok (.iconst 0, 1) := by decide +kernel
theorem dX9_put_15 : decode cX9_put 15 = .ok (.istore_n 3, 1) := by decide +kernel
theorem dX9_put_16 : decode cX9_put 16 = .ok (.iload_n 1, 1) := by decide +kernel
theorem dX9_put_17 : decode cX9_put 17 = .ok (.ifCond .ne 9, 3) := by decide +kernel
theorem dX9_put_20 : decode cX9_put 20 = .ok (.sipush 2000, 3) := by decide +kernel
theorem dX9_put_23 : decode cX9_put 23 = .ok (.goto 15, 3) := by decide +kernel
theorem dX9_put_26 : decode cX9_put 26 = .ok (.iload_n 1, 1) := by decide +kernel
theorem dX9_put_27 : decode cX9_put 27 = .ok (.iconst 3, 1) := by decide +kernel
theorem dX9_put_28 : decode cX9_put 28 = .ok (.if_icmp .ge 8, 3) := by decide +kernel
theorem dX9_put_31 : decode cX9_put 31 = .ok (.bipush 9, 2) := by decide +kernel
theorem dX9_put_33 : decode cX9_put 33 = .ok (.goto 5, 3) := by decide +kernel
theorem dX9_put_36 : decode cX9_put 36 = .ok (.bipush 99, 2) := by decide +kernel
theorem dX9_put_38 : decode cX9_put 38 = .ok (.istore 4, 2) := by decide +kernel
theorem dX9_put_40 : decode cX9_put 40 = .ok (.iload_n 1, 1) := by decide +kernel
theorem dX9_put_41 : decode cX9_put 41 = .ok (.iconst 0, 1) := by decide +kernel
theorem dX9_put_42 : decode cX9_put 42 = .ok (.iconst 4, 1) := by decide +kernel
theorem dX9_put_43 : decode cX9_put 43 = .ok (.invokestatic 50, 3) := by decide +kernel
theorem dX9_put_46 : decode cX9_put 46 = .ok (.ifCond .eq 13, 3) := by decide +kernel
theorem dX9_put_49 : decode cX9_put 49 = .ok (.iload_n 2, 1) := by decide +kernel
theorem dX9_put_50 : decode cX9_put 50 = .ok (.iload_n 3, 1) := by decide +kernel
theorem dX9_put_51 : decode cX9_put 51 = .ok (.iload 4, 2) := by decide +kernel
theorem dX9_put_53 : decode cX9_put 53 = .ok (.invokestatic 50, 3) := by decide +kernel
theorem dX9_put_56 : decode cX9_put 56 = .ok (.ifCond .ne 10, 3) := by decide +kernel
theorem dX9_put_59 : decode cX9_put 59 = .ok (.aload_n 0, 1) := by decide +kernel
theorem dX9_put_60 : decode cX9_put 60 = .ok (.bipush (-2), 2) := by decide +kernel
theorem dX9_put_62 : decode cX9_put 62 = .ok (.invokevirtual 54, 3) := by decide +kernel
theorem dX9_put_65 : decode cX9_put 65 = .ok (.ireturn, 1) := by decide +kernel
theorem dX9_put_66 : decode cX9_put 66 = .ok (.aload_n 0, 1) := by decide +kernel
theorem dX9_put_67 : decode cX9_put 67 = .ok (.getfield 7, 3) := by decide +kernel
theorem dX9_put_70 : decode cX9_put 70 = .ok (.bipush 127, 2) := by decide +kernel
theorem dX9_put_72 : decode cX9_put 72 = .ok (.iload_n 1, 1) := by decide +kernel
theorem dX9_put_73 : decode cX9_put 73 = .ok (.iadd, 1) := by decide +kernel
theorem dX9_put_74 : decode cX9_put 74 = .ok (.iaload, 1) := by decide +kernel
theorem dX9_put_75 : decode cX9_put 75 = .ok (.istore 5, 2) := by decide +kernel
theorem dX9_put_77 : decode cX9_put 77 = .ok (.aload_n 0, 1) := by decide +kernel
theorem dX9_put_78 : decode cX9_put 78 = .ok (.getfield 7, 3) := by decide +kernel
theorem dX9_put_81 : decode cX9_put 81 = .ok (.bipush 127, 2) := by decide +kernel
theorem dX9_put_83 : decode cX9_put 83 = .ok (.iload_n 1, 1) := by decide +kernel
theorem dX9_put_84 : decode cX9_put 84 = .ok (.iadd, 1) := by decide +kernel
theorem dX9_put_85 : decode cX9_put 85 = .ok (.iload_n 2, 1) := by decide +kernel
theorem dX9_put_86 : decode cX9_put 86 = .ok (.iastore, 1) := by decide +kernel
theorem dX9_put_87 : decode cX9_put 87 = .ok (.iload 5, 2) := by decide +kernel
theorem dX9_put_89 : decode cX9_put 89 = .ok (.ireturn, 1) := by decide +kernel
theorem dX9_trueOf_0 : decode cX9_trueOf 0 = .ok (.aload_n 0, 1) := by decide +kernel
theorem dX9_trueOf_1 : decode cX9_trueOf 1 = .ok (.getfield 7, 3) := by decide +kernel
theorem dX9_trueOf_4 : decode cX9_trueOf 4 = .ok (.bipush 25, 2) := by decide +kernel
theorem dX9_trueOf_6 : decode cX9_trueOf 6 = .ok (.bipush 6, 2) := by decide +kernel
theorem dX9_trueOf_8 : decode cX9_trueOf 8 = .ok (.iload_n 1, 1) := by decide +kernel
theorem dX9_trueOf_9 : decode cX9_trueOf 9 = .ok (.imul, 1) := by decide +kernel
theorem dX9_trueOf_10 : decode cX9_trueOf 10 = .ok (.iadd, 1) := by decide +kernel
theorem dX9_trueOf_11 : decode cX9_trueOf 11 = .ok (.iload_n 2, 1) := by decide +kernel
theorem dX9_trueOf_12 : decode cX9_trueOf 12 = .ok (.iadd, 1) := by decide +kernel
theorem dX9_trueOf_13 : decode cX9_trueOf 13 = .ok (.iaload, 1) := by decide +kernel
theorem dX9_trueOf_14 : decode cX9_trueOf 14 = .ok (.istore 4, 2) := by decide +kernel
theorem dX9_trueOf_16 : decode cX9_trueOf 16 = .ok (.iconst 0, 1) := by decide +kernel
theorem dX9_trueOf_17 : decode cX9_trueOf 17 = .ok (.istore 5, 2) := by decide +kernel
theorem dX9_trueOf_19 : decode cX9_trueOf 19 = .ok (.iload 5, 2) := by decide +kernel
theorem dX9_trueOf_21 : decode cX9_trueOf 21 = .ok (.iload_n 3, 1) := by decide +kernel
theorem dX9_trueOf_22 : decode cX9_trueOf 22 = .ok (.if_icmp .ge 29, 3) := by decide +kernel
theorem dX9_trueOf_25 : decode cX9_trueOf 25 = .ok (.iload 4, 2) := by decide +kernel
theorem dX9_trueOf_27 : decode cX9_trueOf 27 = .ok (.bipush 10, 2) := by decide +kernel
theorem dX9_trueOf_29 : decode cX9_trueOf 29 = .ok (.aload_n 0, 1) := by decide +kernel
theorem dX9_trueOf_30 : decode cX9_trueOf 30 = .ok (.getfield 7, 3) := by decide +kernel
theorem dX9_trueOf_33 : decode cX9_trueOf 33 = .ok (.bipush 15, 2) := by decide +kernel
theorem dX9_trueOf_35 : decode cX9_trueOf 35 = .ok (.iload_n 1, 1) := by decide +kernel
theorem dX9_trueOf_36 : decode cX9_trueOf 36 = .ok (.iadd, 1) := by decide +kernel
theorem dX9_trueOf_37 : decode cX9_trueOf 37 = .ok (.iaload, 1) := by decide +kernel
theorem dX9_trueOf_38 : decode cX9_trueOf 38 = .ok (.isub, 1) := by decide +kernel
theorem dX9_trueOf_39 : decode cX9_trueOf 39 = .ok (.imul, 1) := by decide +kernel
theorem dX9_trueOf_40 : decode cX9_trueOf 40 = .ok (.bipush 10, 2) := by decide +kernel
theorem dX9_trueOf_42 : decode cX9_trueOf 42 = .ok (.idiv, 1) := by decide +kernel
theorem dX9_trueOf_43 : decode cX9_trueOf 43 = .ok (.istore 4, 2) := by decide +kernel
theorem dX9_trueOf_45 : decode cX9_trueOf 45 = .ok (.iinc 5 1, 3) := by decide +kernel
theorem dX9_trueOf_48 : decode cX9_trueOf 48 = .ok (.goto (-29), 3) := by decide +kernel
theorem dX9_trueOf_51 : decode cX9_trueOf 51 = .ok (.iload 4, 2) := by decide +kernel
theorem dX9_trueOf_53 : decode cX9_trueOf 53 = .ok (.ireturn, 1) := by decide +kernel
theorem dX9_stoodOf_0 : decode cX9_stoodOf 0 = .ok (.aload_n 0, 1) := by decide +kernel
theorem dX9_stoodOf_1 : decode cX9_stoodOf 1 = .ok (.iload_n 1, 1) := by decide +kernel
theorem dX9_stoodOf_2 : decode cX9_stoodOf 2 = .ok (.iload_n 2, 1) := by decide +kernel
theorem dX9_stoodOf_3 : decode cX9_stoodOf 3 = .ok (.iload_n 3, 1) := by decide +kernel
theorem dX9_stoodOf_4 : decode cX9_stoodOf 4 = .ok (.invokevirtual 65, 3) := by decide +kernel
theorem dX9_stoodOf_7 : decode cX9_stoodOf 7 = .ok (.iload_n 3, 1) := by decide +kernel
theorem dX9_stoodOf_8 : decode cX9_stoodOf 8 = .ok (.iconst 2, 1) := by decide +kernel
theorem dX9_stoodOf_9 : decode cX9_stoodOf 9 = .ok (.irem, 1) := by decide +kernel
theorem dX9_stoodOf_10 : decode cX9_stoodOf 10 = .ok (.iconst 1, 1) := by decide +kernel
theorem dX9_stoodOf_11 : decode cX9_stoodOf 11 = .ok (.if_icmp .ne 7, 3) := by decide +kernel
theorem dX9_stoodOf_14 : decode cX9_stoodOf 14 = .ok (.iconst 3, 1) := by decide +kernel
theorem dX9_stoodOf_15 : decode cX9_stoodOf 15 = .ok (.goto 4, 3) := by decide +kernel
theorem dX9_stoodOf_18 : decode cX9_stoodOf 18 = .ok (.iconst 0, 1) := by decide +kernel
theorem dX9_stoodOf_19 : decode cX9_stoodOf 19 = .ok (.iadd, 1) := by decide +kernel
theorem dX9_stoodOf_20 : decode cX9_stoodOf 20 = .ok (.istore 4, 2) := by decide +kernel
theorem dX9_stoodOf_22 : decode cX9_stoodOf 22 = .ok (.iload 4, 2) := by decide +kernel
theorem dX9_stoodOf_24 : decode cX9_stoodOf 24 = .ok (.bipush 99, 2) := by decide +kernel
theorem dX9_stoodOf_26 : decode cX9_stoodOf 26 = .ok (.if_icmp .le 8, 3) := by decide +kernel
theorem dX9_stoodOf_29 : decode cX9_stoodOf 29 = .ok (.bipush 99, 2) := by decide +kernel
theorem dX9_stoodOf_31 : decode cX9_stoodOf 31 = .ok (.goto 5, 3) := by decide +kernel
theorem dX9_stoodOf_34 : decode cX9_stoodOf 34 = .ok (.iload 4, 2) := by decide +kernel
theorem dX9_stoodOf_36 : decode cX9_stoodOf 36 = .ok (.ireturn, 1) := by decide +kernel
theorem dX9_classOf_0 : decode cX9_classOf 0 = .ok (.aload_n 0, 1) := by decide +kernel
theorem dX9_classOf_1 : decode cX9_classOf 1 = .ok (.iload_n 1, 1) := by decide +kernel
theorem dX9_classOf_2 : decode cX9_classOf 2 = .ok (.iload_n 2, 1) := by decide +kernel
theorem dX9_classOf_3 : decode cX9_classOf 3 = .ok (.iload_n 3, 1) := by decide +kernel
theorem dX9_classOf_4 : decode cX9_classOf 4 = .ok (.invokevirtual 65, 3) := by decide +kernel
theorem dX9_classOf_7 : decode cX9_classOf 7 = .ok (.istore 4, 2) := by decide +kernel
theorem dX9_classOf_9 : decode cX9_classOf 9 = .ok (.aload_n 0, 1) := by decide +kernel
theorem dX9_classOf_10 : decode cX9_classOf 10 = .ok (.getfield 7, 3) := by decide +kernel
theorem dX9_classOf_13 : decode cX9_classOf 13 = .ok (.iconst 5, 1) := by decide +kernel
theorem dX9_classOf_14 : decode cX9_classOf 14 = .ok (.iload_n 1, 1) := by decide +kernel
theorem dX9_classOf_15 : decode cX9_classOf 15 = .ok (.iadd, 1) := by decide +kernel
theorem dX9_classOf_16 : decode cX9_classOf 16 = .ok (.iaload, 1) := by decide +kernel
theorem dX9_classOf_17 : decode cX9_classOf 17 = .ok (.tableswitch 70 0 3 #[31, 34, 42, 53], 31) := by decide +kernel
theorem dX9_classOf_48 : decode cX9_classOf 48 = .ok (.iload 4, 2) := by decide +kernel
theorem dX9_classOf_50 : decode cX9_classOf 50 = .ok (.ireturn, 1) := by decide +kernel
theorem dX9_classOf_51 : decode cX9_classOf 51 = .ok (.aload_n 0, 1) := by decide +kernel
theorem dX9_classOf_52 : decode cX9_classOf 52 = .ok (.iload_n 1, 1) := by decide +kernel
theorem dX9_classOf_53 : decode cX9_classOf 53 = .ok (.iload_n 2, 1) := by decide +kernel
theorem dX9_classOf_54 : decode cX9_classOf 54 = .ok (.iload_n 3, 1) := by decide +kernel
theorem dX9_classOf_55 : decode cX9_classOf 55 = .ok (.invokevirtual 69, 3) := by decide +kernel
theorem dX9_classOf_58 : decode cX9_classOf 58 = .ok (.ireturn, 1) := by decide +kernel
theorem dX9_classOf_59 : decode cX9_classOf 59 = .ok (.aload_n 0, 1) := by decide +kernel
theorem dX9_classOf_60 : decode cX9_classOf 60 = .ok (.iload_n 1, 1) := by decide +kernel
theorem dX9_classOf_61 : decode cX9_classOf 61 = .ok (.iload_n 2, 1) := by decide +kernel
theorem dX9_classOf_62 : decode cX9_classOf 62 = .ok (.bipush 7, 2) := by decide +kernel
theorem dX9_classOf_64 : decode cX9_classOf 64 = .ok (.iload_n 3, 1) := by decide +kernel
theorem dX9_classOf_65 : decode cX9_classOf 65 = .ok (.isub, 1) := by decide +kernel
theorem dX9_classOf_66 : decode cX9_classOf 66 = .ok (.invokevirtual 69, 3) := by decide +kernel
theorem dX9_classOf_69 : decode cX9_classOf 69 = .ok (.ireturn, 1) := by decide +kernel
theorem dX9_classOf_70 : decode cX9_classOf 70 = .ok (.iload 4, 2) := by decide +kernel
theorem dX9_classOf_72 : decode cX9_classOf 72 = .ok (.bipush 49, 2) := by decide +kernel
theorem dX9_classOf_74 : decode cX9_classOf 74 = .ok (.if_icmp .le 8, 3) := by decide +kernel
theorem dX9_classOf_77 : decode cX9_classOf 77 = .ok (.bipush 99, 2) := by decide +kernel
theorem dX9_classOf_79 : decode cX9_classOf 79 = .ok (.goto 7, 3) := by decide +kernel
theorem dX9_classOf_82 : decode cX9_classOf 82 = .ok (.iconst 2, 1) := by decide +kernel
theorem dX9_classOf_83 : decode cX9_classOf 83 = .ok (.iload 4, 2) := by decide +kernel
theorem dX9_classOf_85 : decode cX9_classOf 85 = .ok (.imul, 1) := by decide +kernel
theorem dX9_classOf_86 : decode cX9_classOf 86 = .ok (.ireturn, 1) := by decide +kernel
theorem dX9_classOf_87 : decode cX9_classOf 87 = .ok (.iload 4, 2) := by decide +kernel
theorem dX9_classOf_89 : decode cX9_classOf 89 = .ok (.iload 4, 2) := by decide +kernel
theorem dX9_classOf_91 : decode cX9_classOf 91 = .ok (.iload_n 2, 1) := by decide +kernel
theorem dX9_classOf_92 : decode cX9_classOf 92 = .ok (.imul, 1) := by decide +kernel
theorem dX9_classOf_93 : decode cX9_classOf 93 = .ok (.bipush 8, 2) := by decide +kernel
theorem dX9_classOf_95 : decode cX9_classOf 95 = .ok (.idiv, 1) := by decide +kernel
theorem dX9_classOf_96 : decode cX9_classOf 96 = .ok (.isub, 1) := by decide +kernel
theorem dX9_classOf_97 : decode cX9_classOf 97 = .ok (.ireturn, 1) := by decide +kernel
theorem dX9_valueOf_0 : decode cX9_valueOf 0 = .ok (.aload_n 0, 1) := by decide +kernel
theorem dX9_valueOf_1 : decode cX9_valueOf 1 = .ok (.iload_n 1, 1) := by decide +kernel
theorem dX9_valueOf_2 : decode cX9_valueOf 2 = .ok (.iload_n 2, 1) := by decide +kernel
theorem dX9_valueOf_3 : decode cX9_valueOf 3 = .ok (.iload_n 3, 1) := by decide +kernel
theorem dX9_valueOf_4 : decode cX9_valueOf 4 = .ok (.invokevirtual 72, 3) := by decide +kernel
theorem dX9_valueOf_7 : decode cX9_valueOf 7 = .ok (.iload 4, 2) := by decide +kernel
theorem dX9_valueOf_9 : decode cX9_valueOf 9 = .ok (.iload_n 2, 1) := by decide +kernel
theorem dX9_valueOf_10 : decode cX9_valueOf 10 = .ok (.iconst 1, 1) := by decide +kernel
theorem dX9_valueOf_11 : decode cX9_valueOf 11 = .ok (.iadd, 1) := by decide +kernel
theorem dX9_valueOf_12 : decode cX9_valueOf 12 = .ok (.imul, 1) := by decide +kernel
theorem dX9_valueOf_13 : decode cX9_valueOf 13 = .ok (.isub, 1) := by decide +kernel
theorem dX9_valueOf_14 : decode cX9_valueOf 14 = .ok (.istore 5, 2) := by decide +kernel
theorem dX9_valueOf_16 : decode cX9_valueOf 16 = .ok (.iload 5, 2) := by decide +kernel
theorem dX9_valueOf_18 : decode cX9_valueOf 18 = .ok (.ifCond .ge 7, 3) := by decide +kernel
theorem dX9_valueOf_21 : decode cX9_valueOf 21 = .ok (.iconst 0, 1) := by decide +kernel
theorem dX9_valueOf_22 : decode cX9_valueOf 22 = .ok (.goto 5, 3) := by decide +kernel
theorem dX9_valueOf_25 : decode cX9_valueOf 25 = .ok (.iload 5, 2) := by decide +kernel
theorem dX9_valueOf_27 : decode cX9_valueOf 27 = .ok (.ireturn, 1) := by decide +kernel
theorem dX9_loudOf_0 : decode cX9_loudOf 0 = .ok (.iconst 0, 1) := by decide +kernel
theorem dX9_loudOf_1 : decode cX9_loudOf 1 = .ok (.istore 4, 2) := by decide +kernel
theorem dX9_loudOf_3 : decode cX9_loudOf 3 = .ok (.iconst 0, 1) := by decide +kernel
theorem dX9_loudOf_4 : decode cX9_loudOf 4 = .ok (.istore 5, 2) := by decide +kernel
theorem dX9_loudOf_6 : decode cX9_loudOf 6 = .ok (.iload 5, 2) := by decide +kernel
theorem dX9_loudOf_8 : decode cX9_loudOf 8 = .ok (.bipush 8, 2) := by decide +kernel
theorem dX9_loudOf_10 : decode cX9_loudOf 10 = .ok (.if_icmp .ge 23, 3) := by decide +kernel
theorem dX9_loudOf_13 : decode cX9_loudOf 13 = .ok (.iload 4, 2) := by decide +kernel
theorem dX9_loudOf_15 : decode cX9_loudOf 15 = .ok (.aload_n 0, 1) := by decide +kernel
theorem dX9_loudOf_16 : decode cX9_loudOf 16 = .ok (.iload_n 1, 1) := by decide +kernel
theorem dX9_loudOf_17 : decode cX9_loudOf 17 = .ok (.iload_n 2, 1) := by decide +kernel
theorem dX9_loudOf_18 : decode cX9_loudOf 18 = .ok (.iload 5, 2) := by decide +kernel
theorem dX9_loudOf_20 : decode cX9_loudOf 20 = .ok (.iload_n 3, 1) := by decide +kernel
theorem dX9_loudOf_21 : decode cX9_loudOf 21 = .ok (.invokevirtual 75, 3) := by decide +kernel
theorem dX9_loudOf_24 : decode cX9_loudOf 24 = .ok (.iadd, 1) := by decide +kernel
theorem dX9_loudOf_25 : decode cX9_loudOf 25 = .ok (.istore 4, 2) := by decide +kernel
theorem dX9_loudOf_27 : decode cX9_loudOf 27 = .ok (.iinc 5 1, 3) := by decide +kernel
theorem dX9_loudOf_30 : decode cX9_loudOf 30 = .ok (.goto (-24), 3) := by decide +kernel
theorem dX9_loudOf_33 : decode cX9_loudOf 33 = .ok (.iload 4, 2) := by decide +kernel
theorem dX9_loudOf_35 : decode cX9_loudOf 35 = .ok (.ireturn, 1) := by decide +kernel
theorem dX9_likenessOf_0 : decode cX9_likenessOf 0 = .ok (.iconst 0, 1) := by decide +kernel
theorem dX9_likenessOf_1 : decode cX9_likenessOf 1 = .ok (.istore 4, 2) := by decide +kernel
theorem dX9_likenessOf_3 : decode cX9_likenessOf 3 = .ok (.iconst 0, 1) := by decide +kernel
theorem dX9_likenessOf_4 : decode cX9_likenessOf 4 = .ok (.istore 5, 2) := by decide +kernel
theorem dX9_likenessOf_6 : decode cX9_likenessOf 6 = .ok (.iload 5, 2) := by decide +kernel
theorem dX9_likenessOf_8 : decode cX9_likenessOf 8 = .ok (.bipush 6, 2) := by decide +kernel
theorem dX9_likenessOf_10 : decode cX9_likenessOf 10 = .ok (.if_icmp .ge 53, 3) := by decide +kernel
theorem dX9_likenessOf_13 : decode cX9_likenessOf 13 = .ok (.aload_n 0, 1) := by decide +kernel
theorem dX9_likenessOf_14 : decode cX9_likenessOf 14 = .ok (.iload_n 1, 1) := by decide +kernel
theorem dX9_likenessOf_15 : decode cX9_likenessOf 15 = .ok (.iload 5, 2) := by decide +kernel
theorem dX9_likenessOf_17 : decode cX9_likenessOf 17 = .ok (.iload_n 3, 1) := by decide +kernel
theorem dX9_likenessOf_18 : decode cX9_likenessOf 18 = .ok (.invokevirtual 79, 3) := by decide +kernel
theorem dX9_likenessOf_21 : decode cX9_likenessOf 21 = .ok (.aload_n 0, 1) := by decide +kernel
theorem dX9_likenessOf_22 : decode cX9_likenessOf 22 = .ok (.getfield 7, 3) := by decide +kernel
theorem dX9_likenessOf_25 : decode cX9_likenessOf 25 = .ok (.bipush 91, 2) := by decide +kernel
theorem dX9_likenessOf_27 : decode cX9_likenessOf 27 = .ok (.bipush 6, 2) := by decide +kernel
theorem dX9_likenessOf_29 : decode cX9_likenessOf 29 = .ok (.iload_n 2, 1) := by decide +kernel
theorem dX9_likenessOf_30 : decode cX9_likenessOf 30 = .ok (.imul, 1) := by decide +kernel
theorem dX9_likenessOf_31 : decode cX9_likenessOf 31 = .ok (.iadd, 1) := by decide +kernel
theorem dX9_likenessOf_32 : decode cX9_likenessOf 32 = .ok (.iload 5, 2) := by decide +kernel
theorem dX9_likenessOf_34 : decode cX9_likenessOf 34 = .ok (.iadd, 1) := by decide +kernel
theorem dX9_likenessOf_35 : decode cX9_likenessOf 35 = .ok (.iaload, 1) := by decide +kernel
theorem dX9_likenessOf_36 : decode cX9_likenessOf 36 = .ok (.isub, 1) := by decide +kernel
theorem dX9_likenessOf_37 : decode cX9_likenessOf 37 = .ok (.istore 6, 2) := by decide +kernel
theorem dX9_likenessOf_39 : decode cX9_likenessOf 39 = .ok (.iload 4, 2) := by decide +kernel
theorem dX9_likenessOf_41 : decode cX9_likenessOf 41 = .ok (.iload 6, 2) := by decide +kernel
theorem dX9_likenessOf_43 : decode cX9_likenessOf 43 = .ok (.ifCond .ge 9, 3) := by decide +kernel
theorem dX9_likenessOf_46 : decode cX9_likenessOf 46 = .ok (.iload 6, 2) := by decide +kernel
theorem dX9_likenessOf_48 : decode cX9_likenessOf 48 = .ok (.ineg, 1) := by decide +kernel
theorem dX9_likenessOf_49 : decode cX9_likenessOf 49 = .ok (.goto 5, 3) := by decide +kernel
theorem dX9_likenessOf_52 : decode cX9_likenessOf 52 = .ok (.iload 6, 2) := by decide +kernel
theorem dX9_likenessOf_54 : decode cX9_likenessOf 54 = .ok (.iadd, 1) := by decide +kernel
theorem dX9_likenessOf_55 : decode cX9_likenessOf 55 = .ok (.istore 4, 2) := by decide +kernel
theorem dX9_likenessOf_57 : decode cX9_likenessOf 57 = .ok (.iinc 5 1, 3) := by decide +kernel
theorem dX9_likenessOf_60 : decode cX9_likenessOf 60 = .ok (.goto (-54), 3) := by decide +kernel
theorem dX9_likenessOf_63 : decode cX9_likenessOf 63 = .ok (.iload 4, 2) := by decide +kernel
theorem dX9_likenessOf_65 : decode cX9_likenessOf 65 = .ok (.sipush 1000, 3) := by decide +kernel
theorem dX9_likenessOf_68 : decode cX9_likenessOf 68 = .ok (.if_icmp .le 7, 3) := by decide +kernel
theorem dX9_likenessOf_71 : decode cX9_likenessOf 71 = .ok (.iconst 0, 1) := by decide +kernel
theorem dX9_likenessOf_72 : decode cX9_likenessOf 72 = .ok (.goto 9, 3) := by decide +kernel
theorem dX9_likenessOf_75 : decode cX9_likenessOf 75 = .ok (.sipush 1000, 3) := by decide +kernel
theorem dX9_likenessOf_78 : decode cX9_likenessOf 78 = .ok (.iload 4, 2) := by decide +kernel
theorem dX9_likenessOf_80 : decode cX9_likenessOf 80 = .ok (.isub, 1) := by decide +kernel
theorem dX9_likenessOf_81 : decode cX9_likenessOf 81 = .ok (.ireturn, 1) := by decide +kernel
theorem dX9_value_0 : decode cX9_value 0 = .ok (.aload_n 0, 1) := by decide +kernel
theorem dX9_value_1 : decode cX9_value 1 = .ok (.iload_n 1, 1) := by decide +kernel
theorem dX9_value_2 : decode cX9_value 2 = .ok (.invokevirtual 58, 3) := by decide +kernel
theorem dX9_value_5 : decode cX9_value 5 = .ok (.ifCond .eq 45, 3) := by decide +kernel
theorem dX9_value_8 : decode cX9_value 8 = .ok (.iload_n 2, 1) := by decide +kernel
theorem dX9_value_9 : decode cX9_value 9 = .ok (.iconst 0, 1) := by decide +kernel
theorem dX9_value_10 : decode cX9_value 10 = .ok (.iconst 5, 1) := by decide +kernel
theorem dX9_value_11 : decode cX9_value 11 = .ok (.invokestatic 50, 3) := by decide +kernel
theorem dX9_value_14 : decode cX9_value 14 = .ok (.ifCond .eq 36, 3) := by decide +kernel
theorem dX9_value_17 : decode cX9_value 17 = .ok (.iload_n 3, 1) := by decide +kernel
theorem dX9_value_18 : decode cX9_value 18 = .ok (.iconst 0, 1) := by decide +kernel
theorem dX9_value_19 : decode cX9_value 19 = .ok (.bipush 7, 2) := by decide +kernel
theorem dX9_value_21 : decode cX9_value 21 = .ok (.invokestatic 50, 3) := by decide +kernel
theorem dX9_value_24 : decode cX9_value 24 = .ok (.ifCond .eq 26, 3) := by decide +kernel
theorem dX9_value_27 : decode cX9_value 27 = .ok (.iload 4, 2) := by decide +kernel
theorem dX9_value_29 : decode cX9_value 29 = .ok (.iconst 0, 1) := by decide +kernel
theorem dX9_value_30 : decode cX9_value 30 = .ok (.bipush 9, 2) := by decide +kernel
theorem dX9_value_32 : decode cX9_value 32 = .ok (.invokestatic 50, 3) := by decide +kernel
theorem dX9_value_35 : decode cX9_value 35 = .ok (.ifCond .eq 15, 3) := by decide +kernel
theorem dX9_value_38 : decode cX9_value 38 = .ok (.aload_n 0, 1) := by decide +kernel
theorem dX9_value_39 : decode cX9_value 39 = .ok (.iload_n 1, 1) := by decide +kernel
theorem dX9_value_40 : decode cX9_value 40 = .ok (.iload_n 2, 1) := by decide +kernel
theorem dX9_value_41 : decode cX9_value 41 = .ok (.iload_n 3, 1) := by decide +kernel
theorem dX9_value_42 : decode cX9_value 42 = .ok (.iload 4, 2) := by decide +kernel
theorem dX9_value_44 : decode cX9_value 44 = .ok (.invokevirtual 75, 3) := by decide +kernel
theorem dX9_value_47 : decode cX9_value 47 = .ok (.goto 9, 3) := by decide +kernel
theorem dX9_value_50 : decode cX9_value 50 = .ok (.aload_n 0, 1) := by decide +kernel
theorem dX9_value_51 : decode cX9_value 51 = .ok (.bipush (-2), 2) := by decide +kernel
theorem dX9_value_53 : decode cX9_value 53 = .ok (.invokevirtual 54, 3) := by decide +kernel
theorem dX9_value_56 : decode cX9_value 56 = .ok (.ireturn, 1) := by decide +kernel
theorem dX9_loud_0 : decode cX9_loud 0 = .ok (.aload_n 0, 1) := by decide +kernel
theorem dX9_loud_1 : decode cX9_loud 1 = .ok (.iload_n 1, 1) := by decide +kernel
theorem dX9_loud_2 : decode cX9_loud 2 = .ok (.invokevirtual 58, 3) := by decide +kernel
theorem dX9_loud_5 : decode cX9_loud 5 = .ok (.ifCond .eq 32, 3) := by decide +kernel
theorem dX9_loud_8 : decode cX9_loud 8 = .ok (.iload_n 2, 1) := by decide +kernel
theorem dX9_loud_9 : decode cX9_loud 9 = .ok (.iconst 0, 1) := by decide +kernel
theorem dX9_loud_10 : decode cX9_loud 10 = .ok (.iconst 5, 1) := by decide +kernel
theorem dX9_loud_11 : decode cX9_loud 11 = .ok (.invokestatic 50, 3) := by decide +kernel
theorem dX9_loud_14 : decode cX9_loud 14 = .ok (.ifCond .eq 23, 3) := by decide +kernel
theorem dX9_loud_17 : decode cX9_loud 17 = .ok (.iload_n 3, 1) := by decide +kernel
theorem dX9_loud_18 : decode cX9_loud 18 = .ok (.iconst 0, 1) := by decide +kernel
theorem dX9_loud_19 : decode cX9_loud 19 = .ok (.bipush 9, 2) := by decide +kernel
theorem dX9_loud_21 : decode cX9_loud 21 = .ok (.invokestatic 50, 3) := by decide +kernel
theorem dX9_loud_24 : decode cX9_loud 24 = .ok (.ifCond .eq 13, 3) := by decide +kernel
theorem dX9_loud_27 : decode cX9_loud 27 = .ok (.aload_n 0, 1) := by decide +kernel
theorem dX9_loud_28 : decode cX9_loud 28 = .ok (.iload_n 1, 1) := by decide +kernel
theorem dX9_loud_29 : decode cX9_loud 29 = .ok (.iload_n 2, 1) := by decide +kernel
theorem dX9_loud_30 : decode cX9_loud 30 = .ok (.iload_n 3, 1) := by decide +kernel
theorem dX9_loud_31 : decode cX9_loud 31 = .ok (.invokevirtual 79, 3) := by decide +kernel
theorem dX9_loud_34 : decode cX9_loud 34 = .ok (.goto 9, 3) := by decide +kernel
theorem dX9_loud_37 : decode cX9_loud 37 = .ok (.aload_n 0, 1) := by decide +kernel
theorem dX9_loud_38 : decode cX9_loud 38 = .ok (.bipush (-2), 2) := by decide +kernel
theorem dX9_loud_40 : decode cX9_loud 40 = .ok (.invokevirtual 54, 3) := by decide +kernel
theorem dX9_loud_43 : decode cX9_loud 43 = .ok (.ireturn, 1) := by decide +kernel
theorem dX9_likeness_0 : decode cX9_likeness 0 = .ok (.aload_n 0, 1) := by decide +kernel
theorem dX9_likeness_1 : decode cX9_likeness 1 = .ok (.iload_n 1, 1) := by decide +kernel
theorem dX9_likeness_2 : decode cX9_likeness 2 = .ok (.invokevirtual 58, 3) := by decide +kernel
theorem dX9_likeness_5 : decode cX9_likeness 5 = .ok (.ifCond .eq 31, 3) := by decide +kernel
theorem dX9_likeness_8 : decode cX9_likeness 8 = .ok (.aload_n 0, 1) := by decide +kernel
theorem dX9_likeness_9 : decode cX9_likeness 9 = .ok (.iload_n 2, 1) := by decide +kernel
theorem dX9_likeness_10 : decode cX9_likeness 10 = .ok (.invokevirtual 62, 3) := by decide +kernel
theorem dX9_likeness_13 : decode cX9_likeness 13 = .ok (.ifCond .eq 23, 3) := by decide +kernel
theorem dX9_likeness_16 : decode cX9_likeness 16 = .ok (.iload_n 3, 1) := by decide +kernel
theorem dX9_likeness_17 : decode cX9_likeness 17 = .ok (.iconst 0, 1) := by decide +kernel
theorem dX9_likeness_18 : decode cX9_likeness 18 = .ok (.bipush 9, 2) := by decide +kernel
theorem dX9_likeness_20 : decode cX9_likeness 20 = .ok (.invokestatic 50, 3) := by decide +kernel
theorem dX9_likeness_23 : decode cX9_likeness 23 = .ok (.ifCond .eq 13, 3) := by decide +kernel
theorem dX9_likeness_26 : decode cX9_likeness 26 = .ok (.aload_n 0, 1) := by decide +kernel
theorem dX9_likeness_27 : decode cX9_likeness 27 = .ok (.iload_n 1, 1) := by decide +kernel
theorem dX9_likeness_28 : decode cX9_likeness 28 = .ok (.iload_n 2, 1) := by decide +kernel
theorem dX9_likeness_29 : decode cX9_likeness 29 = .ok (.iload_n 3, 1) := by decide +kernel
theorem dX9_likeness_30 : decode cX9_likeness 30 = .ok (.invokevirtual 82, 3) := by decide +kernel
theorem dX9_likeness_33 : decode cX9_likeness 33 = .ok (.goto 9, 3) := by decide +kernel
theorem dX9_likeness_36 : decode cX9_likeness 36 = .ok (.aload_n 0, 1) := by decide +kernel
theorem dX9_likeness_37 : decode cX9_likeness 37 = .ok (.bipush (-2), 2) := by decide +kernel
theorem dX9_likeness_39 : decode cX9_likeness 39 = .ok (.invokevirtual 54, 3) := by decide +kernel
theorem dX9_likeness_42 : decode cX9_likeness 42 = .ok (.ireturn, 1) := by decide +kernel
theorem dX9_weigh_0 : decode cX9_weigh 0 = .ok (.aload_n 0, 1) := by decide +kernel
theorem dX9_weigh_1 : decode cX9_weigh 1 = .ok (.iconst 0, 1) := by decide +kernel
theorem dX9_weigh_2 : decode cX9_weigh 2 = .ok (.putfield 85, 3) := by decide +kernel
theorem dX9_weigh_5 : decode cX9_weigh 5 = .ok (.iconst 0, 1) := by decide +kernel
theorem dX9_weigh_6 : decode cX9_weigh 6 = .ok (.istore 5, 2) := by decide +kernel
theorem dX9_weigh_8 : decode cX9_weigh 8 = .ok (.iload 5, 2) := by decide +kernel
theorem dX9_weigh_10 : decode cX9_weigh 10 = .ok (.aload_n 0, 1) := by decide +kernel
theorem dX9_weigh_11 : decode cX9_weigh 11 = .ok (.getfield 7, 3) := by decide +kernel
theorem dX9_weigh_14 : decode cX9_weigh 14 = .ok (.iconst 1, 1) := by decide +kernel
theorem dX9_weigh_15 : decode cX9_weigh 15 = .ok (.iaload, 1) := by decide +kernel
theorem dX9_weigh_16 : decode cX9_weigh 16 = .ok (.if_icmp .ge 103, 3) := by decide +kernel
theorem dX9_weigh_19 : decode cX9_weigh 19 = .ok (.aload_n 0, 1) := by decide +kernel
theorem dX9_weigh_20 : decode cX9_weigh 20 = .ok (.getfield 20, 3) := by decide +kernel
theorem dX9_weigh_23 : decode cX9_weigh 23 = .ok (.iload 5, 2) := by decide +kernel
theorem dX9_weigh_25 : decode cX9_weigh 25 = .ok (.aload_n 0, 1) := by decide +kernel
theorem dX9_weigh_26 : decode cX9_weigh 26 = .ok (.iload_n 1, 1) := by decide +kernel
theorem dX9_weigh_27 : decode cX9_weigh 27 = .ok (.iload 5, 2) := by decide +kernel
theorem dX9_weigh_29 : decode cX9_weigh 29 = .ok (.iload_n 2, 1) := by decide +kernel
theorem dX9_weigh_30 : decode cX9_weigh 30 = .ok (.invokevirtual 82, 3) := by decide +kernel
theorem dX9_weigh_33 : decode cX9_weigh 33 = .ok (.iastore, 1) := by decide +kernel
theorem dX9_weigh_34 : decode cX9_weigh 34 = .ok (.iload 5, 2) := by decide +kernel
theorem dX9_weigh_36 : decode cX9_weigh 36 = .ok (.iload_n 3, 1) := by decide +kernel
theorem dX9_weigh_37 : decode cX9_weigh 37 = .ok (.if_icmp .ne 60, 3) := by decide +kernel
theorem dX9_weigh_40 : decode cX9_weigh 40 = .ok (.iload 4, 2) := by decide +kernel
theorem dX9_weigh_42 : decode cX9_weigh 42 = .ok (.iconst 0, 1) := by decide +kernel
theorem dX9_weigh_43 : decode cX9_weigh 43 = .ok (.aload_n 0, 1) := by decide +kernel
theorem dX9_weigh_44 : decode cX9_weigh 44 = .ok (.getfield 7, 3) := by decide +kernel
theorem dX9_weigh_47 : decode cX9_weigh 47 = .ok (.sipush 128, 3) := by decide +kernel
theorem dX9_weigh_50 : decode cX9_weigh 50 = .ok (.iaload, 1) := by decide +kernel
theorem dX9_weigh_51 : decode cX9_weigh 51 = .ok (.iconst 1, 1) := by decide +kernel
theorem dX9_weigh_52 : decode cX9_weigh 52 = .ok (.isub, 1) := by decide +kernel
theorem dX9_weigh_53 : decode cX9_weigh 53 = .ok (.invokestatic 50, 3) := by decide +kernel
theorem dX9_weigh_56 : decode cX9_weigh 56 = .ok (.ifCond .eq 41, 3) := by decide +kernel
theorem dX9_weigh_59 : decode cX9_weigh 59 = .ok (.aload_n 0, 1) := by decide +kernel
theorem dX9_weigh_60 : decode cX9_weigh 60 = .ok (.getfield 20, 3) := by decide +kernel
theorem dX9_weigh_63 : decode cX9_weigh 63 = .ok (.iload 5, 2) := by decide +kernel
theorem dX9_weigh_65 : decode cX9_weigh 65 = .ok (.dup2, 1) := by decide +kernel
theorem dX9_weigh_66 : decode cX9_weigh 66 = .ok (.iaload, 1) := by decide +kernel
theorem dX9_weigh_67 : decode cX9_weigh 67 = .ok (.aload_n 0, 1) := by decide +kernel
theorem dX9_weigh_68 : decode cX9_weigh 68 = .ok (.getfield 7, 3) := by decide +kernel
theorem dX9_weigh_71 : decode cX9_weigh 71 = .ok (.bipush 127, 2) := by decide +kernel
theorem dX9_weigh_73 : decode cX9_weigh 73 = .ok (.iaload, 1) := by decide +kernel
theorem dX9_weigh_74 : decode cX9_weigh 74 = .ok (.aload_n 0, 1) := by decide +kernel
theorem dX9_weigh_75 : decode cX9_weigh 75 = .ok (.getfield 7, 3) := by decide +kernel
theorem dX9_weigh_78 : decode cX9_weigh 78 = .ok (.sipush 128, 3) := by decide +kernel
theorem dX9_weigh_81 : decode cX9_weigh 81 = .ok (.iaload, 1) := by decide +kernel
theorem dX9_weigh_82 : decode cX9_weigh 82 = .ok (.iload 4, 2) := by decide +kernel
theorem dX9_weigh_84 : decode cX9_weigh 84 = .ok (.isub, 1) := by decide +kernel
theorem dX9_weigh_85 : decode cX9_weigh 85 = .ok (.imul, 1) := by decide +kernel
theorem dX9_weigh_86 : decode cX9_weigh 86 = .ok (.aload_n 0, 1) := by decide +kernel
theorem dX9_weigh_87 : decode cX9_weigh 87 = .ok (.getfield 7, 3) := by decide +kernel
theorem dX9_weigh_90 : decode cX9_weigh 90 = .ok (.sipush 128, 3) := by decide +kernel
theorem dX9_weigh_93 : decode cX9_weigh 93 = .ok (.iaload, 1) := by decide +kernel
theorem dX9_weigh_94 : decode cX9_weigh 94 = .ok (.idiv, 1) := by decide +kernel
theorem dX9_weigh_95 : decode cX9_weigh 95 = .ok (.iadd, 1) := by decide +kernel
theorem dX9_weigh_96 : decode cX9_weigh 96 = .ok (.iastore, 1) := by decide +kernel
theorem dX9_weigh_97 : decode cX9_weigh 97 = .ok (.aload_n 0, 1) := by decide +kernel
theorem dX9_weigh_98 : decode cX9_weigh 98 = .ok (.dup, 1) := by decide +kernel
theorem dX9_weigh_99 : decode cX9_weigh 99 = .ok (.getfield 85, 3) := by decide +kernel
theorem dX9_weigh_102 : decode cX9_weigh 102 = .ok (.aload_n 0, 1) := by decide +kernel
theorem dX9_weigh_103 : decode cX9_weigh 103 = .ok (.getfield 20, 3) := by decide +kernel
theorem dX9_weigh_106 : decode cX9_weigh 106 = .ok (.iload 5, 2) := by decide +kernel
theorem dX9_weigh_108 : decode cX9_weigh 108 = .ok (.iaload, 1) := by decide +kernel
theorem dX9_weigh_109 : decode cX9_weigh 109 = .ok (.iadd, 1) := by decide +kernel
theorem dX9_weigh_110 : decode cX9_weigh 110 = .ok (.putfield 85, 3) := by decide +kernel
theorem dX9_weigh_113 : decode cX9_weigh 113 = .ok (.iinc 5 1, 3) := by decide +kernel
theorem dX9_weigh_116 : decode cX9_weigh 116 = .ok (.goto (-108), 3) := by decide +kernel
theorem dX9_weigh_119 : decode cX9_weigh 119 = .ok (.return_, 1) := by decide +kernel
theorem dX9_taken_0 : decode cX9_taken 0 = .ok (.aload_n 0, 1) := by decide +kernel
theorem dX9_taken_1 : decode cX9_taken 1 = .ok (.iload_n 1, 1) := by decide +kernel
theorem dX9_taken_2 : decode cX9_taken 2 = .ok (.invokevirtual 58, 3) := by decide +kernel
theorem dX9_taken_5 : decode cX9_taken 5 = .ok (.ifCond .eq 60, 3) := by decide +kernel
theorem dX9_taken_8 : decode cX9_taken 8 = .ok (.aload_n 0, 1) := by decide +kernel
theorem dX9_taken_9 : decode cX9_taken 9 = .ok (.iload_n 2, 1) := by decide +kernel
theorem dX9_taken_10 : decode cX9_taken 10 = .ok (.invokevirtual 62, 3) := by decide +kernel
theorem dX9_taken_13 : decode cX9_taken 13 = .ok (.ifCond .eq 52, 3) := by decide +kernel
theorem dX9_taken_16 : decode cX9_taken 16 = .ok (.iload_n 3, 1) := by decide +kernel
theorem dX9_taken_17 : decode cX9_taken 17 = .ok (.iconst 0, 1) := by decide +kernel
theorem dX9_taken_18 : decode cX9_taken 18 = .ok (.bipush 9, 2) := by decide +kernel
theorem dX9_taken_20 : decode cX9_taken 20 = .ok (.invokestatic 50, 3) := by decide +kernel
theorem dX9_taken_23 : decode cX9_taken 23 = .ok (.ifCond .eq 42, 3) := by decide +kernel
theorem dX9_taken_26 : decode cX9_taken 26 = .ok (.iload 4, 2) := by decide +kernel
theorem dX9_taken_28 : decode cX9_taken 28 = .ok (.iconst (-1), 1) := by decide +kernel
theorem dX9_taken_29 : decode cX9_taken 29 = .ok (.if_icmp .ne 11, 3) := by decide +kernel
theorem dX9_taken_32 : decode cX9_taken 32 = .ok (.iload 5, 2) := by decide +kernel
theorem dX9_taken_34 : decode cX9_taken 34 = .ok (.ifCond .ne 31, 3) := by decide +kernel
theorem dX9_taken_37 : decode cX9_taken 37 = .ok (.goto 24, 3) := by decide +kernel
theorem dX9_taken_40 : decode cX9_taken 40 = .ok (.aload_n 0, 1) := by decide +kernel
theorem dX9_taken_41 : decode cX9_taken 41 = .ok (.iload 4, 2) := by decide +kernel
theorem dX9_taken_43 : decode cX9_taken 43 = .ok (.invokevirtual 62, 3) := by decide +kernel
theorem dX9_taken_46 : decode cX9_taken 46 = .ok (.ifCond .eq 19, 3) := by decide +kernel
theorem dX9_taken_49 : decode cX9_taken 49 = .ok (.iload 5, 2) := by decide +kernel
theorem dX9_taken_51 : decode cX9_taken 51 = .ok (.bipush (-9), 2) := by decide +kernel
theorem dX9_taken_53 : decode cX9_taken 53 = .ok (.bipush 9, 2) := by decide +kernel
theorem dX9_taken_55 : decode cX9_taken 55 = .ok (.invokestatic 50, 3) := by decide +kernel
theorem dX9_taken_58 : decode cX9_taken 58 = .ok (.ifCond .eq 7, 3) := by decide +kernel
theorem dX9_taken_61 : decode cX9_taken 61 = .ok (.iconst 1, 1) := by decide +kernel
theorem dX9_taken_62 : decode cX9_taken 62 = .ok (.goto 4, 3) := by decide +kernel
theorem dX9_taken_65 : decode cX9_taken 65 = .ok (.iconst 0, 1) := by decide +kernel
theorem dX9_taken_66 : decode cX9_taken 66 = .ok (.istore 6, 2) := by decide +kernel
theorem dX9_taken_68 : decode cX9_taken 68 = .ok (.iload 6, 2) := by decide +kernel
theorem dX9_taken_70 : decode cX9_taken 70 = .ok (.ifCond .ne 10, 3) := by decide +kernel
theorem dX9_taken_73 : decode cX9_taken 73 = .ok (.aload_n 0, 1) := by decide +kernel
theorem dX9_taken_74 : decode cX9_taken 74 = .ok (.bipush (-2), 2) := by decide +kernel
theorem dX9_taken_76 : decode cX9_taken 76 = .ok (.invokevirtual 54, 3) := by decide +kernel
theorem dX9_taken_79 : decode cX9_taken 79 = .ok (.ireturn, 1) := by decide +kernel
theorem dX9_taken_80 : decode cX9_taken 80 = .ok (.aload_n 0, 1) := by decide +kernel
theorem dX9_taken_81 : decode cX9_taken 81 = .ok (.iload_n 1, 1) := by decide +kernel
theorem dX9_taken_82 : decode cX9_taken 82 = .ok (.iload_n 3, 1) := by decide +kernel
theorem dX9_taken_83 : decode cX9_taken 83 = .ok (.iload 4, 2) := by decide +kernel
theorem dX9_taken_85 : decode cX9_taken 85 = .ok (.iload 5, 2) := by decide +kernel
theorem dX9_taken_87 : decode cX9_taken 87 = .ok (.invokevirtual 89, 3) := by decide +kernel
theorem dX9_taken_90 : decode cX9_taken 90 = .ok (.aload_n 0, 1) := by decide +kernel
theorem dX9_taken_91 : decode cX9_taken 91 = .ok (.getfield 85, 3) := by decide +kernel
theorem dX9_taken_94 : decode cX9_taken 94 = .ok (.ifCond .ne 10, 3) := by decide +kernel
theorem dX9_taken_97 : decode cX9_taken 97 = .ok (.aload_n 0, 1) := by decide +kernel
theorem dX9_taken_98 : decode cX9_taken 98 = .ok (.bipush (-3), 2) := by decide +kernel
theorem dX9_taken_100 : decode cX9_taken 100 = .ok (.invokevirtual 54, 3) := by decide +kernel
theorem dX9_taken_103 : decode cX9_taken 103 = .ok (.ireturn, 1) := by decide +kernel
theorem dX9_taken_104 : decode cX9_taken 104 = .ok (.aload_n 0, 1) := by decide +kernel
theorem dX9_taken_105 : decode cX9_taken 105 = .ok (.iconst 0, 1) := by decide +kernel
theorem dX9_taken_106 : decode cX9_taken 106 = .ok (.aload_n 0, 1) := by decide +kernel
theorem dX9_taken_107 : decode cX9_taken 107 = .ok (.getfield 20, 3) := by decide +kernel
theorem dX9_taken_110 : decode cX9_taken 110 = .ok (.iload_n 2, 1) := by decide +kernel
theorem dX9_taken_111 : decode cX9_taken 111 = .ok (.iaload, 1) := by decide +kernel
theorem dX9_taken_112 : decode cX9_taken 112 = .ok (.invokevirtual 93, 3) := by decide +kernel
theorem dX9_taken_115 : decode cX9_taken 115 = .ok (.aload_n 0, 1) := by decide +kernel
theorem dX9_taken_116 : decode cX9_taken 116 = .ok (.iconst 1, 1) := by decide +kernel
theorem dX9_taken_117 : decode cX9_taken 117 = .ok (.aload_n 0, 1) := by decide +kernel
theorem dX9_taken_118 : decode cX9_taken 118 = .ok (.getfield 85, 3) := by decide +kernel
theorem dX9_taken_121 : decode cX9_taken 121 = .ok (.invokevirtual 93, 3) := by decide +kernel
theorem dX9_taken_124 : decode cX9_taken 124 = .ok (.aload_n 0, 1) := by decide +kernel
theorem dX9_taken_125 : decode cX9_taken 125 = .ok (.invokevirtual 97, 3) := by decide +kernel
theorem dX9_taken_128 : decode cX9_taken 128 = .ok (.iconst 1, 1) := by decide +kernel
theorem dX9_taken_129 : decode cX9_taken 129 = .ok (.ireturn, 1) := by decide +kernel
theorem dX9_most_0 : decode cX9_most 0 = .ok (.aload_n 0, 1) := by decide +kernel
theorem dX9_most_1 : decode cX9_most 1 = .ok (.iload_n 1, 1) := by decide +kernel
theorem dX9_most_2 : decode cX9_most 2 = .ok (.invokevirtual 58, 3) := by decide +kernel
theorem dX9_most_5 : decode cX9_most 5 = .ok (.ifCond .eq 31, 3) := by decide +kernel
theorem dX9_most_8 : decode cX9_most 8 = .ok (.aload_n 0, 1) := by decide +kernel
theorem dX9_most_9 : decode cX9_most 9 = .ok (.iload_n 2, 1) := by decide +kernel
theorem dX9_most_10 : decode cX9_most 10 = .ok (.invokevirtual 62, 3) := by decide +kernel
theorem dX9_most_13 : decode cX9_most 13 = .ok (.ifCond .eq 23, 3) := by decide +kernel
theorem dX9_most_16 : decode cX9_most 16 = .ok (.iload_n 3, 1) := by decide +kernel
theorem dX9_most_17 : decode cX9_most 17 = .ok (.iconst 1, 1) := by decide +kernel
theorem dX9_most_18 : decode cX9_most 18 = .ok (.bipush 9, 2) := by decide +kernel
theorem dX9_most_20 : decode cX9_most 20 = .ok (.invokestatic 50, 3) := by decide +kernel
theorem dX9_most_23 : decode cX9_most 23 = .ok (.ifCond .eq 13, 3) := by decide +kernel
theorem dX9_most_26 : decode cX9_most 26 = .ok (.iload 4, 2) := by decide +kernel
theorem dX9_most_28 : decode cX9_most 28 = .ok (.iconst 0, 1) := by decide +kernel
theorem dX9_most_29 : decode cX9_most 29 = .ok (.iload_n 3, 1) := by decide +kernel
theorem dX9_most_30 : decode cX9_most 30 = .ok (.invokestatic 50, 3) := by decide +kernel
theorem dX9_most_33 : decode cX9_most 33 = .ok (.ifCond .ne 10, 3) := by decide +kernel
theorem dX9_most_36 : decode cX9_most 36 = .ok (.aload_n 0, 1) := by decide +kernel
theorem dX9_most_37 : decode cX9_most 37 = .ok (.bipush (-2), 2) := by decide +kernel
theorem dX9_most_39 : decode cX9_most 39 = .ok (.invokevirtual 54, 3) := by decide +kernel
theorem dX9_most_42 : decode cX9_most 42 = .ok (.ireturn, 1) := by decide +kernel
theorem dX9_most_43 : decode cX9_most 43 = .ok (.aload_n 0, 1) := by decide +kernel
theorem dX9_most_44 : decode cX9_most 44 = .ok (.iload_n 1, 1) := by decide +kernel
theorem dX9_most_45 : decode cX9_most 45 = .ok (.iconst 0, 1) := by decide +kernel
theorem dX9_most_46 : decode cX9_most 46 = .ok (.iconst (-1), 1) := by decide +kernel
theorem dX9_most_47 : decode cX9_most 47 = .ok (.iconst 0, 1) := by decide +kernel
theorem dX9_most_48 : decode cX9_most 48 = .ok (.invokevirtual 89, 3) := by decide +kernel
theorem dX9_most_51 : decode cX9_most 51 = .ok (.aload_n 0, 1) := by decide +kernel
theorem dX9_most_52 : decode cX9_most 52 = .ok (.getfield 85, 3) := by decide +kernel
theorem dX9_most_55 : decode cX9_most 55 = .ok (.ifCond .ne 10, 3) := by decide +kernel
theorem dX9_most_58 : decode cX9_most 58 = .ok (.aload_n 0, 1) := by decide +kernel
theorem dX9_most_59 : decode cX9_most 59 = .ok (.bipush (-3), 2) := by decide +kernel
theorem dX9_most_61 : decode cX9_most 61 = .ok (.invokevirtual 54, 3) := by decide +kernel
theorem dX9_most_64 : decode cX9_most 64 = .ok (.ireturn, 1) := by decide +kernel
theorem dX9_most_65 : decode cX9_most 65 = .ok (.aload_n 0, 1) := by decide +kernel
theorem dX9_most_66 : decode cX9_most 66 = .ok (.iconst 0, 1) := by decide +kernel
theorem dX9_most_67 : decode cX9_most 67 = .ok (.iconst 0, 1) := by decide +kernel
theorem dX9_most_68 : decode cX9_most 68 = .ok (.invokevirtual 93, 3) := by decide +kernel
theorem dX9_most_71 : decode cX9_most 71 = .ok (.iconst 1, 1) := by decide +kernel
theorem dX9_most_72 : decode cX9_most 72 = .ok (.istore 5, 2) := by decide +kernel
theorem dX9_most_74 : decode cX9_most 74 = .ok (.iconst 0, 1) := by decide +kernel
theorem dX9_most_75 : decode cX9_most 75 = .ok (.istore 6, 2) := by decide +kernel
theorem dX9_most_77 : decode cX9_most 77 = .ok (.iload 6, 2) := by decide +kernel
theorem dX9_most_79 : decode cX9_most 79 = .ok (.iload_n 3, 1) := by decide +kernel
theorem dX9_most_80 : decode cX9_most 80 = .ok (.if_icmp .gt 90, 3) := by decide +kernel
theorem dX9_most_83 : decode cX9_most 83 = .ok (.iload 6, 2) := by decide +kernel
theorem dX9_most_85 : decode cX9_most 85 = .ok (.iload 4, 2) := by decide +kernel
theorem dX9_most_87 : decode cX9_most 87 = .ok (.if_icmp .lt 63, 3) := by decide +kernel
theorem dX9_most_90 : decode cX9_most 90 = .ok (.aload_n 0, 1) := by decide +kernel
theorem dX9_most_91 : decode cX9_most 91 = .ok (.iconst 2, 1) := by decide +kernel
theorem dX9_most_92 : decode cX9_most 92 = .ok (.iload 5, 2) := by decide +kernel
theorem dX9_most_94 : decode cX9_most 94 = .ok (.invokevirtual 93, 3) := by decide +kernel
theorem dX9_most_97 : decode cX9_most 97 = .ok (.iconst 0, 1) := by decide +kernel
theorem dX9_most_98 : decode cX9_most 98 = .ok (.istore 7, 2) := by decide +kernel
theorem dX9_most_100 : decode cX9_most 100 = .ok (.iload 7, 2) := by decide +kernel
theorem dX9_most_102 : decode cX9_most 102 = .ok (.iload_n 3, 1) := by decide +kernel
theorem dX9_most_103 : decode cX9_most 103 = .ok (.if_icmp .ge 41, 3) := by decide +kernel
theorem dX9_most_106 : decode cX9_most 106 = .ok (.aload_n 0, 1) := by decide +kernel
theorem dX9_most_107 : decode cX9_most 107 = .ok (.iconst 2, 1) := by decide +kernel
theorem dX9_most_108 : decode cX9_most 108 = .ok (.iload 7, 2) := by decide +kernel
theorem dX9_most_110 : decode cX9_most 110 = .ok (.iload 6, 2) := by decide +kernel
theorem dX9_most_112 : decode cX9_most 112 = .ok (.if_icmp .ge 12, 3) := by decide +kernel
theorem dX9_most_115 : decode cX9_most 115 = .ok (.aload_n 0, 1) := by decide +kernel
theorem dX9_most_116 : decode cX9_most 116 = .ok (.getfield 20, 3) := by decide +kernel
theorem dX9_most_119 : decode cX9_most 119 = .ok (.iload_n 2, 1) := by decide +kernel
theorem dX9_most_120 : decode cX9_most 120 = .ok (.iaload, 1) := by decide +kernel
theorem dX9_most_121 : decode cX9_most 121 = .ok (.goto 14, 3) := by decide +kernel
theorem dX9_most_124 : decode cX9_most 124 = .ok (.aload_n 0, 1) := by decide +kernel
theorem dX9_most_125 : decode cX9_most 125 = .ok (.getfield 85, 3) := by decide +kernel
theorem dX9_most_128 : decode cX9_most 128 = .ok (.aload_n 0, 1) := by decide +kernel
theorem dX9_most_129 : decode cX9_most 129 = .ok (.getfield 20, 3) := by decide +kernel
theorem dX9_most_132 : decode cX9_most 132 = .ok (.iload_n 2, 1) := by decide +kernel
theorem dX9_most_133 : decode cX9_most 133 = .ok (.iaload, 1) := by decide +kernel
theorem dX9_most_134 : decode cX9_most 134 = .ok (.isub, 1) := by decide +kernel
theorem dX9_most_135 : decode cX9_most 135 = .ok (.invokevirtual 100, 3) := by decide +kernel
theorem dX9_most_138 : decode cX9_most 138 = .ok (.iinc 7 1, 3) := by decide +kernel
theorem dX9_most_141 : decode cX9_most 141 = .ok (.goto (-41), 3) := by decide +kernel
theorem dX9_most_144 : decode cX9_most 144 = .ok (.aload_n 0, 1) := by decide +kernel
theorem dX9_most_145 : decode cX9_most 145 = .ok (.iconst 0, 1) := by decide +kernel
theorem dX9_most_146 : decode cX9_most 146 = .ok (.iconst 2, 1) := by decide +kernel
theorem dX9_most_147 : decode cX9_most 147 = .ok (.invokevirtual 103, 3) := by decide +kernel
theorem dX9_most_150 : decode cX9_most 150 = .ok (.iload 5, 2) := by decide +kernel
theorem dX9_most_152 : decode cX9_most 152 = .ok (.iload_n 3, 1) := by decide +kernel
theorem dX9_most_153 : decode cX9_most 153 = .ok (.iload 6, 2) := by decide +kernel
theorem dX9_most_155 : decode cX9_most 155 = .ok (.isub, 1) := by decide +kernel
theorem dX9_most_156 : decode cX9_most 156 = .ok (.imul, 1) := by decide +kernel
theorem dX9_most_157 : decode cX9_most 157 = .ok (.iload 6, 2) := by decide +kernel
theorem dX9_most_159 : decode cX9_most 159 = .ok (.iconst 1, 1) := by decide +kernel
theorem dX9_most_160 : decode cX9_most 160 = .ok (.iadd, 1) := by decide +kernel
theorem dX9_most_161 : decode cX9_most 161 = .ok (.idiv, 1) := by decide +kernel
theorem dX9_most_162 : decode cX9_most 162 = .ok (.istore 5, 2) := by decide +kernel
theorem dX9_most_164 : decode cX9_most 164 = .ok (.iinc 6 1, 3) := by decide +kernel
theorem dX9_most_167 : decode cX9_most 167 = .ok (.goto (-90), 3) := by decide +kernel
theorem dX9_most_170 : decode cX9_most 170 = .ok (.aload_n 0, 1) := by decide +kernel
theorem dX9_most_171 : decode cX9_most 171 = .ok (.iconst 1, 1) := by decide +kernel
theorem dX9_most_172 : decode cX9_most 172 = .ok (.iconst 1, 1) := by decide +kernel
theorem dX9_most_173 : decode cX9_most 173 = .ok (.invokevirtual 93, 3) := by decide +kernel
theorem dX9_most_176 : decode cX9_most 176 = .ok (.iconst 0, 1) := by decide +kernel
theorem dX9_most_177 : decode cX9_most 177 = .ok (.istore 6, 2) := by decide +kernel
theorem dX9_most_179 : decode cX9_most 179 = .ok (.iload 6, 2) := by decide +kernel
theorem dX9_most_181 : decode cX9_most 181 = .ok (.iload_n 3, 1) := by decide +kernel
theorem dX9_most_182 : decode cX9_most 182 = .ok (.if_icmp .ge 18, 3) := by decide +kernel
theorem dX9_most_185 : decode cX9_most 185 = .ok (.aload_n 0, 1) := by decide +kernel
theorem dX9_most_186 : decode cX9_most 186 = .ok (.iconst 1, 1) := by decide +kernel
theorem dX9_most_187 : decode cX9_most 187 = .ok (.aload_n 0, 1) := by decide +kernel
theorem dX9_most_188 : decode cX9_most 188 = .ok (.getfield 85, 3) := by decide +kernel
theorem dX9_most_191 : decode cX9_most 191 = .ok (.invokevirtual 100, 3) := by decide +kernel
theorem dX9_most_194 : decode cX9_most 194 = .ok (.iinc 6 1, 3) := by decide +kernel
theorem dX9_most_197 : decode cX9_most 197 = .ok (.goto (-18), 3) := by decide +kernel
theorem dX9_most_200 : decode cX9_most 200 = .ok (.aload_n 0, 1) := by decide +kernel
theorem dX9_most_201 : decode cX9_most 201 = .ok (.invokevirtual 97, 3) := by decide +kernel
theorem dX9_most_204 : decode cX9_most 204 = .ok (.iconst 1, 1) := by decide +kernel
theorem dX9_most_205 : decode cX9_most 205 = .ok (.ireturn, 1) := by decide +kernel
theorem dX9_may_0 : decode cX9_may 0 = .ok (.aload_n 0, 1) := by decide +kernel
theorem dX9_may_1 : decode cX9_may 1 = .ok (.iload_n 1, 1) := by decide +kernel
theorem dX9_may_2 : decode cX9_may 2 = .ok (.invokevirtual 58, 3) := by decide +kernel
theorem dX9_may_5 : decode cX9_may 5 = .ok (.ifCond .eq 32, 3) := by decide +kernel
theorem dX9_may_8 : decode cX9_may 8 = .ok (.aload_n 0, 1) := by decide +kernel
theorem dX9_may_9 : decode cX9_may 9 = .ok (.iload_n 2, 1) := by decide +kernel
theorem dX9_may_10 : decode cX9_may 10 = .ok (.invokevirtual 62, 3) := by decide +kernel
theorem dX9_may_13 : decode cX9_may 13 = .ok (.ifCond .eq 24, 3) := by decide +kernel
theorem dX9_may_16 : decode cX9_may 16 = .ok (.iload 4, 2) := by decide +kernel
theorem dX9_may_18 : decode cX9_may 18 = .ok (.iconst 1, 1) := by decide +kernel
theorem dX9_may_19 : decode cX9_may 19 = .ok (.bipush 99, 2) := by decide +kernel
theorem dX9_may_21 : decode cX9_may 21 = .ok (.invokestatic 50, 3) := by decide +kernel
theorem dX9_may_24 : decode cX9_may 24 = .ok (.ifCond .eq 13, 3) := by decide +kernel
theorem dX9_may_27 : decode cX9_may 27 = .ok (.iload_n 3, 1) := by decide +kernel
theorem dX9_may_28 : decode cX9_may 28 = .ok (.iconst 1, 1) := by decide +kernel
theorem dX9_may_29 : decode cX9_may 29 = .ok (.iload 4, 2) := by decide +kernel
theorem dX9_may_31 : decode cX9_may 31 = .ok (.invokestatic 50, 3) := by decide +kernel
theorem dX9_may_34 : decode cX9_may 34 = .ok (.ifCond .ne 13, 3) := by decide +kernel
theorem dX9_may_37 : decode cX9_may 37 = .ok (.aload_n 0, 1) := by decide +kernel
theorem dX9_may_38 : decode cX9_may 38 = .ok (.bipush (-2), 2) := by decide +kernel
theorem dX9_may_40 : decode cX9_may 40 = .ok (.invokevirtual 54, 3) := by decide +kernel
theorem dX9_may_43 : decode cX9_may 43 = .ok (.pop, 1) := by decide +kernel
theorem dX9_may_44 : decode cX9_may 44 = .ok (.bipush (-10), 2) := by decide +kernel
theorem dX9_may_46 : decode cX9_may 46 = .ok (.ireturn, 1) := by decide +kernel
theorem dX9_may_47 : decode cX9_may 47 = .ok (.aload_n 0, 1) := by decide +kernel
theorem dX9_may_48 : decode cX9_may 48 = .ok (.iload_n 1, 1) := by decide +kernel
theorem dX9_may_49 : decode cX9_may 49 = .ok (.iconst 0, 1) := by decide +kernel
theorem dX9_may_50 : decode cX9_may 50 = .ok (.iconst (-1), 1) := by decide +kernel
theorem dX9_may_51 : decode cX9_may 51 = .ok (.iconst 0, 1) := by decide +kernel
theorem dX9_may_52 : decode cX9_may 52 = .ok (.invokevirtual 89, 3) := by decide +kernel
theorem dX9_may_55 : decode cX9_may 55 = .ok (.aload_n 0, 1) := by decide +kernel
theorem dX9_may_56 : decode cX9_may 56 = .ok (.getfield 85, 3) := by decide +kernel
theorem dX9_may_59 : decode cX9_may 59 = .ok (.ifCond .ne 13, 3) := by decide +kernel
theorem dX9_may_62 : decode cX9_may 62 = .ok (.aload_n 0, 1) := by decide +kernel
theorem dX9_may_63 : decode cX9_may 63 = .ok (.bipush (-3), 2) := by decide +kernel
theorem dX9_may_65 : decode cX9_may 65 = .ok (.invokevirtual 54, 3) := by decide +kernel
theorem dX9_may_68 : decode cX9_may 68 = .ok (.pop, 1) := by decide +kernel
theorem dX9_may_69 : decode cX9_may 69 = .ok (.bipush (-20), 2) := by decide +kernel
theorem dX9_may_71 : decode cX9_may 71 = .ok (.ireturn, 1) := by decide +kernel
theorem dX9_may_72 : decode cX9_may 72 = .ok (.bipush 9, 2) := by decide +kernel
theorem dX9_may_74 : decode cX9_may 74 = .ok (.istore 5, 2) := by decide +kernel
theorem dX9_may_76 : decode cX9_may 76 = .ok (.iload 5, 2) := by decide +kernel
theorem dX9_may_78 : decode cX9_may 78 = .ok (.ifCond .lt 39, 3) := by decide +kernel
theorem dX9_may_81 : decode cX9_may 81 = .ok (.aload_n 0, 1) := by decide +kernel
theorem dX9_may_82 : decode cX9_may 82 = .ok (.iload_n 1, 1) := by decide +kernel
theorem dX9_may_83 : decode cX9_may 83 = .ok (.iconst 0, 1) := by decide +kernel
theorem dX9_may_84 : decode cX9_may 84 = .ok (.iload_n 2, 1) := by decide +kernel
theorem dX9_may_85 : decode cX9_may 85 = .ok (.iload 5, 2) := by decide +kernel
theorem dX9_may_87 : decode cX9_may 87 = .ok (.invokevirtual 89, 3) := by decide +kernel
theorem dX9_may_90 : decode cX9_may 90 = .ok (.aload_n 0, 1) := by decide +kernel
theorem dX9_may_91 : decode cX9_may 91 = .ok (.getfield 20, 3) := by decide +kernel
theorem dX9_may_94 : decode cX9_may 94 = .ok (.iload_n 2, 1) := by decide +kernel
theorem dX9_may_95 : decode cX9_may 95 = .ok (.iaload, 1) := by decide +kernel
theorem dX9_may_96 : decode cX9_may 96 = .ok (.iload 4, 2) := by decide +kernel
theorem dX9_may_98 : decode cX9_may 98 = .ok (.imul, 1) := by decide +kernel
theorem dX9_may_99 : decode cX9_may 99 = .ok (.iload_n 3, 1) := by decide +kernel
theorem dX9_may_100 : decode cX9_may 100 = .ok (.aload_n 0, 1) := by decide +kernel
theorem dX9_may_101 : decode cX9_may 101 = .ok (.getfield 85, 3) := by decide +kernel
theorem dX9_may_104 : decode cX9_may 104 = .ok (.imul, 1) := by decide +kernel
theorem dX9_may_105 : decode cX9_may 105 = .ok (.if_icmp .lt 6, 3) := by decide +kernel
theorem dX9_may_108 : decode cX9_may 108 = .ok (.iload 5, 2) := by decide +kernel
theorem dX9_may_110 : decode cX9_may 110 = .ok (.ireturn, 1) := by decide +kernel
theorem dX9_may_111 : decode cX9_may 111 = .ok (.iinc 5 (-1), 3) := by decide +kernel
theorem dX9_may_114 : decode cX9_may 114 = .ok (.goto (-38), 3) := by decide +kernel
theorem dX9_may_117 : decode cX9_may 117 = .ok (.iconst (-1), 1) := by decide +kernel
theorem dX9_may_118 : decode cX9_may 118 = .ok (.ireturn, 1) := by decide +kernel
theorem dX9_isMore_0 : decode cX9_isMore 0 = .ok (.aload_n 0, 1) := by decide +kernel
theorem dX9_isMore_1 : decode cX9_isMore 1 = .ok (.iload_n 2, 1) := by decide +kernel
theorem dX9_isMore_2 : decode cX9_isMore 2 = .ok (.iconst 0, 1) := by decide +kernel
theorem dX9_isMore_3 : decode cX9_isMore 3 = .ok (.iconst (-1), 1) := by decide +kernel
theorem dX9_isMore_4 : decode cX9_isMore 4 = .ok (.iconst 0, 1) := by decide +kernel
theorem dX9_isMore_5 : decode cX9_isMore 5 = .ok (.invokevirtual 89, 3) := by decide +kernel
theorem dX9_isMore_8 : decode cX9_isMore 8 = .ok (.aload_n 0, 1) := by decide +kernel
theorem dX9_isMore_9 : decode cX9_isMore 9 = .ok (.getfield 20, 3) := by decide +kernel
theorem dX9_isMore_12 : decode cX9_isMore 12 = .ok (.iload_n 1, 1) := by decide +kernel
theorem dX9_isMore_13 : decode cX9_isMore 13 = .ok (.iaload, 1) := by decide +kernel
theorem dX9_isMore_14 : decode cX9_isMore 14 = .ok (.istore 4, 2) := by decide +kernel
theorem dX9_isMore_16 : decode cX9_isMore 16 = .ok (.aload_n 0, 1) := by decide +kernel
theorem dX9_isMore_17 : decode cX9_isMore 17 = .ok (.getfield 85, 3) := by decide +kernel
theorem dX9_isMore_20 : decode cX9_isMore 20 = .ok (.ifCond .ne 7, 3) := by decide +kernel
theorem dX9_isMore_23 : decode cX9_isMore 23 = .ok (.iconst 1, 1) := by decide +kernel
theorem dX9_isMore_24 : decode cX9_isMore 24 = .ok (.goto 7, 3) := by decide +kernel
theorem dX9_isMore_27 : decode cX9_isMore 27 = .ok (.aload_n 0, 1) := by decide +kernel
theorem dX9_isMore_28 : decode cX9_isMore 28 = .ok (.getfield 85, 3) := by decide +kernel
theorem dX9_isMore_31 : decode cX9_isMore 31 = .ok (.istore 5, 2) := by decide +kernel
theorem dX9_isMore_33 : decode cX9_isMore 33 = .ok (.aload_n 0, 1) := by decide +kernel
theorem dX9_isMore_34 : decode cX9_isMore 34 = .ok (.iload_n 3, 1) := by decide +kernel
theorem dX9_isMore_35 : decode cX9_isMore 35 = .ok (.iconst 0, 1) := by decide +kernel
theorem dX9_isMore_36 : decode cX9_isMore 36 = .ok (.iconst (-1), 1) := by decide +kernel
theorem dX9_isMore_37 : decode cX9_isMore 37 = .ok (.iconst 0, 1) := by decide +kernel
theorem dX9_isMore_38 : decode cX9_isMore 38 = .ok (.invokevirtual 89, 3) := by decide +kernel
theorem dX9_isMore_41 : decode cX9_isMore 41 = .ok (.aload_n 0, 1) := by decide +kernel
theorem dX9_isMore_42 : decode cX9_isMore 42 = .ok (.getfield 85, 3) := by decide +kernel
theorem dX9_isMore_45 : decode cX9_isMore 45 = .ok (.ifCond .ne 7, 3) := by decide +kernel
theorem dX9_isMore_48 : decode cX9_isMore 48 = .ok (.iconst 1, 1) := by decide +kernel
theorem dX9_isMore_49 : decode cX9_isMore 49 = .ok (.goto 7, 3) := by decide +kernel
theorem dX9_isMore_52 : decode cX9_isMore 52 = .ok (.aload_n 0, 1) := by decide +kernel
theorem dX9_isMore_53 : decode cX9_isMore 53 = .ok (.getfield 85, 3) := by decide +kernel
theorem dX9_isMore_56 : decode cX9_isMore 56 = .ok (.istore 6, 2) := by decide +kernel
theorem dX9_isMore_58 : decode cX9_isMore 58 = .ok (.iload 4, 2) := by decide +kernel
theorem dX9_isMore_60 : decode cX9_isMore 60 = .ok (.iload 6, 2) := by decide +kernel
theorem dX9_isMore_62 : decode cX9_isMore 62 = .ok (.imul, 1) := by decide +kernel
theorem dX9_isMore_63 : decode cX9_isMore 63 = .ok (.aload_n 0, 1) := by decide +kernel
theorem dX9_isMore_64 : decode cX9_isMore 64 = .ok (.getfield 20, 3) := by decide +kernel
theorem dX9_isMore_67 : decode cX9_isMore 67 = .ok (.iload_n 1, 1) := by decide +kernel
theorem dX9_isMore_68 : decode cX9_isMore 68 = .ok (.iaload, 1) := by decide +kernel
theorem dX9_isMore_69 : decode cX9_isMore 69 = .ok (.iload 5, 2) := by decide +kernel
theorem dX9_isMore_71 : decode cX9_isMore 71 = .ok (.imul, 1) := by decide +kernel
theorem dX9_isMore_72 : decode cX9_isMore 72 = .ok (.if_icmp .le 7, 3) := by decide +kernel
theorem dX9_isMore_75 : decode cX9_isMore 75 = .ok (.iconst 1, 1) := by decide +kernel
theorem dX9_isMore_76 : decode cX9_isMore 76 = .ok (.goto 4, 3) := by decide +kernel
theorem dX9_isMore_79 : decode cX9_isMore 79 = .ok (.iconst 0, 1) := by decide +kernel
theorem dX9_isMore_80 : decode cX9_isMore 80 = .ok (.ireturn, 1) := by decide +kernel
theorem dX9_bestOf_0 : decode cX9_bestOf 0 = .ok (.iconst (-1), 1) := by decide +kernel
theorem dX9_bestOf_1 : decode cX9_bestOf 1 = .ok (.istore_n 2, 1) := by decide +kernel
theorem dX9_bestOf_2 : decode cX9_bestOf 2 = .ok (.iconst 0, 1) := by decide +kernel
theorem dX9_bestOf_3 : decode cX9_bestOf 3 = .ok (.istore_n 3, 1) := by decide +kernel
theorem dX9_bestOf_4 : decode cX9_bestOf 4 = .ok (.iload_n 3, 1) := by decide +kernel
theorem dX9_bestOf_5 : decode cX9_bestOf 5 = .ok (.aload_n 0, 1) := by decide +kernel
theorem dX9_bestOf_6 : decode cX9_bestOf 6 = .ok (.getfield 7, 3) := by decide +kernel
theorem dX9_bestOf_9 : decode cX9_bestOf 9 = .ok (.iconst 0, 1) := by decide +kernel
theorem dX9_bestOf_10 : decode cX9_bestOf 10 = .ok (.iaload, 1) := by decide +kernel
theorem dX9_bestOf_11 : decode cX9_bestOf 11 = .ok (.if_icmp .ge 30, 3) := by decide +kernel
theorem dX9_bestOf_14 : decode cX9_bestOf 14 = .ok (.iload_n 2, 1) := by decide +kernel
theorem dX9_bestOf_15 : decode cX9_bestOf 15 = .ok (.iconst (-1), 1) := by decide +kernel
theorem dX9_bestOf_16 : decode cX9_bestOf 16 = .ok (.if_icmp .eq 13, 3) := by decide +kernel
theorem dX9_bestOf_19 : decode cX9_bestOf 19 = .ok (.aload_n 0, 1) := by decide +kernel
theorem dX9_bestOf_20 : decode cX9_bestOf 20 = .ok (.iload_n 1, 1) := by decide +kernel
theorem dX9_bestOf_21 : decode cX9_bestOf 21 = .ok (.iload_n 3, 1) := by decide +kernel
theorem dX9_bestOf_22 : decode cX9_bestOf 22 = .ok (.iload_n 2, 1) := by decide +kernel
theorem dX9_bestOf_23 : decode cX9_bestOf 23 = .ok (.invokevirtual 106, 3) := by decide +kernel
theorem dX9_bestOf_26 : decode cX9_bestOf 26 = .ok (.ifCond .eq 7, 3) := by decide +kernel
theorem dX9_bestOf_29 : decode cX9_bestOf 29 = .ok (.iload_n 3, 1) := by decide +kernel
theorem dX9_bestOf_30 : decode cX9_bestOf 30 = .ok (.goto 4, 3) := by decide +kernel
theorem dX9_bestOf_33 : decode cX9_bestOf 33 = .ok (.iload_n 2, 1) := by decide +kernel
theorem dX9_bestOf_34 : decode cX9_bestOf 34 = .ok (.istore_n 2, 1) := by decide +kernel
theorem dX9_bestOf_35 : decode cX9_bestOf 35 = .ok (.iinc 3 1, 3) := by decide +kernel
theorem dX9_bestOf_38 : decode cX9_bestOf 38 = .ok (.goto (-34), 3) := by decide +kernel
theorem dX9_bestOf_41 : decode cX9_bestOf 41 = .ok (.iload_n 2, 1) := by decide +kernel
theorem dX9_bestOf_42 : decode cX9_bestOf 42 = .ok (.ireturn, 1) := by decide +kernel
theorem dX9_best_0 : decode cX9_best 0 = .ok (.aload_n 0, 1) := by decide +kernel
theorem dX9_best_1 : decode cX9_best 1 = .ok (.iload_n 1, 1) := by decide +kernel
theorem dX9_best_2 : decode cX9_best 2 = .ok (.invokevirtual 62, 3) := by decide +kernel
theorem dX9_best_5 : decode cX9_best 5 = .ok (.ifCond .eq 11, 3) := by decide +kernel
theorem dX9_best_8 : decode cX9_best 8 = .ok (.aload_n 0, 1) := by decide +kernel
theorem dX9_best_9 : decode cX9_best 9 = .ok (.iload_n 1, 1) := by decide +kernel
theorem dX9_best_10 : decode cX9_best 10 = .ok (.invokevirtual 109, 3) := by decide +kernel
theorem dX9_best_13 : decode cX9_best 13 = .ok (.goto 9, 3) := by decide +kernel
theorem dX9_best_16 : decode cX9_best 16 = .ok (.aload_n 0, 1) := by decide +kernel
theorem dX9_best_17 : decode cX9_best 17 = .ok (.bipush (-2), 2) := by decide +kernel
theorem dX9_best_19 : decode cX9_best 19 = .ok (.invokevirtual 54, 3) := by decide +kernel
theorem dX9_best_22 : decode cX9_best 22 = .ok (.ireturn, 1) := by decide +kernel
theorem dX9_truer_0 : decode cX9_truer 0 = .ok (.aload_n 0, 1) := by decide +kernel
theorem dX9_truer_1 : decode cX9_truer 1 = .ok (.iload_n 1, 1) := by decide +kernel
theorem dX9_truer_2 : decode cX9_truer 2 = .ok (.invokevirtual 62, 3) := by decide +kernel
theorem dX9_truer_5 : decode cX9_truer 5 = .ok (.ifCond .eq 24, 3) := by decide +kernel
theorem dX9_truer_8 : decode cX9_truer 8 = .ok (.aload_n 0, 1) := by decide +kernel
theorem dX9_truer_9 : decode cX9_truer 9 = .ok (.iload_n 2, 1) := by decide +kernel
theorem dX9_truer_10 : decode cX9_truer 10 = .ok (.invokevirtual 58, 3) := by decide +kernel
theorem dX9_truer_13 : decode cX9_truer 13 = .ok (.ifCond .eq 16, 3) := by decide +kernel
theorem dX9_truer_16 : decode cX9_truer 16 = .ok (.aload_n 0, 1) := by decide +kernel
theorem dX9_truer_17 : decode cX9_truer 17 = .ok (.iload_n 3, 1) := by decide +kernel
theorem dX9_truer_18 : decode cX9_truer 18 = .ok (.invokevirtual 58, 3) := by decide +kernel
theorem dX9_truer_21 : decode cX9_truer 21 = .ok (.ifCond .eq 8, 3) := by decide +kernel
theorem dX9_truer_24 : decode cX9_truer 24 = .ok (.iload_n 2, 1) := by decide +kernel
theorem dX9_truer_25 : decode cX9_truer 25 = .ok (.iload_n 3, 1) := by decide +kernel
theorem dX9_truer_26 : decode cX9_truer 26 = .ok (.if_icmp .ne 10, 3) := by decide +kernel
theorem dX9_truer_29 : decode cX9_truer 29 = .ok (.aload_n 0, 1) := by decide +kernel
theorem dX9_truer_30 : decode cX9_truer 30 = .ok (.bipush (-2), 2) := by decide +kernel
theorem dX9_truer_32 : decode cX9_truer 32 = .ok (.invokevirtual 54, 3) := by decide +kernel
theorem dX9_truer_35 : decode cX9_truer 35 = .ok (.ireturn, 1) := by decide +kernel
theorem dX9_truer_36 : decode cX9_truer 36 = .ok (.aload_n 0, 1) := by decide +kernel
theorem dX9_truer_37 : decode cX9_truer 37 = .ok (.iload_n 1, 1) := by decide +kernel
theorem dX9_truer_38 : decode cX9_truer 38 = .ok (.iload_n 3, 1) := by decide +kernel
theorem dX9_truer_39 : decode cX9_truer 39 = .ok (.iload_n 2, 1) := by decide +kernel
theorem dX9_truer_40 : decode cX9_truer 40 = .ok (.invokevirtual 106, 3) := by decide +kernel
theorem dX9_truer_43 : decode cX9_truer 43 = .ok (.ifCond .eq 7, 3) := by decide +kernel
theorem dX9_truer_46 : decode cX9_truer 46 = .ok (.iload_n 3, 1) := by decide +kernel
theorem dX9_truer_47 : decode cX9_truer 47 = .ok (.goto 4, 3) := by decide +kernel
theorem dX9_truer_50 : decode cX9_truer 50 = .ok (.iload_n 2, 1) := by decide +kernel
theorem dX9_truer_51 : decode cX9_truer 51 = .ok (.ireturn, 1) := by decide +kernel
theorem dX9_servesOf_0 : decode cX9_servesOf 0 = .ok (.iconst 0, 1) := by decide +kernel
theorem dX9_servesOf_1 : decode cX9_servesOf 1 = .ok (.istore_n 3, 1) := by decide +kernel
theorem dX9_servesOf_2 : decode cX9_servesOf 2 = .ok (.iconst 0, 1) := by decide +kernel
theorem dX9_servesOf_3 : decode cX9_servesOf 3 = .ok (.istore 4, 2) := by decide +kernel
theorem dX9_servesOf_5 : decode cX9_servesOf 5 = .ok (.iload 4, 2) := by decide +kernel
theorem dX9_servesOf_7 : decode cX9_servesOf 7 = .ok (.aload_n 0, 1) := by decide +kernel
theorem dX9_servesOf_8 : decode cX9_servesOf 8 = .ok (.getfield 7, 3) := by decide +kernel
theorem dX9_servesOf_11 : decode cX9_servesOf 11 = .ok (.iconst 0, 1) := by decide +kernel
theorem dX9_servesOf_12 : decode cX9_servesOf 12 = .ok (.iaload, 1) := by decide +kernel
theorem dX9_servesOf_13 : decode cX9_servesOf 13 = .ok (.if_icmp .ge 69, 3) := by decide +kernel
theorem dX9_servesOf_16 : decode cX9_servesOf 16 = .ok (.iload_n 1, 1) := by decide +kernel
theorem dX9_servesOf_17 : decode cX9_servesOf 17 = .ok (.iload 4, 2) := by decide +kernel
theorem dX9_servesOf_19 : decode cX9_servesOf 19 = .ok (.ishr, 1) := by decide +kernel
theorem dX9_servesOf_20 : decode cX9_servesOf 20 = .ok (.iconst 1, 1) := by decide +kernel
theorem dX9_servesOf_21 : decode cX9_servesOf 21 = .ok (.iand, 1) := by decide +kernel
theorem dX9_servesOf_22 : decode cX9_servesOf 22 = .ok (.iconst 1, 1) := by decide +kernel
theorem dX9_servesOf_23 : decode cX9_servesOf 23 = .ok (.if_icmp .ne 53, 3) := by decide +kernel
theorem dX9_servesOf_26 : decode cX9_servesOf 26 = .ok (.aload_n 0, 1) := by decide +kernel
theorem dX9_servesOf_27 : decode cX9_servesOf 27 = .ok (.iload 4, 2) := by decide +kernel
theorem dX9_servesOf_29 : decode cX9_servesOf 29 = .ok (.iconst 0, 1) := by decide +kernel
theorem dX9_servesOf_30 : decode cX9_servesOf 30 = .ok (.iconst (-1), 1) := by decide +kernel
theorem dX9_servesOf_31 : decode cX9_servesOf 31 = .ok (.iconst 0, 1) := by decide +kernel
theorem dX9_servesOf_32 : decode cX9_servesOf 32 = .ok (.invokevirtual 89, 3) := by decide +kernel
theorem dX9_servesOf_35 : decode cX9_servesOf 35 = .ok (.aload_n 0, 1) := by decide +kernel
theorem dX9_servesOf_36 : decode cX9_servesOf 36 = .ok (.getfield 85, 3) := by decide +kernel
theorem dX9_servesOf_39 : decode cX9_servesOf 39 = .ok (.ifCond .ne 7, 3) := by decide +kernel
theorem dX9_servesOf_42 : decode cX9_servesOf 42 = .ok (.iconst 0, 1) := by decide +kernel
theorem dX9_servesOf_43 : decode cX9_servesOf 43 = .ok (.goto 18, 3) := by decide +kernel
theorem dX9_servesOf_46 : decode cX9_servesOf 46 = .ok (.sipush 1000, 3) := by decide +kernel
theorem dX9_servesOf_49 : decode cX9_servesOf 49 = .ok (.aload_n 0, 1) := by decide +kernel
theorem dX9_servesOf_50 : decode cX9_servesOf 50 = .ok (.getfield 20, 3) := by decide +kernel
theorem dX9_servesOf_53 : decode cX9_servesOf 53 = .ok (.iload_n 2, 1) := by decide +kernel
theorem dX9_servesOf_54 : decode cX9_servesOf 54 = .ok (.iaload, 1) := by decide +kernel
theorem dX9_servesOf_55 : decode cX9_servesOf 55 = .ok (.imul, 1) := by decide +kernel
theorem dX9_servesOf_56 : decode cX9_servesOf 56 = .ok (.aload_n 0, 1) := by decide +kernel
theorem dX9_servesOf_57 : decode cX9_servesOf 57 = .ok (.getfield 85, 3) := by decide +kernel
theorem dX9_servesOf_60 : decode cX9_servesOf 60 = .ok (.idiv, 1) := by decide +kernel
theorem dX9_servesOf_61 : decode cX9_servesOf 61 = .ok (.istore 5, 2) := by decide +kernel
theorem dX9_servesOf_63 : decode cX9_servesOf 63 = .ok (.iload 5, 2) := by decide +kernel
theorem dX9_servesOf_65 : decode cX9_servesOf 65 = .ok (.iload_n 3, 1) := by decide +kernel
theorem dX9_servesOf_66 : decode cX9_servesOf 66 = .ok (.if_icmp .le 8, 3) := by decide +kernel
theorem dX9_servesOf_69 : decode cX9_servesOf 69 = .ok (.iload 5, 2) := by decide +kernel
theorem dX9_servesOf_71 : decode cX9_servesOf 71 = .ok (.goto 4, 3) := by decide +kernel
theorem dX9_servesOf_74 : decode cX9_servesOf 74 = .ok (.iload_n 3, 1) := by decide +kernel
theorem dX9_servesOf_75 : decode cX9_servesOf 75 = .ok (.istore_n 3, 1) := by decide +kernel
theorem dX9_servesOf_76 : decode cX9_servesOf 76 = .ok (.iinc 4 1, 3) := by decide +kernel
theorem dX9_servesOf_79 : decode cX9_servesOf 79 = .ok (.goto (-74), 3) := by decide +kernel
theorem dX9_servesOf_82 : decode cX9_servesOf 82 = .ok (.iload_n 3, 1) := by decide +kernel
theorem dX9_servesOf_83 : decode cX9_servesOf 83 = .ok (.ireturn, 1) := by decide +kernel
theorem dX9_serves_0 : decode cX9_serves 0 = .ok (.iload_n 1, 1) := by decide +kernel
theorem dX9_serves_1 : decode cX9_serves 1 = .ok (.iconst 0, 1) := by decide +kernel
theorem dX9_serves_2 : decode cX9_serves 2 = .ok (.iconst 1, 1) := by decide +kernel
theorem dX9_serves_3 : decode cX9_serves 3 = .ok (.aload_n 0, 1) := by decide +kernel
theorem dX9_serves_4 : decode cX9_serves 4 = .ok (.getfield 7, 3) := by decide +kernel
theorem dX9_serves_7 : decode cX9_serves 7 = .ok (.iconst 0, 1) := by decide +kernel
theorem dX9_serves_8 : decode cX9_serves 8 = .ok (.iaload, 1) := by decide +kernel
theorem dX9_serves_9 : decode cX9_serves 9 = .ok (.ishl, 1) := by decide +kernel
theorem dX9_serves_10 : decode cX9_serves 10 = .ok (.iconst 1, 1) := by decide +kernel
theorem dX9_serves_11 : decode cX9_serves 11 = .ok (.isub, 1) := by decide +kernel
theorem dX9_serves_12 : decode cX9_serves 12 = .ok (.invokestatic 50, 3) := by decide +kernel
theorem dX9_serves_15 : decode cX9_serves 15 = .ok (.ifCond .eq 20, 3) := by decide +kernel
theorem dX9_serves_18 : decode cX9_serves 18 = .ok (.aload_n 0, 1) := by decide +kernel
theorem dX9_serves_19 : decode cX9_serves 19 = .ok (.iload_n 2, 1) := by decide +kernel
theorem dX9_serves_20 : decode cX9_serves 20 = .ok (.invokevirtual 62, 3) := by decide +kernel
theorem dX9_serves_23 : decode cX9_serves 23 = .ok (.ifCond .eq 12, 3) := by decide +kernel
theorem dX9_serves_26 : decode cX9_serves 26 = .ok (.aload_n 0, 1) := by decide +kernel
theorem dX9_serves_27 : decode cX9_serves 27 = .ok (.iload_n 1, 1) := by decide +kernel
theorem dX9_serves_28 : decode cX9_serves 28 = .ok (.iload_n 2, 1) := by decide +kernel
theorem dX9_serves_29 : decode cX9_serves 29 = .ok (.invokevirtual 112, 3) := by decide +kernel
theorem dX9_serves_32 : decode cX9_serves 32 = .ok (.goto 9, 3) := by decide +kernel
theorem dX9_serves_35 : decode cX9_serves 35 = .ok (.aload_n 0, 1) := by decide +kernel
theorem dX9_serves_36 : decode cX9_serves 36 = .ok (.bipush (-2), 2) := by decide +kernel
theorem dX9_serves_38 : decode cX9_serves 38 = .ok (.invokevirtual 54, 3) := by decide +kernel
theorem dX9_serves_41 : decode cX9_serves 41 = .ok (.ireturn, 1) := by decide +kernel
theorem dX9_bitsIn_0 : decode cX9_bitsIn 0 = .ok (.iconst 0, 1) := by decide +kernel
theorem dX9_bitsIn_1 : decode cX9_bitsIn 1 = .ok (.istore_n 1, 1) := by decide +kernel
theorem dX9_bitsIn_2 : decode cX9_bitsIn 2 = .ok (.iconst 0, 1) := by decide +kernel
theorem dX9_bitsIn_3 : decode cX9_bitsIn 3 = .ok (.istore_n 2, 1) := by decide +kernel
theorem dX9_bitsIn_4 : decode cX9_bitsIn 4 = .ok (.iload_n 2, 1) := by decide +kernel
theorem dX9_bitsIn_5 : decode cX9_bitsIn 5 = .ok (.bipush 10, 2) := by decide +kernel
theorem dX9_bitsIn_7 : decode cX9_bitsIn 7 = .ok (.if_icmp .ge 17, 3) := by decide +kernel
theorem dX9_bitsIn_10 : decode cX9_bitsIn 10 = .ok (.iload_n 1, 1) := by decide +kernel
theorem dX9_bitsIn_11 : decode cX9_bitsIn 11 = .ok (.iload_n 0, 1) := by decide +kernel
theorem dX9_bitsIn_12 : decode cX9_bitsIn 12 = .ok (.iload_n 2, 1) := by decide +kernel
theorem dX9_bitsIn_13 : decode cX9_bitsIn 13 = .ok (.ishr, 1) := by decide +kernel
theorem dX9_bitsIn_14 : decode cX9_bitsIn 14 = .ok (.iconst 1, 1) := by decide +kernel
theorem dX9_bitsIn_15 : decode cX9_bitsIn 15 = .ok (.iand, 1) := by decide +kernel
theorem dX9_bitsIn_16 : decode cX9_bitsIn 16 = .ok (.iadd, 1) := by decide +kernel
theorem dX9_bitsIn_17 : decode cX9_bitsIn 17 = .ok (.istore_n 1, 1) := by decide +kernel
theorem dX9_bitsIn_18 : decode cX9_bitsIn 18 = .ok (.iinc 2 1, 3) := by decide +kernel
theorem dX9_bitsIn_21 : decode cX9_bitsIn 21 = .ok (.goto (-17), 3) := by decide +kernel
theorem dX9_bitsIn_24 : decode cX9_bitsIn 24 = .ok (.iload_n 1, 1) := by decide +kernel
theorem dX9_bitsIn_25 : decode cX9_bitsIn 25 = .ok (.ireturn, 1) := by decide +kernel
theorem dX9_worthOf_0 : decode cX9_worthOf 0 = .ok (.iconst 0, 1) := by decide +kernel
theorem dX9_worthOf_1 : decode cX9_worthOf 1 = .ok (.istore_n 2, 1) := by decide +kernel
theorem dX9_worthOf_2 : decode cX9_worthOf 2 = .ok (.iconst 0, 1) := by decide +kernel
theorem dX9_worthOf_3 : decode cX9_worthOf 3 = .ok (.istore_n 3, 1) := by decide +kernel
theorem dX9_worthOf_4 : decode cX9_worthOf 4 = .ok (.iload_n 3, 1) := by decide +kernel
theorem dX9_worthOf_5 : decode cX9_worthOf 5 = .ok (.aload_n 0, 1) := by decide +kernel
theorem dX9_worthOf_6 : decode cX9_worthOf 6 = .ok (.getfield 7, 3) := by decide +kernel
theorem dX9_worthOf_9 : decode cX9_worthOf 9 = .ok (.iconst 1, 1) := by decide +kernel
theorem dX9_worthOf_10 : decode cX9_worthOf 10 = .ok (.iaload, 1) := by decide +kernel
theorem dX9_worthOf_11 : decode cX9_worthOf 11 = .ok (.if_icmp .ge 93, 3) := by decide +kernel
theorem dX9_worthOf_14 : decode cX9_worthOf 14 = .ok (.iconst 0, 1) := by decide +kernel
theorem dX9_worthOf_15 : decode cX9_worthOf 15 = .ok (.istore 4, 2) := by decide +kernel
theorem dX9_worthOf_17 : decode cX9_worthOf 17 = .ok (.iconst 0, 1) := by decide +kernel
theorem dX9_worthOf_18 : decode cX9_worthOf 18 = .ok (.istore 5, 2) := by decide +kernel
theorem dX9_worthOf_20 : decode cX9_worthOf 20 = .ok (.iload 5, 2) := by decide +kernel
theorem dX9_worthOf_22 : decode cX9_worthOf 22 = .ok (.aload_n 0, 1) := by decide +kernel
theorem dX9_worthOf_23 : decode cX9_worthOf 23 = .ok (.getfield 7, 3) := by decide +kernel
theorem dX9_worthOf_26 : decode cX9_worthOf 26 = .ok (.iconst 0, 1) := by decide +kernel
theorem dX9_worthOf_27 : decode cX9_worthOf 27 = .ok (.iaload, 1) := by decide +kernel
theorem dX9_worthOf_28 : decode cX9_worthOf 28 = .ok (.if_icmp .ge 55, 3) := by decide +kernel
theorem dX9_worthOf_31 : decode cX9_worthOf 31 = .ok (.iload_n 1, 1) := by decide +kernel
theorem dX9_worthOf_32 : decode cX9_worthOf 32 = .ok (.iload 5, 2) := by decide +kernel
theorem dX9_worthOf_34 : decode cX9_worthOf 34 = .ok (.ishr, 1) := by decide +kernel
theorem dX9_worthOf_35 : decode cX9_worthOf 35 = .ok (.iconst 1, 1) := by decide +kernel
theorem dX9_worthOf_36 : decode cX9_worthOf 36 = .ok (.iand, 1) := by decide +kernel
theorem dX9_worthOf_37 : decode cX9_worthOf 37 = .ok (.iconst 1, 1) := by decide +kernel
theorem dX9_worthOf_38 : decode cX9_worthOf 38 = .ok (.if_icmp .ne 35, 3) := by decide +kernel
theorem dX9_worthOf_41 : decode cX9_worthOf 41 = .ok (.aload_n 0, 1) := by decide +kernel
theorem dX9_worthOf_42 : decode cX9_worthOf 42 = .ok (.getfield 23, 3) := by decide +kernel
theorem dX9_worthOf_45 : decode cX9_worthOf 45 = .ok (.bipush 6, 2) := by decide +kernel
theorem dX9_worthOf_47 : decode cX9_worthOf 47 = .ok (.iload 5, 2) := by decide +kernel
theorem dX9_worthOf_49 : decode cX9_worthOf 49 = .ok (.imul, 1) := by decide +kernel
theorem dX9_worthOf_50 : decode cX9_worthOf 50 = .ok (.iload_n 3, 1) := by decide +kernel
theorem dX9_worthOf_51 : decode cX9_worthOf 51 = .ok (.iadd, 1) := by decide +kernel
theorem dX9_worthOf_52 : decode cX9_worthOf 52 = .ok (.iaload, 1) := by decide +kernel
theorem dX9_worthOf_53 : decode cX9_worthOf 53 = .ok (.iload 4, 2) := by decide +kernel
theorem dX9_worthOf_55 : decode cX9_worthOf 55 = .ok (.if_icmp .le 18, 3) := by decide +kernel
theorem dX9_worthOf_58 : decode cX9_worthOf 58 = .ok (.aload_n 0, 1) := by decide +kernel
theorem dX9_worthOf_59 : decode cX9_worthOf 59 = .ok (.getfield 23, 3) := by decide +kernel
theorem dX9_worthOf_62 : decode cX9_worthOf 62 = .ok (.bipush 6, 2) := by decide +kernel
theorem dX9_worthOf_64 : decode cX9_worthOf 64 = .ok (.iload 5, 2) := by decide +kernel
theorem dX9_worthOf_66 : decode cX9_worthOf 66 = .ok (.imul, 1) := by decide +kernel
theorem dX9_worthOf_67 : decode cX9_worthOf 67 = .ok (.iload_n 3, 1) := by decide +kernel
theorem dX9_worthOf_68 : decode cX9_worthOf 68 = .ok (.iadd, 1) := by decide +kernel
theorem dX9_worthOf_69 : decode cX9_worthOf 69 = .ok (.iaload, 1) := by decide +kernel
theorem dX9_worthOf_70 : decode cX9_worthOf 70 = .ok (.goto 5, 3) := by decide +kernel
theorem dX9_worthOf_73 : decode cX9_worthOf 73 = .ok (.iload 4, 2) := by decide +kernel
theorem dX9_worthOf_75 : decode cX9_worthOf 75 = .ok (.istore 4, 2) := by decide +kernel
theorem dX9_worthOf_77 : decode cX9_worthOf 77 = .ok (.iinc 5 1, 3) := by decide +kernel
theorem dX9_worthOf_80 : decode cX9_worthOf 80 = .ok (.goto (-60), 3) := by decide +kernel
theorem dX9_worthOf_83 : decode cX9_worthOf 83 = .ok (.iload_n 2, 1) := by decide +kernel
theorem dX9_worthOf_84 : decode cX9_worthOf 84 = .ok (.aload_n 0, 1) := by decide +kernel
theorem dX9_worthOf_85 : decode cX9_worthOf 85 = .ok (.getfield 7, 3) := by decide +kernel
theorem dX9_worthOf_88 : decode cX9_worthOf 88 = .ok (.bipush 85, 2) := by decide +kernel
theorem dX9_worthOf_90 : decode cX9_worthOf 90 = .ok (.iload_n 3, 1) := by decide +kernel
theorem dX9_worthOf_91 : decode cX9_worthOf 91 = .ok (.iadd, 1) := by decide +kernel
theorem dX9_worthOf_92 : decode cX9_worthOf 92 = .ok (.iaload, 1) := by decide +kernel
theorem dX9_worthOf_93 : decode cX9_worthOf 93 = .ok (.iload 4, 2) := by decide +kernel
theorem dX9_worthOf_95 : decode cX9_worthOf 95 = .ok (.imul, 1) := by decide +kernel
theorem dX9_worthOf_96 : decode cX9_worthOf 96 = .ok (.iadd, 1) := by decide +kernel
theorem dX9_worthOf_97 : decode cX9_worthOf 97 = .ok (.istore_n 2, 1) := by decide +kernel
theorem dX9_worthOf_98 : decode cX9_worthOf 98 = .ok (.iinc 3 1, 3) := by decide +kernel
theorem dX9_worthOf_101 : decode cX9_worthOf 101 = .ok (.goto (-97), 3) := by decide +kernel
theorem dX9_worthOf_104 : decode cX9_worthOf 104 = .ok (.iload_n 2, 1) := by decide +kernel
theorem dX9_worthOf_105 : decode cX9_worthOf 105 = .ok (.ireturn, 1) := by decide +kernel
theorem dX9_cupboard_0 : decode cX9_cupboard 0 = .ok (.iload_n 1, 1) := by decide +kernel
theorem dX9_cupboard_1 : decode cX9_cupboard 1 = .ok (.iconst 0, 1) := by decide +kernel
theorem dX9_cupboard_2 : decode cX9_cupboard 2 = .ok (.aload_n 0, 1) := by decide +kernel
theorem dX9_cupboard_3 : decode cX9_cupboard 3 = .ok (.getfield 7, 3) := by decide +kernel
theorem dX9_cupboard_6 : decode cX9_cupboard 6 = .ok (.iconst 0, 1) := by decide +kernel
theorem dX9_cupboard_7 : decode cX9_cupboard 7 = .ok (.iaload, 1) := by decide +kernel
theorem dX9_cupboard_8 : decode cX9_cupboard 8 = .ok (.invokestatic 50, 3) := by decide +kernel
theorem dX9_cupboard_11 : decode cX9_cupboard 11 = .ok (.ifCond .ne 10, 3) := by decide +kernel
theorem dX9_cupboard_14 : decode cX9_cupboard 14 = .ok (.aload_n 0, 1) := by decide +kernel
theorem dX9_cupboard_15 : decode cX9_cupboard 15 = .ok (.bipush (-2), 2) := by decide +kernel
theorem dX9_cupboard_17 : decode cX9_cupboard 17 = .ok (.invokevirtual 54, 3) := by decide +kernel
theorem dX9_cupboard_20 : decode cX9_cupboard 20 = .ok (.ireturn, 1) := by decide +kernel
theorem dX9_cupboard_21 : decode cX9_cupboard 21 = .ok (.iconst 0, 1) := by decide +kernel
theorem dX9_cupboard_22 : decode cX9_cupboard 22 = .ok (.istore_n 2, 1) := by decide +kernel
theorem dX9_cupboard_23 : decode cX9_cupboard 23 = .ok (.iload_n 2, 1) := by decide +kernel
theorem dX9_cupboard_24 : decode cX9_cupboard 24 = .ok (.aload_n 0, 1) := by decide +kernel
theorem dX9_cupboard_25 : decode cX9_cupboard 25 = .ok (.getfield 7, 3) := by decide +kernel
theorem dX9_cupboard_28 : decode cX9_cupboard 28 = .ok (.iconst 0, 1) := by decide +kernel
theorem dX9_cupboard_29 : decode cX9_cupboard 29 = .ok (.iaload, 1) := by decide +kernel
theorem dX9_cupboard_30 : decode cX9_cupboard 30 = .ok (.if_icmp .ge 46, 3) := by decide +kernel
theorem dX9_cupboard_33 : decode cX9_cupboard 33 = .ok (.iconst 0, 1) := by decide +kernel
theorem dX9_cupboard_34 : decode cX9_cupboard 34 = .ok (.istore_n 3, 1) := by decide +kernel
theorem dX9_cupboard_35 : decode cX9_cupboard 35 = .ok (.iload_n 3, 1) := by decide +kernel
theorem dX9_cupboard_36 : decode cX9_cupboard 36 = .ok (.aload_n 0, 1) := by decide +kernel
theorem dX9_cupboard_37 : decode cX9_cupboard 37 = .ok (.getfield 7, 3) := by decide +kernel
theorem dX9_cupboard_40 : decode cX9_cupboard 40 = .ok (.iconst 1, 1) := by decide +kernel
theorem dX9_cupboard_41 : decode cX9_cupboard 41 = .ok (.iaload, 1) := by decide +kernel
theorem dX9_cupboard_42 : decode cX9_cupboard 42 = .ok (.if_icmp .ge 28, 3) := by decide +kernel
theorem dX9_cupboard_45 : decode cX9_cupboard 45 = .ok (.aload_n 0, 1) := by decide +kernel
theorem dX9_cupboard_46 : decode cX9_cupboard 46 = .ok (.getfield 23, 3) := by decide +kernel
theorem dX9_cupboard_49 : decode cX9_cupboard 49 = .ok (.bipush 6, 2) := by decide +kernel
theorem dX9_cupboard_51 : decode cX9_cupboard 51 = .ok (.iload_n 2, 1) := by decide +kernel
theorem dX9_cupboard_52 : decode cX9_cupboard 52 = .ok (.imul, 1) := by decide +kernel
theorem dX9_cupboard_53 : decode cX9_cupboard 53 = .ok (.iload_n 3, 1) := by decide +kernel
theorem dX9_cupboard_54 : decode cX9_cupboard 54 = .ok (.iadd, 1) := by decide +kernel
theorem dX9_cupboard_55 : decode cX9_cupboard 55 = .ok (.aload_n 0, 1) := by decide +kernel
theorem dX9_cupboard_56 : decode cX9_cupboard 56 = .ok (.iconst 1, 1) := by decide +kernel
theorem dX9_cupboard_57 : decode cX9_cupboard 57 = .ok (.iload_n 2, 1) := by decide +kernel
theorem dX9_cupboard_58 : decode cX9_cupboard 58 = .ok (.ishl, 1) := by decide +kernel
theorem dX9_cupboard_59 : decode cX9_cupboard 59 = .ok (.iload_n 3, 1) := by decide +kernel
theorem dX9_cupboard_60 : decode cX9_cupboard 60 = .ok (.invokevirtual 112, 3) := by decide +kernel
theorem dX9_cupboard_63 : decode cX9_cupboard 63 = .ok (.iastore, 1) := by decide +kernel
theorem dX9_cupboard_64 : decode cX9_cupboard 64 = .ok (.iinc 3 1, 3) := by decide +kernel
theorem dX9_cupboard_67 : decode cX9_cupboard 67 = .ok (.goto (-32), 3) := by decide +kernel
theorem dX9_cupboard_70 : decode cX9_cupboard 70 = .ok (.iinc 2 1, 3) := by decide +kernel
theorem dX9_cupboard_73 : decode cX9_cupboard 73 = .ok (.goto (-50), 3) := by decide +kernel
theorem dX9_cupboard_76 : decode cX9_cupboard 76 = .ok (.iconst 0, 1) := by decide +kernel
theorem dX9_cupboard_77 : decode cX9_cupboard 77 = .ok (.istore_n 2, 1) := by decide +kernel
theorem dX9_cupboard_78 : decode cX9_cupboard 78 = .ok (.iconst (-1), 1) := by decide +kernel
theorem dX9_cupboard_79 : decode cX9_cupboard 79 = .ok (.istore_n 3, 1) := by decide +kernel
theorem dX9_cupboard_80 : decode cX9_cupboard 80 = .ok (.iconst 0, 1) := by decide +kernel
theorem dX9_cupboard_81 : decode cX9_cupboard 81 = .ok (.istore 4, 2) := by decide +kernel
theorem dX9_cupboard_83 : decode cX9_cupboard 83 = .ok (.iload 4, 2) := by decide +kernel
theorem dX9_cupboard_85 : decode cX9_cupboard 85 = .ok (.iconst 1, 1) := by decide +kernel
theorem dX9_cupboard_86 : decode cX9_cupboard 86 = .ok (.aload_n 0, 1) := by decide +kernel
theorem dX9_cupboard_87 : decode cX9_cupboard 87 = .ok (.getfield 7, 3) := by decide +kernel
theorem dX9_cupboard_90 : decode cX9_cupboard 90 = .ok (.iconst 0, 1) := by decide +kernel
theorem dX9_cupboard_91 : decode cX9_cupboard 91 = .ok (.iaload, 1) := by decide +kernel
theorem dX9_cupboard_92 : decode cX9_cupboard 92 = .ok (.ishl, 1) := by decide +kernel
theorem dX9_cupboard_93 : decode cX9_cupboard 93 = .ok (.if_icmp .ge 52, 3) := by decide +kernel
theorem dX9_cupboard_96 : decode cX9_cupboard 96 = .ok (.iload 4, 2) := by decide +kernel
theorem dX9_cupboard_98 : decode cX9_cupboard 98 = .ok (.invokestatic 116, 3) := by decide +kernel
theorem dX9_cupboard_101 : decode cX9_cupboard 101 = .ok (.iload_n 1, 1) := by decide +kernel
theorem dX9_cupboard_102 : decode cX9_cupboard 102 = .ok (.if_icmp .ne 37, 3) := by decide +kernel
theorem dX9_cupboard_105 : decode cX9_cupboard 105 = .ok (.aload_n 0, 1) := by decide +kernel
theorem dX9_cupboard_106 : decode cX9_cupboard 106 = .ok (.iload 4, 2) := by decide +kernel
theorem dX9_cupboard_108 : decode cX9_cupboard 108 = .ok (.invokevirtual 119, 3) := by decide +kernel
theorem dX9_cupboard_111 : decode cX9_cupboard 111 = .ok (.istore 5, 2) := by decide +kernel
theorem dX9_cupboard_113 : decode cX9_cupboard 113 = .ok (.iload 5, 2) := by decide +kernel
theorem dX9_cupboard_115 : decode cX9_cupboard 115 = .ok (.iload_n 3, 1) := by decide +kernel
theorem dX9_cupboard_116 : decode cX9_cupboard 116 = .ok (.if_icmp .le 8, 3) := by decide +kernel
theorem dX9_cupboard_119 : decode cX9_cupboard 119 = .ok (.iload 4, 2) := by decide +kernel
theorem dX9_cupboard_121 : decode cX9_cupboard 121 = .ok (.goto 4, 3) := by decide +kernel
theorem dX9_cupboard_124 : decode cX9_cupboard 124 = .ok (.iload_n 2, 1) := by decide +kernel
theorem dX9_cupboard_125 : decode cX9_cupboard 125 = .ok (.istore_n 2, 1) := by decide +kernel
theorem dX9_cupboard_126 : decode cX9_cupboard 126 = .ok (.iload 5, 2) := by decide +kernel
theorem dX9_cupboard_128 : decode cX9_cupboard 128 = .ok (.iload_n 3, 1) := by decide +kernel
theorem dX9_cupboard_129 : decode cX9_cupboard 129 = .ok (.if_icmp .le 8, 3) := by decide +kernel
theorem dX9_cupboard_132 : decode cX9_cupboard 132 = .ok (.iload 5, 2) := by decide +kernel
theorem dX9_cupboard_134 : decode cX9_cupboard 134 = .ok (.goto 4, 3) := by decide +kernel
theorem dX9_cupboard_137 : decode cX9_cupboard 137 = .ok (.iload_n 3, 1) := by decide +kernel
theorem dX9_cupboard_138 : decode cX9_cupboard 138 = .ok (.istore_n 3, 1) := by decide +kernel
theorem dX9_cupboard_139 : decode cX9_cupboard 139 = .ok (.iinc 4 1, 3) := by decide +kernel
theorem dX9_cupboard_142 : decode cX9_cupboard 142 = .ok (.goto (-59), 3) := by decide +kernel
theorem dX9_cupboard_145 : decode cX9_cupboard 145 = .ok (.iload_n 2, 1) := by decide +kernel
theorem dX9_cupboard_146 : decode cX9_cupboard 146 = .ok (.ireturn, 1) := by decide +kernel
theorem dX9_words_0 : decode cX9_words 0 = .ok (.iconst 0, 1) := by decide +kernel
theorem dX9_words_1 : decode cX9_words 1 = .ok (.istore_n 1, 1) := by decide +kernel
theorem dX9_words_2 : decode cX9_words 2 = .ok (.iconst 0, 1) := by decide +kernel
theorem dX9_words_3 : decode cX9_words 3 = .ok (.istore_n 2, 1) := by decide +kernel
theorem dX9_words_4 : decode cX9_words 4 = .ok (.iload_n 2, 1) := by decide +kernel
theorem dX9_words_5 : decode cX9_words 5 = .ok (.aload_n 0, 1) := by decide +kernel
theorem dX9_words_6 : decode cX9_words 6 = .ok (.getfield 7, 3) := by decide +kernel
theorem dX9_words_9 : decode cX9_words 9 = .ok (.iconst 1, 1) := by decide +kernel
theorem dX9_words_10 : decode cX9_words 10 = .ok (.iaload, 1) := by decide +kernel
theorem dX9_words_11 : decode cX9_words 11 = .ok (.if_icmp .ge 123, 3) := by decide +kernel
theorem dX9_words_14 : decode cX9_words 14 = .ok (.aload_n 0, 1) := by decide +kernel
theorem dX9_words_15 : decode cX9_words 15 = .ok (.iload_n 2, 1) := by decide +kernel
theorem dX9_words_16 : decode cX9_words 16 = .ok (.invokevirtual 109, 3) := by decide +kernel
theorem dX9_words_19 : decode cX9_words 19 = .ok (.istore_n 3, 1) := by decide +kernel
theorem dX9_words_20 : decode cX9_words 20 = .ok (.iload_n 3, 1) := by decide +kernel
theorem dX9_words_21 : decode cX9_words 21 = .ok (.iconst (-1), 1) := by decide +kernel
theorem dX9_words_22 : decode cX9_words 22 = .ok (.if_icmp .ne 7, 3) := by decide +kernel
theorem dX9_words_25 : decode cX9_words 25 = .ok (.iconst 1, 1) := by decide +kernel
theorem dX9_words_26 : decode cX9_words 26 = .ok (.goto 4, 3) := by decide +kernel
theorem dX9_words_29 : decode cX9_words 29 = .ok (.iconst 0, 1) := by decide +kernel
theorem dX9_words_30 : decode cX9_words 30 = .ok (.istore 4, 2) := by decide +kernel
theorem dX9_words_32 : decode cX9_words 32 = .ok (.iload_n 3, 1) := by decide +kernel
theorem dX9_words_33 : decode cX9_words 33 = .ok (.iconst (-1), 1) := by decide +kernel
theorem dX9_words_34 : decode cX9_words 34 = .ok (.if_icmp .eq 79, 3) := by decide +kernel
theorem dX9_words_37 : decode cX9_words 37 = .ok (.aload_n 0, 1) := by decide +kernel
theorem dX9_words_38 : decode cX9_words 38 = .ok (.iload_n 3, 1) := by decide +kernel
theorem dX9_words_39 : decode cX9_words 39 = .ok (.iconst 0, 1) := by decide +kernel
theorem dX9_words_40 : decode cX9_words 40 = .ok (.iconst (-1), 1) := by decide +kernel
theorem dX9_words_41 : decode cX9_words 41 = .ok (.iconst 0, 1) := by decide +kernel
theorem dX9_words_42 : decode cX9_words 42 = .ok (.invokevirtual 89, 3) := by decide +kernel
theorem dX9_words_45 : decode cX9_words 45 = .ok (.aload_n 0, 1) := by decide +kernel
theorem dX9_words_46 : decode cX9_words 46 = .ok (.getfield 85, 3) := by decide +kernel
theorem dX9_words_49 : decode cX9_words 49 = .ok (.ifCond .ne 7, 3) := by decide +kernel
theorem dX9_words_52 : decode cX9_words 52 = .ok (.iconst 1, 1) := by decide +kernel
theorem dX9_words_53 : decode cX9_words 53 = .ok (.goto 4, 3) := by decide +kernel
theorem dX9_words_56 : decode cX9_words 56 = .ok (.iconst 0, 1) := by decide +kernel
theorem dX9_words_57 : decode cX9_words 57 = .ok (.istore 4, 2) := by decide +kernel
theorem dX9_words_59 : decode cX9_words 59 = .ok (.iconst 0, 1) := by decide +kernel
theorem dX9_words_60 : decode cX9_words 60 = .ok (.istore 5, 2) := by decide +kernel
theorem dX9_words_62 : decode cX9_words 62 = .ok (.iload 5, 2) := by decide +kernel
theorem dX9_words_64 : decode cX9_words 64 = .ok (.aload_n 0, 1) := by decide +kernel
theorem dX9_words_65 : decode cX9_words 65 = .ok (.getfield 7, 3) := by decide +kernel
theorem dX9_words_68 : decode cX9_words 68 = .ok (.iconst 1, 1) := by decide +kernel
theorem dX9_words_69 : decode cX9_words 69 = .ok (.iaload, 1) := by decide +kernel
theorem dX9_words_70 : decode cX9_words 70 = .ok (.if_icmp .ge 43, 3) := by decide +kernel
theorem dX9_words_73 : decode cX9_words 73 = .ok (.iload 4, 2) := by decide +kernel
theorem dX9_words_75 : decode cX9_words 75 = .ok (.ifCond .ne 25, 3) := by decide +kernel
theorem dX9_words_78 : decode cX9_words 78 = .ok (.iload 5, 2) := by decide +kernel
theorem dX9_words_80 : decode cX9_words 80 = .ok (.iload_n 2, 1) := by decide +kernel
theorem dX9_words_81 : decode cX9_words 81 = .ok (.if_icmp .eq 23, 3) := by decide +kernel
theorem dX9_words_84 : decode cX9_words 84 = .ok (.aload_n 0, 1) := by decide +kernel
theorem dX9_words_85 : decode cX9_words 85 = .ok (.getfield 20, 3) := by decide +kernel
theorem dX9_words_88 : decode cX9_words 88 = .ok (.iload 5, 2) := by decide +kernel
theorem dX9_words_90 : decode cX9_words 90 = .ok (.iaload, 1) := by decide +kernel
theorem dX9_words_91 : decode cX9_words 91 = .ok (.aload_n 0, 1) := by decide +kernel
theorem dX9_words_92 : decode cX9_words 92 = .ok (.getfield 20, 3) := by decide +kernel
theorem dX9_words_95 : decode cX9_words 95 = .ok (.iload_n 2, 1) := by decide +kernel
theorem dX9_words_96 : decode cX9_words 96 = .ok (.iaload, 1) := by decide +kernel
theorem dX9_words_97 : decode cX9_words 97 = .ok (.if_icmp .lt 7, 3) := by decide +kernel
theorem dX9_words_100 : decode cX9_words 100 = .ok (.iconst 1, 1) := by decide +kernel
theorem dX9_words_101 : decode cX9_words 101 = .ok (.goto 4, 3) := by decide +kernel
theorem dX9_words_104 : decode cX9_words 104 = .ok (.iconst 0, 1) := by decide +kernel
theorem dX9_words_105 : decode cX9_words 105 = .ok (.istore 4, 2) := by decide +kernel
theorem dX9_words_107 : decode cX9_words 107 = .ok (.iinc 5 1, 3) := by decide +kernel
theorem dX9_words_110 : decode cX9_words 110 = .ok (.goto (-48), 3) := by decide +kernel
theorem dX9_words_113 : decode cX9_words 113 = .ok (.iload_n 1, 1) := by decide +kernel
theorem dX9_words_114 : decode cX9_words 114 = .ok (.iload 4, 2) := by decide +kernel
theorem dX9_words_116 : decode cX9_words 116 = .ok (.ifCond .eq 9, 3) := by decide +kernel
theorem dX9_words_119 : decode cX9_words 119 = .ok (.iconst 1, 1) := by decide +kernel
theorem dX9_words_120 : decode cX9_words 120 = .ok (.iload_n 2, 1) := by decide +kernel
theorem dX9_words_121 : decode cX9_words 121 = .ok (.ishl, 1) := by decide +kernel
theorem dX9_words_122 : decode cX9_words 122 = .ok (.goto 4, 3) := by decide +kernel
theorem dX9_words_125 : decode cX9_words 125 = .ok (.iconst 0, 1) := by decide +kernel
theorem dX9_words_126 : decode cX9_words 126 = .ok (.ior, 1) := by decide +kernel
theorem dX9_words_127 : decode cX9_words 127 = .ok (.istore_n 1, 1) := by decide +kernel
theorem dX9_words_128 : decode cX9_words 128 = .ok (.iinc 2 1, 3) := by decide +kernel
theorem dX9_words_131 : decode cX9_words 131 = .ok (.goto (-127), 3) := by decide +kernel
theorem dX9_words_134 : decode cX9_words 134 = .ok (.iload_n 1, 1) := by decide +kernel
theorem dX9_words_135 : decode cX9_words 135 = .ok (.ireturn, 1) := by decide +kernel
theorem dX9_beast_0 : decode cX9_beast 0 = .ok (.aload_n 0, 1) := by decide +kernel
theorem dX9_beast_1 : decode cX9_beast 1 = .ok (.iload_n 1, 1) := by decide +kernel
theorem dX9_beast_2 : decode cX9_beast 2 = .ok (.invokevirtual 62, 3) := by decide +kernel
theorem dX9_beast_5 : decode cX9_beast 5 = .ok (.ifCond .eq 13, 3) := by decide +kernel
theorem dX9_beast_8 : decode cX9_beast 8 = .ok (.aload_n 0, 1) := by decide +kernel
theorem dX9_beast_9 : decode cX9_beast 9 = .ok (.getfield 7, 3) := by decide +kernel
theorem dX9_beast_12 : decode cX9_beast 12 = .ok (.iconst 0, 1) := by decide +kernel
theorem dX9_beast_13 : decode cX9_beast 13 = .ok (.iaload, 1) := by decide +kernel
theorem dX9_beast_14 : decode cX9_beast 14 = .ok (.iconst 3, 1) := by decide +kernel
theorem dX9_beast_15 : decode cX9_beast 15 = .ok (.if_icmp .ge 23, 3) := by decide +kernel
theorem dX9_beast_18 : decode cX9_beast 18 = .ok (.aload_n 0, 1) := by decide +kernel
theorem dX9_beast_19 : decode cX9_beast 19 = .ok (.aload_n 0, 1) := by decide +kernel
theorem dX9_beast_20 : decode cX9_beast 20 = .ok (.iload_n 1, 1) := by decide +kernel
theorem dX9_beast_21 : decode cX9_beast 21 = .ok (.invokevirtual 62, 3) := by decide +kernel
theorem dX9_beast_24 : decode cX9_beast 24 = .ok (.ifCond .eq 8, 3) := by decide +kernel
theorem dX9_beast_27 : decode cX9_beast 27 = .ok (.bipush (-3), 2) := by decide +kernel
theorem dX9_beast_29 : decode cX9_beast 29 = .ok (.goto 5, 3) := by decide +kernel
theorem dX9_beast_32 : decode cX9_beast 32 = .ok (.bipush (-2), 2) := by decide +kernel
theorem dX9_beast_34 : decode cX9_beast 34 = .ok (.invokevirtual 54, 3) := by decide +kernel
theorem dX9_beast_37 : decode cX9_beast 37 = .ok (.ireturn, 1) := by decide +kernel
theorem dX9_beast_38 : decode cX9_beast 38 = .ok (.iconst 0, 1) := by decide +kernel
theorem dX9_beast_39 : decode cX9_beast 39 = .ok (.istore_n 2, 1) := by decide +kernel
theorem dX9_beast_40 : decode cX9_beast 40 = .ok (.ldc 122, 2) := by decide +kernel
theorem dX9_beast_42 : decode cX9_beast 42 = .ok (.istore_n 3, 1) := by decide +kernel
theorem dX9_beast_43 : decode cX9_beast 43 = .ok (.iconst 0, 1) := by decide +kernel
theorem dX9_beast_44 : decode cX9_beast 44 = .ok (.istore 4, 2) := by decide +kernel
theorem dX9_beast_46 : decode cX9_beast 46 = .ok (.iload 4, 2) := by decide +kernel
theorem dX9_beast_48 : decode cX9_beast 48 = .ok (.sipush 1000, 3) := by decide +kernel
theorem dX9_beast_51 : decode cX9_beast 51 = .ok (.if_icmp .ge 186, 3) := by decide +kernel
theorem dX9_beast_54 : decode cX9_beast 54 = .ok (.iload 4, 2) := by decide +kernel
theorem dX9_beast_56 : decode cX9_beast 56 = .ok (.bipush 100, 2) := by decide +kernel
theorem dX9_beast_58 : decode cX9_beast 58 = .ok (.idiv, 1) := by decide +kernel
theorem dX9_beast_59 : decode cX9_beast 59 = .ok (.istore 5, 2) := by decide +kernel
theorem dX9_beast_61 : decode cX9_beast 61 = .ok (.iload 4, 2) := by decide +kernel
theorem dX9_beast_63 : decode cX9_beast 63 = .ok (.bipush 10, 2) := by decide +kernel
theorem dX9_beast_65 : decode cX9_beast 65 = .ok (.idiv, 1) := by decide +kernel
theorem dX9_beast_66 : decode cX9_beast 66 = .ok (.bipush 10, 2) := by decide +kernel
theorem dX9_beast_68 : decode cX9_beast 68 = .ok (.irem, 1) := by decide +kernel
theorem dX9_beast_69 : decode cX9_beast 69 = .ok (.istore 6, 2) := by decide +kernel
theorem dX9_beast_71 : decode cX9_beast 71 = .ok (.iload 4, 2) := by decide +kernel
theorem dX9_beast_73 : decode cX9_beast 73 = .ok (.bipush 10, 2) := by decide +kernel
theorem dX9_beast_75 : decode cX9_beast 75 = .ok (.irem, 1) := by decide +kernel
theorem dX9_beast_76 : decode cX9_beast 76 = .ok (.istore 7, 2) := by decide +kernel
theorem dX9_beast_78 : decode cX9_beast 78 = .ok (.iload 5, 2) := by decide +kernel
theorem dX9_beast_80 : decode cX9_beast 80 = .ok (.iload 6, 2) := by decide +kernel
theorem dX9_beast_82 : decode cX9_beast 82 = .ok (.if_icmp .ge 149, 3) := by decide +kernel
theorem dX9_beast_85 : decode cX9_beast 85 = .ok (.iload 6, 2) := by decide +kernel
theorem dX9_beast_87 : decode cX9_beast 87 = .ok (.iload 7, 2) := by decide +kernel
theorem dX9_beast_89 : decode cX9_beast 89 = .ok (.if_icmp .ge 142, 3) := by decide +kernel
theorem dX9_beast_92 : decode cX9_beast 92 = .ok (.iload 7, 2) := by decide +kernel
theorem dX9_beast_94 : decode cX9_beast 94 = .ok (.aload_n 0, 1) := by decide +kernel
theorem dX9_beast_95 : decode cX9_beast 95 = .ok (.getfield 7, 3) := by decide +kernel
theorem dX9_beast_98 : decode cX9_beast 98 = .ok (.iconst 0, 1) := by decide +kernel
theorem dX9_beast_99 : decode cX9_beast 99 = .ok (.iaload, 1) := by decide +kernel
theorem dX9_beast_100 : decode cX9_beast 100 = .ok (.if_icmp .ge 131, 3) := by decide +kernel
theorem dX9_beast_103 : decode cX9_beast 103 = .ok (.iconst 0, 1) := by decide +kernel
theorem dX9_beast_104 : decode cX9_beast 104 = .ok (.istore 8, 2) := by decide +kernel
theorem dX9_beast_106 : decode cX9_beast 106 = .ok (.iconst 0, 1) := by decide +kernel
theorem dX9_beast_107 : decode cX9_beast 107 = .ok (.istore 9, 2) := by decide +kernel
theorem dX9_beast_109 : decode cX9_beast 109 = .ok (.iload 9, 2) := by decide +kernel
theorem dX9_beast_111 : decode cX9_beast 111 = .ok (.bipush 6, 2) := by decide +kernel
theorem dX9_beast_113 : decode cX9_beast 113 = .ok (.if_icmp .ge 92, 3) := by decide +kernel
theorem dX9_beast_116 : decode cX9_beast 116 = .ok (.aload_n 0, 1) := by decide +kernel
theorem dX9_beast_117 : decode cX9_beast 117 = .ok (.iload 5, 2) := by decide +kernel
theorem dX9_beast_119 : decode cX9_beast 119 = .ok (.iload 9, 2) := by decide +kernel
theorem dX9_beast_121 : decode cX9_beast 121 = .ok (.iconst 0, 1) := by decide +kernel
theorem dX9_beast_122 : decode cX9_beast 122 = .ok (.invokevirtual 79, 3) := by decide +kernel
theorem dX9_beast_125 : decode cX9_beast 125 = .ok (.aload_n 0, 1) := by decide +kernel
theorem dX9_beast_126 : decode cX9_beast 126 = .ok (.iload 6, 2) := by decide +kernel
theorem dX9_beast_128 : decode cX9_beast 128 = .ok (.iload 9, 2) := by decide +kernel
theorem dX9_beast_130 : decode cX9_beast 130 = .ok (.iconst 0, 1) := by decide +kernel
theorem dX9_beast_131 : decode cX9_beast 131 = .ok (.invokevirtual 79, 3) := by decide +kernel
theorem dX9_beast_134 : decode cX9_beast 134 = .ok (.iadd, 1) := by decide +kernel
theorem dX9_beast_135 : decode cX9_beast 135 = .ok (.aload_n 0, 1) := by decide +kernel
theorem dX9_beast_136 : decode cX9_beast 136 = .ok (.iload 7, 2) := by decide +kernel
theorem dX9_beast_138 : decode cX9_beast 138 = .ok (.iload 9, 2) := by decide +kernel
theorem dX9_beast_140 : decode cX9_beast 140 = .ok (.iconst 0, 1) := by decide +kernel
theorem dX9_beast_141 : decode cX9_beast 141 = .ok (.invokevirtual 79, 3) := by decide +kernel
theorem dX9_beast_144 : decode cX9_beast 144 = .ok (.iadd, 1) := by decide +kernel
theorem dX9_beast_145 : decode cX9_beast 145 = .ok (.istore 10, 2) := by decide +kernel
theorem dX9_beast_147 : decode cX9_beast 147 = .ok (.iload 10, 2) := by decide +kernel
theorem dX9_beast_149 : decode cX9_beast 149 = .ok (.sipush 799, 3) := by decide +kernel
theorem dX9_beast_152 : decode cX9_beast 152 = .ok (.if_icmp .le 9, 3) := by decide +kernel
theorem dX9_beast_155 : decode cX9_beast 155 = .ok (.sipush 799, 3) := by decide +kernel
theorem dX9_beast_158 : decode cX9_beast 158 = .ok (.goto 5, 3) := by decide +kernel
theorem dX9_beast_161 : decode cX9_beast 161 = .ok (.iload 10, 2) := by decide +kernel
theorem dX9_beast_163 : decode cX9_beast 163 = .ok (.aload_n 0, 1) := by decide +kernel
theorem dX9_beast_164 : decode cX9_beast 164 = .ok (.getfield 7, 3) := by decide +kernel
theorem dX9_beast_167 : decode cX9_beast 167 = .ok (.bipush 91, 2) := by decide +kernel
theorem dX9_beast_169 : decode cX9_beast 169 = .ok (.bipush 6, 2) := by decide +kernel
theorem dX9_beast_171 : decode cX9_beast 171 = .ok (.iload_n 1, 1) := by decide +kernel
theorem dX9_beast_172 : decode cX9_beast 172 = .ok (.imul, 1) := by decide +kernel
theorem dX9_beast_173 : decode cX9_beast 173 = .ok (.iadd, 1) := by decide +kernel
theorem dX9_beast_174 : decode cX9_beast 174 = .ok (.iload 9, 2) := by decide +kernel
theorem dX9_beast_176 : decode cX9_beast 176 = .ok (.iadd, 1) := by decide +kernel
theorem dX9_beast_177 : decode cX9_beast 177 = .ok (.iaload, 1) := by decide +kernel
theorem dX9_beast_178 : decode cX9_beast 178 = .ok (.isub, 1) := by decide +kernel
theorem dX9_beast_179 : decode cX9_beast 179 = .ok (.istore 11, 2) := by decide +kernel
theorem dX9_beast_181 : decode cX9_beast 181 = .ok (.iload 8, 2) := by decide +kernel
theorem dX9_beast_183 : decode cX9_beast 183 = .ok (.iload 11, 2) := by decide +kernel
theorem dX9_beast_185 : decode cX9_beast 185 = .ok (.ifCond .ge 9, 3) := by decide +kernel
theorem dX9_beast_188 : decode cX9_beast 188 = .ok (.iload 11, 2) := by decide +kernel
theorem dX9_beast_190 : decode cX9_beast 190 = .ok (.ineg, 1) := by decide +kernel
theorem dX9_beast_191 : decode cX9_beast 191 = .ok (.goto 5, 3) := by decide +kernel
theorem dX9_beast_194 : decode cX9_beast 194 = .ok (.iload 11, 2) := by decide +kernel
theorem dX9_beast_196 : decode cX9_beast 196 = .ok (.iadd, 1) := by decide +kernel
theorem dX9_beast_197 : decode cX9_beast 197 = .ok (.istore 8, 2) := by decide +kernel
theorem dX9_beast_199 : decode cX9_beast 199 = .ok (.iinc 9 1, 3) := by decide +kernel
theorem dX9_beast_202 : decode cX9_beast 202 = .ok (.goto (-93), 3) := by decide +kernel
theorem dX9_beast_205 : decode cX9_beast 205 = .ok (.iload 8, 2) := by decide +kernel
theorem dX9_beast_207 : decode cX9_beast 207 = .ok (.iload_n 3, 1) := by decide +kernel
theorem dX9_beast_208 : decode cX9_beast 208 = .ok (.if_icmp .ge 8, 3) := by decide +kernel
theorem dX9_beast_211 : decode cX9_beast 211 = .ok (.iload 4, 2) := by decide +kernel
theorem dX9_beast_213 : decode cX9_beast 213 = .ok (.goto 4, 3) := by decide +kernel
theorem dX9_beast_216 : decode cX9_beast 216 = .ok (.iload_n 2, 1) := by decide +kernel
theorem dX9_beast_217 : decode cX9_beast 217 = .ok (.istore_n 2, 1) := by decide +kernel
theorem dX9_beast_218 : decode cX9_beast 218 = .ok (.iload 8, 2) := by decide +kernel
theorem dX9_beast_220 : decode cX9_beast 220 = .ok (.iload_n 3, 1) := by decide +kernel
theorem dX9_beast_221 : decode cX9_beast 221 = .ok (.if_icmp .ge 8, 3) := by decide +kernel
theorem dX9_beast_224 : decode cX9_beast 224 = .ok (.iload 8, 2) := by decide +kernel
theorem dX9_beast_226 : decode cX9_beast 226 = .ok (.goto 4, 3) := by decide +kernel
theorem dX9_beast_229 : decode cX9_beast 229 = .ok (.iload_n 3, 1) := by decide +kernel
theorem dX9_beast_230 : decode cX9_beast 230 = .ok (.istore_n 3, 1) := by decide +kernel
theorem dX9_beast_231 : decode cX9_beast 231 = .ok (.iinc 4 1, 3) := by decide +kernel
theorem dX9_beast_234 : decode cX9_beast 234 = .ok (.goto (-188), 3) := by decide +kernel
theorem dX9_beast_237 : decode cX9_beast 237 = .ok (.iload_n 2, 1) := by decide +kernel
theorem dX9_beast_238 : decode cX9_beast 238 = .ok (.ireturn, 1) := by decide +kernel
theorem dX9_type_0 : decode cX9_type 0 = .ok (.iload_n 3, 1) := by decide +kernel
theorem dX9_type_1 : decode cX9_type 1 = .ok (.iconst 1, 1) := by decide +kernel
theorem dX9_type_2 : decode cX9_type 2 = .ok (.bipush 8, 2) := by decide +kernel
theorem dX9_type_4 : decode cX9_type 4 = .ok (.invokestatic 50, 3) := by decide +kernel
theorem dX9_type_7 : decode cX9_type 7 = .ok (.ifCond .ne 10, 3) := by decide +kernel
theorem dX9_type_10 : decode cX9_type 10 = .ok (.aload_n 0, 1) := by decide +kernel
theorem dX9_type_11 : decode cX9_type 11 = .ok (.bipush (-2), 2) := by decide +kernel
theorem dX9_type_13 : decode cX9_type 13 = .ok (.invokevirtual 54, 3) := by decide +kernel
theorem dX9_type_16 : decode cX9_type 16 = .ok (.ireturn, 1) := by decide +kernel
theorem dX9_type_17 : decode cX9_type 17 = .ok (.aload_n 0, 1) := by decide +kernel
theorem dX9_type_18 : decode cX9_type 18 = .ok (.getfield 7, 3) := by decide +kernel
theorem dX9_type_21 : decode cX9_type 21 = .ok (.iconst 2, 1) := by decide +kernel
theorem dX9_type_22 : decode cX9_type 22 = .ok (.iaload, 1) := by decide +kernel
theorem dX9_type_23 : decode cX9_type 23 = .ok (.iload_n 3, 1) := by decide +kernel
theorem dX9_type_24 : decode cX9_type 24 = .ok (.iadd, 1) := by decide +kernel
theorem dX9_type_25 : decode cX9_type 25 = .ok (.sipush 200, 3) := by decide +kernel
theorem dX9_type_28 : decode cX9_type 28 = .ok (.if_icmp .le 10, 3) := by decide +kernel
theorem dX9_type_31 : decode cX9_type 31 = .ok (.aload_n 0, 1) := by decide +kernel
theorem dX9_type_32 : decode cX9_type 32 = .ok (.bipush (-4), 2) := by decide +kernel
theorem dX9_type_34 : decode cX9_type 34 = .ok (.invokevirtual 54, 3) := by decide +kernel
theorem dX9_type_37 : decode cX9_type 37 = .ok (.ireturn, 1) := by decide +kernel
theorem dX9_type_38 : decode cX9_type 38 = .ok (.iload_n 3, 1) := by decide +kernel
theorem dX9_type_39 : decode cX9_type 39 = .ok (.iconst 1, 1) := by decide +kernel
theorem dX9_type_40 : decode cX9_type 40 = .ok (.isub, 1) := by decide +kernel
theorem dX9_type_41 : decode cX9_type 41 = .ok (.istore 4, 2) := by decide +kernel
theorem dX9_type_43 : decode cX9_type 43 = .ok (.iload 4, 2) := by decide +kernel
theorem dX9_type_45 : decode cX9_type 45 = .ok (.ifCond .lt 46, 3) := by decide +kernel
theorem dX9_type_48 : decode cX9_type 48 = .ok (.aload_n 0, 1) := by decide +kernel
theorem dX9_type_49 : decode cX9_type 49 = .ok (.getfield 7, 3) := by decide +kernel
theorem dX9_type_52 : decode cX9_type 52 = .ok (.sipush 132, 3) := by decide +kernel
theorem dX9_type_55 : decode cX9_type 55 = .ok (.aload_n 0, 1) := by decide +kernel
theorem dX9_type_56 : decode cX9_type 56 = .ok (.getfield 7, 3) := by decide +kernel
theorem dX9_type_59 : decode cX9_type 59 = .ok (.iconst 2, 1) := by decide +kernel
theorem dX9_type_60 : decode cX9_type 60 = .ok (.iaload, 1) := by decide +kernel
theorem dX9_type_61 : decode cX9_type 61 = .ok (.iadd, 1) := by decide +kernel
theorem dX9_type_62 : decode cX9_type 62 = .ok (.lload_n 1, 1) := by decide +kernel
theorem dX9_type_63 : decode cX9_type 63 = .ok (.bipush 8, 2) := by decide +kernel
theorem dX9_type_65 : decode cX9_type 65 = .ok (.iload 4, 2) := by decide +kernel
theorem dX9_type_67 : decode cX9_type 67 = .ok (.imul, 1) := by decide +kernel
theorem dX9_type_68 : decode cX9_type 68 = .ok (.lshr, 1) := by decide +kernel
theorem dX9_type_69 : decode cX9_type 69 = .ok (.ldc2_w 123, 3) := by decide +kernel
theorem dX9_type_72 : decode cX9_type 72 = .ok (.land, 1) := by decide +kernel
theorem dX9_type_73 : decode cX9_type 73 = .ok (.l2i, 1) := by decide +kernel
theorem dX9_type_74 : decode cX9_type 74 = .ok (.iastore, 1) := by decide +kernel
theorem dX9_type_75 : decode cX9_type 75 = .ok (.aload_n 0, 1) := by decide +kernel
theorem dX9_type_76 : decode cX9_type 76 = .ok (.getfield 7, 3) := by decide +kernel
theorem dX9_type_79 : decode cX9_type 79 = .ok (.iconst 2, 1) := by decide +kernel
theorem dX9_type_80 : decode cX9_type 80 = .ok (.dup2, 1) := by decide +kernel
theorem dX9_type_81 : decode cX9_type 81 = .ok (.iaload, 1) := by decide +kernel
theorem dX9_type_82 : decode cX9_type 82 = .ok (.iconst 1, 1) := by decide +kernel
theorem dX9_type_83 : decode cX9_type 83 = .ok (.iadd, 1) := by decide +kernel
theorem dX9_type_84 : decode cX9_type 84 = .ok (.iastore, 1) := by decide +kernel
theorem dX9_type_85 : decode cX9_type 85 = .ok (.iinc 4 (-1), 3) := by decide +kernel
theorem dX9_type_88 : decode cX9_type 88 = .ok (.goto (-45), 3) := by decide +kernel
theorem dX9_type_91 : decode cX9_type 91 = .ok (.aload_n 0, 1) := by decide +kernel
theorem dX9_type_92 : decode cX9_type 92 = .ok (.getfield 7, 3) := by decide +kernel
theorem dX9_type_95 : decode cX9_type 95 = .ok (.iconst 2, 1) := by decide +kernel
theorem dX9_type_96 : decode cX9_type 96 = .ok (.iaload, 1) := by decide +kernel
theorem dX9_type_97 : decode cX9_type 97 = .ok (.ireturn, 1) := by decide +kernel
theorem dX9_clear_0 : decode cX9_clear 0 = .ok (.aload_n 0, 1) := by decide +kernel
theorem dX9_clear_1 : decode cX9_clear 1 = .ok (.getfield 7, 3) := by decide +kernel
theorem dX9_clear_4 : decode cX9_clear 4 = .ok (.iconst 2, 1) := by decide +kernel
theorem dX9_clear_5 : decode cX9_clear 5 = .ok (.iaload, 1) := by decide +kernel
theorem dX9_clear_6 : decode cX9_clear 6 = .ok (.istore_n 1, 1) := by decide +kernel
theorem dX9_clear_7 : decode cX9_clear 7 = .ok (.aload_n 0, 1) := by decide +kernel
theorem dX9_clear_8 : decode cX9_clear 8 = .ok (.getfield 7, 3) := by decide +kernel
theorem dX9_clear_11 : decode cX9_clear 11 = .ok (.iconst 2, 1) := by decide +kernel
theorem dX9_clear_12 : decode cX9_clear 12 = .ok (.iconst 0, 1) := by decide +kernel
theorem dX9_clear_13 : decode cX9_clear 13 = .ok (.iastore, 1) := by decide +kernel
theorem dX9_clear_14 : decode cX9_clear 14 = .ok (.iload_n 1, 1) := by decide +kernel
theorem dX9_clear_15 : decode cX9_clear 15 = .ok (.ireturn, 1) := by decide +kernel
theorem dX9_here_0 : decode cX9_here 0 = .ok (.aload_n 0, 1) := by decide +kernel
theorem dX9_here_1 : decode cX9_here 1 = .ok (.getfield 125, 3) := by decide +kernel
theorem dX9_here_4 : decode cX9_here 4 = .ok (.aload_n 0, 1) := by decide +kernel
theorem dX9_here_5 : decode cX9_here 5 = .ok (.getfield 7, 3) := by decide +kernel
theorem dX9_here_8 : decode cX9_here 8 = .ok (.iconst 2, 1) := by decide +kernel
theorem dX9_here_9 : decode cX9_here 9 = .ok (.iaload, 1) := by decide +kernel
theorem dX9_here_10 : decode cX9_here 10 = .ok (.if_icmp .ge 19, 3) := by decide +kernel
theorem dX9_here_13 : decode cX9_here 13 = .ok (.aload_n 0, 1) := by decide +kernel
theorem dX9_here_14 : decode cX9_here 14 = .ok (.getfield 7, 3) := by decide +kernel
theorem dX9_here_17 : decode cX9_here 17 = .ok (.sipush 132, 3) := by decide +kernel
theorem dX9_here_20 : decode cX9_here 20 = .ok (.aload_n 0, 1) := by decide +kernel
theorem dX9_here_21 : decode cX9_here 21 = .ok (.getfield 125, 3) := by decide +kernel
theorem dX9_here_24 : decode cX9_here 24 = .ok (.iadd, 1) := by decide +kernel
theorem dX9_here_25 : decode cX9_here 25 = .ok (.iaload, 1) := by decide +kernel
theorem dX9_here_26 : decode cX9_here 26 = .ok (.goto 4, 3) := by decide +kernel
theorem dX9_here_29 : decode cX9_here 29 = .ok (.iconst (-1), 1) := by decide +kernel
theorem dX9_here_30 : decode cX9_here 30 = .ok (.ireturn, 1) := by decide +kernel
theorem dX9_next_0 : decode cX9_next 0 = .ok (.aload_n 0, 1) := by decide +kernel
theorem dX9_next_1 : decode cX9_next 1 = .ok (.invokevirtual 128, 3) := by decide +kernel
theorem dX9_next_4 : decode cX9_next 4 = .ok (.bipush 32, 2) := by decide +kernel
theorem dX9_next_6 : decode cX9_next 6 = .ok (.if_icmp .ne 16, 3) := by decide +kernel
theorem dX9_next_9 : decode cX9_next 9 = .ok (.aload_n 0, 1) := by decide +kernel
theorem dX9_next_10 : decode cX9_next 10 = .ok (.dup, 1) := by decide +kernel
theorem dX9_next_11 : decode cX9_next 11 = .ok (.getfield 125, 3) := by decide +kernel
theorem dX9_next_14 : decode cX9_next 14 = .ok (.iconst 1, 1) := by decide +kernel
theorem dX9_next_15 : decode cX9_next 15 = .ok (.iadd, 1) := by decide +kernel
theorem dX9_next_16 : decode cX9_next 16 = .ok (.putfield 125, 3) := by decide +kernel
theorem dX9_next_19 : decode cX9_next 19 = .ok (.goto (-19), 3) := by decide +kernel
theorem dX9_next_22 : decode cX9_next 22 = .ok (.aload_n 0, 1) := by decide +kernel
theorem dX9_next_23 : decode cX9_next 23 = .ok (.aload_n 0, 1) := by decide +kernel
theorem dX9_next_24 : decode cX9_next 24 = .ok (.getfield 125, 3) := by decide +kernel
theorem dX9_next_27 : decode cX9_next 27 = .ok (.putfield 132, 3) := by decide +kernel
theorem dX9_next_30 : decode cX9_next 30 = .ok (.aload_n 0, 1) := by decide +kernel
theorem dX9_next_31 : decode cX9_next 31 = .ok (.iconst 0, 1) := by decide +kernel
theorem dX9_next_32 : decode cX9_next 32 = .ok (.putfield 135, 3) := by decide +kernel
theorem dX9_next_35 : decode cX9_next 35 = .ok (.aload_n 0, 1) := by decide +kernel
theorem dX9_next_36 : decode cX9_next 36 = .ok (.invokevirtual 128, 3) := by decide +kernel
theorem dX9_next_39 : decode cX9_next 39 = .ok (.istore_n 1, 1) := by decide +kernel
theorem dX9_next_40 : decode cX9_next 40 = .ok (.iload_n 1, 1) := by decide +kernel
theorem dX9_next_41 : decode cX9_next 41 = .ok (.ifCond .ge 11, 3) := by decide +kernel
theorem dX9_next_44 : decode cX9_next 44 = .ok (.aload_n 0, 1) := by decide +kernel
theorem dX9_next_45 : decode cX9_next 45 = .ok (.iconst 0, 1) := by decide +kernel
theorem dX9_next_46 : decode cX9_next 46 = .ok (.putfield 138, 3) := by decide +kernel
theorem dX9_next_49 : decode cX9_next 49 = .ok (.goto 229, 3) := by decide +kernel
theorem dX9_next_52 : decode cX9_next 52 = .ok (.iload_n 1, 1) := by decide +kernel
theorem dX9_next_53 : decode cX9_next 53 = .ok (.bipush 97, 2) := by decide +kernel
theorem dX9_next_55 : decode cX9_next 55 = .ok (.bipush 122, 2) := by decide +kernel
theorem dX9_next_57 : decode cX9_next 57 = .ok (.invokestatic 50, 3) := by decide +kernel
theorem dX9_next_60 : decode cX9_next 60 = .ok (.ifCond .eq 91, 3) := by decide +kernel
theorem dX9_next_63 : decode cX9_next 63 = .ok (.iconst 0, 1) := by decide +kernel
theorem dX9_next_64 : decode cX9_next 64 = .ok (.istore_n 2, 1) := by decide +kernel
theorem dX9_next_65 : decode cX9_next 65 = .ok (.aload_n 0, 1) := by decide +kernel
theorem dX9_next_66 : decode cX9_next 66 = .ok (.invokevirtual 128, 3) := by decide +kernel
theorem dX9_next_69 : decode cX9_next 69 = .ok (.bipush 97, 2) := by decide +kernel
theorem dX9_next_71 : decode cX9_next 71 = .ok (.bipush 122, 2) := by decide +kernel
theorem dX9_next_73 : decode cX9_next 73 = .ok (.invokestatic 50, 3) := by decide +kernel
theorem dX9_next_76 : decode cX9_next 76 = .ok (.ifCond .eq 46, 3) := by decide +kernel
theorem dX9_next_79 : decode cX9_next 79 = .ok (.aload_n 0, 1) := by decide +kernel
theorem dX9_next_80 : decode cX9_next 80 = .ok (.getfield 125, 3) := by decide +kernel
theorem dX9_next_83 : decode cX9_next 83 = .ok (.aload_n 0, 1) := by decide +kernel
theorem dX9_next_84 : decode cX9_next 84 = .ok (.getfield 132, 3) := by decide +kernel
theorem dX9_next_87 : decode cX9_next 87 = .ok (.isub, 1) := by decide +kernel
theorem dX9_next_88 : decode cX9_next 88 = .ok (.iconst 3, 1) := by decide +kernel
theorem dX9_next_89 : decode cX9_next 89 = .ok (.if_icmp .ge 18, 3) := by decide +kernel
theorem dX9_next_92 : decode cX9_next 92 = .ok (.bipush 27, 2) := by decide +kernel
theorem dX9_next_94 : decode cX9_next 94 = .ok (.iload_n 2, 1) := by decide +kernel
theorem dX9_next_95 : decode cX9_next 95 = .ok (.imul, 1) := by decide +kernel
theorem dX9_next_96 : decode cX9_next 96 = .ok (.aload_n 0, 1) := by decide +kernel
theorem dX9_next_97 : decode cX9_next 97 = .ok (.invokevirtual 128, 3) := by decide +kernel
theorem dX9_next_100 : decode cX9_next 100 = .ok (.iadd, 1) := by decide +kernel
theorem dX9_next_101 : decode cX9_next 101 = .ok (.bipush 96, 2) := by decide +kernel
theorem dX9_next_103 : decode cX9_next 103 = .ok (.isub, 1) := by decide +kernel
theorem dX9_next_104 : decode cX9_next 104 = .ok (.goto 4, 3) := by decide +kernel
theorem dX9_next_107 : decode cX9_next 107 = .ok (.iconst (-1), 1) := by decide +kernel
theorem dX9_next_108 : decode cX9_next 108 = .ok (.istore_n 2, 1) := by decide +kernel
theorem dX9_next_109 : decode cX9_next 109 = .ok (.aload_n 0, 1) := by decide +kernel
theorem dX9_next_110 : decode cX9_next 110 = .ok (.dup, 1) := by decide +kernel
theorem dX9_next_111 : decode cX9_next 111 = .ok (.getfield 125, 3) := by decide +kernel
theorem dX9_next_114 : decode cX9_next 114 = .ok (.iconst 1, 1) := by decide +kernel
theorem dX9_next_115 : decode cX9_next 115 = .ok (.iadd, 1) := by decide +kernel
theorem dX9_next_116 : decode cX9_next 116 = .ok (.putfield 125, 3) := by decide +kernel
theorem dX9_next_119 : decode cX9_next 119 = .ok (.goto (-54), 3) := by decide +kernel
theorem dX9_next_122 : decode cX9_next 122 = .ok (.aload_n 0, 1) := by decide +kernel
theorem dX9_next_123 : decode cX9_next 123 = .ok (.iload_n 2, 1) := by decide +kernel
theorem dX9_next_124 : decode cX9_next 124 = .ok (.bipush 47, 2) := by decide +kernel
theorem dX9_next_126 : decode cX9_next 126 = .ok (.if_icmp .ne 7, 3) := by decide +kernel
theorem dX9_next_129 : decode cX9_next 129 = .ok (.iconst 1, 1) := by decide +kernel
theorem dX9_next_130 : decode cX9_next 130 = .ok (.goto 15, 3) := by decide +kernel
theorem dX9_next_133 : decode cX9_next 133 = .ok (.iload_n 2, 1) := by decide +kernel
theorem dX9_next_134 : decode cX9_next 134 = .ok (.sipush 4419, 3) := by decide +kernel
theorem dX9_next_137 : decode cX9_next 137 = .ok (.if_icmp .ne 7, 3) := by decide +kernel
theorem dX9_next_140 : decode cX9_next 140 = .ok (.iconst 2, 1) := by decide +kernel
theorem dX9_next_141 : decode cX9_next 141 = .ok (.goto 4, 3) := by decide +kernel
theorem dX9_next_144 : decode cX9_next 144 = .ok (.iconst 5, 1) := by decide +kernel
theorem dX9_next_145 : decode cX9_next 145 = .ok (.putfield 138, 3) := by decide +kernel
theorem dX9_next_148 : decode cX9_next 148 = .ok (.goto 130, 3) := by decide +kernel
theorem dX9_next_151 : decode cX9_next 151 = .ok (.iload_n 1, 1) := by decide +kernel
theorem dX9_next_152 : decode cX9_next 152 = .ok (.bipush 48, 2) := by decide +kernel
theorem dX9_next_154 : decode cX9_next 154 = .ok (.bipush 57, 2) := by decide +kernel
theorem dX9_next_156 : decode cX9_next 156 = .ok (.invokestatic 50, 3) := by decide +kernel
theorem dX9_next_159 : decode cX9_next 159 = .ok (.ifCond .eq 94, 3) := by decide +kernel
theorem dX9_next_162 : decode cX9_next 162 = .ok (.aload_n 0, 1) := by decide +kernel
theorem dX9_next_163 : decode cX9_next 163 = .ok (.invokevirtual 128, 3) := by decide +kernel
theorem dX9_next_166 : decode cX9_next 166 = .ok (.bipush 48, 2) := by decide +kernel
theorem dX9_next_168 : decode cX9_next 168 = .ok (.bipush 57, 2) := by decide +kernel
theorem dX9_next_170 : decode cX9_next 170 = .ok (.invokestatic 50, 3) := by decide +kernel
theorem dX9_next_173 : decode cX9_next 173 = .ok (.ifCond .eq 55, 3) := by decide +kernel
theorem dX9_next_176 : decode cX9_next 176 = .ok (.aload_n 0, 1) := by decide +kernel
theorem dX9_next_177 : decode cX9_next 177 = .ok (.aload_n 0, 1) := by decide +kernel
theorem dX9_next_178 : decode cX9_next 178 = .ok (.getfield 125, 3) := by decide +kernel
theorem dX9_next_181 : decode cX9_next 181 = .ok (.aload_n 0, 1) := by decide +kernel
theorem dX9_next_182 : decode cX9_next 182 = .ok (.getfield 132, 3) := by decide +kernel
theorem dX9_next_185 : decode cX9_next 185 = .ok (.isub, 1) := by decide +kernel
theorem dX9_next_186 : decode cX9_next 186 = .ok (.iconst 3, 1) := by decide +kernel
theorem dX9_next_187 : decode cX9_next 187 = .ok (.if_icmp .ge 21, 3) := by decide +kernel
theorem dX9_next_190 : decode cX9_next 190 = .ok (.bipush 10, 2) := by decide +kernel
theorem dX9_next_192 : decode cX9_next 192 = .ok (.aload_n 0, 1) := by decide +kernel
theorem dX9_next_193 : decode cX9_next 193 = .ok (.getfield 135, 3) := by decide +kernel
theorem dX9_next_196 : decode cX9_next 196 = .ok (.imul, 1) := by decide +kernel
theorem dX9_next_197 : decode cX9_next 197 = .ok (.aload_n 0, 1) := by decide +kernel
theorem dX9_next_198 : decode cX9_next 198 = .ok (.invokevirtual 128, 3) := by decide +kernel
theorem dX9_next_201 : decode cX9_next 201 = .ok (.iadd, 1) := by decide +kernel
theorem dX9_next_202 : decode cX9_next 202 = .ok (.bipush 48, 2) := by decide +kernel
theorem dX9_next_204 : decode cX9_next 204 = .ok (.isub, 1) := by decide +kernel
theorem dX9_next_205 : decode cX9_next 205 = .ok (.goto 7, 3) := by decide +kernel
theorem dX9_next_208 : decode cX9_next 208 = .ok (.aload_n 0, 1) := by decide +kernel
theorem dX9_next_209 : decode cX9_next 209 = .ok (.getfield 135, 3) := by decide +kernel
theorem dX9_next_212 : decode cX9_next 212 = .ok (.putfield 135, 3) := by decide +kernel
theorem dX9_next_215 : decode cX9_next 215 = .ok (.aload_n 0, 1) := by decide +kernel
theorem dX9_next_216 : decode cX9_next 216 = .ok (.dup, 1) := by decide +kernel
theorem dX9_next_217 : decode cX9_next 217 = .ok (.getfield 125, 3) := by decide +kernel
theorem dX9_next_220 : decode cX9_next 220 = .ok (.iconst 1, 1) := by decide +kernel
theorem dX9_next_221 : decode cX9_next 221 = .ok (.iadd, 1) := by decide +kernel
theorem dX9_next_222 : decode cX9_next 222 = .ok (.putfield 125, 3) := by decide +kernel
theorem dX9_next_225 : decode cX9_next 225 = .ok (.goto (-63), 3) := by decide +kernel
theorem dX9_next_228 : decode cX9_next 228 = .ok (.aload_n 0, 1) := by decide +kernel
theorem dX9_next_229 : decode cX9_next 229 = .ok (.aload_n 0, 1) := by decide +kernel
theorem dX9_next_230 : decode cX9_next 230 = .ok (.getfield 125, 3) := by decide +kernel
theorem dX9_next_233 : decode cX9_next 233 = .ok (.aload_n 0, 1) := by decide +kernel
theorem dX9_next_234 : decode cX9_next 234 = .ok (.getfield 132, 3) := by decide +kernel
theorem dX9_next_237 : decode cX9_next 237 = .ok (.isub, 1) := by decide +kernel
theorem dX9_next_238 : decode cX9_next 238 = .ok (.iconst 3, 1) := by decide +kernel
theorem dX9_next_239 : decode cX9_next 239 = .ok (.if_icmp .le 7, 3) := by decide +kernel
theorem dX9_next_242 : decode cX9_next 242 = .ok (.iconst 5, 1) := by decide +kernel
theorem dX9_next_243 : decode cX9_next 243 = .ok (.goto 4, 3) := by decide +kernel
theorem dX9_next_246 : decode cX9_next 246 = .ok (.iconst 3, 1) := by decide +kernel
theorem dX9_next_247 : decode cX9_next 247 = .ok (.putfield 138, 3) := by decide +kernel
theorem dX9_next_250 : decode cX9_next 250 = .ok (.goto 28, 3) := by decide +kernel
theorem dX9_next_253 : decode cX9_next 253 = .ok (.aload_n 0, 1) := by decide +kernel
theorem dX9_next_254 : decode cX9_next 254 = .ok (.dup, 1) := by decide +kernel
theorem dX9_next_255 : decode cX9_next 255 = .ok (.getfield 125, 3) := by decide +kernel
theorem dX9_next_258 : decode cX9_next 258 = .ok (.iconst 1, 1) := by decide +kernel
theorem dX9_next_259 : decode cX9_next 259 = .ok (.iadd, 1) := by decide +kernel
theorem dX9_next_260 : decode cX9_next 260 = .ok (.putfield 125, 3) := by decide +kernel
theorem dX9_next_263 : decode cX9_next 263 = .ok (.aload_n 0, 1) := by decide +kernel
theorem dX9_next_264 : decode cX9_next 264 = .ok (.iload_n 1, 1) := by decide +kernel
theorem dX9_next_265 : decode cX9_next 265 = .ok (.bipush 59, 2) := by decide +kernel
theorem dX9_next_267 : decode cX9_next 267 = .ok (.if_icmp .ne 7, 3) := by decide +kernel
theorem dX9_next_270 : decode cX9_next 270 = .ok (.iconst 4, 1) := by decide +kernel
theorem dX9_next_271 : decode cX9_next 271 = .ok (.goto 4, 3) := by decide +kernel
theorem dX9_next_274 : decode cX9_next 274 = .ok (.iconst 5, 1) := by decide +kernel
theorem dX9_next_275 : decode cX9_next 275 = .ok (.putfield 138, 3) := by decide +kernel
theorem dX9_next_278 : decode cX9_next 278 = .ok (.return_, 1) := by decide +kernel
theorem dX9_due_0 : decode cX9_due 0 = .ok (.aload_n 0, 1) := by decide +kernel
theorem dX9_due_1 : decode cX9_due 1 = .ok (.getfield 135, 3) := by decide +kernel
theorem dX9_due_4 : decode cX9_due 4 = .ok (.istore_n 2, 1) := by decide +kernel
theorem dX9_due_5 : decode cX9_due 5 = .ok (.aload_n 0, 1) := by decide +kernel
theorem dX9_due_6 : decode cX9_due 6 = .ok (.getfield 141, 3) := by decide +kernel
theorem dX9_due_9 : decode cX9_due 9 = .ok (.iconst (-1), 1) := by decide +kernel
theorem dX9_due_10 : decode cX9_due 10 = .ok (.if_icmp .ne 22, 3) := by decide +kernel
theorem dX9_due_13 : decode cX9_due 13 = .ok (.iload_n 1, 1) := by decide +kernel
theorem dX9_due_14 : decode cX9_due 14 = .ok (.ifCond .eq 10, 3) := by decide +kernel
theorem dX9_due_17 : decode cX9_due 17 = .ok (.aload_n 0, 1) := by decide +kernel
theorem dX9_due_18 : decode cX9_due 18 = .ok (.invokevirtual 144, 3) := by decide +kernel
theorem dX9_due_21 : decode cX9_due 21 = .ok (.goto 11, 3) := by decide +kernel
theorem dX9_due_24 : decode cX9_due 24 = .ok (.aload_n 0, 1) := by decide +kernel
theorem dX9_due_25 : decode cX9_due 25 = .ok (.aload_n 0, 1) := by decide +kernel
theorem dX9_due_26 : decode cX9_due 26 = .ok (.getfield 132, 3) := by decide +kernel
theorem dX9_due_29 : decode cX9_due 29 = .ok (.putfield 141, 3) := by decide +kernel
theorem dX9_due_32 : decode cX9_due 32 = .ok (.iload_n 2, 1) := by decide +kernel
theorem dX9_due_33 : decode cX9_due 33 = .ok (.ireturn, 1) := by decide +kernel
theorem dX9_number_0 : decode cX9_number 0 = .ok (.aload_n 0, 1) := by decide +kernel
theorem dX9_number_1 : decode cX9_number 1 = .ok (.aload_n 0, 1) := by decide +kernel
theorem dX9_number_2 : decode cX9_number 2 = .ok (.getfield 138, 3) := by decide +kernel
theorem dX9_number_5 : decode cX9_number 5 = .ok (.iconst 3, 1) := by decide +kernel
theorem dX9_number_6 : decode cX9_number 6 = .ok (.if_icmp .ne 19, 3) := by decide +kernel
theorem dX9_number_9 : decode cX9_number 9 = .ok (.aload_n 0, 1) := by decide +kernel
theorem dX9_number_10 : decode cX9_number 10 = .ok (.getfield 135, 3) := by decide +kernel
theorem dX9_number_13 : decode cX9_number 13 = .ok (.iload_n 1, 1) := by decide +kernel
theorem dX9_number_14 : decode cX9_number 14 = .ok (.iload_n 2, 1) := by decide +kernel
theorem dX9_number_15 : decode cX9_number 15 = .ok (.invokestatic 50, 3) := by decide +kernel
theorem dX9_number_18 : decode cX9_number 18 = .ok (.ifCond .eq 7, 3) := by decide +kernel
theorem dX9_number_21 : decode cX9_number 21 = .ok (.iconst 1, 1) := by decide +kernel
theorem dX9_number_22 : decode cX9_number 22 = .ok (.goto 4, 3) := by decide +kernel
theorem dX9_number_25 : decode cX9_number 25 = .ok (.iconst 0, 1) := by decide +kernel
theorem dX9_number_26 : decode cX9_number 26 = .ok (.invokevirtual 147, 3) := by decide +kernel
theorem dX9_number_29 : decode cX9_number 29 = .ok (.ireturn, 1) := by decide +kernel
theorem dX9_readReel_0 : decode cX9_readReel 0 = .ok (.aload_n 0, 1) := by decide +kernel
theorem dX9_readReel_1 : decode cX9_readReel 1 = .ok (.iconst 0, 1) := by decide +kernel
theorem dX9_readReel_2 : decode cX9_readReel 2 = .ok (.putfield 125, 3) := by decide +kernel
theorem dX9_readReel_5 : decode cX9_readReel 5 = .ok (.aload_n 0, 1) := by decide +kernel
theorem dX9_readReel_6 : decode cX9_readReel 6 = .ok (.iconst (-1), 1) := by decide +kernel
theorem dX9_readReel_7 : decode cX9_readReel 7 = .ok (.putfield 141, 3) := by decide +kernel
theorem dX9_readReel_10 : decode cX9_readReel 10 = .ok (.aload_n 0, 1) := by decide +kernel
theorem dX9_readReel_11 : decode cX9_readReel 11 = .ok (.iconst 0, 1) := by decide +kernel
theorem dX9_readReel_12 : decode cX9_readReel 12 = .ok (.putfield 151, 3) := by decide +kernel
theorem dX9_readReel_15 : decode cX9_readReel 15 = .ok (.iconst 0, 1) := by decide +kernel
theorem dX9_readReel_16 : decode cX9_readReel 16 = .ok (.istore_n 1, 1) := by decide +kernel
theorem dX9_readReel_17 : decode cX9_readReel 17 = .ok (.iconst 0, 1) := by decide +kernel
theorem dX9_readReel_18 : decode cX9_readReel 18 = .ok (.istore_n 2, 1) := by decide +kernel
theorem dX9_readReel_19 : decode cX9_readReel 19 = .ok (.aload_n 0, 1) := by decide +kernel
theorem dX9_readReel_20 : decode cX9_readReel 20 = .ok (.invokevirtual 144, 3) := by decide +kernel
theorem dX9_readReel_23 : decode cX9_readReel 23 = .ok (.aload_n 0, 1) := by decide +kernel
theorem dX9_readReel_24 : decode cX9_readReel 24 = .ok (.getfield 141, 3) := by decide +kernel
theorem dX9_readReel_27 : decode cX9_readReel 27 = .ok (.iconst (-1), 1) := by decide +kernel
theorem dX9_readReel_28 : decode cX9_readReel 28 = .ok (.if_icmp .ne 198, 3) := by decide +kernel
theorem dX9_readReel_31 : decode cX9_readReel 31 = .ok (.aload_n 0, 1) := by decide +kernel
theorem dX9_readReel_32 : decode cX9_readReel 32 = .ok (.getfield 138, 3) := by decide +kernel
theorem dX9_readReel_35 : decode cX9_readReel 35 = .ok (.ifCond .eq 191, 3) := by decide +kernel
theorem dX9_readReel_38 : decode cX9_readReel 38 = .ok (.aload_n 0, 1) := by decide +kernel
theorem dX9_readReel_39 : decode cX9_readReel 39 = .ok (.getfield 138, 3) := by decide +kernel
theorem dX9_readReel_42 : decode cX9_readReel 42 = .ok (.istore_n 3, 1) := by decide +kernel
theorem dX9_readReel_43 : decode cX9_readReel 43 = .ok (.aload_n 0, 1) := by decide +kernel
theorem dX9_readReel_44 : decode cX9_readReel 44 = .ok (.iload_n 3, 1) := by decide +kernel
theorem dX9_readReel_45 : decode cX9_readReel 45 = .ok (.iconst 2, 1) := by decide +kernel
theorem dX9_readReel_46 : decode cX9_readReel 46 = .ok (.if_icmp .eq 17, 3) := by decide +kernel
theorem dX9_readReel_49 : decode cX9_readReel 49 = .ok (.iload_n 3, 1) := by decide +kernel
theorem dX9_readReel_50 : decode cX9_readReel 50 = .ok (.iconst 1, 1) := by decide +kernel
theorem dX9_readReel_51 : decode cX9_readReel 51 = .ok (.if_icmp .ne 16, 3) := by decide +kernel
theorem dX9_readReel_54 : decode cX9_readReel 54 = .ok (.aload_n 0, 1) := by decide +kernel
theorem dX9_readReel_55 : decode cX9_readReel 55 = .ok (.getfield 151, 3) := by decide +kernel
theorem dX9_readReel_58 : decode cX9_readReel 58 = .ok (.bipush 8, 2) := by decide +kernel
theorem dX9_readReel_60 : decode cX9_readReel 60 = .ok (.if_icmp .ge 7, 3) := by decide +kernel
theorem dX9_readReel_63 : decode cX9_readReel 63 = .ok (.iconst 1, 1) := by decide +kernel
theorem dX9_readReel_64 : decode cX9_readReel 64 = .ok (.goto 4, 3) := by decide +kernel
theorem dX9_readReel_67 : decode cX9_readReel 67 = .ok (.iconst 0, 1) := by decide +kernel
theorem dX9_readReel_68 : decode cX9_readReel 68 = .ok (.invokevirtual 147, 3) := by decide +kernel
theorem dX9_readReel_71 : decode cX9_readReel 71 = .ok (.pop, 1) := by decide +kernel
theorem dX9_readReel_72 : decode cX9_readReel 72 = .ok (.aload_n 0, 1) := by decide +kernel
theorem dX9_readReel_73 : decode cX9_readReel 73 = .ok (.getfield 141, 3) := by decide +kernel
theorem dX9_readReel_76 : decode cX9_readReel 76 = .ok (.iconst (-1), 1) := by decide +kernel
theorem dX9_readReel_77 : decode cX9_readReel 77 = .ok (.if_icmp .ne 19, 3) := by decide +kernel
theorem dX9_readReel_80 : decode cX9_readReel 80 = .ok (.iload_n 3, 1) := by decide +kernel
theorem dX9_readReel_81 : decode cX9_readReel 81 = .ok (.iconst 2, 1) := by decide +kernel
theorem dX9_readReel_82 : decode cX9_readReel 82 = .ok (.if_icmp .ne 14, 3) := by decide +kernel
theorem dX9_readReel_85 : decode cX9_readReel 85 = .ok (.aload_n 0, 1) := by decide +kernel
theorem dX9_readReel_86 : decode cX9_readReel 86 = .ok (.iconst 0, 1) := by decide +kernel
theorem dX9_readReel_87 : decode cX9_readReel 87 = .ok (.bipush 9, 2) := by decide +kernel
theorem dX9_readReel_89 : decode cX9_readReel 89 = .ok (.invokevirtual 154, 3) := by decide +kernel
theorem dX9_readReel_92 : decode cX9_readReel 92 = .ok (.istore_n 1, 1) := by decide +kernel
theorem dX9_readReel_93 : decode cX9_readReel 93 = .ok (.goto 112, 3) := by decide +kernel
theorem dX9_readReel_96 : decode cX9_readReel 96 = .ok (.aload_n 0, 1) := by decide +kernel
theorem dX9_readReel_97 : decode cX9_readReel 97 = .ok (.getfield 141, 3) := by decide +kernel
theorem dX9_readReel_100 : decode cX9_readReel 100 = .ok (.iconst (-1), 1) := by decide +kernel
theorem dX9_readReel_101 : decode cX9_readReel 101 = .ok (.if_icmp .ne 104, 3) := by decide +kernel
theorem dX9_readReel_104 : decode cX9_readReel 104 = .ok (.aload_n 0, 1) := by decide +kernel
theorem dX9_readReel_105 : decode cX9_readReel 105 = .ok (.getfield 26, 3) := by decide +kernel
theorem dX9_readReel_108 : decode cX9_readReel 108 = .ok (.aload_n 0, 1) := by decide +kernel
theorem dX9_readReel_109 : decode cX9_readReel 109 = .ok (.getfield 151, 3) := by decide +kernel
theorem dX9_readReel_112 : decode cX9_readReel 112 = .ok (.aload_n 0, 1) := by decide +kernel
theorem dX9_readReel_113 : decode cX9_readReel 113 = .ok (.iload_n 2, 1) := by decide +kernel
theorem dX9_readReel_114 : decode cX9_readReel 114 = .ok (.sipush 999, 3) := by decide +kernel
theorem dX9_readReel_117 : decode cX9_readReel 117 = .ok (.invokevirtual 154, 3) := by decide +kernel
theorem dX9_readReel_120 : decode cX9_readReel 120 = .ok (.iastore, 1) := by decide +kernel
theorem dX9_readReel_121 : decode cX9_readReel 121 = .ok (.aload_n 0, 1) := by decide +kernel
theorem dX9_readReel_122 : decode cX9_readReel 122 = .ok (.getfield 29, 3) := by decide +kernel
theorem dX9_readReel_125 : decode cX9_readReel 125 = .ok (.aload_n 0, 1) := by decide +kernel
theorem dX9_readReel_126 : decode cX9_readReel 126 = .ok (.getfield 151, 3) := by decide +kernel
theorem dX9_readReel_129 : decode cX9_readReel 129 = .ok (.aload_n 0, 1) := by decide +kernel
theorem dX9_readReel_130 : decode cX9_readReel 130 = .ok (.iconst 0, 1) := by decide +kernel
theorem dX9_readReel_131 : decode cX9_readReel 131 = .ok (.aload_n 0, 1) := by decide +kernel
theorem dX9_readReel_132 : decode cX9_readReel 132 = .ok (.getfield 7, 3) := by decide +kernel
theorem dX9_readReel_135 : decode cX9_readReel 135 = .ok (.iconst 0, 1) := by decide +kernel
theorem dX9_readReel_136 : decode cX9_readReel 136 = .ok (.iaload, 1) := by decide +kernel
theorem dX9_readReel_137 : decode cX9_readReel 137 = .ok (.iconst 1, 1) := by decide +kernel
theorem dX9_readReel_138 : decode cX9_readReel 138 = .ok (.isub, 1) := by decide +kernel
theorem dX9_readReel_139 : decode cX9_readReel 139 = .ok (.invokevirtual 154, 3) := by decide +kernel
theorem dX9_readReel_142 : decode cX9_readReel 142 = .ok (.iastore, 1) := by decide +kernel
theorem dX9_readReel_143 : decode cX9_readReel 143 = .ok (.aload_n 0, 1) := by decide +kernel
theorem dX9_readReel_144 : decode cX9_readReel 144 = .ok (.getfield 32, 3) := by decide +kernel
theorem dX9_readReel_147 : decode cX9_readReel 147 = .ok (.aload_n 0, 1) := by decide +kernel
theorem dX9_readReel_148 : decode cX9_readReel 148 = .ok (.getfield 151, 3) := by decide +kernel
theorem dX9_readReel_151 : decode cX9_readReel 151 = .ok (.aload_n 0, 1) := by decide +kernel
theorem dX9_readReel_152 : decode cX9_readReel 152 = .ok (.iconst 0, 1) := by decide +kernel
theorem dX9_readReel_153 : decode cX9_readReel 153 = .ok (.bipush 9, 2) := by decide +kernel
theorem dX9_readReel_155 : decode cX9_readReel 155 = .ok (.invokevirtual 154, 3) := by decide +kernel
theorem dX9_readReel_158 : decode cX9_readReel 158 = .ok (.iastore, 1) := by decide +kernel
theorem dX9_readReel_159 : decode cX9_readReel 159 = .ok (.aload_n 0, 1) := by decide +kernel
theorem dX9_readReel_160 : decode cX9_readReel 160 = .ok (.getfield 35, 3) := by decide +kernel
theorem dX9_readReel_163 : decode cX9_readReel 163 = .ok (.aload_n 0, 1) := by decide +kernel
theorem dX9_readReel_164 : decode cX9_readReel 164 = .ok (.getfield 151, 3) := by decide +kernel
theorem dX9_readReel_167 : decode cX9_readReel 167 = .ok (.aload_n 0, 1) := by decide +kernel
theorem dX9_readReel_168 : decode cX9_readReel 168 = .ok (.iconst 0, 1) := by decide +kernel
theorem dX9_readReel_169 : decode cX9_readReel 169 = .ok (.bipush 9, 2) := by decide +kernel
theorem dX9_readReel_171 : decode cX9_readReel 171 = .ok (.invokevirtual 154, 3) := by decide +kernel
theorem dX9_readReel_174 : decode cX9_readReel 174 = .ok (.iastore, 1) := by decide +kernel
theorem dX9_readReel_175 : decode cX9_readReel 175 = .ok (.aload_n 0, 1) := by decide +kernel
theorem dX9_readReel_176 : decode cX9_readReel 176 = .ok (.getfield 38, 3) := by decide +kernel
theorem dX9_readReel_179 : decode cX9_readReel 179 = .ok (.aload_n 0, 1) := by decide +kernel
theorem dX9_readReel_180 : decode cX9_readReel 180 = .ok (.getfield 151, 3) := by decide +kernel
theorem dX9_readReel_183 : decode cX9_readReel 183 = .ok (.iload_n 1, 1) := by decide +kernel
theorem dX9_readReel_184 : decode cX9_readReel 184 = .ok (.iastore, 1) := by decide +kernel
theorem dX9_readReel_185 : decode cX9_readReel 185 = .ok (.aload_n 0, 1) := by decide +kernel
theorem dX9_readReel_186 : decode cX9_readReel 186 = .ok (.getfield 26, 3) := by decide +kernel
theorem dX9_readReel_189 : decode cX9_readReel 189 = .ok (.aload_n 0, 1) := by decide +kernel
theorem dX9_readReel_190 : decode cX9_readReel 190 = .ok (.getfield 151, 3) := by decide +kernel
theorem dX9_readReel_193 : decode cX9_readReel 193 = .ok (.iaload, 1) := by decide +kernel
theorem dX9_readReel_194 : decode cX9_readReel 194 = .ok (.istore_n 2, 1) := by decide +kernel
theorem dX9_readReel_195 : decode cX9_readReel 195 = .ok (.aload_n 0, 1) := by decide +kernel
theorem dX9_readReel_196 : decode cX9_readReel 196 = .ok (.dup, 1) := by decide +kernel
theorem dX9_readReel_197 : decode cX9_readReel 197 = .ok (.getfield 151, 3) := by decide +kernel
theorem dX9_readReel_200 : decode cX9_readReel 200 = .ok (.iconst 1, 1) := by decide +kernel
theorem dX9_readReel_201 : decode cX9_readReel 201 = .ok (.iadd, 1) := by decide +kernel
theorem dX9_readReel_202 : decode cX9_readReel 202 = .ok (.putfield 151, 3) := by decide +kernel
theorem dX9_readReel_205 : decode cX9_readReel 205 = .ok (.aload_n 0, 1) := by decide +kernel
theorem dX9_readReel_206 : decode cX9_readReel 206 = .ok (.aload_n 0, 1) := by decide +kernel
theorem dX9_readReel_207 : decode cX9_readReel 207 = .ok (.getfield 138, 3) := by decide +kernel
theorem dX9_readReel_210 : decode cX9_readReel 210 = .ok (.iconst 4, 1) := by decide +kernel
theorem dX9_readReel_211 : decode cX9_readReel 211 = .ok (.if_icmp .ne 7, 3) := by decide +kernel
theorem dX9_readReel_214 : decode cX9_readReel 214 = .ok (.iconst 1, 1) := by decide +kernel
theorem dX9_readReel_215 : decode cX9_readReel 215 = .ok (.goto 4, 3) := by decide +kernel
theorem dX9_readReel_218 : decode cX9_readReel 218 = .ok (.iconst 0, 1) := by decide +kernel
theorem dX9_readReel_219 : decode cX9_readReel 219 = .ok (.invokevirtual 147, 3) := by decide +kernel
theorem dX9_readReel_222 : decode cX9_readReel 222 = .ok (.pop, 1) := by decide +kernel
theorem dX9_readReel_223 : decode cX9_readReel 223 = .ok (.goto (-200), 3) := by decide +kernel
theorem dX9_readReel_226 : decode cX9_readReel 226 = .ok (.aload_n 0, 1) := by decide +kernel
theorem dX9_readReel_227 : decode cX9_readReel 227 = .ok (.getfield 141, 3) := by decide +kernel
theorem dX9_readReel_230 : decode cX9_readReel 230 = .ok (.iconst (-1), 1) := by decide +kernel
theorem dX9_readReel_231 : decode cX9_readReel 231 = .ok (.if_icmp .ne 7, 3) := by decide +kernel
theorem dX9_readReel_234 : decode cX9_readReel 234 = .ok (.iconst 1, 1) := by decide +kernel
theorem dX9_readReel_235 : decode cX9_readReel 235 = .ok (.goto 4, 3) := by decide +kernel
theorem dX9_readReel_238 : decode cX9_readReel 238 = .ok (.iconst 0, 1) := by decide +kernel
theorem dX9_readReel_239 : decode cX9_readReel 239 = .ok (.ireturn, 1) := by decide +kernel
theorem dX9_fault_0 : decode cX9_fault 0 = .ok (.aload_n 0, 1) := by decide +kernel
theorem dX9_fault_1 : decode cX9_fault 1 = .ok (.invokevirtual 157, 3) := by decide +kernel
theorem dX9_fault_4 : decode cX9_fault 4 = .ok (.ifCond .eq 7, 3) := by decide +kernel
theorem dX9_fault_7 : decode cX9_fault 7 = .ok (.iconst (-1), 1) := by decide +kernel
theorem dX9_fault_8 : decode cX9_fault 8 = .ok (.goto 7, 3) := by decide +kernel
theorem dX9_fault_11 : decode cX9_fault 11 = .ok (.aload_n 0, 1) := by decide +kernel
theorem dX9_fault_12 : decode cX9_fault 12 = .ok (.getfield 141, 3) := by decide +kernel
theorem dX9_fault_15 : decode cX9_fault 15 = .ok (.ireturn, 1) := by decide +kernel
theorem dX9_places_0 : decode cX9_places 0 = .ok (.aload_n 0, 1) := by decide +kernel
theorem dX9_places_1 : decode cX9_places 1 = .ok (.invokevirtual 157, 3) := by decide +kernel
theorem dX9_places_4 : decode cX9_places 4 = .ok (.ifCond .eq 10, 3) := by decide +kernel
theorem dX9_places_7 : decode cX9_places 7 = .ok (.aload_n 0, 1) := by decide +kernel
theorem dX9_places_8 : decode cX9_places 8 = .ok (.getfield 151, 3) := by decide +kernel
theorem dX9_places_11 : decode cX9_places 11 = .ok (.goto 9, 3) := by decide +kernel
theorem dX9_places_14 : decode cX9_places 14 = .ok (.aload_n 0, 1) := by decide +kernel
theorem dX9_places_15 : decode cX9_places 15 = .ok (.bipush (-3), 2) := by decide +kernel
theorem dX9_places_17 : decode cX9_places 17 = .ok (.invokevirtual 54, 3) := by decide +kernel
theorem dX9_places_20 : decode cX9_places 20 = .ok (.ireturn, 1) := by decide +kernel
theorem dX9_valueIn_0 : decode cX9_valueIn 0 = .ok (.iload_n 2, 1) := by decide +kernel
theorem dX9_valueIn_1 : decode cX9_valueIn 1 = .ok (.aload_n 0, 1) := by decide +kernel
theorem dX9_valueIn_2 : decode cX9_valueIn 2 = .ok (.getfield 26, 3) := by decide +kernel
theorem dX9_valueIn_5 : decode cX9_valueIn 5 = .ok (.iload_n 1, 1) := by decide +kernel
theorem dX9_valueIn_6 : decode cX9_valueIn 6 = .ok (.iaload, 1) := by decide +kernel
theorem dX9_valueIn_7 : decode cX9_valueIn 7 = .ok (.isub, 1) := by decide +kernel
theorem dX9_valueIn_8 : decode cX9_valueIn 8 = .ok (.istore 4, 2) := by decide +kernel
theorem dX9_valueIn_10 : decode cX9_valueIn 10 = .ok (.iload 4, 2) := by decide +kernel
theorem dX9_valueIn_12 : decode cX9_valueIn 12 = .ok (.iconst 0, 1) := by decide +kernel
theorem dX9_valueIn_13 : decode cX9_valueIn 13 = .ok (.bipush 7, 2) := by decide +kernel
theorem dX9_valueIn_15 : decode cX9_valueIn 15 = .ok (.invokestatic 50, 3) := by decide +kernel
theorem dX9_valueIn_18 : decode cX9_valueIn 18 = .ok (.ifCond .eq 25, 3) := by decide +kernel
theorem dX9_valueIn_21 : decode cX9_valueIn 21 = .ok (.aload_n 0, 1) := by decide +kernel
theorem dX9_valueIn_22 : decode cX9_valueIn 22 = .ok (.aload_n 0, 1) := by decide +kernel
theorem dX9_valueIn_23 : decode cX9_valueIn 23 = .ok (.getfield 29, 3) := by decide +kernel
theorem dX9_valueIn_26 : decode cX9_valueIn 26 = .ok (.iload_n 1, 1) := by decide +kernel
theorem dX9_valueIn_27 : decode cX9_valueIn 27 = .ok (.iaload, 1) := by decide +kernel
theorem dX9_valueIn_28 : decode cX9_valueIn 28 = .ok (.iload_n 3, 1) := by decide +kernel
theorem dX9_valueIn_29 : decode cX9_valueIn 29 = .ok (.iload 4, 2) := by decide +kernel
theorem dX9_valueIn_31 : decode cX9_valueIn 31 = .ok (.aload_n 0, 1) := by decide +kernel
theorem dX9_valueIn_32 : decode cX9_valueIn 32 = .ok (.getfield 38, 3) := by decide +kernel
theorem dX9_valueIn_35 : decode cX9_valueIn 35 = .ok (.iload_n 1, 1) := by decide +kernel
theorem dX9_valueIn_36 : decode cX9_valueIn 36 = .ok (.iaload, 1) := by decide +kernel
theorem dX9_valueIn_37 : decode cX9_valueIn 37 = .ok (.invokevirtual 75, 3) := by decide +kernel
theorem dX9_valueIn_40 : decode cX9_valueIn 40 = .ok (.goto 4, 3) := by decide +kernel
theorem dX9_valueIn_43 : decode cX9_valueIn 43 = .ok (.iconst 0, 1) := by decide +kernel
theorem dX9_valueIn_44 : decode cX9_valueIn 44 = .ok (.ireturn, 1) := by decide +kernel
theorem dX9_isHidden_0 : decode cX9_isHidden 0 = .ok (.iconst 0, 1) := by decide +kernel
theorem dX9_isHidden_1 : decode cX9_isHidden 1 = .ok (.istore_n 3, 1) := by decide +kernel
theorem dX9_isHidden_2 : decode cX9_isHidden 2 = .ok (.iload_n 3, 1) := by decide +kernel
theorem dX9_isHidden_3 : decode cX9_isHidden 3 = .ok (.bipush 8, 2) := by decide +kernel
theorem dX9_isHidden_5 : decode cX9_isHidden 5 = .ok (.if_icmp .ge 125, 3) := by decide +kernel
theorem dX9_isHidden_8 : decode cX9_isHidden 8 = .ok (.aload_n 0, 1) := by decide +kernel
theorem dX9_isHidden_9 : decode cX9_isHidden 9 = .ok (.getfield 26, 3) := by decide +kernel
theorem dX9_isHidden_12 : decode cX9_isHidden 12 = .ok (.iload_n 1, 1) := by decide +kernel
theorem dX9_isHidden_13 : decode cX9_isHidden 13 = .ok (.iaload, 1) := by decide +kernel
theorem dX9_isHidden_14 : decode cX9_isHidden 14 = .ok (.iload_n 3, 1) := by decide +kernel
theorem dX9_isHidden_15 : decode cX9_isHidden 15 = .ok (.iadd, 1) := by decide +kernel
theorem dX9_isHidden_16 : decode cX9_isHidden 16 = .ok (.istore 4, 2) := by decide +kernel
theorem dX9_isHidden_18 : decode cX9_isHidden 18 = .ok (.iconst 0, 1) := by decide +kernel
theorem dX9_isHidden_19 : decode cX9_isHidden 19 = .ok (.istore 5, 2) := by decide +kernel
theorem dX9_isHidden_21 : decode cX9_isHidden 21 = .ok (.iload 5, 2) := by decide +kernel
theorem dX9_isHidden_23 : decode cX9_isHidden 23 = .ok (.bipush 6, 2) := by decide +kernel
theorem dX9_isHidden_25 : decode cX9_isHidden 25 = .ok (.if_icmp .ge 99, 3) := by decide +kernel
theorem dX9_isHidden_28 : decode cX9_isHidden 28 = .ok (.aload_n 0, 1) := by decide +kernel
theorem dX9_isHidden_29 : decode cX9_isHidden 29 = .ok (.iload_n 1, 1) := by decide +kernel
theorem dX9_isHidden_30 : decode cX9_isHidden 30 = .ok (.iload 4, 2) := by decide +kernel
theorem dX9_isHidden_32 : decode cX9_isHidden 32 = .ok (.iload 5, 2) := by decide +kernel
theorem dX9_isHidden_34 : decode cX9_isHidden 34 = .ok (.invokevirtual 161, 3) := by decide +kernel
theorem dX9_isHidden_37 : decode cX9_isHidden 37 = .ok (.istore 6, 2) := by decide +kernel
theorem dX9_isHidden_39 : decode cX9_isHidden 39 = .ok (.iconst 0, 1) := by decide +kernel
theorem dX9_isHidden_40 : decode cX9_isHidden 40 = .ok (.istore 7, 2) := by decide +kernel
theorem dX9_isHidden_42 : decode cX9_isHidden 42 = .ok (.iconst 0, 1) := by decide +kernel
theorem dX9_isHidden_43 : decode cX9_isHidden 43 = .ok (.istore 8, 2) := by decide +kernel
theorem dX9_isHidden_45 : decode cX9_isHidden 45 = .ok (.iload 8, 2) := by decide +kernel
theorem dX9_isHidden_47 : decode cX9_isHidden 47 = .ok (.aload_n 0, 1) := by decide +kernel
theorem dX9_isHidden_48 : decode cX9_isHidden 48 = .ok (.getfield 151, 3) := by decide +kernel
theorem dX9_isHidden_51 : decode cX9_isHidden 51 = .ok (.if_icmp .ge 44, 3) := by decide +kernel
theorem dX9_isHidden_54 : decode cX9_isHidden 54 = .ok (.iload 7, 2) := by decide +kernel
theorem dX9_isHidden_56 : decode cX9_isHidden 56 = .ok (.iload 8, 2) := by decide +kernel
theorem dX9_isHidden_58 : decode cX9_isHidden 58 = .ok (.iload_n 1, 1) := by decide +kernel
theorem dX9_isHidden_59 : decode cX9_isHidden 59 = .ok (.if_icmp .eq 26, 3) := by decide +kernel
theorem dX9_isHidden_62 : decode cX9_isHidden 62 = .ok (.iload_n 2, 1) := by decide +kernel
theorem dX9_isHidden_63 : decode cX9_isHidden 63 = .ok (.iload 8, 2) := by decide +kernel
theorem dX9_isHidden_65 : decode cX9_isHidden 65 = .ok (.ishr, 1) := by decide +kernel
theorem dX9_isHidden_66 : decode cX9_isHidden 66 = .ok (.iconst 1, 1) := by decide +kernel
theorem dX9_isHidden_67 : decode cX9_isHidden 67 = .ok (.iand, 1) := by decide +kernel
theorem dX9_isHidden_68 : decode cX9_isHidden 68 = .ok (.iconst 1, 1) := by decide +kernel
theorem dX9_isHidden_69 : decode cX9_isHidden 69 = .ok (.if_icmp .ne 16, 3) := by decide +kernel
theorem dX9_isHidden_72 : decode cX9_isHidden 72 = .ok (.aload_n 0, 1) := by decide +kernel
theorem dX9_isHidden_73 : decode cX9_isHidden 73 = .ok (.iload 8, 2) := by decide +kernel
theorem dX9_isHidden_75 : decode cX9_isHidden 75 = .ok (.iload 4, 2) := by decide +kernel
theorem dX9_isHidden_77 : decode cX9_isHidden 77 = .ok (.iload 5, 2) := by decide +kernel
theorem dX9_isHidden_79 : decode cX9_isHidden 79 = .ok (.invokevirtual 161, 3) := by decide +kernel
theorem dX9_isHidden_82 : decode cX9_isHidden 82 = .ok (.goto 4, 3) := by decide +kernel
theorem dX9_isHidden_85 : decode cX9_isHidden 85 = .ok (.iconst 0, 1) := by decide +kernel
theorem dX9_isHidden_86 : decode cX9_isHidden 86 = .ok (.iadd, 1) := by decide +kernel
theorem dX9_isHidden_87 : decode cX9_isHidden 87 = .ok (.istore 7, 2) := by decide +kernel
theorem dX9_isHidden_89 : decode cX9_isHidden 89 = .ok (.iinc 8 1, 3) := by decide +kernel
theorem dX9_isHidden_92 : decode cX9_isHidden 92 = .ok (.goto (-47), 3) := by decide +kernel
theorem dX9_isHidden_95 : decode cX9_isHidden 95 = .ok (.iload 6, 2) := by decide +kernel
theorem dX9_isHidden_97 : decode cX9_isHidden 97 = .ok (.ifCond .le 21, 3) := by decide +kernel
theorem dX9_isHidden_100 : decode cX9_isHidden 100 = .ok (.iload 6, 2) := by decide +kernel
theorem dX9_isHidden_102 : decode cX9_isHidden 102 = .ok (.aload_n 0, 1) := by decide +kernel
theorem dX9_isHidden_103 : decode cX9_isHidden 103 = .ok (.getfield 7, 3) := by decide +kernel
theorem dX9_isHidden_106 : decode cX9_isHidden 106 = .ok (.sipush 129, 3) := by decide +kernel
theorem dX9_isHidden_109 : decode cX9_isHidden 109 = .ok (.iaload, 1) := by decide +kernel
theorem dX9_isHidden_110 : decode cX9_isHidden 110 = .ok (.imul, 1) := by decide +kernel
theorem dX9_isHidden_111 : decode cX9_isHidden 111 = .ok (.iload 7, 2) := by decide +kernel
theorem dX9_isHidden_113 : decode cX9_isHidden 113 = .ok (.if_icmp .le 5, 3) := by decide +kernel
theorem dX9_isHidden_116 : decode cX9_isHidden 116 = .ok (.iconst 0, 1) := by decide +kernel
theorem dX9_isHidden_117 : decode cX9_isHidden 117 = .ok (.ireturn, 1) := by decide +kernel
theorem dX9_isHidden_118 : decode cX9_isHidden 118 = .ok (.iinc 5 1, 3) := by decide +kernel
theorem dX9_isHidden_121 : decode cX9_isHidden 121 = .ok (.goto (-100), 3) := by decide +kernel
theorem dX9_isHidden_124 : decode cX9_isHidden 124 = .ok (.iinc 3 1, 3) := by decide +kernel
theorem dX9_isHidden_127 : decode cX9_isHidden 127 = .ok (.goto (-125), 3) := by decide +kernel
theorem dX9_isHidden_130 : decode cX9_isHidden 130 = .ok (.iconst 1, 1) := by decide +kernel
theorem dX9_isHidden_131 : decode cX9_isHidden 131 = .ok (.ireturn, 1) := by decide +kernel
