theorem dX0_init_0 : decode cX0_init 0 = .ok (.aload_n 0, 1) := by decide +kernel
theorem dX0_init_1 : decode cX0_init 1 = .ok (.invokespecial 3, 3) := by decide +kernel
theorem dX0_init_4 : decode cX0_init 4 = .ok (.aload_n 0, 1) := by decide +kernel
theorem dX0_init_5 : decode cX0_init 5 = .ok (.sipush 800, 3) := by decide +kernel
theorem dX0_init_8 : decode cX0_init 8 = .ok (.newarray .int, 2) := by decide +kernel
theorem dX0_init_10 : decode cX0_init 10 = .ok (.putfield 9, 3) := by decide +kernel
theorem dX0_init_13 : decode cX0_init 13 = .ok (.aload_n 0, 1) := by decide +kernel
theorem dX0_init_14 : decode cX0_init 14 = .ok (.sipush 800, 3) := by decide +kernel
theorem dX0_init_17 : decode cX0_init 17 = .ok (.newarray .int, 2) := by decide +kernel
theorem dX0_init_19 : decode cX0_init 19 = .ok (.putfield 15, 3) := by decide +kernel
theorem dX0_init_22 : decode cX0_init 22 = .ok (.aload_n 0, 1) := by decide +kernel
theorem dX0_init_23 : decode cX0_init 23 = .ok (.bipush 20, 2) := by decide +kernel
theorem dX0_init_25 : decode cX0_init 25 = .ok (.newarray .int, 2) := by decide +kernel
theorem dX0_init_27 : decode cX0_init 27 = .ok (.putfield 18, 3) := by decide +kernel
theorem dX0_init_30 : decode cX0_init 30 = .ok (.return_, 1) := by decide +kernel
theorem dX0_size_0 : decode cX0_size 0 = .ok (.iload_n 1, 1) := by decide +kernel
theorem dX0_size_1 : decode cX0_size 1 = .ok (.ifCond .lt 18, 3) := by decide +kernel
theorem dX0_size_4 : decode cX0_size 4 = .ok (.iload_n 1, 1) := by decide +kernel
theorem dX0_size_5 : decode cX0_size 5 = .ok (.bipush 20, 2) := by decide +kernel
theorem dX0_size_7 : decode cX0_size 7 = .ok (.if_icmp .ge 12, 3) := by decide +kernel
theorem dX0_size_10 : decode cX0_size 10 = .ok (.aload_n 0, 1) := by decide +kernel
theorem dX0_size_11 : decode cX0_size 11 = .ok (.getfield 18, 3) := by decide +kernel
theorem dX0_size_14 : decode cX0_size 14 = .ok (.iload_n 1, 1) := by decide +kernel
theorem dX0_size_15 : decode cX0_size 15 = .ok (.iaload, 1) := by decide +kernel
theorem dX0_size_16 : decode cX0_size 16 = .ok (.goto 4, 3) := by decide +kernel
theorem dX0_size_19 : decode cX0_size 19 = .ok (.iconst 0, 1) := by decide +kernel
theorem dX0_size_20 : decode cX0_size 20 = .ok (.ireturn, 1) := by decide +kernel
theorem dX0_clear_0 : decode cX0_clear 0 = .ok (.iload_n 1, 1) := by decide +kernel
theorem dX0_clear_1 : decode cX0_clear 1 = .ok (.ifCond .lt 16, 3) := by decide +kernel
theorem dX0_clear_4 : decode cX0_clear 4 = .ok (.iload_n 1, 1) := by decide +kernel
theorem dX0_clear_5 : decode cX0_clear 5 = .ok (.bipush 20, 2) := by decide +kernel
theorem dX0_clear_7 : decode cX0_clear 7 = .ok (.if_icmp .ge 10, 3) := by decide +kernel
theorem dX0_clear_10 : decode cX0_clear 10 = .ok (.aload_n 0, 1) := by decide +kernel
theorem dX0_clear_11 : decode cX0_clear 11 = .ok (.getfield 18, 3) := by decide +kernel
theorem dX0_clear_14 : decode cX0_clear 14 = .ok (.iload_n 1, 1) := by decide +kernel
theorem dX0_clear_15 : decode cX0_clear 15 = .ok (.iconst 0, 1) := by decide +kernel
theorem dX0_clear_16 : decode cX0_clear 16 = .ok (.iastore, 1) := by decide +kernel
theorem dX0_clear_17 : decode cX0_clear 17 = .ok (.return_, 1) := by decide +kernel
theorem dX0_writeNought_0 : decode cX0_writeNought 0 = .ok (.iload_n 1, 1) := by decide +kernel
theorem dX0_writeNought_1 : decode cX0_writeNought 1 = .ok (.ifCond .lt 42, 3) := by decide +kernel
theorem dX0_writeNought_4 : decode cX0_writeNought 4 = .ok (.iload_n 1, 1) := by decide +kernel
theorem dX0_writeNought_5 : decode cX0_writeNought 5 = .ok (.bipush 20, 2) := by decide +kernel
theorem dX0_writeNought_7 : decode cX0_writeNought 7 = .ok (.if_icmp .ge 36, 3) := by decide +kernel
theorem dX0_writeNought_10 : decode cX0_writeNought 10 = .ok (.aload_n 0, 1) := by decide +kernel
theorem dX0_writeNought_11 : decode cX0_writeNought 11 = .ok (.getfield 9, 3) := by decide +kernel
theorem dX0_writeNought_14 : decode cX0_writeNought 14 = .ok (.iload_n 1, 1) := by decide +kernel
theorem dX0_writeNought_15 : decode cX0_writeNought 15 = .ok (.bipush 40, 2) := by decide +kernel
theorem dX0_writeNought_17 : decode cX0_writeNought 17 = .ok (.imul, 1) := by decide +kernel
theorem dX0_writeNought_18 : decode cX0_writeNought 18 = .ok (.bipush 48, 2) := by decide +kernel
theorem dX0_writeNought_20 : decode cX0_writeNought 20 = .ok (.iastore, 1) := by decide +kernel
theorem dX0_writeNought_21 : decode cX0_writeNought 21 = .ok (.aload_n 0, 1) := by decide +kernel
theorem dX0_writeNought_22 : decode cX0_writeNought 22 = .ok (.getfield 15, 3) := by decide +kernel
theorem dX0_writeNought_25 : decode cX0_writeNought 25 = .ok (.iload_n 1, 1) := by decide +kernel
theorem dX0_writeNought_26 : decode cX0_writeNought 26 = .ok (.bipush 40, 2) := by decide +kernel
theorem dX0_writeNought_28 : decode cX0_writeNought 28 = .ok (.imul, 1) := by decide +kernel
theorem dX0_writeNought_29 : decode cX0_writeNought 29 = .ok (.iload_n 1, 1) := by decide +kernel
theorem dX0_writeNought_30 : decode cX0_writeNought 30 = .ok (.bipush 40, 2) := by decide +kernel
theorem dX0_writeNought_32 : decode cX0_writeNought 32 = .ok (.imul, 1) := by decide +kernel
theorem dX0_writeNought_33 : decode cX0_writeNought 33 = .ok (.iconst 1, 1) := by decide +kernel
theorem dX0_writeNought_34 : decode cX0_writeNought 34 = .ok (.iadd, 1) := by decide +kernel
theorem dX0_writeNought_35 : decode cX0_writeNought 35 = .ok (.iastore, 1) := by decide +kernel
theorem dX0_writeNought_36 : decode cX0_writeNought 36 = .ok (.aload_n 0, 1) := by decide +kernel
theorem dX0_writeNought_37 : decode cX0_writeNought 37 = .ok (.getfield 18, 3) := by decide +kernel
theorem dX0_writeNought_40 : decode cX0_writeNought 40 = .ok (.iload_n 1, 1) := by decide +kernel
theorem dX0_writeNought_41 : decode cX0_writeNought 41 = .ok (.iconst 1, 1) := by decide +kernel
theorem dX0_writeNought_42 : decode cX0_writeNought 42 = .ok (.iastore, 1) := by decide +kernel
theorem dX0_writeNought_43 : decode cX0_writeNought 43 = .ok (.return_, 1) := by decide +kernel
theorem dX0_write_0 : decode cX0_write 0 = .ok (.iload_n 1, 1) := by decide +kernel
theorem dX0_write_1 : decode cX0_write 1 = .ok (.ifCond .lt 9, 3) := by decide +kernel
theorem dX0_write_4 : decode cX0_write 4 = .ok (.iload_n 1, 1) := by decide +kernel
theorem dX0_write_5 : decode cX0_write 5 = .ok (.bipush 20, 2) := by decide +kernel
theorem dX0_write_7 : decode cX0_write 7 = .ok (.if_icmp .lt 4, 3) := by decide +kernel
theorem dX0_write_10 : decode cX0_write 10 = .ok (.return_, 1) := by decide +kernel
theorem dX0_write_11 : decode cX0_write 11 = .ok (.aload_n 0, 1) := by decide +kernel
theorem dX0_write_12 : decode cX0_write 12 = .ok (.getfield 18, 3) := by decide +kernel
theorem dX0_write_15 : decode cX0_write 15 = .ok (.iload_n 1, 1) := by decide +kernel
theorem dX0_write_16 : decode cX0_write 16 = .ok (.aload_n 2, 1) := by decide +kernel
theorem dX0_write_17 : decode cX0_write 17 = .ok (.getfield 21, 3) := by decide +kernel
theorem dX0_write_20 : decode cX0_write 20 = .ok (.iastore, 1) := by decide +kernel
theorem dX0_write_21 : decode cX0_write 21 = .ok (.aload_n 2, 1) := by decide +kernel
theorem dX0_write_22 : decode cX0_write 22 = .ok (.getfield 21, 3) := by decide +kernel
theorem dX0_write_25 : decode cX0_write 25 = .ok (.bipush 40, 2) := by decide +kernel
theorem dX0_write_27 : decode cX0_write 27 = .ok (.invokestatic 27, 3) := by decide +kernel
theorem dX0_write_30 : decode cX0_write 30 = .ok (.iconst 1, 1) := by decide +kernel
theorem dX0_write_31 : decode cX0_write 31 = .ok (.isub, 1) := by decide +kernel
theorem dX0_write_32 : decode cX0_write 32 = .ok (.istore_n 3, 1) := by decide +kernel
theorem dX0_write_33 : decode cX0_write 33 = .ok (.iload_n 3, 1) := by decide +kernel
theorem dX0_write_34 : decode cX0_write 34 = .ok (.ifCond .lt 42, 3) := by decide +kernel
theorem dX0_write_37 : decode cX0_write 37 = .ok (.iload_n 1, 1) := by decide +kernel
theorem dX0_write_38 : decode cX0_write 38 = .ok (.bipush 40, 2) := by decide +kernel
theorem dX0_write_40 : decode cX0_write 40 = .ok (.imul, 1) := by decide +kernel
theorem dX0_write_41 : decode cX0_write 41 = .ok (.iload_n 3, 1) := by decide +kernel
theorem dX0_write_42 : decode cX0_write 42 = .ok (.iadd, 1) := by decide +kernel
theorem dX0_write_43 : decode cX0_write 43 = .ok (.istore 4, 2) := by decide +kernel
theorem dX0_write_45 : decode cX0_write 45 = .ok (.aload_n 0, 1) := by decide +kernel
theorem dX0_write_46 : decode cX0_write 46 = .ok (.getfield 9, 3) := by decide +kernel
theorem dX0_write_49 : decode cX0_write 49 = .ok (.iload 4, 2) := by decide +kernel
theorem dX0_write_51 : decode cX0_write 51 = .ok (.aload_n 2, 1) := by decide +kernel
theorem dX0_write_52 : decode cX0_write 52 = .ok (.iload_n 3, 1) := by decide +kernel
theorem dX0_write_53 : decode cX0_write 53 = .ok (.invokevirtual 33, 3) := by decide +kernel
theorem dX0_write_56 : decode cX0_write 56 = .ok (.iastore, 1) := by decide +kernel
theorem dX0_write_57 : decode cX0_write 57 = .ok (.aload_n 0, 1) := by decide +kernel
theorem dX0_write_58 : decode cX0_write 58 = .ok (.getfield 15, 3) := by decide +kernel
theorem dX0_write_61 : decode cX0_write 61 = .ok (.iload 4, 2) := by decide +kernel
theorem dX0_write_63 : decode cX0_write 63 = .ok (.aload_n 0, 1) := by decide +kernel
theorem dX0_write_64 : decode cX0_write 64 = .ok (.iload 4, 2) := by decide +kernel
theorem dX0_write_66 : decode cX0_write 66 = .ok (.invokevirtual 37, 3) := by decide +kernel
theorem dX0_write_69 : decode cX0_write 69 = .ok (.iastore, 1) := by decide +kernel
theorem dX0_write_70 : decode cX0_write 70 = .ok (.iinc 3 (-1), 3) := by decide +kernel
theorem dX0_write_73 : decode cX0_write 73 = .ok (.goto (-40), 3) := by decide +kernel
theorem dX0_write_76 : decode cX0_write 76 = .ok (.return_, 1) := by decide +kernel
theorem dX0_behind_0 : decode cX0_behind 0 = .ok (.aload_n 0, 1) := by decide +kernel
theorem dX0_behind_1 : decode cX0_behind 1 = .ok (.iload_n 1, 1) := by decide +kernel
theorem dX0_behind_2 : decode cX0_behind 2 = .ok (.invokevirtual 40, 3) := by decide +kernel
theorem dX0_behind_5 : decode cX0_behind 5 = .ok (.istore_n 2, 1) := by decide +kernel
theorem dX0_behind_6 : decode cX0_behind 6 = .ok (.aload_n 0, 1) := by decide +kernel
theorem dX0_behind_7 : decode cX0_behind 7 = .ok (.iload_n 1, 1) := by decide +kernel
theorem dX0_behind_8 : decode cX0_behind 8 = .ok (.invokevirtual 43, 3) := by decide +kernel
theorem dX0_behind_11 : decode cX0_behind 11 = .ok (.invokestatic 44, 3) := by decide +kernel
theorem dX0_behind_14 : decode cX0_behind 14 = .ok (.istore_n 3, 1) := by decide +kernel
theorem dX0_behind_15 : decode cX0_behind 15 = .ok (.iconst 0, 1) := by decide +kernel
theorem dX0_behind_16 : decode cX0_behind 16 = .ok (.istore 4, 2) := by decide +kernel
theorem dX0_behind_18 : decode cX0_behind 18 = .ok (.iload 4, 2) := by decide +kernel
theorem dX0_behind_20 : decode cX0_behind 20 = .ok (.iload_n 3, 1) := by decide +kernel
theorem dX0_behind_21 : decode cX0_behind 21 = .ok (.if_icmp .ge 15, 3) := by decide +kernel
theorem dX0_behind_24 : decode cX0_behind 24 = .ok (.aload_n 0, 1) := by decide +kernel
theorem dX0_behind_25 : decode cX0_behind 25 = .ok (.iload_n 2, 1) := by decide +kernel
theorem dX0_behind_26 : decode cX0_behind 26 = .ok (.invokevirtual 47, 3) := by decide +kernel
theorem dX0_behind_29 : decode cX0_behind 29 = .ok (.istore_n 2, 1) := by decide +kernel
theorem dX0_behind_30 : decode cX0_behind 30 = .ok (.iinc 4 1, 3) := by decide +kernel
theorem dX0_behind_33 : decode cX0_behind 33 = .ok (.goto (-15), 3) := by decide +kernel
theorem dX0_behind_36 : decode cX0_behind 36 = .ok (.iload_n 2, 1) := by decide +kernel
theorem dX0_behind_37 : decode cX0_behind 37 = .ok (.ireturn, 1) := by decide +kernel
theorem dX0_sign_0 : decode cX0_sign 0 = .ok (.iload_n 1, 1) := by decide +kernel
theorem dX0_sign_1 : decode cX0_sign 1 = .ok (.ifCond .lt 19, 3) := by decide +kernel
theorem dX0_sign_4 : decode cX0_sign 4 = .ok (.iload_n 1, 1) := by decide +kernel
theorem dX0_sign_5 : decode cX0_sign 5 = .ok (.sipush 800, 3) := by decide +kernel
theorem dX0_sign_8 : decode cX0_sign 8 = .ok (.if_icmp .ge 12, 3) := by decide +kernel
theorem dX0_sign_11 : decode cX0_sign 11 = .ok (.aload_n 0, 1) := by decide +kernel
theorem dX0_sign_12 : decode cX0_sign 12 = .ok (.getfield 9, 3) := by decide +kernel
theorem dX0_sign_15 : decode cX0_sign 15 = .ok (.iload_n 1, 1) := by decide +kernel
theorem dX0_sign_16 : decode cX0_sign 16 = .ok (.iaload, 1) := by decide +kernel
theorem dX0_sign_17 : decode cX0_sign 17 = .ok (.goto 4, 3) := by decide +kernel
theorem dX0_sign_20 : decode cX0_sign 20 = .ok (.iconst 0, 1) := by decide +kernel
theorem dX0_sign_21 : decode cX0_sign 21 = .ok (.ireturn, 1) := by decide +kernel
theorem dX0_after_0 : decode cX0_after 0 = .ok (.iload_n 1, 1) := by decide +kernel
theorem dX0_after_1 : decode cX0_after 1 = .ok (.ifCond .lt 19, 3) := by decide +kernel
theorem dX0_after_4 : decode cX0_after 4 = .ok (.iload_n 1, 1) := by decide +kernel
theorem dX0_after_5 : decode cX0_after 5 = .ok (.sipush 800, 3) := by decide +kernel
theorem dX0_after_8 : decode cX0_after 8 = .ok (.if_icmp .ge 12, 3) := by decide +kernel
theorem dX0_after_11 : decode cX0_after 11 = .ok (.aload_n 0, 1) := by decide +kernel
theorem dX0_after_12 : decode cX0_after 12 = .ok (.getfield 15, 3) := by decide +kernel
theorem dX0_after_15 : decode cX0_after 15 = .ok (.iload_n 1, 1) := by decide +kernel
theorem dX0_after_16 : decode cX0_after 16 = .ok (.iaload, 1) := by decide +kernel
theorem dX0_after_17 : decode cX0_after 17 = .ok (.goto 4, 3) := by decide +kernel
theorem dX0_after_20 : decode cX0_after 20 = .ok (.iconst (-1), 1) := by decide +kernel
theorem dX0_after_21 : decode cX0_after 21 = .ok (.ireturn, 1) := by decide +kernel
theorem dX0_first_0 : decode cX0_first 0 = .ok (.aload_n 0, 1) := by decide +kernel
theorem dX0_first_1 : decode cX0_first 1 = .ok (.iload_n 1, 1) := by decide +kernel
theorem dX0_first_2 : decode cX0_first 2 = .ok (.invokevirtual 43, 3) := by decide +kernel
theorem dX0_first_5 : decode cX0_first 5 = .ok (.bipush 64, 2) := by decide +kernel
theorem dX0_first_7 : decode cX0_first 7 = .ok (.if_icmp .ne 9, 3) := by decide +kernel
theorem dX0_first_10 : decode cX0_first 10 = .ok (.iload_n 1, 1) := by decide +kernel
theorem dX0_first_11 : decode cX0_first 11 = .ok (.iconst 2, 1) := by decide +kernel
theorem dX0_first_12 : decode cX0_first 12 = .ok (.iadd, 1) := by decide +kernel
theorem dX0_first_13 : decode cX0_first 13 = .ok (.goto 6, 3) := by decide +kernel
theorem dX0_first_16 : decode cX0_first 16 = .ok (.iload_n 1, 1) := by decide +kernel
theorem dX0_first_17 : decode cX0_first 17 = .ok (.iconst 1, 1) := by decide +kernel
theorem dX0_first_18 : decode cX0_first 18 = .ok (.iadd, 1) := by decide +kernel
theorem dX0_first_19 : decode cX0_first 19 = .ok (.ireturn, 1) := by decide +kernel
theorem dX0_hand_0 : decode cX0_hand 0 = .ok (.iload_n 1, 1) := by decide +kernel
theorem dX0_hand_1 : decode cX0_hand 1 = .ok (.ifCond .lt 25, 3) := by decide +kernel
theorem dX0_hand_4 : decode cX0_hand 4 = .ok (.iload_n 1, 1) := by decide +kernel
theorem dX0_hand_5 : decode cX0_hand 5 = .ok (.sipush 799, 3) := by decide +kernel
theorem dX0_hand_8 : decode cX0_hand 8 = .ok (.if_icmp .ge 18, 3) := by decide +kernel
theorem dX0_hand_11 : decode cX0_hand 11 = .ok (.aload_n 0, 1) := by decide +kernel
theorem dX0_hand_12 : decode cX0_hand 12 = .ok (.getfield 9, 3) := by decide +kernel
theorem dX0_hand_15 : decode cX0_hand 15 = .ok (.iload_n 1, 1) := by decide +kernel
theorem dX0_hand_16 : decode cX0_hand 16 = .ok (.iaload, 1) := by decide +kernel
theorem dX0_hand_17 : decode cX0_hand 17 = .ok (.bipush 64, 2) := by decide +kernel
theorem dX0_hand_19 : decode cX0_hand 19 = .ok (.if_icmp .ne 7, 3) := by decide +kernel
theorem dX0_hand_22 : decode cX0_hand 22 = .ok (.iconst 1, 1) := by decide +kernel
theorem dX0_hand_23 : decode cX0_hand 23 = .ok (.goto 4, 3) := by decide +kernel
theorem dX0_hand_26 : decode cX0_hand 26 = .ok (.iconst 0, 1) := by decide +kernel
theorem dX0_hand_27 : decode cX0_hand 27 = .ok (.istore_n 2, 1) := by decide +kernel
theorem dX0_hand_28 : decode cX0_hand 28 = .ok (.iload_n 2, 1) := by decide +kernel
theorem dX0_hand_29 : decode cX0_hand 29 = .ok (.ifCond .eq 17, 3) := by decide +kernel
theorem dX0_hand_32 : decode cX0_hand 32 = .ok (.aload_n 0, 1) := by decide +kernel
theorem dX0_hand_33 : decode cX0_hand 33 = .ok (.getfield 9, 3) := by decide +kernel
theorem dX0_hand_36 : decode cX0_hand 36 = .ok (.iload_n 1, 1) := by decide +kernel
theorem dX0_hand_37 : decode cX0_hand 37 = .ok (.iconst 1, 1) := by decide +kernel
theorem dX0_hand_38 : decode cX0_hand 38 = .ok (.iadd, 1) := by decide +kernel
theorem dX0_hand_39 : decode cX0_hand 39 = .ok (.iaload, 1) := by decide +kernel
theorem dX0_hand_40 : decode cX0_hand 40 = .ok (.bipush 48, 2) := by decide +kernel
theorem dX0_hand_42 : decode cX0_hand 42 = .ok (.isub, 1) := by decide +kernel
theorem dX0_hand_43 : decode cX0_hand 43 = .ok (.goto 4, 3) := by decide +kernel
theorem dX0_hand_46 : decode cX0_hand 46 = .ok (.iconst (-1), 1) := by decide +kernel
theorem dX0_hand_47 : decode cX0_hand 47 = .ok (.ireturn, 1) := by decide +kernel
theorem dX0_clauses_0 : decode cX0_clauses 0 = .ok (.iconst 0, 1) := by decide +kernel
theorem dX0_clauses_1 : decode cX0_clauses 1 = .ok (.istore_n 2, 1) := by decide +kernel
theorem dX0_clauses_2 : decode cX0_clauses 2 = .ok (.iconst 0, 1) := by decide +kernel
theorem dX0_clauses_3 : decode cX0_clauses 3 = .ok (.istore_n 3, 1) := by decide +kernel
theorem dX0_clauses_4 : decode cX0_clauses 4 = .ok (.iload_n 3, 1) := by decide +kernel
theorem dX0_clauses_5 : decode cX0_clauses 5 = .ok (.iconst 4, 1) := by decide +kernel
theorem dX0_clauses_6 : decode cX0_clauses 6 = .ok (.if_icmp .ge 27, 3) := by decide +kernel
theorem dX0_clauses_9 : decode cX0_clauses 9 = .ok (.aload_n 0, 1) := by decide +kernel
theorem dX0_clauses_10 : decode cX0_clauses 10 = .ok (.iload_n 1, 1) := by decide +kernel
theorem dX0_clauses_11 : decode cX0_clauses 11 = .ok (.iload_n 3, 1) := by decide +kernel
theorem dX0_clauses_12 : decode cX0_clauses 12 = .ok (.invokestatic 50, 3) := by decide +kernel
theorem dX0_clauses_15 : decode cX0_clauses 15 = .ok (.invokevirtual 53, 3) := by decide +kernel
theorem dX0_clauses_18 : decode cX0_clauses 18 = .ok (.ifCond .le 9, 3) := by decide +kernel
theorem dX0_clauses_21 : decode cX0_clauses 21 = .ok (.iload_n 2, 1) := by decide +kernel
theorem dX0_clauses_22 : decode cX0_clauses 22 = .ok (.iconst 1, 1) := by decide +kernel
theorem dX0_clauses_23 : decode cX0_clauses 23 = .ok (.iload_n 3, 1) := by decide +kernel
theorem dX0_clauses_24 : decode cX0_clauses 24 = .ok (.ishl, 1) := by decide +kernel
theorem dX0_clauses_25 : decode cX0_clauses 25 = .ok (.ior, 1) := by decide +kernel
theorem dX0_clauses_26 : decode cX0_clauses 26 = .ok (.istore_n 2, 1) := by decide +kernel
theorem dX0_clauses_27 : decode cX0_clauses 27 = .ok (.iinc 3 1, 3) := by decide +kernel
theorem dX0_clauses_30 : decode cX0_clauses 30 = .ok (.goto (-26), 3) := by decide +kernel
theorem dX0_clauses_33 : decode cX0_clauses 33 = .ok (.iload_n 2, 1) := by decide +kernel
theorem dX0_clauses_34 : decode cX0_clauses 34 = .ok (.ireturn, 1) := by decide +kernel
theorem dX1_init_0 : decode cX1_init 0 = .ok (.aload_n 0, 1) := by decide +kernel
theorem dX1_init_1 : decode cX1_init 1 = .ok (.invokespecial 3, 3) := by decide +kernel
theorem dX1_init_4 : decode cX1_init 4 = .ok (.aload_n 0, 1) := by decide +kernel
theorem dX1_init_5 : decode cX1_init 5 = .ok (.sipush 201, 3) := by decide +kernel
theorem dX1_init_8 : decode cX1_init 8 = .ok (.newarray .int, 2) := by decide +kernel
theorem dX1_init_10 : decode cX1_init 10 = .ok (.putfield 11, 3) := by decide +kernel
theorem dX1_init_13 : decode cX1_init 13 = .ok (.aload_n 0, 1) := by decide +kernel
theorem dX1_init_14 : decode cX1_init 14 = .ok (.sipush 201, 3) := by decide +kernel
theorem dX1_init_17 : decode cX1_init 17 = .ok (.newarray .int, 2) := by decide +kernel
theorem dX1_init_19 : decode cX1_init 19 = .ok (.putfield 15, 3) := by decide +kernel
theorem dX1_init_22 : decode cX1_init 22 = .ok (.aload_n 0, 1) := by decide +kernel
theorem dX1_init_23 : decode cX1_init 23 = .ok (.sipush 201, 3) := by decide +kernel
theorem dX1_init_26 : decode cX1_init 26 = .ok (.newarray .int, 2) := by decide +kernel
theorem dX1_init_28 : decode cX1_init 28 = .ok (.putfield 18, 3) := by decide +kernel
theorem dX1_init_31 : decode cX1_init 31 = .ok (.return_, 1) := by decide +kernel
theorem dX1_stands_0 : decode cX1_stands 0 = .ok (.iload_n 1, 1) := by decide +kernel
theorem dX1_stands_1 : decode cX1_stands 1 = .ok (.ifCond .lt 22, 3) := by decide +kernel
theorem dX1_stands_4 : decode cX1_stands 4 = .ok (.iload_n 1, 1) := by decide +kernel
theorem dX1_stands_5 : decode cX1_stands 5 = .ok (.aload_n 0, 1) := by decide +kernel
theorem dX1_stands_6 : decode cX1_stands 6 = .ok (.getfield 21, 3) := by decide +kernel
theorem dX1_stands_9 : decode cX1_stands 9 = .ok (.if_icmp .ge 14, 3) := by decide +kernel
theorem dX1_stands_12 : decode cX1_stands 12 = .ok (.iload_n 1, 1) := by decide +kernel
theorem dX1_stands_13 : decode cX1_stands 13 = .ok (.sipush 201, 3) := by decide +kernel
theorem dX1_stands_16 : decode cX1_stands 16 = .ok (.if_icmp .ge 7, 3) := by decide +kernel
theorem dX1_stands_19 : decode cX1_stands 19 = .ok (.iconst 1, 1) := by decide +kernel
theorem dX1_stands_20 : decode cX1_stands 20 = .ok (.goto 4, 3) := by decide +kernel
theorem dX1_stands_23 : decode cX1_stands 23 = .ok (.iconst 0, 1) := by decide +kernel
theorem dX1_stands_24 : decode cX1_stands 24 = .ok (.ireturn, 1) := by decide +kernel
theorem dX1_enter_0 : decode cX1_enter 0 = .ok (.aload_n 0, 1) := by decide +kernel
theorem dX1_enter_1 : decode cX1_enter 1 = .ok (.getfield 21, 3) := by decide +kernel
theorem dX1_enter_4 : decode cX1_enter 4 = .ok (.ifCond .lt 13, 3) := by decide +kernel
theorem dX1_enter_7 : decode cX1_enter 7 = .ok (.aload_n 0, 1) := by decide +kernel
theorem dX1_enter_8 : decode cX1_enter 8 = .ok (.getfield 21, 3) := by decide +kernel
theorem dX1_enter_11 : decode cX1_enter 11 = .ok (.sipush 201, 3) := by decide +kernel
theorem dX1_enter_14 : decode cX1_enter 14 = .ok (.if_icmp .lt 5, 3) := by decide +kernel
theorem dX1_enter_17 : decode cX1_enter 17 = .ok (.iconst (-1), 1) := by decide +kernel
theorem dX1_enter_18 : decode cX1_enter 18 = .ok (.ireturn, 1) := by decide +kernel
theorem dX1_enter_19 : decode cX1_enter 19 = .ok (.aload_n 0, 1) := by decide +kernel
theorem dX1_enter_20 : decode cX1_enter 20 = .ok (.getfield 11, 3) := by decide +kernel
theorem dX1_enter_23 : decode cX1_enter 23 = .ok (.aload_n 0, 1) := by decide +kernel
theorem dX1_enter_24 : decode cX1_enter 24 = .ok (.getfield 21, 3) := by decide +kernel
theorem dX1_enter_27 : decode cX1_enter 27 = .ok (.iload_n 1, 1) := by decide +kernel
theorem dX1_enter_28 : decode cX1_enter 28 = .ok (.iastore, 1) := by decide +kernel
theorem dX1_enter_29 : decode cX1_enter 29 = .ok (.aload_n 0, 1) := by decide +kernel
theorem dX1_enter_30 : decode cX1_enter 30 = .ok (.getfield 15, 3) := by decide +kernel
theorem dX1_enter_33 : decode cX1_enter 33 = .ok (.aload_n 0, 1) := by decide +kernel
theorem dX1_enter_34 : decode cX1_enter 34 = .ok (.getfield 21, 3) := by decide +kernel
theorem dX1_enter_37 : decode cX1_enter 37 = .ok (.iload_n 2, 1) := by decide +kernel
theorem dX1_enter_38 : decode cX1_enter 38 = .ok (.iastore, 1) := by decide +kernel
theorem dX1_enter_39 : decode cX1_enter 39 = .ok (.aload_n 0, 1) := by decide +kernel
theorem dX1_enter_40 : decode cX1_enter 40 = .ok (.getfield 18, 3) := by decide +kernel
theorem dX1_enter_43 : decode cX1_enter 43 = .ok (.aload_n 0, 1) := by decide +kernel
theorem dX1_enter_44 : decode cX1_enter 44 = .ok (.getfield 21, 3) := by decide +kernel
theorem dX1_enter_47 : decode cX1_enter 47 = .ok (.iload_n 3, 1) := by decide +kernel
theorem dX1_enter_48 : decode cX1_enter 48 = .ok (.iastore, 1) := by decide +kernel
theorem dX1_enter_49 : decode cX1_enter 49 = .ok (.aload_n 0, 1) := by decide +kernel
theorem dX1_enter_50 : decode cX1_enter 50 = .ok (.dup, 1) := by decide +kernel
theorem dX1_enter_51 : decode cX1_enter 51 = .ok (.getfield 21, 3) := by decide +kernel
theorem dX1_enter_54 : decode cX1_enter 54 = .ok (.iconst 1, 1) := by decide +kernel
theorem dX1_enter_55 : decode cX1_enter 55 = .ok (.iadd, 1) := by decide +kernel
theorem dX1_enter_56 : decode cX1_enter 56 = .ok (.putfield 21, 3) := by decide +kernel
theorem dX1_enter_59 : decode cX1_enter 59 = .ok (.aload_n 0, 1) := by decide +kernel
theorem dX1_enter_60 : decode cX1_enter 60 = .ok (.getfield 21, 3) := by decide +kernel
theorem dX1_enter_63 : decode cX1_enter 63 = .ok (.iconst 1, 1) := by decide +kernel
theorem dX1_enter_64 : decode cX1_enter 64 = .ok (.isub, 1) := by decide +kernel
theorem dX1_enter_65 : decode cX1_enter 65 = .ok (.ireturn, 1) := by decide +kernel
theorem dX1_argument_0 : decode cX1_argument 0 = .ok (.aload_n 0, 1) := by decide +kernel
theorem dX1_argument_1 : decode cX1_argument 1 = .ok (.iload_n 1, 1) := by decide +kernel
theorem dX1_argument_2 : decode cX1_argument 2 = .ok (.invokevirtual 25, 3) := by decide +kernel
theorem dX1_argument_5 : decode cX1_argument 5 = .ok (.ifCond .eq 12, 3) := by decide +kernel
theorem dX1_argument_8 : decode cX1_argument 8 = .ok (.aload_n 0, 1) := by decide +kernel
theorem dX1_argument_9 : decode cX1_argument 9 = .ok (.getfield 11, 3) := by decide +kernel
theorem dX1_argument_12 : decode cX1_argument 12 = .ok (.iload_n 1, 1) := by decide +kernel
theorem dX1_argument_13 : decode cX1_argument 13 = .ok (.iaload, 1) := by decide +kernel
theorem dX1_argument_14 : decode cX1_argument 14 = .ok (.goto 4, 3) := by decide +kernel
theorem dX1_argument_17 : decode cX1_argument 17 = .ok (.iconst 0, 1) := by decide +kernel
theorem dX1_argument_18 : decode cX1_argument 18 = .ok (.ireturn, 1) := by decide +kernel
theorem dX1_keptTop_0 : decode cX1_keptTop 0 = .ok (.aload_n 0, 1) := by decide +kernel
theorem dX1_keptTop_1 : decode cX1_keptTop 1 = .ok (.iload_n 1, 1) := by decide +kernel
theorem dX1_keptTop_2 : decode cX1_keptTop 2 = .ok (.invokevirtual 25, 3) := by decide +kernel
theorem dX1_keptTop_5 : decode cX1_keptTop 5 = .ok (.ifCond .eq 12, 3) := by decide +kernel
theorem dX1_keptTop_8 : decode cX1_keptTop 8 = .ok (.aload_n 0, 1) := by decide +kernel
theorem dX1_keptTop_9 : decode cX1_keptTop 9 = .ok (.getfield 15, 3) := by decide +kernel
theorem dX1_keptTop_12 : decode cX1_keptTop 12 = .ok (.iload_n 1, 1) := by decide +kernel
theorem dX1_keptTop_13 : decode cX1_keptTop 13 = .ok (.iaload, 1) := by decide +kernel
theorem dX1_keptTop_14 : decode cX1_keptTop 14 = .ok (.goto 4, 3) := by decide +kernel
theorem dX1_keptTop_17 : decode cX1_keptTop 17 = .ok (.iconst (-1), 1) := by decide +kernel
theorem dX1_keptTop_18 : decode cX1_keptTop 18 = .ok (.ireturn, 1) := by decide +kernel
theorem dX1_keptHand_0 : decode cX1_keptHand 0 = .ok (.aload_n 0, 1) := by decide +kernel
theorem dX1_keptHand_1 : decode cX1_keptHand 1 = .ok (.iload_n 1, 1) := by decide +kernel
theorem dX1_keptHand_2 : decode cX1_keptHand 2 = .ok (.invokevirtual 25, 3) := by decide +kernel
theorem dX1_keptHand_5 : decode cX1_keptHand 5 = .ok (.ifCond .eq 12, 3) := by decide +kernel
theorem dX1_keptHand_8 : decode cX1_keptHand 8 = .ok (.aload_n 0, 1) := by decide +kernel
theorem dX1_keptHand_9 : decode cX1_keptHand 9 = .ok (.getfield 18, 3) := by decide +kernel
theorem dX1_keptHand_12 : decode cX1_keptHand 12 = .ok (.iload_n 1, 1) := by decide +kernel
theorem dX1_keptHand_13 : decode cX1_keptHand 13 = .ok (.iaload, 1) := by decide +kernel
theorem dX1_keptHand_14 : decode cX1_keptHand 14 = .ok (.goto 4, 3) := by decide +kernel
theorem dX1_keptHand_17 : decode cX1_keptHand 17 = .ok (.iconst (-1), 1) := by decide +kernel
theorem dX1_keptHand_18 : decode cX1_keptHand 18 = .ok (.ireturn, 1) := by decide +kernel
theorem dX2_init_0 : decode cX2_init 0 = .ok (.aload_n 0, 1) := by decide +kernel
theorem dX2_init_1 : decode cX2_init 1 = .ok (.invokespecial 3, 3) := by decide +kernel
theorem dX2_init_4 : decode cX2_init 4 = .ok (.aload_n 0, 1) := by decide +kernel
theorem dX2_init_5 : decode cX2_init 5 = .ok (.bipush 40, 2) := by decide +kernel
theorem dX2_init_7 : decode cX2_init 7 = .ok (.newarray .int, 2) := by decide +kernel
theorem dX2_init_9 : decode cX2_init 9 = .ok (.putfield 9, 3) := by decide +kernel
theorem dX2_init_12 : decode cX2_init 12 = .ok (.aload_n 0, 1) := by decide +kernel
theorem dX2_init_13 : decode cX2_init 13 = .ok (.bipush 10, 2) := by decide +kernel
theorem dX2_init_15 : decode cX2_init 15 = .ok (.newarray .int, 2) := by decide +kernel
theorem dX2_init_17 : decode cX2_init 17 = .ok (.putfield 15, 3) := by decide +kernel
theorem dX2_init_20 : decode cX2_init 20 = .ok (.return_, 1) := by decide +kernel
theorem dX2_add_0 : decode cX2_add 0 = .ok (.aload_n 0, 1) := by decide +kernel
theorem dX2_add_1 : decode cX2_add 1 = .ok (.getfield 18, 3) := by decide +kernel
theorem dX2_add_4 : decode cX2_add 4 = .ok (.ifCond .lt 12, 3) := by decide +kernel
theorem dX2_add_7 : decode cX2_add 7 = .ok (.aload_n 0, 1) := by decide +kernel
theorem dX2_add_8 : decode cX2_add 8 = .ok (.getfield 18, 3) := by decide +kernel
theorem dX2_add_11 : decode cX2_add 11 = .ok (.bipush 40, 2) := by decide +kernel
theorem dX2_add_13 : decode cX2_add 13 = .ok (.if_icmp .lt 5, 3) := by decide +kernel
theorem dX2_add_16 : decode cX2_add 16 = .ok (.iconst 0, 1) := by decide +kernel
theorem dX2_add_17 : decode cX2_add 17 = .ok (.ireturn, 1) := by decide +kernel
theorem dX2_add_18 : decode cX2_add 18 = .ok (.aload_n 0, 1) := by decide +kernel
theorem dX2_add_19 : decode cX2_add 19 = .ok (.getfield 9, 3) := by decide +kernel
theorem dX2_add_22 : decode cX2_add 22 = .ok (.aload_n 0, 1) := by decide +kernel
theorem dX2_add_23 : decode cX2_add 23 = .ok (.getfield 18, 3) := by decide +kernel
theorem dX2_add_26 : decode cX2_add 26 = .ok (.iload_n 1, 1) := by decide +kernel
theorem dX2_add_27 : decode cX2_add 27 = .ok (.iastore, 1) := by decide +kernel
theorem dX2_add_28 : decode cX2_add 28 = .ok (.aload_n 0, 1) := by decide +kernel
theorem dX2_add_29 : decode cX2_add 29 = .ok (.dup, 1) := by decide +kernel
theorem dX2_add_30 : decode cX2_add 30 = .ok (.getfield 18, 3) := by decide +kernel
theorem dX2_add_33 : decode cX2_add 33 = .ok (.iconst 1, 1) := by decide +kernel
theorem dX2_add_34 : decode cX2_add 34 = .ok (.iadd, 1) := by decide +kernel
theorem dX2_add_35 : decode cX2_add 35 = .ok (.putfield 18, 3) := by decide +kernel
theorem dX2_add_38 : decode cX2_add 38 = .ok (.iconst 1, 1) := by decide +kernel
theorem dX2_add_39 : decode cX2_add 39 = .ok (.ireturn, 1) := by decide +kernel
theorem dX2_sign_0 : decode cX2_sign 0 = .ok (.iload_n 1, 1) := by decide +kernel
theorem dX2_sign_1 : decode cX2_sign 1 = .ok (.ifCond .lt 26, 3) := by decide +kernel
theorem dX2_sign_4 : decode cX2_sign 4 = .ok (.iload_n 1, 1) := by decide +kernel
theorem dX2_sign_5 : decode cX2_sign 5 = .ok (.aload_n 0, 1) := by decide +kernel
theorem dX2_sign_6 : decode cX2_sign 6 = .ok (.getfield 18, 3) := by decide +kernel
theorem dX2_sign_9 : decode cX2_sign 9 = .ok (.if_icmp .ge 18, 3) := by decide +kernel
theorem dX2_sign_12 : decode cX2_sign 12 = .ok (.iload_n 1, 1) := by decide +kernel
theorem dX2_sign_13 : decode cX2_sign 13 = .ok (.bipush 40, 2) := by decide +kernel
theorem dX2_sign_15 : decode cX2_sign 15 = .ok (.if_icmp .ge 12, 3) := by decide +kernel
theorem dX2_sign_18 : decode cX2_sign 18 = .ok (.aload_n 0, 1) := by decide +kernel
theorem dX2_sign_19 : decode cX2_sign 19 = .ok (.getfield 9, 3) := by decide +kernel
theorem dX2_sign_22 : decode cX2_sign 22 = .ok (.iload_n 1, 1) := by decide +kernel
theorem dX2_sign_23 : decode cX2_sign 23 = .ok (.iaload, 1) := by decide +kernel
theorem dX2_sign_24 : decode cX2_sign 24 = .ok (.goto 4, 3) := by decide +kernel
theorem dX2_sign_27 : decode cX2_sign 27 = .ok (.iconst 0, 1) := by decide +kernel
theorem dX2_sign_28 : decode cX2_sign 28 = .ok (.ireturn, 1) := by decide +kernel
theorem dX2_firstFault_0 : decode cX2_firstFault 0 = .ok (.iconst 0, 1) := by decide +kernel
theorem dX2_firstFault_1 : decode cX2_firstFault 1 = .ok (.istore_n 2, 1) := by decide +kernel
theorem dX2_firstFault_2 : decode cX2_firstFault 2 = .ok (.aload_n 0, 1) := by decide +kernel
theorem dX2_firstFault_3 : decode cX2_firstFault 3 = .ok (.getfield 15, 3) := by decide +kernel
theorem dX2_firstFault_6 : decode cX2_firstFault 6 = .ok (.iconst 0, 1) := by decide +kernel
theorem dX2_firstFault_7 : decode cX2_firstFault 7 = .ok (.iconst 1, 1) := by decide +kernel
theorem dX2_firstFault_8 : decode cX2_firstFault 8 = .ok (.iastore, 1) := by decide +kernel
theorem dX2_firstFault_9 : decode cX2_firstFault 9 = .ok (.iconst 0, 1) := by decide +kernel
theorem dX2_firstFault_10 : decode cX2_firstFault 10 = .ok (.istore_n 3, 1) := by decide +kernel
theorem dX2_firstFault_11 : decode cX2_firstFault 11 = .ok (.iload_n 3, 1) := by decide +kernel
theorem dX2_firstFault_12 : decode cX2_firstFault 12 = .ok (.aload_n 0, 1) := by decide +kernel
theorem dX2_firstFault_13 : decode cX2_firstFault 13 = .ok (.getfield 18, 3) := by decide +kernel
theorem dX2_firstFault_16 : decode cX2_firstFault 16 = .ok (.if_icmp .ge 110, 3) := by decide +kernel
theorem dX2_firstFault_19 : decode cX2_firstFault 19 = .ok (.iload_n 2, 1) := by decide +kernel
theorem dX2_firstFault_20 : decode cX2_firstFault 20 = .ok (.ifCond .lt 22, 3) := by decide +kernel
theorem dX2_firstFault_23 : decode cX2_firstFault 23 = .ok (.iload_n 2, 1) := by decide +kernel
theorem dX2_firstFault_24 : decode cX2_firstFault 24 = .ok (.bipush 9, 2) := by decide +kernel
theorem dX2_firstFault_26 : decode cX2_firstFault 26 = .ok (.if_icmp .gt 16, 3) := by decide +kernel
theorem dX2_firstFault_29 : decode cX2_firstFault 29 = .ok (.aload_n 0, 1) := by decide +kernel
theorem dX2_firstFault_30 : decode cX2_firstFault 30 = .ok (.iload_n 3, 1) := by decide +kernel
theorem dX2_firstFault_31 : decode cX2_firstFault 31 = .ok (.invokevirtual 22, 3) := by decide +kernel
theorem dX2_firstFault_34 : decode cX2_firstFault 34 = .ok (.iload_n 2, 1) := by decide +kernel
theorem dX2_firstFault_35 : decode cX2_firstFault 35 = .ok (.iload_n 1, 1) := by decide +kernel
theorem dX2_firstFault_36 : decode cX2_firstFault 36 = .ok (.invokestatic 26, 3) := by decide +kernel
theorem dX2_firstFault_39 : decode cX2_firstFault 39 = .ok (.ifCond .ne 5, 3) := by decide +kernel
theorem dX2_firstFault_42 : decode cX2_firstFault 42 = .ok (.iload_n 3, 1) := by decide +kernel
theorem dX2_firstFault_43 : decode cX2_firstFault 43 = .ok (.ireturn, 1) := by decide +kernel
theorem dX2_firstFault_44 : decode cX2_firstFault 44 = .ok (.aload_n 0, 1) := by decide +kernel
theorem dX2_firstFault_45 : decode cX2_firstFault 45 = .ok (.getfield 15, 3) := by decide +kernel
theorem dX2_firstFault_48 : decode cX2_firstFault 48 = .ok (.iload_n 2, 1) := by decide +kernel
theorem dX2_firstFault_49 : decode cX2_firstFault 49 = .ok (.dup2, 1) := by decide +kernel
theorem dX2_firstFault_50 : decode cX2_firstFault 50 = .ok (.iaload, 1) := by decide +kernel
theorem dX2_firstFault_51 : decode cX2_firstFault 51 = .ok (.iconst 1, 1) := by decide +kernel
theorem dX2_firstFault_52 : decode cX2_firstFault 52 = .ok (.isub, 1) := by decide +kernel
theorem dX2_firstFault_53 : decode cX2_firstFault 53 = .ok (.iastore, 1) := by decide +kernel
theorem dX2_firstFault_54 : decode cX2_firstFault 54 = .ok (.aload_n 0, 1) := by decide +kernel
theorem dX2_firstFault_55 : decode cX2_firstFault 55 = .ok (.iload_n 3, 1) := by decide +kernel
theorem dX2_firstFault_56 : decode cX2_firstFault 56 = .ok (.invokevirtual 22, 3) := by decide +kernel
theorem dX2_firstFault_59 : decode cX2_firstFault 59 = .ok (.invokestatic 30, 3) := by decide +kernel
theorem dX2_firstFault_62 : decode cX2_firstFault 62 = .ok (.istore 4, 2) := by decide +kernel
theorem dX2_firstFault_64 : decode cX2_firstFault 64 = .ok (.aload_n 0, 1) := by decide +kernel
theorem dX2_firstFault_65 : decode cX2_firstFault 65 = .ok (.iload_n 3, 1) := by decide +kernel
theorem dX2_firstFault_66 : decode cX2_firstFault 66 = .ok (.invokevirtual 22, 3) := by decide +kernel
theorem dX2_firstFault_69 : decode cX2_firstFault 69 = .ok (.bipush 64, 2) := by decide +kernel
theorem dX2_firstFault_71 : decode cX2_firstFault 71 = .ok (.if_icmp .ne 27, 3) := by decide +kernel
theorem dX2_firstFault_74 : decode cX2_firstFault 74 = .ok (.iinc 3 1, 3) := by decide +kernel
theorem dX2_firstFault_77 : decode cX2_firstFault 77 = .ok (.iload_n 3, 1) := by decide +kernel
theorem dX2_firstFault_78 : decode cX2_firstFault 78 = .ok (.aload_n 0, 1) := by decide +kernel
theorem dX2_firstFault_79 : decode cX2_firstFault 79 = .ok (.getfield 18, 3) := by decide +kernel
theorem dX2_firstFault_82 : decode cX2_firstFault 82 = .ok (.if_icmp .ge 16, 3) := by decide +kernel
theorem dX2_firstFault_85 : decode cX2_firstFault 85 = .ok (.aload_n 0, 1) := by decide +kernel
theorem dX2_firstFault_86 : decode cX2_firstFault 86 = .ok (.iload_n 3, 1) := by decide +kernel
theorem dX2_firstFault_87 : decode cX2_firstFault 87 = .ok (.invokevirtual 22, 3) := by decide +kernel
theorem dX2_firstFault_90 : decode cX2_firstFault 90 = .ok (.invokestatic 33, 3) := by decide +kernel
theorem dX2_firstFault_93 : decode cX2_firstFault 93 = .ok (.ifCond .ne 5, 3) := by decide +kernel
theorem dX2_firstFault_96 : decode cX2_firstFault 96 = .ok (.iload_n 3, 1) := by decide +kernel
theorem dX2_firstFault_97 : decode cX2_firstFault 97 = .ok (.ireturn, 1) := by decide +kernel
theorem dX2_firstFault_98 : decode cX2_firstFault 98 = .ok (.iload 4, 2) := by decide +kernel
theorem dX2_firstFault_100 : decode cX2_firstFault 100 = .ok (.ifCond .le 14, 3) := by decide +kernel
theorem dX2_firstFault_103 : decode cX2_firstFault 103 = .ok (.iinc 2 1, 3) := by decide +kernel
theorem dX2_firstFault_106 : decode cX2_firstFault 106 = .ok (.aload_n 0, 1) := by decide +kernel
theorem dX2_firstFault_107 : decode cX2_firstFault 107 = .ok (.getfield 15, 3) := by decide +kernel
theorem dX2_firstFault_110 : decode cX2_firstFault 110 = .ok (.iload_n 2, 1) := by decide +kernel
theorem dX2_firstFault_111 : decode cX2_firstFault 111 = .ok (.iload 4, 2) := by decide +kernel
theorem dX2_firstFault_113 : decode cX2_firstFault 113 = .ok (.iastore, 1) := by decide +kernel
theorem dX2_firstFault_114 : decode cX2_firstFault 114 = .ok (.aload_n 0, 1) := by decide +kernel
theorem dX2_firstFault_115 : decode cX2_firstFault 115 = .ok (.iload_n 2, 1) := by decide +kernel
theorem dX2_firstFault_116 : decode cX2_firstFault 116 = .ok (.invokevirtual 37, 3) := by decide +kernel
theorem dX2_firstFault_119 : decode cX2_firstFault 119 = .ok (.istore_n 2, 1) := by decide +kernel
theorem dX2_firstFault_120 : decode cX2_firstFault 120 = .ok (.iinc 3 1, 3) := by decide +kernel
theorem dX2_firstFault_123 : decode cX2_firstFault 123 = .ok (.goto (-112), 3) := by decide +kernel
theorem dX2_firstFault_126 : decode cX2_firstFault 126 = .ok (.iload_n 2, 1) := by decide +kernel
theorem dX2_firstFault_127 : decode cX2_firstFault 127 = .ok (.ifCond .ge 8, 3) := by decide +kernel
theorem dX2_firstFault_130 : decode cX2_firstFault 130 = .ok (.bipush (-6), 2) := by decide +kernel
theorem dX2_firstFault_132 : decode cX2_firstFault 132 = .ok (.goto 7, 3) := by decide +kernel
theorem dX2_firstFault_135 : decode cX2_firstFault 135 = .ok (.aload_n 0, 1) := by decide +kernel
theorem dX2_firstFault_136 : decode cX2_firstFault 136 = .ok (.getfield 18, 3) := by decide +kernel
theorem dX2_firstFault_139 : decode cX2_firstFault 139 = .ok (.ireturn, 1) := by decide +kernel
theorem dX2_canStand_0 : decode cX2_canStand 0 = .ok (.iload_n 0, 1) := by decide +kernel
theorem dX2_canStand_1 : decode cX2_canStand 1 = .ok (.invokestatic 30, 3) := by decide +kernel
theorem dX2_canStand_4 : decode cX2_canStand 4 = .ok (.istore_n 3, 1) := by decide +kernel
theorem dX2_canStand_5 : decode cX2_canStand 5 = .ok (.iload_n 3, 1) := by decide +kernel
theorem dX2_canStand_6 : decode cX2_canStand 6 = .ok (.ifCond .eq 23, 3) := by decide +kernel
theorem dX2_canStand_9 : decode cX2_canStand 9 = .ok (.iload_n 3, 1) := by decide +kernel
theorem dX2_canStand_10 : decode cX2_canStand 10 = .ok (.ifCond .le 23, 3) := by decide +kernel
theorem dX2_canStand_13 : decode cX2_canStand 13 = .ok (.iload_n 1, 1) := by decide +kernel
theorem dX2_canStand_14 : decode cX2_canStand 14 = .ok (.bipush 9, 2) := by decide +kernel
theorem dX2_canStand_16 : decode cX2_canStand 16 = .ok (.if_icmp .ge 17, 3) := by decide +kernel
theorem dX2_canStand_19 : decode cX2_canStand 19 = .ok (.iload_n 2, 1) := by decide +kernel
theorem dX2_canStand_20 : decode cX2_canStand 20 = .ok (.ifCond .ne 9, 3) := by decide +kernel
theorem dX2_canStand_23 : decode cX2_canStand 23 = .ok (.iload_n 0, 1) := by decide +kernel
theorem dX2_canStand_24 : decode cX2_canStand 24 = .ok (.bipush 107, 2) := by decide +kernel
theorem dX2_canStand_26 : decode cX2_canStand 26 = .ok (.if_icmp .eq 7, 3) := by decide +kernel
theorem dX2_canStand_29 : decode cX2_canStand 29 = .ok (.iconst 1, 1) := by decide +kernel
theorem dX2_canStand_30 : decode cX2_canStand 30 = .ok (.goto 4, 3) := by decide +kernel
theorem dX2_canStand_33 : decode cX2_canStand 33 = .ok (.iconst 0, 1) := by decide +kernel
theorem dX2_canStand_34 : decode cX2_canStand 34 = .ok (.ireturn, 1) := by decide +kernel
theorem dX2_isHandSign_0 : decode cX2_isHandSign 0 = .ok (.iload_n 0, 1) := by decide +kernel
theorem dX2_isHandSign_1 : decode cX2_isHandSign 1 = .ok (.bipush 48, 2) := by decide +kernel
theorem dX2_isHandSign_3 : decode cX2_isHandSign 3 = .ok (.if_icmp .lt 13, 3) := by decide +kernel
theorem dX2_isHandSign_6 : decode cX2_isHandSign 6 = .ok (.iload_n 0, 1) := by decide +kernel
theorem dX2_isHandSign_7 : decode cX2_isHandSign 7 = .ok (.bipush 52, 2) := by decide +kernel
theorem dX2_isHandSign_9 : decode cX2_isHandSign 9 = .ok (.if_icmp .ge 7, 3) := by decide +kernel
theorem dX2_isHandSign_12 : decode cX2_isHandSign 12 = .ok (.iconst 1, 1) := by decide +kernel
theorem dX2_isHandSign_13 : decode cX2_isHandSign 13 = .ok (.goto 4, 3) := by decide +kernel
theorem dX2_isHandSign_16 : decode cX2_isHandSign 16 = .ok (.iconst 0, 1) := by decide +kernel
theorem dX2_isHandSign_17 : decode cX2_isHandSign 17 = .ok (.ireturn, 1) := by decide +kernel
theorem dX2_depthOfNext_0 : decode cX2_depthOfNext 0 = .ok (.iload_n 1, 1) := by decide +kernel
theorem dX2_depthOfNext_1 : decode cX2_depthOfNext 1 = .ok (.istore_n 2, 1) := by decide +kernel
theorem dX2_depthOfNext_2 : decode cX2_depthOfNext 2 = .ok (.iload_n 2, 1) := by decide +kernel
theorem dX2_depthOfNext_3 : decode cX2_depthOfNext 3 = .ok (.ifCond .lt 26, 3) := by decide +kernel
theorem dX2_depthOfNext_6 : decode cX2_depthOfNext 6 = .ok (.iload_n 2, 1) := by decide +kernel
theorem dX2_depthOfNext_7 : decode cX2_depthOfNext 7 = .ok (.bipush 9, 2) := by decide +kernel
theorem dX2_depthOfNext_9 : decode cX2_depthOfNext 9 = .ok (.if_icmp .gt 14, 3) := by decide +kernel
theorem dX2_depthOfNext_12 : decode cX2_depthOfNext 12 = .ok (.aload_n 0, 1) := by decide +kernel
theorem dX2_depthOfNext_13 : decode cX2_depthOfNext 13 = .ok (.getfield 15, 3) := by decide +kernel
theorem dX2_depthOfNext_16 : decode cX2_depthOfNext 16 = .ok (.iload_n 2, 1) := by decide +kernel
theorem dX2_depthOfNext_17 : decode cX2_depthOfNext 17 = .ok (.iaload, 1) := by decide +kernel
theorem dX2_depthOfNext_18 : decode cX2_depthOfNext 18 = .ok (.ifCond .le 5, 3) := by decide +kernel
theorem dX2_depthOfNext_21 : decode cX2_depthOfNext 21 = .ok (.iload_n 2, 1) := by decide +kernel
theorem dX2_depthOfNext_22 : decode cX2_depthOfNext 22 = .ok (.ireturn, 1) := by decide +kernel
theorem dX2_depthOfNext_23 : decode cX2_depthOfNext 23 = .ok (.iinc 2 (-1), 3) := by decide +kernel
theorem dX2_depthOfNext_26 : decode cX2_depthOfNext 26 = .ok (.goto (-24), 3) := by decide +kernel
theorem dX2_depthOfNext_29 : decode cX2_depthOfNext 29 = .ok (.iconst (-1), 1) := by decide +kernel
theorem dX2_depthOfNext_30 : decode cX2_depthOfNext 30 = .ok (.ireturn, 1) := by decide +kernel
theorem dX3_init_0 : decode cX3_init 0 = .ok (.aload_n 0, 1) := by decide +kernel
theorem dX3_init_1 : decode cX3_init 1 = .ok (.invokespecial 3, 3) := by decide +kernel
theorem dX3_init_4 : decode cX3_init 4 = .ok (.aload_n 0, 1) := by decide +kernel
theorem dX3_init_5 : decode cX3_init 5 = .ok (.bipush 8, 2) := by decide +kernel
theorem dX3_init_7 : decode cX3_init 7 = .ok (.newarray .int, 2) := by decide +kernel
theorem dX3_init_9 : decode cX3_init 9 = .ok (.putfield 9, 3) := by decide +kernel
theorem dX3_init_12 : decode cX3_init 12 = .ok (.return_, 1) := by decide +kernel
theorem dX3_start_0 : decode cX3_start 0 = .ok (.aload_n 0, 1) := by decide +kernel
theorem dX3_start_1 : decode cX3_start 1 = .ok (.iload_n 1, 1) := by decide +kernel
theorem dX3_start_2 : decode cX3_start 2 = .ok (.ifCond .lt 13, 3) := by decide +kernel
theorem dX3_start_5 : decode cX3_start 5 = .ok (.iload_n 1, 1) := by decide +kernel
theorem dX3_start_6 : decode cX3_start 6 = .ok (.bipush 8, 2) := by decide +kernel
theorem dX3_start_8 : decode cX3_start 8 = .ok (.if_icmp .gt 7, 3) := by decide +kernel
theorem dX3_start_11 : decode cX3_start 11 = .ok (.iload_n 1, 1) := by decide +kernel
theorem dX3_start_12 : decode cX3_start 12 = .ok (.goto 4, 3) := by decide +kernel
theorem dX3_start_15 : decode cX3_start 15 = .ok (.iconst 0, 1) := by decide +kernel
theorem dX3_start_16 : decode cX3_start 16 = .ok (.putfield 15, 3) := by decide +kernel
theorem dX3_start_19 : decode cX3_start 19 = .ok (.iconst 0, 1) := by decide +kernel
theorem dX3_start_20 : decode cX3_start 20 = .ok (.istore_n 2, 1) := by decide +kernel
theorem dX3_start_21 : decode cX3_start 21 = .ok (.iload_n 2, 1) := by decide +kernel
theorem dX3_start_22 : decode cX3_start 22 = .ok (.aload_n 0, 1) := by decide +kernel
theorem dX3_start_23 : decode cX3_start 23 = .ok (.getfield 15, 3) := by decide +kernel
theorem dX3_start_26 : decode cX3_start 26 = .ok (.if_icmp .ge 16, 3) := by decide +kernel
theorem dX3_start_29 : decode cX3_start 29 = .ok (.aload_n 0, 1) := by decide +kernel
theorem dX3_start_30 : decode cX3_start 30 = .ok (.getfield 9, 3) := by decide +kernel
theorem dX3_start_33 : decode cX3_start 33 = .ok (.iload_n 2, 1) := by decide +kernel
theorem dX3_start_34 : decode cX3_start 34 = .ok (.iconst 0, 1) := by decide +kernel
theorem dX3_start_35 : decode cX3_start 35 = .ok (.iastore, 1) := by decide +kernel
theorem dX3_start_36 : decode cX3_start 36 = .ok (.iinc 2 1, 3) := by decide +kernel
theorem dX3_start_39 : decode cX3_start 39 = .ok (.goto (-18), 3) := by decide +kernel
theorem dX3_start_42 : decode cX3_start 42 = .ok (.return_, 1) := by decide +kernel
theorem dX3_add_0 : decode cX3_add 0 = .ok (.aload_n 0, 1) := by decide +kernel
theorem dX3_add_1 : decode cX3_add 1 = .ok (.getfield 15, 3) := by decide +kernel
theorem dX3_add_4 : decode cX3_add 4 = .ok (.ifCond .lt 12, 3) := by decide +kernel
theorem dX3_add_7 : decode cX3_add 7 = .ok (.aload_n 0, 1) := by decide +kernel
theorem dX3_add_8 : decode cX3_add 8 = .ok (.getfield 15, 3) := by decide +kernel
theorem dX3_add_11 : decode cX3_add 11 = .ok (.bipush 8, 2) := by decide +kernel
theorem dX3_add_13 : decode cX3_add 13 = .ok (.if_icmp .lt 5, 3) := by decide +kernel
theorem dX3_add_16 : decode cX3_add 16 = .ok (.iconst 0, 1) := by decide +kernel
theorem dX3_add_17 : decode cX3_add 17 = .ok (.ireturn, 1) := by decide +kernel
theorem dX3_add_18 : decode cX3_add 18 = .ok (.aload_n 0, 1) := by decide +kernel
theorem dX3_add_19 : decode cX3_add 19 = .ok (.getfield 9, 3) := by decide +kernel
theorem dX3_add_22 : decode cX3_add 22 = .ok (.aload_n 0, 1) := by decide +kernel
theorem dX3_add_23 : decode cX3_add 23 = .ok (.getfield 15, 3) := by decide +kernel
theorem dX3_add_26 : decode cX3_add 26 = .ok (.iload_n 1, 1) := by decide +kernel
theorem dX3_add_27 : decode cX3_add 27 = .ok (.iastore, 1) := by decide +kernel
theorem dX3_add_28 : decode cX3_add 28 = .ok (.aload_n 0, 1) := by decide +kernel
theorem dX3_add_29 : decode cX3_add 29 = .ok (.dup, 1) := by decide +kernel
theorem dX3_add_30 : decode cX3_add 30 = .ok (.getfield 15, 3) := by decide +kernel
theorem dX3_add_33 : decode cX3_add 33 = .ok (.iconst 1, 1) := by decide +kernel
theorem dX3_add_34 : decode cX3_add 34 = .ok (.iadd, 1) := by decide +kernel
theorem dX3_add_35 : decode cX3_add 35 = .ok (.putfield 15, 3) := by decide +kernel
theorem dX3_add_38 : decode cX3_add 38 = .ok (.iconst 1, 1) := by decide +kernel
theorem dX3_add_39 : decode cX3_add 39 = .ok (.ireturn, 1) := by decide +kernel
theorem dX3_value_0 : decode cX3_value 0 = .ok (.iload_n 1, 1) := by decide +kernel
theorem dX3_value_1 : decode cX3_value 1 = .ok (.ifCond .lt 26, 3) := by decide +kernel
theorem dX3_value_4 : decode cX3_value 4 = .ok (.iload_n 1, 1) := by decide +kernel
theorem dX3_value_5 : decode cX3_value 5 = .ok (.aload_n 0, 1) := by decide +kernel
theorem dX3_value_6 : decode cX3_value 6 = .ok (.getfield 15, 3) := by decide +kernel
theorem dX3_value_9 : decode cX3_value 9 = .ok (.if_icmp .ge 18, 3) := by decide +kernel
theorem dX3_value_12 : decode cX3_value 12 = .ok (.iload_n 1, 1) := by decide +kernel
theorem dX3_value_13 : decode cX3_value 13 = .ok (.bipush 8, 2) := by decide +kernel
theorem dX3_value_15 : decode cX3_value 15 = .ok (.if_icmp .ge 12, 3) := by decide +kernel
theorem dX3_value_18 : decode cX3_value 18 = .ok (.aload_n 0, 1) := by decide +kernel
theorem dX3_value_19 : decode cX3_value 19 = .ok (.getfield 9, 3) := by decide +kernel
theorem dX3_value_22 : decode cX3_value 22 = .ok (.iload_n 1, 1) := by decide +kernel
theorem dX3_value_23 : decode cX3_value 23 = .ok (.iaload, 1) := by decide +kernel
theorem dX3_value_24 : decode cX3_value 24 = .ok (.goto 4, 3) := by decide +kernel
theorem dX3_value_27 : decode cX3_value 27 = .ok (.iconst 0, 1) := by decide +kernel
theorem dX3_value_28 : decode cX3_value 28 = .ok (.ireturn, 1) := by decide +kernel
theorem dX3_take_0 : decode cX3_take 0 = .ok (.aload_n 0, 1) := by decide +kernel
theorem dX3_take_1 : decode cX3_take 1 = .ok (.iload_n 2, 1) := by decide +kernel
theorem dX3_take_2 : decode cX3_take 2 = .ok (.invokevirtual 19, 3) := by decide +kernel
theorem dX3_take_5 : decode cX3_take 5 = .ok (.iconst 0, 1) := by decide +kernel
theorem dX3_take_6 : decode cX3_take 6 = .ok (.istore_n 3, 1) := by decide +kernel
theorem dX3_take_7 : decode cX3_take 7 = .ok (.iload_n 3, 1) := by decide +kernel
theorem dX3_take_8 : decode cX3_take 8 = .ok (.aload_n 0, 1) := by decide +kernel
theorem dX3_take_9 : decode cX3_take 9 = .ok (.getfield 15, 3) := by decide +kernel
theorem dX3_take_12 : decode cX3_take 12 = .ok (.if_icmp .ge 20, 3) := by decide +kernel
theorem dX3_take_15 : decode cX3_take 15 = .ok (.aload_n 0, 1) := by decide +kernel
theorem dX3_take_16 : decode cX3_take 16 = .ok (.getfield 9, 3) := by decide +kernel
theorem dX3_take_19 : decode cX3_take 19 = .ok (.iload_n 3, 1) := by decide +kernel
theorem dX3_take_20 : decode cX3_take 20 = .ok (.aload_n 1, 1) := by decide +kernel
theorem dX3_take_21 : decode cX3_take 21 = .ok (.iload_n 3, 1) := by decide +kernel
theorem dX3_take_22 : decode cX3_take 22 = .ok (.invokevirtual 23, 3) := by decide +kernel
theorem dX3_take_25 : decode cX3_take 25 = .ok (.iastore, 1) := by decide +kernel
theorem dX3_take_26 : decode cX3_take 26 = .ok (.iinc 3 1, 3) := by decide +kernel
theorem dX3_take_29 : decode cX3_take 29 = .ok (.goto (-22), 3) := by decide +kernel
theorem dX3_take_32 : decode cX3_take 32 = .ok (.return_, 1) := by decide +kernel
theorem dX3_tell_0 : decode cX3_tell 0 = .ok (.iload_n 1, 1) := by decide +kernel
theorem dX3_tell_1 : decode cX3_tell 1 = .ok (.iconst (-1), 1) := by decide +kernel
theorem dX3_tell_2 : decode cX3_tell 2 = .ok (.if_icmp .ne 8, 3) := by decide +kernel
theorem dX3_tell_5 : decode cX3_tell 5 = .ok (.aload_n 0, 1) := by decide +kernel
theorem dX3_tell_6 : decode cX3_tell 6 = .ok (.getfield 15, 3) := by decide +kernel
theorem dX3_tell_9 : decode cX3_tell 9 = .ok (.ireturn, 1) := by decide +kernel
theorem dX3_tell_10 : decode cX3_tell 10 = .ok (.iload_n 1, 1) := by decide +kernel
theorem dX3_tell_11 : decode cX3_tell 11 = .ok (.ifCond .lt 19, 3) := by decide +kernel
theorem dX3_tell_14 : decode cX3_tell 14 = .ok (.iload_n 1, 1) := by decide +kernel
theorem dX3_tell_15 : decode cX3_tell 15 = .ok (.aload_n 0, 1) := by decide +kernel
theorem dX3_tell_16 : decode cX3_tell 16 = .ok (.getfield 15, 3) := by decide +kernel
theorem dX3_tell_19 : decode cX3_tell 19 = .ok (.if_icmp .ge 11, 3) := by decide +kernel
theorem dX3_tell_22 : decode cX3_tell 22 = .ok (.aload_n 0, 1) := by decide +kernel
theorem dX3_tell_23 : decode cX3_tell 23 = .ok (.iload_n 1, 1) := by decide +kernel
theorem dX3_tell_24 : decode cX3_tell 24 = .ok (.invokevirtual 23, 3) := by decide +kernel
theorem dX3_tell_27 : decode cX3_tell 27 = .ok (.goto 5, 3) := by decide +kernel
theorem dX3_tell_30 : decode cX3_tell 30 = .ok (.bipush (-6), 2) := by decide +kernel
theorem dX3_tell_32 : decode cX3_tell 32 = .ok (.ireturn, 1) := by decide +kernel
theorem dX3_next_0 : decode cX3_next 0 = .ok (.iload_n 1, 1) := by decide +kernel
theorem dX3_next_1 : decode cX3_next 1 = .ok (.aload_n 0, 1) := by decide +kernel
theorem dX3_next_2 : decode cX3_next 2 = .ok (.getfield 15, 3) := by decide +kernel
theorem dX3_next_5 : decode cX3_next 5 = .ok (.invokestatic 27, 3) := by decide +kernel
theorem dX3_next_8 : decode cX3_next 8 = .ok (.bipush 8, 2) := by decide +kernel
theorem dX3_next_10 : decode cX3_next 10 = .ok (.invokestatic 27, 3) := by decide +kernel
theorem dX3_next_13 : decode cX3_next 13 = .ok (.iconst 1, 1) := by decide +kernel
theorem dX3_next_14 : decode cX3_next 14 = .ok (.isub, 1) := by decide +kernel
theorem dX3_next_15 : decode cX3_next 15 = .ok (.istore_n 3, 1) := by decide +kernel
theorem dX3_next_16 : decode cX3_next 16 = .ok (.iload_n 3, 1) := by decide +kernel
theorem dX3_next_17 : decode cX3_next 17 = .ok (.ifCond .lt 37, 3) := by decide +kernel
theorem dX3_next_20 : decode cX3_next 20 = .ok (.aload_n 0, 1) := by decide +kernel
theorem dX3_next_21 : decode cX3_next 21 = .ok (.iload_n 3, 1) := by decide +kernel
theorem dX3_next_22 : decode cX3_next 22 = .ok (.invokevirtual 23, 3) := by decide +kernel
theorem dX3_next_25 : decode cX3_next 25 = .ok (.iload_n 2, 1) := by decide +kernel
theorem dX3_next_26 : decode cX3_next 26 = .ok (.if_icmp .ge 15, 3) := by decide +kernel
theorem dX3_next_29 : decode cX3_next 29 = .ok (.aload_n 0, 1) := by decide +kernel
theorem dX3_next_30 : decode cX3_next 30 = .ok (.getfield 9, 3) := by decide +kernel
theorem dX3_next_33 : decode cX3_next 33 = .ok (.iload_n 3, 1) := by decide +kernel
theorem dX3_next_34 : decode cX3_next 34 = .ok (.dup2, 1) := by decide +kernel
theorem dX3_next_35 : decode cX3_next 35 = .ok (.iaload, 1) := by decide +kernel
theorem dX3_next_36 : decode cX3_next 36 = .ok (.iconst 1, 1) := by decide +kernel
theorem dX3_next_37 : decode cX3_next 37 = .ok (.iadd, 1) := by decide +kernel
theorem dX3_next_38 : decode cX3_next 38 = .ok (.iastore, 1) := by decide +kernel
theorem dX3_next_39 : decode cX3_next 39 = .ok (.iconst 1, 1) := by decide +kernel
theorem dX3_next_40 : decode cX3_next 40 = .ok (.ireturn, 1) := by decide +kernel
theorem dX3_next_41 : decode cX3_next 41 = .ok (.aload_n 0, 1) := by decide +kernel
theorem dX3_next_42 : decode cX3_next 42 = .ok (.getfield 9, 3) := by decide +kernel
theorem dX3_next_45 : decode cX3_next 45 = .ok (.iload_n 3, 1) := by decide +kernel
theorem dX3_next_46 : decode cX3_next 46 = .ok (.iconst 0, 1) := by decide +kernel
theorem dX3_next_47 : decode cX3_next 47 = .ok (.iastore, 1) := by decide +kernel
theorem dX3_next_48 : decode cX3_next 48 = .ok (.iinc 3 (-1), 3) := by decide +kernel
theorem dX3_next_51 : decode cX3_next 51 = .ok (.goto (-35), 3) := by decide +kernel
theorem dX3_next_54 : decode cX3_next 54 = .ok (.iconst 0, 1) := by decide +kernel
theorem dX3_next_55 : decode cX3_next 55 = .ok (.ireturn, 1) := by decide +kernel
theorem dX4_init_0 : decode cX4_init 0 = .ok (.aload_n 0, 1) := by decide +kernel
theorem dX4_init_1 : decode cX4_init 1 = .ok (.invokespecial 3, 3) := by decide +kernel
theorem dX4_init_4 : decode cX4_init 4 = .ok (.aload_n 0, 1) := by decide +kernel
theorem dX4_init_5 : decode cX4_init 5 = .ok (.new 9, 3) := by decide +kernel
theorem dX4_init_8 : decode cX4_init 8 = .ok (.dup, 1) := by decide +kernel
theorem dX4_init_9 : decode cX4_init 9 = .ok (.invokespecial 11, 3) := by decide +kernel
theorem dX4_init_12 : decode cX4_init 12 = .ok (.putfield 12, 3) := by decide +kernel
theorem dX4_init_15 : decode cX4_init 15 = .ok (.aload_n 0, 1) := by decide +kernel
theorem dX4_init_16 : decode cX4_init 16 = .ok (.new 18, 3) := by decide +kernel
theorem dX4_init_19 : decode cX4_init 19 = .ok (.dup, 1) := by decide +kernel
theorem dX4_init_20 : decode cX4_init 20 = .ok (.invokespecial 20, 3) := by decide +kernel
theorem dX4_init_23 : decode cX4_init 23 = .ok (.putfield 21, 3) := by decide +kernel
theorem dX4_init_26 : decode cX4_init 26 = .ok (.aload_n 0, 1) := by decide +kernel
theorem dX4_init_27 : decode cX4_init 27 = .ok (.sipush 200, 3) := by decide +kernel
theorem dX4_init_30 : decode cX4_init 30 = .ok (.newarray .int, 2) := by decide +kernel
theorem dX4_init_32 : decode cX4_init 32 = .ok (.putfield 25, 3) := by decide +kernel
theorem dX4_init_35 : decode cX4_init 35 = .ok (.aload_n 0, 1) := by decide +kernel
theorem dX4_init_36 : decode cX4_init 36 = .ok (.aload_n 1, 1) := by decide +kernel
theorem dX4_init_37 : decode cX4_init 37 = .ok (.putfield 29, 3) := by decide +kernel
theorem dX4_init_40 : decode cX4_init 40 = .ok (.aload_n 0, 1) := by decide +kernel
theorem dX4_init_41 : decode cX4_init 41 = .ok (.aload_n 2, 1) := by decide +kernel
theorem dX4_init_42 : decode cX4_init 42 = .ok (.putfield 33, 3) := by decide +kernel
theorem dX4_init_45 : decode cX4_init 45 = .ok (.return_, 1) := by decide +kernel
theorem dX4_work_0 : decode cX4_work 0 = .ok (.aload_n 0, 1) := by decide +kernel
theorem dX4_work_1 : decode cX4_work 1 = .ok (.getfield 12, 3) := by decide +kernel
theorem dX4_work_4 : decode cX4_work 4 = .ok (.invokevirtual 37, 3) := by decide +kernel
theorem dX4_work_7 : decode cX4_work 7 = .ok (.aload_n 0, 1) := by decide +kernel
theorem dX4_work_8 : decode cX4_work 8 = .ok (.getfield 21, 3) := by decide +kernel
theorem dX4_work_11 : decode cX4_work 11 = .ok (.iconst 0, 1) := by decide +kernel
theorem dX4_work_12 : decode cX4_work 12 = .ok (.putfield 40, 3) := by decide +kernel
theorem dX4_work_15 : decode cX4_work 15 = .ok (.aload_n 0, 1) := by decide +kernel
theorem dX4_work_16 : decode cX4_work 16 = .ok (.aload_n 3, 1) := by decide +kernel
theorem dX4_work_17 : decode cX4_work 17 = .ok (.putfield 33, 3) := by decide +kernel
theorem dX4_work_20 : decode cX4_work 20 = .ok (.aload_n 0, 1) := by decide +kernel
theorem dX4_work_21 : decode cX4_work 21 = .ok (.iconst (-1), 1) := by decide +kernel
theorem dX4_work_22 : decode cX4_work 22 = .ok (.putfield 44, 3) := by decide +kernel
theorem dX4_work_25 : decode cX4_work 25 = .ok (.aload_n 0, 1) := by decide +kernel
theorem dX4_work_26 : decode cX4_work 26 = .ok (.iconst 0, 1) := by decide +kernel
theorem dX4_work_27 : decode cX4_work 27 = .ok (.putfield 47, 3) := by decide +kernel
theorem dX4_work_30 : decode cX4_work 30 = .ok (.aload_n 0, 1) := by decide +kernel
theorem dX4_work_31 : decode cX4_work 31 = .ok (.iconst 0, 1) := by decide +kernel
theorem dX4_work_32 : decode cX4_work 32 = .ok (.putfield 50, 3) := by decide +kernel
theorem dX4_work_35 : decode cX4_work 35 = .ok (.aload_n 0, 1) := by decide +kernel
theorem dX4_work_36 : decode cX4_work 36 = .ok (.bipush (-6), 2) := by decide +kernel
theorem dX4_work_38 : decode cX4_work 38 = .ok (.putfield 53, 3) := by decide +kernel
theorem dX4_work_41 : decode cX4_work 41 = .ok (.aload_n 0, 1) := by decide +kernel
theorem dX4_work_42 : decode cX4_work 42 = .ok (.bipush (-6), 2) := by decide +kernel
theorem dX4_work_44 : decode cX4_work 44 = .ok (.putfield 56, 3) := by decide +kernel
theorem dX4_work_47 : decode cX4_work 47 = .ok (.aload_n 0, 1) := by decide +kernel
theorem dX4_work_48 : decode cX4_work 48 = .ok (.iconst 0, 1) := by decide +kernel
theorem dX4_work_49 : decode cX4_work 49 = .ok (.putfield 59, 3) := by decide +kernel
theorem dX4_work_52 : decode cX4_work 52 = .ok (.aload_n 0, 1) := by decide +kernel
theorem dX4_work_53 : decode cX4_work 53 = .ok (.iconst 0, 1) := by decide +kernel
theorem dX4_work_54 : decode cX4_work 54 = .ok (.putfield 62, 3) := by decide +kernel
theorem dX4_work_57 : decode cX4_work 57 = .ok (.aload_n 0, 1) := by decide +kernel
theorem dX4_work_58 : decode cX4_work 58 = .ok (.iload_n 1, 1) := by decide +kernel
theorem dX4_work_59 : decode cX4_work 59 = .ok (.iload_n 2, 1) := by decide +kernel
theorem dX4_work_60 : decode cX4_work 60 = .ok (.iconst (-1), 1) := by decide +kernel
theorem dX4_work_61 : decode cX4_work 61 = .ok (.iconst (-1), 1) := by decide +kernel
theorem dX4_work_62 : decode cX4_work 62 = .ok (.invokevirtual 65, 3) := by decide +kernel
theorem dX4_work_65 : decode cX4_work 65 = .ok (.iconst 0, 1) := by decide +kernel
theorem dX4_work_66 : decode cX4_work 66 = .ok (.istore 4, 2) := by decide +kernel
theorem dX4_work_68 : decode cX4_work 68 = .ok (.iload 4, 2) := by decide +kernel
theorem dX4_work_70 : decode cX4_work 70 = .ok (.ldc 69, 2) := by decide +kernel
theorem dX4_work_72 : decode cX4_work 72 = .ok (.if_icmp .ge 35, 3) := by decide +kernel
theorem dX4_work_75 : decode cX4_work 75 = .ok (.aload_n 0, 1) := by decide +kernel
theorem dX4_work_76 : decode cX4_work 76 = .ok (.getfield 44, 3) := by decide +kernel
theorem dX4_work_79 : decode cX4_work 79 = .ok (.iconst (-1), 1) := by decide +kernel
theorem dX4_work_80 : decode cX4_work 80 = .ok (.if_icmp .ne 27, 3) := by decide +kernel
theorem dX4_work_83 : decode cX4_work 83 = .ok (.aload_n 0, 1) := by decide +kernel
theorem dX4_work_84 : decode cX4_work 84 = .ok (.getfield 70, 3) := by decide +kernel
theorem dX4_work_87 : decode cX4_work 87 = .ok (.ifCond .eq 10, 3) := by decide +kernel
theorem dX4_work_90 : decode cX4_work 90 = .ok (.aload_n 0, 1) := by decide +kernel
theorem dX4_work_91 : decode cX4_work 91 = .ok (.invokevirtual 74, 3) := by decide +kernel
theorem dX4_work_94 : decode cX4_work 94 = .ok (.goto 7, 3) := by decide +kernel
theorem dX4_work_97 : decode cX4_work 97 = .ok (.aload_n 0, 1) := by decide +kernel
theorem dX4_work_98 : decode cX4_work 98 = .ok (.invokevirtual 77, 3) := by decide +kernel
theorem dX4_work_101 : decode cX4_work 101 = .ok (.iinc 4 1, 3) := by decide +kernel
theorem dX4_work_104 : decode cX4_work 104 = .ok (.goto (-36), 3) := by decide +kernel
theorem dX4_work_107 : decode cX4_work 107 = .ok (.aload_n 0, 1) := by decide +kernel
theorem dX4_work_108 : decode cX4_work 108 = .ok (.getfield 44, 3) := by decide +kernel
theorem dX4_work_111 : decode cX4_work 111 = .ok (.iconst (-1), 1) := by decide +kernel
theorem dX4_work_112 : decode cX4_work 112 = .ok (.if_icmp .ne 9, 3) := by decide +kernel
theorem dX4_work_115 : decode cX4_work 115 = .ok (.aload_n 0, 1) := by decide +kernel
theorem dX4_work_116 : decode cX4_work 116 = .ok (.bipush 9, 2) := by decide +kernel
theorem dX4_work_118 : decode cX4_work 118 = .ok (.putfield 44, 3) := by decide +kernel
theorem dX4_work_121 : decode cX4_work 121 = .ok (.return_, 1) := by decide +kernel
theorem dX4_tell_0 : decode cX4_tell 0 = .ok (.iload_n 1, 1) := by decide +kernel
theorem dX4_tell_1 : decode cX4_tell 1 = .ok (.tableswitch 69 0 5 #[39, 44, 49, 54, 59, 64], 39) := by decide +kernel
theorem dX4_tell_40 : decode cX4_tell 40 = .ok (.aload_n 0, 1) := by decide +kernel
theorem dX4_tell_41 : decode cX4_tell 41 = .ok (.getfield 44, 3) := by decide +kernel
theorem dX4_tell_44 : decode cX4_tell 44 = .ok (.ireturn, 1) := by decide +kernel
theorem dX4_tell_45 : decode cX4_tell 45 = .ok (.aload_n 0, 1) := by decide +kernel
theorem dX4_tell_46 : decode cX4_tell 46 = .ok (.getfield 47, 3) := by decide +kernel
theorem dX4_tell_49 : decode cX4_tell 49 = .ok (.ireturn, 1) := by decide +kernel
theorem dX4_tell_50 : decode cX4_tell 50 = .ok (.aload_n 0, 1) := by decide +kernel
theorem dX4_tell_51 : decode cX4_tell 51 = .ok (.getfield 50, 3) := by decide +kernel
theorem dX4_tell_54 : decode cX4_tell 54 = .ok (.ireturn, 1) := by decide +kernel
theorem dX4_tell_55 : decode cX4_tell 55 = .ok (.aload_n 0, 1) := by decide +kernel
theorem dX4_tell_56 : decode cX4_tell 56 = .ok (.getfield 53, 3) := by decide +kernel
theorem dX4_tell_59 : decode cX4_tell 59 = .ok (.ireturn, 1) := by decide +kernel
theorem dX4_tell_60 : decode cX4_tell 60 = .ok (.aload_n 0, 1) := by decide +kernel
theorem dX4_tell_61 : decode cX4_tell 61 = .ok (.getfield 56, 3) := by decide +kernel
theorem dX4_tell_64 : decode cX4_tell 64 = .ok (.ireturn, 1) := by decide +kernel
theorem dX4_tell_65 : decode cX4_tell 65 = .ok (.aload_n 0, 1) := by decide +kernel
theorem dX4_tell_66 : decode cX4_tell 66 = .ok (.getfield 59, 3) := by decide +kernel
theorem dX4_tell_69 : decode cX4_tell 69 = .ok (.ireturn, 1) := by decide +kernel
theorem dX4_tell_70 : decode cX4_tell 70 = .ok (.aload_n 0, 1) := by decide +kernel
theorem dX4_tell_71 : decode cX4_tell 71 = .ok (.getfield 62, 3) := by decide +kernel
theorem dX4_tell_74 : decode cX4_tell 74 = .ok (.ireturn, 1) := by decide +kernel
theorem dX4_answerer_0 : decode cX4_answerer 0 = .ok (.iload_n 1, 1) := by decide +kernel
theorem dX4_answerer_1 : decode cX4_answerer 1 = .ok (.ifCond .lt 27, 3) := by decide +kernel
theorem dX4_answerer_4 : decode cX4_answerer 4 = .ok (.iload_n 1, 1) := by decide +kernel
theorem dX4_answerer_5 : decode cX4_answerer 5 = .ok (.aload_n 0, 1) := by decide +kernel
theorem dX4_answerer_6 : decode cX4_answerer 6 = .ok (.getfield 62, 3) := by decide +kernel
theorem dX4_answerer_9 : decode cX4_answerer 9 = .ok (.if_icmp .ge 19, 3) := by decide +kernel
theorem dX4_answerer_12 : decode cX4_answerer 12 = .ok (.iload_n 1, 1) := by decide +kernel
theorem dX4_answerer_13 : decode cX4_answerer 13 = .ok (.sipush 200, 3) := by decide +kernel
theorem dX4_answerer_16 : decode cX4_answerer 16 = .ok (.if_icmp .ge 12, 3) := by decide +kernel
theorem dX4_answerer_19 : decode cX4_answerer 19 = .ok (.aload_n 0, 1) := by decide +kernel
theorem dX4_answerer_20 : decode cX4_answerer 20 = .ok (.getfield 25, 3) := by decide +kernel
theorem dX4_answerer_23 : decode cX4_answerer 23 = .ok (.iload_n 1, 1) := by decide +kernel
theorem dX4_answerer_24 : decode cX4_answerer 24 = .ok (.iaload, 1) := by decide +kernel
theorem dX4_answerer_25 : decode cX4_answerer 25 = .ok (.goto 5, 3) := by decide +kernel
theorem dX4_answerer_28 : decode cX4_answerer 28 = .ok (.bipush (-6), 2) := by decide +kernel
theorem dX4_answerer_30 : decode cX4_answerer 30 = .ok (.ireturn, 1) := by decide +kernel
theorem dX4_doing_0 : decode cX4_doing 0 = .ok (.aload_n 0, 1) := by decide +kernel
theorem dX4_doing_1 : decode cX4_doing 1 = .ok (.getfield 44, 3) := by decide +kernel
theorem dX4_doing_4 : decode cX4_doing 4 = .ok (.bipush 8, 2) := by decide +kernel
theorem dX4_doing_6 : decode cX4_doing 6 = .ok (.if_icmp .ne 20, 3) := by decide +kernel
theorem dX4_doing_9 : decode cX4_doing 9 = .ok (.aload_n 0, 1) := by decide +kernel
theorem dX4_doing_10 : decode cX4_doing 10 = .ok (.getfield 53, 3) := by decide +kernel
theorem dX4_doing_13 : decode cX4_doing 13 = .ok (.iconst 1, 1) := by decide +kernel
theorem dX4_doing_14 : decode cX4_doing 14 = .ok (.iadd, 1) := by decide +kernel
theorem dX4_doing_15 : decode cX4_doing 15 = .ok (.bipush 100, 2) := by decide +kernel
theorem dX4_doing_17 : decode cX4_doing 17 = .ok (.imul, 1) := by decide +kernel
theorem dX4_doing_18 : decode cX4_doing 18 = .ok (.aload_n 0, 1) := by decide +kernel
theorem dX4_doing_19 : decode cX4_doing 19 = .ok (.getfield 56, 3) := by decide +kernel
theorem dX4_doing_22 : decode cX4_doing 22 = .ok (.iadd, 1) := by decide +kernel
theorem dX4_doing_23 : decode cX4_doing 23 = .ok (.goto 7, 3) := by decide +kernel
theorem dX4_doing_26 : decode cX4_doing 26 = .ok (.aload_n 0, 1) := by decide +kernel
theorem dX4_doing_27 : decode cX4_doing 27 = .ok (.getfield 44, 3) := by decide +kernel
theorem dX4_doing_30 : decode cX4_doing 30 = .ok (.ireturn, 1) := by decide +kernel
theorem dX4_enter_0 : decode cX4_enter 0 = .ok (.aload_n 0, 1) := by decide +kernel
theorem dX4_enter_1 : decode cX4_enter 1 = .ok (.aload_n 0, 1) := by decide +kernel
theorem dX4_enter_2 : decode cX4_enter 2 = .ok (.getfield 21, 3) := by decide +kernel
theorem dX4_enter_5 : decode cX4_enter 5 = .ok (.iload_n 2, 1) := by decide +kernel
theorem dX4_enter_6 : decode cX4_enter 6 = .ok (.iload_n 3, 1) := by decide +kernel
theorem dX4_enter_7 : decode cX4_enter 7 = .ok (.iload 4, 2) := by decide +kernel
theorem dX4_enter_9 : decode cX4_enter 9 = .ok (.invokevirtual 80, 3) := by decide +kernel
theorem dX4_enter_12 : decode cX4_enter 12 = .ok (.putfield 83, 3) := by decide +kernel
theorem dX4_enter_15 : decode cX4_enter 15 = .ok (.aload_n 0, 1) := by decide +kernel
theorem dX4_enter_16 : decode cX4_enter 16 = .ok (.iload_n 1, 1) := by decide +kernel
theorem dX4_enter_17 : decode cX4_enter 17 = .ok (.bipush 40, 2) := by decide +kernel
theorem dX4_enter_19 : decode cX4_enter 19 = .ok (.imul, 1) := by decide +kernel
theorem dX4_enter_20 : decode cX4_enter 20 = .ok (.putfield 86, 3) := by decide +kernel
theorem dX4_enter_23 : decode cX4_enter 23 = .ok (.aload_n 0, 1) := by decide +kernel
theorem dX4_enter_24 : decode cX4_enter 24 = .ok (.iconst 1, 1) := by decide +kernel
theorem dX4_enter_25 : decode cX4_enter 25 = .ok (.putfield 70, 3) := by decide +kernel
theorem dX4_enter_28 : decode cX4_enter 28 = .ok (.return_, 1) := by decide +kernel
theorem dX4_give_0 : decode cX4_give 0 = .ok (.aload_n 0, 1) := by decide +kernel
theorem dX4_give_1 : decode cX4_give 1 = .ok (.iload_n 1, 1) := by decide +kernel
theorem dX4_give_2 : decode cX4_give 2 = .ok (.putfield 89, 3) := by decide +kernel
theorem dX4_give_5 : decode cX4_give 5 = .ok (.aload_n 0, 1) := by decide +kernel
theorem dX4_give_6 : decode cX4_give 6 = .ok (.iconst 0, 1) := by decide +kernel
theorem dX4_give_7 : decode cX4_give 7 = .ok (.putfield 70, 3) := by decide +kernel
theorem dX4_give_10 : decode cX4_give 10 = .ok (.return_, 1) := by decide +kernel
theorem dX4_begin_0 : decode cX4_begin 0 = .ok (.aload_n 0, 1) := by decide +kernel
theorem dX4_begin_1 : decode cX4_begin 1 = .ok (.getfield 47, 3) := by decide +kernel
theorem dX4_begin_4 : decode cX4_begin 4 = .ok (.sipush 200, 3) := by decide +kernel
theorem dX4_begin_7 : decode cX4_begin 7 = .ok (.if_icmp .lt 10, 3) := by decide +kernel
theorem dX4_begin_10 : decode cX4_begin 10 = .ok (.aload_n 0, 1) := by decide +kernel
theorem dX4_begin_11 : decode cX4_begin 11 = .ok (.bipush 9, 2) := by decide +kernel
theorem dX4_begin_13 : decode cX4_begin 13 = .ok (.putfield 44, 3) := by decide +kernel
theorem dX4_begin_16 : decode cX4_begin 16 = .ok (.return_, 1) := by decide +kernel
theorem dX4_begin_17 : decode cX4_begin 17 = .ok (.aload_n 0, 1) := by decide +kernel
theorem dX4_begin_18 : decode cX4_begin 18 = .ok (.dup, 1) := by decide +kernel
theorem dX4_begin_19 : decode cX4_begin 19 = .ok (.getfield 47, 3) := by decide +kernel
theorem dX4_begin_22 : decode cX4_begin 22 = .ok (.iconst 1, 1) := by decide +kernel
theorem dX4_begin_23 : decode cX4_begin 23 = .ok (.iadd, 1) := by decide +kernel
theorem dX4_begin_24 : decode cX4_begin 24 = .ok (.putfield 47, 3) := by decide +kernel
theorem dX4_begin_27 : decode cX4_begin 27 = .ok (.aload_n 0, 1) := by decide +kernel
theorem dX4_begin_28 : decode cX4_begin 28 = .ok (.getfield 29, 3) := by decide +kernel
theorem dX4_begin_31 : decode cX4_begin 31 = .ok (.aload_n 0, 1) := by decide +kernel
theorem dX4_begin_32 : decode cX4_begin 32 = .ok (.getfield 86, 3) := by decide +kernel
theorem dX4_begin_35 : decode cX4_begin 35 = .ok (.invokevirtual 92, 3) := by decide +kernel
theorem dX4_begin_38 : decode cX4_begin 38 = .ok (.istore_n 1, 1) := by decide +kernel
theorem dX4_begin_39 : decode cX4_begin 39 = .ok (.iload_n 1, 1) := by decide +kernel
theorem dX4_begin_40 : decode cX4_begin 40 = .ok (.bipush 120, 2) := by decide +kernel
theorem dX4_begin_42 : decode cX4_begin 42 = .ok (.if_icmp .ne 21, 3) := by decide +kernel
theorem dX4_begin_45 : decode cX4_begin 45 = .ok (.aload_n 0, 1) := by decide +kernel
theorem dX4_begin_46 : decode cX4_begin 46 = .ok (.aload_n 0, 1) := by decide +kernel
theorem dX4_begin_47 : decode cX4_begin 47 = .ok (.getfield 21, 3) := by decide +kernel
theorem dX4_begin_50 : decode cX4_begin 50 = .ok (.aload_n 0, 1) := by decide +kernel
theorem dX4_begin_51 : decode cX4_begin 51 = .ok (.getfield 83, 3) := by decide +kernel
theorem dX4_begin_54 : decode cX4_begin 54 = .ok (.invokevirtual 98, 3) := by decide +kernel
theorem dX4_begin_57 : decode cX4_begin 57 = .ok (.invokevirtual 101, 3) := by decide +kernel
theorem dX4_begin_60 : decode cX4_begin 60 = .ok (.goto 63, 3) := by decide +kernel
theorem dX4_begin_63 : decode cX4_begin 63 = .ok (.iload_n 1, 1) := by decide +kernel
theorem dX4_begin_64 : decode cX4_begin 64 = .ok (.invokestatic 105, 3) := by decide +kernel
theorem dX4_begin_67 : decode cX4_begin 67 = .ok (.ifCond .ne 14, 3) := by decide +kernel
theorem dX4_begin_70 : decode cX4_begin 70 = .ok (.aload_n 0, 1) := by decide +kernel
theorem dX4_begin_71 : decode cX4_begin 71 = .ok (.iload_n 1, 1) := by decide +kernel
theorem dX4_begin_72 : decode cX4_begin 72 = .ok (.bipush 48, 2) := by decide +kernel
theorem dX4_begin_74 : decode cX4_begin 74 = .ok (.isub, 1) := by decide +kernel
theorem dX4_begin_75 : decode cX4_begin 75 = .ok (.invokevirtual 101, 3) := by decide +kernel
theorem dX4_begin_78 : decode cX4_begin 78 = .ok (.goto 45, 3) := by decide +kernel
theorem dX4_begin_81 : decode cX4_begin 81 = .ok (.aload_n 0, 1) := by decide +kernel
theorem dX4_begin_82 : decode cX4_begin 82 = .ok (.getfield 12, 3) := by decide +kernel
theorem dX4_begin_85 : decode cX4_begin 85 = .ok (.aload_n 0, 1) := by decide +kernel
theorem dX4_begin_86 : decode cX4_begin 86 = .ok (.getfield 86, 3) := by decide +kernel
theorem dX4_begin_89 : decode cX4_begin 89 = .ok (.aload_n 0, 1) := by decide +kernel
theorem dX4_begin_90 : decode cX4_begin 90 = .ok (.getfield 83, 3) := by decide +kernel
theorem dX4_begin_93 : decode cX4_begin 93 = .ok (.invokevirtual 108, 3) := by decide +kernel
theorem dX4_begin_96 : decode cX4_begin 96 = .ok (.ifCond .eq 21, 3) := by decide +kernel
theorem dX4_begin_99 : decode cX4_begin 99 = .ok (.aload_n 0, 1) := by decide +kernel
theorem dX4_begin_100 : decode cX4_begin 100 = .ok (.aload_n 0, 1) := by decide +kernel
theorem dX4_begin_101 : decode cX4_begin 101 = .ok (.getfield 29, 3) := by decide +kernel
theorem dX4_begin_104 : decode cX4_begin 104 = .ok (.aload_n 0, 1) := by decide +kernel
theorem dX4_begin_105 : decode cX4_begin 105 = .ok (.getfield 86, 3) := by decide +kernel
theorem dX4_begin_108 : decode cX4_begin 108 = .ok (.invokevirtual 112, 3) := by decide +kernel
theorem dX4_begin_111 : decode cX4_begin 111 = .ok (.putfield 86, 3) := by decide +kernel
theorem dX4_begin_114 : decode cX4_begin 114 = .ok (.goto 9, 3) := by decide +kernel
theorem dX4_begin_117 : decode cX4_begin 117 = .ok (.aload_n 0, 1) := by decide +kernel
theorem dX4_begin_118 : decode cX4_begin 118 = .ok (.bipush 9, 2) := by decide +kernel
theorem dX4_begin_120 : decode cX4_begin 120 = .ok (.putfield 44, 3) := by decide +kernel
theorem dX4_begin_123 : decode cX4_begin 123 = .ok (.return_, 1) := by decide +kernel
theorem dX4_takeUp_0 : decode cX4_takeUp 0 = .ok (.aload_n 0, 1) := by decide +kernel
theorem dX4_takeUp_1 : decode cX4_takeUp 1 = .ok (.getfield 12, 3) := by decide +kernel
theorem dX4_takeUp_4 : decode cX4_takeUp 4 = .ok (.getfield 115, 3) := by decide +kernel
theorem dX4_takeUp_7 : decode cX4_takeUp 7 = .ok (.istore_n 1, 1) := by decide +kernel
theorem dX4_takeUp_8 : decode cX4_takeUp 8 = .ok (.iload_n 1, 1) := by decide +kernel
theorem dX4_takeUp_9 : decode cX4_takeUp 9 = .ok (.iconst (-1), 1) := by decide +kernel
theorem dX4_takeUp_10 : decode cX4_takeUp 10 = .ok (.if_icmp .ne 12, 3) := by decide +kernel
theorem dX4_takeUp_13 : decode cX4_takeUp 13 = .ok (.aload_n 0, 1) := by decide +kernel
theorem dX4_takeUp_14 : decode cX4_takeUp 14 = .ok (.aload_n 0, 1) := by decide +kernel
theorem dX4_takeUp_15 : decode cX4_takeUp 15 = .ok (.getfield 89, 3) := by decide +kernel
theorem dX4_takeUp_18 : decode cX4_takeUp 18 = .ok (.putfield 44, 3) := by decide +kernel
theorem dX4_takeUp_21 : decode cX4_takeUp 21 = .ok (.return_, 1) := by decide +kernel
theorem dX4_takeUp_22 : decode cX4_takeUp 22 = .ok (.aload_n 0, 1) := by decide +kernel
theorem dX4_takeUp_23 : decode cX4_takeUp 23 = .ok (.aload_n 0, 1) := by decide +kernel
theorem dX4_takeUp_24 : decode cX4_takeUp 24 = .ok (.getfield 12, 3) := by decide +kernel
theorem dX4_takeUp_27 : decode cX4_takeUp 27 = .ok (.iload_n 1, 1) := by decide +kernel
theorem dX4_takeUp_28 : decode cX4_takeUp 28 = .ok (.invokevirtual 118, 3) := by decide +kernel
theorem dX4_takeUp_31 : decode cX4_takeUp 31 = .ok (.putfield 86, 3) := by decide +kernel
theorem dX4_takeUp_34 : decode cX4_takeUp 34 = .ok (.aload_n 0, 1) := by decide +kernel
theorem dX4_takeUp_35 : decode cX4_takeUp 35 = .ok (.aload_n 0, 1) := by decide +kernel
theorem dX4_takeUp_36 : decode cX4_takeUp 36 = .ok (.getfield 12, 3) := by decide +kernel
theorem dX4_takeUp_39 : decode cX4_takeUp 39 = .ok (.iload_n 1, 1) := by decide +kernel
theorem dX4_takeUp_40 : decode cX4_takeUp 40 = .ok (.invokevirtual 120, 3) := by decide +kernel
theorem dX4_takeUp_43 : decode cX4_takeUp 43 = .ok (.putfield 83, 3) := by decide +kernel
theorem dX4_takeUp_46 : decode cX4_takeUp 46 = .ok (.aload_n 0, 1) := by decide +kernel
theorem dX4_takeUp_47 : decode cX4_takeUp 47 = .ok (.getfield 29, 3) := by decide +kernel
theorem dX4_takeUp_50 : decode cX4_takeUp 50 = .ok (.aload_n 0, 1) := by decide +kernel
theorem dX4_takeUp_51 : decode cX4_takeUp 51 = .ok (.getfield 86, 3) := by decide +kernel
theorem dX4_takeUp_54 : decode cX4_takeUp 54 = .ok (.invokevirtual 92, 3) := by decide +kernel
theorem dX4_takeUp_57 : decode cX4_takeUp 57 = .ok (.istore_n 2, 1) := by decide +kernel
theorem dX4_takeUp_58 : decode cX4_takeUp 58 = .ok (.iload_n 2, 1) := by decide +kernel
theorem dX4_takeUp_59 : decode cX4_takeUp 59 = .ok (.invokestatic 105, 3) := by decide +kernel
theorem dX4_takeUp_62 : decode cX4_takeUp 62 = .ok (.iconst 2, 1) := by decide +kernel
theorem dX4_takeUp_63 : decode cX4_takeUp 63 = .ok (.if_icmp .ne 55, 3) := by decide +kernel
theorem dX4_takeUp_66 : decode cX4_takeUp 66 = .ok (.aload_n 0, 1) := by decide +kernel
theorem dX4_takeUp_67 : decode cX4_takeUp 67 = .ok (.getfield 12, 3) := by decide +kernel
theorem dX4_takeUp_70 : decode cX4_takeUp 70 = .ok (.iload_n 1, 1) := by decide +kernel
theorem dX4_takeUp_71 : decode cX4_takeUp 71 = .ok (.invokevirtual 122, 3) := by decide +kernel
theorem dX4_takeUp_74 : decode cX4_takeUp 74 = .ok (.iconst (-1), 1) := by decide +kernel
theorem dX4_takeUp_75 : decode cX4_takeUp 75 = .ok (.if_icmp .ne 43, 3) := by decide +kernel
theorem dX4_takeUp_78 : decode cX4_takeUp 78 = .ok (.aload_n 0, 1) := by decide +kernel
theorem dX4_takeUp_79 : decode cX4_takeUp 79 = .ok (.getfield 12, 3) := by decide +kernel
theorem dX4_takeUp_82 : decode cX4_takeUp 82 = .ok (.iload_n 1, 1) := by decide +kernel
theorem dX4_takeUp_83 : decode cX4_takeUp 83 = .ok (.aload_n 0, 1) := by decide +kernel
theorem dX4_takeUp_84 : decode cX4_takeUp 84 = .ok (.getfield 89, 3) := by decide +kernel
theorem dX4_takeUp_87 : decode cX4_takeUp 87 = .ok (.invokevirtual 125, 3) := by decide +kernel
theorem dX4_takeUp_90 : decode cX4_takeUp 90 = .ok (.aload_n 0, 1) := by decide +kernel
theorem dX4_takeUp_91 : decode cX4_takeUp 91 = .ok (.aload_n 0, 1) := by decide +kernel
theorem dX4_takeUp_92 : decode cX4_takeUp 92 = .ok (.getfield 29, 3) := by decide +kernel
theorem dX4_takeUp_95 : decode cX4_takeUp 95 = .ok (.aload_n 0, 1) := by decide +kernel
theorem dX4_takeUp_96 : decode cX4_takeUp 96 = .ok (.getfield 29, 3) := by decide +kernel
theorem dX4_takeUp_99 : decode cX4_takeUp 99 = .ok (.aload_n 0, 1) := by decide +kernel
theorem dX4_takeUp_100 : decode cX4_takeUp 100 = .ok (.getfield 86, 3) := by decide +kernel
theorem dX4_takeUp_103 : decode cX4_takeUp 103 = .ok (.invokevirtual 112, 3) := by decide +kernel
theorem dX4_takeUp_106 : decode cX4_takeUp 106 = .ok (.invokevirtual 129, 3) := by decide +kernel
theorem dX4_takeUp_109 : decode cX4_takeUp 109 = .ok (.putfield 86, 3) := by decide +kernel
theorem dX4_takeUp_112 : decode cX4_takeUp 112 = .ok (.aload_n 0, 1) := by decide +kernel
theorem dX4_takeUp_113 : decode cX4_takeUp 113 = .ok (.iconst 1, 1) := by decide +kernel
theorem dX4_takeUp_114 : decode cX4_takeUp 114 = .ok (.putfield 70, 3) := by decide +kernel
theorem dX4_takeUp_117 : decode cX4_takeUp 117 = .ok (.return_, 1) := by decide +kernel
theorem dX4_takeUp_118 : decode cX4_takeUp 118 = .ok (.aload_n 0, 1) := by decide +kernel
theorem dX4_takeUp_119 : decode cX4_takeUp 119 = .ok (.getfield 12, 3) := by decide +kernel
theorem dX4_takeUp_122 : decode cX4_takeUp 122 = .ok (.aload_n 0, 1) := by decide +kernel
theorem dX4_takeUp_123 : decode cX4_takeUp 123 = .ok (.getfield 12, 3) := by decide +kernel
theorem dX4_takeUp_126 : decode cX4_takeUp 126 = .ok (.iload_n 1, 1) := by decide +kernel
theorem dX4_takeUp_127 : decode cX4_takeUp 127 = .ok (.invokevirtual 132, 3) := by decide +kernel
theorem dX4_takeUp_130 : decode cX4_takeUp 130 = .ok (.putfield 115, 3) := by decide +kernel
theorem dX4_takeUp_133 : decode cX4_takeUp 133 = .ok (.iload_n 2, 1) := by decide +kernel
theorem dX4_takeUp_134 : decode cX4_takeUp 134 = .ok (.lookupswitch 109 #[(63, 58), (64, 65), (107, 83), (112, 90), (113, 90), (114, 90)], 58) := by decide +kernel
theorem dX4_takeUp_192 : decode cX4_takeUp 192 = .ok (.aload_n 0, 1) := by decide +kernel
theorem dX4_takeUp_193 : decode cX4_takeUp 193 = .ok (.invokevirtual 135, 3) := by decide +kernel
theorem dX4_takeUp_196 : decode cX4_takeUp 196 = .ok (.goto 67, 3) := by decide +kernel
theorem dX4_takeUp_199 : decode cX4_takeUp 199 = .ok (.aload_n 0, 1) := by decide +kernel
theorem dX4_takeUp_200 : decode cX4_takeUp 200 = .ok (.aload_n 0, 1) := by decide +kernel
theorem dX4_takeUp_201 : decode cX4_takeUp 201 = .ok (.getfield 29, 3) := by decide +kernel
theorem dX4_takeUp_204 : decode cX4_takeUp 204 = .ok (.aload_n 0, 1) := by decide +kernel
theorem dX4_takeUp_205 : decode cX4_takeUp 205 = .ok (.getfield 86, 3) := by decide +kernel
theorem dX4_takeUp_208 : decode cX4_takeUp 208 = .ok (.invokevirtual 138, 3) := by decide +kernel
theorem dX4_takeUp_211 : decode cX4_takeUp 211 = .ok (.invokevirtual 141, 3) := by decide +kernel
theorem dX4_takeUp_214 : decode cX4_takeUp 214 = .ok (.goto 49, 3) := by decide +kernel
theorem dX4_takeUp_217 : decode cX4_takeUp 217 = .ok (.aload_n 0, 1) := by decide +kernel
theorem dX4_takeUp_218 : decode cX4_takeUp 218 = .ok (.invokevirtual 144, 3) := by decide +kernel
theorem dX4_takeUp_221 : decode cX4_takeUp 221 = .ok (.goto 42, 3) := by decide +kernel
theorem dX4_takeUp_224 : decode cX4_takeUp 224 = .ok (.aload_n 0, 1) := by decide +kernel
theorem dX4_takeUp_225 : decode cX4_takeUp 225 = .ok (.iload_n 2, 1) := by decide +kernel
theorem dX4_takeUp_226 : decode cX4_takeUp 226 = .ok (.bipush 112, 2) := by decide +kernel
theorem dX4_takeUp_228 : decode cX4_takeUp 228 = .ok (.isub, 1) := by decide +kernel
theorem dX4_takeUp_229 : decode cX4_takeUp 229 = .ok (.aload_n 0, 1) := by decide +kernel
theorem dX4_takeUp_230 : decode cX4_takeUp 230 = .ok (.iload_n 2, 1) := by decide +kernel
theorem dX4_takeUp_231 : decode cX4_takeUp 231 = .ok (.bipush 112, 2) := by decide +kernel
theorem dX4_takeUp_233 : decode cX4_takeUp 233 = .ok (.isub, 1) := by decide +kernel
theorem dX4_takeUp_234 : decode cX4_takeUp 234 = .ok (.invokevirtual 147, 3) := by decide +kernel
theorem dX4_takeUp_237 : decode cX4_takeUp 237 = .ok (.invokevirtual 150, 3) := by decide +kernel
theorem dX4_takeUp_240 : decode cX4_takeUp 240 = .ok (.goto 23, 3) := by decide +kernel
theorem dX4_takeUp_243 : decode cX4_takeUp 243 = .ok (.aload_n 0, 1) := by decide +kernel
theorem dX4_takeUp_244 : decode cX4_takeUp 244 = .ok (.iload_n 2, 1) := by decide +kernel
theorem dX4_takeUp_245 : decode cX4_takeUp 245 = .ok (.aload_n 0, 1) := by decide +kernel
theorem dX4_takeUp_246 : decode cX4_takeUp 246 = .ok (.getfield 12, 3) := by decide +kernel
theorem dX4_takeUp_249 : decode cX4_takeUp 249 = .ok (.iload_n 1, 1) := by decide +kernel
theorem dX4_takeUp_250 : decode cX4_takeUp 250 = .ok (.invokevirtual 122, 3) := by decide +kernel
theorem dX4_takeUp_253 : decode cX4_takeUp 253 = .ok (.aload_n 0, 1) := by decide +kernel
theorem dX4_takeUp_254 : decode cX4_takeUp 254 = .ok (.getfield 89, 3) := by decide +kernel
theorem dX4_takeUp_257 : decode cX4_takeUp 257 = .ok (.invokestatic 153, 3) := by decide +kernel
theorem dX4_takeUp_260 : decode cX4_takeUp 260 = .ok (.invokevirtual 101, 3) := by decide +kernel
theorem dX4_takeUp_263 : decode cX4_takeUp 263 = .ok (.return_, 1) := by decide +kernel
theorem dX4_act_0 : decode cX4_act 0 = .ok (.iload_n 0, 1) := by decide +kernel
theorem dX4_act_1 : decode cX4_act 1 = .ok (.tableswitch 52 42 45 #[45, 31, 52, 38], 31) := by decide +kernel
theorem dX4_act_32 : decode cX4_act 32 = .ok (.iload_n 1, 1) := by decide +kernel
theorem dX4_act_33 : decode cX4_act 33 = .ok (.iload_n 2, 1) := by decide +kernel
theorem dX4_act_34 : decode cX4_act 34 = .ok (.iadd, 1) := by decide +kernel
theorem dX4_act_35 : decode cX4_act 35 = .ok (.bipush 7, 2) := by decide +kernel
theorem dX4_act_37 : decode cX4_act 37 = .ok (.iand, 1) := by decide +kernel
theorem dX4_act_38 : decode cX4_act 38 = .ok (.ireturn, 1) := by decide +kernel
theorem dX4_act_39 : decode cX4_act 39 = .ok (.iload_n 1, 1) := by decide +kernel
theorem dX4_act_40 : decode cX4_act 40 = .ok (.iload_n 2, 1) := by decide +kernel
theorem dX4_act_41 : decode cX4_act 41 = .ok (.isub, 1) := by decide +kernel
theorem dX4_act_42 : decode cX4_act 42 = .ok (.bipush 7, 2) := by decide +kernel
theorem dX4_act_44 : decode cX4_act 44 = .ok (.iand, 1) := by decide +kernel
theorem dX4_act_45 : decode cX4_act 45 = .ok (.ireturn, 1) := by decide +kernel
theorem dX4_act_46 : decode cX4_act 46 = .ok (.iload_n 1, 1) := by decide +kernel
theorem dX4_act_47 : decode cX4_act 47 = .ok (.iload_n 2, 1) := by decide +kernel
theorem dX4_act_48 : decode cX4_act 48 = .ok (.imul, 1) := by decide +kernel
theorem dX4_act_49 : decode cX4_act 49 = .ok (.bipush 7, 2) := by decide +kernel
theorem dX4_act_51 : decode cX4_act 51 = .ok (.iand, 1) := by decide +kernel
theorem dX4_act_52 : decode cX4_act 52 = .ok (.ireturn, 1) := by decide +kernel
theorem dX4_act_53 : decode cX4_act 53 = .ok (.iload_n 1, 1) := by decide +kernel
theorem dX4_act_54 : decode cX4_act 54 = .ok (.iload_n 2, 1) := by decide +kernel
theorem dX4_act_55 : decode cX4_act 55 = .ok (.invokestatic 156, 3) := by decide +kernel
theorem dX4_act_58 : decode cX4_act 58 = .ok (.ireturn, 1) := by decide +kernel
theorem dX4_choose_0 : decode cX4_choose 0 = .ok (.aload_n 0, 1) := by decide +kernel
theorem dX4_choose_1 : decode cX4_choose 1 = .ok (.getfield 29, 3) := by decide +kernel
theorem dX4_choose_4 : decode cX4_choose 4 = .ok (.aload_n 0, 1) := by decide +kernel
theorem dX4_choose_5 : decode cX4_choose 5 = .ok (.getfield 29, 3) := by decide +kernel
theorem dX4_choose_8 : decode cX4_choose 8 = .ok (.aload_n 0, 1) := by decide +kernel
theorem dX4_choose_9 : decode cX4_choose 9 = .ok (.getfield 86, 3) := by decide +kernel
theorem dX4_choose_12 : decode cX4_choose 12 = .ok (.invokevirtual 112, 3) := by decide +kernel
theorem dX4_choose_15 : decode cX4_choose 15 = .ok (.invokevirtual 129, 3) := by decide +kernel
theorem dX4_choose_18 : decode cX4_choose 18 = .ok (.istore_n 1, 1) := by decide +kernel
theorem dX4_choose_19 : decode cX4_choose 19 = .ok (.aload_n 0, 1) := by decide +kernel
theorem dX4_choose_20 : decode cX4_choose 20 = .ok (.aload_n 0, 1) := by decide +kernel
theorem dX4_choose_21 : decode cX4_choose 21 = .ok (.getfield 89, 3) := by decide +kernel
theorem dX4_choose_24 : decode cX4_choose 24 = .ok (.ifCond .ne 7, 3) := by decide +kernel
theorem dX4_choose_27 : decode cX4_choose 27 = .ok (.iload_n 1, 1) := by decide +kernel
theorem dX4_choose_28 : decode cX4_choose 28 = .ok (.goto 11, 3) := by decide +kernel
theorem dX4_choose_31 : decode cX4_choose 31 = .ok (.aload_n 0, 1) := by decide +kernel
theorem dX4_choose_32 : decode cX4_choose 32 = .ok (.getfield 29, 3) := by decide +kernel
theorem dX4_choose_35 : decode cX4_choose 35 = .ok (.iload_n 1, 1) := by decide +kernel
theorem dX4_choose_36 : decode cX4_choose 36 = .ok (.invokevirtual 129, 3) := by decide +kernel
theorem dX4_choose_39 : decode cX4_choose 39 = .ok (.putfield 86, 3) := by decide +kernel
theorem dX4_choose_42 : decode cX4_choose 42 = .ok (.aload_n 0, 1) := by decide +kernel
theorem dX4_choose_43 : decode cX4_choose 43 = .ok (.iconst 1, 1) := by decide +kernel
theorem dX4_choose_44 : decode cX4_choose 44 = .ok (.putfield 70, 3) := by decide +kernel
theorem dX4_choose_47 : decode cX4_choose 47 = .ok (.return_, 1) := by decide +kernel
theorem dX4_comeBack_0 : decode cX4_comeBack 0 = .ok (.iload_n 1, 1) := by decide +kernel
theorem dX4_comeBack_1 : decode cX4_comeBack 1 = .ok (.iconst 3, 1) := by decide +kernel
theorem dX4_comeBack_2 : decode cX4_comeBack 2 = .ok (.invokestatic 162, 3) := by decide +kernel
theorem dX4_comeBack_5 : decode cX4_comeBack 5 = .ok (.istore_n 2, 1) := by decide +kernel
theorem dX4_comeBack_6 : decode cX4_comeBack 6 = .ok (.aload_n 0, 1) := by decide +kernel
theorem dX4_comeBack_7 : decode cX4_comeBack 7 = .ok (.getfield 29, 3) := by decide +kernel
theorem dX4_comeBack_10 : decode cX4_comeBack 10 = .ok (.iload_n 2, 1) := by decide +kernel
theorem dX4_comeBack_11 : decode cX4_comeBack 11 = .ok (.invokevirtual 165, 3) := by decide +kernel
theorem dX4_comeBack_14 : decode cX4_comeBack 14 = .ok (.ifCond .le 14, 3) := by decide +kernel
theorem dX4_comeBack_17 : decode cX4_comeBack 17 = .ok (.aload_n 0, 1) := by decide +kernel
theorem dX4_comeBack_18 : decode cX4_comeBack 18 = .ok (.iload_n 2, 1) := by decide +kernel
theorem dX4_comeBack_19 : decode cX4_comeBack 19 = .ok (.aload_n 0, 1) := by decide +kernel
theorem dX4_comeBack_20 : decode cX4_comeBack 20 = .ok (.getfield 89, 3) := by decide +kernel
theorem dX4_comeBack_23 : decode cX4_comeBack 23 = .ok (.iconst (-1), 1) := by decide +kernel
theorem dX4_comeBack_24 : decode cX4_comeBack 24 = .ok (.iconst (-1), 1) := by decide +kernel
theorem dX4_comeBack_25 : decode cX4_comeBack 25 = .ok (.invokevirtual 65, 3) := by decide +kernel
theorem dX4_comeBack_28 : decode cX4_comeBack 28 = .ok (.return_, 1) := by decide +kernel
theorem dX4_goOn_0 : decode cX4_goOn 0 = .ok (.aload_n 0, 1) := by decide +kernel
theorem dX4_goOn_1 : decode cX4_goOn 1 = .ok (.getfield 59, 3) := by decide +kernel
theorem dX4_goOn_4 : decode cX4_goOn 4 = .ok (.bipush 40, 2) := by decide +kernel
theorem dX4_goOn_6 : decode cX4_goOn 6 = .ok (.if_icmp .lt 10, 3) := by decide +kernel
theorem dX4_goOn_9 : decode cX4_goOn 9 = .ok (.aload_n 0, 1) := by decide +kernel
theorem dX4_goOn_10 : decode cX4_goOn 10 = .ok (.bipush 9, 2) := by decide +kernel
theorem dX4_goOn_12 : decode cX4_goOn 12 = .ok (.putfield 44, 3) := by decide +kernel
theorem dX4_goOn_15 : decode cX4_goOn 15 = .ok (.return_, 1) := by decide +kernel
theorem dX4_goOn_16 : decode cX4_goOn 16 = .ok (.aload_n 0, 1) := by decide +kernel
theorem dX4_goOn_17 : decode cX4_goOn 17 = .ok (.dup, 1) := by decide +kernel
theorem dX4_goOn_18 : decode cX4_goOn 18 = .ok (.getfield 59, 3) := by decide +kernel
theorem dX4_goOn_21 : decode cX4_goOn 21 = .ok (.iconst 1, 1) := by decide +kernel
theorem dX4_goOn_22 : decode cX4_goOn 22 = .ok (.iadd, 1) := by decide +kernel
theorem dX4_goOn_23 : decode cX4_goOn 23 = .ok (.putfield 59, 3) := by decide +kernel
theorem dX4_goOn_26 : decode cX4_goOn 26 = .ok (.aload_n 0, 1) := by decide +kernel
theorem dX4_goOn_27 : decode cX4_goOn 27 = .ok (.getfield 12, 3) := by decide +kernel
theorem dX4_goOn_30 : decode cX4_goOn 30 = .ok (.aload_n 0, 1) := by decide +kernel
theorem dX4_goOn_31 : decode cX4_goOn 31 = .ok (.getfield 21, 3) := by decide +kernel
theorem dX4_goOn_34 : decode cX4_goOn 34 = .ok (.aload_n 0, 1) := by decide +kernel
theorem dX4_goOn_35 : decode cX4_goOn 35 = .ok (.getfield 83, 3) := by decide +kernel
theorem dX4_goOn_38 : decode cX4_goOn 38 = .ok (.invokevirtual 168, 3) := by decide +kernel
theorem dX4_goOn_41 : decode cX4_goOn 41 = .ok (.aload_n 0, 1) := by decide +kernel
theorem dX4_goOn_42 : decode cX4_goOn 42 = .ok (.getfield 21, 3) := by decide +kernel
theorem dX4_goOn_45 : decode cX4_goOn 45 = .ok (.aload_n 0, 1) := by decide +kernel
theorem dX4_goOn_46 : decode cX4_goOn 46 = .ok (.getfield 83, 3) := by decide +kernel
theorem dX4_goOn_49 : decode cX4_goOn 49 = .ok (.invokevirtual 171, 3) := by decide +kernel
theorem dX4_goOn_52 : decode cX4_goOn 52 = .ok (.invokevirtual 174, 3) := by decide +kernel
theorem dX4_goOn_55 : decode cX4_goOn 55 = .ok (.ifCond .ne 9, 3) := by decide +kernel
theorem dX4_goOn_58 : decode cX4_goOn 58 = .ok (.aload_n 0, 1) := by decide +kernel
theorem dX4_goOn_59 : decode cX4_goOn 59 = .ok (.bipush 9, 2) := by decide +kernel
theorem dX4_goOn_61 : decode cX4_goOn 61 = .ok (.putfield 44, 3) := by decide +kernel
theorem dX4_goOn_64 : decode cX4_goOn 64 = .ok (.return_, 1) := by decide +kernel
theorem dX4_ask_0 : decode cX4_ask 0 = .ok (.iload_n 2, 1) := by decide +kernel
theorem dX4_ask_1 : decode cX4_ask 1 = .ok (.iconst (-1), 1) := by decide +kernel
theorem dX4_ask_2 : decode cX4_ask 2 = .ok (.if_icmp .ne 8, 3) := by decide +kernel
theorem dX4_ask_5 : decode cX4_ask 5 = .ok (.bipush 9, 2) := by decide +kernel
theorem dX4_ask_7 : decode cX4_ask 7 = .ok (.goto 18, 3) := by decide +kernel
theorem dX4_ask_10 : decode cX4_ask 10 = .ok (.aload_n 0, 1) := by decide +kernel
theorem dX4_ask_11 : decode cX4_ask 11 = .ok (.getfield 29, 3) := by decide +kernel
theorem dX4_ask_14 : decode cX4_ask 14 = .ok (.aload_n 0, 1) := by decide +kernel
theorem dX4_ask_15 : decode cX4_ask 15 = .ok (.getfield 12, 3) := by decide +kernel
theorem dX4_ask_18 : decode cX4_ask 18 = .ok (.iload_n 2, 1) := by decide +kernel
theorem dX4_ask_19 : decode cX4_ask 19 = .ok (.invokevirtual 118, 3) := by decide +kernel
theorem dX4_ask_22 : decode cX4_ask 22 = .ok (.invokevirtual 138, 3) := by decide +kernel
theorem dX4_ask_25 : decode cX4_ask 25 = .ok (.istore_n 3, 1) := by decide +kernel
theorem dX4_ask_26 : decode cX4_ask 26 = .ok (.aload_n 0, 1) := by decide +kernel
theorem dX4_ask_27 : decode cX4_ask 27 = .ok (.getfield 62, 3) := by decide +kernel
theorem dX4_ask_30 : decode cX4_ask 30 = .ok (.ifCond .lt 36, 3) := by decide +kernel
theorem dX4_ask_33 : decode cX4_ask 33 = .ok (.aload_n 0, 1) := by decide +kernel
theorem dX4_ask_34 : decode cX4_ask 34 = .ok (.getfield 62, 3) := by decide +kernel
theorem dX4_ask_37 : decode cX4_ask 37 = .ok (.sipush 200, 3) := by decide +kernel
theorem dX4_ask_40 : decode cX4_ask 40 = .ok (.if_icmp .ge 26, 3) := by decide +kernel
theorem dX4_ask_43 : decode cX4_ask 43 = .ok (.aload_n 0, 1) := by decide +kernel
theorem dX4_ask_44 : decode cX4_ask 44 = .ok (.getfield 25, 3) := by decide +kernel
theorem dX4_ask_47 : decode cX4_ask 47 = .ok (.aload_n 0, 1) := by decide +kernel
theorem dX4_ask_48 : decode cX4_ask 48 = .ok (.getfield 62, 3) := by decide +kernel
theorem dX4_ask_51 : decode cX4_ask 51 = .ok (.iload_n 1, 1) := by decide +kernel
theorem dX4_ask_52 : decode cX4_ask 52 = .ok (.bipush 100, 2) := by decide +kernel
theorem dX4_ask_54 : decode cX4_ask 54 = .ok (.imul, 1) := by decide +kernel
theorem dX4_ask_55 : decode cX4_ask 55 = .ok (.aload_n 0, 1) := by decide +kernel
theorem dX4_ask_56 : decode cX4_ask 56 = .ok (.getfield 89, 3) := by decide +kernel
theorem dX4_ask_59 : decode cX4_ask 59 = .ok (.bipush 10, 2) := by decide +kernel
theorem dX4_ask_61 : decode cX4_ask 61 = .ok (.imul, 1) := by decide +kernel
theorem dX4_ask_62 : decode cX4_ask 62 = .ok (.iadd, 1) := by decide +kernel
theorem dX4_ask_63 : decode cX4_ask 63 = .ok (.iload_n 3, 1) := by decide +kernel
theorem dX4_ask_64 : decode cX4_ask 64 = .ok (.iadd, 1) := by decide +kernel
theorem dX4_ask_65 : decode cX4_ask 65 = .ok (.iastore, 1) := by decide +kernel
theorem dX4_ask_66 : decode cX4_ask 66 = .ok (.aload_n 0, 1) := by decide +kernel
theorem dX4_ask_67 : decode cX4_ask 67 = .ok (.dup, 1) := by decide +kernel
theorem dX4_ask_68 : decode cX4_ask 68 = .ok (.getfield 62, 3) := by decide +kernel
theorem dX4_ask_71 : decode cX4_ask 71 = .ok (.iconst 1, 1) := by decide +kernel
theorem dX4_ask_72 : decode cX4_ask 72 = .ok (.iadd, 1) := by decide +kernel
theorem dX4_ask_73 : decode cX4_ask 73 = .ok (.putfield 62, 3) := by decide +kernel
theorem dX4_ask_76 : decode cX4_ask 76 = .ok (.iload_n 2, 1) := by decide +kernel
theorem dX4_ask_77 : decode cX4_ask 77 = .ok (.iconst (-1), 1) := by decide +kernel
theorem dX4_ask_78 : decode cX4_ask 78 = .ok (.if_icmp .eq 46, 3) := by decide +kernel
theorem dX4_ask_81 : decode cX4_ask 81 = .ok (.aload_n 0, 1) := by decide +kernel
theorem dX4_ask_82 : decode cX4_ask 82 = .ok (.getfield 12, 3) := by decide +kernel
theorem dX4_ask_85 : decode cX4_ask 85 = .ok (.getfield 115, 3) := by decide +kernel
theorem dX4_ask_88 : decode cX4_ask 88 = .ok (.istore 4, 2) := by decide +kernel
theorem dX4_ask_90 : decode cX4_ask 90 = .ok (.aload_n 0, 1) := by decide +kernel
theorem dX4_ask_91 : decode cX4_ask 91 = .ok (.getfield 12, 3) := by decide +kernel
theorem dX4_ask_94 : decode cX4_ask 94 = .ok (.aload_n 0, 1) := by decide +kernel
theorem dX4_ask_95 : decode cX4_ask 95 = .ok (.getfield 12, 3) := by decide +kernel
theorem dX4_ask_98 : decode cX4_ask 98 = .ok (.iload_n 2, 1) := by decide +kernel
theorem dX4_ask_99 : decode cX4_ask 99 = .ok (.invokevirtual 132, 3) := by decide +kernel
theorem dX4_ask_102 : decode cX4_ask 102 = .ok (.putfield 115, 3) := by decide +kernel
theorem dX4_ask_105 : decode cX4_ask 105 = .ok (.aload_n 0, 1) := by decide +kernel
theorem dX4_ask_106 : decode cX4_ask 106 = .ok (.iload_n 3, 1) := by decide +kernel
theorem dX4_ask_107 : decode cX4_ask 107 = .ok (.iload_n 1, 1) := by decide +kernel
theorem dX4_ask_108 : decode cX4_ask 108 = .ok (.invokestatic 162, 3) := by decide +kernel
theorem dX4_ask_111 : decode cX4_ask 111 = .ok (.aload_n 0, 1) := by decide +kernel
theorem dX4_ask_112 : decode cX4_ask 112 = .ok (.getfield 89, 3) := by decide +kernel
theorem dX4_ask_115 : decode cX4_ask 115 = .ok (.iload 4, 2) := by decide +kernel
theorem dX4_ask_117 : decode cX4_ask 117 = .ok (.iload_n 2, 1) := by decide +kernel
theorem dX4_ask_118 : decode cX4_ask 118 = .ok (.invokevirtual 65, 3) := by decide +kernel
theorem dX4_ask_121 : decode cX4_ask 121 = .ok (.goto 64, 3) := by decide +kernel
theorem dX4_ask_124 : decode cX4_ask 124 = .ok (.aload_n 0, 1) := by decide +kernel
theorem dX4_ask_125 : decode cX4_ask 125 = .ok (.getfield 50, 3) := by decide +kernel
theorem dX4_ask_128 : decode cX4_ask 128 = .ok (.aload_n 0, 1) := by decide +kernel
theorem dX4_ask_129 : decode cX4_ask 129 = .ok (.getfield 33, 3) := by decide +kernel
theorem dX4_ask_132 : decode cX4_ask 132 = .ok (.getfield 177, 3) := by decide +kernel
theorem dX4_ask_135 : decode cX4_ask 135 = .ok (.if_icmp .ge 31, 3) := by decide +kernel
theorem dX4_ask_138 : decode cX4_ask 138 = .ok (.aload_n 0, 1) := by decide +kernel
theorem dX4_ask_139 : decode cX4_ask 139 = .ok (.aload_n 0, 1) := by decide +kernel
theorem dX4_ask_140 : decode cX4_ask 140 = .ok (.getfield 33, 3) := by decide +kernel
theorem dX4_ask_143 : decode cX4_ask 143 = .ok (.aload_n 0, 1) := by decide +kernel
theorem dX4_ask_144 : decode cX4_ask 144 = .ok (.getfield 50, 3) := by decide +kernel
theorem dX4_ask_147 : decode cX4_ask 147 = .ok (.invokevirtual 182, 3) := by decide +kernel
theorem dX4_ask_150 : decode cX4_ask 150 = .ok (.invokevirtual 101, 3) := by decide +kernel
theorem dX4_ask_153 : decode cX4_ask 153 = .ok (.aload_n 0, 1) := by decide +kernel
theorem dX4_ask_154 : decode cX4_ask 154 = .ok (.dup, 1) := by decide +kernel
theorem dX4_ask_155 : decode cX4_ask 155 = .ok (.getfield 50, 3) := by decide +kernel
theorem dX4_ask_158 : decode cX4_ask 158 = .ok (.iconst 1, 1) := by decide +kernel
theorem dX4_ask_159 : decode cX4_ask 159 = .ok (.iadd, 1) := by decide +kernel
theorem dX4_ask_160 : decode cX4_ask 160 = .ok (.putfield 50, 3) := by decide +kernel
theorem dX4_ask_163 : decode cX4_ask 163 = .ok (.goto 22, 3) := by decide +kernel
theorem dX4_ask_166 : decode cX4_ask 166 = .ok (.aload_n 0, 1) := by decide +kernel
theorem dX4_ask_167 : decode cX4_ask 167 = .ok (.bipush 8, 2) := by decide +kernel
theorem dX4_ask_169 : decode cX4_ask 169 = .ok (.putfield 44, 3) := by decide +kernel
theorem dX4_ask_172 : decode cX4_ask 172 = .ok (.aload_n 0, 1) := by decide +kernel
theorem dX4_ask_173 : decode cX4_ask 173 = .ok (.iload_n 1, 1) := by decide +kernel
theorem dX4_ask_174 : decode cX4_ask 174 = .ok (.putfield 53, 3) := by decide +kernel
theorem dX4_ask_177 : decode cX4_ask 177 = .ok (.aload_n 0, 1) := by decide +kernel
theorem dX4_ask_178 : decode cX4_ask 178 = .ok (.aload_n 0, 1) := by decide +kernel
theorem dX4_ask_179 : decode cX4_ask 179 = .ok (.getfield 89, 3) := by decide +kernel
theorem dX4_ask_182 : decode cX4_ask 182 = .ok (.putfield 56, 3) := by decide +kernel
theorem dX4_ask_185 : decode cX4_ask 185 = .ok (.return_, 1) := by decide +kernel
theorem dX4_nearest_0 : decode cX4_nearest 0 = .ok (.aload_n 0, 1) := by decide +kernel
theorem dX4_nearest_1 : decode cX4_nearest 1 = .ok (.getfield 12, 3) := by decide +kernel
theorem dX4_nearest_4 : decode cX4_nearest 4 = .ok (.getfield 115, 3) := by decide +kernel
theorem dX4_nearest_7 : decode cX4_nearest 7 = .ok (.istore_n 2, 1) := by decide +kernel
theorem dX4_nearest_8 : decode cX4_nearest 8 = .ok (.iconst 0, 1) := by decide +kernel
theorem dX4_nearest_9 : decode cX4_nearest 9 = .ok (.istore_n 3, 1) := by decide +kernel
theorem dX4_nearest_10 : decode cX4_nearest 10 = .ok (.iload_n 3, 1) := by decide +kernel
theorem dX4_nearest_11 : decode cX4_nearest 11 = .ok (.sipush 8200, 3) := by decide +kernel
theorem dX4_nearest_14 : decode cX4_nearest 14 = .ok (.if_icmp .ge 64, 3) := by decide +kernel
theorem dX4_nearest_17 : decode cX4_nearest 17 = .ok (.iload_n 2, 1) := by decide +kernel
theorem dX4_nearest_18 : decode cX4_nearest 18 = .ok (.iconst (-1), 1) := by decide +kernel
theorem dX4_nearest_19 : decode cX4_nearest 19 = .ok (.if_icmp .eq 59, 3) := by decide +kernel
theorem dX4_nearest_22 : decode cX4_nearest 22 = .ok (.aload_n 0, 1) := by decide +kernel
theorem dX4_nearest_23 : decode cX4_nearest 23 = .ok (.getfield 29, 3) := by decide +kernel
theorem dX4_nearest_26 : decode cX4_nearest 26 = .ok (.aload_n 0, 1) := by decide +kernel
theorem dX4_nearest_27 : decode cX4_nearest 27 = .ok (.getfield 12, 3) := by decide +kernel
theorem dX4_nearest_30 : decode cX4_nearest 30 = .ok (.iload_n 2, 1) := by decide +kernel
theorem dX4_nearest_31 : decode cX4_nearest 31 = .ok (.invokevirtual 118, 3) := by decide +kernel
theorem dX4_nearest_34 : decode cX4_nearest 34 = .ok (.invokevirtual 138, 3) := by decide +kernel
theorem dX4_nearest_37 : decode cX4_nearest 37 = .ok (.istore 4, 2) := by decide +kernel
theorem dX4_nearest_39 : decode cX4_nearest 39 = .ok (.iload 4, 2) := by decide +kernel
theorem dX4_nearest_41 : decode cX4_nearest 41 = .ok (.iconst (-1), 1) := by decide +kernel
theorem dX4_nearest_42 : decode cX4_nearest 42 = .ok (.if_icmp .eq 21, 3) := by decide +kernel
theorem dX4_nearest_45 : decode cX4_nearest 45 = .ok (.aload_n 0, 1) := by decide +kernel
theorem dX4_nearest_46 : decode cX4_nearest 46 = .ok (.getfield 29, 3) := by decide +kernel
theorem dX4_nearest_49 : decode cX4_nearest 49 = .ok (.iload 4, 2) := by decide +kernel
theorem dX4_nearest_51 : decode cX4_nearest 51 = .ok (.iload_n 1, 1) := by decide +kernel
theorem dX4_nearest_52 : decode cX4_nearest 52 = .ok (.invokestatic 162, 3) := by decide +kernel
theorem dX4_nearest_55 : decode cX4_nearest 55 = .ok (.invokevirtual 165, 3) := by decide +kernel
theorem dX4_nearest_58 : decode cX4_nearest 58 = .ok (.ifCond .le 5, 3) := by decide +kernel
theorem dX4_nearest_61 : decode cX4_nearest 61 = .ok (.iload_n 2, 1) := by decide +kernel
theorem dX4_nearest_62 : decode cX4_nearest 62 = .ok (.ireturn, 1) := by decide +kernel
theorem dX4_nearest_63 : decode cX4_nearest 63 = .ok (.aload_n 0, 1) := by decide +kernel
theorem dX4_nearest_64 : decode cX4_nearest 64 = .ok (.getfield 12, 3) := by decide +kernel
theorem dX4_nearest_67 : decode cX4_nearest 67 = .ok (.iload_n 2, 1) := by decide +kernel
theorem dX4_nearest_68 : decode cX4_nearest 68 = .ok (.invokevirtual 132, 3) := by decide +kernel
theorem dX4_nearest_71 : decode cX4_nearest 71 = .ok (.istore_n 2, 1) := by decide +kernel
theorem dX4_nearest_72 : decode cX4_nearest 72 = .ok (.iinc 3 1, 3) := by decide +kernel
theorem dX4_nearest_75 : decode cX4_nearest 75 = .ok (.goto (-65), 3) := by decide +kernel
theorem dX4_nearest_78 : decode cX4_nearest 78 = .ok (.iconst (-1), 1) := by decide +kernel
theorem dX4_nearest_79 : decode cX4_nearest 79 = .ok (.ireturn, 1) := by decide +kernel
theorem dX5_init_0 : decode cX5_init 0 = .ok (.aload_n 0, 1) := by decide +kernel
theorem dX5_init_1 : decode cX5_init 1 = .ok (.invokespecial 3, 3) := by decide +kernel
theorem dX5_init_4 : decode cX5_init 4 = .ok (.aload_n 0, 1) := by decide +kernel
theorem dX5_init_5 : decode cX5_init 5 = .ok (.sipush 8200, 3) := by decide +kernel
theorem dX5_init_8 : decode cX5_init 8 = .ok (.newarray .int, 2) := by decide +kernel
theorem dX5_init_10 : decode cX5_init 10 = .ok (.putfield 11, 3) := by decide +kernel
theorem dX5_init_13 : decode cX5_init 13 = .ok (.aload_n 0, 1) := by decide +kernel
theorem dX5_init_14 : decode cX5_init 14 = .ok (.sipush 8200, 3) := by decide +kernel
theorem dX5_init_17 : decode cX5_init 17 = .ok (.newarray .int, 2) := by decide +kernel
theorem dX5_init_19 : decode cX5_init 19 = .ok (.putfield 15, 3) := by decide +kernel
theorem dX5_init_22 : decode cX5_init 22 = .ok (.return_, 1) := by decide +kernel
theorem dX5_clear_0 : decode cX5_clear 0 = .ok (.aload_n 0, 1) := by decide +kernel
theorem dX5_clear_1 : decode cX5_clear 1 = .ok (.iconst 0, 1) := by decide +kernel
theorem dX5_clear_2 : decode cX5_clear 2 = .ok (.putfield 18, 3) := by decide +kernel
theorem dX5_clear_5 : decode cX5_clear 5 = .ok (.aload_n 0, 1) := by decide +kernel
theorem dX5_clear_6 : decode cX5_clear 6 = .ok (.iconst (-1), 1) := by decide +kernel
theorem dX5_clear_7 : decode cX5_clear 7 = .ok (.putfield 22, 3) := by decide +kernel
theorem dX5_clear_10 : decode cX5_clear 10 = .ok (.return_, 1) := by decide +kernel
theorem dX5_stands_0 : decode cX5_stands 0 = .ok (.iload_n 1, 1) := by decide +kernel
theorem dX5_stands_1 : decode cX5_stands 1 = .ok (.ifCond .lt 22, 3) := by decide +kernel
theorem dX5_stands_4 : decode cX5_stands 4 = .ok (.iload_n 1, 1) := by decide +kernel
theorem dX5_stands_5 : decode cX5_stands 5 = .ok (.aload_n 0, 1) := by decide +kernel
theorem dX5_stands_6 : decode cX5_stands 6 = .ok (.getfield 18, 3) := by decide +kernel
theorem dX5_stands_9 : decode cX5_stands 9 = .ok (.if_icmp .ge 14, 3) := by decide +kernel
theorem dX5_stands_12 : decode cX5_stands 12 = .ok (.iload_n 1, 1) := by decide +kernel
theorem dX5_stands_13 : decode cX5_stands 13 = .ok (.sipush 8200, 3) := by decide +kernel
theorem dX5_stands_16 : decode cX5_stands 16 = .ok (.if_icmp .ge 7, 3) := by decide +kernel
theorem dX5_stands_19 : decode cX5_stands 19 = .ok (.iconst 1, 1) := by decide +kernel
theorem dX5_stands_20 : decode cX5_stands 20 = .ok (.goto 4, 3) := by decide +kernel
theorem dX5_stands_23 : decode cX5_stands 23 = .ok (.iconst 0, 1) := by decide +kernel
theorem dX5_stands_24 : decode cX5_stands 24 = .ok (.ireturn, 1) := by decide +kernel
theorem dX5_place_0 : decode cX5_place 0 = .ok (.aload_n 0, 1) := by decide +kernel
theorem dX5_place_1 : decode cX5_place 1 = .ok (.iload_n 1, 1) := by decide +kernel
theorem dX5_place_2 : decode cX5_place 2 = .ok (.invokevirtual 25, 3) := by decide +kernel
theorem dX5_place_5 : decode cX5_place 5 = .ok (.ifCond .eq 16, 3) := by decide +kernel
theorem dX5_place_8 : decode cX5_place 8 = .ok (.aload_n 0, 1) := by decide +kernel
theorem dX5_place_9 : decode cX5_place 9 = .ok (.getfield 11, 3) := by decide +kernel
theorem dX5_place_12 : decode cX5_place 12 = .ok (.iload_n 1, 1) := by decide +kernel
theorem dX5_place_13 : decode cX5_place 13 = .ok (.iaload, 1) := by decide +kernel
theorem dX5_place_14 : decode cX5_place 14 = .ok (.sipush 1023, 3) := by decide +kernel
theorem dX5_place_17 : decode cX5_place 17 = .ok (.iand, 1) := by decide +kernel
theorem dX5_place_18 : decode cX5_place 18 = .ok (.goto 4, 3) := by decide +kernel
theorem dX5_place_21 : decode cX5_place 21 = .ok (.iconst (-1), 1) := by decide +kernel
theorem dX5_place_22 : decode cX5_place 22 = .ok (.ireturn, 1) := by decide +kernel
theorem dX5_call_0 : decode cX5_call 0 = .ok (.aload_n 0, 1) := by decide +kernel
theorem dX5_call_1 : decode cX5_call 1 = .ok (.iload_n 1, 1) := by decide +kernel
theorem dX5_call_2 : decode cX5_call 2 = .ok (.invokevirtual 25, 3) := by decide +kernel
theorem dX5_call_5 : decode cX5_call 5 = .ok (.ifCond .eq 15, 3) := by decide +kernel
theorem dX5_call_8 : decode cX5_call 8 = .ok (.aload_n 0, 1) := by decide +kernel
theorem dX5_call_9 : decode cX5_call 9 = .ok (.getfield 11, 3) := by decide +kernel
theorem dX5_call_12 : decode cX5_call 12 = .ok (.iload_n 1, 1) := by decide +kernel
theorem dX5_call_13 : decode cX5_call 13 = .ok (.iaload, 1) := by decide +kernel
theorem dX5_call_14 : decode cX5_call 14 = .ok (.bipush 14, 2) := by decide +kernel
theorem dX5_call_16 : decode cX5_call 16 = .ok (.ishr, 1) := by decide +kernel
theorem dX5_call_17 : decode cX5_call 17 = .ok (.goto 4, 3) := by decide +kernel
theorem dX5_call_20 : decode cX5_call 20 = .ok (.iconst (-1), 1) := by decide +kernel
theorem dX5_call_21 : decode cX5_call 21 = .ok (.ireturn, 1) := by decide +kernel
theorem dX5_below_0 : decode cX5_below 0 = .ok (.aload_n 0, 1) := by decide +kernel
theorem dX5_below_1 : decode cX5_below 1 = .ok (.iload_n 1, 1) := by decide +kernel
theorem dX5_below_2 : decode cX5_below 2 = .ok (.invokevirtual 25, 3) := by decide +kernel
theorem dX5_below_5 : decode cX5_below 5 = .ok (.ifCond .eq 12, 3) := by decide +kernel
theorem dX5_below_8 : decode cX5_below 8 = .ok (.aload_n 0, 1) := by decide +kernel
theorem dX5_below_9 : decode cX5_below 9 = .ok (.getfield 15, 3) := by decide +kernel
theorem dX5_below_12 : decode cX5_below 12 = .ok (.iload_n 1, 1) := by decide +kernel
theorem dX5_below_13 : decode cX5_below 13 = .ok (.iaload, 1) := by decide +kernel
theorem dX5_below_14 : decode cX5_below 14 = .ok (.goto 4, 3) := by decide +kernel
theorem dX5_below_17 : decode cX5_below 17 = .ok (.iconst (-1), 1) := by decide +kernel
theorem dX5_below_18 : decode cX5_below 18 = .ok (.ireturn, 1) := by decide +kernel
theorem dX5_held_0 : decode cX5_held 0 = .ok (.aload_n 0, 1) := by decide +kernel
theorem dX5_held_1 : decode cX5_held 1 = .ok (.iload_n 1, 1) := by decide +kernel
theorem dX5_held_2 : decode cX5_held 2 = .ok (.invokevirtual 25, 3) := by decide +kernel
theorem dX5_held_5 : decode cX5_held 5 = .ok (.ifCond .eq 20, 3) := by decide +kernel
theorem dX5_held_8 : decode cX5_held 8 = .ok (.aload_n 0, 1) := by decide +kernel
theorem dX5_held_9 : decode cX5_held 9 = .ok (.getfield 11, 3) := by decide +kernel
theorem dX5_held_12 : decode cX5_held 12 = .ok (.iload_n 1, 1) := by decide +kernel
theorem dX5_held_13 : decode cX5_held 13 = .ok (.iaload, 1) := by decide +kernel
theorem dX5_held_14 : decode cX5_held 14 = .ok (.bipush 10, 2) := by decide +kernel
theorem dX5_held_16 : decode cX5_held 16 = .ok (.ishr, 1) := by decide +kernel
theorem dX5_held_17 : decode cX5_held 17 = .ok (.bipush 15, 2) := by decide +kernel
theorem dX5_held_19 : decode cX5_held 19 = .ok (.iand, 1) := by decide +kernel
theorem dX5_held_20 : decode cX5_held 20 = .ok (.iconst 1, 1) := by decide +kernel
theorem dX5_held_21 : decode cX5_held 21 = .ok (.isub, 1) := by decide +kernel
theorem dX5_held_22 : decode cX5_held 22 = .ok (.goto 4, 3) := by decide +kernel
theorem dX5_held_25 : decode cX5_held 25 = .ok (.iconst (-1), 1) := by decide +kernel
theorem dX5_held_26 : decode cX5_held 26 = .ok (.ireturn, 1) := by decide +kernel
theorem dX5_hold_0 : decode cX5_hold 0 = .ok (.aload_n 0, 1) := by decide +kernel
theorem dX5_hold_1 : decode cX5_hold 1 = .ok (.iload_n 1, 1) := by decide +kernel
theorem dX5_hold_2 : decode cX5_hold 2 = .ok (.invokevirtual 25, 3) := by decide +kernel
theorem dX5_hold_5 : decode cX5_hold 5 = .ok (.ifCond .eq 18, 3) := by decide +kernel
theorem dX5_hold_8 : decode cX5_hold 8 = .ok (.aload_n 0, 1) := by decide +kernel
theorem dX5_hold_9 : decode cX5_hold 9 = .ok (.getfield 11, 3) := by decide +kernel
theorem dX5_hold_12 : decode cX5_hold 12 = .ok (.iload_n 1, 1) := by decide +kernel
theorem dX5_hold_13 : decode cX5_hold 13 = .ok (.dup2, 1) := by decide +kernel
theorem dX5_hold_14 : decode cX5_hold 14 = .ok (.iaload, 1) := by decide +kernel
theorem dX5_hold_15 : decode cX5_hold 15 = .ok (.iload_n 2, 1) := by decide +kernel
theorem dX5_hold_16 : decode cX5_hold 16 = .ok (.iconst 1, 1) := by decide +kernel
theorem dX5_hold_17 : decode cX5_hold 17 = .ok (.iadd, 1) := by decide +kernel
theorem dX5_hold_18 : decode cX5_hold 18 = .ok (.bipush 10, 2) := by decide +kernel
theorem dX5_hold_20 : decode cX5_hold 20 = .ok (.ishl, 1) := by decide +kernel
theorem dX5_hold_21 : decode cX5_hold 21 = .ok (.ior, 1) := by decide +kernel
theorem dX5_hold_22 : decode cX5_hold 22 = .ok (.iastore, 1) := by decide +kernel
theorem dX5_hold_23 : decode cX5_hold 23 = .ok (.return_, 1) := by decide +kernel
theorem dX5_push_0 : decode cX5_push 0 = .ok (.aload_n 0, 1) := by decide +kernel
theorem dX5_push_1 : decode cX5_push 1 = .ok (.getfield 22, 3) := by decide +kernel
theorem dX5_push_4 : decode cX5_push 4 = .ok (.istore_n 3, 1) := by decide +kernel
theorem dX5_push_5 : decode cX5_push 5 = .ok (.aload_n 0, 1) := by decide +kernel
theorem dX5_push_6 : decode cX5_push 6 = .ok (.aload_n 0, 1) := by decide +kernel
theorem dX5_push_7 : decode cX5_push 7 = .ok (.getfield 18, 3) := by decide +kernel
theorem dX5_push_10 : decode cX5_push 10 = .ok (.putfield 22, 3) := by decide +kernel
theorem dX5_push_13 : decode cX5_push 13 = .ok (.aload_n 0, 1) := by decide +kernel
theorem dX5_push_14 : decode cX5_push 14 = .ok (.iload_n 1, 1) := by decide +kernel
theorem dX5_push_15 : decode cX5_push 15 = .ok (.iload_n 2, 1) := by decide +kernel
theorem dX5_push_16 : decode cX5_push 16 = .ok (.bipush 14, 2) := by decide +kernel
theorem dX5_push_18 : decode cX5_push 18 = .ok (.ishl, 1) := by decide +kernel
theorem dX5_push_19 : decode cX5_push 19 = .ok (.ior, 1) := by decide +kernel
theorem dX5_push_20 : decode cX5_push 20 = .ok (.iload_n 3, 1) := by decide +kernel
theorem dX5_push_21 : decode cX5_push 21 = .ok (.invokevirtual 29, 3) := by decide +kernel
theorem dX5_push_24 : decode cX5_push 24 = .ok (.ireturn, 1) := by decide +kernel
theorem dX5_make_0 : decode cX5_make 0 = .ok (.aload_n 0, 1) := by decide +kernel
theorem dX5_make_1 : decode cX5_make 1 = .ok (.getfield 18, 3) := by decide +kernel
theorem dX5_make_4 : decode cX5_make 4 = .ok (.ifCond .lt 13, 3) := by decide +kernel
theorem dX5_make_7 : decode cX5_make 7 = .ok (.aload_n 0, 1) := by decide +kernel
theorem dX5_make_8 : decode cX5_make 8 = .ok (.getfield 18, 3) := by decide +kernel
theorem dX5_make_11 : decode cX5_make 11 = .ok (.sipush 8200, 3) := by decide +kernel
theorem dX5_make_14 : decode cX5_make 14 = .ok (.if_icmp .lt 5, 3) := by decide +kernel
theorem dX5_make_17 : decode cX5_make 17 = .ok (.iconst 0, 1) := by decide +kernel
theorem dX5_make_18 : decode cX5_make 18 = .ok (.ireturn, 1) := by decide +kernel
theorem dX5_make_19 : decode cX5_make 19 = .ok (.aload_n 0, 1) := by decide +kernel
theorem dX5_make_20 : decode cX5_make 20 = .ok (.getfield 11, 3) := by decide +kernel
theorem dX5_make_23 : decode cX5_make 23 = .ok (.aload_n 0, 1) := by decide +kernel
theorem dX5_make_24 : decode cX5_make 24 = .ok (.getfield 18, 3) := by decide +kernel
theorem dX5_make_27 : decode cX5_make 27 = .ok (.iload_n 1, 1) := by decide +kernel
theorem dX5_make_28 : decode cX5_make 28 = .ok (.iastore, 1) := by decide +kernel
theorem dX5_make_29 : decode cX5_make 29 = .ok (.aload_n 0, 1) := by decide +kernel
theorem dX5_make_30 : decode cX5_make 30 = .ok (.getfield 15, 3) := by decide +kernel
theorem dX5_make_33 : decode cX5_make 33 = .ok (.aload_n 0, 1) := by decide +kernel
theorem dX5_make_34 : decode cX5_make 34 = .ok (.getfield 18, 3) := by decide +kernel
theorem dX5_make_37 : decode cX5_make 37 = .ok (.iload_n 2, 1) := by decide +kernel
theorem dX5_make_38 : decode cX5_make 38 = .ok (.iastore, 1) := by decide +kernel
theorem dX5_make_39 : decode cX5_make 39 = .ok (.aload_n 0, 1) := by decide +kernel
theorem dX5_make_40 : decode cX5_make 40 = .ok (.dup, 1) := by decide +kernel
theorem dX5_make_41 : decode cX5_make 41 = .ok (.getfield 18, 3) := by decide +kernel
theorem dX5_make_44 : decode cX5_make 44 = .ok (.iconst 1, 1) := by decide +kernel
theorem dX5_make_45 : decode cX5_make 45 = .ok (.iadd, 1) := by decide +kernel
theorem dX5_make_46 : decode cX5_make 46 = .ok (.putfield 18, 3) := by decide +kernel
theorem dX5_make_49 : decode cX5_make 49 = .ok (.iconst 1, 1) := by decide +kernel
theorem dX5_make_50 : decode cX5_make 50 = .ok (.ireturn, 1) := by decide +kernel
theorem dX5_layDown_0 : decode cX5_layDown 0 = .ok (.aload_n 0, 1) := by decide +kernel
theorem dX5_layDown_1 : decode cX5_layDown 1 = .ok (.getfield 22, 3) := by decide +kernel
theorem dX5_layDown_4 : decode cX5_layDown 4 = .ok (.istore_n 3, 1) := by decide +kernel
theorem dX5_layDown_5 : decode cX5_layDown 5 = .ok (.iload_n 1, 1) := by decide +kernel
theorem dX5_layDown_6 : decode cX5_layDown 6 = .ok (.istore 4, 2) := by decide +kernel
theorem dX5_layDown_8 : decode cX5_layDown 8 = .ok (.aload_n 0, 1) := by decide +kernel
theorem dX5_layDown_9 : decode cX5_layDown 9 = .ok (.aload_n 0, 1) := by decide +kernel
theorem dX5_layDown_10 : decode cX5_layDown 10 = .ok (.getfield 18, 3) := by decide +kernel
theorem dX5_layDown_13 : decode cX5_layDown 13 = .ok (.putfield 22, 3) := by decide +kernel
theorem dX5_layDown_16 : decode cX5_layDown 16 = .ok (.iconst 0, 1) := by decide +kernel
theorem dX5_layDown_17 : decode cX5_layDown 17 = .ok (.istore 5, 2) := by decide +kernel
theorem dX5_layDown_19 : decode cX5_layDown 19 = .ok (.iload 5, 2) := by decide +kernel
theorem dX5_layDown_21 : decode cX5_layDown 21 = .ok (.sipush 8200, 3) := by decide +kernel
theorem dX5_layDown_24 : decode cX5_layDown 24 = .ok (.if_icmp .ge 78, 3) := by decide +kernel
theorem dX5_layDown_27 : decode cX5_layDown 27 = .ok (.aload_n 0, 1) := by decide +kernel
theorem dX5_layDown_28 : decode cX5_layDown 28 = .ok (.iload 4, 2) := by decide +kernel
theorem dX5_layDown_30 : decode cX5_layDown 30 = .ok (.invokevirtual 25, 3) := by decide +kernel
theorem dX5_layDown_33 : decode cX5_layDown 33 = .ok (.ifCond .eq 69, 3) := by decide +kernel
theorem dX5_layDown_36 : decode cX5_layDown 36 = .ok (.iload 4, 2) := by decide +kernel
theorem dX5_layDown_38 : decode cX5_layDown 38 = .ok (.iload_n 2, 1) := by decide +kernel
theorem dX5_layDown_39 : decode cX5_layDown 39 = .ok (.if_icmp .ne 7, 3) := by decide +kernel
theorem dX5_layDown_42 : decode cX5_layDown 42 = .ok (.iconst 1, 1) := by decide +kernel
theorem dX5_layDown_43 : decode cX5_layDown 43 = .ok (.goto 4, 3) := by decide +kernel
theorem dX5_layDown_46 : decode cX5_layDown 46 = .ok (.iconst 0, 1) := by decide +kernel
theorem dX5_layDown_47 : decode cX5_layDown 47 = .ok (.istore 6, 2) := by decide +kernel
theorem dX5_layDown_49 : decode cX5_layDown 49 = .ok (.aload_n 0, 1) := by decide +kernel
theorem dX5_layDown_50 : decode cX5_layDown 50 = .ok (.aload_n 0, 1) := by decide +kernel
theorem dX5_layDown_51 : decode cX5_layDown 51 = .ok (.getfield 11, 3) := by decide +kernel
theorem dX5_layDown_54 : decode cX5_layDown 54 = .ok (.iload 4, 2) := by decide +kernel
theorem dX5_layDown_56 : decode cX5_layDown 56 = .ok (.iaload, 1) := by decide +kernel
theorem dX5_layDown_57 : decode cX5_layDown 57 = .ok (.iload 6, 2) := by decide +kernel
theorem dX5_layDown_59 : decode cX5_layDown 59 = .ok (.ifCond .eq 7, 3) := by decide +kernel
theorem dX5_layDown_62 : decode cX5_layDown 62 = .ok (.iload_n 3, 1) := by decide +kernel
theorem dX5_layDown_63 : decode cX5_layDown 63 = .ok (.goto 9, 3) := by decide +kernel
theorem dX5_layDown_66 : decode cX5_layDown 66 = .ok (.aload_n 0, 1) := by decide +kernel
theorem dX5_layDown_67 : decode cX5_layDown 67 = .ok (.getfield 18, 3) := by decide +kernel
theorem dX5_layDown_70 : decode cX5_layDown 70 = .ok (.iconst 1, 1) := by decide +kernel
theorem dX5_layDown_71 : decode cX5_layDown 71 = .ok (.iadd, 1) := by decide +kernel
theorem dX5_layDown_72 : decode cX5_layDown 72 = .ok (.invokevirtual 29, 3) := by decide +kernel
theorem dX5_layDown_75 : decode cX5_layDown 75 = .ok (.ifCond .ne 5, 3) := by decide +kernel
theorem dX5_layDown_78 : decode cX5_layDown 78 = .ok (.iconst 0, 1) := by decide +kernel
theorem dX5_layDown_79 : decode cX5_layDown 79 = .ok (.ireturn, 1) := by decide +kernel
theorem dX5_layDown_80 : decode cX5_layDown 80 = .ok (.iload 6, 2) := by decide +kernel
theorem dX5_layDown_82 : decode cX5_layDown 82 = .ok (.ifCond .eq 5, 3) := by decide +kernel
theorem dX5_layDown_85 : decode cX5_layDown 85 = .ok (.iconst 1, 1) := by decide +kernel
theorem dX5_layDown_86 : decode cX5_layDown 86 = .ok (.ireturn, 1) := by decide +kernel
theorem dX5_layDown_87 : decode cX5_layDown 87 = .ok (.aload_n 0, 1) := by decide +kernel
theorem dX5_layDown_88 : decode cX5_layDown 88 = .ok (.getfield 15, 3) := by decide +kernel
theorem dX5_layDown_91 : decode cX5_layDown 91 = .ok (.iload 4, 2) := by decide +kernel
theorem dX5_layDown_93 : decode cX5_layDown 93 = .ok (.iaload, 1) := by decide +kernel
theorem dX5_layDown_94 : decode cX5_layDown 94 = .ok (.istore 4, 2) := by decide +kernel
theorem dX5_layDown_96 : decode cX5_layDown 96 = .ok (.iinc 5 1, 3) := by decide +kernel
theorem dX5_layDown_99 : decode cX5_layDown 99 = .ok (.goto (-80), 3) := by decide +kernel
theorem dX5_layDown_102 : decode cX5_layDown 102 = .ok (.iconst 0, 1) := by decide +kernel
theorem dX5_layDown_103 : decode cX5_layDown 103 = .ok (.ireturn, 1) := by decide +kernel
theorem dX6_init_0 : decode cX6_init 0 = .ok (.aload_n 0, 1) := by decide +kernel
theorem dX6_init_1 : decode cX6_init 1 = .ok (.invokespecial 3, 3) := by decide +kernel
theorem dX6_init_4 : decode cX6_init 4 = .ok (.aload_n 0, 1) := by decide +kernel
theorem dX6_init_5 : decode cX6_init 5 = .ok (.sipush 800, 3) := by decide +kernel
theorem dX6_init_8 : decode cX6_init 8 = .ok (.newarray .int, 2) := by decide +kernel
theorem dX6_init_10 : decode cX6_init 10 = .ok (.putfield 9, 3) := by decide +kernel
theorem dX6_init_13 : decode cX6_init 13 = .ok (.aload_n 0, 1) := by decide +kernel
theorem dX6_init_14 : decode cX6_init 14 = .ok (.sipush 800, 3) := by decide +kernel
theorem dX6_init_17 : decode cX6_init 17 = .ok (.newarray .int, 2) := by decide +kernel
theorem dX6_init_19 : decode cX6_init 19 = .ok (.putfield 15, 3) := by decide +kernel
theorem dX6_init_22 : decode cX6_init 22 = .ok (.aload_n 0, 1) := by decide +kernel
theorem dX6_init_23 : decode cX6_init 23 = .ok (.iconst 4, 1) := by decide +kernel
theorem dX6_init_24 : decode cX6_init 24 = .ok (.newarray .int, 2) := by decide +kernel
theorem dX6_init_26 : decode cX6_init 26 = .ok (.putfield 18, 3) := by decide +kernel
theorem dX6_init_29 : decode cX6_init 29 = .ok (.aload_n 0, 1) := by decide +kernel
theorem dX6_init_30 : decode cX6_init 30 = .ok (.aload_n 1, 1) := by decide +kernel
theorem dX6_init_31 : decode cX6_init 31 = .ok (.putfield 21, 3) := by decide +kernel
theorem dX6_init_34 : decode cX6_init 34 = .ok (.return_, 1) := by decide +kernel
theorem dX6_beyond_0 : decode cX6_beyond 0 = .ok (.iconst 0, 1) := by decide +kernel
theorem dX6_beyond_1 : decode cX6_beyond 1 = .ok (.istore_n 2, 1) := by decide +kernel
theorem dX6_beyond_2 : decode cX6_beyond 2 = .ok (.iload_n 2, 1) := by decide +kernel
theorem dX6_beyond_3 : decode cX6_beyond 3 = .ok (.sipush 800, 3) := by decide +kernel
theorem dX6_beyond_6 : decode cX6_beyond 6 = .ok (.if_icmp .ge 16, 3) := by decide +kernel
theorem dX6_beyond_9 : decode cX6_beyond 9 = .ok (.aload_n 0, 1) := by decide +kernel
theorem dX6_beyond_10 : decode cX6_beyond 10 = .ok (.getfield 9, 3) := by decide +kernel
theorem dX6_beyond_13 : decode cX6_beyond 13 = .ok (.iload_n 2, 1) := by decide +kernel
theorem dX6_beyond_14 : decode cX6_beyond 14 = .ok (.iconst 0, 1) := by decide +kernel
theorem dX6_beyond_15 : decode cX6_beyond 15 = .ok (.iastore, 1) := by decide +kernel
theorem dX6_beyond_16 : decode cX6_beyond 16 = .ok (.iinc 2 1, 3) := by decide +kernel
theorem dX6_beyond_19 : decode cX6_beyond 19 = .ok (.goto (-17), 3) := by decide +kernel
theorem dX6_beyond_22 : decode cX6_beyond 22 = .ok (.iconst 0, 1) := by decide +kernel
theorem dX6_beyond_23 : decode cX6_beyond 23 = .ok (.istore_n 2, 1) := by decide +kernel
theorem dX6_beyond_24 : decode cX6_beyond 24 = .ok (.iload_n 2, 1) := by decide +kernel
theorem dX6_beyond_25 : decode cX6_beyond 25 = .ok (.iconst 4, 1) := by decide +kernel
theorem dX6_beyond_26 : decode cX6_beyond 26 = .ok (.if_icmp .ge 16, 3) := by decide +kernel
theorem dX6_beyond_29 : decode cX6_beyond 29 = .ok (.aload_n 0, 1) := by decide +kernel
theorem dX6_beyond_30 : decode cX6_beyond 30 = .ok (.getfield 18, 3) := by decide +kernel
theorem dX6_beyond_33 : decode cX6_beyond 33 = .ok (.iload_n 2, 1) := by decide +kernel
theorem dX6_beyond_34 : decode cX6_beyond 34 = .ok (.iconst 0, 1) := by decide +kernel
theorem dX6_beyond_35 : decode cX6_beyond 35 = .ok (.iastore, 1) := by decide +kernel
theorem dX6_beyond_36 : decode cX6_beyond 36 = .ok (.iinc 2 1, 3) := by decide +kernel
theorem dX6_beyond_39 : decode cX6_beyond 39 = .ok (.goto (-15), 3) := by decide +kernel
theorem dX6_beyond_42 : decode cX6_beyond 42 = .ok (.iconst 1, 1) := by decide +kernel
theorem dX6_beyond_43 : decode cX6_beyond 43 = .ok (.istore_n 2, 1) := by decide +kernel
theorem dX6_beyond_44 : decode cX6_beyond 44 = .ok (.iconst 0, 1) := by decide +kernel
theorem dX6_beyond_45 : decode cX6_beyond 45 = .ok (.istore_n 3, 1) := by decide +kernel
theorem dX6_beyond_46 : decode cX6_beyond 46 = .ok (.iload_n 3, 1) := by decide +kernel
theorem dX6_beyond_47 : decode cX6_beyond 47 = .ok (.sipush 2401, 3) := by decide +kernel
theorem dX6_beyond_50 : decode cX6_beyond 50 = .ok (.if_icmp .ge 42, 3) := by decide +kernel
theorem dX6_beyond_53 : decode cX6_beyond 53 = .ok (.iload_n 2, 1) := by decide +kernel
theorem dX6_beyond_54 : decode cX6_beyond 54 = .ok (.ifCond .eq 38, 3) := by decide +kernel
theorem dX6_beyond_57 : decode cX6_beyond 57 = .ok (.iconst 0, 1) := by decide +kernel
theorem dX6_beyond_58 : decode cX6_beyond 58 = .ok (.istore_n 2, 1) := by decide +kernel
theorem dX6_beyond_59 : decode cX6_beyond 59 = .ok (.iconst 0, 1) := by decide +kernel
theorem dX6_beyond_60 : decode cX6_beyond 60 = .ok (.istore 4, 2) := by decide +kernel
theorem dX6_beyond_62 : decode cX6_beyond 62 = .ok (.iload 4, 2) := by decide +kernel
theorem dX6_beyond_64 : decode cX6_beyond 64 = .ok (.bipush 20, 2) := by decide +kernel
theorem dX6_beyond_66 : decode cX6_beyond 66 = .ok (.if_icmp .ge 20, 3) := by decide +kernel
theorem dX6_beyond_69 : decode cX6_beyond 69 = .ok (.aload_n 0, 1) := by decide +kernel
theorem dX6_beyond_70 : decode cX6_beyond 70 = .ok (.iload 4, 2) := by decide +kernel
theorem dX6_beyond_72 : decode cX6_beyond 72 = .ok (.invokevirtual 25, 3) := by decide +kernel
theorem dX6_beyond_75 : decode cX6_beyond 75 = .ok (.ifCond .eq 5, 3) := by decide +kernel
theorem dX6_beyond_78 : decode cX6_beyond 78 = .ok (.iconst 1, 1) := by decide +kernel
theorem dX6_beyond_79 : decode cX6_beyond 79 = .ok (.istore_n 2, 1) := by decide +kernel
theorem dX6_beyond_80 : decode cX6_beyond 80 = .ok (.iinc 4 1, 3) := by decide +kernel
theorem dX6_beyond_83 : decode cX6_beyond 83 = .ok (.goto (-21), 3) := by decide +kernel
theorem dX6_beyond_86 : decode cX6_beyond 86 = .ok (.iinc 3 1, 3) := by decide +kernel
theorem dX6_beyond_89 : decode cX6_beyond 89 = .ok (.goto (-43), 3) := by decide +kernel
theorem dX6_beyond_92 : decode cX6_beyond 92 = .ok (.aload_n 0, 1) := by decide +kernel
theorem dX6_beyond_93 : decode cX6_beyond 93 = .ok (.iload_n 1, 1) := by decide +kernel
theorem dX6_beyond_94 : decode cX6_beyond 94 = .ok (.bipush 40, 2) := by decide +kernel
theorem dX6_beyond_96 : decode cX6_beyond 96 = .ok (.imul, 1) := by decide +kernel
theorem dX6_beyond_97 : decode cX6_beyond 97 = .ok (.invokevirtual 29, 3) := by decide +kernel
theorem dX6_beyond_100 : decode cX6_beyond 100 = .ok (.ireturn, 1) := by decide +kernel
theorem dX6_addsTo_0 : decode cX6_addsTo 0 = .ok (.iconst 0, 1) := by decide +kernel
theorem dX6_addsTo_1 : decode cX6_addsTo 1 = .ok (.istore_n 2, 1) := by decide +kernel
theorem dX6_addsTo_2 : decode cX6_addsTo 2 = .ok (.aload_n 0, 1) := by decide +kernel
theorem dX6_addsTo_3 : decode cX6_addsTo 3 = .ok (.getfield 21, 3) := by decide +kernel
theorem dX6_addsTo_6 : decode cX6_addsTo 6 = .ok (.iload_n 1, 1) := by decide +kernel
theorem dX6_addsTo_7 : decode cX6_addsTo 7 = .ok (.invokevirtual 33, 3) := by decide +kernel
theorem dX6_addsTo_10 : decode cX6_addsTo 10 = .ok (.bipush 40, 2) := by decide +kernel
theorem dX6_addsTo_12 : decode cX6_addsTo 12 = .ok (.invokestatic 38, 3) := by decide +kernel
theorem dX6_addsTo_15 : decode cX6_addsTo 15 = .ok (.iconst 1, 1) := by decide +kernel
theorem dX6_addsTo_16 : decode cX6_addsTo 16 = .ok (.isub, 1) := by decide +kernel
theorem dX6_addsTo_17 : decode cX6_addsTo 17 = .ok (.istore_n 3, 1) := by decide +kernel
theorem dX6_addsTo_18 : decode cX6_addsTo 18 = .ok (.iload_n 3, 1) := by decide +kernel
theorem dX6_addsTo_19 : decode cX6_addsTo 19 = .ok (.ifCond .lt 95, 3) := by decide +kernel
theorem dX6_addsTo_22 : decode cX6_addsTo 22 = .ok (.iload_n 1, 1) := by decide +kernel
theorem dX6_addsTo_23 : decode cX6_addsTo 23 = .ok (.bipush 40, 2) := by decide +kernel
theorem dX6_addsTo_25 : decode cX6_addsTo 25 = .ok (.imul, 1) := by decide +kernel
theorem dX6_addsTo_26 : decode cX6_addsTo 26 = .ok (.iload_n 3, 1) := by decide +kernel
theorem dX6_addsTo_27 : decode cX6_addsTo 27 = .ok (.iadd, 1) := by decide +kernel
theorem dX6_addsTo_28 : decode cX6_addsTo 28 = .ok (.istore 4, 2) := by decide +kernel
theorem dX6_addsTo_30 : decode cX6_addsTo 30 = .ok (.aload_n 0, 1) := by decide +kernel
theorem dX6_addsTo_31 : decode cX6_addsTo 31 = .ok (.iload 4, 2) := by decide +kernel
theorem dX6_addsTo_33 : decode cX6_addsTo 33 = .ok (.invokevirtual 44, 3) := by decide +kernel
theorem dX6_addsTo_36 : decode cX6_addsTo 36 = .ok (.istore 5, 2) := by decide +kernel
theorem dX6_addsTo_38 : decode cX6_addsTo 38 = .ok (.iload 4, 2) := by decide +kernel
theorem dX6_addsTo_40 : decode cX6_addsTo 40 = .ok (.ifCond .lt 34, 3) := by decide +kernel
theorem dX6_addsTo_43 : decode cX6_addsTo 43 = .ok (.iload 4, 2) := by decide +kernel
theorem dX6_addsTo_45 : decode cX6_addsTo 45 = .ok (.sipush 800, 3) := by decide +kernel
theorem dX6_addsTo_48 : decode cX6_addsTo 48 = .ok (.if_icmp .ge 26, 3) := by decide +kernel
theorem dX6_addsTo_51 : decode cX6_addsTo 51 = .ok (.aload_n 0, 1) := by decide +kernel
theorem dX6_addsTo_52 : decode cX6_addsTo 52 = .ok (.getfield 9, 3) := by decide +kernel
theorem dX6_addsTo_55 : decode cX6_addsTo 55 = .ok (.iload 4, 2) := by decide +kernel
theorem dX6_addsTo_57 : decode cX6_addsTo 57 = .ok (.iaload, 1) := by decide +kernel
theorem dX6_addsTo_58 : decode cX6_addsTo 58 = .ok (.iload 5, 2) := by decide +kernel
theorem dX6_addsTo_60 : decode cX6_addsTo 60 = .ok (.if_icmp .eq 14, 3) := by decide +kernel
theorem dX6_addsTo_63 : decode cX6_addsTo 63 = .ok (.aload_n 0, 1) := by decide +kernel
theorem dX6_addsTo_64 : decode cX6_addsTo 64 = .ok (.getfield 9, 3) := by decide +kernel
theorem dX6_addsTo_67 : decode cX6_addsTo 67 = .ok (.iload 4, 2) := by decide +kernel
theorem dX6_addsTo_69 : decode cX6_addsTo 69 = .ok (.iload 5, 2) := by decide +kernel
theorem dX6_addsTo_71 : decode cX6_addsTo 71 = .ok (.iastore, 1) := by decide +kernel
theorem dX6_addsTo_72 : decode cX6_addsTo 72 = .ok (.iconst 1, 1) := by decide +kernel
theorem dX6_addsTo_73 : decode cX6_addsTo 73 = .ok (.istore_n 2, 1) := by decide +kernel
theorem dX6_addsTo_74 : decode cX6_addsTo 74 = .ok (.aload_n 0, 1) := by decide +kernel
theorem dX6_addsTo_75 : decode cX6_addsTo 75 = .ok (.getfield 21, 3) := by decide +kernel
theorem dX6_addsTo_78 : decode cX6_addsTo 78 = .ok (.iload 4, 2) := by decide +kernel
theorem dX6_addsTo_80 : decode cX6_addsTo 80 = .ok (.invokevirtual 47, 3) := by decide +kernel
theorem dX6_addsTo_83 : decode cX6_addsTo 83 = .ok (.istore 6, 2) := by decide +kernel
theorem dX6_addsTo_85 : decode cX6_addsTo 85 = .ok (.iload 6, 2) := by decide +kernel
theorem dX6_addsTo_87 : decode cX6_addsTo 87 = .ok (.ifCond .lt 21, 3) := by decide +kernel
theorem dX6_addsTo_90 : decode cX6_addsTo 90 = .ok (.iload 6, 2) := by decide +kernel
theorem dX6_addsTo_92 : decode cX6_addsTo 92 = .ok (.iconst 4, 1) := by decide +kernel
theorem dX6_addsTo_93 : decode cX6_addsTo 93 = .ok (.if_icmp .ge 15, 3) := by decide +kernel
theorem dX6_addsTo_96 : decode cX6_addsTo 96 = .ok (.aload_n 0, 1) := by decide +kernel
theorem dX6_addsTo_97 : decode cX6_addsTo 97 = .ok (.getfield 18, 3) := by decide +kernel
theorem dX6_addsTo_100 : decode cX6_addsTo 100 = .ok (.iload 6, 2) := by decide +kernel
theorem dX6_addsTo_102 : decode cX6_addsTo 102 = .ok (.dup2, 1) := by decide +kernel
theorem dX6_addsTo_103 : decode cX6_addsTo 103 = .ok (.iaload, 1) := by decide +kernel
theorem dX6_addsTo_104 : decode cX6_addsTo 104 = .ok (.iload 5, 2) := by decide +kernel
theorem dX6_addsTo_106 : decode cX6_addsTo 106 = .ok (.ior, 1) := by decide +kernel
theorem dX6_addsTo_107 : decode cX6_addsTo 107 = .ok (.iastore, 1) := by decide +kernel
theorem dX6_addsTo_108 : decode cX6_addsTo 108 = .ok (.iinc 3 (-1), 3) := by decide +kernel
theorem dX6_addsTo_111 : decode cX6_addsTo 111 = .ok (.goto (-93), 3) := by decide +kernel
theorem dX6_addsTo_114 : decode cX6_addsTo 114 = .ok (.iload_n 2, 1) := by decide +kernel
theorem dX6_addsTo_115 : decode cX6_addsTo 115 = .ok (.ireturn, 1) := by decide +kernel
theorem dX6_asked_0 : decode cX6_asked 0 = .ok (.iload_n 1, 1) := by decide +kernel
theorem dX6_asked_1 : decode cX6_asked 1 = .ok (.ifCond .lt 19, 3) := by decide +kernel
theorem dX6_asked_4 : decode cX6_asked 4 = .ok (.iload_n 1, 1) := by decide +kernel
theorem dX6_asked_5 : decode cX6_asked 5 = .ok (.sipush 800, 3) := by decide +kernel
theorem dX6_asked_8 : decode cX6_asked 8 = .ok (.if_icmp .ge 12, 3) := by decide +kernel
theorem dX6_asked_11 : decode cX6_asked 11 = .ok (.aload_n 0, 1) := by decide +kernel
theorem dX6_asked_12 : decode cX6_asked 12 = .ok (.getfield 9, 3) := by decide +kernel
theorem dX6_asked_15 : decode cX6_asked 15 = .ok (.iload_n 1, 1) := by decide +kernel
theorem dX6_asked_16 : decode cX6_asked 16 = .ok (.iaload, 1) := by decide +kernel
theorem dX6_asked_17 : decode cX6_asked 17 = .ok (.goto 4, 3) := by decide +kernel
theorem dX6_asked_20 : decode cX6_asked 20 = .ok (.iconst 0, 1) := by decide +kernel
theorem dX6_asked_21 : decode cX6_asked 21 = .ok (.ireturn, 1) := by decide +kernel
theorem dX6_asksOf_0 : decode cX6_asksOf 0 = .ok (.aload_n 0, 1) := by decide +kernel
theorem dX6_asksOf_1 : decode cX6_asksOf 1 = .ok (.getfield 21, 3) := by decide +kernel
theorem dX6_asksOf_4 : decode cX6_asksOf 4 = .ok (.iload_n 1, 1) := by decide +kernel
theorem dX6_asksOf_5 : decode cX6_asksOf 5 = .ok (.invokevirtual 50, 3) := by decide +kernel
theorem dX6_asksOf_8 : decode cX6_asksOf 8 = .ok (.istore_n 2, 1) := by decide +kernel
theorem dX6_asksOf_9 : decode cX6_asksOf 9 = .ok (.iconst 0, 1) := by decide +kernel
theorem dX6_asksOf_10 : decode cX6_asksOf 10 = .ok (.istore_n 3, 1) := by decide +kernel
theorem dX6_asksOf_11 : decode cX6_asksOf 11 = .ok (.aload_n 0, 1) := by decide +kernel
theorem dX6_asksOf_12 : decode cX6_asksOf 12 = .ok (.getfield 21, 3) := by decide +kernel
theorem dX6_asksOf_15 : decode cX6_asksOf 15 = .ok (.iload_n 1, 1) := by decide +kernel
theorem dX6_asksOf_16 : decode cX6_asksOf 16 = .ok (.invokevirtual 53, 3) := by decide +kernel
theorem dX6_asksOf_19 : decode cX6_asksOf 19 = .ok (.istore 4, 2) := by decide +kernel
theorem dX6_asksOf_21 : decode cX6_asksOf 21 = .ok (.iload_n 2, 1) := by decide +kernel
theorem dX6_asksOf_22 : decode cX6_asksOf 22 = .ok (.invokestatic 56, 3) := by decide +kernel
theorem dX6_asksOf_25 : decode cX6_asksOf 25 = .ok (.istore 5, 2) := by decide +kernel
theorem dX6_asksOf_27 : decode cX6_asksOf 27 = .ok (.iconst 0, 1) := by decide +kernel
theorem dX6_asksOf_28 : decode cX6_asksOf 28 = .ok (.istore 6, 2) := by decide +kernel
theorem dX6_asksOf_30 : decode cX6_asksOf 30 = .ok (.iload 6, 2) := by decide +kernel
theorem dX6_asksOf_32 : decode cX6_asksOf 32 = .ok (.iload 5, 2) := by decide +kernel
theorem dX6_asksOf_34 : decode cX6_asksOf 34 = .ok (.if_icmp .ge 29, 3) := by decide +kernel
theorem dX6_asksOf_37 : decode cX6_asksOf 37 = .ok (.iload_n 3, 1) := by decide +kernel
theorem dX6_asksOf_38 : decode cX6_asksOf 38 = .ok (.aload_n 0, 1) := by decide +kernel
theorem dX6_asksOf_39 : decode cX6_asksOf 39 = .ok (.iload 4, 2) := by decide +kernel
theorem dX6_asksOf_41 : decode cX6_asksOf 41 = .ok (.invokevirtual 29, 3) := by decide +kernel
theorem dX6_asksOf_44 : decode cX6_asksOf 44 = .ok (.ior, 1) := by decide +kernel
theorem dX6_asksOf_45 : decode cX6_asksOf 45 = .ok (.istore_n 3, 1) := by decide +kernel
theorem dX6_asksOf_46 : decode cX6_asksOf 46 = .ok (.aload_n 0, 1) := by decide +kernel
theorem dX6_asksOf_47 : decode cX6_asksOf 47 = .ok (.getfield 21, 3) := by decide +kernel
theorem dX6_asksOf_50 : decode cX6_asksOf 50 = .ok (.iload 4, 2) := by decide +kernel
theorem dX6_asksOf_52 : decode cX6_asksOf 52 = .ok (.invokevirtual 59, 3) := by decide +kernel
theorem dX6_asksOf_55 : decode cX6_asksOf 55 = .ok (.istore 4, 2) := by decide +kernel
theorem dX6_asksOf_57 : decode cX6_asksOf 57 = .ok (.iinc 6 1, 3) := by decide +kernel
theorem dX6_asksOf_60 : decode cX6_asksOf 60 = .ok (.goto (-30), 3) := by decide +kernel
theorem dX6_asksOf_63 : decode cX6_asksOf 63 = .ok (.iload_n 2, 1) := by decide +kernel
theorem dX6_asksOf_64 : decode cX6_asksOf 64 = .ok (.lookupswitch 86 #[(64, 72), (107, 61), (112, 52), (113, 52), (114, 52)], 52) := by decide +kernel
theorem dX6_asksOf_116 : decode cX6_asksOf 116 = .ok (.iload_n 3, 1) := by decide +kernel
theorem dX6_asksOf_117 : decode cX6_asksOf 117 = .ok (.iconst 1, 1) := by decide +kernel
theorem dX6_asksOf_118 : decode cX6_asksOf 118 = .ok (.iload_n 2, 1) := by decide +kernel
theorem dX6_asksOf_119 : decode cX6_asksOf 119 = .ok (.bipush 112, 2) := by decide +kernel
theorem dX6_asksOf_121 : decode cX6_asksOf 121 = .ok (.isub, 1) := by decide +kernel
theorem dX6_asksOf_122 : decode cX6_asksOf 122 = .ok (.ishl, 1) := by decide +kernel
theorem dX6_asksOf_123 : decode cX6_asksOf 123 = .ok (.ior, 1) := by decide +kernel
theorem dX6_asksOf_124 : decode cX6_asksOf 124 = .ok (.ireturn, 1) := by decide +kernel
theorem dX6_asksOf_125 : decode cX6_asksOf 125 = .ok (.iload_n 3, 1) := by decide +kernel
theorem dX6_asksOf_126 : decode cX6_asksOf 126 = .ok (.aload_n 0, 1) := by decide +kernel
theorem dX6_asksOf_127 : decode cX6_asksOf 127 = .ok (.iload_n 1, 1) := by decide +kernel
theorem dX6_asksOf_128 : decode cX6_asksOf 128 = .ok (.bipush 40, 2) := by decide +kernel
theorem dX6_asksOf_130 : decode cX6_asksOf 130 = .ok (.idiv, 1) := by decide +kernel
theorem dX6_asksOf_131 : decode cX6_asksOf 131 = .ok (.invokevirtual 62, 3) := by decide +kernel
theorem dX6_asksOf_134 : decode cX6_asksOf 134 = .ok (.ior, 1) := by decide +kernel
theorem dX6_asksOf_135 : decode cX6_asksOf 135 = .ok (.ireturn, 1) := by decide +kernel
theorem dX6_asksOf_136 : decode cX6_asksOf 136 = .ok (.aload_n 0, 1) := by decide +kernel
theorem dX6_asksOf_137 : decode cX6_asksOf 137 = .ok (.aload_n 0, 1) := by decide +kernel
theorem dX6_asksOf_138 : decode cX6_asksOf 138 = .ok (.getfield 21, 3) := by decide +kernel
theorem dX6_asksOf_141 : decode cX6_asksOf 141 = .ok (.iload_n 1, 1) := by decide +kernel
theorem dX6_asksOf_142 : decode cX6_asksOf 142 = .ok (.invokevirtual 47, 3) := by decide +kernel
theorem dX6_asksOf_145 : decode cX6_asksOf 145 = .ok (.iload_n 3, 1) := by decide +kernel
theorem dX6_asksOf_146 : decode cX6_asksOf 146 = .ok (.invokevirtual 65, 3) := by decide +kernel
theorem dX6_asksOf_149 : decode cX6_asksOf 149 = .ok (.ireturn, 1) := by decide +kernel
theorem dX6_asksOf_150 : decode cX6_asksOf 150 = .ok (.iload_n 3, 1) := by decide +kernel
theorem dX6_asksOf_151 : decode cX6_asksOf 151 = .ok (.ireturn, 1) := by decide +kernel
theorem dX6_whatGoesOn_0 : decode cX6_whatGoesOn 0 = .ok (.iload_n 1, 1) := by decide +kernel
theorem dX6_whatGoesOn_1 : decode cX6_whatGoesOn 1 = .ok (.iconst 4, 1) := by decide +kernel
theorem dX6_whatGoesOn_2 : decode cX6_whatGoesOn 2 = .ok (.isub, 1) := by decide +kernel
theorem dX6_whatGoesOn_3 : decode cX6_whatGoesOn 3 = .ok (.iconst 4, 1) := by decide +kernel
theorem dX6_whatGoesOn_4 : decode cX6_whatGoesOn 4 = .ok (.idiv, 1) := by decide +kernel
theorem dX6_whatGoesOn_5 : decode cX6_whatGoesOn 5 = .ok (.istore_n 2, 1) := by decide +kernel
theorem dX6_whatGoesOn_6 : decode cX6_whatGoesOn 6 = .ok (.iload_n 1, 1) := by decide +kernel
theorem dX6_whatGoesOn_7 : decode cX6_whatGoesOn 7 = .ok (.iconst 4, 1) := by decide +kernel
theorem dX6_whatGoesOn_8 : decode cX6_whatGoesOn 8 = .ok (.if_icmp .lt 17, 3) := by decide +kernel
theorem dX6_whatGoesOn_11 : decode cX6_whatGoesOn 11 = .ok (.iload_n 2, 1) := by decide +kernel
theorem dX6_whatGoesOn_12 : decode cX6_whatGoesOn 12 = .ok (.iconst 4, 1) := by decide +kernel
theorem dX6_whatGoesOn_13 : decode cX6_whatGoesOn 13 = .ok (.if_icmp .ge 12, 3) := by decide +kernel
theorem dX6_whatGoesOn_16 : decode cX6_whatGoesOn 16 = .ok (.aload_n 0, 1) := by decide +kernel
theorem dX6_whatGoesOn_17 : decode cX6_whatGoesOn 17 = .ok (.getfield 18, 3) := by decide +kernel
theorem dX6_whatGoesOn_20 : decode cX6_whatGoesOn 20 = .ok (.iload_n 2, 1) := by decide +kernel
theorem dX6_whatGoesOn_21 : decode cX6_whatGoesOn 21 = .ok (.iaload, 1) := by decide +kernel
theorem dX6_whatGoesOn_22 : decode cX6_whatGoesOn 22 = .ok (.goto 4, 3) := by decide +kernel
theorem dX6_whatGoesOn_25 : decode cX6_whatGoesOn 25 = .ok (.iconst 0, 1) := by decide +kernel
theorem dX6_whatGoesOn_26 : decode cX6_whatGoesOn 26 = .ok (.ireturn, 1) := by decide +kernel
theorem dX6_pastHand_0 : decode cX6_pastHand 0 = .ok (.aload_n 0, 1) := by decide +kernel
theorem dX6_pastHand_1 : decode cX6_pastHand 1 = .ok (.getfield 21, 3) := by decide +kernel
theorem dX6_pastHand_4 : decode cX6_pastHand 4 = .ok (.iload_n 1, 1) := by decide +kernel
theorem dX6_pastHand_5 : decode cX6_pastHand 5 = .ok (.invokevirtual 68, 3) := by decide +kernel
theorem dX6_pastHand_8 : decode cX6_pastHand 8 = .ok (.istore_n 3, 1) := by decide +kernel
theorem dX6_pastHand_9 : decode cX6_pastHand 9 = .ok (.iload_n 3, 1) := by decide +kernel
theorem dX6_pastHand_10 : decode cX6_pastHand 10 = .ok (.iload_n 2, 1) := by decide +kernel
theorem dX6_pastHand_11 : decode cX6_pastHand 11 = .ok (.bipush 8, 2) := by decide +kernel
theorem dX6_pastHand_13 : decode cX6_pastHand 13 = .ok (.ior, 1) := by decide +kernel
theorem dX6_pastHand_14 : decode cX6_pastHand 14 = .ok (.iand, 1) := by decide +kernel
theorem dX6_pastHand_15 : decode cX6_pastHand 15 = .ok (.istore 4, 2) := by decide +kernel
theorem dX6_pastHand_17 : decode cX6_pastHand 17 = .ok (.iload_n 2, 1) := by decide +kernel
theorem dX6_pastHand_18 : decode cX6_pastHand 18 = .ok (.iload_n 3, 1) := by decide +kernel
theorem dX6_pastHand_19 : decode cX6_pastHand 19 = .ok (.iconst (-1), 1) := by decide +kernel
theorem dX6_pastHand_20 : decode cX6_pastHand 20 = .ok (.ixor, 1) := by decide +kernel
theorem dX6_pastHand_21 : decode cX6_pastHand 21 = .ok (.iand, 1) := by decide +kernel
theorem dX6_pastHand_22 : decode cX6_pastHand 22 = .ok (.istore 5, 2) := by decide +kernel
theorem dX6_pastHand_24 : decode cX6_pastHand 24 = .ok (.iconst 0, 1) := by decide +kernel
theorem dX6_pastHand_25 : decode cX6_pastHand 25 = .ok (.istore 6, 2) := by decide +kernel
theorem dX6_pastHand_27 : decode cX6_pastHand 27 = .ok (.iload 6, 2) := by decide +kernel
theorem dX6_pastHand_29 : decode cX6_pastHand 29 = .ok (.iconst 4, 1) := by decide +kernel
theorem dX6_pastHand_30 : decode cX6_pastHand 30 = .ok (.if_icmp .ge 38, 3) := by decide +kernel
theorem dX6_pastHand_33 : decode cX6_pastHand 33 = .ok (.iload 4, 2) := by decide +kernel
theorem dX6_pastHand_35 : decode cX6_pastHand 35 = .ok (.iload 6, 2) := by decide +kernel
theorem dX6_pastHand_37 : decode cX6_pastHand 37 = .ok (.ishr, 1) := by decide +kernel
theorem dX6_pastHand_38 : decode cX6_pastHand 38 = .ok (.iconst 1, 1) := by decide +kernel
theorem dX6_pastHand_39 : decode cX6_pastHand 39 = .ok (.iand, 1) := by decide +kernel
theorem dX6_pastHand_40 : decode cX6_pastHand 40 = .ok (.iconst 1, 1) := by decide +kernel
theorem dX6_pastHand_41 : decode cX6_pastHand 41 = .ok (.if_icmp .ne 21, 3) := by decide +kernel
theorem dX6_pastHand_44 : decode cX6_pastHand 44 = .ok (.iload 5, 2) := by decide +kernel
theorem dX6_pastHand_46 : decode cX6_pastHand 46 = .ok (.aload_n 0, 1) := by decide +kernel
theorem dX6_pastHand_47 : decode cX6_pastHand 47 = .ok (.iload_n 1, 1) := by decide +kernel
theorem dX6_pastHand_48 : decode cX6_pastHand 48 = .ok (.iload 6, 2) := by decide +kernel
theorem dX6_pastHand_50 : decode cX6_pastHand 50 = .ok (.invokestatic 71, 3) := by decide +kernel
theorem dX6_pastHand_53 : decode cX6_pastHand 53 = .ok (.bipush 40, 2) := by decide +kernel
theorem dX6_pastHand_55 : decode cX6_pastHand 55 = .ok (.imul, 1) := by decide +kernel
theorem dX6_pastHand_56 : decode cX6_pastHand 56 = .ok (.invokevirtual 29, 3) := by decide +kernel
theorem dX6_pastHand_59 : decode cX6_pastHand 59 = .ok (.ior, 1) := by decide +kernel
theorem dX6_pastHand_60 : decode cX6_pastHand 60 = .ok (.istore 5, 2) := by decide +kernel
theorem dX6_pastHand_62 : decode cX6_pastHand 62 = .ok (.iinc 6 1, 3) := by decide +kernel
theorem dX6_pastHand_65 : decode cX6_pastHand 65 = .ok (.goto (-38), 3) := by decide +kernel
theorem dX6_pastHand_68 : decode cX6_pastHand 68 = .ok (.iload 5, 2) := by decide +kernel
theorem dX6_pastHand_70 : decode cX6_pastHand 70 = .ok (.ireturn, 1) := by decide +kernel
theorem dX6_goings_0 : decode cX6_goings 0 = .ok (.aload_n 0, 1) := by decide +kernel
theorem dX6_goings_1 : decode cX6_goings 1 = .ok (.getfield 21, 3) := by decide +kernel
theorem dX6_goings_4 : decode cX6_goings 4 = .ok (.iload_n 1, 1) := by decide +kernel
theorem dX6_goings_5 : decode cX6_goings 5 = .ok (.invokevirtual 33, 3) := by decide +kernel
theorem dX6_goings_8 : decode cX6_goings 8 = .ok (.bipush 40, 2) := by decide +kernel
theorem dX6_goings_10 : decode cX6_goings 10 = .ok (.invokestatic 38, 3) := by decide +kernel
theorem dX6_goings_13 : decode cX6_goings 13 = .ok (.iconst 1, 1) := by decide +kernel
theorem dX6_goings_14 : decode cX6_goings 14 = .ok (.isub, 1) := by decide +kernel
theorem dX6_goings_15 : decode cX6_goings 15 = .ok (.istore_n 2, 1) := by decide +kernel
theorem dX6_goings_16 : decode cX6_goings 16 = .ok (.iload_n 2, 1) := by decide +kernel
theorem dX6_goings_17 : decode cX6_goings 17 = .ok (.ifCond .lt 42, 3) := by decide +kernel
theorem dX6_goings_20 : decode cX6_goings 20 = .ok (.iload_n 1, 1) := by decide +kernel
theorem dX6_goings_21 : decode cX6_goings 21 = .ok (.bipush 40, 2) := by decide +kernel
theorem dX6_goings_23 : decode cX6_goings 23 = .ok (.imul, 1) := by decide +kernel
theorem dX6_goings_24 : decode cX6_goings 24 = .ok (.iload_n 2, 1) := by decide +kernel
theorem dX6_goings_25 : decode cX6_goings 25 = .ok (.iadd, 1) := by decide +kernel
theorem dX6_goings_26 : decode cX6_goings 26 = .ok (.istore_n 3, 1) := by decide +kernel
theorem dX6_goings_27 : decode cX6_goings 27 = .ok (.iload_n 3, 1) := by decide +kernel
theorem dX6_goings_28 : decode cX6_goings 28 = .ok (.ifCond .lt 25, 3) := by decide +kernel
theorem dX6_goings_31 : decode cX6_goings 31 = .ok (.iload_n 3, 1) := by decide +kernel
theorem dX6_goings_32 : decode cX6_goings 32 = .ok (.sipush 800, 3) := by decide +kernel
theorem dX6_goings_35 : decode cX6_goings 35 = .ok (.if_icmp .ge 18, 3) := by decide +kernel
theorem dX6_goings_38 : decode cX6_goings 38 = .ok (.aload_n 0, 1) := by decide +kernel
theorem dX6_goings_39 : decode cX6_goings 39 = .ok (.getfield 15, 3) := by decide +kernel
theorem dX6_goings_42 : decode cX6_goings 42 = .ok (.iload_n 3, 1) := by decide +kernel
theorem dX6_goings_43 : decode cX6_goings 43 = .ok (.aload_n 0, 1) := by decide +kernel
theorem dX6_goings_44 : decode cX6_goings 44 = .ok (.iload_n 3, 1) := by decide +kernel
theorem dX6_goings_45 : decode cX6_goings 45 = .ok (.invokevirtual 74, 3) := by decide +kernel
theorem dX6_goings_48 : decode cX6_goings 48 = .ok (.iconst 2, 1) := by decide +kernel
theorem dX6_goings_49 : decode cX6_goings 49 = .ok (.invokestatic 38, 3) := by decide +kernel
theorem dX6_goings_52 : decode cX6_goings 52 = .ok (.iastore, 1) := by decide +kernel
theorem dX6_goings_53 : decode cX6_goings 53 = .ok (.iinc 2 (-1), 3) := by decide +kernel
theorem dX6_goings_56 : decode cX6_goings 56 = .ok (.goto (-40), 3) := by decide +kernel
theorem dX6_goings_59 : decode cX6_goings 59 = .ok (.aload_n 0, 1) := by decide +kernel
theorem dX6_goings_60 : decode cX6_goings 60 = .ok (.iload_n 1, 1) := by decide +kernel
theorem dX6_goings_61 : decode cX6_goings 61 = .ok (.bipush 40, 2) := by decide +kernel
theorem dX6_goings_63 : decode cX6_goings 63 = .ok (.imul, 1) := by decide +kernel
theorem dX6_goings_64 : decode cX6_goings 64 = .ok (.invokevirtual 77, 3) := by decide +kernel
theorem dX6_goings_67 : decode cX6_goings 67 = .ok (.ireturn, 1) := by decide +kernel
theorem dX6_counted_0 : decode cX6_counted 0 = .ok (.iload_n 1, 1) := by decide +kernel
theorem dX6_counted_1 : decode cX6_counted 1 = .ok (.ifCond .lt 19, 3) := by decide +kernel
theorem dX6_counted_4 : decode cX6_counted 4 = .ok (.iload_n 1, 1) := by decide +kernel
theorem dX6_counted_5 : decode cX6_counted 5 = .ok (.sipush 800, 3) := by decide +kernel
theorem dX6_counted_8 : decode cX6_counted 8 = .ok (.if_icmp .ge 12, 3) := by decide +kernel
theorem dX6_counted_11 : decode cX6_counted 11 = .ok (.aload_n 0, 1) := by decide +kernel
theorem dX6_counted_12 : decode cX6_counted 12 = .ok (.getfield 15, 3) := by decide +kernel
theorem dX6_counted_15 : decode cX6_counted 15 = .ok (.iload_n 1, 1) := by decide +kernel
theorem dX6_counted_16 : decode cX6_counted 16 = .ok (.iaload, 1) := by decide +kernel
theorem dX6_counted_17 : decode cX6_counted 17 = .ok (.goto 4, 3) := by decide +kernel
theorem dX6_counted_20 : decode cX6_counted 20 = .ok (.iconst 0, 1) := by decide +kernel
theorem dX6_counted_21 : decode cX6_counted 21 = .ok (.ireturn, 1) := by decide +kernel
theorem dX6_goingsOf_0 : decode cX6_goingsOf 0 = .ok (.aload_n 0, 1) := by decide +kernel
theorem dX6_goingsOf_1 : decode cX6_goingsOf 1 = .ok (.getfield 21, 3) := by decide +kernel
theorem dX6_goingsOf_4 : decode cX6_goingsOf 4 = .ok (.iload_n 1, 1) := by decide +kernel
theorem dX6_goingsOf_5 : decode cX6_goingsOf 5 = .ok (.invokevirtual 53, 3) := by decide +kernel
theorem dX6_goingsOf_8 : decode cX6_goingsOf 8 = .ok (.istore_n 2, 1) := by decide +kernel
theorem dX6_goingsOf_9 : decode cX6_goingsOf 9 = .ok (.aload_n 0, 1) := by decide +kernel
theorem dX6_goingsOf_10 : decode cX6_goingsOf 10 = .ok (.getfield 21, 3) := by decide +kernel
theorem dX6_goingsOf_13 : decode cX6_goingsOf 13 = .ok (.iload_n 2, 1) := by decide +kernel
theorem dX6_goingsOf_14 : decode cX6_goingsOf 14 = .ok (.invokevirtual 59, 3) := by decide +kernel
theorem dX6_goingsOf_17 : decode cX6_goingsOf 17 = .ok (.istore_n 3, 1) := by decide +kernel
theorem dX6_goingsOf_18 : decode cX6_goingsOf 18 = .ok (.aload_n 0, 1) := by decide +kernel
theorem dX6_goingsOf_19 : decode cX6_goingsOf 19 = .ok (.getfield 21, 3) := by decide +kernel
theorem dX6_goingsOf_22 : decode cX6_goingsOf 22 = .ok (.iload_n 1, 1) := by decide +kernel
theorem dX6_goingsOf_23 : decode cX6_goingsOf 23 = .ok (.invokevirtual 50, 3) := by decide +kernel
theorem dX6_goingsOf_26 : decode cX6_goingsOf 26 = .ok (.lookupswitch 157 #[(42, 90), (43, 90), (45, 90), (63, 102), (64, 143), (107, 135), (109, 90), (112, 129), (113, 129), (114, 129)], 90) := by decide +kernel
theorem dX6_goingsOf_116 : decode cX6_goingsOf 116 = .ok (.aload_n 0, 1) := by decide +kernel
theorem dX6_goingsOf_117 : decode cX6_goingsOf 117 = .ok (.iload_n 2, 1) := by decide +kernel
theorem dX6_goingsOf_118 : decode cX6_goingsOf 118 = .ok (.invokevirtual 77, 3) := by decide +kernel
theorem dX6_goingsOf_121 : decode cX6_goingsOf 121 = .ok (.aload_n 0, 1) := by decide +kernel
theorem dX6_goingsOf_122 : decode cX6_goingsOf 122 = .ok (.iload_n 3, 1) := by decide +kernel
theorem dX6_goingsOf_123 : decode cX6_goingsOf 123 = .ok (.invokevirtual 77, 3) := by decide +kernel
theorem dX6_goingsOf_126 : decode cX6_goingsOf 126 = .ok (.iadd, 1) := by decide +kernel
theorem dX6_goingsOf_127 : decode cX6_goingsOf 127 = .ok (.ireturn, 1) := by decide +kernel
theorem dX6_goingsOf_128 : decode cX6_goingsOf 128 = .ok (.aload_n 0, 1) := by decide +kernel
theorem dX6_goingsOf_129 : decode cX6_goingsOf 129 = .ok (.iload_n 2, 1) := by decide +kernel
theorem dX6_goingsOf_130 : decode cX6_goingsOf 130 = .ok (.invokevirtual 77, 3) := by decide +kernel
theorem dX6_goingsOf_133 : decode cX6_goingsOf 133 = .ok (.aload_n 0, 1) := by decide +kernel
theorem dX6_goingsOf_134 : decode cX6_goingsOf 134 = .ok (.iload_n 3, 1) := by decide +kernel
theorem dX6_goingsOf_135 : decode cX6_goingsOf 135 = .ok (.invokevirtual 77, 3) := by decide +kernel
theorem dX6_goingsOf_138 : decode cX6_goingsOf 138 = .ok (.aload_n 0, 1) := by decide +kernel
theorem dX6_goingsOf_139 : decode cX6_goingsOf 139 = .ok (.aload_n 0, 1) := by decide +kernel
theorem dX6_goingsOf_140 : decode cX6_goingsOf 140 = .ok (.getfield 21, 3) := by decide +kernel
theorem dX6_goingsOf_143 : decode cX6_goingsOf 143 = .ok (.iload_n 3, 1) := by decide +kernel
theorem dX6_goingsOf_144 : decode cX6_goingsOf 144 = .ok (.invokevirtual 59, 3) := by decide +kernel
theorem dX6_goingsOf_147 : decode cX6_goingsOf 147 = .ok (.invokevirtual 77, 3) := by decide +kernel
theorem dX6_goingsOf_150 : decode cX6_goingsOf 150 = .ok (.invokestatic 80, 3) := by decide +kernel
theorem dX6_goingsOf_153 : decode cX6_goingsOf 153 = .ok (.iadd, 1) := by decide +kernel
theorem dX6_goingsOf_154 : decode cX6_goingsOf 154 = .ok (.ireturn, 1) := by decide +kernel
theorem dX6_goingsOf_155 : decode cX6_goingsOf 155 = .ok (.aload_n 0, 1) := by decide +kernel
theorem dX6_goingsOf_156 : decode cX6_goingsOf 156 = .ok (.iload_n 2, 1) := by decide +kernel
theorem dX6_goingsOf_157 : decode cX6_goingsOf 157 = .ok (.invokevirtual 77, 3) := by decide +kernel
theorem dX6_goingsOf_160 : decode cX6_goingsOf 160 = .ok (.ireturn, 1) := by decide +kernel
theorem dX6_goingsOf_161 : decode cX6_goingsOf 161 = .ok (.aload_n 0, 1) := by decide +kernel
theorem dX6_goingsOf_162 : decode cX6_goingsOf 162 = .ok (.iload_n 2, 1) := by decide +kernel
theorem dX6_goingsOf_163 : decode cX6_goingsOf 163 = .ok (.invokevirtual 77, 3) := by decide +kernel
theorem dX6_goingsOf_166 : decode cX6_goingsOf 166 = .ok (.iconst 1, 1) := by decide +kernel
theorem dX6_goingsOf_167 : decode cX6_goingsOf 167 = .ok (.iadd, 1) := by decide +kernel
theorem dX6_goingsOf_168 : decode cX6_goingsOf 168 = .ok (.ireturn, 1) := by decide +kernel
theorem dX6_goingsOf_169 : decode cX6_goingsOf 169 = .ok (.aload_n 0, 1) := by decide +kernel
theorem dX6_goingsOf_170 : decode cX6_goingsOf 170 = .ok (.iload_n 2, 1) := by decide +kernel
theorem dX6_goingsOf_171 : decode cX6_goingsOf 171 = .ok (.invokevirtual 77, 3) := by decide +kernel
theorem dX6_goingsOf_174 : decode cX6_goingsOf 174 = .ok (.ifCond .le 7, 3) := by decide +kernel
theorem dX6_goingsOf_177 : decode cX6_goingsOf 177 = .ok (.iconst 2, 1) := by decide +kernel
theorem dX6_goingsOf_178 : decode cX6_goingsOf 178 = .ok (.goto 4, 3) := by decide +kernel
theorem dX6_goingsOf_181 : decode cX6_goingsOf 181 = .ok (.iconst 0, 1) := by decide +kernel
theorem dX6_goingsOf_182 : decode cX6_goingsOf 182 = .ok (.ireturn, 1) := by decide +kernel
theorem dX6_goingsOf_183 : decode cX6_goingsOf 183 = .ok (.iconst 0, 1) := by decide +kernel
theorem dX6_goingsOf_184 : decode cX6_goingsOf 184 = .ok (.ireturn, 1) := by decide +kernel
theorem dX7_init_0 : decode cX7_init 0 = .ok (.aload_n 0, 1) := by decide +kernel
theorem dX7_init_1 : decode cX7_init 1 = .ok (.invokespecial 3, 3) := by decide +kernel
theorem dX7_init_4 : decode cX7_init 4 = .ok (.aload_n 0, 1) := by decide +kernel
theorem dX7_init_5 : decode cX7_init 5 = .ok (.new 9, 3) := by decide +kernel
theorem dX7_init_8 : decode cX7_init 8 = .ok (.dup, 1) := by decide +kernel
theorem dX7_init_9 : decode cX7_init 9 = .ok (.invokespecial 11, 3) := by decide +kernel
theorem dX7_init_12 : decode cX7_init 12 = .ok (.putfield 12, 3) := by decide +kernel
theorem dX7_init_15 : decode cX7_init 15 = .ok (.aload_n 0, 1) := by decide +kernel
theorem dX7_init_16 : decode cX7_init 16 = .ok (.new 16, 3) := by decide +kernel
theorem dX7_init_19 : decode cX7_init 19 = .ok (.dup, 1) := by decide +kernel
theorem dX7_init_20 : decode cX7_init 20 = .ok (.invokespecial 18, 3) := by decide +kernel
theorem dX7_init_23 : decode cX7_init 23 = .ok (.putfield 19, 3) := by decide +kernel
theorem dX7_init_26 : decode cX7_init 26 = .ok (.aload_n 0, 1) := by decide +kernel
theorem dX7_init_27 : decode cX7_init 27 = .ok (.new 23, 3) := by decide +kernel
theorem dX7_init_30 : decode cX7_init 30 = .ok (.dup, 1) := by decide +kernel
theorem dX7_init_31 : decode cX7_init 31 = .ok (.invokespecial 25, 3) := by decide +kernel
theorem dX7_init_34 : decode cX7_init 34 = .ok (.putfield 26, 3) := by decide +kernel
theorem dX7_init_37 : decode cX7_init 37 = .ok (.aload_n 0, 1) := by decide +kernel
theorem dX7_init_38 : decode cX7_init 38 = .ok (.new 23, 3) := by decide +kernel
theorem dX7_init_41 : decode cX7_init 41 = .ok (.dup, 1) := by decide +kernel
theorem dX7_init_42 : decode cX7_init 42 = .ok (.invokespecial 25, 3) := by decide +kernel
theorem dX7_init_45 : decode cX7_init 45 = .ok (.putfield 30, 3) := by decide +kernel
theorem dX7_init_48 : decode cX7_init 48 = .ok (.aload_n 0, 1) := by decide +kernel
theorem dX7_init_49 : decode cX7_init 49 = .ok (.new 23, 3) := by decide +kernel
theorem dX7_init_52 : decode cX7_init 52 = .ok (.dup, 1) := by decide +kernel
theorem dX7_init_53 : decode cX7_init 53 = .ok (.invokespecial 25, 3) := by decide +kernel
theorem dX7_init_56 : decode cX7_init 56 = .ok (.putfield 33, 3) := by decide +kernel
theorem dX7_init_59 : decode cX7_init 59 = .ok (.aload_n 0, 1) := by decide +kernel
theorem dX7_init_60 : decode cX7_init 60 = .ok (.new 36, 3) := by decide +kernel
theorem dX7_init_63 : decode cX7_init 63 = .ok (.dup, 1) := by decide +kernel
theorem dX7_init_64 : decode cX7_init 64 = .ok (.aload_n 0, 1) := by decide +kernel
theorem dX7_init_65 : decode cX7_init 65 = .ok (.getfield 19, 3) := by decide +kernel
theorem dX7_init_68 : decode cX7_init 68 = .ok (.aload_n 0, 1) := by decide +kernel
theorem dX7_init_69 : decode cX7_init 69 = .ok (.getfield 26, 3) := by decide +kernel
theorem dX7_init_72 : decode cX7_init 72 = .ok (.invokespecial 38, 3) := by decide +kernel
theorem dX7_init_75 : decode cX7_init 75 = .ok (.putfield 41, 3) := by decide +kernel
theorem dX7_init_78 : decode cX7_init 78 = .ok (.aload_n 0, 1) := by decide +kernel
theorem dX7_init_79 : decode cX7_init 79 = .ok (.new 45, 3) := by decide +kernel
theorem dX7_init_82 : decode cX7_init 82 = .ok (.dup, 1) := by decide +kernel
theorem dX7_init_83 : decode cX7_init 83 = .ok (.aload_n 0, 1) := by decide +kernel
theorem dX7_init_84 : decode cX7_init 84 = .ok (.getfield 19, 3) := by decide +kernel
theorem dX7_init_87 : decode cX7_init 87 = .ok (.invokespecial 47, 3) := by decide +kernel
theorem dX7_init_90 : decode cX7_init 90 = .ok (.putfield 50, 3) := by decide +kernel
theorem dX7_init_93 : decode cX7_init 93 = .ok (.iconst 0, 1) := by decide +kernel
theorem dX7_init_94 : decode cX7_init 94 = .ok (.istore_n 1, 1) := by decide +kernel
theorem dX7_init_95 : decode cX7_init 95 = .ok (.iload_n 1, 1) := by decide +kernel
theorem dX7_init_96 : decode cX7_init 96 = .ok (.iconst 4, 1) := by decide +kernel
theorem dX7_init_97 : decode cX7_init 97 = .ok (.if_icmp .ge 17, 3) := by decide +kernel
theorem dX7_init_100 : decode cX7_init 100 = .ok (.aload_n 0, 1) := by decide +kernel
theorem dX7_init_101 : decode cX7_init 101 = .ok (.getfield 19, 3) := by decide +kernel
theorem dX7_init_104 : decode cX7_init 104 = .ok (.iload_n 1, 1) := by decide +kernel
theorem dX7_init_105 : decode cX7_init 105 = .ok (.invokevirtual 54, 3) := by decide +kernel
theorem dX7_init_108 : decode cX7_init 108 = .ok (.iinc 1 1, 3) := by decide +kernel
theorem dX7_init_111 : decode cX7_init 111 = .ok (.goto (-16), 3) := by decide +kernel
theorem dX7_init_114 : decode cX7_init 114 = .ok (.return_, 1) := by decide +kernel
theorem dX7_say_0 : decode cX7_say 0 = .ok (.iload_n 1, 1) := by decide +kernel
theorem dX7_say_1 : decode cX7_say 1 = .ok (.bipush 33, 2) := by decide +kernel
theorem dX7_say_3 : decode cX7_say 3 = .ok (.if_icmp .lt 9, 3) := by decide +kernel
theorem dX7_say_6 : decode cX7_say 6 = .ok (.iload_n 1, 1) := by decide +kernel
theorem dX7_say_7 : decode cX7_say 7 = .ok (.bipush 126, 2) := by decide +kernel
theorem dX7_say_9 : decode cX7_say 9 = .ok (.if_icmp .le 6, 3) := by decide +kernel
theorem dX7_say_12 : decode cX7_say 12 = .ok (.bipush (-2), 2) := by decide +kernel
theorem dX7_say_14 : decode cX7_say 14 = .ok (.ireturn, 1) := by decide +kernel
theorem dX7_say_15 : decode cX7_say 15 = .ok (.aload_n 0, 1) := by decide +kernel
theorem dX7_say_16 : decode cX7_say 16 = .ok (.getfield 12, 3) := by decide +kernel
theorem dX7_say_19 : decode cX7_say 19 = .ok (.iload_n 1, 1) := by decide +kernel
theorem dX7_say_20 : decode cX7_say 20 = .ok (.invokevirtual 58, 3) := by decide +kernel
theorem dX7_say_23 : decode cX7_say 23 = .ok (.ifCond .eq 13, 3) := by decide +kernel
theorem dX7_say_26 : decode cX7_say 26 = .ok (.aload_n 0, 1) := by decide +kernel
theorem dX7_say_27 : decode cX7_say 27 = .ok (.getfield 12, 3) := by decide +kernel
theorem dX7_say_30 : decode cX7_say 30 = .ok (.getfield 62, 3) := by decide +kernel
theorem dX7_say_33 : decode cX7_say 33 = .ok (.goto 5, 3) := by decide +kernel
theorem dX7_say_36 : decode cX7_say 36 = .ok (.bipush (-4), 2) := by decide +kernel
theorem dX7_say_38 : decode cX7_say 38 = .ok (.ireturn, 1) := by decide +kernel
theorem dX7_wipe_0 : decode cX7_wipe 0 = .ok (.aload_n 0, 1) := by decide +kernel
theorem dX7_wipe_1 : decode cX7_wipe 1 = .ok (.getfield 12, 3) := by decide +kernel
theorem dX7_wipe_4 : decode cX7_wipe 4 = .ok (.getfield 62, 3) := by decide +kernel
theorem dX7_wipe_7 : decode cX7_wipe 7 = .ok (.istore_n 1, 1) := by decide +kernel
theorem dX7_wipe_8 : decode cX7_wipe 8 = .ok (.aload_n 0, 1) := by decide +kernel
theorem dX7_wipe_9 : decode cX7_wipe 9 = .ok (.getfield 12, 3) := by decide +kernel
theorem dX7_wipe_12 : decode cX7_wipe 12 = .ok (.iconst 0, 1) := by decide +kernel
theorem dX7_wipe_13 : decode cX7_wipe 13 = .ok (.putfield 62, 3) := by decide +kernel
theorem dX7_wipe_16 : decode cX7_wipe 16 = .ok (.iload_n 1, 1) := by decide +kernel
theorem dX7_wipe_17 : decode cX7_wipe 17 = .ok (.ireturn, 1) := by decide +kernel
theorem dX7_fault_0 : decode cX7_fault 0 = .ok (.iload_n 1, 1) := by decide +kernel
theorem dX7_fault_1 : decode cX7_fault 1 = .ok (.ifCond .eq 11, 3) := by decide +kernel
theorem dX7_fault_4 : decode cX7_fault 4 = .ok (.iload_n 1, 1) := by decide +kernel
theorem dX7_fault_5 : decode cX7_fault 5 = .ok (.iconst 1, 1) := by decide +kernel
theorem dX7_fault_6 : decode cX7_fault 6 = .ok (.if_icmp .eq 6, 3) := by decide +kernel
theorem dX7_fault_9 : decode cX7_fault 9 = .ok (.bipush (-2), 2) := by decide +kernel
theorem dX7_fault_11 : decode cX7_fault 11 = .ok (.ireturn, 1) := by decide +kernel
theorem dX7_fault_12 : decode cX7_fault 12 = .ok (.aload_n 0, 1) := by decide +kernel
theorem dX7_fault_13 : decode cX7_fault 13 = .ok (.getfield 12, 3) := by decide +kernel
theorem dX7_fault_16 : decode cX7_fault 16 = .ok (.iload_n 1, 1) := by decide +kernel
theorem dX7_fault_17 : decode cX7_fault 17 = .ok (.iconst 1, 1) := by decide +kernel
theorem dX7_fault_18 : decode cX7_fault 18 = .ok (.if_icmp .ne 7, 3) := by decide +kernel
theorem dX7_fault_21 : decode cX7_fault 21 = .ok (.iconst 1, 1) := by decide +kernel
theorem dX7_fault_22 : decode cX7_fault 22 = .ok (.goto 4, 3) := by decide +kernel
theorem dX7_fault_25 : decode cX7_fault 25 = .ok (.iconst 0, 1) := by decide +kernel
theorem dX7_fault_26 : decode cX7_fault 26 = .ok (.invokevirtual 66, 3) := by decide +kernel
theorem dX7_fault_29 : decode cX7_fault 29 = .ok (.ireturn, 1) := by decide +kernel
theorem dX7_text_0 : decode cX7_text 0 = .ok (.iload_n 1, 1) := by decide +kernel
theorem dX7_text_1 : decode cX7_text 1 = .ok (.invokestatic 70, 3) := by decide +kernel
theorem dX7_text_4 : decode cX7_text 4 = .ok (.ifCond .eq 12, 3) := by decide +kernel
theorem dX7_text_7 : decode cX7_text 7 = .ok (.aload_n 0, 1) := by decide +kernel
theorem dX7_text_8 : decode cX7_text 8 = .ok (.iload_n 1, 1) := by decide +kernel
theorem dX7_text_9 : decode cX7_text 9 = .ok (.iconst 0, 1) := by decide +kernel
theorem dX7_text_10 : decode cX7_text 10 = .ok (.invokevirtual 73, 3) := by decide +kernel
theorem dX7_text_13 : decode cX7_text 13 = .ok (.goto 4, 3) := by decide +kernel
theorem dX7_text_16 : decode cX7_text 16 = .ok (.iconst (-1), 1) := by decide +kernel
theorem dX7_text_17 : decode cX7_text 17 = .ok (.ireturn, 1) := by decide +kernel
theorem dX7_clause_0 : decode cX7_clause 0 = .ok (.iload_n 1, 1) := by decide +kernel
theorem dX7_clause_1 : decode cX7_clause 1 = .ok (.iload_n 2, 1) := by decide +kernel
theorem dX7_clause_2 : decode cX7_clause 2 = .ok (.invokestatic 77, 3) := by decide +kernel
theorem dX7_clause_5 : decode cX7_clause 5 = .ok (.ifCond .eq 25, 3) := by decide +kernel
theorem dX7_clause_8 : decode cX7_clause 8 = .ok (.aload_n 0, 1) := by decide +kernel
theorem dX7_clause_9 : decode cX7_clause 9 = .ok (.iload_n 1, 1) := by decide +kernel
theorem dX7_clause_10 : decode cX7_clause 10 = .ok (.iload_n 2, 1) := by decide +kernel
theorem dX7_clause_11 : decode cX7_clause 11 = .ok (.invokestatic 81, 3) := by decide +kernel
theorem dX7_clause_14 : decode cX7_clause 14 = .ok (.iload_n 2, 1) := by decide +kernel
theorem dX7_clause_15 : decode cX7_clause 15 = .ok (.iconst 3, 1) := by decide +kernel
theorem dX7_clause_16 : decode cX7_clause 16 = .ok (.if_icmp .eq 7, 3) := by decide +kernel
theorem dX7_clause_19 : decode cX7_clause 19 = .ok (.iconst 1, 1) := by decide +kernel
theorem dX7_clause_20 : decode cX7_clause 20 = .ok (.goto 4, 3) := by decide +kernel
theorem dX7_clause_23 : decode cX7_clause 23 = .ok (.iconst 0, 1) := by decide +kernel
theorem dX7_clause_24 : decode cX7_clause 24 = .ok (.invokevirtual 73, 3) := by decide +kernel
theorem dX7_clause_27 : decode cX7_clause 27 = .ok (.goto 4, 3) := by decide +kernel
theorem dX7_clause_30 : decode cX7_clause 30 = .ok (.iconst (-1), 1) := by decide +kernel
theorem dX7_clause_31 : decode cX7_clause 31 = .ok (.ireturn, 1) := by decide +kernel
theorem dX7_drop_0 : decode cX7_drop 0 = .ok (.iload_n 1, 1) := by decide +kernel
theorem dX7_drop_1 : decode cX7_drop 1 = .ok (.iload_n 2, 1) := by decide +kernel
theorem dX7_drop_2 : decode cX7_drop 2 = .ok (.invokestatic 77, 3) := by decide +kernel
theorem dX7_drop_5 : decode cX7_drop 5 = .ok (.ifCond .ne 5, 3) := by decide +kernel
theorem dX7_drop_8 : decode cX7_drop 8 = .ok (.iconst (-1), 1) := by decide +kernel
theorem dX7_drop_9 : decode cX7_drop 9 = .ok (.ireturn, 1) := by decide +kernel
theorem dX7_drop_10 : decode cX7_drop 10 = .ok (.iload_n 1, 1) := by decide +kernel
theorem dX7_drop_11 : decode cX7_drop 11 = .ok (.iload_n 2, 1) := by decide +kernel
theorem dX7_drop_12 : decode cX7_drop 12 = .ok (.invokestatic 81, 3) := by decide +kernel
theorem dX7_drop_15 : decode cX7_drop 15 = .ok (.istore_n 3, 1) := by decide +kernel
theorem dX7_drop_16 : decode cX7_drop 16 = .ok (.aload_n 0, 1) := by decide +kernel
theorem dX7_drop_17 : decode cX7_drop 17 = .ok (.getfield 19, 3) := by decide +kernel
theorem dX7_drop_20 : decode cX7_drop 20 = .ok (.iload_n 3, 1) := by decide +kernel
theorem dX7_drop_21 : decode cX7_drop 21 = .ok (.invokevirtual 85, 3) := by decide +kernel
theorem dX7_drop_24 : decode cX7_drop 24 = .ok (.istore 4, 2) := by decide +kernel
theorem dX7_drop_26 : decode cX7_drop 26 = .ok (.iload 4, 2) := by decide +kernel
theorem dX7_drop_28 : decode cX7_drop 28 = .ok (.ifCond .ne 6, 3) := by decide +kernel
theorem dX7_drop_31 : decode cX7_drop 31 = .ok (.bipush (-5), 2) := by decide +kernel
theorem dX7_drop_33 : decode cX7_drop 33 = .ok (.ireturn, 1) := by decide +kernel
theorem dX7_drop_34 : decode cX7_drop 34 = .ok (.aload_n 0, 1) := by decide +kernel
theorem dX7_drop_35 : decode cX7_drop 35 = .ok (.getfield 19, 3) := by decide +kernel
theorem dX7_drop_38 : decode cX7_drop 38 = .ok (.iload_n 3, 1) := by decide +kernel
theorem dX7_drop_39 : decode cX7_drop 39 = .ok (.invokevirtual 88, 3) := by decide +kernel
theorem dX7_drop_42 : decode cX7_drop 42 = .ok (.iload 4, 2) := by decide +kernel
theorem dX7_drop_44 : decode cX7_drop 44 = .ok (.ireturn, 1) := by decide +kernel
theorem dX7_has_0 : decode cX7_has 0 = .ok (.iload_n 1, 1) := by decide +kernel
theorem dX7_has_1 : decode cX7_has 1 = .ok (.ifCond .lt 19, 3) := by decide +kernel
theorem dX7_has_4 : decode cX7_has 4 = .ok (.iload_n 1, 1) := by decide +kernel
theorem dX7_has_5 : decode cX7_has 5 = .ok (.iconst 4, 1) := by decide +kernel
theorem dX7_has_6 : decode cX7_has 6 = .ok (.if_icmp .ge 14, 3) := by decide +kernel
theorem dX7_has_9 : decode cX7_has 9 = .ok (.aload_n 0, 1) := by decide +kernel
theorem dX7_has_10 : decode cX7_has 10 = .ok (.getfield 19, 3) := by decide +kernel
theorem dX7_has_13 : decode cX7_has 13 = .ok (.iload_n 1, 1) := by decide +kernel
theorem dX7_has_14 : decode cX7_has 14 = .ok (.invokevirtual 91, 3) := by decide +kernel
theorem dX7_has_17 : decode cX7_has 17 = .ok (.goto 4, 3) := by decide +kernel
theorem dX7_has_20 : decode cX7_has 20 = .ok (.iconst (-1), 1) := by decide +kernel
theorem dX7_has_21 : decode cX7_has 21 = .ok (.ireturn, 1) := by decide +kernel
theorem dX7_reply_0 : decode cX7_reply 0 = .ok (.iload_n 1, 1) := by decide +kernel
theorem dX7_reply_1 : decode cX7_reply 1 = .ok (.invokestatic 94, 3) := by decide +kernel
theorem dX7_reply_4 : decode cX7_reply 4 = .ok (.ifCond .ne 6, 3) := by decide +kernel
theorem dX7_reply_7 : decode cX7_reply 7 = .ok (.bipush (-2), 2) := by decide +kernel
theorem dX7_reply_9 : decode cX7_reply 9 = .ok (.ireturn, 1) := by decide +kernel
theorem dX7_reply_10 : decode cX7_reply 10 = .ok (.aload_n 0, 1) := by decide +kernel
theorem dX7_reply_11 : decode cX7_reply 11 = .ok (.getfield 26, 3) := by decide +kernel
theorem dX7_reply_14 : decode cX7_reply 14 = .ok (.iload_n 1, 1) := by decide +kernel
theorem dX7_reply_15 : decode cX7_reply 15 = .ok (.invokevirtual 97, 3) := by decide +kernel
theorem dX7_reply_18 : decode cX7_reply 18 = .ok (.ifCond .eq 13, 3) := by decide +kernel
theorem dX7_reply_21 : decode cX7_reply 21 = .ok (.aload_n 0, 1) := by decide +kernel
theorem dX7_reply_22 : decode cX7_reply 22 = .ok (.getfield 26, 3) := by decide +kernel
theorem dX7_reply_25 : decode cX7_reply 25 = .ok (.getfield 98, 3) := by decide +kernel
theorem dX7_reply_28 : decode cX7_reply 28 = .ok (.goto 5, 3) := by decide +kernel
theorem dX7_reply_31 : decode cX7_reply 31 = .ok (.bipush (-4), 2) := by decide +kernel
theorem dX7_reply_33 : decode cX7_reply 33 = .ok (.ireturn, 1) := by decide +kernel
theorem dX7_mute_0 : decode cX7_mute 0 = .ok (.aload_n 0, 1) := by decide +kernel
theorem dX7_mute_1 : decode cX7_mute 1 = .ok (.getfield 26, 3) := by decide +kernel
theorem dX7_mute_4 : decode cX7_mute 4 = .ok (.getfield 98, 3) := by decide +kernel
theorem dX7_mute_7 : decode cX7_mute 7 = .ok (.istore_n 1, 1) := by decide +kernel
theorem dX7_mute_8 : decode cX7_mute 8 = .ok (.aload_n 0, 1) := by decide +kernel
theorem dX7_mute_9 : decode cX7_mute 9 = .ok (.getfield 26, 3) := by decide +kernel
theorem dX7_mute_12 : decode cX7_mute 12 = .ok (.iconst 0, 1) := by decide +kernel
theorem dX7_mute_13 : decode cX7_mute 13 = .ok (.invokevirtual 101, 3) := by decide +kernel
theorem dX7_mute_16 : decode cX7_mute 16 = .ok (.iload_n 1, 1) := by decide +kernel
theorem dX7_mute_17 : decode cX7_mute 17 = .ok (.ireturn, 1) := by decide +kernel
theorem dX7_run_0 : decode cX7_run 0 = .ok (.iload_n 1, 1) := by decide +kernel
theorem dX7_run_1 : decode cX7_run 1 = .ok (.invokestatic 70, 3) := by decide +kernel
theorem dX7_run_4 : decode cX7_run 4 = .ok (.ifCond .ne 5, 3) := by decide +kernel
theorem dX7_run_7 : decode cX7_run 7 = .ok (.iconst (-1), 1) := by decide +kernel
theorem dX7_run_8 : decode cX7_run 8 = .ok (.ireturn, 1) := by decide +kernel
theorem dX7_run_9 : decode cX7_run 9 = .ok (.iload_n 2, 1) := by decide +kernel
theorem dX7_run_10 : decode cX7_run 10 = .ok (.invokestatic 94, 3) := by decide +kernel
theorem dX7_run_13 : decode cX7_run 13 = .ok (.ifCond .eq 13, 3) := by decide +kernel
theorem dX7_run_16 : decode cX7_run 16 = .ok (.iload_n 3, 1) := by decide +kernel
theorem dX7_run_17 : decode cX7_run 17 = .ok (.ifCond .lt 9, 3) := by decide +kernel
theorem dX7_run_20 : decode cX7_run 20 = .ok (.iload_n 3, 1) := by decide +kernel
theorem dX7_run_21 : decode cX7_run 21 = .ok (.bipush 6, 2) := by decide +kernel
theorem dX7_run_23 : decode cX7_run 23 = .ok (.if_icmp .le 6, 3) := by decide +kernel
theorem dX7_run_26 : decode cX7_run 26 = .ok (.bipush (-2), 2) := by decide +kernel
theorem dX7_run_28 : decode cX7_run 28 = .ok (.ireturn, 1) := by decide +kernel
theorem dX7_run_29 : decode cX7_run 29 = .ok (.aload_n 0, 1) := by decide +kernel
theorem dX7_run_30 : decode cX7_run 30 = .ok (.getfield 41, 3) := by decide +kernel
theorem dX7_run_33 : decode cX7_run 33 = .ok (.iload_n 1, 1) := by decide +kernel
theorem dX7_run_34 : decode cX7_run 34 = .ok (.iload_n 2, 1) := by decide +kernel
theorem dX7_run_35 : decode cX7_run 35 = .ok (.aload_n 0, 1) := by decide +kernel
theorem dX7_run_36 : decode cX7_run 36 = .ok (.getfield 26, 3) := by decide +kernel
theorem dX7_run_39 : decode cX7_run 39 = .ok (.invokevirtual 104, 3) := by decide +kernel
theorem dX7_run_42 : decode cX7_run 42 = .ok (.aload_n 0, 1) := by decide +kernel
theorem dX7_run_43 : decode cX7_run 43 = .ok (.getfield 41, 3) := by decide +kernel
theorem dX7_run_46 : decode cX7_run 46 = .ok (.iload_n 3, 1) := by decide +kernel
theorem dX7_run_47 : decode cX7_run 47 = .ok (.invokevirtual 108, 3) := by decide +kernel
theorem dX7_run_50 : decode cX7_run 50 = .ok (.ireturn, 1) := by decide +kernel
theorem dX7_who_0 : decode cX7_who 0 = .ok (.iload_n 1, 1) := by decide +kernel
theorem dX7_who_1 : decode cX7_who 1 = .ok (.invokestatic 70, 3) := by decide +kernel
theorem dX7_who_4 : decode cX7_who 4 = .ok (.ifCond .ne 5, 3) := by decide +kernel
theorem dX7_who_7 : decode cX7_who 7 = .ok (.iconst (-1), 1) := by decide +kernel
theorem dX7_who_8 : decode cX7_who 8 = .ok (.ireturn, 1) := by decide +kernel
theorem dX7_who_9 : decode cX7_who 9 = .ok (.iload_n 2, 1) := by decide +kernel
theorem dX7_who_10 : decode cX7_who 10 = .ok (.invokestatic 94, 3) := by decide +kernel
theorem dX7_who_13 : decode cX7_who 13 = .ok (.ifCond .eq 14, 3) := by decide +kernel
theorem dX7_who_16 : decode cX7_who 16 = .ok (.iload_n 3, 1) := by decide +kernel
theorem dX7_who_17 : decode cX7_who 17 = .ok (.ifCond .lt 10, 3) := by decide +kernel
theorem dX7_who_20 : decode cX7_who 20 = .ok (.iload_n 3, 1) := by decide +kernel
theorem dX7_who_21 : decode cX7_who 21 = .ok (.sipush 200, 3) := by decide +kernel
theorem dX7_who_24 : decode cX7_who 24 = .ok (.if_icmp .lt 6, 3) := by decide +kernel
theorem dX7_who_27 : decode cX7_who 27 = .ok (.bipush (-2), 2) := by decide +kernel
theorem dX7_who_29 : decode cX7_who 29 = .ok (.ireturn, 1) := by decide +kernel
theorem dX7_who_30 : decode cX7_who 30 = .ok (.aload_n 0, 1) := by decide +kernel
theorem dX7_who_31 : decode cX7_who 31 = .ok (.getfield 41, 3) := by decide +kernel
theorem dX7_who_34 : decode cX7_who 34 = .ok (.iload_n 1, 1) := by decide +kernel
theorem dX7_who_35 : decode cX7_who 35 = .ok (.iload_n 2, 1) := by decide +kernel
theorem dX7_who_36 : decode cX7_who 36 = .ok (.aload_n 0, 1) := by decide +kernel
theorem dX7_who_37 : decode cX7_who 37 = .ok (.getfield 26, 3) := by decide +kernel
theorem dX7_who_40 : decode cX7_who 40 = .ok (.invokevirtual 104, 3) := by decide +kernel
theorem dX7_who_43 : decode cX7_who 43 = .ok (.aload_n 0, 1) := by decide +kernel
theorem dX7_who_44 : decode cX7_who 44 = .ok (.getfield 41, 3) := by decide +kernel
theorem dX7_who_47 : decode cX7_who 47 = .ok (.iload_n 3, 1) := by decide +kernel
theorem dX7_who_48 : decode cX7_who 48 = .ok (.invokevirtual 111, 3) := by decide +kernel
theorem dX7_who_51 : decode cX7_who 51 = .ok (.ireturn, 1) := by decide +kernel
theorem dX7_may_0 : decode cX7_may 0 = .ok (.iload_n 1, 1) := by decide +kernel
theorem dX7_may_1 : decode cX7_may 1 = .ok (.iconst (-1), 1) := by decide +kernel
theorem dX7_may_2 : decode cX7_may 2 = .ok (.if_icmp .ne 23, 3) := by decide +kernel
theorem dX7_may_5 : decode cX7_may 5 = .ok (.iload_n 2, 1) := by decide +kernel
theorem dX7_may_6 : decode cX7_may 6 = .ok (.invokestatic 70, 3) := by decide +kernel
theorem dX7_may_9 : decode cX7_may 9 = .ok (.ifCond .eq 14, 3) := by decide +kernel
theorem dX7_may_12 : decode cX7_may 12 = .ok (.aload_n 0, 1) := by decide +kernel
theorem dX7_may_13 : decode cX7_may 13 = .ok (.getfield 50, 3) := by decide +kernel
theorem dX7_may_16 : decode cX7_may 16 = .ok (.iload_n 2, 1) := by decide +kernel
theorem dX7_may_17 : decode cX7_may 17 = .ok (.invokevirtual 114, 3) := by decide +kernel
theorem dX7_may_20 : decode cX7_may 20 = .ok (.goto 4, 3) := by decide +kernel
theorem dX7_may_23 : decode cX7_may 23 = .ok (.iconst (-1), 1) := by decide +kernel
theorem dX7_may_24 : decode cX7_may 24 = .ok (.ireturn, 1) := by decide +kernel
theorem dX7_may_25 : decode cX7_may 25 = .ok (.aload_n 0, 1) := by decide +kernel
theorem dX7_may_26 : decode cX7_may 26 = .ok (.iload_n 1, 1) := by decide +kernel
theorem dX7_may_27 : decode cX7_may 27 = .ok (.iload_n 2, 1) := by decide +kernel
theorem dX7_may_28 : decode cX7_may 28 = .ok (.invokevirtual 117, 3) := by decide +kernel
theorem dX7_may_31 : decode cX7_may 31 = .ok (.ifCond .eq 18, 3) := by decide +kernel
theorem dX7_may_34 : decode cX7_may 34 = .ok (.aload_n 0, 1) := by decide +kernel
theorem dX7_may_35 : decode cX7_may 35 = .ok (.getfield 50, 3) := by decide +kernel
theorem dX7_may_38 : decode cX7_may 38 = .ok (.iload_n 1, 1) := by decide +kernel
theorem dX7_may_39 : decode cX7_may 39 = .ok (.iload_n 2, 1) := by decide +kernel
theorem dX7_may_40 : decode cX7_may 40 = .ok (.invokestatic 81, 3) := by decide +kernel
theorem dX7_may_43 : decode cX7_may 43 = .ok (.invokevirtual 114, 3) := by decide +kernel
theorem dX7_may_46 : decode cX7_may 46 = .ok (.goto 4, 3) := by decide +kernel
theorem dX7_may_49 : decode cX7_may 49 = .ok (.iconst (-1), 1) := by decide +kernel
theorem dX7_may_50 : decode cX7_may 50 = .ok (.ireturn, 1) := by decide +kernel
theorem dX7_often_0 : decode cX7_often 0 = .ok (.aload_n 0, 1) := by decide +kernel
theorem dX7_often_1 : decode cX7_often 1 = .ok (.iload_n 1, 1) := by decide +kernel
theorem dX7_often_2 : decode cX7_often 2 = .ok (.iload_n 2, 1) := by decide +kernel
theorem dX7_often_3 : decode cX7_often 3 = .ok (.invokevirtual 117, 3) := by decide +kernel
theorem dX7_often_6 : decode cX7_often 6 = .ok (.ifCond .eq 18, 3) := by decide +kernel
theorem dX7_often_9 : decode cX7_often 9 = .ok (.aload_n 0, 1) := by decide +kernel
theorem dX7_often_10 : decode cX7_often 10 = .ok (.getfield 50, 3) := by decide +kernel
theorem dX7_often_13 : decode cX7_often 13 = .ok (.iload_n 1, 1) := by decide +kernel
theorem dX7_often_14 : decode cX7_often 14 = .ok (.iload_n 2, 1) := by decide +kernel
theorem dX7_often_15 : decode cX7_often 15 = .ok (.invokestatic 81, 3) := by decide +kernel
theorem dX7_often_18 : decode cX7_often 18 = .ok (.invokevirtual 120, 3) := by decide +kernel
theorem dX7_often_21 : decode cX7_often 21 = .ok (.goto 4, 3) := by decide +kernel
theorem dX7_often_24 : decode cX7_often 24 = .ok (.iconst (-1), 1) := by decide +kernel
theorem dX7_often_25 : decode cX7_often 25 = .ok (.ireturn, 1) := by decide +kernel
theorem dX7_all_0 : decode cX7_all 0 = .ok (.iload_n 1, 1) := by decide +kernel
theorem dX7_all_1 : decode cX7_all 1 = .ok (.invokestatic 70, 3) := by decide +kernel
theorem dX7_all_4 : decode cX7_all 4 = .ok (.ifCond .ne 5, 3) := by decide +kernel
theorem dX7_all_7 : decode cX7_all 7 = .ok (.iconst (-1), 1) := by decide +kernel
theorem dX7_all_8 : decode cX7_all 8 = .ok (.ireturn, 1) := by decide +kernel
theorem dX7_all_9 : decode cX7_all 9 = .ok (.iload_n 2, 1) := by decide +kernel
theorem dX7_all_10 : decode cX7_all 10 = .ok (.invokestatic 94, 3) := by decide +kernel
theorem dX7_all_13 : decode cX7_all 13 = .ok (.ifCond .eq 12, 3) := by decide +kernel
theorem dX7_all_16 : decode cX7_all 16 = .ok (.iload_n 3, 1) := by decide +kernel
theorem dX7_all_17 : decode cX7_all 17 = .ok (.iload 4, 2) := by decide +kernel
theorem dX7_all_19 : decode cX7_all 19 = .ok (.invokestatic 123, 3) := by decide +kernel
theorem dX7_all_22 : decode cX7_all 22 = .ok (.ifCond .ne 6, 3) := by decide +kernel
theorem dX7_all_25 : decode cX7_all 25 = .ok (.bipush (-2), 2) := by decide +kernel
theorem dX7_all_27 : decode cX7_all 27 = .ok (.ireturn, 1) := by decide +kernel
theorem dX7_all_28 : decode cX7_all 28 = .ok (.aload_n 0, 1) := by decide +kernel
theorem dX7_all_29 : decode cX7_all 29 = .ok (.iload_n 1, 1) := by decide +kernel
theorem dX7_all_30 : decode cX7_all 30 = .ok (.iload_n 2, 1) := by decide +kernel
theorem dX7_all_31 : decode cX7_all 31 = .ok (.iload_n 3, 1) := by decide +kernel
theorem dX7_all_32 : decode cX7_all 32 = .ok (.iload 4, 2) := by decide +kernel
theorem dX7_all_34 : decode cX7_all 34 = .ok (.iconst (-1), 1) := by decide +kernel
theorem dX7_all_35 : decode cX7_all 35 = .ok (.invokevirtual 126, 3) := by decide +kernel
theorem dX7_all_38 : decode cX7_all 38 = .ok (.ireturn, 1) := by decide +kernel
theorem dX7_row_0 : decode cX7_row 0 = .ok (.iload_n 1, 1) := by decide +kernel
theorem dX7_row_1 : decode cX7_row 1 = .ok (.invokestatic 70, 3) := by decide +kernel
theorem dX7_row_4 : decode cX7_row 4 = .ok (.ifCond .ne 5, 3) := by decide +kernel
theorem dX7_row_7 : decode cX7_row 7 = .ok (.iconst (-1), 1) := by decide +kernel
theorem dX7_row_8 : decode cX7_row 8 = .ok (.ireturn, 1) := by decide +kernel
theorem dX7_row_9 : decode cX7_row 9 = .ok (.iload_n 2, 1) := by decide +kernel
theorem dX7_row_10 : decode cX7_row 10 = .ok (.invokestatic 94, 3) := by decide +kernel
theorem dX7_row_13 : decode cX7_row 13 = .ok (.ifCond .eq 24, 3) := by decide +kernel
theorem dX7_row_16 : decode cX7_row 16 = .ok (.iload_n 3, 1) := by decide +kernel
theorem dX7_row_17 : decode cX7_row 17 = .ok (.iload 4, 2) := by decide +kernel
theorem dX7_row_19 : decode cX7_row 19 = .ok (.invokestatic 123, 3) := by decide +kernel
theorem dX7_row_22 : decode cX7_row 22 = .ok (.ifCond .eq 15, 3) := by decide +kernel
theorem dX7_row_25 : decode cX7_row 25 = .ok (.iload 5, 2) := by decide +kernel
theorem dX7_row_27 : decode cX7_row 27 = .ok (.ifCond .lt 10, 3) := by decide +kernel
theorem dX7_row_30 : decode cX7_row 30 = .ok (.iload 5, 2) := by decide +kernel
theorem dX7_row_32 : decode cX7_row 32 = .ok (.bipush 9, 2) := by decide +kernel
theorem dX7_row_34 : decode cX7_row 34 = .ok (.if_icmp .le 6, 3) := by decide +kernel
theorem dX7_row_37 : decode cX7_row 37 = .ok (.bipush (-2), 2) := by decide +kernel
theorem dX7_row_39 : decode cX7_row 39 = .ok (.ireturn, 1) := by decide +kernel
theorem dX7_row_40 : decode cX7_row 40 = .ok (.aload_n 0, 1) := by decide +kernel
theorem dX7_row_41 : decode cX7_row 41 = .ok (.iload_n 1, 1) := by decide +kernel
theorem dX7_row_42 : decode cX7_row 42 = .ok (.iload_n 2, 1) := by decide +kernel
theorem dX7_row_43 : decode cX7_row 43 = .ok (.iload_n 3, 1) := by decide +kernel
theorem dX7_row_44 : decode cX7_row 44 = .ok (.iload 4, 2) := by decide +kernel
theorem dX7_row_46 : decode cX7_row 46 = .ok (.iload 5, 2) := by decide +kernel
theorem dX7_row_48 : decode cX7_row 48 = .ok (.invokevirtual 126, 3) := by decide +kernel
theorem dX7_row_51 : decode cX7_row 51 = .ok (.istore 7, 2) := by decide +kernel
theorem dX7_row_53 : decode cX7_row 53 = .ok (.iload 7, 2) := by decide +kernel
theorem dX7_row_55 : decode cX7_row 55 = .ok (.iload 5, 2) := by decide +kernel
theorem dX7_row_57 : decode cX7_row 57 = .ok (.ishr, 1) := by decide +kernel
theorem dX7_row_58 : decode cX7_row 58 = .ok (.iconst 1, 1) := by decide +kernel
theorem dX7_row_59 : decode cX7_row 59 = .ok (.iand, 1) := by decide +kernel
theorem dX7_row_60 : decode cX7_row 60 = .ok (.ifCond .ne 8, 3) := by decide +kernel
theorem dX7_row_63 : decode cX7_row 63 = .ok (.bipush (-5), 2) := by decide +kernel
theorem dX7_row_65 : decode cX7_row 65 = .ok (.goto 12, 3) := by decide +kernel
theorem dX7_row_68 : decode cX7_row 68 = .ok (.aload_n 0, 1) := by decide +kernel
theorem dX7_row_69 : decode cX7_row 69 = .ok (.getfield 33, 3) := by decide +kernel
theorem dX7_row_72 : decode cX7_row 72 = .ok (.iload 6, 2) := by decide +kernel
theorem dX7_row_74 : decode cX7_row 74 = .ok (.invokevirtual 130, 3) := by decide +kernel
theorem dX7_row_77 : decode cX7_row 77 = .ok (.ireturn, 1) := by decide +kernel
theorem dX7_apart_0 : decode cX7_apart 0 = .ok (.iload_n 1, 1) := by decide +kernel
theorem dX7_apart_1 : decode cX7_apart 1 = .ok (.invokestatic 70, 3) := by decide +kernel
theorem dX7_apart_4 : decode cX7_apart 4 = .ok (.ifCond .eq 10, 3) := by decide +kernel
theorem dX7_apart_7 : decode cX7_apart 7 = .ok (.iload_n 3, 1) := by decide +kernel
theorem dX7_apart_8 : decode cX7_apart 8 = .ok (.invokestatic 70, 3) := by decide +kernel
theorem dX7_apart_11 : decode cX7_apart 11 = .ok (.ifCond .ne 5, 3) := by decide +kernel
theorem dX7_apart_14 : decode cX7_apart 14 = .ok (.iconst (-1), 1) := by decide +kernel
theorem dX7_apart_15 : decode cX7_apart 15 = .ok (.ireturn, 1) := by decide +kernel
theorem dX7_apart_16 : decode cX7_apart 16 = .ok (.iload_n 2, 1) := by decide +kernel
theorem dX7_apart_17 : decode cX7_apart 17 = .ok (.invokestatic 94, 3) := by decide +kernel
theorem dX7_apart_20 : decode cX7_apart 20 = .ok (.ifCond .eq 21, 3) := by decide +kernel
theorem dX7_apart_23 : decode cX7_apart 23 = .ok (.iload 4, 2) := by decide +kernel
theorem dX7_apart_25 : decode cX7_apart 25 = .ok (.invokestatic 94, 3) := by decide +kernel
theorem dX7_apart_28 : decode cX7_apart 28 = .ok (.ifCond .eq 13, 3) := by decide +kernel
theorem dX7_apart_31 : decode cX7_apart 31 = .ok (.iload 5, 2) := by decide +kernel
theorem dX7_apart_33 : decode cX7_apart 33 = .ok (.iload 6, 2) := by decide +kernel
theorem dX7_apart_35 : decode cX7_apart 35 = .ok (.invokestatic 123, 3) := by decide +kernel
theorem dX7_apart_38 : decode cX7_apart 38 = .ok (.ifCond .ne 6, 3) := by decide +kernel
theorem dX7_apart_41 : decode cX7_apart 41 = .ok (.bipush (-2), 2) := by decide +kernel
theorem dX7_apart_43 : decode cX7_apart 43 = .ok (.ireturn, 1) := by decide +kernel
theorem dX7_apart_44 : decode cX7_apart 44 = .ok (.iconst 0, 1) := by decide +kernel
theorem dX7_apart_45 : decode cX7_apart 45 = .ok (.istore 8, 2) := by decide +kernel
theorem dX7_apart_47 : decode cX7_apart 47 = .ok (.iload 8, 2) := by decide +kernel
theorem dX7_apart_49 : decode cX7_apart 49 = .ok (.iload 5, 2) := by decide +kernel
theorem dX7_apart_51 : decode cX7_apart 51 = .ok (.if_icmp .gt 42, 3) := by decide +kernel
theorem dX7_apart_54 : decode cX7_apart 54 = .ok (.aload_n 0, 1) := by decide +kernel
theorem dX7_apart_55 : decode cX7_apart 55 = .ok (.getfield 30, 3) := by decide +kernel
theorem dX7_apart_58 : decode cX7_apart 58 = .ok (.iload 8, 2) := by decide +kernel
theorem dX7_apart_60 : decode cX7_apart 60 = .ok (.invokevirtual 101, 3) := by decide +kernel
theorem dX7_apart_63 : decode cX7_apart 63 = .ok (.aload_n 0, 1) := by decide +kernel
theorem dX7_apart_64 : decode cX7_apart 64 = .ok (.iload_n 1, 1) := by decide +kernel
theorem dX7_apart_65 : decode cX7_apart 65 = .ok (.iload_n 2, 1) := by decide +kernel
theorem dX7_apart_66 : decode cX7_apart 66 = .ok (.iload_n 3, 1) := by decide +kernel
theorem dX7_apart_67 : decode cX7_apart 67 = .ok (.iload 4, 2) := by decide +kernel
theorem dX7_apart_69 : decode cX7_apart 69 = .ok (.iload 6, 2) := by decide +kernel
theorem dX7_apart_71 : decode cX7_apart 71 = .ok (.invokevirtual 131, 3) := by decide +kernel
theorem dX7_apart_74 : decode cX7_apart 74 = .ok (.ifCond .eq 13, 3) := by decide +kernel
theorem dX7_apart_77 : decode cX7_apart 77 = .ok (.aload_n 0, 1) := by decide +kernel
theorem dX7_apart_78 : decode cX7_apart 78 = .ok (.getfield 30, 3) := by decide +kernel
theorem dX7_apart_81 : decode cX7_apart 81 = .ok (.iload 7, 2) := by decide +kernel
theorem dX7_apart_83 : decode cX7_apart 83 = .ok (.invokevirtual 130, 3) := by decide +kernel
theorem dX7_apart_86 : decode cX7_apart 86 = .ok (.ireturn, 1) := by decide +kernel
theorem dX7_apart_87 : decode cX7_apart 87 = .ok (.iinc 8 1, 3) := by decide +kernel
theorem dX7_apart_90 : decode cX7_apart 90 = .ok (.goto (-43), 3) := by decide +kernel
theorem dX7_apart_93 : decode cX7_apart 93 = .ok (.bipush (-6), 2) := by decide +kernel
theorem dX7_apart_95 : decode cX7_apart 95 = .ok (.ireturn, 1) := by decide +kernel
theorem dX7_told_0 : decode cX7_told 0 = .ok (.iload_n 1, 1) := by decide +kernel
theorem dX7_told_1 : decode cX7_told 1 = .ok (.ifCond .ne 11, 3) := by decide +kernel
theorem dX7_told_4 : decode cX7_told 4 = .ok (.aload_n 0, 1) := by decide +kernel
theorem dX7_told_5 : decode cX7_told 5 = .ok (.getfield 12, 3) := by decide +kernel
theorem dX7_told_8 : decode cX7_told 8 = .ok (.getfield 62, 3) := by decide +kernel
theorem dX7_told_11 : decode cX7_told 11 = .ok (.ireturn, 1) := by decide +kernel
theorem dX7_told_12 : decode cX7_told 12 = .ok (.iload_n 1, 1) := by decide +kernel
theorem dX7_told_13 : decode cX7_told 13 = .ok (.iconst 1, 1) := by decide +kernel
theorem dX7_told_14 : decode cX7_told 14 = .ok (.if_icmp .ne 11, 3) := by decide +kernel
theorem dX7_told_17 : decode cX7_told 17 = .ok (.aload_n 0, 1) := by decide +kernel
theorem dX7_told_18 : decode cX7_told 18 = .ok (.getfield 26, 3) := by decide +kernel
theorem dX7_told_21 : decode cX7_told 21 = .ok (.getfield 98, 3) := by decide +kernel
theorem dX7_told_24 : decode cX7_told 24 = .ok (.ireturn, 1) := by decide +kernel
theorem dX7_told_25 : decode cX7_told 25 = .ok (.iload_n 1, 1) := by decide +kernel
theorem dX7_told_26 : decode cX7_told 26 = .ok (.bipush 10, 2) := by decide +kernel
theorem dX7_told_28 : decode cX7_told 28 = .ok (.if_icmp .lt 23, 3) := by decide +kernel
theorem dX7_told_31 : decode cX7_told 31 = .ok (.iload_n 1, 1) := by decide +kernel
theorem dX7_told_32 : decode cX7_told 32 = .ok (.bipush 14, 2) := by decide +kernel
theorem dX7_told_34 : decode cX7_told 34 = .ok (.if_icmp .ge 17, 3) := by decide +kernel
theorem dX7_told_37 : decode cX7_told 37 = .ok (.aload_n 0, 1) := by decide +kernel
theorem dX7_told_38 : decode cX7_told 38 = .ok (.getfield 19, 3) := by decide +kernel
theorem dX7_told_41 : decode cX7_told 41 = .ok (.iload_n 1, 1) := by decide +kernel
theorem dX7_told_42 : decode cX7_told 42 = .ok (.bipush 10, 2) := by decide +kernel
theorem dX7_told_44 : decode cX7_told 44 = .ok (.isub, 1) := by decide +kernel
theorem dX7_told_45 : decode cX7_told 45 = .ok (.invokevirtual 85, 3) := by decide +kernel
theorem dX7_told_48 : decode cX7_told 48 = .ok (.goto 5, 3) := by decide +kernel
theorem dX7_told_51 : decode cX7_told 51 = .ok (.bipush (-2), 2) := by decide +kernel
theorem dX7_told_53 : decode cX7_told 53 = .ok (.ireturn, 1) := by decide +kernel
theorem dX7_isText_0 : decode cX7_isText 0 = .ok (.iload_n 0, 1) := by decide +kernel
theorem dX7_isText_1 : decode cX7_isText 1 = .ok (.ifCond .lt 12, 3) := by decide +kernel
theorem dX7_isText_4 : decode cX7_isText 4 = .ok (.iload_n 0, 1) := by decide +kernel
theorem dX7_isText_5 : decode cX7_isText 5 = .ok (.iconst 4, 1) := by decide +kernel
theorem dX7_isText_6 : decode cX7_isText 6 = .ok (.if_icmp .ge 7, 3) := by decide +kernel
theorem dX7_isText_9 : decode cX7_isText 9 = .ok (.iconst 1, 1) := by decide +kernel
theorem dX7_isText_10 : decode cX7_isText 10 = .ok (.goto 4, 3) := by decide +kernel
theorem dX7_isText_13 : decode cX7_isText 13 = .ok (.iconst 0, 1) := by decide +kernel
theorem dX7_isText_14 : decode cX7_isText 14 = .ok (.ireturn, 1) := by decide +kernel
theorem dX7_isNumber_0 : decode cX7_isNumber 0 = .ok (.iload_n 0, 1) := by decide +kernel
theorem dX7_isNumber_1 : decode cX7_isNumber 1 = .ok (.ifCond .lt 13, 3) := by decide +kernel
theorem dX7_isNumber_4 : decode cX7_isNumber 4 = .ok (.iload_n 0, 1) := by decide +kernel
theorem dX7_isNumber_5 : decode cX7_isNumber 5 = .ok (.bipush 8, 2) := by decide +kernel
theorem dX7_isNumber_7 : decode cX7_isNumber 7 = .ok (.if_icmp .ge 7, 3) := by decide +kernel
theorem dX7_isNumber_10 : decode cX7_isNumber 10 = .ok (.iconst 1, 1) := by decide +kernel
theorem dX7_isNumber_11 : decode cX7_isNumber 11 = .ok (.goto 4, 3) := by decide +kernel
theorem dX7_isNumber_14 : decode cX7_isNumber 14 = .ok (.iconst 0, 1) := by decide +kernel
theorem dX7_isNumber_15 : decode cX7_isNumber 15 = .ok (.ireturn, 1) := by decide +kernel
theorem dX7_isPart_0 : decode cX7_isPart 0 = .ok (.iload_n 0, 1) := by decide +kernel
theorem dX7_isPart_1 : decode cX7_isPart 1 = .ok (.ifCond .lt 21, 3) := by decide +kernel
theorem dX7_isPart_4 : decode cX7_isPart 4 = .ok (.iload_n 0, 1) := by decide +kernel
theorem dX7_isPart_5 : decode cX7_isPart 5 = .ok (.iconst 4, 1) := by decide +kernel
theorem dX7_isPart_6 : decode cX7_isPart 6 = .ok (.if_icmp .ge 16, 3) := by decide +kernel
theorem dX7_isPart_9 : decode cX7_isPart 9 = .ok (.iload_n 1, 1) := by decide +kernel
theorem dX7_isPart_10 : decode cX7_isPart 10 = .ok (.ifCond .lt 12, 3) := by decide +kernel
theorem dX7_isPart_13 : decode cX7_isPart 13 = .ok (.iload_n 1, 1) := by decide +kernel
theorem dX7_isPart_14 : decode cX7_isPart 14 = .ok (.iconst 4, 1) := by decide +kernel
theorem dX7_isPart_15 : decode cX7_isPart 15 = .ok (.if_icmp .ge 7, 3) := by decide +kernel
theorem dX7_isPart_18 : decode cX7_isPart 18 = .ok (.iconst 1, 1) := by decide +kernel
theorem dX7_isPart_19 : decode cX7_isPart 19 = .ok (.goto 4, 3) := by decide +kernel
theorem dX7_isPart_22 : decode cX7_isPart 22 = .ok (.iconst 0, 1) := by decide +kernel
theorem dX7_isPart_23 : decode cX7_isPart 23 = .ok (.ireturn, 1) := by decide +kernel
theorem dX7_areRows_0 : decode cX7_areRows 0 = .ok (.iload_n 0, 1) := by decide +kernel
theorem dX7_areRows_1 : decode cX7_areRows 1 = .ok (.ifCond .lt 21, 3) := by decide +kernel
theorem dX7_areRows_4 : decode cX7_areRows 4 = .ok (.iload_n 0, 1) := by decide +kernel
theorem dX7_areRows_5 : decode cX7_areRows 5 = .ok (.iconst 4, 1) := by decide +kernel
theorem dX7_areRows_6 : decode cX7_areRows 6 = .ok (.if_icmp .gt 16, 3) := by decide +kernel
theorem dX7_areRows_9 : decode cX7_areRows 9 = .ok (.iload_n 1, 1) := by decide +kernel
theorem dX7_areRows_10 : decode cX7_areRows 10 = .ok (.ifCond .lt 12, 3) := by decide +kernel
theorem dX7_areRows_13 : decode cX7_areRows 13 = .ok (.iload_n 1, 1) := by decide +kernel
theorem dX7_areRows_14 : decode cX7_areRows 14 = .ok (.iconst 2, 1) := by decide +kernel
theorem dX7_areRows_15 : decode cX7_areRows 15 = .ok (.if_icmp .gt 7, 3) := by decide +kernel
theorem dX7_areRows_18 : decode cX7_areRows 18 = .ok (.iconst 1, 1) := by decide +kernel
theorem dX7_areRows_19 : decode cX7_areRows 19 = .ok (.goto 4, 3) := by decide +kernel
theorem dX7_areRows_22 : decode cX7_areRows 22 = .ok (.iconst 0, 1) := by decide +kernel
theorem dX7_areRows_23 : decode cX7_areRows 23 = .ok (.ireturn, 1) := by decide +kernel
theorem dX7_isClause_0 : decode cX7_isClause 0 = .ok (.iload_n 1, 1) := by decide +kernel
theorem dX7_isClause_1 : decode cX7_isClause 1 = .ok (.iload_n 2, 1) := by decide +kernel
theorem dX7_isClause_2 : decode cX7_isClause 2 = .ok (.invokestatic 77, 3) := by decide +kernel
theorem dX7_isClause_5 : decode cX7_isClause 5 = .ok (.ifCond .eq 22, 3) := by decide +kernel
theorem dX7_isClause_8 : decode cX7_isClause 8 = .ok (.aload_n 0, 1) := by decide +kernel
theorem dX7_isClause_9 : decode cX7_isClause 9 = .ok (.getfield 19, 3) := by decide +kernel
theorem dX7_isClause_12 : decode cX7_isClause 12 = .ok (.iload_n 1, 1) := by decide +kernel
theorem dX7_isClause_13 : decode cX7_isClause 13 = .ok (.iload_n 2, 1) := by decide +kernel
theorem dX7_isClause_14 : decode cX7_isClause 14 = .ok (.invokestatic 81, 3) := by decide +kernel
theorem dX7_isClause_17 : decode cX7_isClause 17 = .ok (.invokevirtual 85, 3) := by decide +kernel
theorem dX7_isClause_20 : decode cX7_isClause 20 = .ok (.ifCond .le 7, 3) := by decide +kernel
theorem dX7_isClause_23 : decode cX7_isClause 23 = .ok (.iconst 1, 1) := by decide +kernel
theorem dX7_isClause_24 : decode cX7_isClause 24 = .ok (.goto 4, 3) := by decide +kernel
theorem dX7_isClause_27 : decode cX7_isClause 27 = .ok (.iconst 0, 1) := by decide +kernel
theorem dX7_isClause_28 : decode cX7_isClause 28 = .ok (.ireturn, 1) := by decide +kernel
theorem dX7_pageOf_0 : decode cX7_pageOf 0 = .ok (.iconst 4, 1) := by decide +kernel
theorem dX7_pageOf_1 : decode cX7_pageOf 1 = .ok (.iload_n 0, 1) := by decide +kernel
theorem dX7_pageOf_2 : decode cX7_pageOf 2 = .ok (.iconst 4, 1) := by decide +kernel
theorem dX7_pageOf_3 : decode cX7_pageOf 3 = .ok (.imul, 1) := by decide +kernel
theorem dX7_pageOf_4 : decode cX7_pageOf 4 = .ok (.iadd, 1) := by decide +kernel
theorem dX7_pageOf_5 : decode cX7_pageOf 5 = .ok (.iload_n 1, 1) := by decide +kernel
theorem dX7_pageOf_6 : decode cX7_pageOf 6 = .ok (.iadd, 1) := by decide +kernel
theorem dX7_pageOf_7 : decode cX7_pageOf 7 = .ok (.ireturn, 1) := by decide +kernel
theorem dX7_textsOf_0 : decode cX7_textsOf 0 = .ok (.iload_n 0, 1) := by decide +kernel
theorem dX7_textsOf_1 : decode cX7_textsOf 1 = .ok (.tableswitch 339 42 120 #[335, 335, 339, 335, 339, 339, 331, 331, 331, 331, 331, 331, 331, 331, 339, 339, 339, 339, 339, 339, 339, 337, 333, 339, 339, 339, 339, 339, 339, 339, 339, 339, 339, 339, 339, 339, 339, 339, 339, 339, 339, 339, 339, 339, 339, 339, 339, 339, 339, 339, 339, 339, 339, 339, 339, 339, 339, 339, 339, 339, 339, 339, 339, 339, 339, 333, 339, 335, 339, 339, 333, 333, 333, 339, 339, 339, 339, 339, 331], 331) := by decide +kernel
theorem dX7_textsOf_332 : decode cX7_textsOf 332 = .ok (.iconst 0, 1) := by decide +kernel
theorem dX7_textsOf_333 : decode cX7_textsOf 333 = .ok (.ireturn, 1) := by decide +kernel
theorem dX7_textsOf_334 : decode cX7_textsOf 334 = .ok (.iconst 1, 1) := by decide +kernel
theorem dX7_textsOf_335 : decode cX7_textsOf 335 = .ok (.ireturn, 1) := by decide +kernel
theorem dX7_textsOf_336 : decode cX7_textsOf 336 = .ok (.iconst 2, 1) := by decide +kernel
theorem dX7_textsOf_337 : decode cX7_textsOf 337 = .ok (.ireturn, 1) := by decide +kernel
theorem dX7_textsOf_338 : decode cX7_textsOf 338 = .ok (.iconst 3, 1) := by decide +kernel
theorem dX7_textsOf_339 : decode cX7_textsOf 339 = .ok (.ireturn, 1) := by decide +kernel
theorem dX7_textsOf_340 : decode cX7_textsOf 340 = .ok (.iconst (-1), 1) := by decide +kernel
theorem dX7_textsOf_341 : decode cX7_textsOf 341 = .ok (.ireturn, 1) := by decide +kernel
theorem dX7_becomes_0 : decode cX7_becomes 0 = .ok (.aload_n 0, 1) := by decide +kernel
theorem dX7_becomes_1 : decode cX7_becomes 1 = .ok (.getfield 12, 3) := by decide +kernel
theorem dX7_becomes_4 : decode cX7_becomes 4 = .ok (.iload_n 2, 1) := by decide +kernel
theorem dX7_becomes_5 : decode cX7_becomes 5 = .ok (.invokevirtual 66, 3) := by decide +kernel
theorem dX7_becomes_8 : decode cX7_becomes 8 = .ok (.bipush (-6), 2) := by decide +kernel
theorem dX7_becomes_10 : decode cX7_becomes 10 = .ok (.if_icmp .eq 6, 3) := by decide +kernel
theorem dX7_becomes_13 : decode cX7_becomes 13 = .ok (.bipush (-5), 2) := by decide +kernel
theorem dX7_becomes_15 : decode cX7_becomes 15 = .ok (.ireturn, 1) := by decide +kernel
theorem dX7_becomes_16 : decode cX7_becomes 16 = .ok (.aload_n 0, 1) := by decide +kernel
theorem dX7_becomes_17 : decode cX7_becomes 17 = .ok (.getfield 19, 3) := by decide +kernel
theorem dX7_becomes_20 : decode cX7_becomes 20 = .ok (.iload_n 1, 1) := by decide +kernel
theorem dX7_becomes_21 : decode cX7_becomes 21 = .ok (.aload_n 0, 1) := by decide +kernel
theorem dX7_becomes_22 : decode cX7_becomes 22 = .ok (.getfield 12, 3) := by decide +kernel
theorem dX7_becomes_25 : decode cX7_becomes 25 = .ok (.invokevirtual 135, 3) := by decide +kernel
theorem dX7_becomes_28 : decode cX7_becomes 28 = .ok (.aload_n 0, 1) := by decide +kernel
theorem dX7_becomes_29 : decode cX7_becomes 29 = .ok (.invokevirtual 139, 3) := by decide +kernel
theorem dX7_becomes_32 : decode cX7_becomes 32 = .ok (.ireturn, 1) := by decide +kernel
theorem dX7_goThrough_0 : decode cX7_goThrough 0 = .ok (.iconst 0, 1) := by decide +kernel
theorem dX7_goThrough_1 : decode cX7_goThrough 1 = .ok (.istore 6, 2) := by decide +kernel
theorem dX7_goThrough_3 : decode cX7_goThrough 3 = .ok (.iconst 1, 1) := by decide +kernel
theorem dX7_goThrough_4 : decode cX7_goThrough 4 = .ok (.istore 7, 2) := by decide +kernel
theorem dX7_goThrough_6 : decode cX7_goThrough 6 = .ok (.aload_n 0, 1) := by decide +kernel
theorem dX7_goThrough_7 : decode cX7_goThrough 7 = .ok (.getfield 30, 3) := by decide +kernel
theorem dX7_goThrough_10 : decode cX7_goThrough 10 = .ok (.iload_n 3, 1) := by decide +kernel
theorem dX7_goThrough_11 : decode cX7_goThrough 11 = .ok (.invokevirtual 101, 3) := by decide +kernel
theorem dX7_goThrough_14 : decode cX7_goThrough 14 = .ok (.iconst 0, 1) := by decide +kernel
theorem dX7_goThrough_15 : decode cX7_goThrough 15 = .ok (.istore 8, 2) := by decide +kernel
theorem dX7_goThrough_17 : decode cX7_goThrough 17 = .ok (.iload 8, 2) := by decide +kernel
theorem dX7_goThrough_19 : decode cX7_goThrough 19 = .ok (.bipush 81, 2) := by decide +kernel
theorem dX7_goThrough_21 : decode cX7_goThrough 21 = .ok (.if_icmp .ge 133, 3) := by decide +kernel
theorem dX7_goThrough_24 : decode cX7_goThrough 24 = .ok (.iload 7, 2) := by decide +kernel
theorem dX7_goThrough_26 : decode cX7_goThrough 26 = .ok (.ifCond .eq 128, 3) := by decide +kernel
theorem dX7_goThrough_29 : decode cX7_goThrough 29 = .ok (.aload_n 0, 1) := by decide +kernel
theorem dX7_goThrough_30 : decode cX7_goThrough 30 = .ok (.getfield 41, 3) := by decide +kernel
theorem dX7_goThrough_33 : decode cX7_goThrough 33 = .ok (.iload_n 1, 1) := by decide +kernel
theorem dX7_goThrough_34 : decode cX7_goThrough 34 = .ok (.iload_n 2, 1) := by decide +kernel
theorem dX7_goThrough_35 : decode cX7_goThrough 35 = .ok (.aload_n 0, 1) := by decide +kernel
theorem dX7_goThrough_36 : decode cX7_goThrough 36 = .ok (.getfield 30, 3) := by decide +kernel
theorem dX7_goThrough_39 : decode cX7_goThrough 39 = .ok (.invokevirtual 104, 3) := by decide +kernel
theorem dX7_goThrough_42 : decode cX7_goThrough 42 = .ok (.iload 6, 2) := by decide +kernel
theorem dX7_goThrough_44 : decode cX7_goThrough 44 = .ok (.iconst 1, 1) := by decide +kernel
theorem dX7_goThrough_45 : decode cX7_goThrough 45 = .ok (.aload_n 0, 1) := by decide +kernel
theorem dX7_goThrough_46 : decode cX7_goThrough 46 = .ok (.getfield 41, 3) := by decide +kernel
theorem dX7_goThrough_49 : decode cX7_goThrough 49 = .ok (.getfield 143, 3) := by decide +kernel
theorem dX7_goThrough_52 : decode cX7_goThrough 52 = .ok (.ishl, 1) := by decide +kernel
theorem dX7_goThrough_53 : decode cX7_goThrough 53 = .ok (.iand, 1) := by decide +kernel
theorem dX7_goThrough_54 : decode cX7_goThrough 54 = .ok (.ifCond .ne 7, 3) := by decide +kernel
theorem dX7_goThrough_57 : decode cX7_goThrough 57 = .ok (.iconst 1, 1) := by decide +kernel
theorem dX7_goThrough_58 : decode cX7_goThrough 58 = .ok (.goto 4, 3) := by decide +kernel
theorem dX7_goThrough_61 : decode cX7_goThrough 61 = .ok (.iconst 0, 1) := by decide +kernel
theorem dX7_goThrough_62 : decode cX7_goThrough 62 = .ok (.istore 9, 2) := by decide +kernel
theorem dX7_goThrough_64 : decode cX7_goThrough 64 = .ok (.aload_n 0, 1) := by decide +kernel
theorem dX7_goThrough_65 : decode cX7_goThrough 65 = .ok (.getfield 41, 3) := by decide +kernel
theorem dX7_goThrough_68 : decode cX7_goThrough 68 = .ok (.getfield 143, 3) := by decide +kernel
theorem dX7_goThrough_71 : decode cX7_goThrough 71 = .ok (.iload 5, 2) := by decide +kernel
theorem dX7_goThrough_73 : decode cX7_goThrough 73 = .ok (.if_icmp .ne 43, 3) := by decide +kernel
theorem dX7_goThrough_76 : decode cX7_goThrough 76 = .ok (.iload 9, 2) := by decide +kernel
theorem dX7_goThrough_78 : decode cX7_goThrough 78 = .ok (.ifCond .ne 20, 3) := by decide +kernel
theorem dX7_goThrough_81 : decode cX7_goThrough 81 = .ok (.aload_n 0, 1) := by decide +kernel
theorem dX7_goThrough_82 : decode cX7_goThrough 82 = .ok (.getfield 41, 3) := by decide +kernel
theorem dX7_goThrough_85 : decode cX7_goThrough 85 = .ok (.getfield 146, 3) := by decide +kernel
theorem dX7_goThrough_88 : decode cX7_goThrough 88 = .ok (.aload_n 0, 1) := by decide +kernel
theorem dX7_goThrough_89 : decode cX7_goThrough 89 = .ok (.getfield 33, 3) := by decide +kernel
theorem dX7_goThrough_92 : decode cX7_goThrough 92 = .ok (.getfield 98, 3) := by decide +kernel
theorem dX7_goThrough_95 : decode cX7_goThrough 95 = .ok (.if_icmp .ge 21, 3) := by decide +kernel
theorem dX7_goThrough_98 : decode cX7_goThrough 98 = .ok (.aload_n 0, 1) := by decide +kernel
theorem dX7_goThrough_99 : decode cX7_goThrough 99 = .ok (.getfield 33, 3) := by decide +kernel
theorem dX7_goThrough_102 : decode cX7_goThrough 102 = .ok (.aload_n 0, 1) := by decide +kernel
theorem dX7_goThrough_103 : decode cX7_goThrough 103 = .ok (.getfield 30, 3) := by decide +kernel
theorem dX7_goThrough_106 : decode cX7_goThrough 106 = .ok (.aload_n 0, 1) := by decide +kernel
theorem dX7_goThrough_107 : decode cX7_goThrough 107 = .ok (.getfield 41, 3) := by decide +kernel
theorem dX7_goThrough_110 : decode cX7_goThrough 110 = .ok (.getfield 146, 3) := by decide +kernel
theorem dX7_goThrough_113 : decode cX7_goThrough 113 = .ok (.invokevirtual 149, 3) := by decide +kernel
theorem dX7_goThrough_116 : decode cX7_goThrough 116 = .ok (.iload 6, 2) := by decide +kernel
theorem dX7_goThrough_118 : decode cX7_goThrough 118 = .ok (.iconst 1, 1) := by decide +kernel
theorem dX7_goThrough_119 : decode cX7_goThrough 119 = .ok (.aload_n 0, 1) := by decide +kernel
theorem dX7_goThrough_120 : decode cX7_goThrough 120 = .ok (.getfield 41, 3) := by decide +kernel
theorem dX7_goThrough_123 : decode cX7_goThrough 123 = .ok (.getfield 143, 3) := by decide +kernel
theorem dX7_goThrough_126 : decode cX7_goThrough 126 = .ok (.ishl, 1) := by decide +kernel
theorem dX7_goThrough_127 : decode cX7_goThrough 127 = .ok (.ior, 1) := by decide +kernel
theorem dX7_goThrough_128 : decode cX7_goThrough 128 = .ok (.istore 6, 2) := by decide +kernel
theorem dX7_goThrough_130 : decode cX7_goThrough 130 = .ok (.aload_n 0, 1) := by decide +kernel
theorem dX7_goThrough_131 : decode cX7_goThrough 131 = .ok (.getfield 30, 3) := by decide +kernel
theorem dX7_goThrough_134 : decode cX7_goThrough 134 = .ok (.aload_n 0, 1) := by decide +kernel
theorem dX7_goThrough_135 : decode cX7_goThrough 135 = .ok (.getfield 41, 3) := by decide +kernel
theorem dX7_goThrough_138 : decode cX7_goThrough 138 = .ok (.getfield 146, 3) := by decide +kernel
theorem dX7_goThrough_141 : decode cX7_goThrough 141 = .ok (.iload 4, 2) := by decide +kernel
theorem dX7_goThrough_143 : decode cX7_goThrough 143 = .ok (.invokevirtual 153, 3) := by decide +kernel
theorem dX7_goThrough_146 : decode cX7_goThrough 146 = .ok (.istore 7, 2) := by decide +kernel
theorem dX7_goThrough_148 : decode cX7_goThrough 148 = .ok (.iinc 8 1, 3) := by decide +kernel
theorem dX7_goThrough_151 : decode cX7_goThrough 151 = .ok (.goto (-134), 3) := by decide +kernel
theorem dX7_goThrough_154 : decode cX7_goThrough 154 = .ok (.iload 6, 2) := by decide +kernel
theorem dX7_goThrough_156 : decode cX7_goThrough 156 = .ok (.ireturn, 1) := by decide +kernel
theorem dX7_differ_0 : decode cX7_differ 0 = .ok (.iconst 1, 1) := by decide +kernel
theorem dX7_differ_1 : decode cX7_differ 1 = .ok (.istore 6, 2) := by decide +kernel
theorem dX7_differ_3 : decode cX7_differ 3 = .ok (.iconst 0, 1) := by decide +kernel
theorem dX7_differ_4 : decode cX7_differ 4 = .ok (.istore 7, 2) := by decide +kernel
theorem dX7_differ_6 : decode cX7_differ 6 = .ok (.iload 7, 2) := by decide +kernel
theorem dX7_differ_8 : decode cX7_differ 8 = .ok (.bipush 81, 2) := by decide +kernel
theorem dX7_differ_10 : decode cX7_differ 10 = .ok (.if_icmp .ge 86, 3) := by decide +kernel
theorem dX7_differ_13 : decode cX7_differ 13 = .ok (.iload 6, 2) := by decide +kernel
theorem dX7_differ_15 : decode cX7_differ 15 = .ok (.ifCond .eq 81, 3) := by decide +kernel
theorem dX7_differ_18 : decode cX7_differ 18 = .ok (.aload_n 0, 1) := by decide +kernel
theorem dX7_differ_19 : decode cX7_differ 19 = .ok (.getfield 41, 3) := by decide +kernel
theorem dX7_differ_22 : decode cX7_differ 22 = .ok (.iload_n 1, 1) := by decide +kernel
theorem dX7_differ_23 : decode cX7_differ 23 = .ok (.iload_n 2, 1) := by decide +kernel
theorem dX7_differ_24 : decode cX7_differ 24 = .ok (.aload_n 0, 1) := by decide +kernel
theorem dX7_differ_25 : decode cX7_differ 25 = .ok (.getfield 30, 3) := by decide +kernel
theorem dX7_differ_28 : decode cX7_differ 28 = .ok (.invokevirtual 104, 3) := by decide +kernel
theorem dX7_differ_31 : decode cX7_differ 31 = .ok (.aload_n 0, 1) := by decide +kernel
theorem dX7_differ_32 : decode cX7_differ 32 = .ok (.getfield 41, 3) := by decide +kernel
theorem dX7_differ_35 : decode cX7_differ 35 = .ok (.invokevirtual 156, 3) := by decide +kernel
theorem dX7_differ_38 : decode cX7_differ 38 = .ok (.istore 8, 2) := by decide +kernel
theorem dX7_differ_40 : decode cX7_differ 40 = .ok (.aload_n 0, 1) := by decide +kernel
theorem dX7_differ_41 : decode cX7_differ 41 = .ok (.getfield 41, 3) := by decide +kernel
theorem dX7_differ_44 : decode cX7_differ 44 = .ok (.getfield 146, 3) := by decide +kernel
theorem dX7_differ_47 : decode cX7_differ 47 = .ok (.istore 9, 2) := by decide +kernel
theorem dX7_differ_49 : decode cX7_differ 49 = .ok (.aload_n 0, 1) := by decide +kernel
theorem dX7_differ_50 : decode cX7_differ 50 = .ok (.getfield 41, 3) := by decide +kernel
theorem dX7_differ_53 : decode cX7_differ 53 = .ok (.iload_n 3, 1) := by decide +kernel
theorem dX7_differ_54 : decode cX7_differ 54 = .ok (.iload 4, 2) := by decide +kernel
theorem dX7_differ_56 : decode cX7_differ 56 = .ok (.aload_n 0, 1) := by decide +kernel
theorem dX7_differ_57 : decode cX7_differ 57 = .ok (.getfield 30, 3) := by decide +kernel
theorem dX7_differ_60 : decode cX7_differ 60 = .ok (.invokevirtual 104, 3) := by decide +kernel
theorem dX7_differ_63 : decode cX7_differ 63 = .ok (.aload_n 0, 1) := by decide +kernel
theorem dX7_differ_64 : decode cX7_differ 64 = .ok (.getfield 41, 3) := by decide +kernel
theorem dX7_differ_67 : decode cX7_differ 67 = .ok (.invokevirtual 156, 3) := by decide +kernel
theorem dX7_differ_70 : decode cX7_differ 70 = .ok (.iload 8, 2) := by decide +kernel
theorem dX7_differ_72 : decode cX7_differ 72 = .ok (.if_icmp .eq 5, 3) := by decide +kernel
theorem dX7_differ_75 : decode cX7_differ 75 = .ok (.iconst 1, 1) := by decide +kernel
theorem dX7_differ_76 : decode cX7_differ 76 = .ok (.ireturn, 1) := by decide +kernel
theorem dX7_differ_77 : decode cX7_differ 77 = .ok (.aload_n 0, 1) := by decide +kernel
theorem dX7_differ_78 : decode cX7_differ 78 = .ok (.getfield 30, 3) := by decide +kernel
theorem dX7_differ_81 : decode cX7_differ 81 = .ok (.iload 9, 2) := by decide +kernel
theorem dX7_differ_83 : decode cX7_differ 83 = .ok (.iload 5, 2) := by decide +kernel
theorem dX7_differ_85 : decode cX7_differ 85 = .ok (.invokevirtual 153, 3) := by decide +kernel
theorem dX7_differ_88 : decode cX7_differ 88 = .ok (.istore 6, 2) := by decide +kernel
theorem dX7_differ_90 : decode cX7_differ 90 = .ok (.iinc 7 1, 3) := by decide +kernel
theorem dX7_differ_93 : decode cX7_differ 93 = .ok (.goto (-87), 3) := by decide +kernel
theorem dX7_differ_96 : decode cX7_differ 96 = .ok (.iconst 0, 1) := by decide +kernel
theorem dX7_differ_97 : decode cX7_differ 97 = .ok (.ireturn, 1) := by decide +kernel
theorem dX8_init_0 : decode cX8_init 0 = .ok (.aload_n 0, 1) := by decide +kernel
theorem dX8_init_1 : decode cX8_init 1 = .ok (.invokespecial 1, 3) := by decide +kernel
theorem dX8_init_4 : decode cX8_init 4 = .ok (.aload_n 0, 1) := by decide +kernel
theorem dX8_init_5 : decode cX8_init 5 = .ok (.bipush 40, 2) := by decide +kernel
theorem dX8_init_7 : decode cX8_init 7 = .ok (.newarray .int, 2) := by decide +kernel
theorem dX8_init_9 : decode cX8_init 9 = .ok (.putfield 7, 3) := by decide +kernel
theorem dX8_init_12 : decode cX8_init 12 = .ok (.aload_n 0, 1) := by decide +kernel
theorem dX8_init_13 : decode cX8_init 13 = .ok (.bipush 20, 2) := by decide +kernel
theorem dX8_init_15 : decode cX8_init 15 = .ok (.newarray .int, 2) := by decide +kernel
theorem dX8_init_17 : decode cX8_init 17 = .ok (.putfield 13, 3) := by decide +kernel
theorem dX8_init_20 : decode cX8_init 20 = .ok (.aload_n 0, 1) := by decide +kernel
theorem dX8_init_21 : decode cX8_init 21 = .ok (.sipush 800, 3) := by decide +kernel
theorem dX8_init_24 : decode cX8_init 24 = .ok (.newarray .int, 2) := by decide +kernel
theorem dX8_init_26 : decode cX8_init 26 = .ok (.putfield 16, 3) := by decide +kernel
theorem dX8_init_29 : decode cX8_init 29 = .ok (.aload_n 0, 1) := by decide +kernel
theorem dX8_init_30 : decode cX8_init 30 = .ok (.sipush 800, 3) := by decide +kernel
theorem dX8_init_33 : decode cX8_init 33 = .ok (.newarray .int, 2) := by decide +kernel
theorem dX8_init_35 : decode cX8_init 35 = .ok (.putfield 19, 3) := by decide +kernel
theorem dX8_init_38 : decode cX8_init 38 = .ok (.aload_n 0, 1) := by decide +kernel
theorem dX8_init_39 : decode cX8_init 39 = .ok (.bipush 8, 2) := by decide +kernel
theorem dX8_init_41 : decode cX8_init 41 = .ok (.newarray .int, 2) := by decide +kernel
theorem dX8_init_43 : decode cX8_init 43 = .ok (.putfield 22, 3) := by decide +kernel
theorem dX8_init_46 : decode cX8_init 46 = .ok (.aload_n 0, 1) := by decide +kernel
theorem dX8_init_47 : decode cX8_init 47 = .ok (.bipush 41, 2) := by decide +kernel
theorem dX8_init_49 : decode cX8_init 49 = .ok (.newarray .int, 2) := by decide +kernel
theorem dX8_init_51 : decode cX8_init 51 = .ok (.putfield 25, 3) := by decide +kernel
theorem dX8_init_54 : decode cX8_init 54 = .ok (.aload_n 0, 1) := by decide +kernel
theorem dX8_init_55 : decode cX8_init 55 = .ok (.sipush 512, 3) := by decide +kernel
theorem dX8_init_58 : decode cX8_init 58 = .ok (.newarray .int, 2) := by decide +kernel
theorem dX8_init_60 : decode cX8_init 60 = .ok (.putfield 28, 3) := by decide +kernel
theorem dX8_init_63 : decode cX8_init 63 = .ok (.aload_n 0, 1) := by decide +kernel
theorem dX8_init_64 : decode cX8_init 64 = .ok (.sipush 512, 3) := by decide +kernel
theorem dX8_init_67 : decode cX8_init 67 = .ok (.newarray .int, 2) := by decide +kernel
theorem dX8_init_69 : decode cX8_init 69 = .ok (.putfield 31, 3) := by decide +kernel
theorem dX8_init_72 : decode cX8_init 72 = .ok (.aload_n 0, 1) := by decide +kernel
theorem dX8_init_73 : decode cX8_init 73 = .ok (.sipush 512, 3) := by decide +kernel
theorem dX8_init_76 : decode cX8_init 76 = .ok (.newarray .int, 2) := by decide +kernel
theorem dX8_init_78 : decode cX8_init 78 = .ok (.putfield 34, 3) := by decide +kernel
theorem dX8_init_81 : decode cX8_init 81 = .ok (.aload_n 0, 1) := by decide +kernel
theorem dX8_init_82 : decode cX8_init 82 = .ok (.sipush 512, 3) := by decide +kernel
theorem dX8_init_85 : decode cX8_init 85 = .ok (.newarray .int, 2) := by decide +kernel
theorem dX8_init_87 : decode cX8_init 87 = .ok (.putfield 37, 3) := by decide +kernel
theorem dX8_init_90 : decode cX8_init 90 = .ok (.aload_n 0, 1) := by decide +kernel
theorem dX8_init_91 : decode cX8_init 91 = .ok (.sipush 512, 3) := by decide +kernel
theorem dX8_init_94 : decode cX8_init 94 = .ok (.newarray .int, 2) := by decide +kernel
theorem dX8_init_96 : decode cX8_init 96 = .ok (.putfield 40, 3) := by decide +kernel
theorem dX8_init_99 : decode cX8_init 99 = .ok (.aload_n 0, 1) := by decide +kernel
theorem dX8_init_100 : decode cX8_init 100 = .ok (.sipush 512, 3) := by decide +kernel
theorem dX8_init_103 : decode cX8_init 103 = .ok (.newarray .int, 2) := by decide +kernel
theorem dX8_init_105 : decode cX8_init 105 = .ok (.putfield 43, 3) := by decide +kernel
theorem dX8_init_108 : decode cX8_init 108 = .ok (.aload_n 0, 1) := by decide +kernel
theorem dX8_init_109 : decode cX8_init 109 = .ok (.sipush 12000, 3) := by decide +kernel
theorem dX8_init_112 : decode cX8_init 112 = .ok (.newarray .int, 2) := by decide +kernel
theorem dX8_init_114 : decode cX8_init 114 = .ok (.putfield 46, 3) := by decide +kernel
theorem dX8_init_117 : decode cX8_init 117 = .ok (.aload_n 0, 1) := by decide +kernel
theorem dX8_init_118 : decode cX8_init 118 = .ok (.sipush 12000, 3) := by decide +kernel
theorem dX8_init_121 : decode cX8_init 121 = .ok (.newarray .int, 2) := by decide +kernel
theorem dX8_init_123 : decode cX8_init 123 = .ok (.putfield 49, 3) := by decide +kernel
theorem dX8_init_126 : decode cX8_init 126 = .ok (.aload_n 0, 1) := by decide +kernel
theorem dX8_init_127 : decode cX8_init 127 = .ok (.sipush 12000, 3) := by decide +kernel
theorem dX8_init_130 : decode cX8_init 130 = .ok (.newarray .int, 2) := by decide +kernel
theorem dX8_init_132 : decode cX8_init 132 = .ok (.putfield 52, 3) := by decide +kernel
theorem dX8_init_135 : decode cX8_init 135 = .ok (.aload_n 0, 1) := by decide +kernel
theorem dX8_init_136 : decode cX8_init 136 = .ok (.sipush 256, 3) := by decide +kernel
theorem dX8_init_139 : decode cX8_init 139 = .ok (.newarray .int, 2) := by decide +kernel
theorem dX8_init_141 : decode cX8_init 141 = .ok (.putfield 55, 3) := by decide +kernel
theorem dX8_init_144 : decode cX8_init 144 = .ok (.aload_n 0, 1) := by decide +kernel
theorem dX8_init_145 : decode cX8_init 145 = .ok (.sipush 256, 3) := by decide +kernel
theorem dX8_init_148 : decode cX8_init 148 = .ok (.newarray .int, 2) := by decide +kernel
theorem dX8_init_150 : decode cX8_init 150 = .ok (.putfield 58, 3) := by decide +kernel
theorem dX8_init_153 : decode cX8_init 153 = .ok (.aload_n 0, 1) := by decide +kernel
theorem dX8_init_154 : decode cX8_init 154 = .ok (.sipush 256, 3) := by decide +kernel
theorem dX8_init_157 : decode cX8_init 157 = .ok (.newarray .int, 2) := by decide +kernel
theorem dX8_init_159 : decode cX8_init 159 = .ok (.putfield 61, 3) := by decide +kernel
theorem dX8_init_162 : decode cX8_init 162 = .ok (.aload_n 0, 1) := by decide +kernel
theorem dX8_init_163 : decode cX8_init 163 = .ok (.sipush 256, 3) := by decide +kernel
theorem dX8_init_166 : decode cX8_init 166 = .ok (.newarray .int, 2) := by decide +kernel
theorem dX8_init_168 : decode cX8_init 168 = .ok (.putfield 64, 3) := by decide +kernel
theorem dX8_init_171 : decode cX8_init 171 = .ok (.aload_n 0, 1) := by decide +kernel
theorem dX8_init_172 : decode cX8_init 172 = .ok (.bipush 8, 2) := by decide +kernel
theorem dX8_init_174 : decode cX8_init 174 = .ok (.newarray .int, 2) := by decide +kernel
theorem dX8_init_176 : decode cX8_init 176 = .ok (.putfield 67, 3) := by decide +kernel
theorem dX8_init_179 : decode cX8_init 179 = .ok (.aload_n 0, 1) := by decide +kernel
theorem dX8_init_180 : decode cX8_init 180 = .ok (.sipush 12000, 3) := by decide +kernel
theorem dX8_init_183 : decode cX8_init 183 = .ok (.newarray .int, 2) := by decide +kernel
theorem dX8_init_185 : decode cX8_init 185 = .ok (.putfield 70, 3) := by decide +kernel
theorem dX8_init_188 : decode cX8_init 188 = .ok (.aload_n 0, 1) := by decide +kernel
theorem dX8_init_189 : decode cX8_init 189 = .ok (.bipush 20, 2) := by decide +kernel
theorem dX8_init_191 : decode cX8_init 191 = .ok (.newarray .int, 2) := by decide +kernel
theorem dX8_init_193 : decode cX8_init 193 = .ok (.putfield 73, 3) := by decide +kernel
theorem dX8_init_196 : decode cX8_init 196 = .ok (.aload_n 0, 1) := by decide +kernel
theorem dX8_init_197 : decode cX8_init 197 = .ok (.iconst 4, 1) := by decide +kernel
theorem dX8_init_198 : decode cX8_init 198 = .ok (.newarray .int, 2) := by decide +kernel
theorem dX8_init_200 : decode cX8_init 200 = .ok (.putfield 76, 3) := by decide +kernel
theorem dX8_init_203 : decode cX8_init 203 = .ok (.aload_n 0, 1) := by decide +kernel
theorem dX8_init_204 : decode cX8_init 204 = .ok (.bipush 41, 2) := by decide +kernel
theorem dX8_init_206 : decode cX8_init 206 = .ok (.newarray .int, 2) := by decide +kernel
theorem dX8_init_208 : decode cX8_init 208 = .ok (.putfield 79, 3) := by decide +kernel
theorem dX8_init_211 : decode cX8_init 211 = .ok (.aload_n 0, 1) := by decide +kernel
theorem dX8_init_212 : decode cX8_init 212 = .ok (.iconst 4, 1) := by decide +kernel
theorem dX8_init_213 : decode cX8_init 213 = .ok (.newarray .int, 2) := by decide +kernel
theorem dX8_init_215 : decode cX8_init 215 = .ok (.putfield 82, 3) := by decide +kernel
theorem dX8_init_218 : decode cX8_init 218 = .ok (.iconst 0, 1) := by decide +kernel
theorem dX8_init_219 : decode cX8_init 219 = .ok (.istore_n 1, 1) := by decide +kernel
theorem dX8_init_220 : decode cX8_init 220 = .ok (.iload_n 1, 1) := by decide +kernel
theorem dX8_init_221 : decode cX8_init 221 = .ok (.iconst 4, 1) := by decide +kernel
theorem dX8_init_222 : decode cX8_init 222 = .ok (.if_icmp .ge 37, 3) := by decide +kernel
theorem dX8_init_225 : decode cX8_init 225 = .ok (.aload_n 0, 1) := by decide +kernel
theorem dX8_init_226 : decode cX8_init 226 = .ok (.getfield 13, 3) := by decide +kernel
theorem dX8_init_229 : decode cX8_init 229 = .ok (.iload_n 1, 1) := by decide +kernel
theorem dX8_init_230 : decode cX8_init 230 = .ok (.iconst 1, 1) := by decide +kernel
theorem dX8_init_231 : decode cX8_init 231 = .ok (.iastore, 1) := by decide +kernel
theorem dX8_init_232 : decode cX8_init 232 = .ok (.aload_n 0, 1) := by decide +kernel
theorem dX8_init_233 : decode cX8_init 233 = .ok (.getfield 16, 3) := by decide +kernel
theorem dX8_init_236 : decode cX8_init 236 = .ok (.bipush 40, 2) := by decide +kernel
theorem dX8_init_238 : decode cX8_init 238 = .ok (.iload_n 1, 1) := by decide +kernel
theorem dX8_init_239 : decode cX8_init 239 = .ok (.imul, 1) := by decide +kernel
theorem dX8_init_240 : decode cX8_init 240 = .ok (.bipush 48, 2) := by decide +kernel
theorem dX8_init_242 : decode cX8_init 242 = .ok (.iastore, 1) := by decide +kernel
theorem dX8_init_243 : decode cX8_init 243 = .ok (.aload_n 0, 1) := by decide +kernel
theorem dX8_init_244 : decode cX8_init 244 = .ok (.getfield 19, 3) := by decide +kernel
theorem dX8_init_247 : decode cX8_init 247 = .ok (.bipush 40, 2) := by decide +kernel
theorem dX8_init_249 : decode cX8_init 249 = .ok (.iload_n 1, 1) := by decide +kernel
theorem dX8_init_250 : decode cX8_init 250 = .ok (.imul, 1) := by decide +kernel
theorem dX8_init_251 : decode cX8_init 251 = .ok (.iconst 1, 1) := by decide +kernel
theorem dX8_init_252 : decode cX8_init 252 = .ok (.iastore, 1) := by decide +kernel
theorem dX8_init_253 : decode cX8_init 253 = .ok (.iinc 1 1, 3) := by decide +kernel
theorem dX8_init_256 : decode cX8_init 256 = .ok (.goto (-36), 3) := by decide +kernel
theorem dX8_init_259 : decode cX8_init 259 = .ok (.return_, 1) := by decide +kernel
theorem dX8_in_0 : decode cX8_in 0 = .ok (.iload_n 0, 1) := by decide +kernel
theorem dX8_in_1 : decode cX8_in 1 = .ok (.iload_n 1, 1) := by decide +kernel
theorem dX8_in_2 : decode cX8_in 2 = .ok (.if_icmp .lt 12, 3) := by decide +kernel
theorem dX8_in_5 : decode cX8_in 5 = .ok (.iload_n 0, 1) := by decide +kernel
theorem dX8_in_6 : decode cX8_in 6 = .ok (.iload_n 2, 1) := by decide +kernel
theorem dX8_in_7 : decode cX8_in 7 = .ok (.if_icmp .gt 7, 3) := by decide +kernel
theorem dX8_in_10 : decode cX8_in 10 = .ok (.iconst 1, 1) := by decide +kernel
theorem dX8_in_11 : decode cX8_in 11 = .ok (.goto 4, 3) := by decide +kernel
theorem dX8_in_14 : decode cX8_in 14 = .ok (.iconst 0, 1) := by decide +kernel
theorem dX8_in_15 : decode cX8_in 15 = .ok (.ireturn, 1) := by decide +kernel
theorem dX8_isFour_0 : decode cX8_isFour 0 = .ok (.iload_n 0, 1) := by decide +kernel
theorem dX8_isFour_1 : decode cX8_isFour 1 = .ok (.iconst 0, 1) := by decide +kernel
theorem dX8_isFour_2 : decode cX8_isFour 2 = .ok (.iconst 3, 1) := by decide +kernel
theorem dX8_isFour_3 : decode cX8_isFour 3 = .ok (.invokestatic 85, 3) := by decide +kernel
theorem dX8_isFour_6 : decode cX8_isFour 6 = .ok (.ireturn, 1) := by decide +kernel
theorem dX8_say_0 : decode cX8_say 0 = .ok (.iload_n 1, 1) := by decide +kernel
theorem dX8_say_1 : decode cX8_say 1 = .ok (.bipush 33, 2) := by decide +kernel
theorem dX8_say_3 : decode cX8_say 3 = .ok (.bipush 126, 2) := by decide +kernel
theorem dX8_say_5 : decode cX8_say 5 = .ok (.invokestatic 85, 3) := by decide +kernel
theorem dX8_say_8 : decode cX8_say 8 = .ok (.ifCond .ne 6, 3) := by decide +kernel
theorem dX8_say_11 : decode cX8_say 11 = .ok (.bipush (-2), 2) := by decide +kernel
theorem dX8_say_13 : decode cX8_say 13 = .ok (.ireturn, 1) := by decide +kernel
theorem dX8_say_14 : decode cX8_say 14 = .ok (.aload_n 0, 1) := by decide +kernel
theorem dX8_say_15 : decode cX8_say 15 = .ok (.getfield 89, 3) := by decide +kernel
theorem dX8_say_18 : decode cX8_say 18 = .ok (.bipush 40, 2) := by decide +kernel
theorem dX8_say_20 : decode cX8_say 20 = .ok (.if_icmp .ne 6, 3) := by decide +kernel
theorem dX8_say_23 : decode cX8_say 23 = .ok (.bipush (-4), 2) := by decide +kernel
theorem dX8_say_25 : decode cX8_say 25 = .ok (.ireturn, 1) := by decide +kernel
theorem dX8_say_26 : decode cX8_say 26 = .ok (.aload_n 0, 1) := by decide +kernel
theorem dX8_say_27 : decode cX8_say 27 = .ok (.getfield 7, 3) := by decide +kernel
theorem dX8_say_30 : decode cX8_say 30 = .ok (.aload_n 0, 1) := by decide +kernel
theorem dX8_say_31 : decode cX8_say 31 = .ok (.getfield 89, 3) := by decide +kernel
theorem dX8_say_34 : decode cX8_say 34 = .ok (.iload_n 1, 1) := by decide +kernel
theorem dX8_say_35 : decode cX8_say 35 = .ok (.iastore, 1) := by decide +kernel
theorem dX8_say_36 : decode cX8_say 36 = .ok (.aload_n 0, 1) := by decide +kernel
theorem dX8_say_37 : decode cX8_say 37 = .ok (.dup, 1) := by decide +kernel
theorem dX8_say_38 : decode cX8_say 38 = .ok (.getfield 89, 3) := by decide +kernel
theorem dX8_say_41 : decode cX8_say 41 = .ok (.iconst 1, 1) := by decide +kernel
theorem dX8_say_42 : decode cX8_say 42 = .ok (.iadd, 1) := by decide +kernel
theorem dX8_say_43 : decode cX8_say 43 = .ok (.putfield 89, 3) := by decide +kernel
theorem dX8_say_46 : decode cX8_say 46 = .ok (.aload_n 0, 1) := by decide +kernel
theorem dX8_say_47 : decode cX8_say 47 = .ok (.getfield 89, 3) := by decide +kernel
theorem dX8_say_50 : decode cX8_say 50 = .ok (.ireturn, 1) := by decide +kernel
theorem dX8_wipe_0 : decode cX8_wipe 0 = .ok (.aload_n 0, 1) := by decide +kernel
theorem dX8_wipe_1 : decode cX8_wipe 1 = .ok (.getfield 89, 3) := by decide +kernel
theorem dX8_wipe_4 : decode cX8_wipe 4 = .ok (.istore_n 1, 1) := by decide +kernel
theorem dX8_wipe_5 : decode cX8_wipe 5 = .ok (.aload_n 0, 1) := by decide +kernel
theorem dX8_wipe_6 : decode cX8_wipe 6 = .ok (.iconst 0, 1) := by decide +kernel
theorem dX8_wipe_7 : decode cX8_wipe 7 = .ok (.putfield 89, 3) := by decide +kernel
theorem dX8_wipe_10 : decode cX8_wipe 10 = .ok (.iload_n 1, 1) := by decide +kernel
theorem dX8_wipe_11 : decode cX8_wipe 11 = .ok (.ireturn, 1) := by decide +kernel
theorem dX8_partsOf_0 : decode cX8_partsOf 0 = .ok (.iload_n 0, 1) := by decide +kernel
theorem dX8_partsOf_1 : decode cX8_partsOf 1 = .ok (.bipush 43, 2) := by decide +kernel
theorem dX8_partsOf_3 : decode cX8_partsOf 3 = .ok (.if_icmp .eq 21, 3) := by decide +kernel
theorem dX8_partsOf_6 : decode cX8_partsOf 6 = .ok (.iload_n 0, 1) := by decide +kernel
theorem dX8_partsOf_7 : decode cX8_partsOf 7 = .ok (.bipush 45, 2) := by decide +kernel
theorem dX8_partsOf_9 : decode cX8_partsOf 9 = .ok (.if_icmp .eq 15, 3) := by decide +kernel
theorem dX8_partsOf_12 : decode cX8_partsOf 12 = .ok (.iload_n 0, 1) := by decide +kernel
theorem dX8_partsOf_13 : decode cX8_partsOf 13 = .ok (.bipush 42, 2) := by decide +kernel
theorem dX8_partsOf_15 : decode cX8_partsOf 15 = .ok (.if_icmp .eq 9, 3) := by decide +kernel
theorem dX8_partsOf_18 : decode cX8_partsOf 18 = .ok (.iload_n 0, 1) := by decide +kernel
theorem dX8_partsOf_19 : decode cX8_partsOf 19 = .ok (.bipush 109, 2) := by decide +kernel
theorem dX8_partsOf_21 : decode cX8_partsOf 21 = .ok (.if_icmp .ne 7, 3) := by decide +kernel
theorem dX8_partsOf_24 : decode cX8_partsOf 24 = .ok (.iconst 1, 1) := by decide +kernel
theorem dX8_partsOf_25 : decode cX8_partsOf 25 = .ok (.goto 4, 3) := by decide +kernel
theorem dX8_partsOf_28 : decode cX8_partsOf 28 = .ok (.iconst 0, 1) := by decide +kernel
theorem dX8_partsOf_29 : decode cX8_partsOf 29 = .ok (.istore_n 2, 1) := by decide +kernel
theorem dX8_partsOf_30 : decode cX8_partsOf 30 = .ok (.iload_n 0, 1) := by decide +kernel
theorem dX8_partsOf_31 : decode cX8_partsOf 31 = .ok (.bipush 112, 2) := by decide +kernel
theorem dX8_partsOf_33 : decode cX8_partsOf 33 = .ok (.if_icmp .eq 31, 3) := by decide +kernel
theorem dX8_partsOf_36 : decode cX8_partsOf 36 = .ok (.iload_n 0, 1) := by decide +kernel
theorem dX8_partsOf_37 : decode cX8_partsOf 37 = .ok (.bipush 113, 2) := by decide +kernel
theorem dX8_partsOf_39 : decode cX8_partsOf 39 = .ok (.if_icmp .eq 25, 3) := by decide +kernel
theorem dX8_partsOf_42 : decode cX8_partsOf 42 = .ok (.iload_n 0, 1) := by decide +kernel
theorem dX8_partsOf_43 : decode cX8_partsOf 43 = .ok (.bipush 114, 2) := by decide +kernel
theorem dX8_partsOf_45 : decode cX8_partsOf 45 = .ok (.if_icmp .eq 19, 3) := by decide +kernel
theorem dX8_partsOf_48 : decode cX8_partsOf 48 = .ok (.iload_n 0, 1) := by decide +kernel
theorem dX8_partsOf_49 : decode cX8_partsOf 49 = .ok (.bipush 64, 2) := by decide +kernel
theorem dX8_partsOf_51 : decode cX8_partsOf 51 = .ok (.if_icmp .eq 13, 3) := by decide +kernel
theorem dX8_partsOf_54 : decode cX8_partsOf 54 = .ok (.iload_n 0, 1) := by decide +kernel
theorem dX8_partsOf_55 : decode cX8_partsOf 55 = .ok (.bipush 107, 2) := by decide +kernel
theorem dX8_partsOf_57 : decode cX8_partsOf 57 = .ok (.if_icmp .ne 11, 3) := by decide +kernel
theorem dX8_partsOf_60 : decode cX8_partsOf 60 = .ok (.iload_n 1, 1) := by decide +kernel
theorem dX8_partsOf_61 : decode cX8_partsOf 61 = .ok (.ifCond .eq 7, 3) := by decide +kernel
theorem dX8_partsOf_64 : decode cX8_partsOf 64 = .ok (.iconst 1, 1) := by decide +kernel
theorem dX8_partsOf_65 : decode cX8_partsOf 65 = .ok (.goto 4, 3) := by decide +kernel
theorem dX8_partsOf_68 : decode cX8_partsOf 68 = .ok (.iconst 0, 1) := by decide +kernel
theorem dX8_partsOf_69 : decode cX8_partsOf 69 = .ok (.istore_n 3, 1) := by decide +kernel
theorem dX8_partsOf_70 : decode cX8_partsOf 70 = .ok (.iload_n 2, 1) := by decide +kernel
theorem dX8_partsOf_71 : decode cX8_partsOf 71 = .ok (.ifCond .eq 7, 3) := by decide +kernel
theorem dX8_partsOf_74 : decode cX8_partsOf 74 = .ok (.iconst 2, 1) := by decide +kernel
theorem dX8_partsOf_75 : decode cX8_partsOf 75 = .ok (.goto 44, 3) := by decide +kernel
theorem dX8_partsOf_78 : decode cX8_partsOf 78 = .ok (.iload_n 0, 1) := by decide +kernel
theorem dX8_partsOf_79 : decode cX8_partsOf 79 = .ok (.bipush 63, 2) := by decide +kernel
theorem dX8_partsOf_81 : decode cX8_partsOf 81 = .ok (.if_icmp .ne 7, 3) := by decide +kernel
theorem dX8_partsOf_84 : decode cX8_partsOf 84 = .ok (.iconst 3, 1) := by decide +kernel
theorem dX8_partsOf_85 : decode cX8_partsOf 85 = .ok (.goto 34, 3) := by decide +kernel
theorem dX8_partsOf_88 : decode cX8_partsOf 88 = .ok (.iload_n 3, 1) := by decide +kernel
theorem dX8_partsOf_89 : decode cX8_partsOf 89 = .ok (.ifCond .eq 7, 3) := by decide +kernel
theorem dX8_partsOf_92 : decode cX8_partsOf 92 = .ok (.iconst 1, 1) := by decide +kernel
theorem dX8_partsOf_93 : decode cX8_partsOf 93 = .ok (.goto 26, 3) := by decide +kernel
theorem dX8_partsOf_96 : decode cX8_partsOf 96 = .ok (.iload_n 0, 1) := by decide +kernel
theorem dX8_partsOf_97 : decode cX8_partsOf 97 = .ok (.bipush 48, 2) := by decide +kernel
theorem dX8_partsOf_99 : decode cX8_partsOf 99 = .ok (.bipush 55, 2) := by decide +kernel
theorem dX8_partsOf_101 : decode cX8_partsOf 101 = .ok (.invokestatic 85, 3) := by decide +kernel
theorem dX8_partsOf_104 : decode cX8_partsOf 104 = .ok (.ifCond .ne 9, 3) := by decide +kernel
theorem dX8_partsOf_107 : decode cX8_partsOf 107 = .ok (.iload_n 0, 1) := by decide +kernel
theorem dX8_partsOf_108 : decode cX8_partsOf 108 = .ok (.bipush 120, 2) := by decide +kernel
theorem dX8_partsOf_110 : decode cX8_partsOf 110 = .ok (.if_icmp .ne 7, 3) := by decide +kernel
theorem dX8_partsOf_113 : decode cX8_partsOf 113 = .ok (.iconst 0, 1) := by decide +kernel
theorem dX8_partsOf_114 : decode cX8_partsOf 114 = .ok (.goto 5, 3) := by decide +kernel
theorem dX8_partsOf_117 : decode cX8_partsOf 117 = .ok (.bipush (-6), 2) := by decide +kernel
theorem dX8_partsOf_119 : decode cX8_partsOf 119 = .ok (.ireturn, 1) := by decide +kernel
theorem dX8_faultOf_0 : decode cX8_faultOf 0 = .ok (.iconst 0, 1) := by decide +kernel
theorem dX8_faultOf_1 : decode cX8_faultOf 1 = .ok (.istore_n 2, 1) := by decide +kernel
theorem dX8_faultOf_2 : decode cX8_faultOf 2 = .ok (.iconst 0, 1) := by decide +kernel
theorem dX8_faultOf_3 : decode cX8_faultOf 3 = .ok (.istore_n 3, 1) := by decide +kernel
theorem dX8_faultOf_4 : decode cX8_faultOf 4 = .ok (.iload_n 3, 1) := by decide +kernel
theorem dX8_faultOf_5 : decode cX8_faultOf 5 = .ok (.aload_n 0, 1) := by decide +kernel
theorem dX8_faultOf_6 : decode cX8_faultOf 6 = .ok (.getfield 89, 3) := by decide +kernel
theorem dX8_faultOf_9 : decode cX8_faultOf 9 = .ok (.if_icmp .ge 195, 3) := by decide +kernel
theorem dX8_faultOf_12 : decode cX8_faultOf 12 = .ok (.aload_n 0, 1) := by decide +kernel
theorem dX8_faultOf_13 : decode cX8_faultOf 13 = .ok (.getfield 7, 3) := by decide +kernel
theorem dX8_faultOf_16 : decode cX8_faultOf 16 = .ok (.iload_n 3, 1) := by decide +kernel
theorem dX8_faultOf_17 : decode cX8_faultOf 17 = .ok (.iaload, 1) := by decide +kernel
theorem dX8_faultOf_18 : decode cX8_faultOf 18 = .ok (.istore 4, 2) := by decide +kernel
theorem dX8_faultOf_20 : decode cX8_faultOf 20 = .ok (.iload 4, 2) := by decide +kernel
theorem dX8_faultOf_22 : decode cX8_faultOf 22 = .ok (.iload_n 1, 1) := by decide +kernel
theorem dX8_faultOf_23 : decode cX8_faultOf 23 = .ok (.invokestatic 93, 3) := by decide +kernel
theorem dX8_faultOf_26 : decode cX8_faultOf 26 = .ok (.istore 5, 2) := by decide +kernel
theorem dX8_faultOf_28 : decode cX8_faultOf 28 = .ok (.iload 5, 2) := by decide +kernel
theorem dX8_faultOf_30 : decode cX8_faultOf 30 = .ok (.ifCond .lt 14, 3) := by decide +kernel
theorem dX8_faultOf_33 : decode cX8_faultOf 33 = .ok (.iload 5, 2) := by decide +kernel
theorem dX8_faultOf_35 : decode cX8_faultOf 35 = .ok (.ifCond .le 11, 3) := by decide +kernel
theorem dX8_faultOf_38 : decode cX8_faultOf 38 = .ok (.iload_n 2, 1) := by decide +kernel
theorem dX8_faultOf_39 : decode cX8_faultOf 39 = .ok (.bipush 9, 2) := by decide +kernel
theorem dX8_faultOf_41 : decode cX8_faultOf 41 = .ok (.if_icmp .ne 5, 3) := by decide +kernel
theorem dX8_faultOf_44 : decode cX8_faultOf 44 = .ok (.iload_n 3, 1) := by decide +kernel
theorem dX8_faultOf_45 : decode cX8_faultOf 45 = .ok (.ireturn, 1) := by decide +kernel
theorem dX8_faultOf_46 : decode cX8_faultOf 46 = .ok (.iload 4, 2) := by decide +kernel
theorem dX8_faultOf_48 : decode cX8_faultOf 48 = .ok (.bipush 64, 2) := by decide +kernel
theorem dX8_faultOf_50 : decode cX8_faultOf 50 = .ok (.if_icmp .ne 32, 3) := by decide +kernel
theorem dX8_faultOf_53 : decode cX8_faultOf 53 = .ok (.iinc 3 1, 3) := by decide +kernel
theorem dX8_faultOf_56 : decode cX8_faultOf 56 = .ok (.iload_n 3, 1) := by decide +kernel
theorem dX8_faultOf_57 : decode cX8_faultOf 57 = .ok (.aload_n 0, 1) := by decide +kernel
theorem dX8_faultOf_58 : decode cX8_faultOf 58 = .ok (.getfield 89, 3) := by decide +kernel
theorem dX8_faultOf_61 : decode cX8_faultOf 61 = .ok (.if_icmp .ge 21, 3) := by decide +kernel
theorem dX8_faultOf_64 : decode cX8_faultOf 64 = .ok (.aload_n 0, 1) := by decide +kernel
theorem dX8_faultOf_65 : decode cX8_faultOf 65 = .ok (.getfield 7, 3) := by decide +kernel
theorem dX8_faultOf_68 : decode cX8_faultOf 68 = .ok (.iload_n 3, 1) := by decide +kernel
theorem dX8_faultOf_69 : decode cX8_faultOf 69 = .ok (.iaload, 1) := by decide +kernel
theorem dX8_faultOf_70 : decode cX8_faultOf 70 = .ok (.bipush 48, 2) := by decide +kernel
theorem dX8_faultOf_72 : decode cX8_faultOf 72 = .ok (.bipush 51, 2) := by decide +kernel
theorem dX8_faultOf_74 : decode cX8_faultOf 74 = .ok (.invokestatic 85, 3) := by decide +kernel
theorem dX8_faultOf_77 : decode cX8_faultOf 77 = .ok (.ifCond .ne 5, 3) := by decide +kernel
theorem dX8_faultOf_80 : decode cX8_faultOf 80 = .ok (.iload_n 3, 1) := by decide +kernel
theorem dX8_faultOf_81 : decode cX8_faultOf 81 = .ok (.ireturn, 1) := by decide +kernel
theorem dX8_faultOf_82 : decode cX8_faultOf 82 = .ok (.iinc 3 1, 3) := by decide +kernel
theorem dX8_faultOf_85 : decode cX8_faultOf 85 = .ok (.iload 5, 2) := by decide +kernel
theorem dX8_faultOf_87 : decode cX8_faultOf 87 = .ok (.ifCond .le 17, 3) := by decide +kernel
theorem dX8_faultOf_90 : decode cX8_faultOf 90 = .ok (.aload_n 0, 1) := by decide +kernel
theorem dX8_faultOf_91 : decode cX8_faultOf 91 = .ok (.getfield 25, 3) := by decide +kernel
theorem dX8_faultOf_94 : decode cX8_faultOf 94 = .ok (.iload_n 2, 1) := by decide +kernel
theorem dX8_faultOf_95 : decode cX8_faultOf 95 = .ok (.iload 5, 2) := by decide +kernel
theorem dX8_faultOf_97 : decode cX8_faultOf 97 = .ok (.iastore, 1) := by decide +kernel
theorem dX8_faultOf_98 : decode cX8_faultOf 98 = .ok (.iinc 2 1, 3) := by decide +kernel
theorem dX8_faultOf_101 : decode cX8_faultOf 101 = .ok (.goto 100, 3) := by decide +kernel
theorem dX8_faultOf_104 : decode cX8_faultOf 104 = .ok (.iload_n 2, 1) := by decide +kernel
theorem dX8_faultOf_105 : decode cX8_faultOf 105 = .ok (.ifCond .le 7, 3) := by decide +kernel
theorem dX8_faultOf_108 : decode cX8_faultOf 108 = .ok (.iconst 1, 1) := by decide +kernel
theorem dX8_faultOf_109 : decode cX8_faultOf 109 = .ok (.goto 4, 3) := by decide +kernel
theorem dX8_faultOf_112 : decode cX8_faultOf 112 = .ok (.iconst 0, 1) := by decide +kernel
theorem dX8_faultOf_113 : decode cX8_faultOf 113 = .ok (.istore 6, 2) := by decide +kernel
theorem dX8_faultOf_115 : decode cX8_faultOf 115 = .ok (.iload 6, 2) := by decide +kernel
theorem dX8_faultOf_117 : decode cX8_faultOf 117 = .ok (.ifCond .eq 65, 3) := by decide +kernel
theorem dX8_faultOf_120 : decode cX8_faultOf 120 = .ok (.aload_n 0, 1) := by decide +kernel
theorem dX8_faultOf_121 : decode cX8_faultOf 121 = .ok (.getfield 25, 3) := by decide +kernel
theorem dX8_faultOf_124 : decode cX8_faultOf 124 = .ok (.iload_n 2, 1) := by decide +kernel
theorem dX8_faultOf_125 : decode cX8_faultOf 125 = .ok (.iconst 1, 1) := by decide +kernel
theorem dX8_faultOf_126 : decode cX8_faultOf 126 = .ok (.isub, 1) := by decide +kernel
theorem dX8_faultOf_127 : decode cX8_faultOf 127 = .ok (.dup2, 1) := by decide +kernel
theorem dX8_faultOf_128 : decode cX8_faultOf 128 = .ok (.iaload, 1) := by decide +kernel
theorem dX8_faultOf_129 : decode cX8_faultOf 129 = .ok (.iconst 1, 1) := by decide +kernel
theorem dX8_faultOf_130 : decode cX8_faultOf 130 = .ok (.isub, 1) := by decide +kernel
theorem dX8_faultOf_131 : decode cX8_faultOf 131 = .ok (.iastore, 1) := by decide +kernel
theorem dX8_faultOf_132 : decode cX8_faultOf 132 = .ok (.aload_n 0, 1) := by decide +kernel
theorem dX8_faultOf_133 : decode cX8_faultOf 133 = .ok (.getfield 25, 3) := by decide +kernel
theorem dX8_faultOf_136 : decode cX8_faultOf 136 = .ok (.iload_n 2, 1) := by decide +kernel
theorem dX8_faultOf_137 : decode cX8_faultOf 137 = .ok (.iconst 1, 1) := by decide +kernel
theorem dX8_faultOf_138 : decode cX8_faultOf 138 = .ok (.isub, 1) := by decide +kernel
theorem dX8_faultOf_139 : decode cX8_faultOf 139 = .ok (.iaload, 1) := by decide +kernel
theorem dX8_faultOf_140 : decode cX8_faultOf 140 = .ok (.ifCond .ne 7, 3) := by decide +kernel
theorem dX8_faultOf_143 : decode cX8_faultOf 143 = .ok (.iconst 1, 1) := by decide +kernel
theorem dX8_faultOf_144 : decode cX8_faultOf 144 = .ok (.goto 4, 3) := by decide +kernel
theorem dX8_faultOf_147 : decode cX8_faultOf 147 = .ok (.iconst 0, 1) := by decide +kernel
theorem dX8_faultOf_148 : decode cX8_faultOf 148 = .ok (.istore 6, 2) := by decide +kernel
theorem dX8_faultOf_150 : decode cX8_faultOf 150 = .ok (.iload_n 2, 1) := by decide +kernel
theorem dX8_faultOf_151 : decode cX8_faultOf 151 = .ok (.iload 6, 2) := by decide +kernel
theorem dX8_faultOf_153 : decode cX8_faultOf 153 = .ok (.ifCond .eq 7, 3) := by decide +kernel
theorem dX8_faultOf_156 : decode cX8_faultOf 156 = .ok (.iconst 1, 1) := by decide +kernel
theorem dX8_faultOf_157 : decode cX8_faultOf 157 = .ok (.goto 4, 3) := by decide +kernel
theorem dX8_faultOf_160 : decode cX8_faultOf 160 = .ok (.iconst 0, 1) := by decide +kernel
theorem dX8_faultOf_161 : decode cX8_faultOf 161 = .ok (.isub, 1) := by decide +kernel
theorem dX8_faultOf_162 : decode cX8_faultOf 162 = .ok (.istore_n 2, 1) := by decide +kernel
theorem dX8_faultOf_163 : decode cX8_faultOf 163 = .ok (.iload 6, 2) := by decide +kernel
theorem dX8_faultOf_165 : decode cX8_faultOf 165 = .ok (.ifCond .eq 11, 3) := by decide +kernel
theorem dX8_faultOf_168 : decode cX8_faultOf 168 = .ok (.iload_n 2, 1) := by decide +kernel
theorem dX8_faultOf_169 : decode cX8_faultOf 169 = .ok (.ifCond .le 7, 3) := by decide +kernel
theorem dX8_faultOf_172 : decode cX8_faultOf 172 = .ok (.iconst 1, 1) := by decide +kernel
theorem dX8_faultOf_173 : decode cX8_faultOf 173 = .ok (.goto 4, 3) := by decide +kernel
theorem dX8_faultOf_176 : decode cX8_faultOf 176 = .ok (.iconst 0, 1) := by decide +kernel
theorem dX8_faultOf_177 : decode cX8_faultOf 177 = .ok (.istore 6, 2) := by decide +kernel
theorem dX8_faultOf_179 : decode cX8_faultOf 179 = .ok (.goto (-64), 3) := by decide +kernel
theorem dX8_faultOf_182 : decode cX8_faultOf 182 = .ok (.iload_n 2, 1) := by decide +kernel
theorem dX8_faultOf_183 : decode cX8_faultOf 183 = .ok (.ifCond .ne 18, 3) := by decide +kernel
theorem dX8_faultOf_186 : decode cX8_faultOf 186 = .ok (.iload_n 3, 1) := by decide +kernel
theorem dX8_faultOf_187 : decode cX8_faultOf 187 = .ok (.aload_n 0, 1) := by decide +kernel
theorem dX8_faultOf_188 : decode cX8_faultOf 188 = .ok (.getfield 89, 3) := by decide +kernel
theorem dX8_faultOf_191 : decode cX8_faultOf 191 = .ok (.if_icmp .ne 8, 3) := by decide +kernel
theorem dX8_faultOf_194 : decode cX8_faultOf 194 = .ok (.bipush (-6), 2) := by decide +kernel
theorem dX8_faultOf_196 : decode cX8_faultOf 196 = .ok (.goto 4, 3) := by decide +kernel
theorem dX8_faultOf_199 : decode cX8_faultOf 199 = .ok (.iload_n 3, 1) := by decide +kernel
theorem dX8_faultOf_200 : decode cX8_faultOf 200 = .ok (.ireturn, 1) := by decide +kernel
theorem dX8_faultOf_201 : decode cX8_faultOf 201 = .ok (.goto (-197), 3) := by decide +kernel
theorem dX8_faultOf_204 : decode cX8_faultOf 204 = .ok (.aload_n 0, 1) := by decide +kernel
theorem dX8_faultOf_205 : decode cX8_faultOf 205 = .ok (.getfield 89, 3) := by decide +kernel
theorem dX8_faultOf_208 : decode cX8_faultOf 208 = .ok (.ireturn, 1) := by decide +kernel
theorem dX8_fault_0 : decode cX8_fault 0 = .ok (.iload_n 1, 1) := by decide +kernel
theorem dX8_fault_1 : decode cX8_fault 1 = .ok (.iconst 0, 1) := by decide +kernel
theorem dX8_fault_2 : decode cX8_fault 2 = .ok (.iconst 1, 1) := by decide +kernel
theorem dX8_fault_3 : decode cX8_fault 3 = .ok (.invokestatic 85, 3) := by decide +kernel
theorem dX8_fault_6 : decode cX8_fault 6 = .ok (.ifCond .eq 20, 3) := by decide +kernel
theorem dX8_fault_9 : decode cX8_fault 9 = .ok (.aload_n 0, 1) := by decide +kernel
theorem dX8_fault_10 : decode cX8_fault 10 = .ok (.iload_n 1, 1) := by decide +kernel
theorem dX8_fault_11 : decode cX8_fault 11 = .ok (.iconst 1, 1) := by decide +kernel
theorem dX8_fault_12 : decode cX8_fault 12 = .ok (.if_icmp .ne 7, 3) := by decide +kernel
theorem dX8_fault_15 : decode cX8_fault 15 = .ok (.iconst 1, 1) := by decide +kernel
theorem dX8_fault_16 : decode cX8_fault 16 = .ok (.goto 4, 3) := by decide +kernel
theorem dX8_fault_19 : decode cX8_fault 19 = .ok (.iconst 0, 1) := by decide +kernel
theorem dX8_fault_20 : decode cX8_fault 20 = .ok (.invokevirtual 97, 3) := by decide +kernel
theorem dX8_fault_23 : decode cX8_fault 23 = .ok (.goto 5, 3) := by decide +kernel
theorem dX8_fault_26 : decode cX8_fault 26 = .ok (.bipush (-2), 2) := by decide +kernel
theorem dX8_fault_28 : decode cX8_fault 28 = .ok (.ireturn, 1) := by decide +kernel
theorem dX8_keep_0 : decode cX8_keep 0 = .ok (.aload_n 0, 1) := by decide +kernel
theorem dX8_keep_1 : decode cX8_keep 1 = .ok (.getfield 89, 3) := by decide +kernel
theorem dX8_keep_4 : decode cX8_keep 4 = .ok (.istore_n 2, 1) := by decide +kernel
theorem dX8_keep_5 : decode cX8_keep 5 = .ok (.iconst 0, 1) := by decide +kernel
theorem dX8_keep_6 : decode cX8_keep 6 = .ok (.istore_n 3, 1) := by decide +kernel
theorem dX8_keep_7 : decode cX8_keep 7 = .ok (.iload_n 3, 1) := by decide +kernel
theorem dX8_keep_8 : decode cX8_keep 8 = .ok (.iload_n 2, 1) := by decide +kernel
theorem dX8_keep_9 : decode cX8_keep 9 = .ok (.if_icmp .ge 26, 3) := by decide +kernel
theorem dX8_keep_12 : decode cX8_keep 12 = .ok (.aload_n 0, 1) := by decide +kernel
theorem dX8_keep_13 : decode cX8_keep 13 = .ok (.getfield 16, 3) := by decide +kernel
theorem dX8_keep_16 : decode cX8_keep 16 = .ok (.bipush 40, 2) := by decide +kernel
theorem dX8_keep_18 : decode cX8_keep 18 = .ok (.iload_n 1, 1) := by decide +kernel
theorem dX8_keep_19 : decode cX8_keep 19 = .ok (.imul, 1) := by decide +kernel
theorem dX8_keep_20 : decode cX8_keep 20 = .ok (.iload_n 3, 1) := by decide +kernel
theorem dX8_keep_21 : decode cX8_keep 21 = .ok (.iadd, 1) := by decide +kernel
theorem dX8_keep_22 : decode cX8_keep 22 = .ok (.aload_n 0, 1) := by decide +kernel
theorem dX8_keep_23 : decode cX8_keep 23 = .ok (.getfield 7, 3) := by decide +kernel
theorem dX8_keep_26 : decode cX8_keep 26 = .ok (.iload_n 3, 1) := by decide +kernel
theorem dX8_keep_27 : decode cX8_keep 27 = .ok (.iaload, 1) := by decide +kernel
theorem dX8_keep_28 : decode cX8_keep 28 = .ok (.iastore, 1) := by decide +kernel
theorem dX8_keep_29 : decode cX8_keep 29 = .ok (.iinc 3 1, 3) := by decide +kernel
theorem dX8_keep_32 : decode cX8_keep 32 = .ok (.goto (-25), 3) := by decide +kernel
theorem dX8_keep_35 : decode cX8_keep 35 = .ok (.aload_n 0, 1) := by decide +kernel
theorem dX8_keep_36 : decode cX8_keep 36 = .ok (.getfield 13, 3) := by decide +kernel
theorem dX8_keep_39 : decode cX8_keep 39 = .ok (.iload_n 1, 1) := by decide +kernel
theorem dX8_keep_40 : decode cX8_keep 40 = .ok (.iload_n 2, 1) := by decide +kernel
theorem dX8_keep_41 : decode cX8_keep 41 = .ok (.iastore, 1) := by decide +kernel
theorem dX8_keep_42 : decode cX8_keep 42 = .ok (.iload_n 2, 1) := by decide +kernel
theorem dX8_keep_43 : decode cX8_keep 43 = .ok (.iconst 1, 1) := by decide +kernel
theorem dX8_keep_44 : decode cX8_keep 44 = .ok (.isub, 1) := by decide +kernel
theorem dX8_keep_45 : decode cX8_keep 45 = .ok (.istore_n 3, 1) := by decide +kernel
theorem dX8_keep_46 : decode cX8_keep 46 = .ok (.iload_n 3, 1) := by decide +kernel
theorem dX8_keep_47 : decode cX8_keep 47 = .ok (.ifCond .lt 133, 3) := by decide +kernel
theorem dX8_keep_50 : decode cX8_keep 50 = .ok (.bipush 40, 2) := by decide +kernel
theorem dX8_keep_52 : decode cX8_keep 52 = .ok (.iload_n 1, 1) := by decide +kernel
theorem dX8_keep_53 : decode cX8_keep 53 = .ok (.imul, 1) := by decide +kernel
theorem dX8_keep_54 : decode cX8_keep 54 = .ok (.iload_n 3, 1) := by decide +kernel
theorem dX8_keep_55 : decode cX8_keep 55 = .ok (.iadd, 1) := by decide +kernel
theorem dX8_keep_56 : decode cX8_keep 56 = .ok (.istore 4, 2) := by decide +kernel
theorem dX8_keep_58 : decode cX8_keep 58 = .ok (.iload_n 3, 1) := by decide +kernel
theorem dX8_keep_59 : decode cX8_keep 59 = .ok (.ifCond .le 20, 3) := by decide +kernel
theorem dX8_keep_62 : decode cX8_keep 62 = .ok (.aload_n 0, 1) := by decide +kernel
theorem dX8_keep_63 : decode cX8_keep 63 = .ok (.getfield 7, 3) := by decide +kernel
theorem dX8_keep_66 : decode cX8_keep 66 = .ok (.iload_n 3, 1) := by decide +kernel
theorem dX8_keep_67 : decode cX8_keep 67 = .ok (.iconst 1, 1) := by decide +kernel
theorem dX8_keep_68 : decode cX8_keep 68 = .ok (.isub, 1) := by decide +kernel
theorem dX8_keep_69 : decode cX8_keep 69 = .ok (.iaload, 1) := by decide +kernel
theorem dX8_keep_70 : decode cX8_keep 70 = .ok (.bipush 64, 2) := by decide +kernel
theorem dX8_keep_72 : decode cX8_keep 72 = .ok (.if_icmp .ne 7, 3) := by decide +kernel
theorem dX8_keep_75 : decode cX8_keep 75 = .ok (.iconst 1, 1) := by decide +kernel
theorem dX8_keep_76 : decode cX8_keep 76 = .ok (.goto 4, 3) := by decide +kernel
theorem dX8_keep_79 : decode cX8_keep 79 = .ok (.iconst 0, 1) := by decide +kernel
theorem dX8_keep_80 : decode cX8_keep 80 = .ok (.istore 5, 2) := by decide +kernel
theorem dX8_keep_82 : decode cX8_keep 82 = .ok (.aload_n 0, 1) := by decide +kernel
theorem dX8_keep_83 : decode cX8_keep 83 = .ok (.getfield 19, 3) := by decide +kernel
theorem dX8_keep_86 : decode cX8_keep 86 = .ok (.iload 4, 2) := by decide +kernel
theorem dX8_keep_88 : decode cX8_keep 88 = .ok (.iconst 1, 1) := by decide +kernel
theorem dX8_keep_89 : decode cX8_keep 89 = .ok (.aload_n 0, 1) := by decide +kernel
theorem dX8_keep_90 : decode cX8_keep 90 = .ok (.getfield 7, 3) := by decide +kernel
theorem dX8_keep_93 : decode cX8_keep 93 = .ok (.iload_n 3, 1) := by decide +kernel
theorem dX8_keep_94 : decode cX8_keep 94 = .ok (.iaload, 1) := by decide +kernel
theorem dX8_keep_95 : decode cX8_keep 95 = .ok (.bipush 64, 2) := by decide +kernel
theorem dX8_keep_97 : decode cX8_keep 97 = .ok (.if_icmp .ne 12, 3) := by decide +kernel
theorem dX8_keep_100 : decode cX8_keep 100 = .ok (.iload 5, 2) := by decide +kernel
theorem dX8_keep_102 : decode cX8_keep 102 = .ok (.ifCond .ne 7, 3) := by decide +kernel
theorem dX8_keep_105 : decode cX8_keep 105 = .ok (.iconst 1, 1) := by decide +kernel
theorem dX8_keep_106 : decode cX8_keep 106 = .ok (.goto 4, 3) := by decide +kernel
theorem dX8_keep_109 : decode cX8_keep 109 = .ok (.iconst 0, 1) := by decide +kernel
theorem dX8_keep_110 : decode cX8_keep 110 = .ok (.iadd, 1) := by decide +kernel
theorem dX8_keep_111 : decode cX8_keep 111 = .ok (.iastore, 1) := by decide +kernel
theorem dX8_keep_112 : decode cX8_keep 112 = .ok (.iload 5, 2) := by decide +kernel
theorem dX8_keep_114 : decode cX8_keep 114 = .ok (.ifCond .eq 7, 3) := by decide +kernel
theorem dX8_keep_117 : decode cX8_keep 117 = .ok (.iconst 0, 1) := by decide +kernel
theorem dX8_keep_118 : decode cX8_keep 118 = .ok (.goto 13, 3) := by decide +kernel
theorem dX8_keep_121 : decode cX8_keep 121 = .ok (.aload_n 0, 1) := by decide +kernel
theorem dX8_keep_122 : decode cX8_keep 122 = .ok (.getfield 7, 3) := by decide +kernel
theorem dX8_keep_125 : decode cX8_keep 125 = .ok (.iload_n 3, 1) := by decide +kernel
theorem dX8_keep_126 : decode cX8_keep 126 = .ok (.iaload, 1) := by decide +kernel
theorem dX8_keep_127 : decode cX8_keep 127 = .ok (.iconst 1, 1) := by decide +kernel
theorem dX8_keep_128 : decode cX8_keep 128 = .ok (.invokestatic 93, 3) := by decide +kernel
theorem dX8_keep_131 : decode cX8_keep 131 = .ok (.istore 6, 2) := by decide +kernel
theorem dX8_keep_133 : decode cX8_keep 133 = .ok (.iconst 0, 1) := by decide +kernel
theorem dX8_keep_134 : decode cX8_keep 134 = .ok (.istore 7, 2) := by decide +kernel
theorem dX8_keep_136 : decode cX8_keep 136 = .ok (.iload 7, 2) := by decide +kernel
theorem dX8_keep_138 : decode cX8_keep 138 = .ok (.iload 6, 2) := by decide +kernel
theorem dX8_keep_140 : decode cX8_keep 140 = .ok (.if_icmp .ge 34, 3) := by decide +kernel
theorem dX8_keep_143 : decode cX8_keep 143 = .ok (.aload_n 0, 1) := by decide +kernel
theorem dX8_keep_144 : decode cX8_keep 144 = .ok (.getfield 19, 3) := by decide +kernel
theorem dX8_keep_147 : decode cX8_keep 147 = .ok (.iload 4, 2) := by decide +kernel
theorem dX8_keep_149 : decode cX8_keep 149 = .ok (.dup2, 1) := by decide +kernel
theorem dX8_keep_150 : decode cX8_keep 150 = .ok (.iaload, 1) := by decide +kernel
theorem dX8_keep_151 : decode cX8_keep 151 = .ok (.aload_n 0, 1) := by decide +kernel
theorem dX8_keep_152 : decode cX8_keep 152 = .ok (.getfield 19, 3) := by decide +kernel
theorem dX8_keep_155 : decode cX8_keep 155 = .ok (.iload 4, 2) := by decide +kernel
theorem dX8_keep_157 : decode cX8_keep 157 = .ok (.aload_n 0, 1) := by decide +kernel
theorem dX8_keep_158 : decode cX8_keep 158 = .ok (.getfield 19, 3) := by decide +kernel
theorem dX8_keep_161 : decode cX8_keep 161 = .ok (.iload 4, 2) := by decide +kernel
theorem dX8_keep_163 : decode cX8_keep 163 = .ok (.iaload, 1) := by decide +kernel
theorem dX8_keep_164 : decode cX8_keep 164 = .ok (.iadd, 1) := by decide +kernel
theorem dX8_keep_165 : decode cX8_keep 165 = .ok (.iaload, 1) := by decide +kernel
theorem dX8_keep_166 : decode cX8_keep 166 = .ok (.iadd, 1) := by decide +kernel
theorem dX8_keep_167 : decode cX8_keep 167 = .ok (.iastore, 1) := by decide +kernel
theorem dX8_keep_168 : decode cX8_keep 168 = .ok (.iinc 7 1, 3) := by decide +kernel
theorem dX8_keep_171 : decode cX8_keep 171 = .ok (.goto (-35), 3) := by decide +kernel
theorem dX8_keep_174 : decode cX8_keep 174 = .ok (.iinc 3 (-1), 3) := by decide +kernel
theorem dX8_keep_177 : decode cX8_keep 177 = .ok (.goto (-131), 3) := by decide +kernel
theorem dX8_keep_180 : decode cX8_keep 180 = .ok (.aload_n 0, 1) := by decide +kernel
theorem dX8_keep_181 : decode cX8_keep 181 = .ok (.iconst 0, 1) := by decide +kernel
theorem dX8_keep_182 : decode cX8_keep 182 = .ok (.putfield 89, 3) := by decide +kernel
theorem dX8_keep_185 : decode cX8_keep 185 = .ok (.iload_n 2, 1) := by decide +kernel
theorem dX8_keep_186 : decode cX8_keep 186 = .ok (.ireturn, 1) := by decide +kernel
theorem dX8_text_0 : decode cX8_text 0 = .ok (.iload_n 1, 1) := by decide +kernel
theorem dX8_text_1 : decode cX8_text 1 = .ok (.invokestatic 101, 3) := by decide +kernel
theorem dX8_text_4 : decode cX8_text 4 = .ok (.ifCond .ne 5, 3) := by decide +kernel
theorem dX8_text_7 : decode cX8_text 7 = .ok (.iconst (-1), 1) := by decide +kernel
theorem dX8_text_8 : decode cX8_text 8 = .ok (.ireturn, 1) := by decide +kernel
theorem dX8_text_9 : decode cX8_text 9 = .ok (.aload_n 0, 1) := by decide +kernel
theorem dX8_text_10 : decode cX8_text 10 = .ok (.iconst 0, 1) := by decide +kernel
theorem dX8_text_11 : decode cX8_text 11 = .ok (.invokevirtual 97, 3) := by decide +kernel
theorem dX8_text_14 : decode cX8_text 14 = .ok (.ifCond .lt 8, 3) := by decide +kernel
theorem dX8_text_17 : decode cX8_text 17 = .ok (.bipush (-5), 2) := by decide +kernel
theorem dX8_text_19 : decode cX8_text 19 = .ok (.goto 8, 3) := by decide +kernel
theorem dX8_text_22 : decode cX8_text 22 = .ok (.aload_n 0, 1) := by decide +kernel
theorem dX8_text_23 : decode cX8_text 23 = .ok (.iload_n 1, 1) := by decide +kernel
theorem dX8_text_24 : decode cX8_text 24 = .ok (.invokevirtual 105, 3) := by decide +kernel
theorem dX8_text_27 : decode cX8_text 27 = .ok (.ireturn, 1) := by decide +kernel
theorem dX8_clauseOf_0 : decode cX8_clauseOf 0 = .ok (.iconst 4, 1) := by decide +kernel
theorem dX8_clauseOf_1 : decode cX8_clauseOf 1 = .ok (.iconst 4, 1) := by decide +kernel
theorem dX8_clauseOf_2 : decode cX8_clauseOf 2 = .ok (.iload_n 0, 1) := by decide +kernel
theorem dX8_clauseOf_3 : decode cX8_clauseOf 3 = .ok (.imul, 1) := by decide +kernel
theorem dX8_clauseOf_4 : decode cX8_clauseOf 4 = .ok (.iadd, 1) := by decide +kernel
theorem dX8_clauseOf_5 : decode cX8_clauseOf 5 = .ok (.iload_n 1, 1) := by decide +kernel
theorem dX8_clauseOf_6 : decode cX8_clauseOf 6 = .ok (.iadd, 1) := by decide +kernel
theorem dX8_clauseOf_7 : decode cX8_clauseOf 7 = .ok (.ireturn, 1) := by decide +kernel
theorem dX8_clause_0 : decode cX8_clause 0 = .ok (.iload_n 1, 1) := by decide +kernel
theorem dX8_clause_1 : decode cX8_clause 1 = .ok (.invokestatic 101, 3) := by decide +kernel
theorem dX8_clause_4 : decode cX8_clause 4 = .ok (.ifCond .eq 10, 3) := by decide +kernel
theorem dX8_clause_7 : decode cX8_clause 7 = .ok (.iload_n 2, 1) := by decide +kernel
theorem dX8_clause_8 : decode cX8_clause 8 = .ok (.invokestatic 101, 3) := by decide +kernel
theorem dX8_clause_11 : decode cX8_clause 11 = .ok (.ifCond .ne 5, 3) := by decide +kernel
theorem dX8_clause_14 : decode cX8_clause 14 = .ok (.iconst (-1), 1) := by decide +kernel
theorem dX8_clause_15 : decode cX8_clause 15 = .ok (.ireturn, 1) := by decide +kernel
theorem dX8_clause_16 : decode cX8_clause 16 = .ok (.aload_n 0, 1) := by decide +kernel
theorem dX8_clause_17 : decode cX8_clause 17 = .ok (.iload_n 2, 1) := by decide +kernel
theorem dX8_clause_18 : decode cX8_clause 18 = .ok (.iconst 3, 1) := by decide +kernel
theorem dX8_clause_19 : decode cX8_clause 19 = .ok (.if_icmp .ge 7, 3) := by decide +kernel
theorem dX8_clause_22 : decode cX8_clause 22 = .ok (.iconst 1, 1) := by decide +kernel
theorem dX8_clause_23 : decode cX8_clause 23 = .ok (.goto 4, 3) := by decide +kernel
theorem dX8_clause_26 : decode cX8_clause 26 = .ok (.iconst 0, 1) := by decide +kernel
theorem dX8_clause_27 : decode cX8_clause 27 = .ok (.invokevirtual 97, 3) := by decide +kernel
theorem dX8_clause_30 : decode cX8_clause 30 = .ok (.ifCond .lt 8, 3) := by decide +kernel
theorem dX8_clause_33 : decode cX8_clause 33 = .ok (.bipush (-5), 2) := by decide +kernel
theorem dX8_clause_35 : decode cX8_clause 35 = .ok (.goto 12, 3) := by decide +kernel
theorem dX8_clause_38 : decode cX8_clause 38 = .ok (.aload_n 0, 1) := by decide +kernel
theorem dX8_clause_39 : decode cX8_clause 39 = .ok (.iload_n 1, 1) := by decide +kernel
theorem dX8_clause_40 : decode cX8_clause 40 = .ok (.iload_n 2, 1) := by decide +kernel
theorem dX8_clause_41 : decode cX8_clause 41 = .ok (.invokestatic 109, 3) := by decide +kernel
theorem dX8_clause_44 : decode cX8_clause 44 = .ok (.invokevirtual 105, 3) := by decide +kernel
theorem dX8_clause_47 : decode cX8_clause 47 = .ok (.ireturn, 1) := by decide +kernel
theorem dX8_drop_0 : decode cX8_drop 0 = .ok (.iload_n 1, 1) := by decide +kernel
theorem dX8_drop_1 : decode cX8_drop 1 = .ok (.invokestatic 101, 3) := by decide +kernel
theorem dX8_drop_4 : decode cX8_drop 4 = .ok (.ifCond .eq 10, 3) := by decide +kernel
theorem dX8_drop_7 : decode cX8_drop 7 = .ok (.iload_n 2, 1) := by decide +kernel
theorem dX8_drop_8 : decode cX8_drop 8 = .ok (.invokestatic 101, 3) := by decide +kernel
theorem dX8_drop_11 : decode cX8_drop 11 = .ok (.ifCond .ne 5, 3) := by decide +kernel
theorem dX8_drop_14 : decode cX8_drop 14 = .ok (.iconst (-1), 1) := by decide +kernel
theorem dX8_drop_15 : decode cX8_drop 15 = .ok (.ireturn, 1) := by decide +kernel
theorem dX8_drop_16 : decode cX8_drop 16 = .ok (.aload_n 0, 1) := by decide +kernel
theorem dX8_drop_17 : decode cX8_drop 17 = .ok (.getfield 13, 3) := by decide +kernel
theorem dX8_drop_20 : decode cX8_drop 20 = .ok (.iload_n 1, 1) := by decide +kernel
theorem dX8_drop_21 : decode cX8_drop 21 = .ok (.iload_n 2, 1) := by decide +kernel
theorem dX8_drop_22 : decode cX8_drop 22 = .ok (.invokestatic 109, 3) := by decide +kernel
theorem dX8_drop_25 : decode cX8_drop 25 = .ok (.iaload, 1) := by decide +kernel
theorem dX8_drop_26 : decode cX8_drop 26 = .ok (.istore_n 3, 1) := by decide +kernel
theorem dX8_drop_27 : decode cX8_drop 27 = .ok (.aload_n 0, 1) := by decide +kernel
theorem dX8_drop_28 : decode cX8_drop 28 = .ok (.getfield 13, 3) := by decide +kernel
theorem dX8_drop_31 : decode cX8_drop 31 = .ok (.iload_n 1, 1) := by decide +kernel
theorem dX8_drop_32 : decode cX8_drop 32 = .ok (.iload_n 2, 1) := by decide +kernel
theorem dX8_drop_33 : decode cX8_drop 33 = .ok (.invokestatic 109, 3) := by decide +kernel
theorem dX8_drop_36 : decode cX8_drop 36 = .ok (.iconst 0, 1) := by decide +kernel
theorem dX8_drop_37 : decode cX8_drop 37 = .ok (.iastore, 1) := by decide +kernel
theorem dX8_drop_38 : decode cX8_drop 38 = .ok (.iload_n 3, 1) := by decide +kernel
theorem dX8_drop_39 : decode cX8_drop 39 = .ok (.ifCond .ne 8, 3) := by decide +kernel
theorem dX8_drop_42 : decode cX8_drop 42 = .ok (.bipush (-5), 2) := by decide +kernel
theorem dX8_drop_44 : decode cX8_drop 44 = .ok (.goto 4, 3) := by decide +kernel
theorem dX8_drop_47 : decode cX8_drop 47 = .ok (.iload_n 3, 1) := by decide +kernel
theorem dX8_drop_48 : decode cX8_drop 48 = .ok (.ireturn, 1) := by decide +kernel
theorem dX8_hasClause_0 : decode cX8_hasClause 0 = .ok (.aload_n 0, 1) := by decide +kernel
theorem dX8_hasClause_1 : decode cX8_hasClause 1 = .ok (.getfield 13, 3) := by decide +kernel
theorem dX8_hasClause_4 : decode cX8_hasClause 4 = .ok (.iload_n 1, 1) := by decide +kernel
theorem dX8_hasClause_5 : decode cX8_hasClause 5 = .ok (.iload_n 2, 1) := by decide +kernel
theorem dX8_hasClause_6 : decode cX8_hasClause 6 = .ok (.invokestatic 109, 3) := by decide +kernel
theorem dX8_hasClause_9 : decode cX8_hasClause 9 = .ok (.iaload, 1) := by decide +kernel
theorem dX8_hasClause_10 : decode cX8_hasClause 10 = .ok (.ifCond .le 7, 3) := by decide +kernel
theorem dX8_hasClause_13 : decode cX8_hasClause 13 = .ok (.iconst 1, 1) := by decide +kernel
theorem dX8_hasClause_14 : decode cX8_hasClause 14 = .ok (.goto 4, 3) := by decide +kernel
theorem dX8_hasClause_17 : decode cX8_hasClause 17 = .ok (.iconst 0, 1) := by decide +kernel
theorem dX8_hasClause_18 : decode cX8_hasClause 18 = .ok (.ireturn, 1) := by decide +kernel
theorem dX8_has_0 : decode cX8_has 0 = .ok (.iload_n 1, 1) := by decide +kernel
theorem dX8_has_1 : decode cX8_has 1 = .ok (.invokestatic 101, 3) := by decide +kernel
theorem dX8_has_4 : decode cX8_has 4 = .ok (.ifCond .ne 5, 3) := by decide +kernel
theorem dX8_has_7 : decode cX8_has 7 = .ok (.iconst (-1), 1) := by decide +kernel
theorem dX8_has_8 : decode cX8_has 8 = .ok (.ireturn, 1) := by decide +kernel
theorem dX8_has_9 : decode cX8_has 9 = .ok (.iconst 0, 1) := by decide +kernel
theorem dX8_has_10 : decode cX8_has 10 = .ok (.istore_n 2, 1) := by decide +kernel
theorem dX8_has_11 : decode cX8_has 11 = .ok (.iconst 0, 1) := by decide +kernel
theorem dX8_has_12 : decode cX8_has 12 = .ok (.istore_n 3, 1) := by decide +kernel
theorem dX8_has_13 : decode cX8_has 13 = .ok (.iload_n 3, 1) := by decide +kernel
theorem dX8_has_14 : decode cX8_has 14 = .ok (.iconst 4, 1) := by decide +kernel
theorem dX8_has_15 : decode cX8_has 15 = .ok (.if_icmp .ge 28, 3) := by decide +kernel
theorem dX8_has_18 : decode cX8_has 18 = .ok (.iload_n 2, 1) := by decide +kernel
theorem dX8_has_19 : decode cX8_has 19 = .ok (.aload_n 0, 1) := by decide +kernel
theorem dX8_has_20 : decode cX8_has 20 = .ok (.iload_n 1, 1) := by decide +kernel
theorem dX8_has_21 : decode cX8_has 21 = .ok (.iload_n 3, 1) := by decide +kernel
theorem dX8_has_22 : decode cX8_has 22 = .ok (.invokevirtual 113, 3) := by decide +kernel
theorem dX8_has_25 : decode cX8_has 25 = .ok (.ifCond .eq 9, 3) := by decide +kernel
theorem dX8_has_28 : decode cX8_has 28 = .ok (.iconst 1, 1) := by decide +kernel
theorem dX8_has_29 : decode cX8_has 29 = .ok (.iload_n 3, 1) := by decide +kernel
theorem dX8_has_30 : decode cX8_has 30 = .ok (.ishl, 1) := by decide +kernel
theorem dX8_has_31 : decode cX8_has 31 = .ok (.goto 4, 3) := by decide +kernel
theorem dX8_has_34 : decode cX8_has 34 = .ok (.iconst 0, 1) := by decide +kernel
theorem dX8_has_35 : decode cX8_has 35 = .ok (.ior, 1) := by decide +kernel
theorem dX8_has_36 : decode cX8_has 36 = .ok (.istore_n 2, 1) := by decide +kernel
theorem dX8_has_37 : decode cX8_has 37 = .ok (.iinc 3 1, 3) := by decide +kernel
theorem dX8_has_40 : decode cX8_has 40 = .ok (.goto (-27), 3) := by decide +kernel
theorem dX8_has_43 : decode cX8_has 43 = .ok (.iload_n 2, 1) := by decide +kernel
theorem dX8_has_44 : decode cX8_has 44 = .ok (.ireturn, 1) := by decide +kernel
theorem dX8_reply_0 : decode cX8_reply 0 = .ok (.iload_n 1, 1) := by decide +kernel
theorem dX8_reply_1 : decode cX8_reply 1 = .ok (.iconst 0, 1) := by decide +kernel
theorem dX8_reply_2 : decode cX8_reply 2 = .ok (.bipush 7, 2) := by decide +kernel
theorem dX8_reply_4 : decode cX8_reply 4 = .ok (.invokestatic 85, 3) := by decide +kernel
theorem dX8_reply_7 : decode cX8_reply 7 = .ok (.ifCond .ne 6, 3) := by decide +kernel
theorem dX8_reply_10 : decode cX8_reply 10 = .ok (.bipush (-2), 2) := by decide +kernel
theorem dX8_reply_12 : decode cX8_reply 12 = .ok (.ireturn, 1) := by decide +kernel
theorem dX8_reply_13 : decode cX8_reply 13 = .ok (.aload_n 0, 1) := by decide +kernel
theorem dX8_reply_14 : decode cX8_reply 14 = .ok (.getfield 117, 3) := by decide +kernel
theorem dX8_reply_17 : decode cX8_reply 17 = .ok (.bipush 8, 2) := by decide +kernel
theorem dX8_reply_19 : decode cX8_reply 19 = .ok (.if_icmp .ne 6, 3) := by decide +kernel
theorem dX8_reply_22 : decode cX8_reply 22 = .ok (.bipush (-4), 2) := by decide +kernel
theorem dX8_reply_24 : decode cX8_reply 24 = .ok (.ireturn, 1) := by decide +kernel
theorem dX8_reply_25 : decode cX8_reply 25 = .ok (.aload_n 0, 1) := by decide +kernel
theorem dX8_reply_26 : decode cX8_reply 26 = .ok (.getfield 22, 3) := by decide +kernel
theorem dX8_reply_29 : decode cX8_reply 29 = .ok (.aload_n 0, 1) := by decide +kernel
theorem dX8_reply_30 : decode cX8_reply 30 = .ok (.getfield 117, 3) := by decide +kernel
theorem dX8_reply_33 : decode cX8_reply 33 = .ok (.iload_n 1, 1) := by decide +kernel
theorem dX8_reply_34 : decode cX8_reply 34 = .ok (.iastore, 1) := by decide +kernel
theorem dX8_reply_35 : decode cX8_reply 35 = .ok (.aload_n 0, 1) := by decide +kernel
theorem dX8_reply_36 : decode cX8_reply 36 = .ok (.dup, 1) := by decide +kernel
theorem dX8_reply_37 : decode cX8_reply 37 = .ok (.getfield 117, 3) := by decide +kernel
theorem dX8_reply_40 : decode cX8_reply 40 = .ok (.iconst 1, 1) := by decide +kernel
theorem dX8_reply_41 : decode cX8_reply 41 = .ok (.iadd, 1) := by decide +kernel
theorem dX8_reply_42 : decode cX8_reply 42 = .ok (.putfield 117, 3) := by decide +kernel
theorem dX8_reply_45 : decode cX8_reply 45 = .ok (.aload_n 0, 1) := by decide +kernel
theorem dX8_reply_46 : decode cX8_reply 46 = .ok (.getfield 117, 3) := by decide +kernel
theorem dX8_reply_49 : decode cX8_reply 49 = .ok (.ireturn, 1) := by decide +kernel
theorem dX8_mute_0 : decode cX8_mute 0 = .ok (.aload_n 0, 1) := by decide +kernel
theorem dX8_mute_1 : decode cX8_mute 1 = .ok (.getfield 117, 3) := by decide +kernel
theorem dX8_mute_4 : decode cX8_mute 4 = .ok (.istore_n 1, 1) := by decide +kernel
theorem dX8_mute_5 : decode cX8_mute 5 = .ok (.aload_n 0, 1) := by decide +kernel
theorem dX8_mute_6 : decode cX8_mute 6 = .ok (.iconst 0, 1) := by decide +kernel
theorem dX8_mute_7 : decode cX8_mute 7 = .ok (.putfield 117, 3) := by decide +kernel
theorem dX8_mute_10 : decode cX8_mute 10 = .ok (.iload_n 1, 1) := by decide +kernel
theorem dX8_mute_11 : decode cX8_mute 11 = .ok (.ireturn, 1) := by decide +kernel
theorem dX8_wait_0 : decode cX8_wait 0 = .ok (.aload_n 0, 1) := by decide +kernel
theorem dX8_wait_1 : decode cX8_wait 1 = .ok (.dup, 1) := by decide +kernel
theorem dX8_wait_2 : decode cX8_wait 2 = .ok (.getfield 120, 3) := by decide +kernel
theorem dX8_wait_5 : decode cX8_wait 5 = .ok (.iconst 1, 1) := by decide +kernel
theorem dX8_wait_6 : decode cX8_wait 6 = .ok (.iadd, 1) := by decide +kernel
theorem dX8_wait_7 : decode cX8_wait 7 = .ok (.putfield 120, 3) := by decide +kernel
theorem dX8_wait_10 : decode cX8_wait 10 = .ok (.aload_n 0, 1) := by decide +kernel
theorem dX8_wait_11 : decode cX8_wait 11 = .ok (.getfield 28, 3) := by decide +kernel
theorem dX8_wait_14 : decode cX8_wait 14 = .ok (.aload_n 0, 1) := by decide +kernel
theorem dX8_wait_15 : decode cX8_wait 15 = .ok (.getfield 120, 3) := by decide +kernel
theorem dX8_wait_18 : decode cX8_wait 18 = .ok (.iload_n 1, 1) := by decide +kernel
theorem dX8_wait_19 : decode cX8_wait 19 = .ok (.iastore, 1) := by decide +kernel
theorem dX8_wait_20 : decode cX8_wait 20 = .ok (.aload_n 0, 1) := by decide +kernel
theorem dX8_wait_21 : decode cX8_wait 21 = .ok (.getfield 31, 3) := by decide +kernel
theorem dX8_wait_24 : decode cX8_wait 24 = .ok (.aload_n 0, 1) := by decide +kernel
theorem dX8_wait_25 : decode cX8_wait 25 = .ok (.getfield 120, 3) := by decide +kernel
theorem dX8_wait_28 : decode cX8_wait 28 = .ok (.iload_n 2, 1) := by decide +kernel
theorem dX8_wait_29 : decode cX8_wait 29 = .ok (.iastore, 1) := by decide +kernel
theorem dX8_wait_30 : decode cX8_wait 30 = .ok (.aload_n 0, 1) := by decide +kernel
theorem dX8_wait_31 : decode cX8_wait 31 = .ok (.getfield 34, 3) := by decide +kernel
theorem dX8_wait_34 : decode cX8_wait 34 = .ok (.aload_n 0, 1) := by decide +kernel
theorem dX8_wait_35 : decode cX8_wait 35 = .ok (.getfield 120, 3) := by decide +kernel
theorem dX8_wait_38 : decode cX8_wait 38 = .ok (.iload_n 3, 1) := by decide +kernel
theorem dX8_wait_39 : decode cX8_wait 39 = .ok (.iastore, 1) := by decide +kernel
theorem dX8_wait_40 : decode cX8_wait 40 = .ok (.aload_n 0, 1) := by decide +kernel
theorem dX8_wait_41 : decode cX8_wait 41 = .ok (.getfield 37, 3) := by decide +kernel
theorem dX8_wait_44 : decode cX8_wait 44 = .ok (.aload_n 0, 1) := by decide +kernel
theorem dX8_wait_45 : decode cX8_wait 45 = .ok (.getfield 120, 3) := by decide +kernel
theorem dX8_wait_48 : decode cX8_wait 48 = .ok (.iload 4, 2) := by decide +kernel
theorem dX8_wait_50 : decode cX8_wait 50 = .ok (.iastore, 1) := by decide +kernel
theorem dX8_wait_51 : decode cX8_wait 51 = .ok (.aload_n 0, 1) := by decide +kernel
theorem dX8_wait_52 : decode cX8_wait 52 = .ok (.getfield 40, 3) := by decide +kernel
theorem dX8_wait_55 : decode cX8_wait 55 = .ok (.aload_n 0, 1) := by decide +kernel
theorem dX8_wait_56 : decode cX8_wait 56 = .ok (.getfield 120, 3) := by decide +kernel
theorem dX8_wait_59 : decode cX8_wait 59 = .ok (.iload 5, 2) := by decide +kernel
theorem dX8_wait_61 : decode cX8_wait 61 = .ok (.iastore, 1) := by decide +kernel
theorem dX8_wait_62 : decode cX8_wait 62 = .ok (.aload_n 0, 1) := by decide +kernel
theorem dX8_wait_63 : decode cX8_wait 63 = .ok (.getfield 43, 3) := by decide +kernel
theorem dX8_wait_66 : decode cX8_wait 66 = .ok (.aload_n 0, 1) := by decide +kernel
theorem dX8_wait_67 : decode cX8_wait 67 = .ok (.getfield 120, 3) := by decide +kernel
theorem dX8_wait_70 : decode cX8_wait 70 = .ok (.aload_n 0, 1) := by decide +kernel
theorem dX8_wait_71 : decode cX8_wait 71 = .ok (.getfield 123, 3) := by decide +kernel
theorem dX8_wait_74 : decode cX8_wait 74 = .ok (.iastore, 1) := by decide +kernel
theorem dX8_wait_75 : decode cX8_wait 75 = .ok (.aload_n 0, 1) := by decide +kernel
theorem dX8_wait_76 : decode cX8_wait 76 = .ok (.aload_n 0, 1) := by decide +kernel
theorem dX8_wait_77 : decode cX8_wait 77 = .ok (.getfield 120, 3) := by decide +kernel
theorem dX8_wait_80 : decode cX8_wait 80 = .ok (.putfield 123, 3) := by decide +kernel
theorem dX8_wait_83 : decode cX8_wait 83 = .ok (.return_, 1) := by decide +kernel
theorem dX8_lay_0 : decode cX8_lay 0 = .ok (.aload_n 0, 1) := by decide +kernel
theorem dX8_lay_1 : decode cX8_lay 1 = .ok (.dup, 1) := by decide +kernel
theorem dX8_lay_2 : decode cX8_lay 2 = .ok (.getfield 126, 3) := by decide +kernel
theorem dX8_lay_5 : decode cX8_lay 5 = .ok (.iconst 1, 1) := by decide +kernel
theorem dX8_lay_6 : decode cX8_lay 6 = .ok (.iadd, 1) := by decide +kernel
theorem dX8_lay_7 : decode cX8_lay 7 = .ok (.putfield 126, 3) := by decide +kernel
theorem dX8_lay_10 : decode cX8_lay 10 = .ok (.aload_n 0, 1) := by decide +kernel
theorem dX8_lay_11 : decode cX8_lay 11 = .ok (.getfield 46, 3) := by decide +kernel
theorem dX8_lay_14 : decode cX8_lay 14 = .ok (.aload_n 0, 1) := by decide +kernel
theorem dX8_lay_15 : decode cX8_lay 15 = .ok (.getfield 126, 3) := by decide +kernel
theorem dX8_lay_18 : decode cX8_lay 18 = .ok (.iload_n 1, 1) := by decide +kernel
theorem dX8_lay_19 : decode cX8_lay 19 = .ok (.iastore, 1) := by decide +kernel
theorem dX8_lay_20 : decode cX8_lay 20 = .ok (.aload_n 0, 1) := by decide +kernel
theorem dX8_lay_21 : decode cX8_lay 21 = .ok (.getfield 49, 3) := by decide +kernel
theorem dX8_lay_24 : decode cX8_lay 24 = .ok (.aload_n 0, 1) := by decide +kernel
theorem dX8_lay_25 : decode cX8_lay 25 = .ok (.getfield 126, 3) := by decide +kernel
theorem dX8_lay_28 : decode cX8_lay 28 = .ok (.iload_n 2, 1) := by decide +kernel
theorem dX8_lay_29 : decode cX8_lay 29 = .ok (.iastore, 1) := by decide +kernel
theorem dX8_lay_30 : decode cX8_lay 30 = .ok (.aload_n 0, 1) := by decide +kernel
theorem dX8_lay_31 : decode cX8_lay 31 = .ok (.getfield 52, 3) := by decide +kernel
theorem dX8_lay_34 : decode cX8_lay 34 = .ok (.aload_n 0, 1) := by decide +kernel
theorem dX8_lay_35 : decode cX8_lay 35 = .ok (.getfield 126, 3) := by decide +kernel
theorem dX8_lay_38 : decode cX8_lay 38 = .ok (.aload_n 0, 1) := by decide +kernel
theorem dX8_lay_39 : decode cX8_lay 39 = .ok (.getfield 129, 3) := by decide +kernel
theorem dX8_lay_42 : decode cX8_lay 42 = .ok (.iastore, 1) := by decide +kernel
theorem dX8_lay_43 : decode cX8_lay 43 = .ok (.aload_n 0, 1) := by decide +kernel
theorem dX8_lay_44 : decode cX8_lay 44 = .ok (.aload_n 0, 1) := by decide +kernel
theorem dX8_lay_45 : decode cX8_lay 45 = .ok (.getfield 126, 3) := by decide +kernel
theorem dX8_lay_48 : decode cX8_lay 48 = .ok (.putfield 129, 3) := by decide +kernel
theorem dX8_lay_51 : decode cX8_lay 51 = .ok (.return_, 1) := by decide +kernel
theorem dX8_act_0 : decode cX8_act 0 = .ok (.iload_n 0, 1) := by decide +kernel
theorem dX8_act_1 : decode cX8_act 1 = .ok (.bipush 43, 2) := by decide +kernel
theorem dX8_act_3 : decode cX8_act 3 = .ok (.if_icmp .ne 12, 3) := by decide +kernel
theorem dX8_act_6 : decode cX8_act 6 = .ok (.iload_n 1, 1) := by decide +kernel
theorem dX8_act_7 : decode cX8_act 7 = .ok (.iload_n 2, 1) := by decide +kernel
theorem dX8_act_8 : decode cX8_act 8 = .ok (.iadd, 1) := by decide +kernel
theorem dX8_act_9 : decode cX8_act 9 = .ok (.bipush 8, 2) := by decide +kernel
theorem dX8_act_11 : decode cX8_act 11 = .ok (.irem, 1) := by decide +kernel
theorem dX8_act_12 : decode cX8_act 12 = .ok (.goto 46, 3) := by decide +kernel
theorem dX8_act_15 : decode cX8_act 15 = .ok (.iload_n 0, 1) := by decide +kernel
theorem dX8_act_16 : decode cX8_act 16 = .ok (.bipush 45, 2) := by decide +kernel
theorem dX8_act_18 : decode cX8_act 18 = .ok (.if_icmp .ne 15, 3) := by decide +kernel
theorem dX8_act_21 : decode cX8_act 21 = .ok (.iload_n 1, 1) := by decide +kernel
theorem dX8_act_22 : decode cX8_act 22 = .ok (.bipush 8, 2) := by decide +kernel
theorem dX8_act_24 : decode cX8_act 24 = .ok (.iadd, 1) := by decide +kernel
theorem dX8_act_25 : decode cX8_act 25 = .ok (.iload_n 2, 1) := by decide +kernel
theorem dX8_act_26 : decode cX8_act 26 = .ok (.isub, 1) := by decide +kernel
theorem dX8_act_27 : decode cX8_act 27 = .ok (.bipush 8, 2) := by decide +kernel
theorem dX8_act_29 : decode cX8_act 29 = .ok (.irem, 1) := by decide +kernel
theorem dX8_act_30 : decode cX8_act 30 = .ok (.goto 28, 3) := by decide +kernel
theorem dX8_act_33 : decode cX8_act 33 = .ok (.iload_n 0, 1) := by decide +kernel
theorem dX8_act_34 : decode cX8_act 34 = .ok (.bipush 42, 2) := by decide +kernel
theorem dX8_act_36 : decode cX8_act 36 = .ok (.if_icmp .ne 12, 3) := by decide +kernel
theorem dX8_act_39 : decode cX8_act 39 = .ok (.iload_n 1, 1) := by decide +kernel
theorem dX8_act_40 : decode cX8_act 40 = .ok (.iload_n 2, 1) := by decide +kernel
theorem dX8_act_41 : decode cX8_act 41 = .ok (.imul, 1) := by decide +kernel
theorem dX8_act_42 : decode cX8_act 42 = .ok (.bipush 8, 2) := by decide +kernel
theorem dX8_act_44 : decode cX8_act 44 = .ok (.irem, 1) := by decide +kernel
theorem dX8_act_45 : decode cX8_act 45 = .ok (.goto 13, 3) := by decide +kernel
theorem dX8_act_48 : decode cX8_act 48 = .ok (.iload_n 1, 1) := by decide +kernel
theorem dX8_act_49 : decode cX8_act 49 = .ok (.iload_n 2, 1) := by decide +kernel
theorem dX8_act_50 : decode cX8_act 50 = .ok (.if_icmp .ge 7, 3) := by decide +kernel
theorem dX8_act_53 : decode cX8_act 53 = .ok (.iload_n 1, 1) := by decide +kernel
theorem dX8_act_54 : decode cX8_act 54 = .ok (.goto 4, 3) := by decide +kernel
theorem dX8_act_57 : decode cX8_act 57 = .ok (.iload_n 2, 1) := by decide +kernel
theorem dX8_act_58 : decode cX8_act 58 = .ok (.ireturn, 1) := by decide +kernel
theorem dX8_partOf_0 : decode cX8_partOf 0 = .ok (.iload_n 1, 1) := by decide +kernel
theorem dX8_partOf_1 : decode cX8_partOf 1 = .ok (.aload_n 0, 1) := by decide +kernel
theorem dX8_partOf_2 : decode cX8_partOf 2 = .ok (.getfield 16, 3) := by decide +kernel
theorem dX8_partOf_5 : decode cX8_partOf 5 = .ok (.iload_n 1, 1) := by decide +kernel
theorem dX8_partOf_6 : decode cX8_partOf 6 = .ok (.iaload, 1) := by decide +kernel
theorem dX8_partOf_7 : decode cX8_partOf 7 = .ok (.bipush 64, 2) := by decide +kernel
theorem dX8_partOf_9 : decode cX8_partOf 9 = .ok (.if_icmp .ne 7, 3) := by decide +kernel
theorem dX8_partOf_12 : decode cX8_partOf 12 = .ok (.iconst 2, 1) := by decide +kernel
theorem dX8_partOf_13 : decode cX8_partOf 13 = .ok (.goto 4, 3) := by decide +kernel
theorem dX8_partOf_16 : decode cX8_partOf 16 = .ok (.iconst 1, 1) := by decide +kernel
theorem dX8_partOf_17 : decode cX8_partOf 17 = .ok (.iadd, 1) := by decide +kernel
theorem dX8_partOf_18 : decode cX8_partOf 18 = .ok (.istore_n 3, 1) := by decide +kernel
theorem dX8_partOf_19 : decode cX8_partOf 19 = .ok (.iconst 0, 1) := by decide +kernel
theorem dX8_partOf_20 : decode cX8_partOf 20 = .ok (.istore 4, 2) := by decide +kernel
theorem dX8_partOf_22 : decode cX8_partOf 22 = .ok (.iload 4, 2) := by decide +kernel
theorem dX8_partOf_24 : decode cX8_partOf 24 = .ok (.iload_n 2, 1) := by decide +kernel
theorem dX8_partOf_25 : decode cX8_partOf 25 = .ok (.if_icmp .ge 18, 3) := by decide +kernel
theorem dX8_partOf_28 : decode cX8_partOf 28 = .ok (.iload_n 3, 1) := by decide +kernel
theorem dX8_partOf_29 : decode cX8_partOf 29 = .ok (.aload_n 0, 1) := by decide +kernel
theorem dX8_partOf_30 : decode cX8_partOf 30 = .ok (.getfield 19, 3) := by decide +kernel
theorem dX8_partOf_33 : decode cX8_partOf 33 = .ok (.iload_n 3, 1) := by decide +kernel
theorem dX8_partOf_34 : decode cX8_partOf 34 = .ok (.iaload, 1) := by decide +kernel
theorem dX8_partOf_35 : decode cX8_partOf 35 = .ok (.iadd, 1) := by decide +kernel
theorem dX8_partOf_36 : decode cX8_partOf 36 = .ok (.istore_n 3, 1) := by decide +kernel
theorem dX8_partOf_37 : decode cX8_partOf 37 = .ok (.iinc 4 1, 3) := by decide +kernel
theorem dX8_partOf_40 : decode cX8_partOf 40 = .ok (.goto (-18), 3) := by decide +kernel
theorem dX8_partOf_43 : decode cX8_partOf 43 = .ok (.iload_n 3, 1) := by decide +kernel
theorem dX8_partOf_44 : decode cX8_partOf 44 = .ok (.ireturn, 1) := by decide +kernel
theorem dX8_end_0 : decode cX8_end 0 = .ok (.aload_n 0, 1) := by decide +kernel
theorem dX8_end_1 : decode cX8_end 1 = .ok (.iconst 0, 1) := by decide +kernel
theorem dX8_end_2 : decode cX8_end 2 = .ok (.putfield 120, 3) := by decide +kernel
theorem dX8_end_5 : decode cX8_end 5 = .ok (.aload_n 0, 1) := by decide +kernel
theorem dX8_end_6 : decode cX8_end 6 = .ok (.iconst 0, 1) := by decide +kernel
theorem dX8_end_7 : decode cX8_end 7 = .ok (.putfield 126, 3) := by decide +kernel
theorem dX8_end_10 : decode cX8_end 10 = .ok (.aload_n 0, 1) := by decide +kernel
theorem dX8_end_11 : decode cX8_end 11 = .ok (.iconst 0, 1) := by decide +kernel
theorem dX8_end_12 : decode cX8_end 12 = .ok (.putfield 132, 3) := by decide +kernel
theorem dX8_end_15 : decode cX8_end 15 = .ok (.aload_n 0, 1) := by decide +kernel
theorem dX8_end_16 : decode cX8_end 16 = .ok (.iconst 0, 1) := by decide +kernel
theorem dX8_end_17 : decode cX8_end 17 = .ok (.putfield 135, 3) := by decide +kernel
theorem dX8_end_20 : decode cX8_end 20 = .ok (.aload_n 0, 1) := by decide +kernel
theorem dX8_end_21 : decode cX8_end 21 = .ok (.iconst 0, 1) := by decide +kernel
theorem dX8_end_22 : decode cX8_end 22 = .ok (.putfield 138, 3) := by decide +kernel
theorem dX8_end_25 : decode cX8_end 25 = .ok (.aload_n 0, 1) := by decide +kernel
theorem dX8_end_26 : decode cX8_end 26 = .ok (.iconst 0, 1) := by decide +kernel
theorem dX8_end_27 : decode cX8_end 27 = .ok (.putfield 141, 3) := by decide +kernel
theorem dX8_end_30 : decode cX8_end 30 = .ok (.aload_n 0, 1) := by decide +kernel
theorem dX8_end_31 : decode cX8_end 31 = .ok (.iconst 0, 1) := by decide +kernel
theorem dX8_end_32 : decode cX8_end 32 = .ok (.putfield 144, 3) := by decide +kernel
theorem dX8_end_35 : decode cX8_end 35 = .ok (.aload_n 0, 1) := by decide +kernel
theorem dX8_end_36 : decode cX8_end 36 = .ok (.bipush (-6), 2) := by decide +kernel
theorem dX8_end_38 : decode cX8_end 38 = .ok (.putfield 147, 3) := by decide +kernel
theorem dX8_end_41 : decode cX8_end 41 = .ok (.aload_n 0, 1) := by decide +kernel
theorem dX8_end_42 : decode cX8_end 42 = .ok (.bipush (-6), 2) := by decide +kernel
theorem dX8_end_44 : decode cX8_end 44 = .ok (.putfield 150, 3) := by decide +kernel
theorem dX8_end_47 : decode cX8_end 47 = .ok (.aload_n 0, 1) := by decide +kernel
theorem dX8_end_48 : decode cX8_end 48 = .ok (.iconst 0, 1) := by decide +kernel
theorem dX8_end_49 : decode cX8_end 49 = .ok (.putfield 123, 3) := by decide +kernel
theorem dX8_end_52 : decode cX8_end 52 = .ok (.aload_n 0, 1) := by decide +kernel
theorem dX8_end_53 : decode cX8_end 53 = .ok (.iconst 0, 1) := by decide +kernel
theorem dX8_end_54 : decode cX8_end 54 = .ok (.putfield 129, 3) := by decide +kernel
theorem dX8_end_57 : decode cX8_end 57 = .ok (.aload_n 0, 1) := by decide +kernel
theorem dX8_end_58 : decode cX8_end 58 = .ok (.bipush 40, 2) := by decide +kernel
theorem dX8_end_60 : decode cX8_end 60 = .ok (.iload_n 1, 1) := by decide +kernel
theorem dX8_end_61 : decode cX8_end 61 = .ok (.imul, 1) := by decide +kernel
theorem dX8_end_62 : decode cX8_end 62 = .ok (.putfield 153, 3) := by decide +kernel
theorem dX8_end_65 : decode cX8_end 65 = .ok (.aload_n 0, 1) := by decide +kernel
theorem dX8_end_66 : decode cX8_end 66 = .ok (.iload_n 2, 1) := by decide +kernel
theorem dX8_end_67 : decode cX8_end 67 = .ok (.putfield 156, 3) := by decide +kernel
theorem dX8_end_70 : decode cX8_end 70 = .ok (.aload_n 0, 1) := by decide +kernel
theorem dX8_end_71 : decode cX8_end 71 = .ok (.iconst 0, 1) := by decide +kernel
theorem dX8_end_72 : decode cX8_end 72 = .ok (.putfield 159, 3) := by decide +kernel
theorem dX8_end_75 : decode cX8_end 75 = .ok (.aload_n 0, 1) := by decide +kernel
theorem dX8_end_76 : decode cX8_end 76 = .ok (.bipush (-6), 2) := by decide +kernel
theorem dX8_end_78 : decode cX8_end 78 = .ok (.putfield 162, 3) := by decide +kernel
theorem dX8_end_81 : decode cX8_end 81 = .ok (.aload_n 0, 1) := by decide +kernel
theorem dX8_end_82 : decode cX8_end 82 = .ok (.bipush (-6), 2) := by decide +kernel
theorem dX8_end_84 : decode cX8_end 84 = .ok (.putfield 165, 3) := by decide +kernel
theorem dX8_end_87 : decode cX8_end 87 = .ok (.aload_n 0, 1) := by decide +kernel
theorem dX8_end_88 : decode cX8_end 88 = .ok (.getfield 165, 3) := by decide +kernel
theorem dX8_end_91 : decode cX8_end 91 = .ok (.ifCond .ge 38, 3) := by decide +kernel
theorem dX8_end_94 : decode cX8_end 94 = .ok (.aload_n 0, 1) := by decide +kernel
theorem dX8_end_95 : decode cX8_end 95 = .ok (.getfield 162, 3) := by decide +kernel
theorem dX8_end_98 : decode cX8_end 98 = .ok (.ifCond .ge 10, 3) := by decide +kernel
theorem dX8_end_101 : decode cX8_end 101 = .ok (.aload_n 0, 1) := by decide +kernel
theorem dX8_end_102 : decode cX8_end 102 = .ok (.invokevirtual 168, 3) := by decide +kernel
theorem dX8_end_105 : decode cX8_end 105 = .ok (.goto (-18), 3) := by decide +kernel
theorem dX8_end_108 : decode cX8_end 108 = .ok (.aload_n 0, 1) := by decide +kernel
theorem dX8_end_109 : decode cX8_end 109 = .ok (.getfield 123, 3) := by decide +kernel
theorem dX8_end_112 : decode cX8_end 112 = .ok (.ifCond .ne 10, 3) := by decide +kernel
theorem dX8_end_115 : decode cX8_end 115 = .ok (.aload_n 0, 1) := by decide +kernel
theorem dX8_end_116 : decode cX8_end 116 = .ok (.invokevirtual 171, 3) := by decide +kernel
theorem dX8_end_119 : decode cX8_end 119 = .ok (.goto (-32), 3) := by decide +kernel
theorem dX8_end_122 : decode cX8_end 122 = .ok (.aload_n 0, 1) := by decide +kernel
theorem dX8_end_123 : decode cX8_end 123 = .ok (.invokevirtual 174, 3) := by decide +kernel
theorem dX8_end_126 : decode cX8_end 126 = .ok (.goto (-39), 3) := by decide +kernel
theorem dX8_end_129 : decode cX8_end 129 = .ok (.aload_n 0, 1) := by decide +kernel
theorem dX8_end_130 : decode cX8_end 130 = .ok (.getfield 165, 3) := by decide +kernel
theorem dX8_end_133 : decode cX8_end 133 = .ok (.ireturn, 1) := by decide +kernel
theorem dX8_begin_0 : decode cX8_begin 0 = .ok (.aload_n 0, 1) := by decide +kernel
theorem dX8_begin_1 : decode cX8_begin 1 = .ok (.getfield 135, 3) := by decide +kernel
theorem dX8_begin_4 : decode cX8_begin 4 = .ok (.sipush 200, 3) := by decide +kernel
theorem dX8_begin_7 : decode cX8_begin 7 = .ok (.if_icmp .ne 10, 3) := by decide +kernel
theorem dX8_begin_10 : decode cX8_begin 10 = .ok (.aload_n 0, 1) := by decide +kernel
theorem dX8_begin_11 : decode cX8_begin 11 = .ok (.bipush 9, 2) := by decide +kernel
theorem dX8_begin_13 : decode cX8_begin 13 = .ok (.putfield 165, 3) := by decide +kernel
theorem dX8_begin_16 : decode cX8_begin 16 = .ok (.return_, 1) := by decide +kernel
theorem dX8_begin_17 : decode cX8_begin 17 = .ok (.aload_n 0, 1) := by decide +kernel
theorem dX8_begin_18 : decode cX8_begin 18 = .ok (.dup, 1) := by decide +kernel
theorem dX8_begin_19 : decode cX8_begin 19 = .ok (.getfield 135, 3) := by decide +kernel
theorem dX8_begin_22 : decode cX8_begin 22 = .ok (.iconst 1, 1) := by decide +kernel
theorem dX8_begin_23 : decode cX8_begin 23 = .ok (.iadd, 1) := by decide +kernel
theorem dX8_begin_24 : decode cX8_begin 24 = .ok (.putfield 135, 3) := by decide +kernel
theorem dX8_begin_27 : decode cX8_begin 27 = .ok (.aload_n 0, 1) := by decide +kernel
theorem dX8_begin_28 : decode cX8_begin 28 = .ok (.getfield 16, 3) := by decide +kernel
theorem dX8_begin_31 : decode cX8_begin 31 = .ok (.aload_n 0, 1) := by decide +kernel
theorem dX8_begin_32 : decode cX8_begin 32 = .ok (.getfield 153, 3) := by decide +kernel
theorem dX8_begin_35 : decode cX8_begin 35 = .ok (.iaload, 1) := by decide +kernel
theorem dX8_begin_36 : decode cX8_begin 36 = .ok (.istore_n 1, 1) := by decide +kernel
theorem dX8_begin_37 : decode cX8_begin 37 = .ok (.iload_n 1, 1) := by decide +kernel
theorem dX8_begin_38 : decode cX8_begin 38 = .ok (.bipush 48, 2) := by decide +kernel
theorem dX8_begin_40 : decode cX8_begin 40 = .ok (.bipush 55, 2) := by decide +kernel
theorem dX8_begin_42 : decode cX8_begin 42 = .ok (.invokestatic 85, 3) := by decide +kernel
theorem dX8_begin_45 : decode cX8_begin 45 = .ok (.ifCond .eq 14, 3) := by decide +kernel
theorem dX8_begin_48 : decode cX8_begin 48 = .ok (.aload_n 0, 1) := by decide +kernel
theorem dX8_begin_49 : decode cX8_begin 49 = .ok (.iload_n 1, 1) := by decide +kernel
theorem dX8_begin_50 : decode cX8_begin 50 = .ok (.bipush 48, 2) := by decide +kernel
theorem dX8_begin_52 : decode cX8_begin 52 = .ok (.isub, 1) := by decide +kernel
theorem dX8_begin_53 : decode cX8_begin 53 = .ok (.putfield 162, 3) := by decide +kernel
theorem dX8_begin_56 : decode cX8_begin 56 = .ok (.goto 94, 3) := by decide +kernel
theorem dX8_begin_59 : decode cX8_begin 59 = .ok (.iload_n 1, 1) := by decide +kernel
theorem dX8_begin_60 : decode cX8_begin 60 = .ok (.bipush 120, 2) := by decide +kernel
theorem dX8_begin_62 : decode cX8_begin 62 = .ok (.if_icmp .ne 14, 3) := by decide +kernel
theorem dX8_begin_65 : decode cX8_begin 65 = .ok (.aload_n 0, 1) := by decide +kernel
theorem dX8_begin_66 : decode cX8_begin 66 = .ok (.aload_n 0, 1) := by decide +kernel
theorem dX8_begin_67 : decode cX8_begin 67 = .ok (.getfield 156, 3) := by decide +kernel
theorem dX8_begin_70 : decode cX8_begin 70 = .ok (.putfield 162, 3) := by decide +kernel
theorem dX8_begin_73 : decode cX8_begin 73 = .ok (.goto 77, 3) := by decide +kernel
theorem dX8_begin_76 : decode cX8_begin 76 = .ok (.iload_n 1, 1) := by decide +kernel
theorem dX8_begin_77 : decode cX8_begin 77 = .ok (.bipush 64, 2) := by decide +kernel
theorem dX8_begin_79 : decode cX8_begin 79 = .ok (.if_icmp .ne 43, 3) := by decide +kernel
theorem dX8_begin_82 : decode cX8_begin 82 = .ok (.aload_n 0, 1) := by decide +kernel
theorem dX8_begin_83 : decode cX8_begin 83 = .ok (.aload_n 0, 1) := by decide +kernel
theorem dX8_begin_84 : decode cX8_begin 84 = .ok (.getfield 16, 3) := by decide +kernel
theorem dX8_begin_87 : decode cX8_begin 87 = .ok (.aload_n 0, 1) := by decide +kernel
theorem dX8_begin_88 : decode cX8_begin 88 = .ok (.getfield 153, 3) := by decide +kernel
theorem dX8_begin_91 : decode cX8_begin 91 = .ok (.iconst 1, 1) := by decide +kernel
theorem dX8_begin_92 : decode cX8_begin 92 = .ok (.iadd, 1) := by decide +kernel
theorem dX8_begin_93 : decode cX8_begin 93 = .ok (.iaload, 1) := by decide +kernel
theorem dX8_begin_94 : decode cX8_begin 94 = .ok (.bipush 48, 2) := by decide +kernel
theorem dX8_begin_96 : decode cX8_begin 96 = .ok (.isub, 1) := by decide +kernel
theorem dX8_begin_97 : decode cX8_begin 97 = .ok (.aload_n 0, 1) := by decide +kernel
theorem dX8_begin_98 : decode cX8_begin 98 = .ok (.getfield 123, 3) := by decide +kernel
theorem dX8_begin_101 : decode cX8_begin 101 = .ok (.invokevirtual 177, 3) := by decide +kernel
theorem dX8_begin_104 : decode cX8_begin 104 = .ok (.aload_n 0, 1) := by decide +kernel
theorem dX8_begin_105 : decode cX8_begin 105 = .ok (.iconst 0, 1) := by decide +kernel
theorem dX8_begin_106 : decode cX8_begin 106 = .ok (.putfield 123, 3) := by decide +kernel
theorem dX8_begin_109 : decode cX8_begin 109 = .ok (.aload_n 0, 1) := by decide +kernel
theorem dX8_begin_110 : decode cX8_begin 110 = .ok (.dup, 1) := by decide +kernel
theorem dX8_begin_111 : decode cX8_begin 111 = .ok (.getfield 153, 3) := by decide +kernel
theorem dX8_begin_114 : decode cX8_begin 114 = .ok (.iconst 2, 1) := by decide +kernel
theorem dX8_begin_115 : decode cX8_begin 115 = .ok (.iadd, 1) := by decide +kernel
theorem dX8_begin_116 : decode cX8_begin 116 = .ok (.putfield 153, 3) := by decide +kernel
theorem dX8_begin_119 : decode cX8_begin 119 = .ok (.goto 31, 3) := by decide +kernel
theorem dX8_begin_122 : decode cX8_begin 122 = .ok (.aload_n 0, 1) := by decide +kernel
theorem dX8_begin_123 : decode cX8_begin 123 = .ok (.aload_n 0, 1) := by decide +kernel
theorem dX8_begin_124 : decode cX8_begin 124 = .ok (.getfield 153, 3) := by decide +kernel
theorem dX8_begin_127 : decode cX8_begin 127 = .ok (.iconst 0, 1) := by decide +kernel
theorem dX8_begin_128 : decode cX8_begin 128 = .ok (.aload_n 0, 1) := by decide +kernel
theorem dX8_begin_129 : decode cX8_begin 129 = .ok (.getfield 156, 3) := by decide +kernel
theorem dX8_begin_132 : decode cX8_begin 132 = .ok (.aload_n 0, 1) := by decide +kernel
theorem dX8_begin_133 : decode cX8_begin 133 = .ok (.getfield 159, 3) := by decide +kernel
theorem dX8_begin_136 : decode cX8_begin 136 = .ok (.iconst 0, 1) := by decide +kernel
theorem dX8_begin_137 : decode cX8_begin 137 = .ok (.invokevirtual 181, 3) := by decide +kernel
theorem dX8_begin_140 : decode cX8_begin 140 = .ok (.aload_n 0, 1) := by decide +kernel
theorem dX8_begin_141 : decode cX8_begin 141 = .ok (.dup, 1) := by decide +kernel
theorem dX8_begin_142 : decode cX8_begin 142 = .ok (.getfield 153, 3) := by decide +kernel
theorem dX8_begin_145 : decode cX8_begin 145 = .ok (.iconst 1, 1) := by decide +kernel
theorem dX8_begin_146 : decode cX8_begin 146 = .ok (.iadd, 1) := by decide +kernel
theorem dX8_begin_147 : decode cX8_begin 147 = .ok (.putfield 153, 3) := by decide +kernel
theorem dX8_begin_150 : decode cX8_begin 150 = .ok (.return_, 1) := by decide +kernel
theorem dX8_work_0 : decode cX8_work 0 = .ok (.aload_n 0, 1) := by decide +kernel
theorem dX8_work_1 : decode cX8_work 1 = .ok (.bipush 40, 2) := by decide +kernel
theorem dX8_work_3 : decode cX8_work 3 = .ok (.iload_n 1, 1) := by decide +kernel
theorem dX8_work_4 : decode cX8_work 4 = .ok (.imul, 1) := by decide +kernel
theorem dX8_work_5 : decode cX8_work 5 = .ok (.putfield 153, 3) := by decide +kernel
theorem dX8_work_8 : decode cX8_work 8 = .ok (.aload_n 0, 1) := by decide +kernel
theorem dX8_work_9 : decode cX8_work 9 = .ok (.iload_n 2, 1) := by decide +kernel
theorem dX8_work_10 : decode cX8_work 10 = .ok (.putfield 156, 3) := by decide +kernel
theorem dX8_work_13 : decode cX8_work 13 = .ok (.aload_n 0, 1) := by decide +kernel
theorem dX8_work_14 : decode cX8_work 14 = .ok (.iload_n 3, 1) := by decide +kernel
theorem dX8_work_15 : decode cX8_work 15 = .ok (.putfield 159, 3) := by decide +kernel
theorem dX8_work_18 : decode cX8_work 18 = .ok (.aload_n 0, 1) := by decide +kernel
theorem dX8_work_19 : decode cX8_work 19 = .ok (.bipush (-6), 2) := by decide +kernel
theorem dX8_work_21 : decode cX8_work 21 = .ok (.putfield 162, 3) := by decide +kernel
theorem dX8_work_24 : decode cX8_work 24 = .ok (.return_, 1) := by decide +kernel
theorem dX8_leave_0 : decode cX8_leave 0 = .ok (.aload_n 0, 1) := by decide +kernel
theorem dX8_leave_1 : decode cX8_leave 1 = .ok (.getfield 129, 3) := by decide +kernel
theorem dX8_leave_4 : decode cX8_leave 4 = .ok (.ifCond .ne 12, 3) := by decide +kernel
theorem dX8_leave_7 : decode cX8_leave 7 = .ok (.aload_n 0, 1) := by decide +kernel
theorem dX8_leave_8 : decode cX8_leave 8 = .ok (.aload_n 0, 1) := by decide +kernel
theorem dX8_leave_9 : decode cX8_leave 9 = .ok (.getfield 162, 3) := by decide +kernel
theorem dX8_leave_12 : decode cX8_leave 12 = .ok (.putfield 165, 3) := by decide +kernel
theorem dX8_leave_15 : decode cX8_leave 15 = .ok (.return_, 1) := by decide +kernel
theorem dX8_leave_16 : decode cX8_leave 16 = .ok (.aload_n 0, 1) := by decide +kernel
theorem dX8_leave_17 : decode cX8_leave 17 = .ok (.getfield 46, 3) := by decide +kernel
theorem dX8_leave_20 : decode cX8_leave 20 = .ok (.aload_n 0, 1) := by decide +kernel
theorem dX8_leave_21 : decode cX8_leave 21 = .ok (.getfield 129, 3) := by decide +kernel
theorem dX8_leave_24 : decode cX8_leave 24 = .ok (.iaload, 1) := by decide +kernel
theorem dX8_leave_25 : decode cX8_leave 25 = .ok (.istore_n 1, 1) := by decide +kernel
theorem dX8_leave_26 : decode cX8_leave 26 = .ok (.aload_n 0, 1) := by decide +kernel
theorem dX8_leave_27 : decode cX8_leave 27 = .ok (.aload_n 0, 1) := by decide +kernel
theorem dX8_leave_28 : decode cX8_leave 28 = .ok (.getfield 49, 3) := by decide +kernel
theorem dX8_leave_31 : decode cX8_leave 31 = .ok (.aload_n 0, 1) := by decide +kernel
theorem dX8_leave_32 : decode cX8_leave 32 = .ok (.getfield 129, 3) := by decide +kernel
theorem dX8_leave_35 : decode cX8_leave 35 = .ok (.iaload, 1) := by decide +kernel
theorem dX8_leave_36 : decode cX8_leave 36 = .ok (.putfield 123, 3) := by decide +kernel
theorem dX8_leave_39 : decode cX8_leave 39 = .ok (.aload_n 0, 1) := by decide +kernel
theorem dX8_leave_40 : decode cX8_leave 40 = .ok (.aload_n 0, 1) := by decide +kernel
theorem dX8_leave_41 : decode cX8_leave 41 = .ok (.getfield 52, 3) := by decide +kernel
theorem dX8_leave_44 : decode cX8_leave 44 = .ok (.aload_n 0, 1) := by decide +kernel
theorem dX8_leave_45 : decode cX8_leave 45 = .ok (.getfield 129, 3) := by decide +kernel
theorem dX8_leave_48 : decode cX8_leave 48 = .ok (.iaload, 1) := by decide +kernel
theorem dX8_leave_49 : decode cX8_leave 49 = .ok (.putfield 129, 3) := by decide +kernel
theorem dX8_leave_52 : decode cX8_leave 52 = .ok (.aload_n 0, 1) := by decide +kernel
theorem dX8_leave_53 : decode cX8_leave 53 = .ok (.iload_n 1, 1) := by decide +kernel
theorem dX8_leave_54 : decode cX8_leave 54 = .ok (.iconst 3, 1) := by decide +kernel
theorem dX8_leave_55 : decode cX8_leave 55 = .ok (.invokevirtual 113, 3) := by decide +kernel
theorem dX8_leave_58 : decode cX8_leave 58 = .ok (.ifCond .eq 17, 3) := by decide +kernel
theorem dX8_leave_61 : decode cX8_leave 61 = .ok (.aload_n 0, 1) := by decide +kernel
theorem dX8_leave_62 : decode cX8_leave 62 = .ok (.iload_n 1, 1) := by decide +kernel
theorem dX8_leave_63 : decode cX8_leave 63 = .ok (.iconst 3, 1) := by decide +kernel
theorem dX8_leave_64 : decode cX8_leave 64 = .ok (.invokestatic 109, 3) := by decide +kernel
theorem dX8_leave_67 : decode cX8_leave 67 = .ok (.aload_n 0, 1) := by decide +kernel
theorem dX8_leave_68 : decode cX8_leave 68 = .ok (.getfield 162, 3) := by decide +kernel
theorem dX8_leave_71 : decode cX8_leave 71 = .ok (.iconst 0, 1) := by decide +kernel
theorem dX8_leave_72 : decode cX8_leave 72 = .ok (.invokevirtual 185, 3) := by decide +kernel
theorem dX8_leave_75 : decode cX8_leave 75 = .ok (.return_, 1) := by decide +kernel
theorem dX8_come_0 : decode cX8_come 0 = .ok (.aload_n 0, 1) := by decide +kernel
theorem dX8_come_1 : decode cX8_come 1 = .ok (.getfield 123, 3) := by decide +kernel
theorem dX8_come_4 : decode cX8_come 4 = .ok (.istore_n 1, 1) := by decide +kernel
theorem dX8_come_5 : decode cX8_come 5 = .ok (.aload_n 0, 1) := by decide +kernel
theorem dX8_come_6 : decode cX8_come 6 = .ok (.getfield 28, 3) := by decide +kernel
theorem dX8_come_9 : decode cX8_come 9 = .ok (.iload_n 1, 1) := by decide +kernel
theorem dX8_come_10 : decode cX8_come 10 = .ok (.iaload, 1) := by decide +kernel
theorem dX8_come_11 : decode cX8_come 11 = .ok (.istore_n 2, 1) := by decide +kernel
theorem dX8_come_12 : decode cX8_come 12 = .ok (.aload_n 0, 1) := by decide +kernel
theorem dX8_come_13 : decode cX8_come 13 = .ok (.getfield 16, 3) := by decide +kernel
theorem dX8_come_16 : decode cX8_come 16 = .ok (.iload_n 2, 1) := by decide +kernel
theorem dX8_come_17 : decode cX8_come 17 = .ok (.iaload, 1) := by decide +kernel
theorem dX8_come_18 : decode cX8_come 18 = .ok (.istore_n 3, 1) := by decide +kernel
theorem dX8_come_19 : decode cX8_come 19 = .ok (.aload_n 0, 1) := by decide +kernel
theorem dX8_come_20 : decode cX8_come 20 = .ok (.aload_n 0, 1) := by decide +kernel
theorem dX8_come_21 : decode cX8_come 21 = .ok (.getfield 43, 3) := by decide +kernel
theorem dX8_come_24 : decode cX8_come 24 = .ok (.iload_n 1, 1) := by decide +kernel
theorem dX8_come_25 : decode cX8_come 25 = .ok (.iaload, 1) := by decide +kernel
theorem dX8_come_26 : decode cX8_come 26 = .ok (.putfield 123, 3) := by decide +kernel
theorem dX8_come_29 : decode cX8_come 29 = .ok (.aload_n 0, 1) := by decide +kernel
theorem dX8_come_30 : decode cX8_come 30 = .ok (.aload_n 0, 1) := by decide +kernel
theorem dX8_come_31 : decode cX8_come 31 = .ok (.getfield 34, 3) := by decide +kernel
theorem dX8_come_34 : decode cX8_come 34 = .ok (.iload_n 1, 1) := by decide +kernel
theorem dX8_come_35 : decode cX8_come 35 = .ok (.iaload, 1) := by decide +kernel
theorem dX8_come_36 : decode cX8_come 36 = .ok (.putfield 156, 3) := by decide +kernel
theorem dX8_come_39 : decode cX8_come 39 = .ok (.aload_n 0, 1) := by decide +kernel
theorem dX8_come_40 : decode cX8_come 40 = .ok (.aload_n 0, 1) := by decide +kernel
theorem dX8_come_41 : decode cX8_come 41 = .ok (.getfield 37, 3) := by decide +kernel
theorem dX8_come_44 : decode cX8_come 44 = .ok (.iload_n 1, 1) := by decide +kernel
theorem dX8_come_45 : decode cX8_come 45 = .ok (.iaload, 1) := by decide +kernel
theorem dX8_come_46 : decode cX8_come 46 = .ok (.putfield 159, 3) := by decide +kernel
theorem dX8_come_49 : decode cX8_come 49 = .ok (.iload_n 3, 1) := by decide +kernel
theorem dX8_come_50 : decode cX8_come 50 = .ok (.bipush 63, 2) := by decide +kernel
theorem dX8_come_52 : decode cX8_come 52 = .ok (.if_icmp .ne 33, 3) := by decide +kernel
theorem dX8_come_55 : decode cX8_come 55 = .ok (.aload_n 0, 1) := by decide +kernel
theorem dX8_come_56 : decode cX8_come 56 = .ok (.aload_n 0, 1) := by decide +kernel
theorem dX8_come_57 : decode cX8_come 57 = .ok (.iload_n 2, 1) := by decide +kernel
theorem dX8_come_58 : decode cX8_come 58 = .ok (.aload_n 0, 1) := by decide +kernel
theorem dX8_come_59 : decode cX8_come 59 = .ok (.getfield 162, 3) := by decide +kernel
theorem dX8_come_62 : decode cX8_come 62 = .ok (.ifCond .ne 7, 3) := by decide +kernel
theorem dX8_come_65 : decode cX8_come 65 = .ok (.iconst 1, 1) := by decide +kernel
theorem dX8_come_66 : decode cX8_come 66 = .ok (.goto 4, 3) := by decide +kernel
theorem dX8_come_69 : decode cX8_come 69 = .ok (.iconst 2, 1) := by decide +kernel
theorem dX8_come_70 : decode cX8_come 70 = .ok (.invokevirtual 189, 3) := by decide +kernel
theorem dX8_come_73 : decode cX8_come 73 = .ok (.putfield 153, 3) := by decide +kernel
theorem dX8_come_76 : decode cX8_come 76 = .ok (.aload_n 0, 1) := by decide +kernel
theorem dX8_come_77 : decode cX8_come 77 = .ok (.bipush (-6), 2) := by decide +kernel
theorem dX8_come_79 : decode cX8_come 79 = .ok (.putfield 162, 3) := by decide +kernel
theorem dX8_come_82 : decode cX8_come 82 = .ok (.goto 147, 3) := by decide +kernel
theorem dX8_come_85 : decode cX8_come 85 = .ok (.iload_n 3, 1) := by decide +kernel
theorem dX8_come_86 : decode cX8_come 86 = .ok (.bipush 107, 2) := by decide +kernel
theorem dX8_come_88 : decode cX8_come 88 = .ok (.if_icmp .ne 48, 3) := by decide +kernel
theorem dX8_come_91 : decode cX8_come 91 = .ok (.aload_n 0, 1) := by decide +kernel
theorem dX8_come_92 : decode cX8_come 92 = .ok (.dup, 1) := by decide +kernel
theorem dX8_come_93 : decode cX8_come 93 = .ok (.getfield 138, 3) := by decide +kernel
theorem dX8_come_96 : decode cX8_come 96 = .ok (.iconst 1, 1) := by decide +kernel
theorem dX8_come_97 : decode cX8_come 97 = .ok (.iadd, 1) := by decide +kernel
theorem dX8_come_98 : decode cX8_come 98 = .ok (.putfield 138, 3) := by decide +kernel
theorem dX8_come_101 : decode cX8_come 101 = .ok (.aload_n 0, 1) := by decide +kernel
theorem dX8_come_102 : decode cX8_come 102 = .ok (.getfield 138, 3) := by decide +kernel
theorem dX8_come_105 : decode cX8_come 105 = .ok (.bipush 40, 2) := by decide +kernel
theorem dX8_come_107 : decode cX8_come 107 = .ok (.if_icmp .le 18, 3) := by decide +kernel
theorem dX8_come_110 : decode cX8_come 110 = .ok (.aload_n 0, 1) := by decide +kernel
theorem dX8_come_111 : decode cX8_come 111 = .ok (.bipush 40, 2) := by decide +kernel
theorem dX8_come_113 : decode cX8_come 113 = .ok (.putfield 138, 3) := by decide +kernel
theorem dX8_come_116 : decode cX8_come 116 = .ok (.aload_n 0, 1) := by decide +kernel
theorem dX8_come_117 : decode cX8_come 117 = .ok (.bipush 9, 2) := by decide +kernel
theorem dX8_come_119 : decode cX8_come 119 = .ok (.putfield 165, 3) := by decide +kernel
theorem dX8_come_122 : decode cX8_come 122 = .ok (.goto 107, 3) := by decide +kernel
theorem dX8_come_125 : decode cX8_come 125 = .ok (.aload_n 0, 1) := by decide +kernel
theorem dX8_come_126 : decode cX8_come 126 = .ok (.aload_n 0, 1) := by decide +kernel
theorem dX8_come_127 : decode cX8_come 127 = .ok (.getfield 159, 3) := by decide +kernel
theorem dX8_come_130 : decode cX8_come 130 = .ok (.invokevirtual 192, 3) := by decide +kernel
theorem dX8_come_133 : decode cX8_come 133 = .ok (.goto 96, 3) := by decide +kernel
theorem dX8_come_136 : decode cX8_come 136 = .ok (.iload_n 3, 1) := by decide +kernel
theorem dX8_come_137 : decode cX8_come 137 = .ok (.bipush 112, 2) := by decide +kernel
theorem dX8_come_139 : decode cX8_come 139 = .ok (.if_icmp .eq 15, 3) := by decide +kernel
theorem dX8_come_142 : decode cX8_come 142 = .ok (.iload_n 3, 1) := by decide +kernel
theorem dX8_come_143 : decode cX8_come 143 = .ok (.bipush 113, 2) := by decide +kernel
theorem dX8_come_145 : decode cX8_come 145 = .ok (.if_icmp .eq 9, 3) := by decide +kernel
theorem dX8_come_148 : decode cX8_come 148 = .ok (.iload_n 3, 1) := by decide +kernel
theorem dX8_come_149 : decode cX8_come 149 = .ok (.bipush 114, 2) := by decide +kernel
theorem dX8_come_151 : decode cX8_come 151 = .ok (.if_icmp .ne 14, 3) := by decide +kernel
theorem dX8_come_154 : decode cX8_come 154 = .ok (.aload_n 0, 1) := by decide +kernel
theorem dX8_come_155 : decode cX8_come 155 = .ok (.iload_n 3, 1) := by decide +kernel
theorem dX8_come_156 : decode cX8_come 156 = .ok (.bipush 112, 2) := by decide +kernel
theorem dX8_come_158 : decode cX8_come 158 = .ok (.isub, 1) := by decide +kernel
theorem dX8_come_159 : decode cX8_come 159 = .ok (.invokevirtual 196, 3) := by decide +kernel
theorem dX8_come_162 : decode cX8_come 162 = .ok (.goto 67, 3) := by decide +kernel
theorem dX8_come_165 : decode cX8_come 165 = .ok (.aload_n 0, 1) := by decide +kernel
theorem dX8_come_166 : decode cX8_come 166 = .ok (.getfield 31, 3) := by decide +kernel
theorem dX8_come_169 : decode cX8_come 169 = .ok (.iload_n 1, 1) := by decide +kernel
theorem dX8_come_170 : decode cX8_come 170 = .ok (.iaload, 1) := by decide +kernel
theorem dX8_come_171 : decode cX8_come 171 = .ok (.ifCond .ne 40, 3) := by decide +kernel
theorem dX8_come_174 : decode cX8_come 174 = .ok (.aload_n 0, 1) := by decide +kernel
theorem dX8_come_175 : decode cX8_come 175 = .ok (.iload_n 2, 1) := by decide +kernel
theorem dX8_come_176 : decode cX8_come 176 = .ok (.iconst 1, 1) := by decide +kernel
theorem dX8_come_177 : decode cX8_come 177 = .ok (.aload_n 0, 1) := by decide +kernel
theorem dX8_come_178 : decode cX8_come 178 = .ok (.getfield 156, 3) := by decide +kernel
theorem dX8_come_181 : decode cX8_come 181 = .ok (.aload_n 0, 1) := by decide +kernel
theorem dX8_come_182 : decode cX8_come 182 = .ok (.getfield 159, 3) := by decide +kernel
theorem dX8_come_185 : decode cX8_come 185 = .ok (.aload_n 0, 1) := by decide +kernel
theorem dX8_come_186 : decode cX8_come 186 = .ok (.getfield 162, 3) := by decide +kernel
theorem dX8_come_189 : decode cX8_come 189 = .ok (.invokevirtual 181, 3) := by decide +kernel
theorem dX8_come_192 : decode cX8_come 192 = .ok (.aload_n 0, 1) := by decide +kernel
theorem dX8_come_193 : decode cX8_come 193 = .ok (.aload_n 0, 1) := by decide +kernel
theorem dX8_come_194 : decode cX8_come 194 = .ok (.iload_n 2, 1) := by decide +kernel
theorem dX8_come_195 : decode cX8_come 195 = .ok (.iconst 1, 1) := by decide +kernel
theorem dX8_come_196 : decode cX8_come 196 = .ok (.invokevirtual 189, 3) := by decide +kernel
theorem dX8_come_199 : decode cX8_come 199 = .ok (.putfield 153, 3) := by decide +kernel
theorem dX8_come_202 : decode cX8_come 202 = .ok (.aload_n 0, 1) := by decide +kernel
theorem dX8_come_203 : decode cX8_come 203 = .ok (.bipush (-6), 2) := by decide +kernel
theorem dX8_come_205 : decode cX8_come 205 = .ok (.putfield 162, 3) := by decide +kernel
theorem dX8_come_208 : decode cX8_come 208 = .ok (.goto 21, 3) := by decide +kernel
theorem dX8_come_211 : decode cX8_come 211 = .ok (.aload_n 0, 1) := by decide +kernel
theorem dX8_come_212 : decode cX8_come 212 = .ok (.iload_n 3, 1) := by decide +kernel
theorem dX8_come_213 : decode cX8_come 213 = .ok (.aload_n 0, 1) := by decide +kernel
theorem dX8_come_214 : decode cX8_come 214 = .ok (.getfield 40, 3) := by decide +kernel
theorem dX8_come_217 : decode cX8_come 217 = .ok (.iload_n 1, 1) := by decide +kernel
theorem dX8_come_218 : decode cX8_come 218 = .ok (.iaload, 1) := by decide +kernel
theorem dX8_come_219 : decode cX8_come 219 = .ok (.aload_n 0, 1) := by decide +kernel
theorem dX8_come_220 : decode cX8_come 220 = .ok (.getfield 162, 3) := by decide +kernel
theorem dX8_come_223 : decode cX8_come 223 = .ok (.invokestatic 199, 3) := by decide +kernel
theorem dX8_come_226 : decode cX8_come 226 = .ok (.putfield 162, 3) := by decide +kernel
theorem dX8_come_229 : decode cX8_come 229 = .ok (.return_, 1) := by decide +kernel
theorem dX8_ask_0 : decode cX8_ask 0 = .ok (.aload_n 0, 1) := by decide +kernel
theorem dX8_ask_1 : decode cX8_ask 1 = .ok (.getfield 129, 3) := by decide +kernel
theorem dX8_ask_4 : decode cX8_ask 4 = .ok (.istore_n 2, 1) := by decide +kernel
theorem dX8_ask_5 : decode cX8_ask 5 = .ok (.iload_n 2, 1) := by decide +kernel
theorem dX8_ask_6 : decode cX8_ask 6 = .ok (.ifCond .le 27, 3) := by decide +kernel
theorem dX8_ask_9 : decode cX8_ask 9 = .ok (.aload_n 0, 1) := by decide +kernel
theorem dX8_ask_10 : decode cX8_ask 10 = .ok (.aload_n 0, 1) := by decide +kernel
theorem dX8_ask_11 : decode cX8_ask 11 = .ok (.getfield 46, 3) := by decide +kernel
theorem dX8_ask_14 : decode cX8_ask 14 = .ok (.iload_n 2, 1) := by decide +kernel
theorem dX8_ask_15 : decode cX8_ask 15 = .ok (.iaload, 1) := by decide +kernel
theorem dX8_ask_16 : decode cX8_ask 16 = .ok (.iload_n 1, 1) := by decide +kernel
theorem dX8_ask_17 : decode cX8_ask 17 = .ok (.invokevirtual 113, 3) := by decide +kernel
theorem dX8_ask_20 : decode cX8_ask 20 = .ok (.ifCond .ne 13, 3) := by decide +kernel
theorem dX8_ask_23 : decode cX8_ask 23 = .ok (.aload_n 0, 1) := by decide +kernel
theorem dX8_ask_24 : decode cX8_ask 24 = .ok (.getfield 52, 3) := by decide +kernel
theorem dX8_ask_27 : decode cX8_ask 27 = .ok (.iload_n 2, 1) := by decide +kernel
theorem dX8_ask_28 : decode cX8_ask 28 = .ok (.iaload, 1) := by decide +kernel
theorem dX8_ask_29 : decode cX8_ask 29 = .ok (.istore_n 2, 1) := by decide +kernel
theorem dX8_ask_30 : decode cX8_ask 30 = .ok (.goto (-25), 3) := by decide +kernel
theorem dX8_ask_33 : decode cX8_ask 33 = .ok (.aload_n 0, 1) := by decide +kernel
theorem dX8_ask_34 : decode cX8_ask 34 = .ok (.getfield 64, 3) := by decide +kernel
theorem dX8_ask_37 : decode cX8_ask 37 = .ok (.aload_n 0, 1) := by decide +kernel
theorem dX8_ask_38 : decode cX8_ask 38 = .ok (.getfield 144, 3) := by decide +kernel
theorem dX8_ask_41 : decode cX8_ask 41 = .ok (.bipush 100, 2) := by decide +kernel
theorem dX8_ask_43 : decode cX8_ask 43 = .ok (.iload_n 1, 1) := by decide +kernel
theorem dX8_ask_44 : decode cX8_ask 44 = .ok (.imul, 1) := by decide +kernel
theorem dX8_ask_45 : decode cX8_ask 45 = .ok (.bipush 10, 2) := by decide +kernel
theorem dX8_ask_47 : decode cX8_ask 47 = .ok (.aload_n 0, 1) := by decide +kernel
theorem dX8_ask_48 : decode cX8_ask 48 = .ok (.getfield 162, 3) := by decide +kernel
theorem dX8_ask_51 : decode cX8_ask 51 = .ok (.imul, 1) := by decide +kernel
theorem dX8_ask_52 : decode cX8_ask 52 = .ok (.iadd, 1) := by decide +kernel
theorem dX8_ask_53 : decode cX8_ask 53 = .ok (.iload_n 2, 1) := by decide +kernel
theorem dX8_ask_54 : decode cX8_ask 54 = .ok (.ifCond .le 12, 3) := by decide +kernel
theorem dX8_ask_57 : decode cX8_ask 57 = .ok (.aload_n 0, 1) := by decide +kernel
theorem dX8_ask_58 : decode cX8_ask 58 = .ok (.getfield 46, 3) := by decide +kernel
theorem dX8_ask_61 : decode cX8_ask 61 = .ok (.iload_n 2, 1) := by decide +kernel
theorem dX8_ask_62 : decode cX8_ask 62 = .ok (.iaload, 1) := by decide +kernel
theorem dX8_ask_63 : decode cX8_ask 63 = .ok (.goto 5, 3) := by decide +kernel
theorem dX8_ask_66 : decode cX8_ask 66 = .ok (.bipush 9, 2) := by decide +kernel
theorem dX8_ask_68 : decode cX8_ask 68 = .ok (.iadd, 1) := by decide +kernel
theorem dX8_ask_69 : decode cX8_ask 69 = .ok (.iastore, 1) := by decide +kernel
theorem dX8_ask_70 : decode cX8_ask 70 = .ok (.aload_n 0, 1) := by decide +kernel
theorem dX8_ask_71 : decode cX8_ask 71 = .ok (.dup, 1) := by decide +kernel
theorem dX8_ask_72 : decode cX8_ask 72 = .ok (.getfield 144, 3) := by decide +kernel
theorem dX8_ask_75 : decode cX8_ask 75 = .ok (.iconst 1, 1) := by decide +kernel
theorem dX8_ask_76 : decode cX8_ask 76 = .ok (.iadd, 1) := by decide +kernel
theorem dX8_ask_77 : decode cX8_ask 77 = .ok (.putfield 144, 3) := by decide +kernel
theorem dX8_ask_80 : decode cX8_ask 80 = .ok (.iload_n 2, 1) := by decide +kernel
theorem dX8_ask_81 : decode cX8_ask 81 = .ok (.ifCond .le 94, 3) := by decide +kernel
theorem dX8_ask_84 : decode cX8_ask 84 = .ok (.aload_n 0, 1) := by decide +kernel
theorem dX8_ask_85 : decode cX8_ask 85 = .ok (.dup, 1) := by decide +kernel
theorem dX8_ask_86 : decode cX8_ask 86 = .ok (.getfield 132, 3) := by decide +kernel
theorem dX8_ask_89 : decode cX8_ask 89 = .ok (.iconst 1, 1) := by decide +kernel
theorem dX8_ask_90 : decode cX8_ask 90 = .ok (.iadd, 1) := by decide +kernel
theorem dX8_ask_91 : decode cX8_ask 91 = .ok (.putfield 132, 3) := by decide +kernel
theorem dX8_ask_94 : decode cX8_ask 94 = .ok (.aload_n 0, 1) := by decide +kernel
theorem dX8_ask_95 : decode cX8_ask 95 = .ok (.getfield 55, 3) := by decide +kernel
theorem dX8_ask_98 : decode cX8_ask 98 = .ok (.aload_n 0, 1) := by decide +kernel
theorem dX8_ask_99 : decode cX8_ask 99 = .ok (.getfield 132, 3) := by decide +kernel
theorem dX8_ask_102 : decode cX8_ask 102 = .ok (.aload_n 0, 1) := by decide +kernel
theorem dX8_ask_103 : decode cX8_ask 103 = .ok (.getfield 123, 3) := by decide +kernel
theorem dX8_ask_106 : decode cX8_ask 106 = .ok (.iastore, 1) := by decide +kernel
theorem dX8_ask_107 : decode cX8_ask 107 = .ok (.aload_n 0, 1) := by decide +kernel
theorem dX8_ask_108 : decode cX8_ask 108 = .ok (.getfield 58, 3) := by decide +kernel
theorem dX8_ask_111 : decode cX8_ask 111 = .ok (.aload_n 0, 1) := by decide +kernel
theorem dX8_ask_112 : decode cX8_ask 112 = .ok (.getfield 132, 3) := by decide +kernel
theorem dX8_ask_115 : decode cX8_ask 115 = .ok (.aload_n 0, 1) := by decide +kernel
theorem dX8_ask_116 : decode cX8_ask 116 = .ok (.getfield 129, 3) := by decide +kernel
theorem dX8_ask_119 : decode cX8_ask 119 = .ok (.iastore, 1) := by decide +kernel
theorem dX8_ask_120 : decode cX8_ask 120 = .ok (.aload_n 0, 1) := by decide +kernel
theorem dX8_ask_121 : decode cX8_ask 121 = .ok (.getfield 61, 3) := by decide +kernel
theorem dX8_ask_124 : decode cX8_ask 124 = .ok (.aload_n 0, 1) := by decide +kernel
theorem dX8_ask_125 : decode cX8_ask 125 = .ok (.getfield 132, 3) := by decide +kernel
theorem dX8_ask_128 : decode cX8_ask 128 = .ok (.iload_n 2, 1) := by decide +kernel
theorem dX8_ask_129 : decode cX8_ask 129 = .ok (.iastore, 1) := by decide +kernel
theorem dX8_ask_130 : decode cX8_ask 130 = .ok (.aload_n 0, 1) := by decide +kernel
theorem dX8_ask_131 : decode cX8_ask 131 = .ok (.aload_n 0, 1) := by decide +kernel
theorem dX8_ask_132 : decode cX8_ask 132 = .ok (.getfield 49, 3) := by decide +kernel
theorem dX8_ask_135 : decode cX8_ask 135 = .ok (.iload_n 2, 1) := by decide +kernel
theorem dX8_ask_136 : decode cX8_ask 136 = .ok (.iaload, 1) := by decide +kernel
theorem dX8_ask_137 : decode cX8_ask 137 = .ok (.putfield 123, 3) := by decide +kernel
theorem dX8_ask_140 : decode cX8_ask 140 = .ok (.aload_n 0, 1) := by decide +kernel
theorem dX8_ask_141 : decode cX8_ask 141 = .ok (.aload_n 0, 1) := by decide +kernel
theorem dX8_ask_142 : decode cX8_ask 142 = .ok (.getfield 52, 3) := by decide +kernel
theorem dX8_ask_145 : decode cX8_ask 145 = .ok (.iload_n 2, 1) := by decide +kernel
theorem dX8_ask_146 : decode cX8_ask 146 = .ok (.iaload, 1) := by decide +kernel
theorem dX8_ask_147 : decode cX8_ask 147 = .ok (.putfield 129, 3) := by decide +kernel
theorem dX8_ask_150 : decode cX8_ask 150 = .ok (.aload_n 0, 1) := by decide +kernel
theorem dX8_ask_151 : decode cX8_ask 151 = .ok (.aload_n 0, 1) := by decide +kernel
theorem dX8_ask_152 : decode cX8_ask 152 = .ok (.getfield 46, 3) := by decide +kernel
theorem dX8_ask_155 : decode cX8_ask 155 = .ok (.iload_n 2, 1) := by decide +kernel
theorem dX8_ask_156 : decode cX8_ask 156 = .ok (.iaload, 1) := by decide +kernel
theorem dX8_ask_157 : decode cX8_ask 157 = .ok (.iload_n 1, 1) := by decide +kernel
theorem dX8_ask_158 : decode cX8_ask 158 = .ok (.invokestatic 109, 3) := by decide +kernel
theorem dX8_ask_161 : decode cX8_ask 161 = .ok (.aload_n 0, 1) := by decide +kernel
theorem dX8_ask_162 : decode cX8_ask 162 = .ok (.getfield 162, 3) := by decide +kernel
theorem dX8_ask_165 : decode cX8_ask 165 = .ok (.aload_n 0, 1) := by decide +kernel
theorem dX8_ask_166 : decode cX8_ask 166 = .ok (.getfield 132, 3) := by decide +kernel
theorem dX8_ask_169 : decode cX8_ask 169 = .ok (.invokevirtual 185, 3) := by decide +kernel
theorem dX8_ask_172 : decode cX8_ask 172 = .ok (.goto 59, 3) := by decide +kernel
theorem dX8_ask_175 : decode cX8_ask 175 = .ok (.aload_n 0, 1) := by decide +kernel
theorem dX8_ask_176 : decode cX8_ask 176 = .ok (.getfield 141, 3) := by decide +kernel
theorem dX8_ask_179 : decode cX8_ask 179 = .ok (.aload_n 0, 1) := by decide +kernel
theorem dX8_ask_180 : decode cX8_ask 180 = .ok (.getfield 203, 3) := by decide +kernel
theorem dX8_ask_183 : decode cX8_ask 183 = .ok (.if_icmp .ne 25, 3) := by decide +kernel
theorem dX8_ask_186 : decode cX8_ask 186 = .ok (.aload_n 0, 1) := by decide +kernel
theorem dX8_ask_187 : decode cX8_ask 187 = .ok (.iload_n 1, 1) := by decide +kernel
theorem dX8_ask_188 : decode cX8_ask 188 = .ok (.putfield 147, 3) := by decide +kernel
theorem dX8_ask_191 : decode cX8_ask 191 = .ok (.aload_n 0, 1) := by decide +kernel
theorem dX8_ask_192 : decode cX8_ask 192 = .ok (.aload_n 0, 1) := by decide +kernel
theorem dX8_ask_193 : decode cX8_ask 193 = .ok (.getfield 162, 3) := by decide +kernel
theorem dX8_ask_196 : decode cX8_ask 196 = .ok (.putfield 150, 3) := by decide +kernel
theorem dX8_ask_199 : decode cX8_ask 199 = .ok (.aload_n 0, 1) := by decide +kernel
theorem dX8_ask_200 : decode cX8_ask 200 = .ok (.bipush 8, 2) := by decide +kernel
theorem dX8_ask_202 : decode cX8_ask 202 = .ok (.putfield 165, 3) := by decide +kernel
theorem dX8_ask_205 : decode cX8_ask 205 = .ok (.goto 26, 3) := by decide +kernel
theorem dX8_ask_208 : decode cX8_ask 208 = .ok (.aload_n 0, 1) := by decide +kernel
theorem dX8_ask_209 : decode cX8_ask 209 = .ok (.aload_n 0, 1) := by decide +kernel
theorem dX8_ask_210 : decode cX8_ask 210 = .ok (.getfield 67, 3) := by decide +kernel
theorem dX8_ask_213 : decode cX8_ask 213 = .ok (.aload_n 0, 1) := by decide +kernel
theorem dX8_ask_214 : decode cX8_ask 214 = .ok (.getfield 141, 3) := by decide +kernel
theorem dX8_ask_217 : decode cX8_ask 217 = .ok (.iaload, 1) := by decide +kernel
theorem dX8_ask_218 : decode cX8_ask 218 = .ok (.putfield 162, 3) := by decide +kernel
theorem dX8_ask_221 : decode cX8_ask 221 = .ok (.aload_n 0, 1) := by decide +kernel
theorem dX8_ask_222 : decode cX8_ask 222 = .ok (.dup, 1) := by decide +kernel
theorem dX8_ask_223 : decode cX8_ask 223 = .ok (.getfield 141, 3) := by decide +kernel
theorem dX8_ask_226 : decode cX8_ask 226 = .ok (.iconst 1, 1) := by decide +kernel
theorem dX8_ask_227 : decode cX8_ask 227 = .ok (.iadd, 1) := by decide +kernel
theorem dX8_ask_228 : decode cX8_ask 228 = .ok (.putfield 141, 3) := by decide +kernel
theorem dX8_ask_231 : decode cX8_ask 231 = .ok (.return_, 1) := by decide +kernel
theorem dX8_goOn_0 : decode cX8_goOn 0 = .ok (.iconst 0, 1) := by decide +kernel
theorem dX8_goOn_1 : decode cX8_goOn 1 = .ok (.istore_n 2, 1) := by decide +kernel
theorem dX8_goOn_2 : decode cX8_goOn 2 = .ok (.aload_n 0, 1) := by decide +kernel
theorem dX8_goOn_3 : decode cX8_goOn 3 = .ok (.getfield 58, 3) := by decide +kernel
theorem dX8_goOn_6 : decode cX8_goOn 6 = .ok (.iload_n 1, 1) := by decide +kernel
theorem dX8_goOn_7 : decode cX8_goOn 7 = .ok (.iaload, 1) := by decide +kernel
theorem dX8_goOn_8 : decode cX8_goOn 8 = .ok (.istore_n 3, 1) := by decide +kernel
theorem dX8_goOn_9 : decode cX8_goOn 9 = .ok (.iload_n 3, 1) := by decide +kernel
theorem dX8_goOn_10 : decode cX8_goOn 10 = .ok (.aload_n 0, 1) := by decide +kernel
theorem dX8_goOn_11 : decode cX8_goOn 11 = .ok (.getfield 61, 3) := by decide +kernel
theorem dX8_goOn_14 : decode cX8_goOn 14 = .ok (.iload_n 1, 1) := by decide +kernel
theorem dX8_goOn_15 : decode cX8_goOn 15 = .ok (.iaload, 1) := by decide +kernel
theorem dX8_goOn_16 : decode cX8_goOn 16 = .ok (.if_icmp .eq 23, 3) := by decide +kernel
theorem dX8_goOn_19 : decode cX8_goOn 19 = .ok (.aload_n 0, 1) := by decide +kernel
theorem dX8_goOn_20 : decode cX8_goOn 20 = .ok (.getfield 70, 3) := by decide +kernel
theorem dX8_goOn_23 : decode cX8_goOn 23 = .ok (.iload_n 2, 1) := by decide +kernel
theorem dX8_goOn_24 : decode cX8_goOn 24 = .ok (.iload_n 3, 1) := by decide +kernel
theorem dX8_goOn_25 : decode cX8_goOn 25 = .ok (.iastore, 1) := by decide +kernel
theorem dX8_goOn_26 : decode cX8_goOn 26 = .ok (.iinc 2 1, 3) := by decide +kernel
theorem dX8_goOn_29 : decode cX8_goOn 29 = .ok (.aload_n 0, 1) := by decide +kernel
theorem dX8_goOn_30 : decode cX8_goOn 30 = .ok (.getfield 52, 3) := by decide +kernel
theorem dX8_goOn_33 : decode cX8_goOn 33 = .ok (.iload_n 3, 1) := by decide +kernel
theorem dX8_goOn_34 : decode cX8_goOn 34 = .ok (.iaload, 1) := by decide +kernel
theorem dX8_goOn_35 : decode cX8_goOn 35 = .ok (.istore_n 3, 1) := by decide +kernel
theorem dX8_goOn_36 : decode cX8_goOn 36 = .ok (.goto (-27), 3) := by decide +kernel
theorem dX8_goOn_39 : decode cX8_goOn 39 = .ok (.aload_n 0, 1) := by decide +kernel
theorem dX8_goOn_40 : decode cX8_goOn 40 = .ok (.aload_n 0, 1) := by decide +kernel
theorem dX8_goOn_41 : decode cX8_goOn 41 = .ok (.getfield 46, 3) := by decide +kernel
theorem dX8_goOn_44 : decode cX8_goOn 44 = .ok (.aload_n 0, 1) := by decide +kernel
theorem dX8_goOn_45 : decode cX8_goOn 45 = .ok (.getfield 61, 3) := by decide +kernel
theorem dX8_goOn_48 : decode cX8_goOn 48 = .ok (.iload_n 1, 1) := by decide +kernel
theorem dX8_goOn_49 : decode cX8_goOn 49 = .ok (.iaload, 1) := by decide +kernel
theorem dX8_goOn_50 : decode cX8_goOn 50 = .ok (.iaload, 1) := by decide +kernel
theorem dX8_goOn_51 : decode cX8_goOn 51 = .ok (.aload_n 0, 1) := by decide +kernel
theorem dX8_goOn_52 : decode cX8_goOn 52 = .ok (.getfield 123, 3) := by decide +kernel
theorem dX8_goOn_55 : decode cX8_goOn 55 = .ok (.invokevirtual 177, 3) := by decide +kernel
theorem dX8_goOn_58 : decode cX8_goOn 58 = .ok (.iload_n 2, 1) := by decide +kernel
theorem dX8_goOn_59 : decode cX8_goOn 59 = .ok (.iconst 1, 1) := by decide +kernel
theorem dX8_goOn_60 : decode cX8_goOn 60 = .ok (.isub, 1) := by decide +kernel
theorem dX8_goOn_61 : decode cX8_goOn 61 = .ok (.istore_n 3, 1) := by decide +kernel
theorem dX8_goOn_62 : decode cX8_goOn 62 = .ok (.iload_n 3, 1) := by decide +kernel
theorem dX8_goOn_63 : decode cX8_goOn 63 = .ok (.ifCond .lt 35, 3) := by decide +kernel
theorem dX8_goOn_66 : decode cX8_goOn 66 = .ok (.aload_n 0, 1) := by decide +kernel
theorem dX8_goOn_67 : decode cX8_goOn 67 = .ok (.aload_n 0, 1) := by decide +kernel
theorem dX8_goOn_68 : decode cX8_goOn 68 = .ok (.getfield 46, 3) := by decide +kernel
theorem dX8_goOn_71 : decode cX8_goOn 71 = .ok (.aload_n 0, 1) := by decide +kernel
theorem dX8_goOn_72 : decode cX8_goOn 72 = .ok (.getfield 70, 3) := by decide +kernel
theorem dX8_goOn_75 : decode cX8_goOn 75 = .ok (.iload_n 3, 1) := by decide +kernel
theorem dX8_goOn_76 : decode cX8_goOn 76 = .ok (.iaload, 1) := by decide +kernel
theorem dX8_goOn_77 : decode cX8_goOn 77 = .ok (.iaload, 1) := by decide +kernel
theorem dX8_goOn_78 : decode cX8_goOn 78 = .ok (.aload_n 0, 1) := by decide +kernel
theorem dX8_goOn_79 : decode cX8_goOn 79 = .ok (.getfield 49, 3) := by decide +kernel
theorem dX8_goOn_82 : decode cX8_goOn 82 = .ok (.aload_n 0, 1) := by decide +kernel
theorem dX8_goOn_83 : decode cX8_goOn 83 = .ok (.getfield 70, 3) := by decide +kernel
theorem dX8_goOn_86 : decode cX8_goOn 86 = .ok (.iload_n 3, 1) := by decide +kernel
theorem dX8_goOn_87 : decode cX8_goOn 87 = .ok (.iaload, 1) := by decide +kernel
theorem dX8_goOn_88 : decode cX8_goOn 88 = .ok (.iaload, 1) := by decide +kernel
theorem dX8_goOn_89 : decode cX8_goOn 89 = .ok (.invokevirtual 177, 3) := by decide +kernel
theorem dX8_goOn_92 : decode cX8_goOn 92 = .ok (.iinc 3 (-1), 3) := by decide +kernel
theorem dX8_goOn_95 : decode cX8_goOn 95 = .ok (.goto (-33), 3) := by decide +kernel
theorem dX8_goOn_98 : decode cX8_goOn 98 = .ok (.aload_n 0, 1) := by decide +kernel
theorem dX8_goOn_99 : decode cX8_goOn 99 = .ok (.aload_n 0, 1) := by decide +kernel
theorem dX8_goOn_100 : decode cX8_goOn 100 = .ok (.getfield 55, 3) := by decide +kernel
theorem dX8_goOn_103 : decode cX8_goOn 103 = .ok (.iload_n 1, 1) := by decide +kernel
theorem dX8_goOn_104 : decode cX8_goOn 104 = .ok (.iaload, 1) := by decide +kernel
theorem dX8_goOn_105 : decode cX8_goOn 105 = .ok (.putfield 123, 3) := by decide +kernel
theorem dX8_goOn_108 : decode cX8_goOn 108 = .ok (.return_, 1) := by decide +kernel
theorem dX8_giveReplies_0 : decode cX8_giveReplies 0 = .ok (.aload_n 0, 1) := by decide +kernel
theorem dX8_giveReplies_1 : decode cX8_giveReplies 1 = .ok (.aload_n 0, 1) := by decide +kernel
theorem dX8_giveReplies_2 : decode cX8_giveReplies 2 = .ok (.getfield 117, 3) := by decide +kernel
theorem dX8_giveReplies_5 : decode cX8_giveReplies 5 = .ok (.putfield 203, 3) := by decide +kernel
theorem dX8_giveReplies_8 : decode cX8_giveReplies 8 = .ok (.iconst 0, 1) := by decide +kernel
theorem dX8_giveReplies_9 : decode cX8_giveReplies 9 = .ok (.istore_n 1, 1) := by decide +kernel
theorem dX8_giveReplies_10 : decode cX8_giveReplies 10 = .ok (.iload_n 1, 1) := by decide +kernel
theorem dX8_giveReplies_11 : decode cX8_giveReplies 11 = .ok (.aload_n 0, 1) := by decide +kernel
theorem dX8_giveReplies_12 : decode cX8_giveReplies 12 = .ok (.getfield 117, 3) := by decide +kernel
theorem dX8_giveReplies_15 : decode cX8_giveReplies 15 = .ok (.if_icmp .ge 21, 3) := by decide +kernel
theorem dX8_giveReplies_18 : decode cX8_giveReplies 18 = .ok (.aload_n 0, 1) := by decide +kernel
theorem dX8_giveReplies_19 : decode cX8_giveReplies 19 = .ok (.getfield 67, 3) := by decide +kernel
theorem dX8_giveReplies_22 : decode cX8_giveReplies 22 = .ok (.iload_n 1, 1) := by decide +kernel
theorem dX8_giveReplies_23 : decode cX8_giveReplies 23 = .ok (.aload_n 0, 1) := by decide +kernel
theorem dX8_giveReplies_24 : decode cX8_giveReplies 24 = .ok (.getfield 22, 3) := by decide +kernel
theorem dX8_giveReplies_27 : decode cX8_giveReplies 27 = .ok (.iload_n 1, 1) := by decide +kernel
theorem dX8_giveReplies_28 : decode cX8_giveReplies 28 = .ok (.iaload, 1) := by decide +kernel
theorem dX8_giveReplies_29 : decode cX8_giveReplies 29 = .ok (.iastore, 1) := by decide +kernel
theorem dX8_giveReplies_30 : decode cX8_giveReplies 30 = .ok (.iinc 1 1, 3) := by decide +kernel
theorem dX8_giveReplies_33 : decode cX8_giveReplies 33 = .ok (.goto (-23), 3) := by decide +kernel
theorem dX8_giveReplies_36 : decode cX8_giveReplies 36 = .ok (.return_, 1) := by decide +kernel
theorem dX8_run_0 : decode cX8_run 0 = .ok (.iload_n 1, 1) := by decide +kernel
theorem dX8_run_1 : decode cX8_run 1 = .ok (.invokestatic 101, 3) := by decide +kernel
theorem dX8_run_4 : decode cX8_run 4 = .ok (.ifCond .ne 5, 3) := by decide +kernel
theorem dX8_run_7 : decode cX8_run 7 = .ok (.iconst (-1), 1) := by decide +kernel
theorem dX8_run_8 : decode cX8_run 8 = .ok (.ireturn, 1) := by decide +kernel
theorem dX8_run_9 : decode cX8_run 9 = .ok (.iload_n 2, 1) := by decide +kernel
theorem dX8_run_10 : decode cX8_run 10 = .ok (.iconst 0, 1) := by decide +kernel
theorem dX8_run_11 : decode cX8_run 11 = .ok (.bipush 7, 2) := by decide +kernel
theorem dX8_run_13 : decode cX8_run 13 = .ok (.invokestatic 85, 3) := by decide +kernel
theorem dX8_run_16 : decode cX8_run 16 = .ok (.ifCond .eq 13, 3) := by decide +kernel
theorem dX8_run_19 : decode cX8_run 19 = .ok (.iload_n 3, 1) := by decide +kernel
theorem dX8_run_20 : decode cX8_run 20 = .ok (.iconst 0, 1) := by decide +kernel
theorem dX8_run_21 : decode cX8_run 21 = .ok (.bipush 6, 2) := by decide +kernel
theorem dX8_run_23 : decode cX8_run 23 = .ok (.invokestatic 85, 3) := by decide +kernel
theorem dX8_run_26 : decode cX8_run 26 = .ok (.ifCond .ne 6, 3) := by decide +kernel
theorem dX8_run_29 : decode cX8_run 29 = .ok (.bipush (-2), 2) := by decide +kernel
theorem dX8_run_31 : decode cX8_run 31 = .ok (.ireturn, 1) := by decide +kernel
theorem dX8_run_32 : decode cX8_run 32 = .ok (.aload_n 0, 1) := by decide +kernel
theorem dX8_run_33 : decode cX8_run 33 = .ok (.invokevirtual 206, 3) := by decide +kernel
theorem dX8_run_36 : decode cX8_run 36 = .ok (.aload_n 0, 1) := by decide +kernel
theorem dX8_run_37 : decode cX8_run 37 = .ok (.iload_n 1, 1) := by decide +kernel
theorem dX8_run_38 : decode cX8_run 38 = .ok (.iload_n 2, 1) := by decide +kernel
theorem dX8_run_39 : decode cX8_run 39 = .ok (.invokevirtual 209, 3) := by decide +kernel
theorem dX8_run_42 : decode cX8_run 42 = .ok (.istore 4, 2) := by decide +kernel
theorem dX8_run_44 : decode cX8_run 44 = .ok (.iload_n 3, 1) := by decide +kernel
theorem dX8_run_45 : decode cX8_run 45 = .ok (.tableswitch 67 0 5 #[39, 42, 47, 52, 57, 62], 39) := by decide +kernel
theorem dX8_run_84 : decode cX8_run 84 = .ok (.iload 4, 2) := by decide +kernel
theorem dX8_run_86 : decode cX8_run 86 = .ok (.ireturn, 1) := by decide +kernel
theorem dX8_run_87 : decode cX8_run 87 = .ok (.aload_n 0, 1) := by decide +kernel
theorem dX8_run_88 : decode cX8_run 88 = .ok (.getfield 135, 3) := by decide +kernel
theorem dX8_run_91 : decode cX8_run 91 = .ok (.ireturn, 1) := by decide +kernel
theorem dX8_run_92 : decode cX8_run 92 = .ok (.aload_n 0, 1) := by decide +kernel
theorem dX8_run_93 : decode cX8_run 93 = .ok (.getfield 141, 3) := by decide +kernel
theorem dX8_run_96 : decode cX8_run 96 = .ok (.ireturn, 1) := by decide +kernel
theorem dX8_run_97 : decode cX8_run 97 = .ok (.aload_n 0, 1) := by decide +kernel
theorem dX8_run_98 : decode cX8_run 98 = .ok (.getfield 147, 3) := by decide +kernel
theorem dX8_run_101 : decode cX8_run 101 = .ok (.ireturn, 1) := by decide +kernel
theorem dX8_run_102 : decode cX8_run 102 = .ok (.aload_n 0, 1) := by decide +kernel
theorem dX8_run_103 : decode cX8_run 103 = .ok (.getfield 150, 3) := by decide +kernel
theorem dX8_run_106 : decode cX8_run 106 = .ok (.ireturn, 1) := by decide +kernel
theorem dX8_run_107 : decode cX8_run 107 = .ok (.aload_n 0, 1) := by decide +kernel
theorem dX8_run_108 : decode cX8_run 108 = .ok (.getfield 138, 3) := by decide +kernel
theorem dX8_run_111 : decode cX8_run 111 = .ok (.ireturn, 1) := by decide +kernel
theorem dX8_run_112 : decode cX8_run 112 = .ok (.aload_n 0, 1) := by decide +kernel
theorem dX8_run_113 : decode cX8_run 113 = .ok (.getfield 144, 3) := by decide +kernel
theorem dX8_run_116 : decode cX8_run 116 = .ok (.ireturn, 1) := by decide +kernel
theorem dX8_who_0 : decode cX8_who 0 = .ok (.iload_n 1, 1) := by decide +kernel
theorem dX8_who_1 : decode cX8_who 1 = .ok (.invokestatic 101, 3) := by decide +kernel
theorem dX8_who_4 : decode cX8_who 4 = .ok (.ifCond .ne 5, 3) := by decide +kernel
theorem dX8_who_7 : decode cX8_who 7 = .ok (.iconst (-1), 1) := by decide +kernel
theorem dX8_who_8 : decode cX8_who 8 = .ok (.ireturn, 1) := by decide +kernel
theorem dX8_who_9 : decode cX8_who 9 = .ok (.iload_n 2, 1) := by decide +kernel
theorem dX8_who_10 : decode cX8_who 10 = .ok (.iconst 0, 1) := by decide +kernel
theorem dX8_who_11 : decode cX8_who 11 = .ok (.bipush 7, 2) := by decide +kernel
theorem dX8_who_13 : decode cX8_who 13 = .ok (.invokestatic 85, 3) := by decide +kernel
theorem dX8_who_16 : decode cX8_who 16 = .ok (.ifCond .eq 14, 3) := by decide +kernel
theorem dX8_who_19 : decode cX8_who 19 = .ok (.iload_n 3, 1) := by decide +kernel
theorem dX8_who_20 : decode cX8_who 20 = .ok (.iconst 0, 1) := by decide +kernel
theorem dX8_who_21 : decode cX8_who 21 = .ok (.sipush 199, 3) := by decide +kernel
theorem dX8_who_24 : decode cX8_who 24 = .ok (.invokestatic 85, 3) := by decide +kernel
theorem dX8_who_27 : decode cX8_who 27 = .ok (.ifCond .ne 6, 3) := by decide +kernel
theorem dX8_who_30 : decode cX8_who 30 = .ok (.bipush (-2), 2) := by decide +kernel
theorem dX8_who_32 : decode cX8_who 32 = .ok (.ireturn, 1) := by decide +kernel
theorem dX8_who_33 : decode cX8_who 33 = .ok (.aload_n 0, 1) := by decide +kernel
theorem dX8_who_34 : decode cX8_who 34 = .ok (.invokevirtual 206, 3) := by decide +kernel
theorem dX8_who_37 : decode cX8_who 37 = .ok (.aload_n 0, 1) := by decide +kernel
theorem dX8_who_38 : decode cX8_who 38 = .ok (.iload_n 1, 1) := by decide +kernel
theorem dX8_who_39 : decode cX8_who 39 = .ok (.iload_n 2, 1) := by decide +kernel
theorem dX8_who_40 : decode cX8_who 40 = .ok (.invokevirtual 209, 3) := by decide +kernel
theorem dX8_who_43 : decode cX8_who 43 = .ok (.pop, 1) := by decide +kernel
theorem dX8_who_44 : decode cX8_who 44 = .ok (.iload_n 3, 1) := by decide +kernel
theorem dX8_who_45 : decode cX8_who 45 = .ok (.aload_n 0, 1) := by decide +kernel
theorem dX8_who_46 : decode cX8_who 46 = .ok (.getfield 144, 3) := by decide +kernel
theorem dX8_who_49 : decode cX8_who 49 = .ok (.if_icmp .ge 12, 3) := by decide +kernel
theorem dX8_who_52 : decode cX8_who 52 = .ok (.aload_n 0, 1) := by decide +kernel
theorem dX8_who_53 : decode cX8_who 53 = .ok (.getfield 64, 3) := by decide +kernel
theorem dX8_who_56 : decode cX8_who 56 = .ok (.iload_n 3, 1) := by decide +kernel
theorem dX8_who_57 : decode cX8_who 57 = .ok (.iaload, 1) := by decide +kernel
theorem dX8_who_58 : decode cX8_who 58 = .ok (.goto 5, 3) := by decide +kernel
theorem dX8_who_61 : decode cX8_who 61 = .ok (.bipush (-6), 2) := by decide +kernel
theorem dX8_who_63 : decode cX8_who 63 = .ok (.ireturn, 1) := by decide +kernel
theorem dX8_mayOf_0 : decode cX8_mayOf 0 = .ok (.bipush 40, 2) := by decide +kernel
theorem dX8_mayOf_2 : decode cX8_mayOf 2 = .ok (.iload_n 1, 1) := by decide +kernel
theorem dX8_mayOf_3 : decode cX8_mayOf 3 = .ok (.imul, 1) := by decide +kernel
theorem dX8_mayOf_4 : decode cX8_mayOf 4 = .ok (.istore_n 2, 1) := by decide +kernel
theorem dX8_mayOf_5 : decode cX8_mayOf 5 = .ok (.aload_n 0, 1) := by decide +kernel
theorem dX8_mayOf_6 : decode cX8_mayOf 6 = .ok (.getfield 13, 3) := by decide +kernel
theorem dX8_mayOf_9 : decode cX8_mayOf 9 = .ok (.iload_n 1, 1) := by decide +kernel
theorem dX8_mayOf_10 : decode cX8_mayOf 10 = .ok (.iaload, 1) := by decide +kernel
theorem dX8_mayOf_11 : decode cX8_mayOf 11 = .ok (.iconst 1, 1) := by decide +kernel
theorem dX8_mayOf_12 : decode cX8_mayOf 12 = .ok (.isub, 1) := by decide +kernel
theorem dX8_mayOf_13 : decode cX8_mayOf 13 = .ok (.istore_n 3, 1) := by decide +kernel
theorem dX8_mayOf_14 : decode cX8_mayOf 14 = .ok (.iload_n 3, 1) := by decide +kernel
theorem dX8_mayOf_15 : decode cX8_mayOf 15 = .ok (.ifCond .lt 334, 3) := by decide +kernel
theorem dX8_mayOf_18 : decode cX8_mayOf 18 = .ok (.aload_n 0, 1) := by decide +kernel
theorem dX8_mayOf_19 : decode cX8_mayOf 19 = .ok (.getfield 16, 3) := by decide +kernel
theorem dX8_mayOf_22 : decode cX8_mayOf 22 = .ok (.iload_n 2, 1) := by decide +kernel
theorem dX8_mayOf_23 : decode cX8_mayOf 23 = .ok (.iload_n 3, 1) := by decide +kernel
theorem dX8_mayOf_24 : decode cX8_mayOf 24 = .ok (.iadd, 1) := by decide +kernel
theorem dX8_mayOf_25 : decode cX8_mayOf 25 = .ok (.iaload, 1) := by decide +kernel
theorem dX8_mayOf_26 : decode cX8_mayOf 26 = .ok (.istore 4, 2) := by decide +kernel
theorem dX8_mayOf_28 : decode cX8_mayOf 28 = .ok (.iload_n 3, 1) := by decide +kernel
theorem dX8_mayOf_29 : decode cX8_mayOf 29 = .ok (.ifCond .le 22, 3) := by decide +kernel
theorem dX8_mayOf_32 : decode cX8_mayOf 32 = .ok (.aload_n 0, 1) := by decide +kernel
theorem dX8_mayOf_33 : decode cX8_mayOf 33 = .ok (.getfield 16, 3) := by decide +kernel
theorem dX8_mayOf_36 : decode cX8_mayOf 36 = .ok (.iload_n 2, 1) := by decide +kernel
theorem dX8_mayOf_37 : decode cX8_mayOf 37 = .ok (.iload_n 3, 1) := by decide +kernel
theorem dX8_mayOf_38 : decode cX8_mayOf 38 = .ok (.iadd, 1) := by decide +kernel
theorem dX8_mayOf_39 : decode cX8_mayOf 39 = .ok (.iconst 1, 1) := by decide +kernel
theorem dX8_mayOf_40 : decode cX8_mayOf 40 = .ok (.isub, 1) := by decide +kernel
theorem dX8_mayOf_41 : decode cX8_mayOf 41 = .ok (.iaload, 1) := by decide +kernel
theorem dX8_mayOf_42 : decode cX8_mayOf 42 = .ok (.bipush 64, 2) := by decide +kernel
theorem dX8_mayOf_44 : decode cX8_mayOf 44 = .ok (.if_icmp .ne 7, 3) := by decide +kernel
theorem dX8_mayOf_47 : decode cX8_mayOf 47 = .ok (.iconst 1, 1) := by decide +kernel
theorem dX8_mayOf_48 : decode cX8_mayOf 48 = .ok (.goto 4, 3) := by decide +kernel
theorem dX8_mayOf_51 : decode cX8_mayOf 51 = .ok (.iconst 0, 1) := by decide +kernel
theorem dX8_mayOf_52 : decode cX8_mayOf 52 = .ok (.istore 5, 2) := by decide +kernel
theorem dX8_mayOf_54 : decode cX8_mayOf 54 = .ok (.iload 5, 2) := by decide +kernel
theorem dX8_mayOf_56 : decode cX8_mayOf 56 = .ok (.ifCond .eq 7, 3) := by decide +kernel
theorem dX8_mayOf_59 : decode cX8_mayOf 59 = .ok (.iconst 0, 1) := by decide +kernel
theorem dX8_mayOf_60 : decode cX8_mayOf 60 = .ok (.goto 9, 3) := by decide +kernel
theorem dX8_mayOf_63 : decode cX8_mayOf 63 = .ok (.iload 4, 2) := by decide +kernel
theorem dX8_mayOf_65 : decode cX8_mayOf 65 = .ok (.iconst 1, 1) := by decide +kernel
theorem dX8_mayOf_66 : decode cX8_mayOf 66 = .ok (.invokestatic 93, 3) := by decide +kernel
theorem dX8_mayOf_69 : decode cX8_mayOf 69 = .ok (.istore 6, 2) := by decide +kernel
theorem dX8_mayOf_71 : decode cX8_mayOf 71 = .ok (.iconst 0, 1) := by decide +kernel
theorem dX8_mayOf_72 : decode cX8_mayOf 72 = .ok (.istore 7, 2) := by decide +kernel
theorem dX8_mayOf_74 : decode cX8_mayOf 74 = .ok (.iload_n 3, 1) := by decide +kernel
theorem dX8_mayOf_75 : decode cX8_mayOf 75 = .ok (.iload 4, 2) := by decide +kernel
theorem dX8_mayOf_77 : decode cX8_mayOf 77 = .ok (.bipush 64, 2) := by decide +kernel
theorem dX8_mayOf_79 : decode cX8_mayOf 79 = .ok (.if_icmp .ne 7, 3) := by decide +kernel
theorem dX8_mayOf_82 : decode cX8_mayOf 82 = .ok (.iconst 2, 1) := by decide +kernel
theorem dX8_mayOf_83 : decode cX8_mayOf 83 = .ok (.goto 4, 3) := by decide +kernel
theorem dX8_mayOf_86 : decode cX8_mayOf 86 = .ok (.iconst 1, 1) := by decide +kernel
theorem dX8_mayOf_87 : decode cX8_mayOf 87 = .ok (.iadd, 1) := by decide +kernel
theorem dX8_mayOf_88 : decode cX8_mayOf 88 = .ok (.istore 8, 2) := by decide +kernel
theorem dX8_mayOf_90 : decode cX8_mayOf 90 = .ok (.iconst 0, 1) := by decide +kernel
theorem dX8_mayOf_91 : decode cX8_mayOf 91 = .ok (.istore 9, 2) := by decide +kernel
theorem dX8_mayOf_93 : decode cX8_mayOf 93 = .ok (.iload 9, 2) := by decide +kernel
theorem dX8_mayOf_95 : decode cX8_mayOf 95 = .ok (.iload 6, 2) := by decide +kernel
theorem dX8_mayOf_97 : decode cX8_mayOf 97 = .ok (.if_icmp .ge 35, 3) := by decide +kernel
theorem dX8_mayOf_100 : decode cX8_mayOf 100 = .ok (.iload 7, 2) := by decide +kernel
theorem dX8_mayOf_102 : decode cX8_mayOf 102 = .ok (.aload_n 0, 1) := by decide +kernel
theorem dX8_mayOf_103 : decode cX8_mayOf 103 = .ok (.getfield 79, 3) := by decide +kernel
theorem dX8_mayOf_106 : decode cX8_mayOf 106 = .ok (.iload 8, 2) := by decide +kernel
theorem dX8_mayOf_108 : decode cX8_mayOf 108 = .ok (.iaload, 1) := by decide +kernel
theorem dX8_mayOf_109 : decode cX8_mayOf 109 = .ok (.ior, 1) := by decide +kernel
theorem dX8_mayOf_110 : decode cX8_mayOf 110 = .ok (.istore 7, 2) := by decide +kernel
theorem dX8_mayOf_112 : decode cX8_mayOf 112 = .ok (.iload 8, 2) := by decide +kernel
theorem dX8_mayOf_114 : decode cX8_mayOf 114 = .ok (.aload_n 0, 1) := by decide +kernel
theorem dX8_mayOf_115 : decode cX8_mayOf 115 = .ok (.getfield 19, 3) := by decide +kernel
theorem dX8_mayOf_118 : decode cX8_mayOf 118 = .ok (.iload_n 2, 1) := by decide +kernel
theorem dX8_mayOf_119 : decode cX8_mayOf 119 = .ok (.iload 8, 2) := by decide +kernel
theorem dX8_mayOf_121 : decode cX8_mayOf 121 = .ok (.iadd, 1) := by decide +kernel
theorem dX8_mayOf_122 : decode cX8_mayOf 122 = .ok (.iaload, 1) := by decide +kernel
theorem dX8_mayOf_123 : decode cX8_mayOf 123 = .ok (.iadd, 1) := by decide +kernel
theorem dX8_mayOf_124 : decode cX8_mayOf 124 = .ok (.istore 8, 2) := by decide +kernel
theorem dX8_mayOf_126 : decode cX8_mayOf 126 = .ok (.iinc 9 1, 3) := by decide +kernel
theorem dX8_mayOf_129 : decode cX8_mayOf 129 = .ok (.goto (-36), 3) := by decide +kernel
theorem dX8_mayOf_132 : decode cX8_mayOf 132 = .ok (.iload 4, 2) := by decide +kernel
theorem dX8_mayOf_134 : decode cX8_mayOf 134 = .ok (.bipush 112, 2) := by decide +kernel
theorem dX8_mayOf_136 : decode cX8_mayOf 136 = .ok (.if_icmp .eq 17, 3) := by decide +kernel
theorem dX8_mayOf_139 : decode cX8_mayOf 139 = .ok (.iload 4, 2) := by decide +kernel
theorem dX8_mayOf_141 : decode cX8_mayOf 141 = .ok (.bipush 113, 2) := by decide +kernel
theorem dX8_mayOf_143 : decode cX8_mayOf 143 = .ok (.if_icmp .eq 10, 3) := by decide +kernel
theorem dX8_mayOf_146 : decode cX8_mayOf 146 = .ok (.iload 4, 2) := by decide +kernel
theorem dX8_mayOf_148 : decode cX8_mayOf 148 = .ok (.bipush 114, 2) := by decide +kernel
theorem dX8_mayOf_150 : decode cX8_mayOf 150 = .ok (.if_icmp .ne 18, 3) := by decide +kernel
theorem dX8_mayOf_153 : decode cX8_mayOf 153 = .ok (.iload 7, 2) := by decide +kernel
theorem dX8_mayOf_155 : decode cX8_mayOf 155 = .ok (.iconst 1, 1) := by decide +kernel
theorem dX8_mayOf_156 : decode cX8_mayOf 156 = .ok (.iload 4, 2) := by decide +kernel
theorem dX8_mayOf_158 : decode cX8_mayOf 158 = .ok (.bipush 112, 2) := by decide +kernel
theorem dX8_mayOf_160 : decode cX8_mayOf 160 = .ok (.isub, 1) := by decide +kernel
theorem dX8_mayOf_161 : decode cX8_mayOf 161 = .ok (.ishl, 1) := by decide +kernel
theorem dX8_mayOf_162 : decode cX8_mayOf 162 = .ok (.ior, 1) := by decide +kernel
theorem dX8_mayOf_163 : decode cX8_mayOf 163 = .ok (.istore 7, 2) := by decide +kernel
theorem dX8_mayOf_165 : decode cX8_mayOf 165 = .ok (.goto 170, 3) := by decide +kernel
theorem dX8_mayOf_168 : decode cX8_mayOf 168 = .ok (.iload 4, 2) := by decide +kernel
theorem dX8_mayOf_170 : decode cX8_mayOf 170 = .ok (.bipush 64, 2) := by decide +kernel
theorem dX8_mayOf_172 : decode cX8_mayOf 172 = .ok (.if_icmp .ne 141, 3) := by decide +kernel
theorem dX8_mayOf_175 : decode cX8_mayOf 175 = .ok (.aload_n 0, 1) := by decide +kernel
theorem dX8_mayOf_176 : decode cX8_mayOf 176 = .ok (.getfield 16, 3) := by decide +kernel
theorem dX8_mayOf_179 : decode cX8_mayOf 179 = .ok (.iload_n 2, 1) := by decide +kernel
theorem dX8_mayOf_180 : decode cX8_mayOf 180 = .ok (.iload_n 3, 1) := by decide +kernel
theorem dX8_mayOf_181 : decode cX8_mayOf 181 = .ok (.iadd, 1) := by decide +kernel
theorem dX8_mayOf_182 : decode cX8_mayOf 182 = .ok (.iconst 1, 1) := by decide +kernel
theorem dX8_mayOf_183 : decode cX8_mayOf 183 = .ok (.iadd, 1) := by decide +kernel
theorem dX8_mayOf_184 : decode cX8_mayOf 184 = .ok (.iaload, 1) := by decide +kernel
theorem dX8_mayOf_185 : decode cX8_mayOf 185 = .ok (.bipush 48, 2) := by decide +kernel
theorem dX8_mayOf_187 : decode cX8_mayOf 187 = .ok (.isub, 1) := by decide +kernel
theorem dX8_mayOf_188 : decode cX8_mayOf 188 = .ok (.istore 9, 2) := by decide +kernel
theorem dX8_mayOf_190 : decode cX8_mayOf 190 = .ok (.aload_n 0, 1) := by decide +kernel
theorem dX8_mayOf_191 : decode cX8_mayOf 191 = .ok (.iload 9, 2) := by decide +kernel
theorem dX8_mayOf_193 : decode cX8_mayOf 193 = .ok (.iconst 3, 1) := by decide +kernel
theorem dX8_mayOf_194 : decode cX8_mayOf 194 = .ok (.invokevirtual 113, 3) := by decide +kernel
theorem dX8_mayOf_197 : decode cX8_mayOf 197 = .ok (.ifCond .eq 17, 3) := by decide +kernel
theorem dX8_mayOf_200 : decode cX8_mayOf 200 = .ok (.aload_n 0, 1) := by decide +kernel
theorem dX8_mayOf_201 : decode cX8_mayOf 201 = .ok (.getfield 73, 3) := by decide +kernel
theorem dX8_mayOf_204 : decode cX8_mayOf 204 = .ok (.iload 9, 2) := by decide +kernel
theorem dX8_mayOf_206 : decode cX8_mayOf 206 = .ok (.iconst 3, 1) := by decide +kernel
theorem dX8_mayOf_207 : decode cX8_mayOf 207 = .ok (.invokestatic 109, 3) := by decide +kernel
theorem dX8_mayOf_210 : decode cX8_mayOf 210 = .ok (.iaload, 1) := by decide +kernel
theorem dX8_mayOf_211 : decode cX8_mayOf 211 = .ok (.goto 4, 3) := by decide +kernel
theorem dX8_mayOf_214 : decode cX8_mayOf 214 = .ok (.iconst 0, 1) := by decide +kernel
theorem dX8_mayOf_215 : decode cX8_mayOf 215 = .ok (.istore 10, 2) := by decide +kernel
theorem dX8_mayOf_217 : decode cX8_mayOf 217 = .ok (.iconst 0, 1) := by decide +kernel
theorem dX8_mayOf_218 : decode cX8_mayOf 218 = .ok (.istore 11, 2) := by decide +kernel
theorem dX8_mayOf_220 : decode cX8_mayOf 220 = .ok (.iload 11, 2) := by decide +kernel
theorem dX8_mayOf_222 : decode cX8_mayOf 222 = .ok (.iconst 3, 1) := by decide +kernel
theorem dX8_mayOf_223 : decode cX8_mayOf 223 = .ok (.if_icmp .ge 71, 3) := by decide +kernel
theorem dX8_mayOf_226 : decode cX8_mayOf 226 = .ok (.iload 7, 2) := by decide +kernel
theorem dX8_mayOf_228 : decode cX8_mayOf 228 = .ok (.iload 11, 2) := by decide +kernel
theorem dX8_mayOf_230 : decode cX8_mayOf 230 = .ok (.ishr, 1) := by decide +kernel
theorem dX8_mayOf_231 : decode cX8_mayOf 231 = .ok (.iconst 1, 1) := by decide +kernel
theorem dX8_mayOf_232 : decode cX8_mayOf 232 = .ok (.iand, 1) := by decide +kernel
theorem dX8_mayOf_233 : decode cX8_mayOf 233 = .ok (.iconst 1, 1) := by decide +kernel
theorem dX8_mayOf_234 : decode cX8_mayOf 234 = .ok (.if_icmp .ne 7, 3) := by decide +kernel
theorem dX8_mayOf_237 : decode cX8_mayOf 237 = .ok (.iconst 1, 1) := by decide +kernel
theorem dX8_mayOf_238 : decode cX8_mayOf 238 = .ok (.goto 4, 3) := by decide +kernel
theorem dX8_mayOf_241 : decode cX8_mayOf 241 = .ok (.iconst 0, 1) := by decide +kernel
theorem dX8_mayOf_242 : decode cX8_mayOf 242 = .ok (.istore 12, 2) := by decide +kernel
theorem dX8_mayOf_244 : decode cX8_mayOf 244 = .ok (.iload 10, 2) := by decide +kernel
theorem dX8_mayOf_246 : decode cX8_mayOf 246 = .ok (.iload 12, 2) := by decide +kernel
theorem dX8_mayOf_248 : decode cX8_mayOf 248 = .ok (.ifCond .ne 7, 3) := by decide +kernel
theorem dX8_mayOf_251 : decode cX8_mayOf 251 = .ok (.iconst 0, 1) := by decide +kernel
theorem dX8_mayOf_252 : decode cX8_mayOf 252 = .ok (.goto 33, 3) := by decide +kernel
theorem dX8_mayOf_255 : decode cX8_mayOf 255 = .ok (.aload_n 0, 1) := by decide +kernel
theorem dX8_mayOf_256 : decode cX8_mayOf 256 = .ok (.iload 9, 2) := by decide +kernel
theorem dX8_mayOf_258 : decode cX8_mayOf 258 = .ok (.iload 11, 2) := by decide +kernel
theorem dX8_mayOf_260 : decode cX8_mayOf 260 = .ok (.invokevirtual 113, 3) := by decide +kernel
theorem dX8_mayOf_263 : decode cX8_mayOf 263 = .ok (.ifCond .eq 18, 3) := by decide +kernel
theorem dX8_mayOf_266 : decode cX8_mayOf 266 = .ok (.aload_n 0, 1) := by decide +kernel
theorem dX8_mayOf_267 : decode cX8_mayOf 267 = .ok (.getfield 73, 3) := by decide +kernel
theorem dX8_mayOf_270 : decode cX8_mayOf 270 = .ok (.iload 9, 2) := by decide +kernel
theorem dX8_mayOf_272 : decode cX8_mayOf 272 = .ok (.iload 11, 2) := by decide +kernel
theorem dX8_mayOf_274 : decode cX8_mayOf 274 = .ok (.invokestatic 109, 3) := by decide +kernel
theorem dX8_mayOf_277 : decode cX8_mayOf 277 = .ok (.iaload, 1) := by decide +kernel
theorem dX8_mayOf_278 : decode cX8_mayOf 278 = .ok (.goto 7, 3) := by decide +kernel
theorem dX8_mayOf_281 : decode cX8_mayOf 281 = .ok (.iconst 1, 1) := by decide +kernel
theorem dX8_mayOf_282 : decode cX8_mayOf 282 = .ok (.iload 11, 2) := by decide +kernel
theorem dX8_mayOf_284 : decode cX8_mayOf 284 = .ok (.ishl, 1) := by decide +kernel
theorem dX8_mayOf_285 : decode cX8_mayOf 285 = .ok (.ior, 1) := by decide +kernel
theorem dX8_mayOf_286 : decode cX8_mayOf 286 = .ok (.istore 10, 2) := by decide +kernel
theorem dX8_mayOf_288 : decode cX8_mayOf 288 = .ok (.iinc 11 1, 3) := by decide +kernel
theorem dX8_mayOf_291 : decode cX8_mayOf 291 = .ok (.goto (-71), 3) := by decide +kernel
theorem dX8_mayOf_294 : decode cX8_mayOf 294 = .ok (.iload 10, 2) := by decide +kernel
theorem dX8_mayOf_296 : decode cX8_mayOf 296 = .ok (.istore 7, 2) := by decide +kernel
theorem dX8_mayOf_298 : decode cX8_mayOf 298 = .ok (.aload_n 0, 1) := by decide +kernel
theorem dX8_mayOf_299 : decode cX8_mayOf 299 = .ok (.getfield 76, 3) := by decide +kernel
theorem dX8_mayOf_302 : decode cX8_mayOf 302 = .ok (.iload 9, 2) := by decide +kernel
theorem dX8_mayOf_304 : decode cX8_mayOf 304 = .ok (.dup2, 1) := by decide +kernel
theorem dX8_mayOf_305 : decode cX8_mayOf 305 = .ok (.iaload, 1) := by decide +kernel
theorem dX8_mayOf_306 : decode cX8_mayOf 306 = .ok (.iload 10, 2) := by decide +kernel
theorem dX8_mayOf_308 : decode cX8_mayOf 308 = .ok (.ior, 1) := by decide +kernel
theorem dX8_mayOf_309 : decode cX8_mayOf 309 = .ok (.iastore, 1) := by decide +kernel
theorem dX8_mayOf_310 : decode cX8_mayOf 310 = .ok (.goto 25, 3) := by decide +kernel
theorem dX8_mayOf_313 : decode cX8_mayOf 313 = .ok (.iload 4, 2) := by decide +kernel
theorem dX8_mayOf_315 : decode cX8_mayOf 315 = .ok (.bipush 107, 2) := by decide +kernel
theorem dX8_mayOf_317 : decode cX8_mayOf 317 = .ok (.if_icmp .ne 18, 3) := by decide +kernel
theorem dX8_mayOf_320 : decode cX8_mayOf 320 = .ok (.iload 7, 2) := by decide +kernel
theorem dX8_mayOf_322 : decode cX8_mayOf 322 = .ok (.aload_n 0, 1) := by decide +kernel
theorem dX8_mayOf_323 : decode cX8_mayOf 323 = .ok (.getfield 76, 3) := by decide +kernel
theorem dX8_mayOf_326 : decode cX8_mayOf 326 = .ok (.iload_n 1, 1) := by decide +kernel
theorem dX8_mayOf_327 : decode cX8_mayOf 327 = .ok (.iconst 4, 1) := by decide +kernel
theorem dX8_mayOf_328 : decode cX8_mayOf 328 = .ok (.isub, 1) := by decide +kernel
theorem dX8_mayOf_329 : decode cX8_mayOf 329 = .ok (.iconst 4, 1) := by decide +kernel
theorem dX8_mayOf_330 : decode cX8_mayOf 330 = .ok (.idiv, 1) := by decide +kernel
theorem dX8_mayOf_331 : decode cX8_mayOf 331 = .ok (.iaload, 1) := by decide +kernel
theorem dX8_mayOf_332 : decode cX8_mayOf 332 = .ok (.ior, 1) := by decide +kernel
theorem dX8_mayOf_333 : decode cX8_mayOf 333 = .ok (.istore 7, 2) := by decide +kernel
theorem dX8_mayOf_335 : decode cX8_mayOf 335 = .ok (.aload_n 0, 1) := by decide +kernel
theorem dX8_mayOf_336 : decode cX8_mayOf 336 = .ok (.getfield 79, 3) := by decide +kernel
theorem dX8_mayOf_339 : decode cX8_mayOf 339 = .ok (.iload_n 3, 1) := by decide +kernel
theorem dX8_mayOf_340 : decode cX8_mayOf 340 = .ok (.iload 7, 2) := by decide +kernel
theorem dX8_mayOf_342 : decode cX8_mayOf 342 = .ok (.iastore, 1) := by decide +kernel
theorem dX8_mayOf_343 : decode cX8_mayOf 343 = .ok (.iinc 3 (-1), 3) := by decide +kernel
theorem dX8_mayOf_346 : decode cX8_mayOf 346 = .ok (.goto (-332), 3) := by decide +kernel
theorem dX8_mayOf_349 : decode cX8_mayOf 349 = .ok (.aload_n 0, 1) := by decide +kernel
theorem dX8_mayOf_350 : decode cX8_mayOf 350 = .ok (.getfield 13, 3) := by decide +kernel
theorem dX8_mayOf_353 : decode cX8_mayOf 353 = .ok (.iload_n 1, 1) := by decide +kernel
theorem dX8_mayOf_354 : decode cX8_mayOf 354 = .ok (.iaload, 1) := by decide +kernel
theorem dX8_mayOf_355 : decode cX8_mayOf 355 = .ok (.ifCond .ne 7, 3) := by decide +kernel
theorem dX8_mayOf_358 : decode cX8_mayOf 358 = .ok (.iconst 0, 1) := by decide +kernel
theorem dX8_mayOf_359 : decode cX8_mayOf 359 = .ok (.goto 9, 3) := by decide +kernel
theorem dX8_mayOf_362 : decode cX8_mayOf 362 = .ok (.aload_n 0, 1) := by decide +kernel
theorem dX8_mayOf_363 : decode cX8_mayOf 363 = .ok (.getfield 79, 3) := by decide +kernel
theorem dX8_mayOf_366 : decode cX8_mayOf 366 = .ok (.iconst 0, 1) := by decide +kernel
theorem dX8_mayOf_367 : decode cX8_mayOf 367 = .ok (.iaload, 1) := by decide +kernel
theorem dX8_mayOf_368 : decode cX8_mayOf 368 = .ok (.ireturn, 1) := by decide +kernel
theorem dX8_layMay_0 : decode cX8_layMay 0 = .ok (.iconst 0, 1) := by decide +kernel
theorem dX8_layMay_1 : decode cX8_layMay 1 = .ok (.istore_n 1, 1) := by decide +kernel
theorem dX8_layMay_2 : decode cX8_layMay 2 = .ok (.iload_n 1, 1) := by decide +kernel
theorem dX8_layMay_3 : decode cX8_layMay 3 = .ok (.bipush 20, 2) := by decide +kernel
theorem dX8_layMay_5 : decode cX8_layMay 5 = .ok (.if_icmp .ge 16, 3) := by decide +kernel
theorem dX8_layMay_8 : decode cX8_layMay 8 = .ok (.aload_n 0, 1) := by decide +kernel
theorem dX8_layMay_9 : decode cX8_layMay 9 = .ok (.getfield 73, 3) := by decide +kernel
theorem dX8_layMay_12 : decode cX8_layMay 12 = .ok (.iload_n 1, 1) := by decide +kernel
theorem dX8_layMay_13 : decode cX8_layMay 13 = .ok (.iconst 0, 1) := by decide +kernel
theorem dX8_layMay_14 : decode cX8_layMay 14 = .ok (.iastore, 1) := by decide +kernel
theorem dX8_layMay_15 : decode cX8_layMay 15 = .ok (.iinc 1 1, 3) := by decide +kernel
theorem dX8_layMay_18 : decode cX8_layMay 18 = .ok (.goto (-16), 3) := by decide +kernel
theorem dX8_layMay_21 : decode cX8_layMay 21 = .ok (.iconst 0, 1) := by decide +kernel
theorem dX8_layMay_22 : decode cX8_layMay 22 = .ok (.istore_n 1, 1) := by decide +kernel
theorem dX8_layMay_23 : decode cX8_layMay 23 = .ok (.iload_n 1, 1) := by decide +kernel
theorem dX8_layMay_24 : decode cX8_layMay 24 = .ok (.iconst 4, 1) := by decide +kernel
theorem dX8_layMay_25 : decode cX8_layMay 25 = .ok (.if_icmp .ge 16, 3) := by decide +kernel
theorem dX8_layMay_28 : decode cX8_layMay 28 = .ok (.aload_n 0, 1) := by decide +kernel
theorem dX8_layMay_29 : decode cX8_layMay 29 = .ok (.getfield 76, 3) := by decide +kernel
theorem dX8_layMay_32 : decode cX8_layMay 32 = .ok (.iload_n 1, 1) := by decide +kernel
theorem dX8_layMay_33 : decode cX8_layMay 33 = .ok (.iconst 0, 1) := by decide +kernel
theorem dX8_layMay_34 : decode cX8_layMay 34 = .ok (.iastore, 1) := by decide +kernel
theorem dX8_layMay_35 : decode cX8_layMay 35 = .ok (.iinc 1 1, 3) := by decide +kernel
theorem dX8_layMay_38 : decode cX8_layMay 38 = .ok (.goto (-15), 3) := by decide +kernel
theorem dX8_layMay_41 : decode cX8_layMay 41 = .ok (.iconst 1, 1) := by decide +kernel
theorem dX8_layMay_42 : decode cX8_layMay 42 = .ok (.istore_n 1, 1) := by decide +kernel
theorem dX8_layMay_43 : decode cX8_layMay 43 = .ok (.iload_n 1, 1) := by decide +kernel
theorem dX8_layMay_44 : decode cX8_layMay 44 = .ok (.ifCond .eq 143, 3) := by decide +kernel
theorem dX8_layMay_47 : decode cX8_layMay 47 = .ok (.iconst 0, 1) := by decide +kernel
theorem dX8_layMay_48 : decode cX8_layMay 48 = .ok (.istore_n 1, 1) := by decide +kernel
theorem dX8_layMay_49 : decode cX8_layMay 49 = .ok (.aload_n 0, 1) := by decide +kernel
theorem dX8_layMay_50 : decode cX8_layMay 50 = .ok (.getfield 76, 3) := by decide +kernel
theorem dX8_layMay_53 : decode cX8_layMay 53 = .ok (.iconst 0, 1) := by decide +kernel
theorem dX8_layMay_54 : decode cX8_layMay 54 = .ok (.iaload, 1) := by decide +kernel
theorem dX8_layMay_55 : decode cX8_layMay 55 = .ok (.aload_n 0, 1) := by decide +kernel
theorem dX8_layMay_56 : decode cX8_layMay 56 = .ok (.getfield 76, 3) := by decide +kernel
theorem dX8_layMay_59 : decode cX8_layMay 59 = .ok (.iconst 1, 1) := by decide +kernel
theorem dX8_layMay_60 : decode cX8_layMay 60 = .ok (.iaload, 1) := by decide +kernel
theorem dX8_layMay_61 : decode cX8_layMay 61 = .ok (.iconst 3, 1) := by decide +kernel
theorem dX8_layMay_62 : decode cX8_layMay 62 = .ok (.ishl, 1) := by decide +kernel
theorem dX8_layMay_63 : decode cX8_layMay 63 = .ok (.ior, 1) := by decide +kernel
theorem dX8_layMay_64 : decode cX8_layMay 64 = .ok (.aload_n 0, 1) := by decide +kernel
theorem dX8_layMay_65 : decode cX8_layMay 65 = .ok (.getfield 76, 3) := by decide +kernel
theorem dX8_layMay_68 : decode cX8_layMay 68 = .ok (.iconst 2, 1) := by decide +kernel
theorem dX8_layMay_69 : decode cX8_layMay 69 = .ok (.iaload, 1) := by decide +kernel
theorem dX8_layMay_70 : decode cX8_layMay 70 = .ok (.bipush 6, 2) := by decide +kernel
theorem dX8_layMay_72 : decode cX8_layMay 72 = .ok (.ishl, 1) := by decide +kernel
theorem dX8_layMay_73 : decode cX8_layMay 73 = .ok (.ior, 1) := by decide +kernel
theorem dX8_layMay_74 : decode cX8_layMay 74 = .ok (.aload_n 0, 1) := by decide +kernel
theorem dX8_layMay_75 : decode cX8_layMay 75 = .ok (.getfield 76, 3) := by decide +kernel
theorem dX8_layMay_78 : decode cX8_layMay 78 = .ok (.iconst 3, 1) := by decide +kernel
theorem dX8_layMay_79 : decode cX8_layMay 79 = .ok (.iaload, 1) := by decide +kernel
theorem dX8_layMay_80 : decode cX8_layMay 80 = .ok (.bipush 9, 2) := by decide +kernel
theorem dX8_layMay_82 : decode cX8_layMay 82 = .ok (.ishl, 1) := by decide +kernel
theorem dX8_layMay_83 : decode cX8_layMay 83 = .ok (.ior, 1) := by decide +kernel
theorem dX8_layMay_84 : decode cX8_layMay 84 = .ok (.istore_n 2, 1) := by decide +kernel
theorem dX8_layMay_85 : decode cX8_layMay 85 = .ok (.iconst 0, 1) := by decide +kernel
theorem dX8_layMay_86 : decode cX8_layMay 86 = .ok (.istore_n 3, 1) := by decide +kernel
theorem dX8_layMay_87 : decode cX8_layMay 87 = .ok (.iload_n 3, 1) := by decide +kernel
theorem dX8_layMay_88 : decode cX8_layMay 88 = .ok (.bipush 20, 2) := by decide +kernel
theorem dX8_layMay_90 : decode cX8_layMay 90 = .ok (.if_icmp .ge 45, 3) := by decide +kernel
theorem dX8_layMay_93 : decode cX8_layMay 93 = .ok (.aload_n 0, 1) := by decide +kernel
theorem dX8_layMay_94 : decode cX8_layMay 94 = .ok (.iload_n 3, 1) := by decide +kernel
theorem dX8_layMay_95 : decode cX8_layMay 95 = .ok (.invokevirtual 212, 3) := by decide +kernel
theorem dX8_layMay_98 : decode cX8_layMay 98 = .ok (.istore 4, 2) := by decide +kernel
theorem dX8_layMay_100 : decode cX8_layMay 100 = .ok (.iload_n 1, 1) := by decide +kernel
theorem dX8_layMay_101 : decode cX8_layMay 101 = .ok (.ifCond .ne 14, 3) := by decide +kernel
theorem dX8_layMay_104 : decode cX8_layMay 104 = .ok (.iload 4, 2) := by decide +kernel
theorem dX8_layMay_106 : decode cX8_layMay 106 = .ok (.aload_n 0, 1) := by decide +kernel
theorem dX8_layMay_107 : decode cX8_layMay 107 = .ok (.getfield 73, 3) := by decide +kernel
theorem dX8_layMay_110 : decode cX8_layMay 110 = .ok (.iload_n 3, 1) := by decide +kernel
theorem dX8_layMay_111 : decode cX8_layMay 111 = .ok (.iaload, 1) := by decide +kernel
theorem dX8_layMay_112 : decode cX8_layMay 112 = .ok (.if_icmp .eq 7, 3) := by decide +kernel
theorem dX8_layMay_115 : decode cX8_layMay 115 = .ok (.iconst 1, 1) := by decide +kernel
theorem dX8_layMay_116 : decode cX8_layMay 116 = .ok (.goto 4, 3) := by decide +kernel
theorem dX8_layMay_119 : decode cX8_layMay 119 = .ok (.iconst 0, 1) := by decide +kernel
theorem dX8_layMay_120 : decode cX8_layMay 120 = .ok (.istore_n 1, 1) := by decide +kernel
theorem dX8_layMay_121 : decode cX8_layMay 121 = .ok (.aload_n 0, 1) := by decide +kernel
theorem dX8_layMay_122 : decode cX8_layMay 122 = .ok (.getfield 73, 3) := by decide +kernel
theorem dX8_layMay_125 : decode cX8_layMay 125 = .ok (.iload_n 3, 1) := by decide +kernel
theorem dX8_layMay_126 : decode cX8_layMay 126 = .ok (.iload 4, 2) := by decide +kernel
theorem dX8_layMay_128 : decode cX8_layMay 128 = .ok (.iastore, 1) := by decide +kernel
theorem dX8_layMay_129 : decode cX8_layMay 129 = .ok (.iinc 3 1, 3) := by decide +kernel
theorem dX8_layMay_132 : decode cX8_layMay 132 = .ok (.goto (-45), 3) := by decide +kernel
theorem dX8_layMay_135 : decode cX8_layMay 135 = .ok (.iload_n 1, 1) := by decide +kernel
theorem dX8_layMay_136 : decode cX8_layMay 136 = .ok (.ifCond .ne 42, 3) := by decide +kernel
theorem dX8_layMay_139 : decode cX8_layMay 139 = .ok (.iload_n 2, 1) := by decide +kernel
theorem dX8_layMay_140 : decode cX8_layMay 140 = .ok (.aload_n 0, 1) := by decide +kernel
theorem dX8_layMay_141 : decode cX8_layMay 141 = .ok (.getfield 76, 3) := by decide +kernel
theorem dX8_layMay_144 : decode cX8_layMay 144 = .ok (.iconst 0, 1) := by decide +kernel
theorem dX8_layMay_145 : decode cX8_layMay 145 = .ok (.iaload, 1) := by decide +kernel
theorem dX8_layMay_146 : decode cX8_layMay 146 = .ok (.aload_n 0, 1) := by decide +kernel
theorem dX8_layMay_147 : decode cX8_layMay 147 = .ok (.getfield 76, 3) := by decide +kernel
theorem dX8_layMay_150 : decode cX8_layMay 150 = .ok (.iconst 1, 1) := by decide +kernel
theorem dX8_layMay_151 : decode cX8_layMay 151 = .ok (.iaload, 1) := by decide +kernel
theorem dX8_layMay_152 : decode cX8_layMay 152 = .ok (.iconst 3, 1) := by decide +kernel
theorem dX8_layMay_153 : decode cX8_layMay 153 = .ok (.ishl, 1) := by decide +kernel
theorem dX8_layMay_154 : decode cX8_layMay 154 = .ok (.ior, 1) := by decide +kernel
theorem dX8_layMay_155 : decode cX8_layMay 155 = .ok (.aload_n 0, 1) := by decide +kernel
theorem dX8_layMay_156 : decode cX8_layMay 156 = .ok (.getfield 76, 3) := by decide +kernel
theorem dX8_layMay_159 : decode cX8_layMay 159 = .ok (.iconst 2, 1) := by decide +kernel
theorem dX8_layMay_160 : decode cX8_layMay 160 = .ok (.iaload, 1) := by decide +kernel
theorem dX8_layMay_161 : decode cX8_layMay 161 = .ok (.bipush 6, 2) := by decide +kernel
theorem dX8_layMay_163 : decode cX8_layMay 163 = .ok (.ishl, 1) := by decide +kernel
theorem dX8_layMay_164 : decode cX8_layMay 164 = .ok (.ior, 1) := by decide +kernel
theorem dX8_layMay_165 : decode cX8_layMay 165 = .ok (.aload_n 0, 1) := by decide +kernel
theorem dX8_layMay_166 : decode cX8_layMay 166 = .ok (.getfield 76, 3) := by decide +kernel
theorem dX8_layMay_169 : decode cX8_layMay 169 = .ok (.iconst 3, 1) := by decide +kernel
theorem dX8_layMay_170 : decode cX8_layMay 170 = .ok (.iaload, 1) := by decide +kernel
theorem dX8_layMay_171 : decode cX8_layMay 171 = .ok (.bipush 9, 2) := by decide +kernel
theorem dX8_layMay_173 : decode cX8_layMay 173 = .ok (.ishl, 1) := by decide +kernel
theorem dX8_layMay_174 : decode cX8_layMay 174 = .ok (.ior, 1) := by decide +kernel
theorem dX8_layMay_175 : decode cX8_layMay 175 = .ok (.if_icmp .eq 7, 3) := by decide +kernel
theorem dX8_layMay_178 : decode cX8_layMay 178 = .ok (.iconst 1, 1) := by decide +kernel
theorem dX8_layMay_179 : decode cX8_layMay 179 = .ok (.goto 4, 3) := by decide +kernel
theorem dX8_layMay_182 : decode cX8_layMay 182 = .ok (.iconst 0, 1) := by decide +kernel
theorem dX8_layMay_183 : decode cX8_layMay 183 = .ok (.istore_n 1, 1) := by decide +kernel
theorem dX8_layMay_184 : decode cX8_layMay 184 = .ok (.goto (-141), 3) := by decide +kernel
theorem dX8_layMay_187 : decode cX8_layMay 187 = .ok (.return_, 1) := by decide +kernel
theorem dX8_may_0 : decode cX8_may 0 = .ok (.iload_n 1, 1) := by decide +kernel
theorem dX8_may_1 : decode cX8_may 1 = .ok (.iconst (-1), 1) := by decide +kernel
theorem dX8_may_2 : decode cX8_may 2 = .ok (.if_icmp .ne 7, 3) := by decide +kernel
theorem dX8_may_5 : decode cX8_may 5 = .ok (.iconst 1, 1) := by decide +kernel
theorem dX8_may_6 : decode cX8_may 6 = .ok (.goto 4, 3) := by decide +kernel
theorem dX8_may_9 : decode cX8_may 9 = .ok (.iconst 0, 1) := by decide +kernel
theorem dX8_may_10 : decode cX8_may 10 = .ok (.istore_n 3, 1) := by decide +kernel
theorem dX8_may_11 : decode cX8_may 11 = .ok (.iload_n 1, 1) := by decide +kernel
theorem dX8_may_12 : decode cX8_may 12 = .ok (.iconst (-1), 1) := by decide +kernel
theorem dX8_may_13 : decode cX8_may 13 = .ok (.iconst 3, 1) := by decide +kernel
theorem dX8_may_14 : decode cX8_may 14 = .ok (.invokestatic 85, 3) := by decide +kernel
theorem dX8_may_17 : decode cX8_may 17 = .ok (.ifCond .eq 23, 3) := by decide +kernel
theorem dX8_may_20 : decode cX8_may 20 = .ok (.iload_n 2, 1) := by decide +kernel
theorem dX8_may_21 : decode cX8_may 21 = .ok (.invokestatic 101, 3) := by decide +kernel
theorem dX8_may_24 : decode cX8_may 24 = .ok (.ifCond .eq 16, 3) := by decide +kernel
theorem dX8_may_27 : decode cX8_may 27 = .ok (.iload_n 3, 1) := by decide +kernel
theorem dX8_may_28 : decode cX8_may 28 = .ok (.ifCond .ne 14, 3) := by decide +kernel
theorem dX8_may_31 : decode cX8_may 31 = .ok (.aload_n 0, 1) := by decide +kernel
theorem dX8_may_32 : decode cX8_may 32 = .ok (.iload_n 1, 1) := by decide +kernel
theorem dX8_may_33 : decode cX8_may 33 = .ok (.iload_n 2, 1) := by decide +kernel
theorem dX8_may_34 : decode cX8_may 34 = .ok (.invokevirtual 113, 3) := by decide +kernel
theorem dX8_may_37 : decode cX8_may 37 = .ok (.ifCond .ne 5, 3) := by decide +kernel
theorem dX8_may_40 : decode cX8_may 40 = .ok (.iconst (-1), 1) := by decide +kernel
theorem dX8_may_41 : decode cX8_may 41 = .ok (.ireturn, 1) := by decide +kernel
theorem dX8_may_42 : decode cX8_may 42 = .ok (.aload_n 0, 1) := by decide +kernel
theorem dX8_may_43 : decode cX8_may 43 = .ok (.invokevirtual 215, 3) := by decide +kernel
theorem dX8_may_46 : decode cX8_may 46 = .ok (.aload_n 0, 1) := by decide +kernel
theorem dX8_may_47 : decode cX8_may 47 = .ok (.getfield 73, 3) := by decide +kernel
theorem dX8_may_50 : decode cX8_may 50 = .ok (.iload_n 3, 1) := by decide +kernel
theorem dX8_may_51 : decode cX8_may 51 = .ok (.ifCond .eq 7, 3) := by decide +kernel
theorem dX8_may_54 : decode cX8_may 54 = .ok (.iload_n 2, 1) := by decide +kernel
theorem dX8_may_55 : decode cX8_may 55 = .ok (.goto 8, 3) := by decide +kernel
theorem dX8_may_58 : decode cX8_may 58 = .ok (.iload_n 1, 1) := by decide +kernel
theorem dX8_may_59 : decode cX8_may 59 = .ok (.iload_n 2, 1) := by decide +kernel
theorem dX8_may_60 : decode cX8_may 60 = .ok (.invokestatic 109, 3) := by decide +kernel
theorem dX8_may_63 : decode cX8_may 63 = .ok (.iaload, 1) := by decide +kernel
theorem dX8_may_64 : decode cX8_may 64 = .ok (.ireturn, 1) := by decide +kernel
theorem dX8_often_0 : decode cX8_often 0 = .ok (.iload_n 1, 1) := by decide +kernel
theorem dX8_often_1 : decode cX8_often 1 = .ok (.invokestatic 101, 3) := by decide +kernel
theorem dX8_often_4 : decode cX8_often 4 = .ok (.ifCond .eq 19, 3) := by decide +kernel
theorem dX8_often_7 : decode cX8_often 7 = .ok (.iload_n 2, 1) := by decide +kernel
theorem dX8_often_8 : decode cX8_often 8 = .ok (.invokestatic 101, 3) := by decide +kernel
theorem dX8_often_11 : decode cX8_often 11 = .ok (.ifCond .eq 12, 3) := by decide +kernel
theorem dX8_often_14 : decode cX8_often 14 = .ok (.aload_n 0, 1) := by decide +kernel
theorem dX8_often_15 : decode cX8_often 15 = .ok (.iload_n 1, 1) := by decide +kernel
theorem dX8_often_16 : decode cX8_often 16 = .ok (.iload_n 2, 1) := by decide +kernel
theorem dX8_often_17 : decode cX8_often 17 = .ok (.invokevirtual 113, 3) := by decide +kernel
theorem dX8_often_20 : decode cX8_often 20 = .ok (.ifCond .ne 5, 3) := by decide +kernel
theorem dX8_often_23 : decode cX8_often 23 = .ok (.iconst (-1), 1) := by decide +kernel
theorem dX8_often_24 : decode cX8_often 24 = .ok (.ireturn, 1) := by decide +kernel
theorem dX8_often_25 : decode cX8_often 25 = .ok (.iload_n 1, 1) := by decide +kernel
theorem dX8_often_26 : decode cX8_often 26 = .ok (.iload_n 2, 1) := by decide +kernel
theorem dX8_often_27 : decode cX8_often 27 = .ok (.invokestatic 109, 3) := by decide +kernel
theorem dX8_often_30 : decode cX8_often 30 = .ok (.istore_n 3, 1) := by decide +kernel
theorem dX8_often_31 : decode cX8_often 31 = .ok (.bipush 40, 2) := by decide +kernel
theorem dX8_often_33 : decode cX8_often 33 = .ok (.iload_n 3, 1) := by decide +kernel
theorem dX8_often_34 : decode cX8_often 34 = .ok (.imul, 1) := by decide +kernel
theorem dX8_often_35 : decode cX8_often 35 = .ok (.istore 4, 2) := by decide +kernel
theorem dX8_often_37 : decode cX8_often 37 = .ok (.aload_n 0, 1) := by decide +kernel
theorem dX8_often_38 : decode cX8_often 38 = .ok (.getfield 13, 3) := by decide +kernel
theorem dX8_often_41 : decode cX8_often 41 = .ok (.iload_n 3, 1) := by decide +kernel
theorem dX8_often_42 : decode cX8_often 42 = .ok (.iaload, 1) := by decide +kernel
theorem dX8_often_43 : decode cX8_often 43 = .ok (.iconst 1, 1) := by decide +kernel
theorem dX8_often_44 : decode cX8_often 44 = .ok (.isub, 1) := by decide +kernel
theorem dX8_often_45 : decode cX8_often 45 = .ok (.istore 5, 2) := by decide +kernel
theorem dX8_often_47 : decode cX8_often 47 = .ok (.iload 5, 2) := by decide +kernel
theorem dX8_often_49 : decode cX8_often 49 = .ok (.ifCond .lt 241, 3) := by decide +kernel
theorem dX8_often_52 : decode cX8_often 52 = .ok (.aload_n 0, 1) := by decide +kernel
theorem dX8_often_53 : decode cX8_often 53 = .ok (.getfield 16, 3) := by decide +kernel
theorem dX8_often_56 : decode cX8_often 56 = .ok (.iload 4, 2) := by decide +kernel
theorem dX8_often_58 : decode cX8_often 58 = .ok (.iload 5, 2) := by decide +kernel
theorem dX8_often_60 : decode cX8_often 60 = .ok (.iadd, 1) := by decide +kernel
theorem dX8_often_61 : decode cX8_often 61 = .ok (.iaload, 1) := by decide +kernel
theorem dX8_often_62 : decode cX8_often 62 = .ok (.istore 6, 2) := by decide +kernel
theorem dX8_often_64 : decode cX8_often 64 = .ok (.iload 5, 2) := by decide +kernel
theorem dX8_often_66 : decode cX8_often 66 = .ok (.ifCond .le 24, 3) := by decide +kernel
theorem dX8_often_69 : decode cX8_often 69 = .ok (.aload_n 0, 1) := by decide +kernel
theorem dX8_often_70 : decode cX8_often 70 = .ok (.getfield 16, 3) := by decide +kernel
theorem dX8_often_73 : decode cX8_often 73 = .ok (.iload 4, 2) := by decide +kernel
theorem dX8_often_75 : decode cX8_often 75 = .ok (.iload 5, 2) := by decide +kernel
theorem dX8_often_77 : decode cX8_often 77 = .ok (.iadd, 1) := by decide +kernel
theorem dX8_often_78 : decode cX8_often 78 = .ok (.iconst 1, 1) := by decide +kernel
theorem dX8_often_79 : decode cX8_often 79 = .ok (.isub, 1) := by decide +kernel
theorem dX8_often_80 : decode cX8_often 80 = .ok (.iaload, 1) := by decide +kernel
theorem dX8_often_81 : decode cX8_often 81 = .ok (.bipush 64, 2) := by decide +kernel
theorem dX8_often_83 : decode cX8_often 83 = .ok (.if_icmp .ne 7, 3) := by decide +kernel
theorem dX8_often_86 : decode cX8_often 86 = .ok (.iconst 1, 1) := by decide +kernel
theorem dX8_often_87 : decode cX8_often 87 = .ok (.goto 4, 3) := by decide +kernel
theorem dX8_often_90 : decode cX8_often 90 = .ok (.iconst 0, 1) := by decide +kernel
theorem dX8_often_91 : decode cX8_often 91 = .ok (.istore 7, 2) := by decide +kernel
theorem dX8_often_93 : decode cX8_often 93 = .ok (.iload 7, 2) := by decide +kernel
theorem dX8_often_95 : decode cX8_often 95 = .ok (.ifCond .eq 7, 3) := by decide +kernel
theorem dX8_often_98 : decode cX8_often 98 = .ok (.iconst 0, 1) := by decide +kernel
theorem dX8_often_99 : decode cX8_often 99 = .ok (.goto 9, 3) := by decide +kernel
theorem dX8_often_102 : decode cX8_often 102 = .ok (.iload 6, 2) := by decide +kernel
theorem dX8_often_104 : decode cX8_often 104 = .ok (.iconst 1, 1) := by decide +kernel
theorem dX8_often_105 : decode cX8_often 105 = .ok (.invokestatic 93, 3) := by decide +kernel
theorem dX8_often_108 : decode cX8_often 108 = .ok (.istore 8, 2) := by decide +kernel
theorem dX8_often_110 : decode cX8_often 110 = .ok (.iload 5, 2) := by decide +kernel
theorem dX8_often_112 : decode cX8_often 112 = .ok (.iload 6, 2) := by decide +kernel
theorem dX8_often_114 : decode cX8_often 114 = .ok (.bipush 64, 2) := by decide +kernel
theorem dX8_often_116 : decode cX8_often 116 = .ok (.if_icmp .ne 7, 3) := by decide +kernel
theorem dX8_often_119 : decode cX8_often 119 = .ok (.iconst 2, 1) := by decide +kernel
theorem dX8_often_120 : decode cX8_often 120 = .ok (.goto 4, 3) := by decide +kernel
theorem dX8_often_123 : decode cX8_often 123 = .ok (.iconst 1, 1) := by decide +kernel
theorem dX8_often_124 : decode cX8_often 124 = .ok (.iadd, 1) := by decide +kernel
theorem dX8_often_125 : decode cX8_often 125 = .ok (.istore 9, 2) := by decide +kernel
theorem dX8_often_127 : decode cX8_often 127 = .ok (.iload 6, 2) := by decide +kernel
theorem dX8_often_129 : decode cX8_often 129 = .ok (.bipush 107, 2) := by decide +kernel
theorem dX8_often_131 : decode cX8_often 131 = .ok (.if_icmp .ne 7, 3) := by decide +kernel
theorem dX8_often_134 : decode cX8_often 134 = .ok (.iconst 1, 1) := by decide +kernel
theorem dX8_often_135 : decode cX8_often 135 = .ok (.goto 4, 3) := by decide +kernel
theorem dX8_often_138 : decode cX8_often 138 = .ok (.iconst 0, 1) := by decide +kernel
theorem dX8_often_139 : decode cX8_often 139 = .ok (.istore 10, 2) := by decide +kernel
theorem dX8_often_141 : decode cX8_often 141 = .ok (.iconst 0, 1) := by decide +kernel
theorem dX8_often_142 : decode cX8_often 142 = .ok (.istore 11, 2) := by decide +kernel
theorem dX8_often_144 : decode cX8_often 144 = .ok (.iconst 0, 1) := by decide +kernel
theorem dX8_often_145 : decode cX8_often 145 = .ok (.istore 12, 2) := by decide +kernel
theorem dX8_often_147 : decode cX8_often 147 = .ok (.iload 12, 2) := by decide +kernel
theorem dX8_often_149 : decode cX8_often 149 = .ok (.iload 8, 2) := by decide +kernel
theorem dX8_often_151 : decode cX8_often 151 = .ok (.if_icmp .ge 95, 3) := by decide +kernel
theorem dX8_often_154 : decode cX8_often 154 = .ok (.iload 6, 2) := by decide +kernel
theorem dX8_often_156 : decode cX8_often 156 = .ok (.bipush 63, 2) := by decide +kernel
theorem dX8_often_158 : decode cX8_often 158 = .ok (.if_icmp .ne 12, 3) := by decide +kernel
theorem dX8_often_161 : decode cX8_often 161 = .ok (.iload 12, 2) := by decide +kernel
theorem dX8_often_163 : decode cX8_often 163 = .ok (.ifCond .le 7, 3) := by decide +kernel
theorem dX8_often_166 : decode cX8_often 166 = .ok (.iconst 1, 1) := by decide +kernel
theorem dX8_often_167 : decode cX8_often 167 = .ok (.goto 4, 3) := by decide +kernel
theorem dX8_often_170 : decode cX8_often 170 = .ok (.iconst 0, 1) := by decide +kernel
theorem dX8_often_171 : decode cX8_often 171 = .ok (.istore 13, 2) := by decide +kernel
theorem dX8_often_173 : decode cX8_often 173 = .ok (.iload 13, 2) := by decide +kernel
theorem dX8_often_175 : decode cX8_often 175 = .ok (.ifCond .eq 25, 3) := by decide +kernel
theorem dX8_often_178 : decode cX8_often 178 = .ok (.aload_n 0, 1) := by decide +kernel
theorem dX8_often_179 : decode cX8_often 179 = .ok (.getfield 79, 3) := by decide +kernel
theorem dX8_often_182 : decode cX8_often 182 = .ok (.iload 9, 2) := by decide +kernel
theorem dX8_often_184 : decode cX8_often 184 = .ok (.iaload, 1) := by decide +kernel
theorem dX8_often_185 : decode cX8_often 185 = .ok (.iload 11, 2) := by decide +kernel
theorem dX8_often_187 : decode cX8_often 187 = .ok (.if_icmp .le 13, 3) := by decide +kernel
theorem dX8_often_190 : decode cX8_often 190 = .ok (.aload_n 0, 1) := by decide +kernel
theorem dX8_often_191 : decode cX8_often 191 = .ok (.getfield 79, 3) := by decide +kernel
theorem dX8_often_194 : decode cX8_often 194 = .ok (.iload 9, 2) := by decide +kernel
theorem dX8_often_196 : decode cX8_often 196 = .ok (.iaload, 1) := by decide +kernel
theorem dX8_often_197 : decode cX8_often 197 = .ok (.goto 5, 3) := by decide +kernel
theorem dX8_often_200 : decode cX8_often 200 = .ok (.iload 11, 2) := by decide +kernel
theorem dX8_often_202 : decode cX8_often 202 = .ok (.istore 11, 2) := by decide +kernel
theorem dX8_often_204 : decode cX8_often 204 = .ok (.iload 10, 2) := by decide +kernel
theorem dX8_often_206 : decode cX8_often 206 = .ok (.iload 13, 2) := by decide +kernel
theorem dX8_often_208 : decode cX8_often 208 = .ok (.ifCond .eq 7, 3) := by decide +kernel
theorem dX8_often_211 : decode cX8_often 211 = .ok (.iconst 0, 1) := by decide +kernel
theorem dX8_often_212 : decode cX8_often 212 = .ok (.goto 10, 3) := by decide +kernel
theorem dX8_often_215 : decode cX8_often 215 = .ok (.aload_n 0, 1) := by decide +kernel
theorem dX8_often_216 : decode cX8_often 216 = .ok (.getfield 79, 3) := by decide +kernel
theorem dX8_often_219 : decode cX8_often 219 = .ok (.iload 9, 2) := by decide +kernel
theorem dX8_often_221 : decode cX8_often 221 = .ok (.iaload, 1) := by decide +kernel
theorem dX8_often_222 : decode cX8_often 222 = .ok (.iadd, 1) := by decide +kernel
theorem dX8_often_223 : decode cX8_often 223 = .ok (.istore 10, 2) := by decide +kernel
theorem dX8_often_225 : decode cX8_often 225 = .ok (.iload 9, 2) := by decide +kernel
theorem dX8_often_227 : decode cX8_often 227 = .ok (.aload_n 0, 1) := by decide +kernel
theorem dX8_often_228 : decode cX8_often 228 = .ok (.getfield 19, 3) := by decide +kernel
theorem dX8_often_231 : decode cX8_often 231 = .ok (.iload 4, 2) := by decide +kernel
theorem dX8_often_233 : decode cX8_often 233 = .ok (.iload 9, 2) := by decide +kernel
theorem dX8_often_235 : decode cX8_often 235 = .ok (.iadd, 1) := by decide +kernel
theorem dX8_often_236 : decode cX8_often 236 = .ok (.iaload, 1) := by decide +kernel
theorem dX8_often_237 : decode cX8_often 237 = .ok (.iadd, 1) := by decide +kernel
theorem dX8_often_238 : decode cX8_often 238 = .ok (.istore 9, 2) := by decide +kernel
theorem dX8_often_240 : decode cX8_often 240 = .ok (.iinc 12 1, 3) := by decide +kernel
theorem dX8_often_243 : decode cX8_often 243 = .ok (.goto (-96), 3) := by decide +kernel
theorem dX8_often_246 : decode cX8_often 246 = .ok (.iload 10, 2) := by decide +kernel
theorem dX8_often_248 : decode cX8_often 248 = .ok (.iload 11, 2) := by decide +kernel
theorem dX8_often_250 : decode cX8_often 250 = .ok (.iadd, 1) := by decide +kernel
theorem dX8_often_251 : decode cX8_often 251 = .ok (.istore 10, 2) := by decide +kernel
theorem dX8_often_253 : decode cX8_often 253 = .ok (.aload_n 0, 1) := by decide +kernel
theorem dX8_often_254 : decode cX8_often 254 = .ok (.getfield 79, 3) := by decide +kernel
theorem dX8_often_257 : decode cX8_often 257 = .ok (.iload 5, 2) := by decide +kernel
theorem dX8_often_259 : decode cX8_often 259 = .ok (.iload 10, 2) := by decide +kernel
theorem dX8_often_261 : decode cX8_often 261 = .ok (.iconst 1, 1) := by decide +kernel
theorem dX8_often_262 : decode cX8_often 262 = .ok (.if_icmp .gt 15, 3) := by decide +kernel
theorem dX8_often_265 : decode cX8_often 265 = .ok (.iload 6, 2) := by decide +kernel
theorem dX8_often_267 : decode cX8_often 267 = .ok (.bipush 64, 2) := by decide +kernel
theorem dX8_often_269 : decode cX8_often 269 = .ok (.if_icmp .ne 12, 3) := by decide +kernel
theorem dX8_often_272 : decode cX8_often 272 = .ok (.iload 10, 2) := by decide +kernel
theorem dX8_often_274 : decode cX8_often 274 = .ok (.ifCond .le 7, 3) := by decide +kernel
theorem dX8_often_277 : decode cX8_often 277 = .ok (.iconst 2, 1) := by decide +kernel
theorem dX8_often_278 : decode cX8_often 278 = .ok (.goto 5, 3) := by decide +kernel
theorem dX8_often_281 : decode cX8_often 281 = .ok (.iload 10, 2) := by decide +kernel
theorem dX8_often_283 : decode cX8_often 283 = .ok (.iastore, 1) := by decide +kernel
theorem dX8_often_284 : decode cX8_often 284 = .ok (.iinc 5 (-1), 3) := by decide +kernel
theorem dX8_often_287 : decode cX8_often 287 = .ok (.goto (-240), 3) := by decide +kernel
theorem dX8_often_290 : decode cX8_often 290 = .ok (.aload_n 0, 1) := by decide +kernel
theorem dX8_often_291 : decode cX8_often 291 = .ok (.getfield 79, 3) := by decide +kernel
theorem dX8_often_294 : decode cX8_often 294 = .ok (.iconst 0, 1) := by decide +kernel
theorem dX8_often_295 : decode cX8_often 295 = .ok (.iaload, 1) := by decide +kernel
theorem dX8_often_296 : decode cX8_often 296 = .ok (.ireturn, 1) := by decide +kernel
theorem dX8_giveRow_0 : decode cX8_giveRow 0 = .ok (.iload_n 1, 1) := by decide +kernel
theorem dX8_giveRow_1 : decode cX8_giveRow 1 = .ok (.istore 4, 2) := by decide +kernel
theorem dX8_giveRow_3 : decode cX8_giveRow 3 = .ok (.iload_n 2, 1) := by decide +kernel
theorem dX8_giveRow_4 : decode cX8_giveRow 4 = .ok (.iconst 1, 1) := by decide +kernel
theorem dX8_giveRow_5 : decode cX8_giveRow 5 = .ok (.isub, 1) := by decide +kernel
theorem dX8_giveRow_6 : decode cX8_giveRow 6 = .ok (.istore 5, 2) := by decide +kernel
theorem dX8_giveRow_8 : decode cX8_giveRow 8 = .ok (.iload 5, 2) := by decide +kernel
theorem dX8_giveRow_10 : decode cX8_giveRow 10 = .ok (.ifCond .lt 30, 3) := by decide +kernel
theorem dX8_giveRow_13 : decode cX8_giveRow 13 = .ok (.aload_n 0, 1) := by decide +kernel
theorem dX8_giveRow_14 : decode cX8_giveRow 14 = .ok (.getfield 67, 3) := by decide +kernel
theorem dX8_giveRow_17 : decode cX8_giveRow 17 = .ok (.iload 5, 2) := by decide +kernel
theorem dX8_giveRow_19 : decode cX8_giveRow 19 = .ok (.iload 4, 2) := by decide +kernel
theorem dX8_giveRow_21 : decode cX8_giveRow 21 = .ok (.iload_n 3, 1) := by decide +kernel
theorem dX8_giveRow_22 : decode cX8_giveRow 22 = .ok (.iconst 1, 1) := by decide +kernel
theorem dX8_giveRow_23 : decode cX8_giveRow 23 = .ok (.iadd, 1) := by decide +kernel
theorem dX8_giveRow_24 : decode cX8_giveRow 24 = .ok (.irem, 1) := by decide +kernel
theorem dX8_giveRow_25 : decode cX8_giveRow 25 = .ok (.iastore, 1) := by decide +kernel
theorem dX8_giveRow_26 : decode cX8_giveRow 26 = .ok (.iload 4, 2) := by decide +kernel
theorem dX8_giveRow_28 : decode cX8_giveRow 28 = .ok (.iload_n 3, 1) := by decide +kernel
theorem dX8_giveRow_29 : decode cX8_giveRow 29 = .ok (.iconst 1, 1) := by decide +kernel
theorem dX8_giveRow_30 : decode cX8_giveRow 30 = .ok (.iadd, 1) := by decide +kernel
theorem dX8_giveRow_31 : decode cX8_giveRow 31 = .ok (.idiv, 1) := by decide +kernel
theorem dX8_giveRow_32 : decode cX8_giveRow 32 = .ok (.istore 4, 2) := by decide +kernel
theorem dX8_giveRow_34 : decode cX8_giveRow 34 = .ok (.iinc 5 (-1), 3) := by decide +kernel
theorem dX8_giveRow_37 : decode cX8_giveRow 37 = .ok (.goto (-29), 3) := by decide +kernel
theorem dX8_giveRow_40 : decode cX8_giveRow 40 = .ok (.aload_n 0, 1) := by decide +kernel
theorem dX8_giveRow_41 : decode cX8_giveRow 41 = .ok (.iload_n 2, 1) := by decide +kernel
theorem dX8_giveRow_42 : decode cX8_giveRow 42 = .ok (.putfield 203, 3) := by decide +kernel
theorem dX8_giveRow_45 : decode cX8_giveRow 45 = .ok (.return_, 1) := by decide +kernel
theorem dX8_rows_0 : decode cX8_rows 0 = .ok (.iconst 1, 1) := by decide +kernel
theorem dX8_rows_1 : decode cX8_rows 1 = .ok (.istore_n 2, 1) := by decide +kernel
theorem dX8_rows_2 : decode cX8_rows 2 = .ok (.iconst 0, 1) := by decide +kernel
theorem dX8_rows_3 : decode cX8_rows 3 = .ok (.istore_n 3, 1) := by decide +kernel
theorem dX8_rows_4 : decode cX8_rows 4 = .ok (.iload_n 3, 1) := by decide +kernel
theorem dX8_rows_5 : decode cX8_rows 5 = .ok (.iload_n 0, 1) := by decide +kernel
theorem dX8_rows_6 : decode cX8_rows 6 = .ok (.if_icmp .ge 15, 3) := by decide +kernel
theorem dX8_rows_9 : decode cX8_rows 9 = .ok (.iload_n 2, 1) := by decide +kernel
theorem dX8_rows_10 : decode cX8_rows 10 = .ok (.iload_n 1, 1) := by decide +kernel
theorem dX8_rows_11 : decode cX8_rows 11 = .ok (.iconst 1, 1) := by decide +kernel
theorem dX8_rows_12 : decode cX8_rows 12 = .ok (.iadd, 1) := by decide +kernel
theorem dX8_rows_13 : decode cX8_rows 13 = .ok (.imul, 1) := by decide +kernel
theorem dX8_rows_14 : decode cX8_rows 14 = .ok (.istore_n 2, 1) := by decide +kernel
theorem dX8_rows_15 : decode cX8_rows 15 = .ok (.iinc 3 1, 3) := by decide +kernel
theorem dX8_rows_18 : decode cX8_rows 18 = .ok (.goto (-14), 3) := by decide +kernel
theorem dX8_rows_21 : decode cX8_rows 21 = .ok (.iload_n 2, 1) := by decide +kernel
theorem dX8_rows_22 : decode cX8_rows 22 = .ok (.ireturn, 1) := by decide +kernel
theorem dX8_areTold_0 : decode cX8_areTold 0 = .ok (.iload_n 0, 1) := by decide +kernel
theorem dX8_areTold_1 : decode cX8_areTold 1 = .ok (.iconst 0, 1) := by decide +kernel
theorem dX8_areTold_2 : decode cX8_areTold 2 = .ok (.bipush 7, 2) := by decide +kernel
theorem dX8_areTold_4 : decode cX8_areTold 4 = .ok (.invokestatic 85, 3) := by decide +kernel
theorem dX8_areTold_7 : decode cX8_areTold 7 = .ok (.ifCond .eq 25, 3) := by decide +kernel
theorem dX8_areTold_10 : decode cX8_areTold 10 = .ok (.iload_n 1, 1) := by decide +kernel
theorem dX8_areTold_11 : decode cX8_areTold 11 = .ok (.iconst 0, 1) := by decide +kernel
theorem dX8_areTold_12 : decode cX8_areTold 12 = .ok (.iconst 4, 1) := by decide +kernel
theorem dX8_areTold_13 : decode cX8_areTold 13 = .ok (.invokestatic 85, 3) := by decide +kernel
theorem dX8_areTold_16 : decode cX8_areTold 16 = .ok (.ifCond .eq 16, 3) := by decide +kernel
theorem dX8_areTold_19 : decode cX8_areTold 19 = .ok (.iload_n 2, 1) := by decide +kernel
theorem dX8_areTold_20 : decode cX8_areTold 20 = .ok (.iconst 0, 1) := by decide +kernel
theorem dX8_areTold_21 : decode cX8_areTold 21 = .ok (.iconst 2, 1) := by decide +kernel
theorem dX8_areTold_22 : decode cX8_areTold 22 = .ok (.invokestatic 85, 3) := by decide +kernel
theorem dX8_areTold_25 : decode cX8_areTold 25 = .ok (.ifCond .eq 7, 3) := by decide +kernel
theorem dX8_areTold_28 : decode cX8_areTold 28 = .ok (.iconst 1, 1) := by decide +kernel
theorem dX8_areTold_29 : decode cX8_areTold 29 = .ok (.goto 4, 3) := by decide +kernel
theorem dX8_areTold_32 : decode cX8_areTold 32 = .ok (.iconst 0, 1) := by decide +kernel
theorem dX8_areTold_33 : decode cX8_areTold 33 = .ok (.ireturn, 1) := by decide +kernel
theorem dX8_all_0 : decode cX8_all 0 = .ok (.iload_n 1, 1) := by decide +kernel
theorem dX8_all_1 : decode cX8_all 1 = .ok (.invokestatic 101, 3) := by decide +kernel
theorem dX8_all_4 : decode cX8_all 4 = .ok (.ifCond .ne 5, 3) := by decide +kernel
theorem dX8_all_7 : decode cX8_all 7 = .ok (.iconst (-1), 1) := by decide +kernel
theorem dX8_all_8 : decode cX8_all 8 = .ok (.ireturn, 1) := by decide +kernel
theorem dX8_all_9 : decode cX8_all 9 = .ok (.iload_n 2, 1) := by decide +kernel
theorem dX8_all_10 : decode cX8_all 10 = .ok (.iload_n 3, 1) := by decide +kernel
theorem dX8_all_11 : decode cX8_all 11 = .ok (.iload 4, 2) := by decide +kernel
theorem dX8_all_13 : decode cX8_all 13 = .ok (.invokestatic 218, 3) := by decide +kernel
theorem dX8_all_16 : decode cX8_all 16 = .ok (.ifCond .ne 6, 3) := by decide +kernel
theorem dX8_all_19 : decode cX8_all 19 = .ok (.bipush (-2), 2) := by decide +kernel
theorem dX8_all_21 : decode cX8_all 21 = .ok (.ireturn, 1) := by decide +kernel
theorem dX8_all_22 : decode cX8_all 22 = .ok (.iconst 0, 1) := by decide +kernel
theorem dX8_all_23 : decode cX8_all 23 = .ok (.istore 5, 2) := by decide +kernel
theorem dX8_all_25 : decode cX8_all 25 = .ok (.iconst 0, 1) := by decide +kernel
theorem dX8_all_26 : decode cX8_all 26 = .ok (.istore 6, 2) := by decide +kernel
theorem dX8_all_28 : decode cX8_all 28 = .ok (.iload 6, 2) := by decide +kernel
theorem dX8_all_30 : decode cX8_all 30 = .ok (.iload_n 3, 1) := by decide +kernel
theorem dX8_all_31 : decode cX8_all 31 = .ok (.iload 4, 2) := by decide +kernel
theorem dX8_all_33 : decode cX8_all 33 = .ok (.invokestatic 221, 3) := by decide +kernel
theorem dX8_all_36 : decode cX8_all 36 = .ok (.if_icmp .ge 31, 3) := by decide +kernel
theorem dX8_all_39 : decode cX8_all 39 = .ok (.aload_n 0, 1) := by decide +kernel
theorem dX8_all_40 : decode cX8_all 40 = .ok (.iload 6, 2) := by decide +kernel
theorem dX8_all_42 : decode cX8_all 42 = .ok (.iload_n 3, 1) := by decide +kernel
theorem dX8_all_43 : decode cX8_all 43 = .ok (.iload 4, 2) := by decide +kernel
theorem dX8_all_45 : decode cX8_all 45 = .ok (.invokevirtual 224, 3) := by decide +kernel
theorem dX8_all_48 : decode cX8_all 48 = .ok (.iload 5, 2) := by decide +kernel
theorem dX8_all_50 : decode cX8_all 50 = .ok (.iconst 1, 1) := by decide +kernel
theorem dX8_all_51 : decode cX8_all 51 = .ok (.aload_n 0, 1) := by decide +kernel
theorem dX8_all_52 : decode cX8_all 52 = .ok (.iload_n 1, 1) := by decide +kernel
theorem dX8_all_53 : decode cX8_all 53 = .ok (.iload_n 2, 1) := by decide +kernel
theorem dX8_all_54 : decode cX8_all 54 = .ok (.invokevirtual 209, 3) := by decide +kernel
theorem dX8_all_57 : decode cX8_all 57 = .ok (.ishl, 1) := by decide +kernel
theorem dX8_all_58 : decode cX8_all 58 = .ok (.ior, 1) := by decide +kernel
theorem dX8_all_59 : decode cX8_all 59 = .ok (.istore 5, 2) := by decide +kernel
theorem dX8_all_61 : decode cX8_all 61 = .ok (.iinc 6 1, 3) := by decide +kernel
theorem dX8_all_64 : decode cX8_all 64 = .ok (.goto (-36), 3) := by decide +kernel
theorem dX8_all_67 : decode cX8_all 67 = .ok (.iload 5, 2) := by decide +kernel
theorem dX8_all_69 : decode cX8_all 69 = .ok (.ireturn, 1) := by decide +kernel
theorem dX8_row_0 : decode cX8_row 0 = .ok (.iload_n 1, 1) := by decide +kernel
theorem dX8_row_1 : decode cX8_row 1 = .ok (.invokestatic 101, 3) := by decide +kernel
theorem dX8_row_4 : decode cX8_row 4 = .ok (.ifCond .ne 5, 3) := by decide +kernel
theorem dX8_row_7 : decode cX8_row 7 = .ok (.iconst (-1), 1) := by decide +kernel
theorem dX8_row_8 : decode cX8_row 8 = .ok (.ireturn, 1) := by decide +kernel
theorem dX8_row_9 : decode cX8_row 9 = .ok (.iload_n 2, 1) := by decide +kernel
theorem dX8_row_10 : decode cX8_row 10 = .ok (.iload_n 3, 1) := by decide +kernel
theorem dX8_row_11 : decode cX8_row 11 = .ok (.iload 4, 2) := by decide +kernel
theorem dX8_row_13 : decode cX8_row 13 = .ok (.invokestatic 218, 3) := by decide +kernel
theorem dX8_row_16 : decode cX8_row 16 = .ok (.ifCond .eq 14, 3) := by decide +kernel
theorem dX8_row_19 : decode cX8_row 19 = .ok (.iload 5, 2) := by decide +kernel
theorem dX8_row_21 : decode cX8_row 21 = .ok (.iconst 0, 1) := by decide +kernel
theorem dX8_row_22 : decode cX8_row 22 = .ok (.bipush 9, 2) := by decide +kernel
theorem dX8_row_24 : decode cX8_row 24 = .ok (.invokestatic 85, 3) := by decide +kernel
theorem dX8_row_27 : decode cX8_row 27 = .ok (.ifCond .ne 6, 3) := by decide +kernel
theorem dX8_row_30 : decode cX8_row 30 = .ok (.bipush (-2), 2) := by decide +kernel
theorem dX8_row_32 : decode cX8_row 32 = .ok (.ireturn, 1) := by decide +kernel
theorem dX8_row_33 : decode cX8_row 33 = .ok (.bipush (-6), 2) := by decide +kernel
theorem dX8_row_35 : decode cX8_row 35 = .ok (.istore 7, 2) := by decide +kernel
theorem dX8_row_37 : decode cX8_row 37 = .ok (.iconst 0, 1) := by decide +kernel
theorem dX8_row_38 : decode cX8_row 38 = .ok (.istore 8, 2) := by decide +kernel
theorem dX8_row_40 : decode cX8_row 40 = .ok (.iload 8, 2) := by decide +kernel
theorem dX8_row_42 : decode cX8_row 42 = .ok (.iload_n 3, 1) := by decide +kernel
theorem dX8_row_43 : decode cX8_row 43 = .ok (.iload 4, 2) := by decide +kernel
theorem dX8_row_45 : decode cX8_row 45 = .ok (.invokestatic 221, 3) := by decide +kernel
theorem dX8_row_48 : decode cX8_row 48 = .ok (.if_icmp .ge 81, 3) := by decide +kernel
theorem dX8_row_51 : decode cX8_row 51 = .ok (.aload_n 0, 1) := by decide +kernel
theorem dX8_row_52 : decode cX8_row 52 = .ok (.iload 8, 2) := by decide +kernel
theorem dX8_row_54 : decode cX8_row 54 = .ok (.iload_n 3, 1) := by decide +kernel
theorem dX8_row_55 : decode cX8_row 55 = .ok (.iload 4, 2) := by decide +kernel
theorem dX8_row_57 : decode cX8_row 57 = .ok (.invokevirtual 224, 3) := by decide +kernel
theorem dX8_row_60 : decode cX8_row 60 = .ok (.aload_n 0, 1) := by decide +kernel
theorem dX8_row_61 : decode cX8_row 61 = .ok (.iload_n 1, 1) := by decide +kernel
theorem dX8_row_62 : decode cX8_row 62 = .ok (.iload_n 2, 1) := by decide +kernel
theorem dX8_row_63 : decode cX8_row 63 = .ok (.invokevirtual 209, 3) := by decide +kernel
theorem dX8_row_66 : decode cX8_row 66 = .ok (.iload 5, 2) := by decide +kernel
theorem dX8_row_68 : decode cX8_row 68 = .ok (.if_icmp .ne 55, 3) := by decide +kernel
theorem dX8_row_71 : decode cX8_row 71 = .ok (.iload 7, 2) := by decide +kernel
theorem dX8_row_73 : decode cX8_row 73 = .ok (.ifCond .lt 12, 3) := by decide +kernel
theorem dX8_row_76 : decode cX8_row 76 = .ok (.aload_n 0, 1) := by decide +kernel
theorem dX8_row_77 : decode cX8_row 77 = .ok (.getfield 141, 3) := by decide +kernel
theorem dX8_row_80 : decode cX8_row 80 = .ok (.iload 7, 2) := by decide +kernel
theorem dX8_row_82 : decode cX8_row 82 = .ok (.if_icmp .ge 41, 3) := by decide +kernel
theorem dX8_row_85 : decode cX8_row 85 = .ok (.aload_n 0, 1) := by decide +kernel
theorem dX8_row_86 : decode cX8_row 86 = .ok (.getfield 141, 3) := by decide +kernel
theorem dX8_row_89 : decode cX8_row 89 = .ok (.istore 7, 2) := by decide +kernel
theorem dX8_row_91 : decode cX8_row 91 = .ok (.iconst 0, 1) := by decide +kernel
theorem dX8_row_92 : decode cX8_row 92 = .ok (.istore 9, 2) := by decide +kernel
theorem dX8_row_94 : decode cX8_row 94 = .ok (.iload 9, 2) := by decide +kernel
theorem dX8_row_96 : decode cX8_row 96 = .ok (.aload_n 0, 1) := by decide +kernel
theorem dX8_row_97 : decode cX8_row 97 = .ok (.getfield 141, 3) := by decide +kernel
theorem dX8_row_100 : decode cX8_row 100 = .ok (.if_icmp .ge 23, 3) := by decide +kernel
theorem dX8_row_103 : decode cX8_row 103 = .ok (.aload_n 0, 1) := by decide +kernel
theorem dX8_row_104 : decode cX8_row 104 = .ok (.getfield 82, 3) := by decide +kernel
theorem dX8_row_107 : decode cX8_row 107 = .ok (.iload 9, 2) := by decide +kernel
theorem dX8_row_109 : decode cX8_row 109 = .ok (.aload_n 0, 1) := by decide +kernel
theorem dX8_row_110 : decode cX8_row 110 = .ok (.getfield 67, 3) := by decide +kernel
theorem dX8_row_113 : decode cX8_row 113 = .ok (.iload 9, 2) := by decide +kernel
theorem dX8_row_115 : decode cX8_row 115 = .ok (.iaload, 1) := by decide +kernel
theorem dX8_row_116 : decode cX8_row 116 = .ok (.iastore, 1) := by decide +kernel
theorem dX8_row_117 : decode cX8_row 117 = .ok (.iinc 9 1, 3) := by decide +kernel
theorem dX8_row_120 : decode cX8_row 120 = .ok (.goto (-26), 3) := by decide +kernel
theorem dX8_row_123 : decode cX8_row 123 = .ok (.iinc 8 1, 3) := by decide +kernel
theorem dX8_row_126 : decode cX8_row 126 = .ok (.goto (-86), 3) := by decide +kernel
theorem dX8_row_129 : decode cX8_row 129 = .ok (.iload 7, 2) := by decide +kernel
theorem dX8_row_131 : decode cX8_row 131 = .ok (.ifCond .ge 8, 3) := by decide +kernel
theorem dX8_row_134 : decode cX8_row 134 = .ok (.bipush (-5), 2) := by decide +kernel
theorem dX8_row_136 : decode cX8_row 136 = .ok (.goto 39, 3) := by decide +kernel
theorem dX8_row_139 : decode cX8_row 139 = .ok (.iload 6, 2) := by decide +kernel
theorem dX8_row_141 : decode cX8_row 141 = .ok (.iconst (-1), 1) := by decide +kernel
theorem dX8_row_142 : decode cX8_row 142 = .ok (.if_icmp .ne 8, 3) := by decide +kernel
theorem dX8_row_145 : decode cX8_row 145 = .ok (.iload 7, 2) := by decide +kernel
theorem dX8_row_147 : decode cX8_row 147 = .ok (.goto 28, 3) := by decide +kernel
theorem dX8_row_150 : decode cX8_row 150 = .ok (.iload 6, 2) := by decide +kernel
theorem dX8_row_152 : decode cX8_row 152 = .ok (.iconst 0, 1) := by decide +kernel
theorem dX8_row_153 : decode cX8_row 153 = .ok (.iload 7, 2) := by decide +kernel
theorem dX8_row_155 : decode cX8_row 155 = .ok (.iconst 1, 1) := by decide +kernel
theorem dX8_row_156 : decode cX8_row 156 = .ok (.isub, 1) := by decide +kernel
theorem dX8_row_157 : decode cX8_row 157 = .ok (.invokestatic 85, 3) := by decide +kernel
theorem dX8_row_160 : decode cX8_row 160 = .ok (.ifCond .eq 13, 3) := by decide +kernel
theorem dX8_row_163 : decode cX8_row 163 = .ok (.aload_n 0, 1) := by decide +kernel
theorem dX8_row_164 : decode cX8_row 164 = .ok (.getfield 82, 3) := by decide +kernel
theorem dX8_row_167 : decode cX8_row 167 = .ok (.iload 6, 2) := by decide +kernel
theorem dX8_row_169 : decode cX8_row 169 = .ok (.iaload, 1) := by decide +kernel
theorem dX8_row_170 : decode cX8_row 170 = .ok (.goto 5, 3) := by decide +kernel
theorem dX8_row_173 : decode cX8_row 173 = .ok (.bipush (-6), 2) := by decide +kernel
theorem dX8_row_175 : decode cX8_row 175 = .ok (.ireturn, 1) := by decide +kernel
theorem dX8_apart_0 : decode cX8_apart 0 = .ok (.iload_n 1, 1) := by decide +kernel
theorem dX8_apart_1 : decode cX8_apart 1 = .ok (.invokestatic 101, 3) := by decide +kernel
theorem dX8_apart_4 : decode cX8_apart 4 = .ok (.ifCond .eq 10, 3) := by decide +kernel
theorem dX8_apart_7 : decode cX8_apart 7 = .ok (.iload_n 3, 1) := by decide +kernel
theorem dX8_apart_8 : decode cX8_apart 8 = .ok (.invokestatic 101, 3) := by decide +kernel
theorem dX8_apart_11 : decode cX8_apart 11 = .ok (.ifCond .ne 5, 3) := by decide +kernel
theorem dX8_apart_14 : decode cX8_apart 14 = .ok (.iconst (-1), 1) := by decide +kernel
theorem dX8_apart_15 : decode cX8_apart 15 = .ok (.ireturn, 1) := by decide +kernel
theorem dX8_apart_16 : decode cX8_apart 16 = .ok (.iload_n 2, 1) := by decide +kernel
theorem dX8_apart_17 : decode cX8_apart 17 = .ok (.iload 5, 2) := by decide +kernel
theorem dX8_apart_19 : decode cX8_apart 19 = .ok (.iload 6, 2) := by decide +kernel
theorem dX8_apart_21 : decode cX8_apart 21 = .ok (.invokestatic 218, 3) := by decide +kernel
theorem dX8_apart_24 : decode cX8_apart 24 = .ok (.ifCond .eq 14, 3) := by decide +kernel
theorem dX8_apart_27 : decode cX8_apart 27 = .ok (.iload 4, 2) := by decide +kernel
theorem dX8_apart_29 : decode cX8_apart 29 = .ok (.iconst 0, 1) := by decide +kernel
theorem dX8_apart_30 : decode cX8_apart 30 = .ok (.bipush 7, 2) := by decide +kernel
theorem dX8_apart_32 : decode cX8_apart 32 = .ok (.invokestatic 85, 3) := by decide +kernel
theorem dX8_apart_35 : decode cX8_apart 35 = .ok (.ifCond .ne 6, 3) := by decide +kernel
theorem dX8_apart_38 : decode cX8_apart 38 = .ok (.bipush (-2), 2) := by decide +kernel
theorem dX8_apart_40 : decode cX8_apart 40 = .ok (.ireturn, 1) := by decide +kernel
theorem dX8_apart_41 : decode cX8_apart 41 = .ok (.iconst 0, 1) := by decide +kernel
theorem dX8_apart_42 : decode cX8_apart 42 = .ok (.istore 8, 2) := by decide +kernel
theorem dX8_apart_44 : decode cX8_apart 44 = .ok (.iload 8, 2) := by decide +kernel
theorem dX8_apart_46 : decode cX8_apart 46 = .ok (.iload 5, 2) := by decide +kernel
theorem dX8_apart_48 : decode cX8_apart 48 = .ok (.if_icmp .gt 139, 3) := by decide +kernel
theorem dX8_apart_51 : decode cX8_apart 51 = .ok (.iconst 0, 1) := by decide +kernel
theorem dX8_apart_52 : decode cX8_apart 52 = .ok (.istore 9, 2) := by decide +kernel
theorem dX8_apart_54 : decode cX8_apart 54 = .ok (.iload 9, 2) := by decide +kernel
theorem dX8_apart_56 : decode cX8_apart 56 = .ok (.iload 8, 2) := by decide +kernel
theorem dX8_apart_58 : decode cX8_apart 58 = .ok (.iload 6, 2) := by decide +kernel
theorem dX8_apart_60 : decode cX8_apart 60 = .ok (.invokestatic 221, 3) := by decide +kernel
theorem dX8_apart_63 : decode cX8_apart 63 = .ok (.if_icmp .ge 118, 3) := by decide +kernel
theorem dX8_apart_66 : decode cX8_apart 66 = .ok (.aload_n 0, 1) := by decide +kernel
theorem dX8_apart_67 : decode cX8_apart 67 = .ok (.iload 9, 2) := by decide +kernel
theorem dX8_apart_69 : decode cX8_apart 69 = .ok (.iload 8, 2) := by decide +kernel
theorem dX8_apart_71 : decode cX8_apart 71 = .ok (.iload 6, 2) := by decide +kernel
theorem dX8_apart_73 : decode cX8_apart 73 = .ok (.invokevirtual 224, 3) := by decide +kernel
theorem dX8_apart_76 : decode cX8_apart 76 = .ok (.aload_n 0, 1) := by decide +kernel
theorem dX8_apart_77 : decode cX8_apart 77 = .ok (.iload_n 1, 1) := by decide +kernel
theorem dX8_apart_78 : decode cX8_apart 78 = .ok (.iload_n 2, 1) := by decide +kernel
theorem dX8_apart_79 : decode cX8_apart 79 = .ok (.invokevirtual 209, 3) := by decide +kernel
theorem dX8_apart_82 : decode cX8_apart 82 = .ok (.istore 10, 2) := by decide +kernel
theorem dX8_apart_84 : decode cX8_apart 84 = .ok (.aload_n 0, 1) := by decide +kernel
theorem dX8_apart_85 : decode cX8_apart 85 = .ok (.getfield 147, 3) := by decide +kernel
theorem dX8_apart_88 : decode cX8_apart 88 = .ok (.istore 11, 2) := by decide +kernel
theorem dX8_apart_90 : decode cX8_apart 90 = .ok (.aload_n 0, 1) := by decide +kernel
theorem dX8_apart_91 : decode cX8_apart 91 = .ok (.getfield 150, 3) := by decide +kernel
theorem dX8_apart_94 : decode cX8_apart 94 = .ok (.istore 12, 2) := by decide +kernel
theorem dX8_apart_96 : decode cX8_apart 96 = .ok (.aload_n 0, 1) := by decide +kernel
theorem dX8_apart_97 : decode cX8_apart 97 = .ok (.iload_n 3, 1) := by decide +kernel
theorem dX8_apart_98 : decode cX8_apart 98 = .ok (.iload 4, 2) := by decide +kernel
theorem dX8_apart_100 : decode cX8_apart 100 = .ok (.invokevirtual 209, 3) := by decide +kernel
theorem dX8_apart_103 : decode cX8_apart 103 = .ok (.iload 10, 2) := by decide +kernel
theorem dX8_apart_105 : decode cX8_apart 105 = .ok (.if_icmp .ne 25, 3) := by decide +kernel
theorem dX8_apart_108 : decode cX8_apart 108 = .ok (.aload_n 0, 1) := by decide +kernel
theorem dX8_apart_109 : decode cX8_apart 109 = .ok (.getfield 147, 3) := by decide +kernel
theorem dX8_apart_112 : decode cX8_apart 112 = .ok (.iload 11, 2) := by decide +kernel
theorem dX8_apart_114 : decode cX8_apart 114 = .ok (.if_icmp .ne 16, 3) := by decide +kernel
theorem dX8_apart_117 : decode cX8_apart 117 = .ok (.aload_n 0, 1) := by decide +kernel
theorem dX8_apart_118 : decode cX8_apart 118 = .ok (.getfield 150, 3) := by decide +kernel
theorem dX8_apart_121 : decode cX8_apart 121 = .ok (.iload 12, 2) := by decide +kernel
theorem dX8_apart_123 : decode cX8_apart 123 = .ok (.if_icmp .ne 7, 3) := by decide +kernel
theorem dX8_apart_126 : decode cX8_apart 126 = .ok (.iconst 1, 1) := by decide +kernel
theorem dX8_apart_127 : decode cX8_apart 127 = .ok (.goto 4, 3) := by decide +kernel
theorem dX8_apart_130 : decode cX8_apart 130 = .ok (.iconst 0, 1) := by decide +kernel
theorem dX8_apart_131 : decode cX8_apart 131 = .ok (.istore 13, 2) := by decide +kernel
theorem dX8_apart_133 : decode cX8_apart 133 = .ok (.iload 13, 2) := by decide +kernel
theorem dX8_apart_135 : decode cX8_apart 135 = .ok (.ifCond .ne 40, 3) := by decide +kernel
theorem dX8_apart_138 : decode cX8_apart 138 = .ok (.iload 7, 2) := by decide +kernel
theorem dX8_apart_140 : decode cX8_apart 140 = .ok (.iconst (-1), 1) := by decide +kernel
theorem dX8_apart_141 : decode cX8_apart 141 = .ok (.if_icmp .ne 8, 3) := by decide +kernel
theorem dX8_apart_144 : decode cX8_apart 144 = .ok (.iload 8, 2) := by decide +kernel
theorem dX8_apart_146 : decode cX8_apart 146 = .ok (.goto 28, 3) := by decide +kernel
theorem dX8_apart_149 : decode cX8_apart 149 = .ok (.iload 7, 2) := by decide +kernel
theorem dX8_apart_151 : decode cX8_apart 151 = .ok (.iconst 0, 1) := by decide +kernel
theorem dX8_apart_152 : decode cX8_apart 152 = .ok (.iload 8, 2) := by decide +kernel
theorem dX8_apart_154 : decode cX8_apart 154 = .ok (.iconst 1, 1) := by decide +kernel
theorem dX8_apart_155 : decode cX8_apart 155 = .ok (.isub, 1) := by decide +kernel
theorem dX8_apart_156 : decode cX8_apart 156 = .ok (.invokestatic 85, 3) := by decide +kernel
theorem dX8_apart_159 : decode cX8_apart 159 = .ok (.ifCond .eq 13, 3) := by decide +kernel
theorem dX8_apart_162 : decode cX8_apart 162 = .ok (.aload_n 0, 1) := by decide +kernel
theorem dX8_apart_163 : decode cX8_apart 163 = .ok (.getfield 67, 3) := by decide +kernel
theorem dX8_apart_166 : decode cX8_apart 166 = .ok (.iload 7, 2) := by decide +kernel
theorem dX8_apart_168 : decode cX8_apart 168 = .ok (.iaload, 1) := by decide +kernel
theorem dX8_apart_169 : decode cX8_apart 169 = .ok (.goto 5, 3) := by decide +kernel
theorem dX8_apart_172 : decode cX8_apart 172 = .ok (.bipush (-6), 2) := by decide +kernel
theorem dX8_apart_174 : decode cX8_apart 174 = .ok (.ireturn, 1) := by decide +kernel
theorem dX8_apart_175 : decode cX8_apart 175 = .ok (.iinc 9 1, 3) := by decide +kernel
theorem dX8_apart_178 : decode cX8_apart 178 = .ok (.goto (-124), 3) := by decide +kernel
theorem dX8_apart_181 : decode cX8_apart 181 = .ok (.iinc 8 1, 3) := by decide +kernel
theorem dX8_apart_184 : decode cX8_apart 184 = .ok (.goto (-140), 3) := by decide +kernel
theorem dX8_apart_187 : decode cX8_apart 187 = .ok (.bipush (-6), 2) := by decide +kernel
theorem dX8_apart_189 : decode cX8_apart 189 = .ok (.ireturn, 1) := by decide +kernel
theorem dX8_told_0 : decode cX8_told 0 = .ok (.iload_n 1, 1) := by decide +kernel
theorem dX8_told_1 : decode cX8_told 1 = .ok (.ifCond .ne 10, 3) := by decide +kernel
theorem dX8_told_4 : decode cX8_told 4 = .ok (.aload_n 0, 1) := by decide +kernel
theorem dX8_told_5 : decode cX8_told 5 = .ok (.getfield 89, 3) := by decide +kernel
theorem dX8_told_8 : decode cX8_told 8 = .ok (.goto 40, 3) := by decide +kernel
theorem dX8_told_11 : decode cX8_told 11 = .ok (.iload_n 1, 1) := by decide +kernel
theorem dX8_told_12 : decode cX8_told 12 = .ok (.iconst 1, 1) := by decide +kernel
theorem dX8_told_13 : decode cX8_told 13 = .ok (.if_icmp .ne 10, 3) := by decide +kernel
theorem dX8_told_16 : decode cX8_told 16 = .ok (.aload_n 0, 1) := by decide +kernel
theorem dX8_told_17 : decode cX8_told 17 = .ok (.getfield 117, 3) := by decide +kernel
theorem dX8_told_20 : decode cX8_told 20 = .ok (.goto 28, 3) := by decide +kernel
theorem dX8_told_23 : decode cX8_told 23 = .ok (.iload_n 1, 1) := by decide +kernel
theorem dX8_told_24 : decode cX8_told 24 = .ok (.bipush 10, 2) := by decide +kernel
theorem dX8_told_26 : decode cX8_told 26 = .ok (.bipush 13, 2) := by decide +kernel
theorem dX8_told_28 : decode cX8_told 28 = .ok (.invokestatic 85, 3) := by decide +kernel
theorem dX8_told_31 : decode cX8_told 31 = .ok (.ifCond .eq 15, 3) := by decide +kernel
theorem dX8_told_34 : decode cX8_told 34 = .ok (.aload_n 0, 1) := by decide +kernel
theorem dX8_told_35 : decode cX8_told 35 = .ok (.getfield 13, 3) := by decide +kernel
theorem dX8_told_38 : decode cX8_told 38 = .ok (.iload_n 1, 1) := by decide +kernel
theorem dX8_told_39 : decode cX8_told 39 = .ok (.bipush 10, 2) := by decide +kernel
theorem dX8_told_41 : decode cX8_told 41 = .ok (.isub, 1) := by decide +kernel
theorem dX8_told_42 : decode cX8_told 42 = .ok (.iaload, 1) := by decide +kernel
theorem dX8_told_43 : decode cX8_told 43 = .ok (.goto 5, 3) := by decide +kernel
theorem dX8_told_46 : decode cX8_told 46 = .ok (.bipush (-2), 2) := by decide +kernel
theorem dX8_told_48 : decode cX8_told 48 = .ok (.ireturn, 1) := by decide +kernel
theorem dL_law_0 : decode cL_law 0 = .ok (.new 7, 3) := by decide +kernel
theorem dL_law_3 : decode cL_law 3 = .ok (.dup, 1) := by decide +kernel
theorem dL_law_4 : decode cL_law 4 = .ok (.invokespecial 9, 3) := by decide +kernel
theorem dL_law_7 : decode cL_law 7 = .ok (.astore_n 1, 1) := by decide +kernel
theorem dL_law_8 : decode cL_law 8 = .ok (.new 10, 3) := by decide +kernel
theorem dL_law_11 : decode cL_law 11 = .ok (.dup, 1) := by decide +kernel
theorem dL_law_12 : decode cL_law 12 = .ok (.invokespecial 12, 3) := by decide +kernel
theorem dL_law_15 : decode cL_law 15 = .ok (.astore_n 2, 1) := by decide +kernel
theorem dL_law_16 : decode cL_law 16 = .ok (.iconst 0, 1) := by decide +kernel
theorem dL_law_17 : decode cL_law 17 = .ok (.istore_n 3, 1) := by decide +kernel
theorem dL_law_18 : decode cL_law 18 = .ok (.iload_n 3, 1) := by decide +kernel
theorem dL_law_19 : decode cL_law 19 = .ok (.aload_n 0, 1) := by decide +kernel
theorem dL_law_20 : decode cL_law 20 = .ok (.arraylength, 1) := by decide +kernel
theorem dL_law_21 : decode cL_law 21 = .ok (.bipush 8, 2) := by decide +kernel
theorem dL_law_23 : decode cL_law 23 = .ok (.isub, 1) := by decide +kernel
theorem dL_law_24 : decode cL_law 24 = .ok (.if_icmp .gt 695, 3) := by decide +kernel
theorem dL_law_27 : decode cL_law 27 = .ok (.aload_n 0, 1) := by decide +kernel
theorem dL_law_28 : decode cL_law 28 = .ok (.iload_n 3, 1) := by decide +kernel
theorem dL_law_29 : decode cL_law 29 = .ok (.iaload, 1) := by decide +kernel
theorem dL_law_30 : decode cL_law 30 = .ok (.bipush 31, 2) := by decide +kernel
theorem dL_law_32 : decode cL_law 32 = .ok (.iand, 1) := by decide +kernel
theorem dL_law_33 : decode cL_law 33 = .ok (.tableswitch 680 0 16 #[83, 106, 119, 142, 165, 198, 231, 254, 277, 290, 333, 376, 409, 442, 495, 570, 657], 83) := by decide +kernel
theorem dL_law_116 : decode cL_law 116 = .ok (.aload_n 1, 1) := by decide +kernel
theorem dL_law_117 : decode cL_law 117 = .ok (.aload_n 0, 1) := by decide +kernel
theorem dL_law_118 : decode cL_law 118 = .ok (.iload_n 3, 1) := by decide +kernel
theorem dL_law_119 : decode cL_law 119 = .ok (.iconst 1, 1) := by decide +kernel
theorem dL_law_120 : decode cL_law 120 = .ok (.iadd, 1) := by decide +kernel
theorem dL_law_121 : decode cL_law 121 = .ok (.iaload, 1) := by decide +kernel
theorem dL_law_122 : decode cL_law 122 = .ok (.invokevirtual 13, 3) := by decide +kernel
theorem dL_law_125 : decode cL_law 125 = .ok (.aload_n 2, 1) := by decide +kernel
theorem dL_law_126 : decode cL_law 126 = .ok (.aload_n 0, 1) := by decide +kernel
theorem dL_law_127 : decode cL_law 127 = .ok (.iload_n 3, 1) := by decide +kernel
theorem dL_law_128 : decode cL_law 128 = .ok (.iconst 1, 1) := by decide +kernel
theorem dL_law_129 : decode cL_law 129 = .ok (.iadd, 1) := by decide +kernel
theorem dL_law_130 : decode cL_law 130 = .ok (.iaload, 1) := by decide +kernel
theorem dL_law_131 : decode cL_law 131 = .ok (.invokevirtual 17, 3) := by decide +kernel
theorem dL_law_134 : decode cL_law 134 = .ok (.if_icmp .eq 579, 3) := by decide +kernel
theorem dL_law_137 : decode cL_law 137 = .ok (.iconst 0, 1) := by decide +kernel
theorem dL_law_138 : decode cL_law 138 = .ok (.ireturn, 1) := by decide +kernel
theorem dL_law_139 : decode cL_law 139 = .ok (.aload_n 1, 1) := by decide +kernel
theorem dL_law_140 : decode cL_law 140 = .ok (.invokevirtual 18, 3) := by decide +kernel
theorem dL_law_143 : decode cL_law 143 = .ok (.aload_n 2, 1) := by decide +kernel
theorem dL_law_144 : decode cL_law 144 = .ok (.invokevirtual 22, 3) := by decide +kernel
theorem dL_law_147 : decode cL_law 147 = .ok (.if_icmp .eq 566, 3) := by decide +kernel
theorem dL_law_150 : decode cL_law 150 = .ok (.iconst 0, 1) := by decide +kernel
theorem dL_law_151 : decode cL_law 151 = .ok (.ireturn, 1) := by decide +kernel
theorem dL_law_152 : decode cL_law 152 = .ok (.aload_n 1, 1) := by decide +kernel
theorem dL_law_153 : decode cL_law 153 = .ok (.aload_n 0, 1) := by decide +kernel
theorem dL_law_154 : decode cL_law 154 = .ok (.iload_n 3, 1) := by decide +kernel
theorem dL_law_155 : decode cL_law 155 = .ok (.iconst 1, 1) := by decide +kernel
theorem dL_law_156 : decode cL_law 156 = .ok (.iadd, 1) := by decide +kernel
theorem dL_law_157 : decode cL_law 157 = .ok (.iaload, 1) := by decide +kernel
theorem dL_law_158 : decode cL_law 158 = .ok (.invokevirtual 23, 3) := by decide +kernel
theorem dL_law_161 : decode cL_law 161 = .ok (.aload_n 2, 1) := by decide +kernel
theorem dL_law_162 : decode cL_law 162 = .ok (.aload_n 0, 1) := by decide +kernel
theorem dL_law_163 : decode cL_law 163 = .ok (.iload_n 3, 1) := by decide +kernel
theorem dL_law_164 : decode cL_law 164 = .ok (.iconst 1, 1) := by decide +kernel
theorem dL_law_165 : decode cL_law 165 = .ok (.iadd, 1) := by decide +kernel
theorem dL_law_166 : decode cL_law 166 = .ok (.iaload, 1) := by decide +kernel
theorem dL_law_167 : decode cL_law 167 = .ok (.invokevirtual 26, 3) := by decide +kernel
theorem dL_law_170 : decode cL_law 170 = .ok (.if_icmp .eq 543, 3) := by decide +kernel
theorem dL_law_173 : decode cL_law 173 = .ok (.iconst 0, 1) := by decide +kernel
theorem dL_law_174 : decode cL_law 174 = .ok (.ireturn, 1) := by decide +kernel
theorem dL_law_175 : decode cL_law 175 = .ok (.aload_n 1, 1) := by decide +kernel
theorem dL_law_176 : decode cL_law 176 = .ok (.aload_n 0, 1) := by decide +kernel
theorem dL_law_177 : decode cL_law 177 = .ok (.iload_n 3, 1) := by decide +kernel
theorem dL_law_178 : decode cL_law 178 = .ok (.iconst 1, 1) := by decide +kernel
theorem dL_law_179 : decode cL_law 179 = .ok (.iadd, 1) := by decide +kernel
theorem dL_law_180 : decode cL_law 180 = .ok (.iaload, 1) := by decide +kernel
theorem dL_law_181 : decode cL_law 181 = .ok (.invokevirtual 27, 3) := by decide +kernel
theorem dL_law_184 : decode cL_law 184 = .ok (.aload_n 2, 1) := by decide +kernel
theorem dL_law_185 : decode cL_law 185 = .ok (.aload_n 0, 1) := by decide +kernel
theorem dL_law_186 : decode cL_law 186 = .ok (.iload_n 3, 1) := by decide +kernel
theorem dL_law_187 : decode cL_law 187 = .ok (.iconst 1, 1) := by decide +kernel
theorem dL_law_188 : decode cL_law 188 = .ok (.iadd, 1) := by decide +kernel
theorem dL_law_189 : decode cL_law 189 = .ok (.iaload, 1) := by decide +kernel
theorem dL_law_190 : decode cL_law 190 = .ok (.invokevirtual 30, 3) := by decide +kernel
theorem dL_law_193 : decode cL_law 193 = .ok (.if_icmp .eq 520, 3) := by decide +kernel
theorem dL_law_196 : decode cL_law 196 = .ok (.iconst 0, 1) := by decide +kernel
theorem dL_law_197 : decode cL_law 197 = .ok (.ireturn, 1) := by decide +kernel
theorem dL_law_198 : decode cL_law 198 = .ok (.aload_n 1, 1) := by decide +kernel
theorem dL_law_199 : decode cL_law 199 = .ok (.aload_n 0, 1) := by decide +kernel
theorem dL_law_200 : decode cL_law 200 = .ok (.iload_n 3, 1) := by decide +kernel
theorem dL_law_201 : decode cL_law 201 = .ok (.iconst 1, 1) := by decide +kernel
theorem dL_law_202 : decode cL_law 202 = .ok (.iadd, 1) := by decide +kernel
theorem dL_law_203 : decode cL_law 203 = .ok (.iaload, 1) := by decide +kernel
theorem dL_law_204 : decode cL_law 204 = .ok (.aload_n 0, 1) := by decide +kernel
theorem dL_law_205 : decode cL_law 205 = .ok (.iload_n 3, 1) := by decide +kernel
theorem dL_law_206 : decode cL_law 206 = .ok (.iconst 2, 1) := by decide +kernel
theorem dL_law_207 : decode cL_law 207 = .ok (.iadd, 1) := by decide +kernel
theorem dL_law_208 : decode cL_law 208 = .ok (.iaload, 1) := by decide +kernel
theorem dL_law_209 : decode cL_law 209 = .ok (.invokevirtual 31, 3) := by decide +kernel
theorem dL_law_212 : decode cL_law 212 = .ok (.aload_n 2, 1) := by decide +kernel
theorem dL_law_213 : decode cL_law 213 = .ok (.aload_n 0, 1) := by decide +kernel
theorem dL_law_214 : decode cL_law 214 = .ok (.iload_n 3, 1) := by decide +kernel
theorem dL_law_215 : decode cL_law 215 = .ok (.iconst 1, 1) := by decide +kernel
theorem dL_law_216 : decode cL_law 216 = .ok (.iadd, 1) := by decide +kernel
theorem dL_law_217 : decode cL_law 217 = .ok (.iaload, 1) := by decide +kernel
theorem dL_law_218 : decode cL_law 218 = .ok (.aload_n 0, 1) := by decide +kernel
theorem dL_law_219 : decode cL_law 219 = .ok (.iload_n 3, 1) := by decide +kernel
theorem dL_law_220 : decode cL_law 220 = .ok (.iconst 2, 1) := by decide +kernel
theorem dL_law_221 : decode cL_law 221 = .ok (.iadd, 1) := by decide +kernel
theorem dL_law_222 : decode cL_law 222 = .ok (.iaload, 1) := by decide +kernel
theorem dL_law_223 : decode cL_law 223 = .ok (.invokevirtual 35, 3) := by decide +kernel
theorem dL_law_226 : decode cL_law 226 = .ok (.if_icmp .eq 487, 3) := by decide +kernel
theorem dL_law_229 : decode cL_law 229 = .ok (.iconst 0, 1) := by decide +kernel
theorem dL_law_230 : decode cL_law 230 = .ok (.ireturn, 1) := by decide +kernel
theorem dL_law_231 : decode cL_law 231 = .ok (.aload_n 1, 1) := by decide +kernel
theorem dL_law_232 : decode cL_law 232 = .ok (.aload_n 0, 1) := by decide +kernel
theorem dL_law_233 : decode cL_law 233 = .ok (.iload_n 3, 1) := by decide +kernel
theorem dL_law_234 : decode cL_law 234 = .ok (.iconst 1, 1) := by decide +kernel
theorem dL_law_235 : decode cL_law 235 = .ok (.iadd, 1) := by decide +kernel
theorem dL_law_236 : decode cL_law 236 = .ok (.iaload, 1) := by decide +kernel
theorem dL_law_237 : decode cL_law 237 = .ok (.aload_n 0, 1) := by decide +kernel
theorem dL_law_238 : decode cL_law 238 = .ok (.iload_n 3, 1) := by decide +kernel
theorem dL_law_239 : decode cL_law 239 = .ok (.iconst 2, 1) := by decide +kernel
theorem dL_law_240 : decode cL_law 240 = .ok (.iadd, 1) := by decide +kernel
theorem dL_law_241 : decode cL_law 241 = .ok (.iaload, 1) := by decide +kernel
theorem dL_law_242 : decode cL_law 242 = .ok (.invokevirtual 36, 3) := by decide +kernel
theorem dL_law_245 : decode cL_law 245 = .ok (.aload_n 2, 1) := by decide +kernel
theorem dL_law_246 : decode cL_law 246 = .ok (.aload_n 0, 1) := by decide +kernel
theorem dL_law_247 : decode cL_law 247 = .ok (.iload_n 3, 1) := by decide +kernel
theorem dL_law_248 : decode cL_law 248 = .ok (.iconst 1, 1) := by decide +kernel
theorem dL_law_249 : decode cL_law 249 = .ok (.iadd, 1) := by decide +kernel
theorem dL_law_250 : decode cL_law 250 = .ok (.iaload, 1) := by decide +kernel
theorem dL_law_251 : decode cL_law 251 = .ok (.aload_n 0, 1) := by decide +kernel
theorem dL_law_252 : decode cL_law 252 = .ok (.iload_n 3, 1) := by decide +kernel
theorem dL_law_253 : decode cL_law 253 = .ok (.iconst 2, 1) := by decide +kernel
theorem dL_law_254 : decode cL_law 254 = .ok (.iadd, 1) := by decide +kernel
theorem dL_law_255 : decode cL_law 255 = .ok (.iaload, 1) := by decide +kernel
theorem dL_law_256 : decode cL_law 256 = .ok (.invokevirtual 39, 3) := by decide +kernel
theorem dL_law_259 : decode cL_law 259 = .ok (.if_icmp .eq 454, 3) := by decide +kernel
theorem dL_law_262 : decode cL_law 262 = .ok (.iconst 0, 1) := by decide +kernel
theorem dL_law_263 : decode cL_law 263 = .ok (.ireturn, 1) := by decide +kernel
theorem dL_law_264 : decode cL_law 264 = .ok (.aload_n 1, 1) := by decide +kernel
theorem dL_law_265 : decode cL_law 265 = .ok (.aload_n 0, 1) := by decide +kernel
theorem dL_law_266 : decode cL_law 266 = .ok (.iload_n 3, 1) := by decide +kernel
theorem dL_law_267 : decode cL_law 267 = .ok (.iconst 1, 1) := by decide +kernel
theorem dL_law_268 : decode cL_law 268 = .ok (.iadd, 1) := by decide +kernel
theorem dL_law_269 : decode cL_law 269 = .ok (.iaload, 1) := by decide +kernel
theorem dL_law_270 : decode cL_law 270 = .ok (.invokevirtual 40, 3) := by decide +kernel
theorem dL_law_273 : decode cL_law 273 = .ok (.aload_n 2, 1) := by decide +kernel
theorem dL_law_274 : decode cL_law 274 = .ok (.aload_n 0, 1) := by decide +kernel
theorem dL_law_275 : decode cL_law 275 = .ok (.iload_n 3, 1) := by decide +kernel
theorem dL_law_276 : decode cL_law 276 = .ok (.iconst 1, 1) := by decide +kernel
theorem dL_law_277 : decode cL_law 277 = .ok (.iadd, 1) := by decide +kernel
theorem dL_law_278 : decode cL_law 278 = .ok (.iaload, 1) := by decide +kernel
theorem dL_law_279 : decode cL_law 279 = .ok (.invokevirtual 43, 3) := by decide +kernel
theorem dL_law_282 : decode cL_law 282 = .ok (.if_icmp .eq 431, 3) := by decide +kernel
theorem dL_law_285 : decode cL_law 285 = .ok (.iconst 0, 1) := by decide +kernel
theorem dL_law_286 : decode cL_law 286 = .ok (.ireturn, 1) := by decide +kernel
theorem dL_law_287 : decode cL_law 287 = .ok (.aload_n 1, 1) := by decide +kernel
theorem dL_law_288 : decode cL_law 288 = .ok (.aload_n 0, 1) := by decide +kernel
theorem dL_law_289 : decode cL_law 289 = .ok (.iload_n 3, 1) := by decide +kernel
theorem dL_law_290 : decode cL_law 290 = .ok (.iconst 1, 1) := by decide +kernel
theorem dL_law_291 : decode cL_law 291 = .ok (.iadd, 1) := by decide +kernel
theorem dL_law_292 : decode cL_law 292 = .ok (.iaload, 1) := by decide +kernel
theorem dL_law_293 : decode cL_law 293 = .ok (.invokevirtual 44, 3) := by decide +kernel
theorem dL_law_296 : decode cL_law 296 = .ok (.aload_n 2, 1) := by decide +kernel
theorem dL_law_297 : decode cL_law 297 = .ok (.aload_n 0, 1) := by decide +kernel
theorem dL_law_298 : decode cL_law 298 = .ok (.iload_n 3, 1) := by decide +kernel
theorem dL_law_299 : decode cL_law 299 = .ok (.iconst 1, 1) := by decide +kernel
theorem dL_law_300 : decode cL_law 300 = .ok (.iadd, 1) := by decide +kernel
theorem dL_law_301 : decode cL_law 301 = .ok (.iaload, 1) := by decide +kernel
theorem dL_law_302 : decode cL_law 302 = .ok (.invokevirtual 47, 3) := by decide +kernel
theorem dL_law_305 : decode cL_law 305 = .ok (.if_icmp .eq 408, 3) := by decide +kernel
theorem dL_law_308 : decode cL_law 308 = .ok (.iconst 0, 1) := by decide +kernel
theorem dL_law_309 : decode cL_law 309 = .ok (.ireturn, 1) := by decide +kernel
theorem dL_law_310 : decode cL_law 310 = .ok (.aload_n 1, 1) := by decide +kernel
theorem dL_law_311 : decode cL_law 311 = .ok (.invokevirtual 48, 3) := by decide +kernel
theorem dL_law_314 : decode cL_law 314 = .ok (.aload_n 2, 1) := by decide +kernel
theorem dL_law_315 : decode cL_law 315 = .ok (.invokevirtual 51, 3) := by decide +kernel
theorem dL_law_318 : decode cL_law 318 = .ok (.if_icmp .eq 395, 3) := by decide +kernel
theorem dL_law_321 : decode cL_law 321 = .ok (.iconst 0, 1) := by decide +kernel
theorem dL_law_322 : decode cL_law 322 = .ok (.ireturn, 1) := by decide +kernel
theorem dL_law_323 : decode cL_law 323 = .ok (.aload_n 1, 1) := by decide +kernel
theorem dL_law_324 : decode cL_law 324 = .ok (.aload_n 0, 1) := by decide +kernel
theorem dL_law_325 : decode cL_law 325 = .ok (.iload_n 3, 1) := by decide +kernel
theorem dL_law_326 : decode cL_law 326 = .ok (.iconst 1, 1) := by decide +kernel
theorem dL_law_327 : decode cL_law 327 = .ok (.iadd, 1) := by decide +kernel
theorem dL_law_328 : decode cL_law 328 = .ok (.iaload, 1) := by decide +kernel
theorem dL_law_329 : decode cL_law 329 = .ok (.aload_n 0, 1) := by decide +kernel
theorem dL_law_330 : decode cL_law 330 = .ok (.iload_n 3, 1) := by decide +kernel
theorem dL_law_331 : decode cL_law 331 = .ok (.iconst 2, 1) := by decide +kernel
theorem dL_law_332 : decode cL_law 332 = .ok (.iadd, 1) := by decide +kernel
theorem dL_law_333 : decode cL_law 333 = .ok (.iaload, 1) := by decide +kernel
theorem dL_law_334 : decode cL_law 334 = .ok (.aload_n 0, 1) := by decide +kernel
theorem dL_law_335 : decode cL_law 335 = .ok (.iload_n 3, 1) := by decide +kernel
theorem dL_law_336 : decode cL_law 336 = .ok (.iconst 3, 1) := by decide +kernel
theorem dL_law_337 : decode cL_law 337 = .ok (.iadd, 1) := by decide +kernel
theorem dL_law_338 : decode cL_law 338 = .ok (.iaload, 1) := by decide +kernel
theorem dL_law_339 : decode cL_law 339 = .ok (.invokevirtual 52, 3) := by decide +kernel
theorem dL_law_342 : decode cL_law 342 = .ok (.aload_n 2, 1) := by decide +kernel
theorem dL_law_343 : decode cL_law 343 = .ok (.aload_n 0, 1) := by decide +kernel
theorem dL_law_344 : decode cL_law 344 = .ok (.iload_n 3, 1) := by decide +kernel
theorem dL_law_345 : decode cL_law 345 = .ok (.iconst 1, 1) := by decide +kernel
theorem dL_law_346 : decode cL_law 346 = .ok (.iadd, 1) := by decide +kernel
theorem dL_law_347 : decode cL_law 347 = .ok (.iaload, 1) := by decide +kernel
theorem dL_law_348 : decode cL_law 348 = .ok (.aload_n 0, 1) := by decide +kernel
theorem dL_law_349 : decode cL_law 349 = .ok (.iload_n 3, 1) := by decide +kernel
theorem dL_law_350 : decode cL_law 350 = .ok (.iconst 2, 1) := by decide +kernel
theorem dL_law_351 : decode cL_law 351 = .ok (.iadd, 1) := by decide +kernel
theorem dL_law_352 : decode cL_law 352 = .ok (.iaload, 1) := by decide +kernel
theorem dL_law_353 : decode cL_law 353 = .ok (.aload_n 0, 1) := by decide +kernel
theorem dL_law_354 : decode cL_law 354 = .ok (.iload_n 3, 1) := by decide +kernel
theorem dL_law_355 : decode cL_law 355 = .ok (.iconst 3, 1) := by decide +kernel
theorem dL_law_356 : decode cL_law 356 = .ok (.iadd, 1) := by decide +kernel
theorem dL_law_357 : decode cL_law 357 = .ok (.iaload, 1) := by decide +kernel
theorem dL_law_358 : decode cL_law 358 = .ok (.invokevirtual 56, 3) := by decide +kernel
theorem dL_law_361 : decode cL_law 361 = .ok (.if_icmp .eq 352, 3) := by decide +kernel
theorem dL_law_364 : decode cL_law 364 = .ok (.iconst 0, 1) := by decide +kernel
theorem dL_law_365 : decode cL_law 365 = .ok (.ireturn, 1) := by decide +kernel
theorem dL_law_366 : decode cL_law 366 = .ok (.aload_n 1, 1) := by decide +kernel
theorem dL_law_367 : decode cL_law 367 = .ok (.aload_n 0, 1) := by decide +kernel
theorem dL_law_368 : decode cL_law 368 = .ok (.iload_n 3, 1) := by decide +kernel
theorem dL_law_369 : decode cL_law 369 = .ok (.iconst 1, 1) := by decide +kernel
theorem dL_law_370 : decode cL_law 370 = .ok (.iadd, 1) := by decide +kernel
theorem dL_law_371 : decode cL_law 371 = .ok (.iaload, 1) := by decide +kernel
theorem dL_law_372 : decode cL_law 372 = .ok (.aload_n 0, 1) := by decide +kernel
theorem dL_law_373 : decode cL_law 373 = .ok (.iload_n 3, 1) := by decide +kernel
theorem dL_law_374 : decode cL_law 374 = .ok (.iconst 2, 1) := by decide +kernel
theorem dL_law_375 : decode cL_law 375 = .ok (.iadd, 1) := by decide +kernel
theorem dL_law_376 : decode cL_law 376 = .ok (.iaload, 1) := by decide +kernel
theorem dL_law_377 : decode cL_law 377 = .ok (.aload_n 0, 1) := by decide +kernel
theorem dL_law_378 : decode cL_law 378 = .ok (.iload_n 3, 1) := by decide +kernel
theorem dL_law_379 : decode cL_law 379 = .ok (.iconst 3, 1) := by decide +kernel
theorem dL_law_380 : decode cL_law 380 = .ok (.iadd, 1) := by decide +kernel
theorem dL_law_381 : decode cL_law 381 = .ok (.iaload, 1) := by decide +kernel
theorem dL_law_382 : decode cL_law 382 = .ok (.invokevirtual 57, 3) := by decide +kernel
theorem dL_law_385 : decode cL_law 385 = .ok (.aload_n 2, 1) := by decide +kernel
theorem dL_law_386 : decode cL_law 386 = .ok (.aload_n 0, 1) := by decide +kernel
theorem dL_law_387 : decode cL_law 387 = .ok (.iload_n 3, 1) := by decide +kernel
theorem dL_law_388 : decode cL_law 388 = .ok (.iconst 1, 1) := by decide +kernel
theorem dL_law_389 : decode cL_law 389 = .ok (.iadd, 1) := by decide +kernel
theorem dL_law_390 : decode cL_law 390 = .ok (.iaload, 1) := by decide +kernel
theorem dL_law_391 : decode cL_law 391 = .ok (.aload_n 0, 1) := by decide +kernel
theorem dL_law_392 : decode cL_law 392 = .ok (.iload_n 3, 1) := by decide +kernel
theorem dL_law_393 : decode cL_law 393 = .ok (.iconst 2, 1) := by decide +kernel
theorem dL_law_394 : decode cL_law 394 = .ok (.iadd, 1) := by decide +kernel
theorem dL_law_395 : decode cL_law 395 = .ok (.iaload, 1) := by decide +kernel
theorem dL_law_396 : decode cL_law 396 = .ok (.aload_n 0, 1) := by decide +kernel
theorem dL_law_397 : decode cL_law 397 = .ok (.iload_n 3, 1) := by decide +kernel
theorem dL_law_398 : decode cL_law 398 = .ok (.iconst 3, 1) := by decide +kernel
theorem dL_law_399 : decode cL_law 399 = .ok (.iadd, 1) := by decide +kernel
theorem dL_law_400 : decode cL_law 400 = .ok (.iaload, 1) := by decide +kernel
theorem dL_law_401 : decode cL_law 401 = .ok (.invokevirtual 60, 3) := by decide +kernel
theorem dL_law_404 : decode cL_law 404 = .ok (.if_icmp .eq 309, 3) := by decide +kernel
theorem dL_law_407 : decode cL_law 407 = .ok (.iconst 0, 1) := by decide +kernel
theorem dL_law_408 : decode cL_law 408 = .ok (.ireturn, 1) := by decide +kernel
theorem dL_law_409 : decode cL_law 409 = .ok (.aload_n 1, 1) := by decide +kernel
theorem dL_law_410 : decode cL_law 410 = .ok (.aload_n 0, 1) := by decide +kernel
theorem dL_law_411 : decode cL_law 411 = .ok (.iload_n 3, 1) := by decide +kernel
theorem dL_law_412 : decode cL_law 412 = .ok (.iconst 1, 1) := by decide +kernel
theorem dL_law_413 : decode cL_law 413 = .ok (.iadd, 1) := by decide +kernel
theorem dL_law_414 : decode cL_law 414 = .ok (.iaload, 1) := by decide +kernel
theorem dL_law_415 : decode cL_law 415 = .ok (.aload_n 0, 1) := by decide +kernel
theorem dL_law_416 : decode cL_law 416 = .ok (.iload_n 3, 1) := by decide +kernel
theorem dL_law_417 : decode cL_law 417 = .ok (.iconst 2, 1) := by decide +kernel
theorem dL_law_418 : decode cL_law 418 = .ok (.iadd, 1) := by decide +kernel
theorem dL_law_419 : decode cL_law 419 = .ok (.iaload, 1) := by decide +kernel
theorem dL_law_420 : decode cL_law 420 = .ok (.invokevirtual 61, 3) := by decide +kernel
theorem dL_law_423 : decode cL_law 423 = .ok (.aload_n 2, 1) := by decide +kernel
theorem dL_law_424 : decode cL_law 424 = .ok (.aload_n 0, 1) := by decide +kernel
theorem dL_law_425 : decode cL_law 425 = .ok (.iload_n 3, 1) := by decide +kernel
theorem dL_law_426 : decode cL_law 426 = .ok (.iconst 1, 1) := by decide +kernel
theorem dL_law_427 : decode cL_law 427 = .ok (.iadd, 1) := by decide +kernel
theorem dL_law_428 : decode cL_law 428 = .ok (.iaload, 1) := by decide +kernel
theorem dL_law_429 : decode cL_law 429 = .ok (.aload_n 0, 1) := by decide +kernel
theorem dL_law_430 : decode cL_law 430 = .ok (.iload_n 3, 1) := by decide +kernel
theorem dL_law_431 : decode cL_law 431 = .ok (.iconst 2, 1) := by decide +kernel
theorem dL_law_432 : decode cL_law 432 = .ok (.iadd, 1) := by decide +kernel
theorem dL_law_433 : decode cL_law 433 = .ok (.iaload, 1) := by decide +kernel
theorem dL_law_434 : decode cL_law 434 = .ok (.invokevirtual 64, 3) := by decide +kernel
theorem dL_law_437 : decode cL_law 437 = .ok (.if_icmp .eq 276, 3) := by decide +kernel
theorem dL_law_440 : decode cL_law 440 = .ok (.iconst 0, 1) := by decide +kernel
theorem dL_law_441 : decode cL_law 441 = .ok (.ireturn, 1) := by decide +kernel
theorem dL_law_442 : decode cL_law 442 = .ok (.aload_n 1, 1) := by decide +kernel
theorem dL_law_443 : decode cL_law 443 = .ok (.aload_n 0, 1) := by decide +kernel
theorem dL_law_444 : decode cL_law 444 = .ok (.iload_n 3, 1) := by decide +kernel
theorem dL_law_445 : decode cL_law 445 = .ok (.iconst 1, 1) := by decide +kernel
theorem dL_law_446 : decode cL_law 446 = .ok (.iadd, 1) := by decide +kernel
theorem dL_law_447 : decode cL_law 447 = .ok (.iaload, 1) := by decide +kernel
theorem dL_law_448 : decode cL_law 448 = .ok (.aload_n 0, 1) := by decide +kernel
theorem dL_law_449 : decode cL_law 449 = .ok (.iload_n 3, 1) := by decide +kernel
theorem dL_law_450 : decode cL_law 450 = .ok (.iconst 2, 1) := by decide +kernel
theorem dL_law_451 : decode cL_law 451 = .ok (.iadd, 1) := by decide +kernel
theorem dL_law_452 : decode cL_law 452 = .ok (.iaload, 1) := by decide +kernel
theorem dL_law_453 : decode cL_law 453 = .ok (.invokevirtual 65, 3) := by decide +kernel
theorem dL_law_456 : decode cL_law 456 = .ok (.aload_n 2, 1) := by decide +kernel
theorem dL_law_457 : decode cL_law 457 = .ok (.aload_n 0, 1) := by decide +kernel
theorem dL_law_458 : decode cL_law 458 = .ok (.iload_n 3, 1) := by decide +kernel
theorem dL_law_459 : decode cL_law 459 = .ok (.iconst 1, 1) := by decide +kernel
theorem dL_law_460 : decode cL_law 460 = .ok (.iadd, 1) := by decide +kernel
theorem dL_law_461 : decode cL_law 461 = .ok (.iaload, 1) := by decide +kernel
theorem dL_law_462 : decode cL_law 462 = .ok (.aload_n 0, 1) := by decide +kernel
theorem dL_law_463 : decode cL_law 463 = .ok (.iload_n 3, 1) := by decide +kernel
theorem dL_law_464 : decode cL_law 464 = .ok (.iconst 2, 1) := by decide +kernel
theorem dL_law_465 : decode cL_law 465 = .ok (.iadd, 1) := by decide +kernel
theorem dL_law_466 : decode cL_law 466 = .ok (.iaload, 1) := by decide +kernel
theorem dL_law_467 : decode cL_law 467 = .ok (.invokevirtual 68, 3) := by decide +kernel
theorem dL_law_470 : decode cL_law 470 = .ok (.if_icmp .eq 243, 3) := by decide +kernel
theorem dL_law_473 : decode cL_law 473 = .ok (.iconst 0, 1) := by decide +kernel
theorem dL_law_474 : decode cL_law 474 = .ok (.ireturn, 1) := by decide +kernel
theorem dL_law_475 : decode cL_law 475 = .ok (.aload_n 1, 1) := by decide +kernel
theorem dL_law_476 : decode cL_law 476 = .ok (.aload_n 0, 1) := by decide +kernel
theorem dL_law_477 : decode cL_law 477 = .ok (.iload_n 3, 1) := by decide +kernel
theorem dL_law_478 : decode cL_law 478 = .ok (.iconst 1, 1) := by decide +kernel
theorem dL_law_479 : decode cL_law 479 = .ok (.iadd, 1) := by decide +kernel
theorem dL_law_480 : decode cL_law 480 = .ok (.iaload, 1) := by decide +kernel
theorem dL_law_481 : decode cL_law 481 = .ok (.aload_n 0, 1) := by decide +kernel
theorem dL_law_482 : decode cL_law 482 = .ok (.iload_n 3, 1) := by decide +kernel
theorem dL_law_483 : decode cL_law 483 = .ok (.iconst 2, 1) := by decide +kernel
theorem dL_law_484 : decode cL_law 484 = .ok (.iadd, 1) := by decide +kernel
theorem dL_law_485 : decode cL_law 485 = .ok (.iaload, 1) := by decide +kernel
theorem dL_law_486 : decode cL_law 486 = .ok (.aload_n 0, 1) := by decide +kernel
theorem dL_law_487 : decode cL_law 487 = .ok (.iload_n 3, 1) := by decide +kernel
theorem dL_law_488 : decode cL_law 488 = .ok (.iconst 3, 1) := by decide +kernel
theorem dL_law_489 : decode cL_law 489 = .ok (.iadd, 1) := by decide +kernel
theorem dL_law_490 : decode cL_law 490 = .ok (.iaload, 1) := by decide +kernel
theorem dL_law_491 : decode cL_law 491 = .ok (.aload_n 0, 1) := by decide +kernel
theorem dL_law_492 : decode cL_law 492 = .ok (.iload_n 3, 1) := by decide +kernel
theorem dL_law_493 : decode cL_law 493 = .ok (.iconst 4, 1) := by decide +kernel
theorem dL_law_494 : decode cL_law 494 = .ok (.iadd, 1) := by decide +kernel
theorem dL_law_495 : decode cL_law 495 = .ok (.iaload, 1) := by decide +kernel
theorem dL_law_496 : decode cL_law 496 = .ok (.invokevirtual 69, 3) := by decide +kernel
theorem dL_law_499 : decode cL_law 499 = .ok (.aload_n 2, 1) := by decide +kernel
theorem dL_law_500 : decode cL_law 500 = .ok (.aload_n 0, 1) := by decide +kernel
theorem dL_law_501 : decode cL_law 501 = .ok (.iload_n 3, 1) := by decide +kernel
theorem dL_law_502 : decode cL_law 502 = .ok (.iconst 1, 1) := by decide +kernel
theorem dL_law_503 : decode cL_law 503 = .ok (.iadd, 1) := by decide +kernel
theorem dL_law_504 : decode cL_law 504 = .ok (.iaload, 1) := by decide +kernel
theorem dL_law_505 : decode cL_law 505 = .ok (.aload_n 0, 1) := by decide +kernel
theorem dL_law_506 : decode cL_law 506 = .ok (.iload_n 3, 1) := by decide +kernel
theorem dL_law_507 : decode cL_law 507 = .ok (.iconst 2, 1) := by decide +kernel
theorem dL_law_508 : decode cL_law 508 = .ok (.iadd, 1) := by decide +kernel
theorem dL_law_509 : decode cL_law 509 = .ok (.iaload, 1) := by decide +kernel
theorem dL_law_510 : decode cL_law 510 = .ok (.aload_n 0, 1) := by decide +kernel
theorem dL_law_511 : decode cL_law 511 = .ok (.iload_n 3, 1) := by decide +kernel
theorem dL_law_512 : decode cL_law 512 = .ok (.iconst 3, 1) := by decide +kernel
theorem dL_law_513 : decode cL_law 513 = .ok (.iadd, 1) := by decide +kernel
theorem dL_law_514 : decode cL_law 514 = .ok (.iaload, 1) := by decide +kernel
theorem dL_law_515 : decode cL_law 515 = .ok (.aload_n 0, 1) := by decide +kernel
theorem dL_law_516 : decode cL_law 516 = .ok (.iload_n 3, 1) := by decide +kernel
theorem dL_law_517 : decode cL_law 517 = .ok (.iconst 4, 1) := by decide +kernel
theorem dL_law_518 : decode cL_law 518 = .ok (.iadd, 1) := by decide +kernel
theorem dL_law_519 : decode cL_law 519 = .ok (.iaload, 1) := by decide +kernel
theorem dL_law_520 : decode cL_law 520 = .ok (.invokevirtual 73, 3) := by decide +kernel
theorem dL_law_523 : decode cL_law 523 = .ok (.if_icmp .eq 190, 3) := by decide +kernel
theorem dL_law_526 : decode cL_law 526 = .ok (.iconst 0, 1) := by decide +kernel
theorem dL_law_527 : decode cL_law 527 = .ok (.ireturn, 1) := by decide +kernel
theorem dL_law_528 : decode cL_law 528 = .ok (.aload_n 1, 1) := by decide +kernel
theorem dL_law_529 : decode cL_law 529 = .ok (.aload_n 0, 1) := by decide +kernel
theorem dL_law_530 : decode cL_law 530 = .ok (.iload_n 3, 1) := by decide +kernel
theorem dL_law_531 : decode cL_law 531 = .ok (.iconst 1, 1) := by decide +kernel
theorem dL_law_532 : decode cL_law 532 = .ok (.iadd, 1) := by decide +kernel
theorem dL_law_533 : decode cL_law 533 = .ok (.iaload, 1) := by decide +kernel
theorem dL_law_534 : decode cL_law 534 = .ok (.aload_n 0, 1) := by decide +kernel
theorem dL_law_535 : decode cL_law 535 = .ok (.iload_n 3, 1) := by decide +kernel
theorem dL_law_536 : decode cL_law 536 = .ok (.iconst 2, 1) := by decide +kernel
theorem dL_law_537 : decode cL_law 537 = .ok (.iadd, 1) := by decide +kernel
theorem dL_law_538 : decode cL_law 538 = .ok (.iaload, 1) := by decide +kernel
theorem dL_law_539 : decode cL_law 539 = .ok (.aload_n 0, 1) := by decide +kernel
theorem dL_law_540 : decode cL_law 540 = .ok (.iload_n 3, 1) := by decide +kernel
theorem dL_law_541 : decode cL_law 541 = .ok (.iconst 3, 1) := by decide +kernel
theorem dL_law_542 : decode cL_law 542 = .ok (.iadd, 1) := by decide +kernel
theorem dL_law_543 : decode cL_law 543 = .ok (.iaload, 1) := by decide +kernel
theorem dL_law_544 : decode cL_law 544 = .ok (.aload_n 0, 1) := by decide +kernel
theorem dL_law_545 : decode cL_law 545 = .ok (.iload_n 3, 1) := by decide +kernel
theorem dL_law_546 : decode cL_law 546 = .ok (.iconst 4, 1) := by decide +kernel
theorem dL_law_547 : decode cL_law 547 = .ok (.iadd, 1) := by decide +kernel
theorem dL_law_548 : decode cL_law 548 = .ok (.iaload, 1) := by decide +kernel
theorem dL_law_549 : decode cL_law 549 = .ok (.aload_n 0, 1) := by decide +kernel
theorem dL_law_550 : decode cL_law 550 = .ok (.iload_n 3, 1) := by decide +kernel
theorem dL_law_551 : decode cL_law 551 = .ok (.iconst 5, 1) := by decide +kernel
theorem dL_law_552 : decode cL_law 552 = .ok (.iadd, 1) := by decide +kernel
theorem dL_law_553 : decode cL_law 553 = .ok (.iaload, 1) := by decide +kernel
theorem dL_law_554 : decode cL_law 554 = .ok (.aload_n 0, 1) := by decide +kernel
theorem dL_law_555 : decode cL_law 555 = .ok (.iload_n 3, 1) := by decide +kernel
theorem dL_law_556 : decode cL_law 556 = .ok (.bipush 6, 2) := by decide +kernel
theorem dL_law_558 : decode cL_law 558 = .ok (.iadd, 1) := by decide +kernel
theorem dL_law_559 : decode cL_law 559 = .ok (.iaload, 1) := by decide +kernel
theorem dL_law_560 : decode cL_law 560 = .ok (.invokevirtual 74, 3) := by decide +kernel
theorem dL_law_563 : decode cL_law 563 = .ok (.aload_n 2, 1) := by decide +kernel
theorem dL_law_564 : decode cL_law 564 = .ok (.aload_n 0, 1) := by decide +kernel
theorem dL_law_565 : decode cL_law 565 = .ok (.iload_n 3, 1) := by decide +kernel
theorem dL_law_566 : decode cL_law 566 = .ok (.iconst 1, 1) := by decide +kernel
theorem dL_law_567 : decode cL_law 567 = .ok (.iadd, 1) := by decide +kernel
theorem dL_law_568 : decode cL_law 568 = .ok (.iaload, 1) := by decide +kernel
theorem dL_law_569 : decode cL_law 569 = .ok (.aload_n 0, 1) := by decide +kernel
theorem dL_law_570 : decode cL_law 570 = .ok (.iload_n 3, 1) := by decide +kernel
theorem dL_law_571 : decode cL_law 571 = .ok (.iconst 2, 1) := by decide +kernel
theorem dL_law_572 : decode cL_law 572 = .ok (.iadd, 1) := by decide +kernel
theorem dL_law_573 : decode cL_law 573 = .ok (.iaload, 1) := by decide +kernel
theorem dL_law_574 : decode cL_law 574 = .ok (.aload_n 0, 1) := by decide +kernel
theorem dL_law_575 : decode cL_law 575 = .ok (.iload_n 3, 1) := by decide +kernel
theorem dL_law_576 : decode cL_law 576 = .ok (.iconst 3, 1) := by decide +kernel
theorem dL_law_577 : decode cL_law 577 = .ok (.iadd, 1) := by decide +kernel
theorem dL_law_578 : decode cL_law 578 = .ok (.iaload, 1) := by decide +kernel
theorem dL_law_579 : decode cL_law 579 = .ok (.aload_n 0, 1) := by decide +kernel
theorem dL_law_580 : decode cL_law 580 = .ok (.iload_n 3, 1) := by decide +kernel
theorem dL_law_581 : decode cL_law 581 = .ok (.iconst 4, 1) := by decide +kernel
theorem dL_law_582 : decode cL_law 582 = .ok (.iadd, 1) := by decide +kernel
theorem dL_law_583 : decode cL_law 583 = .ok (.iaload, 1) := by decide +kernel
theorem dL_law_584 : decode cL_law 584 = .ok (.aload_n 0, 1) := by decide +kernel
theorem dL_law_585 : decode cL_law 585 = .ok (.iload_n 3, 1) := by decide +kernel
theorem dL_law_586 : decode cL_law 586 = .ok (.iconst 5, 1) := by decide +kernel
theorem dL_law_587 : decode cL_law 587 = .ok (.iadd, 1) := by decide +kernel
theorem dL_law_588 : decode cL_law 588 = .ok (.iaload, 1) := by decide +kernel
theorem dL_law_589 : decode cL_law 589 = .ok (.aload_n 0, 1) := by decide +kernel
theorem dL_law_590 : decode cL_law 590 = .ok (.iload_n 3, 1) := by decide +kernel
theorem dL_law_591 : decode cL_law 591 = .ok (.bipush 6, 2) := by decide +kernel
theorem dL_law_593 : decode cL_law 593 = .ok (.iadd, 1) := by decide +kernel
theorem dL_law_594 : decode cL_law 594 = .ok (.iaload, 1) := by decide +kernel
theorem dL_law_595 : decode cL_law 595 = .ok (.invokevirtual 78, 3) := by decide +kernel
theorem dL_law_598 : decode cL_law 598 = .ok (.if_icmp .eq 115, 3) := by decide +kernel
theorem dL_law_601 : decode cL_law 601 = .ok (.iconst 0, 1) := by decide +kernel
theorem dL_law_602 : decode cL_law 602 = .ok (.ireturn, 1) := by decide +kernel
theorem dL_law_603 : decode cL_law 603 = .ok (.aload_n 1, 1) := by decide +kernel
theorem dL_law_604 : decode cL_law 604 = .ok (.aload_n 0, 1) := by decide +kernel
theorem dL_law_605 : decode cL_law 605 = .ok (.iload_n 3, 1) := by decide +kernel
theorem dL_law_606 : decode cL_law 606 = .ok (.iconst 1, 1) := by decide +kernel
theorem dL_law_607 : decode cL_law 607 = .ok (.iadd, 1) := by decide +kernel
theorem dL_law_608 : decode cL_law 608 = .ok (.iaload, 1) := by decide +kernel
theorem dL_law_609 : decode cL_law 609 = .ok (.aload_n 0, 1) := by decide +kernel
theorem dL_law_610 : decode cL_law 610 = .ok (.iload_n 3, 1) := by decide +kernel
theorem dL_law_611 : decode cL_law 611 = .ok (.iconst 2, 1) := by decide +kernel
theorem dL_law_612 : decode cL_law 612 = .ok (.iadd, 1) := by decide +kernel
theorem dL_law_613 : decode cL_law 613 = .ok (.iaload, 1) := by decide +kernel
theorem dL_law_614 : decode cL_law 614 = .ok (.aload_n 0, 1) := by decide +kernel
theorem dL_law_615 : decode cL_law 615 = .ok (.iload_n 3, 1) := by decide +kernel
theorem dL_law_616 : decode cL_law 616 = .ok (.iconst 3, 1) := by decide +kernel
theorem dL_law_617 : decode cL_law 617 = .ok (.iadd, 1) := by decide +kernel
theorem dL_law_618 : decode cL_law 618 = .ok (.iaload, 1) := by decide +kernel
theorem dL_law_619 : decode cL_law 619 = .ok (.aload_n 0, 1) := by decide +kernel
theorem dL_law_620 : decode cL_law 620 = .ok (.iload_n 3, 1) := by decide +kernel
theorem dL_law_621 : decode cL_law 621 = .ok (.iconst 4, 1) := by decide +kernel
theorem dL_law_622 : decode cL_law 622 = .ok (.iadd, 1) := by decide +kernel
theorem dL_law_623 : decode cL_law 623 = .ok (.iaload, 1) := by decide +kernel
theorem dL_law_624 : decode cL_law 624 = .ok (.aload_n 0, 1) := by decide +kernel
theorem dL_law_625 : decode cL_law 625 = .ok (.iload_n 3, 1) := by decide +kernel
theorem dL_law_626 : decode cL_law 626 = .ok (.iconst 5, 1) := by decide +kernel
theorem dL_law_627 : decode cL_law 627 = .ok (.iadd, 1) := by decide +kernel
theorem dL_law_628 : decode cL_law 628 = .ok (.iaload, 1) := by decide +kernel
theorem dL_law_629 : decode cL_law 629 = .ok (.aload_n 0, 1) := by decide +kernel
theorem dL_law_630 : decode cL_law 630 = .ok (.iload_n 3, 1) := by decide +kernel
theorem dL_law_631 : decode cL_law 631 = .ok (.bipush 6, 2) := by decide +kernel
theorem dL_law_633 : decode cL_law 633 = .ok (.iadd, 1) := by decide +kernel
theorem dL_law_634 : decode cL_law 634 = .ok (.iaload, 1) := by decide +kernel
theorem dL_law_635 : decode cL_law 635 = .ok (.aload_n 0, 1) := by decide +kernel
theorem dL_law_636 : decode cL_law 636 = .ok (.iload_n 3, 1) := by decide +kernel
theorem dL_law_637 : decode cL_law 637 = .ok (.bipush 7, 2) := by decide +kernel
theorem dL_law_639 : decode cL_law 639 = .ok (.iadd, 1) := by decide +kernel
theorem dL_law_640 : decode cL_law 640 = .ok (.iaload, 1) := by decide +kernel
theorem dL_law_641 : decode cL_law 641 = .ok (.invokevirtual 79, 3) := by decide +kernel
theorem dL_law_644 : decode cL_law 644 = .ok (.aload_n 2, 1) := by decide +kernel
theorem dL_law_645 : decode cL_law 645 = .ok (.aload_n 0, 1) := by decide +kernel
theorem dL_law_646 : decode cL_law 646 = .ok (.iload_n 3, 1) := by decide +kernel
theorem dL_law_647 : decode cL_law 647 = .ok (.iconst 1, 1) := by decide +kernel
theorem dL_law_648 : decode cL_law 648 = .ok (.iadd, 1) := by decide +kernel
theorem dL_law_649 : decode cL_law 649 = .ok (.iaload, 1) := by decide +kernel
theorem dL_law_650 : decode cL_law 650 = .ok (.aload_n 0, 1) := by decide +kernel
theorem dL_law_651 : decode cL_law 651 = .ok (.iload_n 3, 1) := by decide +kernel
theorem dL_law_652 : decode cL_law 652 = .ok (.iconst 2, 1) := by decide +kernel
theorem dL_law_653 : decode cL_law 653 = .ok (.iadd, 1) := by decide +kernel
theorem dL_law_654 : decode cL_law 654 = .ok (.iaload, 1) := by decide +kernel
theorem dL_law_655 : decode cL_law 655 = .ok (.aload_n 0, 1) := by decide +kernel
theorem dL_law_656 : decode cL_law 656 = .ok (.iload_n 3, 1) := by decide +kernel
theorem dL_law_657 : decode cL_law 657 = .ok (.iconst 3, 1) := by decide +kernel
theorem dL_law_658 : decode cL_law 658 = .ok (.iadd, 1) := by decide +kernel
theorem dL_law_659 : decode cL_law 659 = .ok (.iaload, 1) := by decide +kernel
theorem dL_law_660 : decode cL_law 660 = .ok (.aload_n 0, 1) := by decide +kernel
theorem dL_law_661 : decode cL_law 661 = .ok (.iload_n 3, 1) := by decide +kernel
theorem dL_law_662 : decode cL_law 662 = .ok (.iconst 4, 1) := by decide +kernel
theorem dL_law_663 : decode cL_law 663 = .ok (.iadd, 1) := by decide +kernel
theorem dL_law_664 : decode cL_law 664 = .ok (.iaload, 1) := by decide +kernel
theorem dL_law_665 : decode cL_law 665 = .ok (.aload_n 0, 1) := by decide +kernel
theorem dL_law_666 : decode cL_law 666 = .ok (.iload_n 3, 1) := by decide +kernel
theorem dL_law_667 : decode cL_law 667 = .ok (.iconst 5, 1) := by decide +kernel
theorem dL_law_668 : decode cL_law 668 = .ok (.iadd, 1) := by decide +kernel
theorem dL_law_669 : decode cL_law 669 = .ok (.iaload, 1) := by decide +kernel
theorem dL_law_670 : decode cL_law 670 = .ok (.aload_n 0, 1) := by decide +kernel
theorem dL_law_671 : decode cL_law 671 = .ok (.iload_n 3, 1) := by decide +kernel
theorem dL_law_672 : decode cL_law 672 = .ok (.bipush 6, 2) := by decide +kernel
theorem dL_law_674 : decode cL_law 674 = .ok (.iadd, 1) := by decide +kernel
theorem dL_law_675 : decode cL_law 675 = .ok (.iaload, 1) := by decide +kernel
theorem dL_law_676 : decode cL_law 676 = .ok (.aload_n 0, 1) := by decide +kernel
theorem dL_law_677 : decode cL_law 677 = .ok (.iload_n 3, 1) := by decide +kernel
theorem dL_law_678 : decode cL_law 678 = .ok (.bipush 7, 2) := by decide +kernel
theorem dL_law_680 : decode cL_law 680 = .ok (.iadd, 1) := by decide +kernel
theorem dL_law_681 : decode cL_law 681 = .ok (.iaload, 1) := by decide +kernel
theorem dL_law_682 : decode cL_law 682 = .ok (.invokevirtual 83, 3) := by decide +kernel
theorem dL_law_685 : decode cL_law 685 = .ok (.if_icmp .eq 28, 3) := by decide +kernel
theorem dL_law_688 : decode cL_law 688 = .ok (.iconst 0, 1) := by decide +kernel
theorem dL_law_689 : decode cL_law 689 = .ok (.ireturn, 1) := by decide +kernel
theorem dL_law_690 : decode cL_law 690 = .ok (.aload_n 1, 1) := by decide +kernel
theorem dL_law_691 : decode cL_law 691 = .ok (.aload_n 0, 1) := by decide +kernel
theorem dL_law_692 : decode cL_law 692 = .ok (.iload_n 3, 1) := by decide +kernel
theorem dL_law_693 : decode cL_law 693 = .ok (.iconst 1, 1) := by decide +kernel
theorem dL_law_694 : decode cL_law 694 = .ok (.iadd, 1) := by decide +kernel
theorem dL_law_695 : decode cL_law 695 = .ok (.iaload, 1) := by decide +kernel
theorem dL_law_696 : decode cL_law 696 = .ok (.invokevirtual 84, 3) := by decide +kernel
theorem dL_law_699 : decode cL_law 699 = .ok (.aload_n 2, 1) := by decide +kernel
theorem dL_law_700 : decode cL_law 700 = .ok (.aload_n 0, 1) := by decide +kernel
theorem dL_law_701 : decode cL_law 701 = .ok (.iload_n 3, 1) := by decide +kernel
theorem dL_law_702 : decode cL_law 702 = .ok (.iconst 1, 1) := by decide +kernel
theorem dL_law_703 : decode cL_law 703 = .ok (.iadd, 1) := by decide +kernel
theorem dL_law_704 : decode cL_law 704 = .ok (.iaload, 1) := by decide +kernel
theorem dL_law_705 : decode cL_law 705 = .ok (.invokevirtual 87, 3) := by decide +kernel
theorem dL_law_708 : decode cL_law 708 = .ok (.if_icmp .eq 5, 3) := by decide +kernel
theorem dL_law_711 : decode cL_law 711 = .ok (.iconst 0, 1) := by decide +kernel
theorem dL_law_712 : decode cL_law 712 = .ok (.ireturn, 1) := by decide +kernel
theorem dL_law_713 : decode cL_law 713 = .ok (.iinc 3 8, 3) := by decide +kernel
theorem dL_law_716 : decode cL_law 716 = .ok (.goto (-698), 3) := by decide +kernel
theorem dL_law_719 : decode cL_law 719 = .ok (.iconst 1, 1) := by decide +kernel
theorem dL_law_720 : decode cL_law 720 = .ok (.ireturn, 1) := by decide +kernel
